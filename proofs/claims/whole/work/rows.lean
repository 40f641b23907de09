section
-- ===== PART A: goes FIRST, ahead of the names: the tables' words, and 'selects' of the private methods out of them =====
/-- a private method of a class that the tables say can be made, by its rows of tables_1 -/
def lw_okq (q : MethodName × Nat) : Prop := (q.1.cls ≠ "java/lang/invoke/MethodHandle" ∧ q.1.cls ≠ "java/lang/invoke/VarHandle") ∧ Cond.instantiable q.1.cls q.2 ∈ tables_1 ∧ Cond.privateMethod q.1 ∈ tables_1 ∧ Cond.instanceMethod q.1 ∈ tables_1
theorem lw_p0 : lw_okq (⟨"RangeReaders", "entryAt", "(I)LRangeReaders$Entry;"⟩, 5) := ⟨⟨by decide +kernel, by decide +kernel⟩, List.mem_of_getElem? (i := 12) (by decide +kernel), List.mem_of_getElem? (i := 87) (by decide +kernel), List.mem_of_getElem? (i := 88) (by decide +kernel)⟩
theorem lw_p1 : lw_okq (⟨"RangeReaders", "release", "(I)V"⟩, 5) := ⟨⟨by decide +kernel, by decide +kernel⟩, List.mem_of_getElem? (i := 12) (by decide +kernel), List.mem_of_getElem? (i := 91) (by decide +kernel), List.mem_of_getElem? (i := 92) (by decide +kernel)⟩
theorem lw_p2 : lw_okq (⟨"java/lang/Throwable", "fillInStackTrace", "(I)Ljava/lang/Throwable;"⟩, 6) := ⟨⟨by decide +kernel, by decide +kernel⟩, List.mem_of_getElem? (i := 157) (by decide +kernel), List.mem_of_getElem? (i := 155) (by decide +kernel), List.mem_of_getElem? (i := 156) (by decide +kernel)⟩
theorem lw_p3 : lw_okq (⟨"RangeReaders", "makeRoom", "()V"⟩, 5) := ⟨⟨by decide +kernel, by decide +kernel⟩, List.mem_of_getElem? (i := 12) (by decide +kernel), List.mem_of_getElem? (i := 205) (by decide +kernel), List.mem_of_getElem? (i := 206) (by decide +kernel)⟩
theorem lw_p4 : lw_okq (⟨"RangeReaders", "lowestFree", "()I"⟩, 5) := ⟨⟨by decide +kernel, by decide +kernel⟩, List.mem_of_getElem? (i := 12) (by decide +kernel), List.mem_of_getElem? (i := 212) (by decide +kernel), List.mem_of_getElem? (i := 213) (by decide +kernel)⟩
theorem lw_p5 : lw_okq (⟨"RangeReaders$Area", "copy", "()LRangeReaders$Area;"⟩, 5) := ⟨⟨by decide +kernel, by decide +kernel⟩, List.mem_of_getElem? (i := 56) (by decide +kernel), List.mem_of_getElem? (i := 217) (by decide +kernel), List.mem_of_getElem? (i := 218) (by decide +kernel)⟩
theorem lw_p6 : lw_okq (⟨"RangeReaders", "findMeeting", "(LRangeReaders$Area;)V"⟩, 5) := ⟨⟨by decide +kernel, by decide +kernel⟩, List.mem_of_getElem? (i := 12) (by decide +kernel), List.mem_of_getElem? (i := 244) (by decide +kernel), List.mem_of_getElem? (i := 245) (by decide +kernel)⟩
theorem lw_p7 : lw_okq (⟨"RangeReaders$Area", "meets", "(LRangeReaders$Area;)Z"⟩, 5) := ⟨⟨by decide +kernel, by decide +kernel⟩, List.mem_of_getElem? (i := 56) (by decide +kernel), List.mem_of_getElem? (i := 248) (by decide +kernel), List.mem_of_getElem? (i := 249) (by decide +kernel)⟩
theorem lw_p8 : lw_okq (⟨"RangeReaders$Area", "yieldsTo", "(IZ)Z"⟩, 5) := ⟨⟨by decide +kernel, by decide +kernel⟩, List.mem_of_getElem? (i := 56) (by decide +kernel), List.mem_of_getElem? (i := 270) (by decide +kernel), List.mem_of_getElem? (i := 271) (by decide +kernel)⟩
theorem lw_p9 : lw_okq (⟨"RangeReaders$Area", "first", "(Z)I"⟩, 5) := ⟨⟨by decide +kernel, by decide +kernel⟩, List.mem_of_getElem? (i := 56) (by decide +kernel), List.mem_of_getElem? (i := 274) (by decide +kernel), List.mem_of_getElem? (i := 275) (by decide +kernel)⟩
theorem lw_p10 : lw_okq (⟨"RangeReaders$Area", "last", "(Z)I"⟩, 5) := ⟨⟨by decide +kernel, by decide +kernel⟩, List.mem_of_getElem? (i := 56) (by decide +kernel), List.mem_of_getElem? (i := 278) (by decide +kernel), List.mem_of_getElem? (i := 279) (by decide +kernel)⟩
theorem lw_p11 : lw_okq (⟨"RangeReaders", "putLines", "(IZII)I"⟩, 5) := ⟨⟨by decide +kernel, by decide +kernel⟩, List.mem_of_getElem? (i := 12) (by decide +kernel), List.mem_of_getElem? (i := 285) (by decide +kernel), List.mem_of_getElem? (i := 286) (by decide +kernel)⟩
theorem lw_p12 : lw_okq (⟨"RangeReaders$Area", "setLines", "(ZII)V"⟩, 5) := ⟨⟨by decide +kernel, by decide +kernel⟩, List.mem_of_getElem? (i := 56) (by decide +kernel), List.mem_of_getElem? (i := 289) (by decide +kernel), List.mem_of_getElem? (i := 290) (by decide +kernel)⟩
theorem lw_p13 : lw_okq (⟨"RangeReaders$Area", "shift", "(III)V"⟩, 5) := ⟨⟨by decide +kernel, by decide +kernel⟩, List.mem_of_getElem? (i := 56) (by decide +kernel), List.mem_of_getElem? (i := 311) (by decide +kernel), List.mem_of_getElem? (i := 312) (by decide +kernel)⟩
theorem lw_p14 : lw_okq (⟨"RangeReaders", "carry", "(LRangeReaders$Area;LRangeReaders$Area;)I"⟩, 5) := ⟨⟨by decide +kernel, by decide +kernel⟩, List.mem_of_getElem? (i := 12) (by decide +kernel), List.mem_of_getElem? (i := 316) (by decide +kernel), List.mem_of_getElem? (i := 317) (by decide +kernel)⟩
theorem lw_p15 : lw_okq (⟨"RangeReaders$Area", "liesIn", "(LRangeReaders$Area;)Z"⟩, 5) := ⟨⟨by decide +kernel, by decide +kernel⟩, List.mem_of_getElem? (i := 56) (by decide +kernel), List.mem_of_getElem? (i := 320) (by decide +kernel), List.mem_of_getElem? (i := 321) (by decide +kernel)⟩
def lw_privs_1 : List (MethodName × Nat) := [(⟨"RangeReaders", "entryAt", "(I)LRangeReaders$Entry;"⟩, 5), (⟨"RangeReaders", "release", "(I)V"⟩, 5), (⟨"java/lang/Throwable", "fillInStackTrace", "(I)Ljava/lang/Throwable;"⟩, 6), (⟨"RangeReaders", "makeRoom", "()V"⟩, 5), (⟨"RangeReaders", "lowestFree", "()I"⟩, 5), (⟨"RangeReaders$Area", "copy", "()LRangeReaders$Area;"⟩, 5), (⟨"RangeReaders", "findMeeting", "(LRangeReaders$Area;)V"⟩, 5), (⟨"RangeReaders$Area", "meets", "(LRangeReaders$Area;)Z"⟩, 5), (⟨"RangeReaders$Area", "yieldsTo", "(IZ)Z"⟩, 5), (⟨"RangeReaders$Area", "first", "(Z)I"⟩, 5), (⟨"RangeReaders$Area", "last", "(Z)I"⟩, 5), (⟨"RangeReaders", "putLines", "(IZII)I"⟩, 5), (⟨"RangeReaders$Area", "setLines", "(ZII)V"⟩, 5), (⟨"RangeReaders$Area", "shift", "(III)V"⟩, 5), (⟨"RangeReaders", "carry", "(LRangeReaders$Area;LRangeReaders$Area;)I"⟩, 5), (⟨"RangeReaders$Area", "liesIn", "(LRangeReaders$Area;)Z"⟩, 5)]
theorem lw_r1 : ∀ q ∈ lw_privs_1, lw_okq q := List.forall_mem_cons.mpr ⟨lw_p0, List.forall_mem_cons.mpr ⟨lw_p1, List.forall_mem_cons.mpr ⟨lw_p2, List.forall_mem_cons.mpr ⟨lw_p3, List.forall_mem_cons.mpr ⟨lw_p4, List.forall_mem_cons.mpr ⟨lw_p5, List.forall_mem_cons.mpr ⟨lw_p6, List.forall_mem_cons.mpr ⟨lw_p7, List.forall_mem_cons.mpr ⟨lw_p8, List.forall_mem_cons.mpr ⟨lw_p9, List.forall_mem_cons.mpr ⟨lw_p10, List.forall_mem_cons.mpr ⟨lw_p11, List.forall_mem_cons.mpr ⟨lw_p12, List.forall_mem_cons.mpr ⟨lw_p13, List.forall_mem_cons.mpr ⟨lw_p14, List.forall_mem_cons.mpr ⟨lw_p15, fun _ h => absurd h List.not_mem_nil⟩⟩⟩⟩⟩⟩⟩⟩⟩⟩⟩⟩⟩⟩⟩⟩
theorem lw_p16 : lw_okq (⟨"RangeReadersModel", "isThere", "(I)Z"⟩, 17) := ⟨⟨by decide +kernel, by decide +kernel⟩, List.mem_of_getElem? (i := 324) (by decide +kernel), List.mem_of_getElem? (i := 403) (by decide +kernel), List.mem_of_getElem? (i := 404) (by decide +kernel)⟩
theorem lw_p17 : lw_okq (⟨"RangeReadersModel", "go", "(I)V"⟩, 17) := ⟨⟨by decide +kernel, by decide +kernel⟩, List.mem_of_getElem? (i := 324) (by decide +kernel), List.mem_of_getElem? (i := 407) (by decide +kernel), List.mem_of_getElem? (i := 408) (by decide +kernel)⟩
theorem lw_p18 : lw_okq (⟨"RangeReadersModel", "meetAll", "(IIIII)I"⟩, 17) := ⟨⟨by decide +kernel, by decide +kernel⟩, List.mem_of_getElem? (i := 324) (by decide +kernel), List.mem_of_getElem? (i := 419) (by decide +kernel), List.mem_of_getElem? (i := 420) (by decide +kernel)⟩
theorem lw_p19 : lw_okq (⟨"RangeReadersModel", "meets", "(IIIIII)Z"⟩, 17) := ⟨⟨by decide +kernel, by decide +kernel⟩, List.mem_of_getElem? (i := 324) (by decide +kernel), List.mem_of_getElem? (i := 423) (by decide +kernel), List.mem_of_getElem? (i := 424) (by decide +kernel)⟩
theorem lw_p20 : lw_okq (⟨"RangeReadersModel", "isLine", "(IZII)Z"⟩, 17) := ⟨⟨by decide +kernel, by decide +kernel⟩, List.mem_of_getElem? (i := 324) (by decide +kernel), List.mem_of_getElem? (i := 447) (by decide +kernel), List.mem_of_getElem? (i := 448) (by decide +kernel)⟩
theorem lw_p21 : lw_okq (⟨"RangeReadersModel", "isPart", "(IIZ)Z"⟩, 17) := ⟨⟨by decide +kernel, by decide +kernel⟩, List.mem_of_getElem? (i := 324) (by decide +kernel), List.mem_of_getElem? (i := 454) (by decide +kernel), List.mem_of_getElem? (i := 455) (by decide +kernel)⟩
theorem lw_p22 : lw_okq (⟨"RangeReadersModel", "first", "(IZ)I"⟩, 17) := ⟨⟨by decide +kernel, by decide +kernel⟩, List.mem_of_getElem? (i := 324) (by decide +kernel), List.mem_of_getElem? (i := 458) (by decide +kernel), List.mem_of_getElem? (i := 459) (by decide +kernel)⟩
theorem lw_p23 : lw_okq (⟨"RangeReadersModel", "last", "(IZ)I"⟩, 17) := ⟨⟨by decide +kernel, by decide +kernel⟩, List.mem_of_getElem? (i := 324) (by decide +kernel), List.mem_of_getElem? (i := 462) (by decide +kernel), List.mem_of_getElem? (i := 463) (by decide +kernel)⟩
theorem lw_p24 : lw_okq (⟨"RangeReadersModel", "become", "(IZII)I"⟩, 17) := ⟨⟨by decide +kernel, by decide +kernel⟩, List.mem_of_getElem? (i := 324) (by decide +kernel), List.mem_of_getElem? (i := 466) (by decide +kernel), List.mem_of_getElem? (i := 467) (by decide +kernel)⟩
theorem lw_p25 : lw_okq (⟨"RangeReadersModel", "isIn", "(IIIIII)Z"⟩, 17) := ⟨⟨by decide +kernel, by decide +kernel⟩, List.mem_of_getElem? (i := 324) (by decide +kernel), List.mem_of_getElem? (i := 478) (by decide +kernel), List.mem_of_getElem? (i := 479) (by decide +kernel)⟩
def lw_privs_2 : List (MethodName × Nat) := [(⟨"RangeReadersModel", "isThere", "(I)Z"⟩, 17), (⟨"RangeReadersModel", "go", "(I)V"⟩, 17), (⟨"RangeReadersModel", "meetAll", "(IIIII)I"⟩, 17), (⟨"RangeReadersModel", "meets", "(IIIIII)Z"⟩, 17), (⟨"RangeReadersModel", "isLine", "(IZII)Z"⟩, 17), (⟨"RangeReadersModel", "isPart", "(IIZ)Z"⟩, 17), (⟨"RangeReadersModel", "first", "(IZ)I"⟩, 17), (⟨"RangeReadersModel", "last", "(IZ)I"⟩, 17), (⟨"RangeReadersModel", "become", "(IZII)I"⟩, 17), (⟨"RangeReadersModel", "isIn", "(IIIIII)Z"⟩, 17)]
theorem lw_r2 : ∀ q ∈ lw_privs_2, lw_okq q := List.forall_mem_cons.mpr ⟨lw_p16, List.forall_mem_cons.mpr ⟨lw_p17, List.forall_mem_cons.mpr ⟨lw_p18, List.forall_mem_cons.mpr ⟨lw_p19, List.forall_mem_cons.mpr ⟨lw_p20, List.forall_mem_cons.mpr ⟨lw_p21, List.forall_mem_cons.mpr ⟨lw_p22, List.forall_mem_cons.mpr ⟨lw_p23, List.forall_mem_cons.mpr ⟨lw_p24, List.forall_mem_cons.mpr ⟨lw_p25, fun _ h => absurd h List.not_mem_nil⟩⟩⟩⟩⟩⟩⟩⟩⟩⟩
def lw_privs : List (MethodName × Nat) := lw_privs_1 ++ (lw_privs_2)
def lw_tbl : List Cond := k2_sels lw_privs ++ tables_1
theorem lw_privs_ok : ∀ q ∈ lw_privs, lw_okq q := by
  show ∀ q ∈ lw_privs_1 ++ (lw_privs_2), lw_okq q
  exact List.forall_mem_append.mpr ⟨lw_r1, lw_r2⟩
-- ===== end of PART A; then your names; then what follows =====
end
section
/-! Names, fields, decode rows: by wip/whole/gen/mknames.py out of claim/Statement.lean. -/
def RX0 : String := "RangeReaders$Area"
def TX0 : u_T := fun k => match k with
  | 0 => ("RangeReaders$Area", "sheet", "I", false)
  | 1 => ("RangeReaders$Area", "top", "I", false)
  | 2 => ("RangeReaders$Area", "left", "I", false)
  | 3 => ("RangeReaders$Area", "bottom", "I", false)
  | _ => ("RangeReaders$Area", "right", "I", false)
def tyX0 : Nat → FieldType := fun k => match k with
  | 0 => .int
  | 1 => .int
  | 2 => .int
  | 3 => .int
  | _ => .int
theorem nmX0 : ∀ a, a < 5 → ∀ b, b < 5 → a ≠ b → (TX0 a).2.1 ≠ (TX0 b).2.1 := by decide +kernel
theorem tyX0_ok : ∀ k, k < 5 → parseFieldDescriptor (TX0 k).2.2.1 = some (tyX0 k) := by decide +kernel
def RX1 : String := "RangeReaders$Entry"
def TX1 : u_T := fun k => match k with
  | 0 => ("RangeReaders$Entry", "area", "LRangeReaders$Area;", true)
  | _ => ("RangeReaders$Entry", "owner", "I", true)
def tyX1 : Nat → FieldType := fun k => match k with
  | 0 => .object "RangeReaders$Area"
  | _ => .int
theorem nmX1 : ∀ a, a < 2 → ∀ b, b < 2 → a ≠ b → (TX1 a).2.1 ≠ (TX1 b).2.1 := by decide +kernel
theorem tyX1_ok : ∀ k, k < 2 → parseFieldDescriptor (TX1 k).2.2.1 = some (tyX1 k) := by decide +kernel
def RX2 : String := "RangeReaders"
def TX2 : u_T := fun k => match k with
  | 0 => ("RangeReaders", "next", "LRangeReaders$Area;", false)
  | 1 => ("RangeReaders", "entries", "[LRangeReaders$Entry;", false)
  | 2 => ("RangeReaders", "held", "I", false)
  | 3 => ("RangeReaders", "metNumbers", "[I", false)
  | _ => ("RangeReaders", "metCount", "I", false)
def tyX2 : Nat → FieldType := fun k => match k with
  | 0 => .object "RangeReaders$Area"
  | 1 => .array (.object "RangeReaders$Entry")
  | 2 => .int
  | 3 => .array .int
  | _ => .int
theorem nmX2 : ∀ a, a < 5 → ∀ b, b < 5 → a ≠ b → (TX2 a).2.1 ≠ (TX2 b).2.1 := by decide +kernel
theorem tyX2_ok : ∀ k, k < 5 → parseFieldDescriptor (TX2 k).2.2.1 = some (tyX2 k) := by decide +kernel
def RX3 : String := "RangeReadersModel"
def TX3 : u_T := fun k => match k with
  | 0 => ("RangeReadersModel", "code", "I", false)
  | 1 => ("RangeReadersModel", "there", "[Z", true)
  | 2 => ("RangeReadersModel", "sheets", "[I", true)
  | 3 => ("RangeReadersModel", "tops", "[I", true)
  | 4 => ("RangeReadersModel", "lefts", "[I", true)
  | 5 => ("RangeReadersModel", "bottoms", "[I", true)
  | 6 => ("RangeReadersModel", "rights", "[I", true)
  | 7 => ("RangeReadersModel", "owners", "[I", true)
  | 8 => ("RangeReadersModel", "entries", "I", false)
  | 9 => ("RangeReadersModel", "isRectangle", "Z", false)
  | 10 => ("RangeReadersModel", "sheet", "I", false)
  | 11 => ("RangeReadersModel", "top", "I", false)
  | 12 => ("RangeReadersModel", "left", "I", false)
  | 13 => ("RangeReadersModel", "bottom", "I", false)
  | 14 => ("RangeReadersModel", "right", "I", false)
  | 15 => ("RangeReadersModel", "found", "I", false)
  | _ => ("RangeReadersModel", "met", "[I", true)
def tyX3 : Nat → FieldType := fun k => match k with
  | 0 => .int
  | 1 => .array .boolean
  | 2 => .array .int
  | 3 => .array .int
  | 4 => .array .int
  | 5 => .array .int
  | 6 => .array .int
  | 7 => .array .int
  | 8 => .int
  | 9 => .boolean
  | 10 => .int
  | 11 => .int
  | 12 => .int
  | 13 => .int
  | 14 => .int
  | 15 => .int
  | _ => .array .int
theorem nmX3 : ∀ a, a < 17 → ∀ b, b < 17 → a ≠ b → (TX3 a).2.1 ≠ (TX3 b).2.1 := by decide +kernel
theorem tyX3_ok : ∀ k, k < 17 → parseFieldDescriptor (TX3 k).2.2.1 = some (tyX3 k) := by decide +kernel
abbrev vwCl : List vw_C := [("RangeReaders$Area", TX0, 5), ("RangeReaders$Entry", TX1, 2), ("RangeReaders", TX2, 5), ("RangeReadersModel", TX3, 17)]
def gW : List Cond := lw_tbl.filter goodWord
theorem gW_tbl {w : Cond} (h : w ∈ gW) : w ∈ lw_tbl := (List.mem_filter.mp h).1
theorem gW_good {c : Cond} (h : c ∈ gW) : GoodIn gW (c :: gW) := fun w hw => by
  rcases List.mem_cons.mp hw with e | e
  · subst e; exact ⟨h, good_of_word (List.mem_filter.mp h).2⟩
  · exact ⟨e, good_of_word (List.mem_filter.mp e).2⟩
theorem w_0 : Cond.initialized "RangeReadersLaw" ∈ gW := List.mem_filter.mpr ⟨List.mem_append_right _ (List.mem_of_getElem? (i := 0) (by decide +kernel)), by decide +kernel⟩
theorem w_1 : Cond.initialized "RangeReaders" ∈ gW := List.mem_filter.mpr ⟨List.mem_append_right _ (List.mem_of_getElem? (i := 1) (by decide +kernel)), by decide +kernel⟩
theorem w_2 : Cond.initialized "RangeReadersModel" ∈ gW := List.mem_filter.mpr ⟨List.mem_append_right _ (List.mem_of_getElem? (i := 2) (by decide +kernel)), by decide +kernel⟩
theorem w_3 : Cond.initialized "RangeReaders$Area" ∈ gW := List.mem_filter.mpr ⟨List.mem_append_right _ (List.mem_of_getElem? (i := 3) (by decide +kernel)), by decide +kernel⟩
theorem w_4 : Cond.initialized "java/lang/Throwable" ∈ gW := List.mem_filter.mpr ⟨List.mem_append_right _ (List.mem_of_getElem? (i := 4) (by decide +kernel)), by decide +kernel⟩
theorem w_5 : Cond.initialized "java/lang/Exception" ∈ gW := List.mem_filter.mpr ⟨List.mem_append_right _ (List.mem_of_getElem? (i := 5) (by decide +kernel)), by decide +kernel⟩
theorem w_6 : Cond.initialized "java/lang/RuntimeException" ∈ gW := List.mem_filter.mpr ⟨List.mem_append_right _ (List.mem_of_getElem? (i := 6) (by decide +kernel)), by decide +kernel⟩
theorem w_7 : Cond.initialized "java/lang/IllegalArgumentException" ∈ gW := List.mem_filter.mpr ⟨List.mem_append_right _ (List.mem_of_getElem? (i := 7) (by decide +kernel)), by decide +kernel⟩
theorem w_8 : Cond.initialized "java/lang/IllegalStateException" ∈ gW := List.mem_filter.mpr ⟨List.mem_append_right _ (List.mem_of_getElem? (i := 8) (by decide +kernel)), by decide +kernel⟩
theorem w_9 : Cond.initialized "java/lang/Math" ∈ gW := List.mem_filter.mpr ⟨List.mem_append_right _ (List.mem_of_getElem? (i := 9) (by decide +kernel)), by decide +kernel⟩
theorem w_10 : Cond.initialized "RangeReaders$Entry" ∈ gW := List.mem_filter.mpr ⟨List.mem_append_right _ (List.mem_of_getElem? (i := 10) (by decide +kernel)), by decide +kernel⟩
theorem w_11 : Cond.classLink "RangeReadersLaw" 8 "RangeReaders" ∈ gW := List.mem_filter.mpr ⟨List.mem_append_right _ (List.mem_of_getElem? (i := 11) (by decide +kernel)), by decide +kernel⟩
theorem w_12 : Cond.instantiable "RangeReaders" 5 ∈ gW := List.mem_filter.mpr ⟨List.mem_append_right _ (List.mem_of_getElem? (i := 12) (by decide +kernel)), by decide +kernel⟩
theorem w_13 : Cond.methodLink "RangeReadersLaw" 35 (⟨"RangeReaders", "<init>", "()V"⟩ : MethodName) ∈ gW := List.mem_filter.mpr ⟨List.mem_append_right _ (List.mem_of_getElem? (i := 13) (by decide +kernel)), by decide +kernel⟩
theorem w_14 : Cond.instanceMethod (⟨"RangeReaders", "<init>", "()V"⟩ : MethodName) ∈ gW := List.mem_filter.mpr ⟨List.mem_append_right _ (List.mem_of_getElem? (i := 14) (by decide +kernel)), by decide +kernel⟩
theorem w_15 : Cond.code (⟨"RangeReaders", "<init>", "()V"⟩ : MethodName) prog_1_method_1_code 1 (Option.none : Option Jvm.ClassFile.FieldType) ∈ gW := List.mem_filter.mpr ⟨List.mem_append_right _ (List.mem_of_getElem? (i := 15) (by decide +kernel)), by decide +kernel⟩
theorem w_16 : Cond.methodLink "RangeReaders" 1 (⟨"java/lang/Object", "<init>", "()V"⟩ : MethodName) ∈ gW := List.mem_filter.mpr ⟨List.mem_append_right _ (List.mem_of_getElem? (i := 16) (by decide +kernel)), by decide +kernel⟩
theorem w_17 : Cond.instanceMethod (⟨"java/lang/Object", "<init>", "()V"⟩ : MethodName) ∈ gW := List.mem_filter.mpr ⟨List.mem_append_right _ (List.mem_of_getElem? (i := 17) (by decide +kernel)), by decide +kernel⟩
theorem w_18 : Cond.code (⟨"java/lang/Object", "<init>", "()V"⟩ : MethodName) object_method_1_code 1 (Option.none : Option Jvm.ClassFile.FieldType) ∈ gW := List.mem_filter.mpr ⟨List.mem_append_right _ (List.mem_of_getElem? (i := 18) (by decide +kernel)), by decide +kernel⟩
theorem w_19 : Cond.classLink "RangeReaders" 13 "RangeReaders$Entry" ∈ gW := List.mem_filter.mpr ⟨List.mem_append_right _ (List.mem_of_getElem? (i := 19) (by decide +kernel)), by decide +kernel⟩
theorem w_21 : Cond.fieldLink "RangeReaders" 7 "RangeReaders" "next" "LRangeReaders$Area;" ∈ gW := List.mem_filter.mpr ⟨List.mem_append_right _ (List.mem_of_getElem? (i := 21) (by decide +kernel)), by decide +kernel⟩
theorem w_22 : Cond.fieldLink "RangeReaders" 15 "RangeReaders" "entries" "[LRangeReaders$Entry;" ∈ gW := List.mem_filter.mpr ⟨List.mem_append_right _ (List.mem_of_getElem? (i := 22) (by decide +kernel)), by decide +kernel⟩
theorem w_23 : Cond.fieldLink "RangeReaders" 19 "RangeReaders" "held" "I" ∈ gW := List.mem_filter.mpr ⟨List.mem_append_right _ (List.mem_of_getElem? (i := 23) (by decide +kernel)), by decide +kernel⟩
theorem w_24 : Cond.fieldLink "RangeReaders" 23 "RangeReaders" "metNumbers" "[I" ∈ gW := List.mem_filter.mpr ⟨List.mem_append_right _ (List.mem_of_getElem? (i := 24) (by decide +kernel)), by decide +kernel⟩
theorem w_25 : Cond.fieldLink "RangeReaders" 27 "RangeReaders" "metCount" "I" ∈ gW := List.mem_filter.mpr ⟨List.mem_append_right _ (List.mem_of_getElem? (i := 25) (by decide +kernel)), by decide +kernel⟩
theorem w_37 : Cond.arrayClass Jvm.ClassFile.FieldType.int ∈ gW := List.mem_filter.mpr ⟨List.mem_append_right _ (List.mem_of_getElem? (i := 37) (by decide +kernel)), by decide +kernel⟩
theorem w_38 : Cond.methodLink "RangeReadersLaw" 39 (⟨"RangeReaders", "rectangle", "(IIIII)Z"⟩ : MethodName) ∈ gW := List.mem_filter.mpr ⟨List.mem_append_right _ (List.mem_of_getElem? (i := 38) (by decide +kernel)), by decide +kernel⟩
theorem w_39 : Cond.instanceMethod (⟨"RangeReaders", "rectangle", "(IIIII)Z"⟩ : MethodName) ∈ gW := List.mem_filter.mpr ⟨List.mem_append_right _ (List.mem_of_getElem? (i := 39) (by decide +kernel)), by decide +kernel⟩
theorem w_40 : Cond.selects "RangeReaders" (⟨"RangeReaders", "rectangle", "(IIIII)Z"⟩ : MethodName) (⟨"RangeReaders", "rectangle", "(IIIII)Z"⟩ : MethodName) ∈ gW := List.mem_filter.mpr ⟨List.mem_append_right _ (List.mem_of_getElem? (i := 40) (by decide +kernel)), by decide +kernel⟩
theorem w_41 : Cond.code (⟨"RangeReaders", "rectangle", "(IIIII)Z"⟩ : MethodName) prog_1_method_2_code 7 (Option.some Jvm.ClassFile.FieldType.boolean) ∈ gW := List.mem_filter.mpr ⟨List.mem_append_right _ (List.mem_of_getElem? (i := 41) (by decide +kernel)), by decide +kernel⟩
theorem w_42 : Cond.methodLink "RangeReaders" 30 (⟨"RangeReaders", "isCell", "(III)Z"⟩ : MethodName) ∈ gW := List.mem_filter.mpr ⟨List.mem_append_right _ (List.mem_of_getElem? (i := 42) (by decide +kernel)), by decide +kernel⟩
theorem w_43 : Cond.static (⟨"RangeReaders", "isCell", "(III)Z"⟩ : MethodName) ∈ gW := List.mem_filter.mpr ⟨List.mem_append_right _ (List.mem_of_getElem? (i := 43) (by decide +kernel)), by decide +kernel⟩
theorem w_44 : Cond.code (⟨"RangeReaders", "isCell", "(III)Z"⟩ : MethodName) prog_1_method_17_code 3 (Option.some Jvm.ClassFile.FieldType.boolean) ∈ gW := List.mem_filter.mpr ⟨List.mem_append_right _ (List.mem_of_getElem? (i := 44) (by decide +kernel)), by decide +kernel⟩
theorem w_45 : Cond.methodLink "RangeReaders" 149 (⟨"RangeReaders", "isSheet", "(I)Z"⟩ : MethodName) ∈ gW := List.mem_filter.mpr ⟨List.mem_append_right _ (List.mem_of_getElem? (i := 45) (by decide +kernel)), by decide +kernel⟩
theorem w_46 : Cond.static (⟨"RangeReaders", "isSheet", "(I)Z"⟩ : MethodName) ∈ gW := List.mem_filter.mpr ⟨List.mem_append_right _ (List.mem_of_getElem? (i := 46) (by decide +kernel)), by decide +kernel⟩
theorem w_47 : Cond.code (⟨"RangeReaders", "isSheet", "(I)Z"⟩ : MethodName) prog_1_method_14_code 1 (Option.some Jvm.ClassFile.FieldType.boolean) ∈ gW := List.mem_filter.mpr ⟨List.mem_append_right _ (List.mem_of_getElem? (i := 47) (by decide +kernel)), by decide +kernel⟩
theorem w_48 : Cond.methodLink "RangeReaders" 153 (⟨"RangeReaders", "isLine", "(ZI)Z"⟩ : MethodName) ∈ gW := List.mem_filter.mpr ⟨List.mem_append_right _ (List.mem_of_getElem? (i := 48) (by decide +kernel)), by decide +kernel⟩
theorem w_49 : Cond.static (⟨"RangeReaders", "isLine", "(ZI)Z"⟩ : MethodName) ∈ gW := List.mem_filter.mpr ⟨List.mem_append_right _ (List.mem_of_getElem? (i := 49) (by decide +kernel)), by decide +kernel⟩
theorem w_50 : Cond.code (⟨"RangeReaders", "isLine", "(ZI)Z"⟩ : MethodName) prog_1_method_16_code 2 (Option.some Jvm.ClassFile.FieldType.boolean) ∈ gW := List.mem_filter.mpr ⟨List.mem_append_right _ (List.mem_of_getElem? (i := 50) (by decide +kernel)), by decide +kernel⟩
theorem w_51 : Cond.methodLink "RangeReaders" 109 (⟨"RangeReaders", "lastLine", "(Z)I"⟩ : MethodName) ∈ gW := List.mem_filter.mpr ⟨List.mem_append_right _ (List.mem_of_getElem? (i := 51) (by decide +kernel)), by decide +kernel⟩
theorem w_52 : Cond.static (⟨"RangeReaders", "lastLine", "(Z)I"⟩ : MethodName) ∈ gW := List.mem_filter.mpr ⟨List.mem_append_right _ (List.mem_of_getElem? (i := 52) (by decide +kernel)), by decide +kernel⟩
theorem w_53 : Cond.code (⟨"RangeReaders", "lastLine", "(Z)I"⟩ : MethodName) prog_1_method_15_code 1 (Option.some Jvm.ClassFile.FieldType.int) ∈ gW := List.mem_filter.mpr ⟨List.mem_append_right _ (List.mem_of_getElem? (i := 53) (by decide +kernel)), by decide +kernel⟩
theorem w_54 : Cond.constant "RangeReaders" 148 1048576 ∈ gW := List.mem_filter.mpr ⟨List.mem_append_right _ (List.mem_of_getElem? (i := 54) (by decide +kernel)), by decide +kernel⟩
theorem w_55 : Cond.classLink "RangeReaders" 34 "RangeReaders$Area" ∈ gW := List.mem_filter.mpr ⟨List.mem_append_right _ (List.mem_of_getElem? (i := 55) (by decide +kernel)), by decide +kernel⟩
theorem w_56 : Cond.instantiable "RangeReaders$Area" 5 ∈ gW := List.mem_filter.mpr ⟨List.mem_append_right _ (List.mem_of_getElem? (i := 56) (by decide +kernel)), by decide +kernel⟩
theorem w_58 : Cond.instanceMethod (⟨"RangeReaders$Area", "<init>", "(IIIII)V"⟩ : MethodName) ∈ gW := List.mem_filter.mpr ⟨List.mem_append_right _ (List.mem_of_getElem? (i := 58) (by decide +kernel)), by decide +kernel⟩
theorem w_59 : Cond.code (⟨"RangeReaders$Area", "<init>", "(IIIII)V"⟩ : MethodName) prog_2_method_1_code 6 (Option.none : Option Jvm.ClassFile.FieldType) ∈ gW := List.mem_filter.mpr ⟨List.mem_append_right _ (List.mem_of_getElem? (i := 59) (by decide +kernel)), by decide +kernel⟩
theorem w_60 : Cond.methodLink "RangeReaders$Area" 1 (⟨"java/lang/Object", "<init>", "()V"⟩ : MethodName) ∈ gW := List.mem_filter.mpr ⟨List.mem_append_right _ (List.mem_of_getElem? (i := 60) (by decide +kernel)), by decide +kernel⟩
theorem w_61 : Cond.fieldLink "RangeReaders$Area" 7 "RangeReaders$Area" "sheet" "I" ∈ gW := List.mem_filter.mpr ⟨List.mem_append_right _ (List.mem_of_getElem? (i := 61) (by decide +kernel)), by decide +kernel⟩
theorem w_63 : Cond.fieldLink "RangeReaders$Area" 13 "RangeReaders$Area" "top" "I" ∈ gW := List.mem_filter.mpr ⟨List.mem_append_right _ (List.mem_of_getElem? (i := 63) (by decide +kernel)), by decide +kernel⟩
theorem w_65 : Cond.fieldLink "RangeReaders$Area" 16 "RangeReaders$Area" "left" "I" ∈ gW := List.mem_filter.mpr ⟨List.mem_append_right _ (List.mem_of_getElem? (i := 65) (by decide +kernel)), by decide +kernel⟩
theorem w_67 : Cond.fieldLink "RangeReaders$Area" 19 "RangeReaders$Area" "bottom" "I" ∈ gW := List.mem_filter.mpr ⟨List.mem_append_right _ (List.mem_of_getElem? (i := 67) (by decide +kernel)), by decide +kernel⟩
theorem w_69 : Cond.fieldLink "RangeReaders$Area" 22 "RangeReaders$Area" "right" "I" ∈ gW := List.mem_filter.mpr ⟨List.mem_append_right _ (List.mem_of_getElem? (i := 69) (by decide +kernel)), by decide +kernel⟩
theorem w_82 : Cond.methodLink "RangeReadersLaw" 53 (⟨"RangeReaders", "remove", "(I)Z"⟩ : MethodName) ∈ gW := List.mem_filter.mpr ⟨List.mem_append_right _ (List.mem_of_getElem? (i := 82) (by decide +kernel)), by decide +kernel⟩
theorem w_83 : Cond.instanceMethod (⟨"RangeReaders", "remove", "(I)Z"⟩ : MethodName) ∈ gW := List.mem_filter.mpr ⟨List.mem_append_right _ (List.mem_of_getElem? (i := 83) (by decide +kernel)), by decide +kernel⟩
theorem w_84 : Cond.selects "RangeReaders" (⟨"RangeReaders", "remove", "(I)Z"⟩ : MethodName) (⟨"RangeReaders", "remove", "(I)Z"⟩ : MethodName) ∈ gW := List.mem_filter.mpr ⟨List.mem_append_right _ (List.mem_of_getElem? (i := 84) (by decide +kernel)), by decide +kernel⟩
theorem w_85 : Cond.code (⟨"RangeReaders", "remove", "(I)Z"⟩ : MethodName) prog_1_method_4_code 2 (Option.some Jvm.ClassFile.FieldType.boolean) ∈ gW := List.mem_filter.mpr ⟨List.mem_append_right _ (List.mem_of_getElem? (i := 85) (by decide +kernel)), by decide +kernel⟩
theorem w_86 : Cond.methodLink "RangeReaders" 68 (⟨"RangeReaders", "entryAt", "(I)LRangeReaders$Entry;"⟩ : MethodName) ∈ gW := List.mem_filter.mpr ⟨List.mem_append_right _ (List.mem_of_getElem? (i := 86) (by decide +kernel)), by decide +kernel⟩
theorem w_88 : Cond.instanceMethod (⟨"RangeReaders", "entryAt", "(I)LRangeReaders$Entry;"⟩ : MethodName) ∈ gW := List.mem_filter.mpr ⟨List.mem_append_right _ (List.mem_of_getElem? (i := 88) (by decide +kernel)), by decide +kernel⟩
theorem w_89 : Cond.code (⟨"RangeReaders", "entryAt", "(I)LRangeReaders$Entry;"⟩ : MethodName) prog_1_method_19_code 2 (Option.some (Jvm.ClassFile.FieldType.object "RangeReaders$Entry")) ∈ gW := List.mem_filter.mpr ⟨List.mem_append_right _ (List.mem_of_getElem? (i := 89) (by decide +kernel)), by decide +kernel⟩
theorem w_90 : Cond.methodLink "RangeReaders" 72 (⟨"RangeReaders", "release", "(I)V"⟩ : MethodName) ∈ gW := List.mem_filter.mpr ⟨List.mem_append_right _ (List.mem_of_getElem? (i := 90) (by decide +kernel)), by decide +kernel⟩
theorem w_92 : Cond.instanceMethod (⟨"RangeReaders", "release", "(I)V"⟩ : MethodName) ∈ gW := List.mem_filter.mpr ⟨List.mem_append_right _ (List.mem_of_getElem? (i := 92) (by decide +kernel)), by decide +kernel⟩
theorem w_93 : Cond.code (⟨"RangeReaders", "release", "(I)V"⟩ : MethodName) prog_1_method_20_code 2 (Option.none : Option Jvm.ClassFile.FieldType) ∈ gW := List.mem_filter.mpr ⟨List.mem_append_right _ (List.mem_of_getElem? (i := 93) (by decide +kernel)), by decide +kernel⟩
theorem w_94 : Cond.methodLink "RangeReadersLaw" 58 (⟨"RangeReaders", "drop", "(I)I"⟩ : MethodName) ∈ gW := List.mem_filter.mpr ⟨List.mem_append_right _ (List.mem_of_getElem? (i := 94) (by decide +kernel)), by decide +kernel⟩
theorem w_95 : Cond.instanceMethod (⟨"RangeReaders", "drop", "(I)I"⟩ : MethodName) ∈ gW := List.mem_filter.mpr ⟨List.mem_append_right _ (List.mem_of_getElem? (i := 95) (by decide +kernel)), by decide +kernel⟩
theorem w_96 : Cond.selects "RangeReaders" (⟨"RangeReaders", "drop", "(I)I"⟩ : MethodName) (⟨"RangeReaders", "drop", "(I)I"⟩ : MethodName) ∈ gW := List.mem_filter.mpr ⟨List.mem_append_right _ (List.mem_of_getElem? (i := 96) (by decide +kernel)), by decide +kernel⟩
theorem w_97 : Cond.code (⟨"RangeReaders", "drop", "(I)I"⟩ : MethodName) prog_1_method_5_code 5 (Option.some Jvm.ClassFile.FieldType.int) ∈ gW := List.mem_filter.mpr ⟨List.mem_append_right _ (List.mem_of_getElem? (i := 97) (by decide +kernel)), by decide +kernel⟩
theorem w_98 : Cond.methodLink "RangeReadersLaw" 70 (⟨"RangeReaders", "met", "(I)I"⟩ : MethodName) ∈ gW := List.mem_filter.mpr ⟨List.mem_append_right _ (List.mem_of_getElem? (i := 98) (by decide +kernel)), by decide +kernel⟩
theorem w_99 : Cond.instanceMethod (⟨"RangeReaders", "met", "(I)I"⟩ : MethodName) ∈ gW := List.mem_filter.mpr ⟨List.mem_append_right _ (List.mem_of_getElem? (i := 99) (by decide +kernel)), by decide +kernel⟩
theorem w_100 : Cond.selects "RangeReaders" (⟨"RangeReaders", "met", "(I)I"⟩ : MethodName) (⟨"RangeReaders", "met", "(I)I"⟩ : MethodName) ∈ gW := List.mem_filter.mpr ⟨List.mem_append_right _ (List.mem_of_getElem? (i := 100) (by decide +kernel)), by decide +kernel⟩
theorem w_101 : Cond.code (⟨"RangeReaders", "met", "(I)I"⟩ : MethodName) prog_1_method_8_code 2 (Option.some Jvm.ClassFile.FieldType.int) ∈ gW := List.mem_filter.mpr ⟨List.mem_append_right _ (List.mem_of_getElem? (i := 101) (by decide +kernel)), by decide +kernel⟩
theorem w_102 : Cond.methodLink "RangeReadersLaw" 74 (⟨"RangeReaders", "entry", "(II)I"⟩ : MethodName) ∈ gW := List.mem_filter.mpr ⟨List.mem_append_right _ (List.mem_of_getElem? (i := 102) (by decide +kernel)), by decide +kernel⟩
theorem w_103 : Cond.instanceMethod (⟨"RangeReaders", "entry", "(II)I"⟩ : MethodName) ∈ gW := List.mem_filter.mpr ⟨List.mem_append_right _ (List.mem_of_getElem? (i := 103) (by decide +kernel)), by decide +kernel⟩
theorem w_104 : Cond.selects "RangeReaders" (⟨"RangeReaders", "entry", "(II)I"⟩ : MethodName) (⟨"RangeReaders", "entry", "(II)I"⟩ : MethodName) ∈ gW := List.mem_filter.mpr ⟨List.mem_append_right _ (List.mem_of_getElem? (i := 104) (by decide +kernel)), by decide +kernel⟩
theorem w_105 : Cond.code (⟨"RangeReaders", "entry", "(II)I"⟩ : MethodName) prog_1_method_9_code 4 (Option.some Jvm.ClassFile.FieldType.int) ∈ gW := List.mem_filter.mpr ⟨List.mem_append_right _ (List.mem_of_getElem? (i := 105) (by decide +kernel)), by decide +kernel⟩
theorem w_106 : Cond.methodLink "RangeReadersLaw" 79 (⟨"RangeReaders", "count", "()I"⟩ : MethodName) ∈ gW := List.mem_filter.mpr ⟨List.mem_append_right _ (List.mem_of_getElem? (i := 106) (by decide +kernel)), by decide +kernel⟩
theorem w_107 : Cond.instanceMethod (⟨"RangeReaders", "count", "()I"⟩ : MethodName) ∈ gW := List.mem_filter.mpr ⟨List.mem_append_right _ (List.mem_of_getElem? (i := 107) (by decide +kernel)), by decide +kernel⟩
theorem w_108 : Cond.selects "RangeReaders" (⟨"RangeReaders", "count", "()I"⟩ : MethodName) (⟨"RangeReaders", "count", "()I"⟩ : MethodName) ∈ gW := List.mem_filter.mpr ⟨List.mem_append_right _ (List.mem_of_getElem? (i := 108) (by decide +kernel)), by decide +kernel⟩
theorem w_109 : Cond.code (⟨"RangeReaders", "count", "()I"⟩ : MethodName) prog_1_method_10_code 1 (Option.some Jvm.ClassFile.FieldType.int) ∈ gW := List.mem_filter.mpr ⟨List.mem_append_right _ (List.mem_of_getElem? (i := 109) (by decide +kernel)), by decide +kernel⟩
theorem w_110 : Cond.methodLink "RangeReadersLaw" 44 (⟨"RangeReadersLaw", "add", "(LRangeReaders;I[J)I"⟩ : MethodName) ∈ gW := List.mem_filter.mpr ⟨List.mem_append_right _ (List.mem_of_getElem? (i := 110) (by decide +kernel)), by decide +kernel⟩
theorem w_111 : Cond.static (⟨"RangeReadersLaw", "add", "(LRangeReaders;I[J)I"⟩ : MethodName) ∈ gW := List.mem_filter.mpr ⟨List.mem_append_right _ (List.mem_of_getElem? (i := 111) (by decide +kernel)), by decide +kernel⟩
theorem w_112 : Cond.codeWith (⟨"RangeReadersLaw", "add", "(LRangeReaders;I[J)I"⟩ : MethodName) method_3_code 4 (Option.some Jvm.ClassFile.FieldType.int) [(0, 9, 12, 13), (0, 9, 15, 15)] ∈ gW := List.mem_filter.mpr ⟨List.mem_append_right _ (List.mem_of_getElem? (i := 112) (by decide +kernel)), by decide +kernel⟩
theorem w_113 : Cond.classLink "RangeReadersLaw" 13 "java/lang/IllegalArgumentException" ∈ gW := List.mem_filter.mpr ⟨List.mem_append_right _ (List.mem_of_getElem? (i := 113) (by decide +kernel)), by decide +kernel⟩
theorem w_114 : Cond.classLink "RangeReadersLaw" 15 "java/lang/IllegalStateException" ∈ gW := List.mem_filter.mpr ⟨List.mem_append_right _ (List.mem_of_getElem? (i := 114) (by decide +kernel)), by decide +kernel⟩
theorem w_115 : Cond.methodLink "RangeReadersLaw" 7 (⟨"RangeReaders", "add", "(I)I"⟩ : MethodName) ∈ gW := List.mem_filter.mpr ⟨List.mem_append_right _ (List.mem_of_getElem? (i := 115) (by decide +kernel)), by decide +kernel⟩
theorem w_116 : Cond.instanceMethod (⟨"RangeReaders", "add", "(I)I"⟩ : MethodName) ∈ gW := List.mem_filter.mpr ⟨List.mem_append_right _ (List.mem_of_getElem? (i := 116) (by decide +kernel)), by decide +kernel⟩
theorem w_117 : Cond.selects "RangeReaders" (⟨"RangeReaders", "add", "(I)I"⟩ : MethodName) (⟨"RangeReaders", "add", "(I)I"⟩ : MethodName) ∈ gW := List.mem_filter.mpr ⟨List.mem_append_right _ (List.mem_of_getElem? (i := 117) (by decide +kernel)), by decide +kernel⟩
theorem w_118 : Cond.code (⟨"RangeReaders", "add", "(I)I"⟩ : MethodName) prog_1_method_3_code 3 (Option.some Jvm.ClassFile.FieldType.int) ∈ gW := List.mem_filter.mpr ⟨List.mem_append_right _ (List.mem_of_getElem? (i := 118) (by decide +kernel)), by decide +kernel⟩
theorem w_119 : Cond.classLink "RangeReaders" 39 "java/lang/IllegalArgumentException" ∈ gW := List.mem_filter.mpr ⟨List.mem_append_right _ (List.mem_of_getElem? (i := 119) (by decide +kernel)), by decide +kernel⟩
theorem w_120 : Cond.instantiable "java/lang/IllegalArgumentException" 6 ∈ gW := List.mem_filter.mpr ⟨List.mem_append_right _ (List.mem_of_getElem? (i := 120) (by decide +kernel)), by decide +kernel⟩
theorem w_128 : Cond.selects "java/lang/IllegalArgumentException" (⟨"java/lang/Throwable", "fillInStackTrace", "(I)Ljava/lang/Throwable;"⟩ : MethodName) (⟨"java/lang/Throwable", "fillInStackTrace", "(I)Ljava/lang/Throwable;"⟩ : MethodName) ∈ gW := List.mem_filter.mpr ⟨List.mem_append_right _ (List.mem_of_getElem? (i := 128) (by decide +kernel)), by decide +kernel⟩
theorem w_129 : Cond.selects "java/lang/IllegalArgumentException" (⟨"java/lang/Throwable", "fillInStackTrace", "()Ljava/lang/Throwable;"⟩ : MethodName) (⟨"java/lang/Throwable", "fillInStackTrace", "()Ljava/lang/Throwable;"⟩ : MethodName) ∈ gW := List.mem_filter.mpr ⟨List.mem_append_right _ (List.mem_of_getElem? (i := 129) (by decide +kernel)), by decide +kernel⟩
theorem w_140 : Cond.fieldLink "java/lang/Throwable" 198 "java/lang/Throwable" "backtrace" "Ljava/lang/Object;" ∈ gW := List.mem_filter.mpr ⟨List.mem_append_right _ (List.mem_of_getElem? (i := 140) (by decide +kernel)), by decide +kernel⟩
theorem w_142 : Cond.instanceMethod (⟨"java/lang/Throwable", "<init>", "()V"⟩ : MethodName) ∈ gW := List.mem_filter.mpr ⟨List.mem_append_right _ (List.mem_of_getElem? (i := 142) (by decide +kernel)), by decide +kernel⟩
theorem w_143 : Cond.code (⟨"java/lang/Throwable", "<init>", "()V"⟩ : MethodName) prog_12_method_1_code 1 (Option.none : Option Jvm.ClassFile.FieldType) ∈ gW := List.mem_filter.mpr ⟨List.mem_append_right _ (List.mem_of_getElem? (i := 143) (by decide +kernel)), by decide +kernel⟩
theorem w_144 : Cond.methodLink "java/lang/Throwable" 1 (⟨"java/lang/Object", "<init>", "()V"⟩ : MethodName) ∈ gW := List.mem_filter.mpr ⟨List.mem_append_right _ (List.mem_of_getElem? (i := 144) (by decide +kernel)), by decide +kernel⟩
theorem w_145 : Cond.fieldLink "java/lang/Throwable" 13 "java/lang/Throwable" "UNASSIGNED_STACK" "[Ljava/lang/StackTraceElement;" ∈ gW := List.mem_filter.mpr ⟨List.mem_append_right _ (List.mem_of_getElem? (i := 145) (by decide +kernel)), by decide +kernel⟩
theorem w_147 : Cond.fieldLink "java/lang/Throwable" 20 "java/lang/Throwable" "SUPPRESSED_SENTINEL" "Ljava/util/List;" ∈ gW := List.mem_filter.mpr ⟨List.mem_append_right _ (List.mem_of_getElem? (i := 147) (by decide +kernel)), by decide +kernel⟩
theorem w_149 : Cond.methodLink "java/lang/Throwable" 27 (⟨"java/lang/Throwable", "fillInStackTrace", "()Ljava/lang/Throwable;"⟩ : MethodName) ∈ gW := List.mem_filter.mpr ⟨List.mem_append_right _ (List.mem_of_getElem? (i := 149) (by decide +kernel)), by decide +kernel⟩
theorem w_150 : Cond.instanceMethod (⟨"java/lang/Throwable", "fillInStackTrace", "()Ljava/lang/Throwable;"⟩ : MethodName) ∈ gW := List.mem_filter.mpr ⟨List.mem_append_right _ (List.mem_of_getElem? (i := 150) (by decide +kernel)), by decide +kernel⟩
theorem w_152 : Cond.selects "java/lang/IllegalStateException" (⟨"java/lang/Throwable", "fillInStackTrace", "()Ljava/lang/Throwable;"⟩ : MethodName) (⟨"java/lang/Throwable", "fillInStackTrace", "()Ljava/lang/Throwable;"⟩ : MethodName) ∈ gW := List.mem_filter.mpr ⟨List.mem_append_right _ (List.mem_of_getElem? (i := 152) (by decide +kernel)), by decide +kernel⟩
theorem w_154 : Cond.methodLink "java/lang/Throwable" 202 (⟨"java/lang/Throwable", "fillInStackTrace", "(I)Ljava/lang/Throwable;"⟩ : MethodName) ∈ gW := List.mem_filter.mpr ⟨List.mem_append_right _ (List.mem_of_getElem? (i := 154) (by decide +kernel)), by decide +kernel⟩
theorem w_156 : Cond.instanceMethod (⟨"java/lang/Throwable", "fillInStackTrace", "(I)Ljava/lang/Throwable;"⟩ : MethodName) ∈ gW := List.mem_filter.mpr ⟨List.mem_append_right _ (List.mem_of_getElem? (i := 156) (by decide +kernel)), by decide +kernel⟩
theorem w_157 : Cond.instantiable "java/lang/Throwable" 6 ∈ gW := List.mem_filter.mpr ⟨List.mem_append_right _ (List.mem_of_getElem? (i := 157) (by decide +kernel)), by decide +kernel⟩
theorem w_160 : Cond.methodLink "RangeReaders" 43 (⟨"java/lang/IllegalArgumentException", "<init>", "(Ljava/lang/String;)V"⟩ : MethodName) ∈ gW := List.mem_filter.mpr ⟨List.mem_append_right _ (List.mem_of_getElem? (i := 160) (by decide +kernel)), by decide +kernel⟩
theorem w_161 : Cond.instanceMethod (⟨"java/lang/IllegalArgumentException", "<init>", "(Ljava/lang/String;)V"⟩ : MethodName) ∈ gW := List.mem_filter.mpr ⟨List.mem_append_right _ (List.mem_of_getElem? (i := 161) (by decide +kernel)), by decide +kernel⟩
theorem w_162 : Cond.code (⟨"java/lang/IllegalArgumentException", "<init>", "(Ljava/lang/String;)V"⟩ : MethodName) prog_7_method_2_code 2 (Option.none : Option Jvm.ClassFile.FieldType) ∈ gW := List.mem_filter.mpr ⟨List.mem_append_right _ (List.mem_of_getElem? (i := 162) (by decide +kernel)), by decide +kernel⟩
theorem w_163 : Cond.methodLink "java/lang/IllegalArgumentException" 7 (⟨"java/lang/RuntimeException", "<init>", "(Ljava/lang/String;)V"⟩ : MethodName) ∈ gW := List.mem_filter.mpr ⟨List.mem_append_right _ (List.mem_of_getElem? (i := 163) (by decide +kernel)), by decide +kernel⟩
theorem w_164 : Cond.instanceMethod (⟨"java/lang/RuntimeException", "<init>", "(Ljava/lang/String;)V"⟩ : MethodName) ∈ gW := List.mem_filter.mpr ⟨List.mem_append_right _ (List.mem_of_getElem? (i := 164) (by decide +kernel)), by decide +kernel⟩
theorem w_165 : Cond.code (⟨"java/lang/RuntimeException", "<init>", "(Ljava/lang/String;)V"⟩ : MethodName) prog_10_method_2_code 2 (Option.none : Option Jvm.ClassFile.FieldType) ∈ gW := List.mem_filter.mpr ⟨List.mem_append_right _ (List.mem_of_getElem? (i := 165) (by decide +kernel)), by decide +kernel⟩
theorem w_166 : Cond.methodLink "java/lang/RuntimeException" 7 (⟨"java/lang/Exception", "<init>", "(Ljava/lang/String;)V"⟩ : MethodName) ∈ gW := List.mem_filter.mpr ⟨List.mem_append_right _ (List.mem_of_getElem? (i := 166) (by decide +kernel)), by decide +kernel⟩
theorem w_167 : Cond.instanceMethod (⟨"java/lang/Exception", "<init>", "(Ljava/lang/String;)V"⟩ : MethodName) ∈ gW := List.mem_filter.mpr ⟨List.mem_append_right _ (List.mem_of_getElem? (i := 167) (by decide +kernel)), by decide +kernel⟩
theorem w_168 : Cond.code (⟨"java/lang/Exception", "<init>", "(Ljava/lang/String;)V"⟩ : MethodName) prog_6_method_2_code 2 (Option.none : Option Jvm.ClassFile.FieldType) ∈ gW := List.mem_filter.mpr ⟨List.mem_append_right _ (List.mem_of_getElem? (i := 168) (by decide +kernel)), by decide +kernel⟩
theorem w_169 : Cond.methodLink "java/lang/Exception" 7 (⟨"java/lang/Throwable", "<init>", "(Ljava/lang/String;)V"⟩ : MethodName) ∈ gW := List.mem_filter.mpr ⟨List.mem_append_right _ (List.mem_of_getElem? (i := 169) (by decide +kernel)), by decide +kernel⟩
theorem w_170 : Cond.instanceMethod (⟨"java/lang/Throwable", "<init>", "(Ljava/lang/String;)V"⟩ : MethodName) ∈ gW := List.mem_filter.mpr ⟨List.mem_append_right _ (List.mem_of_getElem? (i := 170) (by decide +kernel)), by decide +kernel⟩
theorem w_171 : Cond.code (⟨"java/lang/Throwable", "<init>", "(Ljava/lang/String;)V"⟩ : MethodName) prog_12_method_2_code 2 (Option.none : Option Jvm.ClassFile.FieldType) ∈ gW := List.mem_filter.mpr ⟨List.mem_append_right _ (List.mem_of_getElem? (i := 171) (by decide +kernel)), by decide +kernel⟩
theorem w_173 : Cond.fieldLink "java/lang/Throwable" 31 "java/lang/Throwable" "detailMessage" "Ljava/lang/String;" ∈ gW := List.mem_filter.mpr ⟨List.mem_append_right _ (List.mem_of_getElem? (i := 173) (by decide +kernel)), by decide +kernel⟩
theorem w_174 : Cond.fieldLink "java/lang/Throwable" 7 "java/lang/Throwable" "cause" "Ljava/lang/Throwable;" ∈ gW := List.mem_filter.mpr ⟨List.mem_append_right _ (List.mem_of_getElem? (i := 174) (by decide +kernel)), by decide +kernel⟩
theorem w_175 : Cond.fieldLink "java/lang/Throwable" 17 "java/lang/Throwable" "stackTrace" "[Ljava/lang/StackTraceElement;" ∈ gW := List.mem_filter.mpr ⟨List.mem_append_right _ (List.mem_of_getElem? (i := 175) (by decide +kernel)), by decide +kernel⟩
theorem w_176 : Cond.fieldLink "java/lang/Throwable" 24 "java/lang/Throwable" "suppressedExceptions" "Ljava/util/List;" ∈ gW := List.mem_filter.mpr ⟨List.mem_append_right _ (List.mem_of_getElem? (i := 176) (by decide +kernel)), by decide +kernel⟩
theorem w_185 : Cond.arrayClass Jvm.ClassFile.FieldType.byte ∈ gW := List.mem_filter.mpr ⟨List.mem_append_right _ (List.mem_of_getElem? (i := 185) (by decide +kernel)), by decide +kernel⟩
theorem w_187 : Cond.constant "RangeReaders" 48 32768 ∈ gW := List.mem_filter.mpr ⟨List.mem_append_right _ (List.mem_of_getElem? (i := 187) (by decide +kernel)), by decide +kernel⟩
theorem w_188 : Cond.classLink "RangeReaders" 49 "java/lang/IllegalStateException" ∈ gW := List.mem_filter.mpr ⟨List.mem_append_right _ (List.mem_of_getElem? (i := 188) (by decide +kernel)), by decide +kernel⟩
theorem w_189 : Cond.instantiable "java/lang/IllegalStateException" 6 ∈ gW := List.mem_filter.mpr ⟨List.mem_append_right _ (List.mem_of_getElem? (i := 189) (by decide +kernel)), by decide +kernel⟩
theorem w_191 : Cond.selects "java/lang/IllegalStateException" (⟨"java/lang/Throwable", "fillInStackTrace", "(I)Ljava/lang/Throwable;"⟩ : MethodName) (⟨"java/lang/Throwable", "fillInStackTrace", "(I)Ljava/lang/Throwable;"⟩ : MethodName) ∈ gW := List.mem_filter.mpr ⟨List.mem_append_right _ (List.mem_of_getElem? (i := 191) (by decide +kernel)), by decide +kernel⟩
theorem w_198 : Cond.methodLink "RangeReaders" 53 (⟨"java/lang/IllegalStateException", "<init>", "(Ljava/lang/String;)V"⟩ : MethodName) ∈ gW := List.mem_filter.mpr ⟨List.mem_append_right _ (List.mem_of_getElem? (i := 198) (by decide +kernel)), by decide +kernel⟩
theorem w_199 : Cond.instanceMethod (⟨"java/lang/IllegalStateException", "<init>", "(Ljava/lang/String;)V"⟩ : MethodName) ∈ gW := List.mem_filter.mpr ⟨List.mem_append_right _ (List.mem_of_getElem? (i := 199) (by decide +kernel)), by decide +kernel⟩
theorem w_200 : Cond.code (⟨"java/lang/IllegalStateException", "<init>", "(Ljava/lang/String;)V"⟩ : MethodName) prog_8_method_2_code 2 (Option.none : Option Jvm.ClassFile.FieldType) ∈ gW := List.mem_filter.mpr ⟨List.mem_append_right _ (List.mem_of_getElem? (i := 200) (by decide +kernel)), by decide +kernel⟩
theorem w_201 : Cond.methodLink "java/lang/IllegalStateException" 7 (⟨"java/lang/RuntimeException", "<init>", "(Ljava/lang/String;)V"⟩ : MethodName) ∈ gW := List.mem_filter.mpr ⟨List.mem_append_right _ (List.mem_of_getElem? (i := 201) (by decide +kernel)), by decide +kernel⟩
theorem w_204 : Cond.methodLink "RangeReaders" 54 (⟨"RangeReaders", "makeRoom", "()V"⟩ : MethodName) ∈ gW := List.mem_filter.mpr ⟨List.mem_append_right _ (List.mem_of_getElem? (i := 204) (by decide +kernel)), by decide +kernel⟩
theorem w_206 : Cond.instanceMethod (⟨"RangeReaders", "makeRoom", "()V"⟩ : MethodName) ∈ gW := List.mem_filter.mpr ⟨List.mem_append_right _ (List.mem_of_getElem? (i := 206) (by decide +kernel)), by decide +kernel⟩
theorem w_207 : Cond.code (⟨"RangeReaders", "makeRoom", "()V"⟩ : MethodName) prog_1_method_21_code 3 (Option.none : Option Jvm.ClassFile.FieldType) ∈ gW := List.mem_filter.mpr ⟨List.mem_append_right _ (List.mem_of_getElem? (i := 207) (by decide +kernel)), by decide +kernel⟩
theorem w_208 : Cond.methodLink "RangeReaders" 123 (⟨"java/lang/Math", "min", "(II)I"⟩ : MethodName) ∈ gW := List.mem_filter.mpr ⟨List.mem_append_right _ (List.mem_of_getElem? (i := 208) (by decide +kernel)), by decide +kernel⟩
theorem w_209 : Cond.static (⟨"java/lang/Math", "min", "(II)I"⟩ : MethodName) ∈ gW := List.mem_filter.mpr ⟨List.mem_append_right _ (List.mem_of_getElem? (i := 209) (by decide +kernel)), by decide +kernel⟩
theorem w_210 : Cond.code (⟨"java/lang/Math", "min", "(II)I"⟩ : MethodName) prog_9_method_69_code 2 (Option.some Jvm.ClassFile.FieldType.int) ∈ gW := List.mem_filter.mpr ⟨List.mem_append_right _ (List.mem_of_getElem? (i := 210) (by decide +kernel)), by decide +kernel⟩
theorem w_211 : Cond.methodLink "RangeReaders" 57 (⟨"RangeReaders", "lowestFree", "()I"⟩ : MethodName) ∈ gW := List.mem_filter.mpr ⟨List.mem_append_right _ (List.mem_of_getElem? (i := 211) (by decide +kernel)), by decide +kernel⟩
theorem w_213 : Cond.instanceMethod (⟨"RangeReaders", "lowestFree", "()I"⟩ : MethodName) ∈ gW := List.mem_filter.mpr ⟨List.mem_append_right _ (List.mem_of_getElem? (i := 213) (by decide +kernel)), by decide +kernel⟩
theorem w_214 : Cond.code (⟨"RangeReaders", "lowestFree", "()I"⟩ : MethodName) prog_1_method_22_code 2 (Option.some Jvm.ClassFile.FieldType.int) ∈ gW := List.mem_filter.mpr ⟨List.mem_append_right _ (List.mem_of_getElem? (i := 214) (by decide +kernel)), by decide +kernel⟩
theorem w_215 : Cond.instantiable "RangeReaders$Entry" 2 ∈ gW := List.mem_filter.mpr ⟨List.mem_append_right _ (List.mem_of_getElem? (i := 215) (by decide +kernel)), by decide +kernel⟩
theorem w_218 : Cond.instanceMethod (⟨"RangeReaders$Area", "copy", "()LRangeReaders$Area;"⟩ : MethodName) ∈ gW := List.mem_filter.mpr ⟨List.mem_append_right _ (List.mem_of_getElem? (i := 218) (by decide +kernel)), by decide +kernel⟩
theorem w_219 : Cond.code (⟨"RangeReaders$Area", "copy", "()LRangeReaders$Area;"⟩ : MethodName) prog_2_method_2_code 1 (Option.some (Jvm.ClassFile.FieldType.object "RangeReaders$Area")) ∈ gW := List.mem_filter.mpr ⟨List.mem_append_right _ (List.mem_of_getElem? (i := 219) (by decide +kernel)), by decide +kernel⟩
theorem w_220 : Cond.classLink "RangeReaders$Area" 8 "RangeReaders$Area" ∈ gW := List.mem_filter.mpr ⟨List.mem_append_right _ (List.mem_of_getElem? (i := 220) (by decide +kernel)), by decide +kernel⟩
theorem w_221 : Cond.methodLink "RangeReaders$Area" 25 (⟨"RangeReaders$Area", "<init>", "(IIIII)V"⟩ : MethodName) ∈ gW := List.mem_filter.mpr ⟨List.mem_append_right _ (List.mem_of_getElem? (i := 221) (by decide +kernel)), by decide +kernel⟩
theorem w_223 : Cond.instanceMethod (⟨"RangeReaders$Entry", "<init>", "(LRangeReaders$Area;I)V"⟩ : MethodName) ∈ gW := List.mem_filter.mpr ⟨List.mem_append_right _ (List.mem_of_getElem? (i := 223) (by decide +kernel)), by decide +kernel⟩
theorem w_224 : Cond.code (⟨"RangeReaders$Entry", "<init>", "(LRangeReaders$Area;I)V"⟩ : MethodName) prog_3_method_1_code 3 (Option.none : Option Jvm.ClassFile.FieldType) ∈ gW := List.mem_filter.mpr ⟨List.mem_append_right _ (List.mem_of_getElem? (i := 224) (by decide +kernel)), by decide +kernel⟩
theorem w_225 : Cond.methodLink "RangeReaders$Entry" 1 (⟨"java/lang/Object", "<init>", "()V"⟩ : MethodName) ∈ gW := List.mem_filter.mpr ⟨List.mem_append_right _ (List.mem_of_getElem? (i := 225) (by decide +kernel)), by decide +kernel⟩
theorem w_226 : Cond.fieldLink "RangeReaders$Entry" 7 "RangeReaders$Entry" "area" "LRangeReaders$Area;" ∈ gW := List.mem_filter.mpr ⟨List.mem_append_right _ (List.mem_of_getElem? (i := 226) (by decide +kernel)), by decide +kernel⟩
theorem w_228 : Cond.fieldLink "RangeReaders$Entry" 13 "RangeReaders$Entry" "owner" "I" ∈ gW := List.mem_filter.mpr ⟨List.mem_append_right _ (List.mem_of_getElem? (i := 228) (by decide +kernel)), by decide +kernel⟩
theorem w_235 : Cond.methodLink "RangeReadersLaw" 62 (⟨"RangeReadersLaw", "readers", "(LRangeReaders;III[J)I"⟩ : MethodName) ∈ gW := List.mem_filter.mpr ⟨List.mem_append_right _ (List.mem_of_getElem? (i := 235) (by decide +kernel)), by decide +kernel⟩
theorem w_236 : Cond.static (⟨"RangeReadersLaw", "readers", "(LRangeReaders;III[J)I"⟩ : MethodName) ∈ gW := List.mem_filter.mpr ⟨List.mem_append_right _ (List.mem_of_getElem? (i := 236) (by decide +kernel)), by decide +kernel⟩
theorem w_237 : Cond.codeWith (⟨"RangeReadersLaw", "readers", "(LRangeReaders;III[J)I"⟩ : MethodName) method_4_code 6 (Option.some Jvm.ClassFile.FieldType.int) [(0, 12, 15, 13)] ∈ gW := List.mem_filter.mpr ⟨List.mem_append_right _ (List.mem_of_getElem? (i := 237) (by decide +kernel)), by decide +kernel⟩
theorem w_238 : Cond.methodLink "RangeReadersLaw" 17 (⟨"RangeReaders", "readers", "(III)I"⟩ : MethodName) ∈ gW := List.mem_filter.mpr ⟨List.mem_append_right _ (List.mem_of_getElem? (i := 238) (by decide +kernel)), by decide +kernel⟩
theorem w_239 : Cond.instanceMethod (⟨"RangeReaders", "readers", "(III)I"⟩ : MethodName) ∈ gW := List.mem_filter.mpr ⟨List.mem_append_right _ (List.mem_of_getElem? (i := 239) (by decide +kernel)), by decide +kernel⟩
theorem w_240 : Cond.selects "RangeReaders" (⟨"RangeReaders", "readers", "(III)I"⟩ : MethodName) (⟨"RangeReaders", "readers", "(III)I"⟩ : MethodName) ∈ gW := List.mem_filter.mpr ⟨List.mem_append_right _ (List.mem_of_getElem? (i := 240) (by decide +kernel)), by decide +kernel⟩
theorem w_241 : Cond.code (⟨"RangeReaders", "readers", "(III)I"⟩ : MethodName) prog_1_method_6_code 4 (Option.some Jvm.ClassFile.FieldType.int) ∈ gW := List.mem_filter.mpr ⟨List.mem_append_right _ (List.mem_of_getElem? (i := 241) (by decide +kernel)), by decide +kernel⟩
theorem w_243 : Cond.methodLink "RangeReaders" 81 (⟨"RangeReaders", "findMeeting", "(LRangeReaders$Area;)V"⟩ : MethodName) ∈ gW := List.mem_filter.mpr ⟨List.mem_append_right _ (List.mem_of_getElem? (i := 243) (by decide +kernel)), by decide +kernel⟩
theorem w_245 : Cond.instanceMethod (⟨"RangeReaders", "findMeeting", "(LRangeReaders$Area;)V"⟩ : MethodName) ∈ gW := List.mem_filter.mpr ⟨List.mem_append_right _ (List.mem_of_getElem? (i := 245) (by decide +kernel)), by decide +kernel⟩
theorem w_246 : Cond.code (⟨"RangeReaders", "findMeeting", "(LRangeReaders$Area;)V"⟩ : MethodName) prog_1_method_23_code 4 (Option.none : Option Jvm.ClassFile.FieldType) ∈ gW := List.mem_filter.mpr ⟨List.mem_append_right _ (List.mem_of_getElem? (i := 246) (by decide +kernel)), by decide +kernel⟩
theorem w_249 : Cond.instanceMethod (⟨"RangeReaders$Area", "meets", "(LRangeReaders$Area;)Z"⟩ : MethodName) ∈ gW := List.mem_filter.mpr ⟨List.mem_append_right _ (List.mem_of_getElem? (i := 249) (by decide +kernel)), by decide +kernel⟩
theorem w_250 : Cond.code (⟨"RangeReaders$Area", "meets", "(LRangeReaders$Area;)Z"⟩ : MethodName) prog_2_method_8_code 2 (Option.some Jvm.ClassFile.FieldType.boolean) ∈ gW := List.mem_filter.mpr ⟨List.mem_append_right _ (List.mem_of_getElem? (i := 250) (by decide +kernel)), by decide +kernel⟩
theorem w_251 : Cond.methodLink "RangeReadersLaw" 66 (⟨"RangeReadersLaw", "meet", "(LRangeReaders;[J)I"⟩ : MethodName) ∈ gW := List.mem_filter.mpr ⟨List.mem_append_right _ (List.mem_of_getElem? (i := 251) (by decide +kernel)), by decide +kernel⟩
theorem w_252 : Cond.static (⟨"RangeReadersLaw", "meet", "(LRangeReaders;[J)I"⟩ : MethodName) ∈ gW := List.mem_filter.mpr ⟨List.mem_append_right _ (List.mem_of_getElem? (i := 252) (by decide +kernel)), by decide +kernel⟩
theorem w_253 : Cond.codeWith (⟨"RangeReadersLaw", "meet", "(LRangeReaders;[J)I"⟩ : MethodName) method_5_code 3 (Option.some Jvm.ClassFile.FieldType.int) [(0, 8, 11, 15)] ∈ gW := List.mem_filter.mpr ⟨List.mem_append_right _ (List.mem_of_getElem? (i := 253) (by decide +kernel)), by decide +kernel⟩
theorem w_254 : Cond.methodLink "RangeReadersLaw" 21 (⟨"RangeReaders", "meet", "()I"⟩ : MethodName) ∈ gW := List.mem_filter.mpr ⟨List.mem_append_right _ (List.mem_of_getElem? (i := 254) (by decide +kernel)), by decide +kernel⟩
theorem w_255 : Cond.instanceMethod (⟨"RangeReaders", "meet", "()I"⟩ : MethodName) ∈ gW := List.mem_filter.mpr ⟨List.mem_append_right _ (List.mem_of_getElem? (i := 255) (by decide +kernel)), by decide +kernel⟩
theorem w_256 : Cond.selects "RangeReaders" (⟨"RangeReaders", "meet", "()I"⟩ : MethodName) (⟨"RangeReaders", "meet", "()I"⟩ : MethodName) ∈ gW := List.mem_filter.mpr ⟨List.mem_append_right _ (List.mem_of_getElem? (i := 256) (by decide +kernel)), by decide +kernel⟩
theorem w_257 : Cond.code (⟨"RangeReaders", "meet", "()I"⟩ : MethodName) prog_1_method_7_code 1 (Option.some Jvm.ClassFile.FieldType.int) ∈ gW := List.mem_filter.mpr ⟨List.mem_append_right _ (List.mem_of_getElem? (i := 257) (by decide +kernel)), by decide +kernel⟩
theorem w_258 : Cond.methodLink "RangeReadersLaw" 83 (⟨"RangeReadersLaw", "insert", "(LRangeReaders;IZII[J)I"⟩ : MethodName) ∈ gW := List.mem_filter.mpr ⟨List.mem_append_right _ (List.mem_of_getElem? (i := 258) (by decide +kernel)), by decide +kernel⟩
theorem w_259 : Cond.static (⟨"RangeReadersLaw", "insert", "(LRangeReaders;IZII[J)I"⟩ : MethodName) ∈ gW := List.mem_filter.mpr ⟨List.mem_append_right _ (List.mem_of_getElem? (i := 259) (by decide +kernel)), by decide +kernel⟩
theorem w_260 : Cond.codeWith (⟨"RangeReadersLaw", "insert", "(LRangeReaders;IZII[J)I"⟩ : MethodName) method_6_code 7 (Option.some Jvm.ClassFile.FieldType.int) [(0, 14, 17, 13)] ∈ gW := List.mem_filter.mpr ⟨List.mem_append_right _ (List.mem_of_getElem? (i := 260) (by decide +kernel)), by decide +kernel⟩
theorem w_261 : Cond.methodLink "RangeReadersLaw" 25 (⟨"RangeReaders", "insert", "(IZII)I"⟩ : MethodName) ∈ gW := List.mem_filter.mpr ⟨List.mem_append_right _ (List.mem_of_getElem? (i := 261) (by decide +kernel)), by decide +kernel⟩
theorem w_262 : Cond.instanceMethod (⟨"RangeReaders", "insert", "(IZII)I"⟩ : MethodName) ∈ gW := List.mem_filter.mpr ⟨List.mem_append_right _ (List.mem_of_getElem? (i := 262) (by decide +kernel)), by decide +kernel⟩
theorem w_263 : Cond.selects "RangeReaders" (⟨"RangeReaders", "insert", "(IZII)I"⟩ : MethodName) (⟨"RangeReaders", "insert", "(IZII)I"⟩ : MethodName) ∈ gW := List.mem_filter.mpr ⟨List.mem_append_right _ (List.mem_of_getElem? (i := 263) (by decide +kernel)), by decide +kernel⟩
theorem w_264 : Cond.code (⟨"RangeReaders", "insert", "(IZII)I"⟩ : MethodName) prog_1_method_11_code 13 (Option.some Jvm.ClassFile.FieldType.int) ∈ gW := List.mem_filter.mpr ⟨List.mem_append_right _ (List.mem_of_getElem? (i := 264) (by decide +kernel)), by decide +kernel⟩
theorem w_265 : Cond.methodLink "RangeReaders" 103 (⟨"RangeReaders", "areLines", "(IZII)Z"⟩ : MethodName) ∈ gW := List.mem_filter.mpr ⟨List.mem_append_right _ (List.mem_of_getElem? (i := 265) (by decide +kernel)), by decide +kernel⟩
theorem w_266 : Cond.static (⟨"RangeReaders", "areLines", "(IZII)Z"⟩ : MethodName) ∈ gW := List.mem_filter.mpr ⟨List.mem_append_right _ (List.mem_of_getElem? (i := 266) (by decide +kernel)), by decide +kernel⟩
theorem w_267 : Cond.code (⟨"RangeReaders", "areLines", "(IZII)Z"⟩ : MethodName) prog_1_method_18_code 4 (Option.some Jvm.ClassFile.FieldType.boolean) ∈ gW := List.mem_filter.mpr ⟨List.mem_append_right _ (List.mem_of_getElem? (i := 267) (by decide +kernel)), by decide +kernel⟩
theorem w_271 : Cond.instanceMethod (⟨"RangeReaders$Area", "yieldsTo", "(IZ)Z"⟩ : MethodName) ∈ gW := List.mem_filter.mpr ⟨List.mem_append_right _ (List.mem_of_getElem? (i := 271) (by decide +kernel)), by decide +kernel⟩
theorem w_272 : Cond.code (⟨"RangeReaders$Area", "yieldsTo", "(IZ)Z"⟩ : MethodName) prog_2_method_7_code 4 (Option.some Jvm.ClassFile.FieldType.boolean) ∈ gW := List.mem_filter.mpr ⟨List.mem_append_right _ (List.mem_of_getElem? (i := 272) (by decide +kernel)), by decide +kernel⟩
theorem w_273 : Cond.methodLink "RangeReaders$Area" 28 (⟨"RangeReaders$Area", "first", "(Z)I"⟩ : MethodName) ∈ gW := List.mem_filter.mpr ⟨List.mem_append_right _ (List.mem_of_getElem? (i := 273) (by decide +kernel)), by decide +kernel⟩
theorem w_275 : Cond.instanceMethod (⟨"RangeReaders$Area", "first", "(Z)I"⟩ : MethodName) ∈ gW := List.mem_filter.mpr ⟨List.mem_append_right _ (List.mem_of_getElem? (i := 275) (by decide +kernel)), by decide +kernel⟩
theorem w_276 : Cond.code (⟨"RangeReaders$Area", "first", "(Z)I"⟩ : MethodName) prog_2_method_3_code 2 (Option.some Jvm.ClassFile.FieldType.int) ∈ gW := List.mem_filter.mpr ⟨List.mem_append_right _ (List.mem_of_getElem? (i := 276) (by decide +kernel)), by decide +kernel⟩
theorem w_277 : Cond.methodLink "RangeReaders$Area" 32 (⟨"RangeReaders$Area", "last", "(Z)I"⟩ : MethodName) ∈ gW := List.mem_filter.mpr ⟨List.mem_append_right _ (List.mem_of_getElem? (i := 277) (by decide +kernel)), by decide +kernel⟩
theorem w_279 : Cond.instanceMethod (⟨"RangeReaders$Area", "last", "(Z)I"⟩ : MethodName) ∈ gW := List.mem_filter.mpr ⟨List.mem_append_right _ (List.mem_of_getElem? (i := 279) (by decide +kernel)), by decide +kernel⟩
theorem w_280 : Cond.code (⟨"RangeReaders$Area", "last", "(Z)I"⟩ : MethodName) prog_2_method_4_code 2 (Option.some Jvm.ClassFile.FieldType.int) ∈ gW := List.mem_filter.mpr ⟨List.mem_append_right _ (List.mem_of_getElem? (i := 280) (by decide +kernel)), by decide +kernel⟩
theorem w_284 : Cond.methodLink "RangeReaders" 129 (⟨"RangeReaders", "putLines", "(IZII)I"⟩ : MethodName) ∈ gW := List.mem_filter.mpr ⟨List.mem_append_right _ (List.mem_of_getElem? (i := 284) (by decide +kernel)), by decide +kernel⟩
theorem w_286 : Cond.instanceMethod (⟨"RangeReaders", "putLines", "(IZII)I"⟩ : MethodName) ∈ gW := List.mem_filter.mpr ⟨List.mem_append_right _ (List.mem_of_getElem? (i := 286) (by decide +kernel)), by decide +kernel⟩
theorem w_287 : Cond.code (⟨"RangeReaders", "putLines", "(IZII)I"⟩ : MethodName) prog_1_method_24_code 7 (Option.some Jvm.ClassFile.FieldType.int) ∈ gW := List.mem_filter.mpr ⟨List.mem_append_right _ (List.mem_of_getElem? (i := 287) (by decide +kernel)), by decide +kernel⟩
theorem w_290 : Cond.instanceMethod (⟨"RangeReaders$Area", "setLines", "(ZII)V"⟩ : MethodName) ∈ gW := List.mem_filter.mpr ⟨List.mem_append_right _ (List.mem_of_getElem? (i := 290) (by decide +kernel)), by decide +kernel⟩
theorem w_291 : Cond.code (⟨"RangeReaders$Area", "setLines", "(ZII)V"⟩ : MethodName) prog_2_method_5_code 4 (Option.none : Option Jvm.ClassFile.FieldType) ∈ gW := List.mem_filter.mpr ⟨List.mem_append_right _ (List.mem_of_getElem? (i := 291) (by decide +kernel)), by decide +kernel⟩
theorem w_292 : Cond.methodLink "RangeReadersLaw" 87 (⟨"RangeReadersLaw", "delete", "(LRangeReaders;IZII[J)I"⟩ : MethodName) ∈ gW := List.mem_filter.mpr ⟨List.mem_append_right _ (List.mem_of_getElem? (i := 292) (by decide +kernel)), by decide +kernel⟩
theorem w_293 : Cond.static (⟨"RangeReadersLaw", "delete", "(LRangeReaders;IZII[J)I"⟩ : MethodName) ∈ gW := List.mem_filter.mpr ⟨List.mem_append_right _ (List.mem_of_getElem? (i := 293) (by decide +kernel)), by decide +kernel⟩
theorem w_294 : Cond.codeWith (⟨"RangeReadersLaw", "delete", "(LRangeReaders;IZII[J)I"⟩ : MethodName) method_7_code 7 (Option.some Jvm.ClassFile.FieldType.int) [(0, 14, 17, 13)] ∈ gW := List.mem_filter.mpr ⟨List.mem_append_right _ (List.mem_of_getElem? (i := 294) (by decide +kernel)), by decide +kernel⟩
theorem w_295 : Cond.methodLink "RangeReadersLaw" 29 (⟨"RangeReaders", "delete", "(IZII)I"⟩ : MethodName) ∈ gW := List.mem_filter.mpr ⟨List.mem_append_right _ (List.mem_of_getElem? (i := 295) (by decide +kernel)), by decide +kernel⟩
theorem w_296 : Cond.instanceMethod (⟨"RangeReaders", "delete", "(IZII)I"⟩ : MethodName) ∈ gW := List.mem_filter.mpr ⟨List.mem_append_right _ (List.mem_of_getElem? (i := 296) (by decide +kernel)), by decide +kernel⟩
theorem w_297 : Cond.selects "RangeReaders" (⟨"RangeReaders", "delete", "(IZII)I"⟩ : MethodName) (⟨"RangeReaders", "delete", "(IZII)I"⟩ : MethodName) ∈ gW := List.mem_filter.mpr ⟨List.mem_append_right _ (List.mem_of_getElem? (i := 297) (by decide +kernel)), by decide +kernel⟩
theorem w_298 : Cond.code (⟨"RangeReaders", "delete", "(IZII)I"⟩ : MethodName) prog_1_method_12_code 12 (Option.some Jvm.ClassFile.FieldType.int) ∈ gW := List.mem_filter.mpr ⟨List.mem_append_right _ (List.mem_of_getElem? (i := 298) (by decide +kernel)), by decide +kernel⟩
theorem w_299 : Cond.methodLink "RangeReaders" 133 (⟨"java/lang/Math", "max", "(II)I"⟩ : MethodName) ∈ gW := List.mem_filter.mpr ⟨List.mem_append_right _ (List.mem_of_getElem? (i := 299) (by decide +kernel)), by decide +kernel⟩
theorem w_300 : Cond.static (⟨"java/lang/Math", "max", "(II)I"⟩ : MethodName) ∈ gW := List.mem_filter.mpr ⟨List.mem_append_right _ (List.mem_of_getElem? (i := 300) (by decide +kernel)), by decide +kernel⟩
theorem w_301 : Cond.code (⟨"java/lang/Math", "max", "(II)I"⟩ : MethodName) prog_9_method_65_code 2 (Option.some Jvm.ClassFile.FieldType.int) ∈ gW := List.mem_filter.mpr ⟨List.mem_append_right _ (List.mem_of_getElem? (i := 301) (by decide +kernel)), by decide +kernel⟩
theorem w_302 : Cond.methodLink "RangeReadersLaw" 90 (⟨"RangeReadersLaw", "move", "(LRangeReaders;III[J)I"⟩ : MethodName) ∈ gW := List.mem_filter.mpr ⟨List.mem_append_right _ (List.mem_of_getElem? (i := 302) (by decide +kernel)), by decide +kernel⟩
theorem w_303 : Cond.static (⟨"RangeReadersLaw", "move", "(LRangeReaders;III[J)I"⟩ : MethodName) ∈ gW := List.mem_filter.mpr ⟨List.mem_append_right _ (List.mem_of_getElem? (i := 303) (by decide +kernel)), by decide +kernel⟩
theorem w_304 : Cond.codeWith (⟨"RangeReadersLaw", "move", "(LRangeReaders;III[J)I"⟩ : MethodName) method_8_code 6 (Option.some Jvm.ClassFile.FieldType.int) [(0, 12, 15, 13), (0, 12, 19, 15)] ∈ gW := List.mem_filter.mpr ⟨List.mem_append_right _ (List.mem_of_getElem? (i := 304) (by decide +kernel)), by decide +kernel⟩
theorem w_305 : Cond.methodLink "RangeReadersLaw" 32 (⟨"RangeReaders", "move", "(III)I"⟩ : MethodName) ∈ gW := List.mem_filter.mpr ⟨List.mem_append_right _ (List.mem_of_getElem? (i := 305) (by decide +kernel)), by decide +kernel⟩
theorem w_306 : Cond.instanceMethod (⟨"RangeReaders", "move", "(III)I"⟩ : MethodName) ∈ gW := List.mem_filter.mpr ⟨List.mem_append_right _ (List.mem_of_getElem? (i := 306) (by decide +kernel)), by decide +kernel⟩
theorem w_307 : Cond.selects "RangeReaders" (⟨"RangeReaders", "move", "(III)I"⟩ : MethodName) (⟨"RangeReaders", "move", "(III)I"⟩ : MethodName) ∈ gW := List.mem_filter.mpr ⟨List.mem_append_right _ (List.mem_of_getElem? (i := 307) (by decide +kernel)), by decide +kernel⟩
theorem w_308 : Cond.code (⟨"RangeReaders", "move", "(III)I"⟩ : MethodName) prog_1_method_13_code 5 (Option.some Jvm.ClassFile.FieldType.int) ∈ gW := List.mem_filter.mpr ⟨List.mem_append_right _ (List.mem_of_getElem? (i := 308) (by decide +kernel)), by decide +kernel⟩
theorem w_312 : Cond.instanceMethod (⟨"RangeReaders$Area", "shift", "(III)V"⟩ : MethodName) ∈ gW := List.mem_filter.mpr ⟨List.mem_append_right _ (List.mem_of_getElem? (i := 312) (by decide +kernel)), by decide +kernel⟩
theorem w_313 : Cond.code (⟨"RangeReaders$Area", "shift", "(III)V"⟩ : MethodName) prog_2_method_6_code 4 (Option.none : Option Jvm.ClassFile.FieldType) ∈ gW := List.mem_filter.mpr ⟨List.mem_append_right _ (List.mem_of_getElem? (i := 313) (by decide +kernel)), by decide +kernel⟩
theorem w_315 : Cond.methodLink "RangeReaders" 144 (⟨"RangeReaders", "carry", "(LRangeReaders$Area;LRangeReaders$Area;)I"⟩ : MethodName) ∈ gW := List.mem_filter.mpr ⟨List.mem_append_right _ (List.mem_of_getElem? (i := 315) (by decide +kernel)), by decide +kernel⟩
theorem w_317 : Cond.instanceMethod (⟨"RangeReaders", "carry", "(LRangeReaders$Area;LRangeReaders$Area;)I"⟩ : MethodName) ∈ gW := List.mem_filter.mpr ⟨List.mem_append_right _ (List.mem_of_getElem? (i := 317) (by decide +kernel)), by decide +kernel⟩
theorem w_318 : Cond.code (⟨"RangeReaders", "carry", "(LRangeReaders$Area;LRangeReaders$Area;)I"⟩ : MethodName) prog_1_method_25_code 8 (Option.some Jvm.ClassFile.FieldType.int) ∈ gW := List.mem_filter.mpr ⟨List.mem_append_right _ (List.mem_of_getElem? (i := 318) (by decide +kernel)), by decide +kernel⟩
theorem w_321 : Cond.instanceMethod (⟨"RangeReaders$Area", "liesIn", "(LRangeReaders$Area;)Z"⟩ : MethodName) ∈ gW := List.mem_filter.mpr ⟨List.mem_append_right _ (List.mem_of_getElem? (i := 321) (by decide +kernel)), by decide +kernel⟩
theorem w_322 : Cond.code (⟨"RangeReaders$Area", "liesIn", "(LRangeReaders$Area;)Z"⟩ : MethodName) prog_2_method_9_code 2 (Option.some Jvm.ClassFile.FieldType.boolean) ∈ gW := List.mem_filter.mpr ⟨List.mem_append_right _ (List.mem_of_getElem? (i := 322) (by decide +kernel)), by decide +kernel⟩
theorem w_323 : Cond.classLink "RangeReadersLaw" 36 "RangeReadersModel" ∈ gW := List.mem_filter.mpr ⟨List.mem_append_right _ (List.mem_of_getElem? (i := 323) (by decide +kernel)), by decide +kernel⟩
theorem w_324 : Cond.instantiable "RangeReadersModel" 17 ∈ gW := List.mem_filter.mpr ⟨List.mem_append_right _ (List.mem_of_getElem? (i := 324) (by decide +kernel)), by decide +kernel⟩
theorem w_325 : Cond.methodLink "RangeReadersLaw" 38 (⟨"RangeReadersModel", "<init>", "()V"⟩ : MethodName) ∈ gW := List.mem_filter.mpr ⟨List.mem_append_right _ (List.mem_of_getElem? (i := 325) (by decide +kernel)), by decide +kernel⟩
theorem w_326 : Cond.instanceMethod (⟨"RangeReadersModel", "<init>", "()V"⟩ : MethodName) ∈ gW := List.mem_filter.mpr ⟨List.mem_append_right _ (List.mem_of_getElem? (i := 326) (by decide +kernel)), by decide +kernel⟩
theorem w_327 : Cond.code (⟨"RangeReadersModel", "<init>", "()V"⟩ : MethodName) prog_5_method_1_code 1 (Option.none : Option Jvm.ClassFile.FieldType) ∈ gW := List.mem_filter.mpr ⟨List.mem_append_right _ (List.mem_of_getElem? (i := 327) (by decide +kernel)), by decide +kernel⟩
theorem w_328 : Cond.methodLink "RangeReadersModel" 1 (⟨"java/lang/Object", "<init>", "()V"⟩ : MethodName) ∈ gW := List.mem_filter.mpr ⟨List.mem_append_right _ (List.mem_of_getElem? (i := 328) (by decide +kernel)), by decide +kernel⟩
theorem w_329 : Cond.fieldLink "RangeReadersModel" 35 "RangeReadersModel" "code" "I" ∈ gW := List.mem_filter.mpr ⟨List.mem_append_right _ (List.mem_of_getElem? (i := 329) (by decide +kernel)), by decide +kernel⟩
theorem w_330 : Cond.fieldLink "RangeReadersModel" 7 "RangeReadersModel" "there" "[Z" ∈ gW := List.mem_filter.mpr ⟨List.mem_append_right _ (List.mem_of_getElem? (i := 330) (by decide +kernel)), by decide +kernel⟩
theorem w_331 : Cond.fieldLink "RangeReadersModel" 13 "RangeReadersModel" "sheets" "[I" ∈ gW := List.mem_filter.mpr ⟨List.mem_append_right _ (List.mem_of_getElem? (i := 331) (by decide +kernel)), by decide +kernel⟩
theorem w_332 : Cond.fieldLink "RangeReadersModel" 17 "RangeReadersModel" "tops" "[I" ∈ gW := List.mem_filter.mpr ⟨List.mem_append_right _ (List.mem_of_getElem? (i := 332) (by decide +kernel)), by decide +kernel⟩
theorem w_333 : Cond.fieldLink "RangeReadersModel" 20 "RangeReadersModel" "lefts" "[I" ∈ gW := List.mem_filter.mpr ⟨List.mem_append_right _ (List.mem_of_getElem? (i := 333) (by decide +kernel)), by decide +kernel⟩
theorem w_334 : Cond.fieldLink "RangeReadersModel" 23 "RangeReadersModel" "bottoms" "[I" ∈ gW := List.mem_filter.mpr ⟨List.mem_append_right _ (List.mem_of_getElem? (i := 334) (by decide +kernel)), by decide +kernel⟩
theorem w_335 : Cond.fieldLink "RangeReadersModel" 26 "RangeReadersModel" "rights" "[I" ∈ gW := List.mem_filter.mpr ⟨List.mem_append_right _ (List.mem_of_getElem? (i := 335) (by decide +kernel)), by decide +kernel⟩
theorem w_336 : Cond.fieldLink "RangeReadersModel" 29 "RangeReadersModel" "owners" "[I" ∈ gW := List.mem_filter.mpr ⟨List.mem_append_right _ (List.mem_of_getElem? (i := 336) (by decide +kernel)), by decide +kernel⟩
theorem w_337 : Cond.fieldLink "RangeReadersModel" 63 "RangeReadersModel" "entries" "I" ∈ gW := List.mem_filter.mpr ⟨List.mem_append_right _ (List.mem_of_getElem? (i := 337) (by decide +kernel)), by decide +kernel⟩
theorem w_338 : Cond.fieldLink "RangeReadersModel" 59 "RangeReadersModel" "isRectangle" "Z" ∈ gW := List.mem_filter.mpr ⟨List.mem_append_right _ (List.mem_of_getElem? (i := 338) (by decide +kernel)), by decide +kernel⟩
theorem w_339 : Cond.fieldLink "RangeReadersModel" 44 "RangeReadersModel" "sheet" "I" ∈ gW := List.mem_filter.mpr ⟨List.mem_append_right _ (List.mem_of_getElem? (i := 339) (by decide +kernel)), by decide +kernel⟩
theorem w_340 : Cond.fieldLink "RangeReadersModel" 47 "RangeReadersModel" "top" "I" ∈ gW := List.mem_filter.mpr ⟨List.mem_append_right _ (List.mem_of_getElem? (i := 340) (by decide +kernel)), by decide +kernel⟩
theorem w_341 : Cond.fieldLink "RangeReadersModel" 50 "RangeReadersModel" "left" "I" ∈ gW := List.mem_filter.mpr ⟨List.mem_append_right _ (List.mem_of_getElem? (i := 341) (by decide +kernel)), by decide +kernel⟩
theorem w_342 : Cond.fieldLink "RangeReadersModel" 53 "RangeReadersModel" "bottom" "I" ∈ gW := List.mem_filter.mpr ⟨List.mem_append_right _ (List.mem_of_getElem? (i := 342) (by decide +kernel)), by decide +kernel⟩
theorem w_343 : Cond.fieldLink "RangeReadersModel" 56 "RangeReadersModel" "right" "I" ∈ gW := List.mem_filter.mpr ⟨List.mem_append_right _ (List.mem_of_getElem? (i := 343) (by decide +kernel)), by decide +kernel⟩
theorem w_344 : Cond.fieldLink "RangeReadersModel" 74 "RangeReadersModel" "found" "I" ∈ gW := List.mem_filter.mpr ⟨List.mem_append_right _ (List.mem_of_getElem? (i := 344) (by decide +kernel)), by decide +kernel⟩
theorem w_345 : Cond.fieldLink "RangeReadersModel" 32 "RangeReadersModel" "met" "[I" ∈ gW := List.mem_filter.mpr ⟨List.mem_append_right _ (List.mem_of_getElem? (i := 345) (by decide +kernel)), by decide +kernel⟩
theorem w_381 : Cond.arrayClass Jvm.ClassFile.FieldType.boolean ∈ gW := List.mem_filter.mpr ⟨List.mem_append_right _ (List.mem_of_getElem? (i := 381) (by decide +kernel)), by decide +kernel⟩
theorem w_382 : Cond.methodLink "RangeReadersLaw" 50 (⟨"RangeReadersModel", "thrown", "()I"⟩ : MethodName) ∈ gW := List.mem_filter.mpr ⟨List.mem_append_right _ (List.mem_of_getElem? (i := 382) (by decide +kernel)), by decide +kernel⟩
theorem w_383 : Cond.instanceMethod (⟨"RangeReadersModel", "thrown", "()I"⟩ : MethodName) ∈ gW := List.mem_filter.mpr ⟨List.mem_append_right _ (List.mem_of_getElem? (i := 383) (by decide +kernel)), by decide +kernel⟩
theorem w_384 : Cond.selects "RangeReadersModel" (⟨"RangeReadersModel", "thrown", "()I"⟩ : MethodName) (⟨"RangeReadersModel", "thrown", "()I"⟩ : MethodName) ∈ gW := List.mem_filter.mpr ⟨List.mem_append_right _ (List.mem_of_getElem? (i := 384) (by decide +kernel)), by decide +kernel⟩
theorem w_385 : Cond.code (⟨"RangeReadersModel", "thrown", "()I"⟩ : MethodName) prog_5_method_2_code 1 (Option.some Jvm.ClassFile.FieldType.int) ∈ gW := List.mem_filter.mpr ⟨List.mem_append_right _ (List.mem_of_getElem? (i := 385) (by decide +kernel)), by decide +kernel⟩
theorem w_386 : Cond.methodLink "RangeReadersLaw" 43 (⟨"RangeReadersModel", "rectangle", "(IIIII)Z"⟩ : MethodName) ∈ gW := List.mem_filter.mpr ⟨List.mem_append_right _ (List.mem_of_getElem? (i := 386) (by decide +kernel)), by decide +kernel⟩
theorem w_387 : Cond.instanceMethod (⟨"RangeReadersModel", "rectangle", "(IIIII)Z"⟩ : MethodName) ∈ gW := List.mem_filter.mpr ⟨List.mem_append_right _ (List.mem_of_getElem? (i := 387) (by decide +kernel)), by decide +kernel⟩
theorem w_388 : Cond.selects "RangeReadersModel" (⟨"RangeReadersModel", "rectangle", "(IIIII)Z"⟩ : MethodName) (⟨"RangeReadersModel", "rectangle", "(IIIII)Z"⟩ : MethodName) ∈ gW := List.mem_filter.mpr ⟨List.mem_append_right _ (List.mem_of_getElem? (i := 388) (by decide +kernel)), by decide +kernel⟩
theorem w_389 : Cond.code (⟨"RangeReadersModel", "rectangle", "(IIIII)Z"⟩ : MethodName) prog_5_method_4_code 6 (Option.some Jvm.ClassFile.FieldType.boolean) ∈ gW := List.mem_filter.mpr ⟨List.mem_append_right _ (List.mem_of_getElem? (i := 389) (by decide +kernel)), by decide +kernel⟩
theorem w_390 : Cond.methodLink "RangeReadersModel" 39 (⟨"RangeReadersModel", "within", "(III)Z"⟩ : MethodName) ∈ gW := List.mem_filter.mpr ⟨List.mem_append_right _ (List.mem_of_getElem? (i := 390) (by decide +kernel)), by decide +kernel⟩
theorem w_391 : Cond.static (⟨"RangeReadersModel", "within", "(III)Z"⟩ : MethodName) ∈ gW := List.mem_filter.mpr ⟨List.mem_append_right _ (List.mem_of_getElem? (i := 391) (by decide +kernel)), by decide +kernel⟩
theorem w_392 : Cond.code (⟨"RangeReadersModel", "within", "(III)Z"⟩ : MethodName) prog_5_method_3_code 3 (Option.some Jvm.ClassFile.FieldType.boolean) ∈ gW := List.mem_filter.mpr ⟨List.mem_append_right _ (List.mem_of_getElem? (i := 392) (by decide +kernel)), by decide +kernel⟩
theorem w_393 : Cond.constant "RangeReadersModel" 43 1048576 ∈ gW := List.mem_filter.mpr ⟨List.mem_append_right _ (List.mem_of_getElem? (i := 393) (by decide +kernel)), by decide +kernel⟩
theorem w_394 : Cond.methodLink "RangeReadersLaw" 49 (⟨"RangeReadersModel", "add", "(I)I"⟩ : MethodName) ∈ gW := List.mem_filter.mpr ⟨List.mem_append_right _ (List.mem_of_getElem? (i := 394) (by decide +kernel)), by decide +kernel⟩
theorem w_395 : Cond.instanceMethod (⟨"RangeReadersModel", "add", "(I)I"⟩ : MethodName) ∈ gW := List.mem_filter.mpr ⟨List.mem_append_right _ (List.mem_of_getElem? (i := 395) (by decide +kernel)), by decide +kernel⟩
theorem w_396 : Cond.selects "RangeReadersModel" (⟨"RangeReadersModel", "add", "(I)I"⟩ : MethodName) (⟨"RangeReadersModel", "add", "(I)I"⟩ : MethodName) ∈ gW := List.mem_filter.mpr ⟨List.mem_append_right _ (List.mem_of_getElem? (i := 396) (by decide +kernel)), by decide +kernel⟩
theorem w_397 : Cond.code (⟨"RangeReadersModel", "add", "(I)I"⟩ : MethodName) prog_5_method_5_code 3 (Option.some Jvm.ClassFile.FieldType.int) ∈ gW := List.mem_filter.mpr ⟨List.mem_append_right _ (List.mem_of_getElem? (i := 397) (by decide +kernel)), by decide +kernel⟩
theorem w_398 : Cond.methodLink "RangeReadersLaw" 57 (⟨"RangeReadersModel", "remove", "(I)Z"⟩ : MethodName) ∈ gW := List.mem_filter.mpr ⟨List.mem_append_right _ (List.mem_of_getElem? (i := 398) (by decide +kernel)), by decide +kernel⟩
theorem w_399 : Cond.instanceMethod (⟨"RangeReadersModel", "remove", "(I)Z"⟩ : MethodName) ∈ gW := List.mem_filter.mpr ⟨List.mem_append_right _ (List.mem_of_getElem? (i := 399) (by decide +kernel)), by decide +kernel⟩
theorem w_400 : Cond.selects "RangeReadersModel" (⟨"RangeReadersModel", "remove", "(I)Z"⟩ : MethodName) (⟨"RangeReadersModel", "remove", "(I)Z"⟩ : MethodName) ∈ gW := List.mem_filter.mpr ⟨List.mem_append_right _ (List.mem_of_getElem? (i := 400) (by decide +kernel)), by decide +kernel⟩
theorem w_401 : Cond.code (⟨"RangeReadersModel", "remove", "(I)Z"⟩ : MethodName) prog_5_method_8_code 2 (Option.some Jvm.ClassFile.FieldType.boolean) ∈ gW := List.mem_filter.mpr ⟨List.mem_append_right _ (List.mem_of_getElem? (i := 401) (by decide +kernel)), by decide +kernel⟩
theorem w_402 : Cond.methodLink "RangeReadersModel" 66 (⟨"RangeReadersModel", "isThere", "(I)Z"⟩ : MethodName) ∈ gW := List.mem_filter.mpr ⟨List.mem_append_right _ (List.mem_of_getElem? (i := 402) (by decide +kernel)), by decide +kernel⟩
theorem w_404 : Cond.instanceMethod (⟨"RangeReadersModel", "isThere", "(I)Z"⟩ : MethodName) ∈ gW := List.mem_filter.mpr ⟨List.mem_append_right _ (List.mem_of_getElem? (i := 404) (by decide +kernel)), by decide +kernel⟩
theorem w_405 : Cond.code (⟨"RangeReadersModel", "isThere", "(I)Z"⟩ : MethodName) prog_5_method_6_code 2 (Option.some Jvm.ClassFile.FieldType.boolean) ∈ gW := List.mem_filter.mpr ⟨List.mem_append_right _ (List.mem_of_getElem? (i := 405) (by decide +kernel)), by decide +kernel⟩
theorem w_406 : Cond.methodLink "RangeReadersModel" 70 (⟨"RangeReadersModel", "go", "(I)V"⟩ : MethodName) ∈ gW := List.mem_filter.mpr ⟨List.mem_append_right _ (List.mem_of_getElem? (i := 406) (by decide +kernel)), by decide +kernel⟩
theorem w_408 : Cond.instanceMethod (⟨"RangeReadersModel", "go", "(I)V"⟩ : MethodName) ∈ gW := List.mem_filter.mpr ⟨List.mem_append_right _ (List.mem_of_getElem? (i := 408) (by decide +kernel)), by decide +kernel⟩
theorem w_409 : Cond.code (⟨"RangeReadersModel", "go", "(I)V"⟩ : MethodName) prog_5_method_7_code 2 (Option.none : Option Jvm.ClassFile.FieldType) ∈ gW := List.mem_filter.mpr ⟨List.mem_append_right _ (List.mem_of_getElem? (i := 409) (by decide +kernel)), by decide +kernel⟩
theorem w_410 : Cond.methodLink "RangeReadersLaw" 61 (⟨"RangeReadersModel", "drop", "(I)I"⟩ : MethodName) ∈ gW := List.mem_filter.mpr ⟨List.mem_append_right _ (List.mem_of_getElem? (i := 410) (by decide +kernel)), by decide +kernel⟩
theorem w_411 : Cond.instanceMethod (⟨"RangeReadersModel", "drop", "(I)I"⟩ : MethodName) ∈ gW := List.mem_filter.mpr ⟨List.mem_append_right _ (List.mem_of_getElem? (i := 411) (by decide +kernel)), by decide +kernel⟩
theorem w_412 : Cond.selects "RangeReadersModel" (⟨"RangeReadersModel", "drop", "(I)I"⟩ : MethodName) (⟨"RangeReadersModel", "drop", "(I)I"⟩ : MethodName) ∈ gW := List.mem_filter.mpr ⟨List.mem_append_right _ (List.mem_of_getElem? (i := 412) (by decide +kernel)), by decide +kernel⟩
theorem w_413 : Cond.code (⟨"RangeReadersModel", "drop", "(I)I"⟩ : MethodName) prog_5_method_9_code 4 (Option.some Jvm.ClassFile.FieldType.int) ∈ gW := List.mem_filter.mpr ⟨List.mem_append_right _ (List.mem_of_getElem? (i := 413) (by decide +kernel)), by decide +kernel⟩
theorem w_414 : Cond.methodLink "RangeReadersLaw" 65 (⟨"RangeReadersModel", "readers", "(III)I"⟩ : MethodName) ∈ gW := List.mem_filter.mpr ⟨List.mem_append_right _ (List.mem_of_getElem? (i := 414) (by decide +kernel)), by decide +kernel⟩
theorem w_415 : Cond.instanceMethod (⟨"RangeReadersModel", "readers", "(III)I"⟩ : MethodName) ∈ gW := List.mem_filter.mpr ⟨List.mem_append_right _ (List.mem_of_getElem? (i := 415) (by decide +kernel)), by decide +kernel⟩
theorem w_416 : Cond.selects "RangeReadersModel" (⟨"RangeReadersModel", "readers", "(III)I"⟩ : MethodName) (⟨"RangeReadersModel", "readers", "(III)I"⟩ : MethodName) ∈ gW := List.mem_filter.mpr ⟨List.mem_append_right _ (List.mem_of_getElem? (i := 416) (by decide +kernel)), by decide +kernel⟩
theorem w_417 : Cond.code (⟨"RangeReadersModel", "readers", "(III)I"⟩ : MethodName) prog_5_method_12_code 4 (Option.some Jvm.ClassFile.FieldType.int) ∈ gW := List.mem_filter.mpr ⟨List.mem_append_right _ (List.mem_of_getElem? (i := 417) (by decide +kernel)), by decide +kernel⟩
theorem w_418 : Cond.methodLink "RangeReadersModel" 81 (⟨"RangeReadersModel", "meetAll", "(IIIII)I"⟩ : MethodName) ∈ gW := List.mem_filter.mpr ⟨List.mem_append_right _ (List.mem_of_getElem? (i := 418) (by decide +kernel)), by decide +kernel⟩
theorem w_420 : Cond.instanceMethod (⟨"RangeReadersModel", "meetAll", "(IIIII)I"⟩ : MethodName) ∈ gW := List.mem_filter.mpr ⟨List.mem_append_right _ (List.mem_of_getElem? (i := 420) (by decide +kernel)), by decide +kernel⟩
theorem w_421 : Cond.code (⟨"RangeReadersModel", "meetAll", "(IIIII)I"⟩ : MethodName) prog_5_method_11_code 7 (Option.some Jvm.ClassFile.FieldType.int) ∈ gW := List.mem_filter.mpr ⟨List.mem_append_right _ (List.mem_of_getElem? (i := 421) (by decide +kernel)), by decide +kernel⟩
theorem w_422 : Cond.methodLink "RangeReadersModel" 77 (⟨"RangeReadersModel", "meets", "(IIIIII)Z"⟩ : MethodName) ∈ gW := List.mem_filter.mpr ⟨List.mem_append_right _ (List.mem_of_getElem? (i := 422) (by decide +kernel)), by decide +kernel⟩
theorem w_424 : Cond.instanceMethod (⟨"RangeReadersModel", "meets", "(IIIIII)Z"⟩ : MethodName) ∈ gW := List.mem_filter.mpr ⟨List.mem_append_right _ (List.mem_of_getElem? (i := 424) (by decide +kernel)), by decide +kernel⟩
theorem w_425 : Cond.code (⟨"RangeReadersModel", "meets", "(IIIIII)Z"⟩ : MethodName) prog_5_method_10_code 7 (Option.some Jvm.ClassFile.FieldType.boolean) ∈ gW := List.mem_filter.mpr ⟨List.mem_append_right _ (List.mem_of_getElem? (i := 425) (by decide +kernel)), by decide +kernel⟩
theorem w_426 : Cond.methodLink "RangeReadersLaw" 69 (⟨"RangeReadersModel", "meet", "()I"⟩ : MethodName) ∈ gW := List.mem_filter.mpr ⟨List.mem_append_right _ (List.mem_of_getElem? (i := 426) (by decide +kernel)), by decide +kernel⟩
theorem w_427 : Cond.instanceMethod (⟨"RangeReadersModel", "meet", "()I"⟩ : MethodName) ∈ gW := List.mem_filter.mpr ⟨List.mem_append_right _ (List.mem_of_getElem? (i := 427) (by decide +kernel)), by decide +kernel⟩
theorem w_428 : Cond.selects "RangeReadersModel" (⟨"RangeReadersModel", "meet", "()I"⟩ : MethodName) (⟨"RangeReadersModel", "meet", "()I"⟩ : MethodName) ∈ gW := List.mem_filter.mpr ⟨List.mem_append_right _ (List.mem_of_getElem? (i := 428) (by decide +kernel)), by decide +kernel⟩
theorem w_429 : Cond.code (⟨"RangeReadersModel", "meet", "()I"⟩ : MethodName) prog_5_method_13_code 1 (Option.some Jvm.ClassFile.FieldType.int) ∈ gW := List.mem_filter.mpr ⟨List.mem_append_right _ (List.mem_of_getElem? (i := 429) (by decide +kernel)), by decide +kernel⟩
theorem w_430 : Cond.methodLink "RangeReadersLaw" 73 (⟨"RangeReadersModel", "met", "(I)I"⟩ : MethodName) ∈ gW := List.mem_filter.mpr ⟨List.mem_append_right _ (List.mem_of_getElem? (i := 430) (by decide +kernel)), by decide +kernel⟩
theorem w_431 : Cond.instanceMethod (⟨"RangeReadersModel", "met", "(I)I"⟩ : MethodName) ∈ gW := List.mem_filter.mpr ⟨List.mem_append_right _ (List.mem_of_getElem? (i := 431) (by decide +kernel)), by decide +kernel⟩
theorem w_432 : Cond.selects "RangeReadersModel" (⟨"RangeReadersModel", "met", "(I)I"⟩ : MethodName) (⟨"RangeReadersModel", "met", "(I)I"⟩ : MethodName) ∈ gW := List.mem_filter.mpr ⟨List.mem_append_right _ (List.mem_of_getElem? (i := 432) (by decide +kernel)), by decide +kernel⟩
theorem w_433 : Cond.code (⟨"RangeReadersModel", "met", "(I)I"⟩ : MethodName) prog_5_method_14_code 2 (Option.some Jvm.ClassFile.FieldType.int) ∈ gW := List.mem_filter.mpr ⟨List.mem_append_right _ (List.mem_of_getElem? (i := 433) (by decide +kernel)), by decide +kernel⟩
theorem w_434 : Cond.methodLink "RangeReadersLaw" 78 (⟨"RangeReadersModel", "entry", "(II)I"⟩ : MethodName) ∈ gW := List.mem_filter.mpr ⟨List.mem_append_right _ (List.mem_of_getElem? (i := 434) (by decide +kernel)), by decide +kernel⟩
theorem w_435 : Cond.instanceMethod (⟨"RangeReadersModel", "entry", "(II)I"⟩ : MethodName) ∈ gW := List.mem_filter.mpr ⟨List.mem_append_right _ (List.mem_of_getElem? (i := 435) (by decide +kernel)), by decide +kernel⟩
theorem w_436 : Cond.selects "RangeReadersModel" (⟨"RangeReadersModel", "entry", "(II)I"⟩ : MethodName) (⟨"RangeReadersModel", "entry", "(II)I"⟩ : MethodName) ∈ gW := List.mem_filter.mpr ⟨List.mem_append_right _ (List.mem_of_getElem? (i := 436) (by decide +kernel)), by decide +kernel⟩
theorem w_437 : Cond.code (⟨"RangeReadersModel", "entry", "(II)I"⟩ : MethodName) prog_5_method_15_code 3 (Option.some Jvm.ClassFile.FieldType.int) ∈ gW := List.mem_filter.mpr ⟨List.mem_append_right _ (List.mem_of_getElem? (i := 437) (by decide +kernel)), by decide +kernel⟩
theorem w_438 : Cond.methodLink "RangeReadersLaw" 82 (⟨"RangeReadersModel", "count", "()I"⟩ : MethodName) ∈ gW := List.mem_filter.mpr ⟨List.mem_append_right _ (List.mem_of_getElem? (i := 438) (by decide +kernel)), by decide +kernel⟩
theorem w_439 : Cond.instanceMethod (⟨"RangeReadersModel", "count", "()I"⟩ : MethodName) ∈ gW := List.mem_filter.mpr ⟨List.mem_append_right _ (List.mem_of_getElem? (i := 439) (by decide +kernel)), by decide +kernel⟩
theorem w_440 : Cond.selects "RangeReadersModel" (⟨"RangeReadersModel", "count", "()I"⟩ : MethodName) (⟨"RangeReadersModel", "count", "()I"⟩ : MethodName) ∈ gW := List.mem_filter.mpr ⟨List.mem_append_right _ (List.mem_of_getElem? (i := 440) (by decide +kernel)), by decide +kernel⟩
theorem w_441 : Cond.code (⟨"RangeReadersModel", "count", "()I"⟩ : MethodName) prog_5_method_16_code 1 (Option.some Jvm.ClassFile.FieldType.int) ∈ gW := List.mem_filter.mpr ⟨List.mem_append_right _ (List.mem_of_getElem? (i := 441) (by decide +kernel)), by decide +kernel⟩
theorem w_442 : Cond.methodLink "RangeReadersLaw" 86 (⟨"RangeReadersModel", "insert", "(IZII)I"⟩ : MethodName) ∈ gW := List.mem_filter.mpr ⟨List.mem_append_right _ (List.mem_of_getElem? (i := 442) (by decide +kernel)), by decide +kernel⟩
theorem w_443 : Cond.instanceMethod (⟨"RangeReadersModel", "insert", "(IZII)I"⟩ : MethodName) ∈ gW := List.mem_filter.mpr ⟨List.mem_append_right _ (List.mem_of_getElem? (i := 443) (by decide +kernel)), by decide +kernel⟩
theorem w_444 : Cond.selects "RangeReadersModel" (⟨"RangeReadersModel", "insert", "(IZII)I"⟩ : MethodName) (⟨"RangeReadersModel", "insert", "(IZII)I"⟩ : MethodName) ∈ gW := List.mem_filter.mpr ⟨List.mem_append_right _ (List.mem_of_getElem? (i := 444) (by decide +kernel)), by decide +kernel⟩
theorem w_445 : Cond.code (⟨"RangeReadersModel", "insert", "(IZII)I"⟩ : MethodName) prog_5_method_23_code 9 (Option.some Jvm.ClassFile.FieldType.int) ∈ gW := List.mem_filter.mpr ⟨List.mem_append_right _ (List.mem_of_getElem? (i := 445) (by decide +kernel)), by decide +kernel⟩
theorem w_446 : Cond.methodLink "RangeReadersModel" 96 (⟨"RangeReadersModel", "isLine", "(IZII)Z"⟩ : MethodName) ∈ gW := List.mem_filter.mpr ⟨List.mem_append_right _ (List.mem_of_getElem? (i := 446) (by decide +kernel)), by decide +kernel⟩
theorem w_448 : Cond.instanceMethod (⟨"RangeReadersModel", "isLine", "(IZII)Z"⟩ : MethodName) ∈ gW := List.mem_filter.mpr ⟨List.mem_append_right _ (List.mem_of_getElem? (i := 448) (by decide +kernel)), by decide +kernel⟩
theorem w_449 : Cond.code (⟨"RangeReadersModel", "isLine", "(IZII)Z"⟩ : MethodName) prog_5_method_19_code 5 (Option.some Jvm.ClassFile.FieldType.boolean) ∈ gW := List.mem_filter.mpr ⟨List.mem_append_right _ (List.mem_of_getElem? (i := 449) (by decide +kernel)), by decide +kernel⟩
theorem w_450 : Cond.methodLink "RangeReadersModel" 85 (⟨"RangeReadersModel", "linesOf", "(Z)I"⟩ : MethodName) ∈ gW := List.mem_filter.mpr ⟨List.mem_append_right _ (List.mem_of_getElem? (i := 450) (by decide +kernel)), by decide +kernel⟩
theorem w_451 : Cond.static (⟨"RangeReadersModel", "linesOf", "(Z)I"⟩ : MethodName) ∈ gW := List.mem_filter.mpr ⟨List.mem_append_right _ (List.mem_of_getElem? (i := 451) (by decide +kernel)), by decide +kernel⟩
theorem w_452 : Cond.code (⟨"RangeReadersModel", "linesOf", "(Z)I"⟩ : MethodName) prog_5_method_18_code 1 (Option.some Jvm.ClassFile.FieldType.int) ∈ gW := List.mem_filter.mpr ⟨List.mem_append_right _ (List.mem_of_getElem? (i := 452) (by decide +kernel)), by decide +kernel⟩
theorem w_453 : Cond.methodLink "RangeReadersModel" 100 (⟨"RangeReadersModel", "isPart", "(IIZ)Z"⟩ : MethodName) ∈ gW := List.mem_filter.mpr ⟨List.mem_append_right _ (List.mem_of_getElem? (i := 453) (by decide +kernel)), by decide +kernel⟩
theorem w_455 : Cond.instanceMethod (⟨"RangeReadersModel", "isPart", "(IIZ)Z"⟩ : MethodName) ∈ gW := List.mem_filter.mpr ⟨List.mem_append_right _ (List.mem_of_getElem? (i := 455) (by decide +kernel)), by decide +kernel⟩
theorem w_456 : Cond.code (⟨"RangeReadersModel", "isPart", "(IIZ)Z"⟩ : MethodName) prog_5_method_22_code 4 (Option.some Jvm.ClassFile.FieldType.boolean) ∈ gW := List.mem_filter.mpr ⟨List.mem_append_right _ (List.mem_of_getElem? (i := 456) (by decide +kernel)), by decide +kernel⟩
theorem w_457 : Cond.methodLink "RangeReadersModel" 89 (⟨"RangeReadersModel", "first", "(IZ)I"⟩ : MethodName) ∈ gW := List.mem_filter.mpr ⟨List.mem_append_right _ (List.mem_of_getElem? (i := 457) (by decide +kernel)), by decide +kernel⟩
theorem w_459 : Cond.instanceMethod (⟨"RangeReadersModel", "first", "(IZ)I"⟩ : MethodName) ∈ gW := List.mem_filter.mpr ⟨List.mem_append_right _ (List.mem_of_getElem? (i := 459) (by decide +kernel)), by decide +kernel⟩
theorem w_460 : Cond.code (⟨"RangeReadersModel", "first", "(IZ)I"⟩ : MethodName) prog_5_method_20_code 3 (Option.some Jvm.ClassFile.FieldType.int) ∈ gW := List.mem_filter.mpr ⟨List.mem_append_right _ (List.mem_of_getElem? (i := 460) (by decide +kernel)), by decide +kernel⟩
theorem w_461 : Cond.methodLink "RangeReadersModel" 93 (⟨"RangeReadersModel", "last", "(IZ)I"⟩ : MethodName) ∈ gW := List.mem_filter.mpr ⟨List.mem_append_right _ (List.mem_of_getElem? (i := 461) (by decide +kernel)), by decide +kernel⟩
theorem w_463 : Cond.instanceMethod (⟨"RangeReadersModel", "last", "(IZ)I"⟩ : MethodName) ∈ gW := List.mem_filter.mpr ⟨List.mem_append_right _ (List.mem_of_getElem? (i := 463) (by decide +kernel)), by decide +kernel⟩
theorem w_464 : Cond.code (⟨"RangeReadersModel", "last", "(IZ)I"⟩ : MethodName) prog_5_method_21_code 3 (Option.some Jvm.ClassFile.FieldType.int) ∈ gW := List.mem_filter.mpr ⟨List.mem_append_right _ (List.mem_of_getElem? (i := 464) (by decide +kernel)), by decide +kernel⟩
theorem w_465 : Cond.methodLink "RangeReadersModel" 104 (⟨"RangeReadersModel", "become", "(IZII)I"⟩ : MethodName) ∈ gW := List.mem_filter.mpr ⟨List.mem_append_right _ (List.mem_of_getElem? (i := 465) (by decide +kernel)), by decide +kernel⟩
theorem w_467 : Cond.instanceMethod (⟨"RangeReadersModel", "become", "(IZII)I"⟩ : MethodName) ∈ gW := List.mem_filter.mpr ⟨List.mem_append_right _ (List.mem_of_getElem? (i := 467) (by decide +kernel)), by decide +kernel⟩
theorem w_468 : Cond.code (⟨"RangeReadersModel", "become", "(IZII)I"⟩ : MethodName) prog_5_method_17_code 6 (Option.some Jvm.ClassFile.FieldType.int) ∈ gW := List.mem_filter.mpr ⟨List.mem_append_right _ (List.mem_of_getElem? (i := 468) (by decide +kernel)), by decide +kernel⟩
theorem w_469 : Cond.methodLink "RangeReadersLaw" 89 (⟨"RangeReadersModel", "delete", "(IZII)I"⟩ : MethodName) ∈ gW := List.mem_filter.mpr ⟨List.mem_append_right _ (List.mem_of_getElem? (i := 469) (by decide +kernel)), by decide +kernel⟩
theorem w_470 : Cond.instanceMethod (⟨"RangeReadersModel", "delete", "(IZII)I"⟩ : MethodName) ∈ gW := List.mem_filter.mpr ⟨List.mem_append_right _ (List.mem_of_getElem? (i := 470) (by decide +kernel)), by decide +kernel⟩
theorem w_471 : Cond.selects "RangeReadersModel" (⟨"RangeReadersModel", "delete", "(IZII)I"⟩ : MethodName) (⟨"RangeReadersModel", "delete", "(IZII)I"⟩ : MethodName) ∈ gW := List.mem_filter.mpr ⟨List.mem_append_right _ (List.mem_of_getElem? (i := 471) (by decide +kernel)), by decide +kernel⟩
theorem w_472 : Cond.code (⟨"RangeReadersModel", "delete", "(IZII)I"⟩ : MethodName) prog_5_method_24_code 10 (Option.some Jvm.ClassFile.FieldType.int) ∈ gW := List.mem_filter.mpr ⟨List.mem_append_right _ (List.mem_of_getElem? (i := 472) (by decide +kernel)), by decide +kernel⟩
theorem w_473 : Cond.methodLink "RangeReadersLaw" 92 (⟨"RangeReadersModel", "move", "(III)I"⟩ : MethodName) ∈ gW := List.mem_filter.mpr ⟨List.mem_append_right _ (List.mem_of_getElem? (i := 473) (by decide +kernel)), by decide +kernel⟩
theorem w_474 : Cond.instanceMethod (⟨"RangeReadersModel", "move", "(III)I"⟩ : MethodName) ∈ gW := List.mem_filter.mpr ⟨List.mem_append_right _ (List.mem_of_getElem? (i := 474) (by decide +kernel)), by decide +kernel⟩
theorem w_475 : Cond.selects "RangeReadersModel" (⟨"RangeReadersModel", "move", "(III)I"⟩ : MethodName) (⟨"RangeReadersModel", "move", "(III)I"⟩ : MethodName) ∈ gW := List.mem_filter.mpr ⟨List.mem_append_right _ (List.mem_of_getElem? (i := 475) (by decide +kernel)), by decide +kernel⟩
theorem w_476 : Cond.code (⟨"RangeReadersModel", "move", "(III)I"⟩ : MethodName) prog_5_method_26_code 11 (Option.some Jvm.ClassFile.FieldType.int) ∈ gW := List.mem_filter.mpr ⟨List.mem_append_right _ (List.mem_of_getElem? (i := 476) (by decide +kernel)), by decide +kernel⟩
theorem w_477 : Cond.methodLink "RangeReadersModel" 108 (⟨"RangeReadersModel", "isIn", "(IIIIII)Z"⟩ : MethodName) ∈ gW := List.mem_filter.mpr ⟨List.mem_append_right _ (List.mem_of_getElem? (i := 477) (by decide +kernel)), by decide +kernel⟩
theorem w_479 : Cond.instanceMethod (⟨"RangeReadersModel", "isIn", "(IIIIII)Z"⟩ : MethodName) ∈ gW := List.mem_filter.mpr ⟨List.mem_append_right _ (List.mem_of_getElem? (i := 479) (by decide +kernel)), by decide +kernel⟩
theorem w_480 : Cond.code (⟨"RangeReadersModel", "isIn", "(IIIIII)Z"⟩ : MethodName) prog_5_method_25_code 7 (Option.some Jvm.ClassFile.FieldType.boolean) ∈ gW := List.mem_filter.mpr ⟨List.mem_append_right _ (List.mem_of_getElem? (i := 480) (by decide +kernel)), by decide +kernel⟩
theorem w_481 : Cond.arrayClass Jvm.ClassFile.FieldType.long ∈ gW := List.mem_filter.mpr ⟨List.mem_append_right _ (List.mem_of_getElem? (i := 481) (by decide +kernel)), by decide +kernel⟩
theorem ws_0 : Cond.selects "RangeReaders" (⟨"RangeReaders", "entryAt", "(I)LRangeReaders$Entry;"⟩ : MethodName) (⟨"RangeReaders", "entryAt", "(I)LRangeReaders$Entry;"⟩ : MethodName) ∈ gW := List.mem_filter.mpr ⟨List.mem_append_left _ (List.mem_of_getElem? (i := 0) (by decide +kernel)), by decide +kernel⟩
theorem ws_1 : Cond.selects "RangeReaders" (⟨"RangeReaders", "release", "(I)V"⟩ : MethodName) (⟨"RangeReaders", "release", "(I)V"⟩ : MethodName) ∈ gW := List.mem_filter.mpr ⟨List.mem_append_left _ (List.mem_of_getElem? (i := 1) (by decide +kernel)), by decide +kernel⟩
theorem ws_3 : Cond.selects "RangeReaders" (⟨"RangeReaders", "makeRoom", "()V"⟩ : MethodName) (⟨"RangeReaders", "makeRoom", "()V"⟩ : MethodName) ∈ gW := List.mem_filter.mpr ⟨List.mem_append_left _ (List.mem_of_getElem? (i := 3) (by decide +kernel)), by decide +kernel⟩
theorem ws_4 : Cond.selects "RangeReaders" (⟨"RangeReaders", "lowestFree", "()I"⟩ : MethodName) (⟨"RangeReaders", "lowestFree", "()I"⟩ : MethodName) ∈ gW := List.mem_filter.mpr ⟨List.mem_append_left _ (List.mem_of_getElem? (i := 4) (by decide +kernel)), by decide +kernel⟩
theorem ws_5 : Cond.selects "RangeReaders$Area" (⟨"RangeReaders$Area", "copy", "()LRangeReaders$Area;"⟩ : MethodName) (⟨"RangeReaders$Area", "copy", "()LRangeReaders$Area;"⟩ : MethodName) ∈ gW := List.mem_filter.mpr ⟨List.mem_append_left _ (List.mem_of_getElem? (i := 5) (by decide +kernel)), by decide +kernel⟩
theorem ws_6 : Cond.selects "RangeReaders" (⟨"RangeReaders", "findMeeting", "(LRangeReaders$Area;)V"⟩ : MethodName) (⟨"RangeReaders", "findMeeting", "(LRangeReaders$Area;)V"⟩ : MethodName) ∈ gW := List.mem_filter.mpr ⟨List.mem_append_left _ (List.mem_of_getElem? (i := 6) (by decide +kernel)), by decide +kernel⟩
theorem ws_7 : Cond.selects "RangeReaders$Area" (⟨"RangeReaders$Area", "meets", "(LRangeReaders$Area;)Z"⟩ : MethodName) (⟨"RangeReaders$Area", "meets", "(LRangeReaders$Area;)Z"⟩ : MethodName) ∈ gW := List.mem_filter.mpr ⟨List.mem_append_left _ (List.mem_of_getElem? (i := 7) (by decide +kernel)), by decide +kernel⟩
theorem ws_8 : Cond.selects "RangeReaders$Area" (⟨"RangeReaders$Area", "yieldsTo", "(IZ)Z"⟩ : MethodName) (⟨"RangeReaders$Area", "yieldsTo", "(IZ)Z"⟩ : MethodName) ∈ gW := List.mem_filter.mpr ⟨List.mem_append_left _ (List.mem_of_getElem? (i := 8) (by decide +kernel)), by decide +kernel⟩
theorem ws_9 : Cond.selects "RangeReaders$Area" (⟨"RangeReaders$Area", "first", "(Z)I"⟩ : MethodName) (⟨"RangeReaders$Area", "first", "(Z)I"⟩ : MethodName) ∈ gW := List.mem_filter.mpr ⟨List.mem_append_left _ (List.mem_of_getElem? (i := 9) (by decide +kernel)), by decide +kernel⟩
theorem ws_10 : Cond.selects "RangeReaders$Area" (⟨"RangeReaders$Area", "last", "(Z)I"⟩ : MethodName) (⟨"RangeReaders$Area", "last", "(Z)I"⟩ : MethodName) ∈ gW := List.mem_filter.mpr ⟨List.mem_append_left _ (List.mem_of_getElem? (i := 10) (by decide +kernel)), by decide +kernel⟩
theorem ws_11 : Cond.selects "RangeReaders" (⟨"RangeReaders", "putLines", "(IZII)I"⟩ : MethodName) (⟨"RangeReaders", "putLines", "(IZII)I"⟩ : MethodName) ∈ gW := List.mem_filter.mpr ⟨List.mem_append_left _ (List.mem_of_getElem? (i := 11) (by decide +kernel)), by decide +kernel⟩
theorem ws_12 : Cond.selects "RangeReaders$Area" (⟨"RangeReaders$Area", "setLines", "(ZII)V"⟩ : MethodName) (⟨"RangeReaders$Area", "setLines", "(ZII)V"⟩ : MethodName) ∈ gW := List.mem_filter.mpr ⟨List.mem_append_left _ (List.mem_of_getElem? (i := 12) (by decide +kernel)), by decide +kernel⟩
theorem ws_13 : Cond.selects "RangeReaders$Area" (⟨"RangeReaders$Area", "shift", "(III)V"⟩ : MethodName) (⟨"RangeReaders$Area", "shift", "(III)V"⟩ : MethodName) ∈ gW := List.mem_filter.mpr ⟨List.mem_append_left _ (List.mem_of_getElem? (i := 13) (by decide +kernel)), by decide +kernel⟩
theorem ws_14 : Cond.selects "RangeReaders" (⟨"RangeReaders", "carry", "(LRangeReaders$Area;LRangeReaders$Area;)I"⟩ : MethodName) (⟨"RangeReaders", "carry", "(LRangeReaders$Area;LRangeReaders$Area;)I"⟩ : MethodName) ∈ gW := List.mem_filter.mpr ⟨List.mem_append_left _ (List.mem_of_getElem? (i := 14) (by decide +kernel)), by decide +kernel⟩
theorem ws_15 : Cond.selects "RangeReaders$Area" (⟨"RangeReaders$Area", "liesIn", "(LRangeReaders$Area;)Z"⟩ : MethodName) (⟨"RangeReaders$Area", "liesIn", "(LRangeReaders$Area;)Z"⟩ : MethodName) ∈ gW := List.mem_filter.mpr ⟨List.mem_append_left _ (List.mem_of_getElem? (i := 15) (by decide +kernel)), by decide +kernel⟩
theorem ws_16 : Cond.selects "RangeReadersModel" (⟨"RangeReadersModel", "isThere", "(I)Z"⟩ : MethodName) (⟨"RangeReadersModel", "isThere", "(I)Z"⟩ : MethodName) ∈ gW := List.mem_filter.mpr ⟨List.mem_append_left _ (List.mem_of_getElem? (i := 16) (by decide +kernel)), by decide +kernel⟩
theorem ws_17 : Cond.selects "RangeReadersModel" (⟨"RangeReadersModel", "go", "(I)V"⟩ : MethodName) (⟨"RangeReadersModel", "go", "(I)V"⟩ : MethodName) ∈ gW := List.mem_filter.mpr ⟨List.mem_append_left _ (List.mem_of_getElem? (i := 17) (by decide +kernel)), by decide +kernel⟩
theorem ws_18 : Cond.selects "RangeReadersModel" (⟨"RangeReadersModel", "meetAll", "(IIIII)I"⟩ : MethodName) (⟨"RangeReadersModel", "meetAll", "(IIIII)I"⟩ : MethodName) ∈ gW := List.mem_filter.mpr ⟨List.mem_append_left _ (List.mem_of_getElem? (i := 18) (by decide +kernel)), by decide +kernel⟩
theorem ws_19 : Cond.selects "RangeReadersModel" (⟨"RangeReadersModel", "meets", "(IIIIII)Z"⟩ : MethodName) (⟨"RangeReadersModel", "meets", "(IIIIII)Z"⟩ : MethodName) ∈ gW := List.mem_filter.mpr ⟨List.mem_append_left _ (List.mem_of_getElem? (i := 19) (by decide +kernel)), by decide +kernel⟩
theorem ws_20 : Cond.selects "RangeReadersModel" (⟨"RangeReadersModel", "isLine", "(IZII)Z"⟩ : MethodName) (⟨"RangeReadersModel", "isLine", "(IZII)Z"⟩ : MethodName) ∈ gW := List.mem_filter.mpr ⟨List.mem_append_left _ (List.mem_of_getElem? (i := 20) (by decide +kernel)), by decide +kernel⟩
theorem ws_21 : Cond.selects "RangeReadersModel" (⟨"RangeReadersModel", "isPart", "(IIZ)Z"⟩ : MethodName) (⟨"RangeReadersModel", "isPart", "(IIZ)Z"⟩ : MethodName) ∈ gW := List.mem_filter.mpr ⟨List.mem_append_left _ (List.mem_of_getElem? (i := 21) (by decide +kernel)), by decide +kernel⟩
theorem ws_22 : Cond.selects "RangeReadersModel" (⟨"RangeReadersModel", "first", "(IZ)I"⟩ : MethodName) (⟨"RangeReadersModel", "first", "(IZ)I"⟩ : MethodName) ∈ gW := List.mem_filter.mpr ⟨List.mem_append_left _ (List.mem_of_getElem? (i := 22) (by decide +kernel)), by decide +kernel⟩
theorem ws_23 : Cond.selects "RangeReadersModel" (⟨"RangeReadersModel", "last", "(IZ)I"⟩ : MethodName) (⟨"RangeReadersModel", "last", "(IZ)I"⟩ : MethodName) ∈ gW := List.mem_filter.mpr ⟨List.mem_append_left _ (List.mem_of_getElem? (i := 23) (by decide +kernel)), by decide +kernel⟩
theorem ws_24 : Cond.selects "RangeReadersModel" (⟨"RangeReadersModel", "become", "(IZII)I"⟩ : MethodName) (⟨"RangeReadersModel", "become", "(IZII)I"⟩ : MethodName) ∈ gW := List.mem_filter.mpr ⟨List.mem_append_left _ (List.mem_of_getElem? (i := 24) (by decide +kernel)), by decide +kernel⟩
theorem ws_25 : Cond.selects "RangeReadersModel" (⟨"RangeReadersModel", "isIn", "(IIIIII)Z"⟩ : MethodName) (⟨"RangeReadersModel", "isIn", "(IIIIII)Z"⟩ : MethodName) ∈ gW := List.mem_filter.mpr ⟨List.mem_append_left _ (List.mem_of_getElem? (i := 25) (by decide +kernel)), by decide +kernel⟩
theorem inX0 : ∀ w ∈ u_ws "RangeReaders$Area" TX0 5, w ∈ gW := by decide +kernel
theorem inX1 : ∀ w ∈ u_ws "RangeReaders$Entry" TX1 2, w ∈ gW := by decide +kernel
theorem inX2 : ∀ w ∈ u_ws "RangeReaders" TX2 5, w ∈ gW := by decide +kernel
theorem inX3 : ∀ w ∈ u_ws "RangeReadersModel" TX3 17, w ∈ gW := by decide +kernel
def gk_NW : List Cond := [Cond.methodLinkNest "RangeReaders" 36 (⟨"RangeReaders$Area", "<init>", "(IIIII)V"⟩ : MethodName) "RangeReaders", Cond.fieldLinkNest "RangeReaders" 88 "RangeReaders$Area" "sheet" "I" "RangeReaders", Cond.fieldLinkNest "RangeReaders" 91 "RangeReaders$Area" "top" "I" "RangeReaders", Cond.fieldLinkNest "RangeReaders" 94 "RangeReaders$Area" "left" "I" "RangeReaders", Cond.fieldLinkNest "RangeReaders" 97 "RangeReaders$Area" "bottom" "I" "RangeReaders", Cond.fieldLinkNest "RangeReaders" 100 "RangeReaders$Area" "right" "I" "RangeReaders", Cond.methodLinkNest "RangeReaders" 61 (⟨"RangeReaders$Area", "copy", "()LRangeReaders$Area;"⟩ : MethodName) "RangeReaders", Cond.methodLinkNest "RangeReaders" 65 (⟨"RangeReaders$Entry", "<init>", "(LRangeReaders$Area;I)V"⟩ : MethodName) "RangeReaders", Cond.fieldLinkNest "RangeReaders" 85 "RangeReaders$Entry" "area" "LRangeReaders$Area;" "RangeReaders", Cond.fieldLinkNest "RangeReaders" 76 "RangeReaders$Entry" "owner" "I" "RangeReaders", Cond.methodLinkNest "RangeReaders" 157 (⟨"RangeReaders$Area", "meets", "(LRangeReaders$Area;)Z"⟩ : MethodName) "RangeReaders", Cond.methodLinkNest "RangeReaders" 113 (⟨"RangeReaders$Area", "yieldsTo", "(IZ)Z"⟩ : MethodName) "RangeReaders", Cond.methodLinkNest "RangeReaders$Area" 35 (⟨"RangeReaders", "lastLine", "(Z)I"⟩ : MethodName) "RangeReaders", Cond.methodLinkNest "RangeReaders" 117 (⟨"RangeReaders$Area", "first", "(Z)I"⟩ : MethodName) "RangeReaders", Cond.methodLinkNest "RangeReaders" 120 (⟨"RangeReaders$Area", "last", "(Z)I"⟩ : MethodName) "RangeReaders", Cond.methodLinkNest "RangeReaders" 161 (⟨"RangeReaders$Area", "setLines", "(ZII)V"⟩ : MethodName) "RangeReaders", Cond.methodLinkNest "RangeReaders" 138 (⟨"RangeReaders$Area", "shift", "(III)V"⟩ : MethodName) "RangeReaders", Cond.methodLinkNest "RangeReaders" 165 (⟨"RangeReaders$Area", "liesIn", "(LRangeReaders$Area;)Z"⟩ : MethodName) "RangeReaders"]
theorem nw_0 : Cond.methodLinkNest "RangeReaders" 36 (⟨"RangeReaders$Area", "<init>", "(IIIII)V"⟩ : MethodName) "RangeReaders" ∈ gk_NW := List.mem_of_getElem? (i := 0) rfl
theorem nw_1 : Cond.fieldLinkNest "RangeReaders" 88 "RangeReaders$Area" "sheet" "I" "RangeReaders" ∈ gk_NW := List.mem_of_getElem? (i := 1) rfl
theorem nw_2 : Cond.fieldLinkNest "RangeReaders" 91 "RangeReaders$Area" "top" "I" "RangeReaders" ∈ gk_NW := List.mem_of_getElem? (i := 2) rfl
theorem nw_3 : Cond.fieldLinkNest "RangeReaders" 94 "RangeReaders$Area" "left" "I" "RangeReaders" ∈ gk_NW := List.mem_of_getElem? (i := 3) rfl
theorem nw_4 : Cond.fieldLinkNest "RangeReaders" 97 "RangeReaders$Area" "bottom" "I" "RangeReaders" ∈ gk_NW := List.mem_of_getElem? (i := 4) rfl
theorem nw_5 : Cond.fieldLinkNest "RangeReaders" 100 "RangeReaders$Area" "right" "I" "RangeReaders" ∈ gk_NW := List.mem_of_getElem? (i := 5) rfl
theorem nw_6 : Cond.methodLinkNest "RangeReaders" 61 (⟨"RangeReaders$Area", "copy", "()LRangeReaders$Area;"⟩ : MethodName) "RangeReaders" ∈ gk_NW := List.mem_of_getElem? (i := 6) rfl
theorem nw_7 : Cond.methodLinkNest "RangeReaders" 65 (⟨"RangeReaders$Entry", "<init>", "(LRangeReaders$Area;I)V"⟩ : MethodName) "RangeReaders" ∈ gk_NW := List.mem_of_getElem? (i := 7) rfl
theorem nw_8 : Cond.fieldLinkNest "RangeReaders" 85 "RangeReaders$Entry" "area" "LRangeReaders$Area;" "RangeReaders" ∈ gk_NW := List.mem_of_getElem? (i := 8) rfl
theorem nw_9 : Cond.fieldLinkNest "RangeReaders" 76 "RangeReaders$Entry" "owner" "I" "RangeReaders" ∈ gk_NW := List.mem_of_getElem? (i := 9) rfl
theorem nw_10 : Cond.methodLinkNest "RangeReaders" 157 (⟨"RangeReaders$Area", "meets", "(LRangeReaders$Area;)Z"⟩ : MethodName) "RangeReaders" ∈ gk_NW := List.mem_of_getElem? (i := 10) rfl
theorem nw_11 : Cond.methodLinkNest "RangeReaders" 113 (⟨"RangeReaders$Area", "yieldsTo", "(IZ)Z"⟩ : MethodName) "RangeReaders" ∈ gk_NW := List.mem_of_getElem? (i := 11) rfl
theorem nw_12 : Cond.methodLinkNest "RangeReaders$Area" 35 (⟨"RangeReaders", "lastLine", "(Z)I"⟩ : MethodName) "RangeReaders" ∈ gk_NW := List.mem_of_getElem? (i := 12) rfl
theorem nw_13 : Cond.methodLinkNest "RangeReaders" 117 (⟨"RangeReaders$Area", "first", "(Z)I"⟩ : MethodName) "RangeReaders" ∈ gk_NW := List.mem_of_getElem? (i := 13) rfl
theorem nw_14 : Cond.methodLinkNest "RangeReaders" 120 (⟨"RangeReaders$Area", "last", "(Z)I"⟩ : MethodName) "RangeReaders" ∈ gk_NW := List.mem_of_getElem? (i := 14) rfl
theorem nw_15 : Cond.methodLinkNest "RangeReaders" 161 (⟨"RangeReaders$Area", "setLines", "(ZII)V"⟩ : MethodName) "RangeReaders" ∈ gk_NW := List.mem_of_getElem? (i := 15) rfl
theorem nw_16 : Cond.methodLinkNest "RangeReaders" 138 (⟨"RangeReaders$Area", "shift", "(III)V"⟩ : MethodName) "RangeReaders" ∈ gk_NW := List.mem_of_getElem? (i := 16) rfl
theorem nw_17 : Cond.methodLinkNest "RangeReaders" 165 (⟨"RangeReaders$Area", "liesIn", "(LRangeReaders$Area;)Z"⟩ : MethodName) "RangeReaders" ∈ gk_NW := List.mem_of_getElem? (i := 17) rfl
theorem gk_NW_tbl : ∀ w ∈ gk_NW, w ∈ lw_tbl := by decide +kernel
def gk_ST : List (String × Nat × String) := [("RangeReaders", 41, "there is no rectangle"), ("RangeReaders", 46, "there is no such owner"), ("RangeReaders", 51, "there is no room for another entry"), ("RangeReaders", 79, "there is no such cell"), ("RangeReaders", 107, "there is no such sheet, line or number of lines"), ("RangeReaders", 136, "there is no such sheet, row or column"), ("RangeReaders", 142, "the rectangle would not lie on the sheet")]
def gk_OV : List String := ["RangeReaders$Entry"]
def gk_NC : List (String × String) := [("RangeReaders", "java/lang/IllegalArgumentException"), ("RangeReaders", "java/lang/IllegalStateException"), ("RangeReaders$Area", "java/lang/IllegalArgumentException"), ("RangeReaders$Area", "java/lang/IllegalStateException"), ("RangeReaders$Entry", "java/lang/IllegalArgumentException"), ("RangeReaders$Entry", "java/lang/IllegalStateException"), ("RangeReadersModel", "java/lang/IllegalArgumentException"), ("RangeReadersModel", "java/lang/IllegalStateException"), ("java/lang/IllegalArgumentException", "java/lang/IllegalStateException"), ("java/lang/IllegalStateException", "java/lang/IllegalArgumentException")]
end
section
abbrev cX0_init : ByteArray := prog_2_method_1_code
abbrev yX0_init : MethodName := ⟨"RangeReaders$Area", "<init>", "(IIIII)V"⟩
theorem hd_X0_init : (yX0_init).cls ≠ "java/lang/invoke/MethodHandle" ∧ (yX0_init).cls ≠ "java/lang/invoke/VarHandle" ∧ (parseMethodDescriptor (yX0_init).desc).map (fun d => d.parameters.length) = some 5 := by decide +kernel
theorem dX0_init_0 : decode cX0_init 0 = .ok (.aload_n 0, 1) := by decide +kernel
theorem dX0_init_1 : decode cX0_init 1 = .ok (.invokespecial 1, 3) := by decide +kernel
theorem dX0_init_4 : decode cX0_init 4 = .ok (.aload_n 0, 1) := by decide +kernel
theorem dX0_init_5 : decode cX0_init 5 = .ok (.iload_n 1, 1) := by decide +kernel
theorem dX0_init_6 : decode cX0_init 6 = .ok (.putfield 7, 3) := by decide +kernel
theorem dX0_init_9 : decode cX0_init 9 = .ok (.aload_n 0, 1) := by decide +kernel
theorem dX0_init_10 : decode cX0_init 10 = .ok (.iload_n 2, 1) := by decide +kernel
theorem dX0_init_11 : decode cX0_init 11 = .ok (.putfield 13, 3) := by decide +kernel
theorem dX0_init_14 : decode cX0_init 14 = .ok (.aload_n 0, 1) := by decide +kernel
theorem dX0_init_15 : decode cX0_init 15 = .ok (.iload_n 3, 1) := by decide +kernel
theorem dX0_init_16 : decode cX0_init 16 = .ok (.putfield 16, 3) := by decide +kernel
theorem dX0_init_19 : decode cX0_init 19 = .ok (.aload_n 0, 1) := by decide +kernel
theorem dX0_init_20 : decode cX0_init 20 = .ok (.iload 4, 2) := by decide +kernel
theorem dX0_init_22 : decode cX0_init 22 = .ok (.putfield 19, 3) := by decide +kernel
theorem dX0_init_25 : decode cX0_init 25 = .ok (.aload_n 0, 1) := by decide +kernel
theorem dX0_init_26 : decode cX0_init 26 = .ok (.iload 5, 2) := by decide +kernel
theorem dX0_init_28 : decode cX0_init 28 = .ok (.putfield 22, 3) := by decide +kernel
theorem dX0_init_31 : decode cX0_init 31 = .ok (.return_, 1) := by decide +kernel
abbrev cX0_copy : ByteArray := prog_2_method_2_code
abbrev yX0_copy : MethodName := ⟨"RangeReaders$Area", "copy", "()LRangeReaders$Area;"⟩
theorem hd_X0_copy : (yX0_copy).cls ≠ "java/lang/invoke/MethodHandle" ∧ (yX0_copy).cls ≠ "java/lang/invoke/VarHandle" ∧ (parseMethodDescriptor (yX0_copy).desc).map (fun d => d.parameters.length) = some 0 := by decide +kernel
theorem dX0_copy_0 : decode cX0_copy 0 = .ok (.new 8, 3) := by decide +kernel
theorem dX0_copy_3 : decode cX0_copy 3 = .ok (.dup, 1) := by decide +kernel
theorem dX0_copy_4 : decode cX0_copy 4 = .ok (.aload_n 0, 1) := by decide +kernel
theorem dX0_copy_5 : decode cX0_copy 5 = .ok (.getfield 7, 3) := by decide +kernel
theorem dX0_copy_8 : decode cX0_copy 8 = .ok (.aload_n 0, 1) := by decide +kernel
theorem dX0_copy_9 : decode cX0_copy 9 = .ok (.getfield 13, 3) := by decide +kernel
theorem dX0_copy_12 : decode cX0_copy 12 = .ok (.aload_n 0, 1) := by decide +kernel
theorem dX0_copy_13 : decode cX0_copy 13 = .ok (.getfield 16, 3) := by decide +kernel
theorem dX0_copy_16 : decode cX0_copy 16 = .ok (.aload_n 0, 1) := by decide +kernel
theorem dX0_copy_17 : decode cX0_copy 17 = .ok (.getfield 19, 3) := by decide +kernel
theorem dX0_copy_20 : decode cX0_copy 20 = .ok (.aload_n 0, 1) := by decide +kernel
theorem dX0_copy_21 : decode cX0_copy 21 = .ok (.getfield 22, 3) := by decide +kernel
theorem dX0_copy_24 : decode cX0_copy 24 = .ok (.invokespecial 25, 3) := by decide +kernel
theorem dX0_copy_27 : decode cX0_copy 27 = .ok (.areturn, 1) := by decide +kernel
abbrev cX0_meets : ByteArray := prog_2_method_8_code
abbrev yX0_meets : MethodName := ⟨"RangeReaders$Area", "meets", "(LRangeReaders$Area;)Z"⟩
theorem hd_X0_meets : (yX0_meets).cls ≠ "java/lang/invoke/MethodHandle" ∧ (yX0_meets).cls ≠ "java/lang/invoke/VarHandle" ∧ (parseMethodDescriptor (yX0_meets).desc).map (fun d => d.parameters.length) = some 1 := by decide +kernel
theorem dX0_meets_0 : decode cX0_meets 0 = .ok (.aload_n 0, 1) := by decide +kernel
theorem dX0_meets_1 : decode cX0_meets 1 = .ok (.getfield 7, 3) := by decide +kernel
theorem dX0_meets_4 : decode cX0_meets 4 = .ok (.aload_n 1, 1) := by decide +kernel
theorem dX0_meets_5 : decode cX0_meets 5 = .ok (.getfield 7, 3) := by decide +kernel
theorem dX0_meets_8 : decode cX0_meets 8 = .ok (.if_icmp .ne 51, 3) := by decide +kernel
theorem dX0_meets_11 : decode cX0_meets 11 = .ok (.aload_n 0, 1) := by decide +kernel
theorem dX0_meets_12 : decode cX0_meets 12 = .ok (.getfield 13, 3) := by decide +kernel
theorem dX0_meets_15 : decode cX0_meets 15 = .ok (.aload_n 1, 1) := by decide +kernel
theorem dX0_meets_16 : decode cX0_meets 16 = .ok (.getfield 19, 3) := by decide +kernel
theorem dX0_meets_19 : decode cX0_meets 19 = .ok (.if_icmp .gt 40, 3) := by decide +kernel
theorem dX0_meets_22 : decode cX0_meets 22 = .ok (.aload_n 1, 1) := by decide +kernel
theorem dX0_meets_23 : decode cX0_meets 23 = .ok (.getfield 13, 3) := by decide +kernel
theorem dX0_meets_26 : decode cX0_meets 26 = .ok (.aload_n 0, 1) := by decide +kernel
theorem dX0_meets_27 : decode cX0_meets 27 = .ok (.getfield 19, 3) := by decide +kernel
theorem dX0_meets_30 : decode cX0_meets 30 = .ok (.if_icmp .gt 29, 3) := by decide +kernel
theorem dX0_meets_33 : decode cX0_meets 33 = .ok (.aload_n 0, 1) := by decide +kernel
theorem dX0_meets_34 : decode cX0_meets 34 = .ok (.getfield 16, 3) := by decide +kernel
theorem dX0_meets_37 : decode cX0_meets 37 = .ok (.aload_n 1, 1) := by decide +kernel
theorem dX0_meets_38 : decode cX0_meets 38 = .ok (.getfield 22, 3) := by decide +kernel
theorem dX0_meets_41 : decode cX0_meets 41 = .ok (.if_icmp .gt 18, 3) := by decide +kernel
theorem dX0_meets_44 : decode cX0_meets 44 = .ok (.aload_n 1, 1) := by decide +kernel
theorem dX0_meets_45 : decode cX0_meets 45 = .ok (.getfield 16, 3) := by decide +kernel
theorem dX0_meets_48 : decode cX0_meets 48 = .ok (.aload_n 0, 1) := by decide +kernel
theorem dX0_meets_49 : decode cX0_meets 49 = .ok (.getfield 22, 3) := by decide +kernel
theorem dX0_meets_52 : decode cX0_meets 52 = .ok (.if_icmp .gt 7, 3) := by decide +kernel
theorem dX0_meets_55 : decode cX0_meets 55 = .ok (.iconst 1, 1) := by decide +kernel
theorem dX0_meets_56 : decode cX0_meets 56 = .ok (.goto 4, 3) := by decide +kernel
theorem dX0_meets_59 : decode cX0_meets 59 = .ok (.iconst 0, 1) := by decide +kernel
theorem dX0_meets_60 : decode cX0_meets 60 = .ok (.ireturn, 1) := by decide +kernel
abbrev cX0_yieldsTo : ByteArray := prog_2_method_7_code
abbrev yX0_yieldsTo : MethodName := ⟨"RangeReaders$Area", "yieldsTo", "(IZ)Z"⟩
theorem hd_X0_yieldsTo : (yX0_yieldsTo).cls ≠ "java/lang/invoke/MethodHandle" ∧ (yX0_yieldsTo).cls ≠ "java/lang/invoke/VarHandle" ∧ (parseMethodDescriptor (yX0_yieldsTo).desc).map (fun d => d.parameters.length) = some 2 := by decide +kernel
theorem dX0_yieldsTo_0 : decode cX0_yieldsTo 0 = .ok (.aload_n 0, 1) := by decide +kernel
theorem dX0_yieldsTo_1 : decode cX0_yieldsTo 1 = .ok (.iload_n 2, 1) := by decide +kernel
theorem dX0_yieldsTo_2 : decode cX0_yieldsTo 2 = .ok (.invokevirtual 28, 3) := by decide +kernel
theorem dX0_yieldsTo_5 : decode cX0_yieldsTo 5 = .ok (.iconst 1, 1) := by decide +kernel
theorem dX0_yieldsTo_6 : decode cX0_yieldsTo 6 = .ok (.if_icmp .ne 19, 3) := by decide +kernel
theorem dX0_yieldsTo_9 : decode cX0_yieldsTo 9 = .ok (.aload_n 0, 1) := by decide +kernel
theorem dX0_yieldsTo_10 : decode cX0_yieldsTo 10 = .ok (.iload_n 2, 1) := by decide +kernel
theorem dX0_yieldsTo_11 : decode cX0_yieldsTo 11 = .ok (.invokevirtual 32, 3) := by decide +kernel
theorem dX0_yieldsTo_14 : decode cX0_yieldsTo 14 = .ok (.iload_n 2, 1) := by decide +kernel
theorem dX0_yieldsTo_15 : decode cX0_yieldsTo 15 = .ok (.invokestatic 35, 3) := by decide +kernel
theorem dX0_yieldsTo_18 : decode cX0_yieldsTo 18 = .ok (.if_icmp .ne 7, 3) := by decide +kernel
theorem dX0_yieldsTo_21 : decode cX0_yieldsTo 21 = .ok (.iconst 1, 1) := by decide +kernel
theorem dX0_yieldsTo_22 : decode cX0_yieldsTo 22 = .ok (.goto 4, 3) := by decide +kernel
theorem dX0_yieldsTo_25 : decode cX0_yieldsTo 25 = .ok (.iconst 0, 1) := by decide +kernel
theorem dX0_yieldsTo_26 : decode cX0_yieldsTo 26 = .ok (.istore_n 3, 1) := by decide +kernel
theorem dX0_yieldsTo_27 : decode cX0_yieldsTo 27 = .ok (.aload_n 0, 1) := by decide +kernel
theorem dX0_yieldsTo_28 : decode cX0_yieldsTo 28 = .ok (.getfield 7, 3) := by decide +kernel
theorem dX0_yieldsTo_31 : decode cX0_yieldsTo 31 = .ok (.iload_n 1, 1) := by decide +kernel
theorem dX0_yieldsTo_32 : decode cX0_yieldsTo 32 = .ok (.if_icmp .ne 11, 3) := by decide +kernel
theorem dX0_yieldsTo_35 : decode cX0_yieldsTo 35 = .ok (.iload_n 3, 1) := by decide +kernel
theorem dX0_yieldsTo_36 : decode cX0_yieldsTo 36 = .ok (.ifCond .ne 7, 3) := by decide +kernel
theorem dX0_yieldsTo_39 : decode cX0_yieldsTo 39 = .ok (.iconst 1, 1) := by decide +kernel
theorem dX0_yieldsTo_40 : decode cX0_yieldsTo 40 = .ok (.goto 4, 3) := by decide +kernel
theorem dX0_yieldsTo_43 : decode cX0_yieldsTo 43 = .ok (.iconst 0, 1) := by decide +kernel
theorem dX0_yieldsTo_44 : decode cX0_yieldsTo 44 = .ok (.ireturn, 1) := by decide +kernel
abbrev cX0_first : ByteArray := prog_2_method_3_code
abbrev yX0_first : MethodName := ⟨"RangeReaders$Area", "first", "(Z)I"⟩
theorem hd_X0_first : (yX0_first).cls ≠ "java/lang/invoke/MethodHandle" ∧ (yX0_first).cls ≠ "java/lang/invoke/VarHandle" ∧ (parseMethodDescriptor (yX0_first).desc).map (fun d => d.parameters.length) = some 1 := by decide +kernel
theorem dX0_first_0 : decode cX0_first 0 = .ok (.iload_n 1, 1) := by decide +kernel
theorem dX0_first_1 : decode cX0_first 1 = .ok (.ifCond .eq 10, 3) := by decide +kernel
theorem dX0_first_4 : decode cX0_first 4 = .ok (.aload_n 0, 1) := by decide +kernel
theorem dX0_first_5 : decode cX0_first 5 = .ok (.getfield 16, 3) := by decide +kernel
theorem dX0_first_8 : decode cX0_first 8 = .ok (.goto 7, 3) := by decide +kernel
theorem dX0_first_11 : decode cX0_first 11 = .ok (.aload_n 0, 1) := by decide +kernel
theorem dX0_first_12 : decode cX0_first 12 = .ok (.getfield 13, 3) := by decide +kernel
theorem dX0_first_15 : decode cX0_first 15 = .ok (.ireturn, 1) := by decide +kernel
abbrev cX0_last : ByteArray := prog_2_method_4_code
abbrev yX0_last : MethodName := ⟨"RangeReaders$Area", "last", "(Z)I"⟩
theorem hd_X0_last : (yX0_last).cls ≠ "java/lang/invoke/MethodHandle" ∧ (yX0_last).cls ≠ "java/lang/invoke/VarHandle" ∧ (parseMethodDescriptor (yX0_last).desc).map (fun d => d.parameters.length) = some 1 := by decide +kernel
theorem dX0_last_0 : decode cX0_last 0 = .ok (.iload_n 1, 1) := by decide +kernel
theorem dX0_last_1 : decode cX0_last 1 = .ok (.ifCond .eq 10, 3) := by decide +kernel
theorem dX0_last_4 : decode cX0_last 4 = .ok (.aload_n 0, 1) := by decide +kernel
theorem dX0_last_5 : decode cX0_last 5 = .ok (.getfield 22, 3) := by decide +kernel
theorem dX0_last_8 : decode cX0_last 8 = .ok (.goto 7, 3) := by decide +kernel
theorem dX0_last_11 : decode cX0_last 11 = .ok (.aload_n 0, 1) := by decide +kernel
theorem dX0_last_12 : decode cX0_last 12 = .ok (.getfield 19, 3) := by decide +kernel
theorem dX0_last_15 : decode cX0_last 15 = .ok (.ireturn, 1) := by decide +kernel
abbrev cX0_setLines : ByteArray := prog_2_method_5_code
abbrev yX0_setLines : MethodName := ⟨"RangeReaders$Area", "setLines", "(ZII)V"⟩
theorem hd_X0_setLines : (yX0_setLines).cls ≠ "java/lang/invoke/MethodHandle" ∧ (yX0_setLines).cls ≠ "java/lang/invoke/VarHandle" ∧ (parseMethodDescriptor (yX0_setLines).desc).map (fun d => d.parameters.length) = some 3 := by decide +kernel
theorem dX0_setLines_0 : decode cX0_setLines 0 = .ok (.iload_n 1, 1) := by decide +kernel
theorem dX0_setLines_1 : decode cX0_setLines 1 = .ok (.ifCond .eq 16, 3) := by decide +kernel
theorem dX0_setLines_4 : decode cX0_setLines 4 = .ok (.aload_n 0, 1) := by decide +kernel
theorem dX0_setLines_5 : decode cX0_setLines 5 = .ok (.iload_n 2, 1) := by decide +kernel
theorem dX0_setLines_6 : decode cX0_setLines 6 = .ok (.putfield 16, 3) := by decide +kernel
theorem dX0_setLines_9 : decode cX0_setLines 9 = .ok (.aload_n 0, 1) := by decide +kernel
theorem dX0_setLines_10 : decode cX0_setLines 10 = .ok (.iload_n 3, 1) := by decide +kernel
theorem dX0_setLines_11 : decode cX0_setLines 11 = .ok (.putfield 22, 3) := by decide +kernel
theorem dX0_setLines_14 : decode cX0_setLines 14 = .ok (.goto 13, 3) := by decide +kernel
theorem dX0_setLines_17 : decode cX0_setLines 17 = .ok (.aload_n 0, 1) := by decide +kernel
theorem dX0_setLines_18 : decode cX0_setLines 18 = .ok (.iload_n 2, 1) := by decide +kernel
theorem dX0_setLines_19 : decode cX0_setLines 19 = .ok (.putfield 13, 3) := by decide +kernel
theorem dX0_setLines_22 : decode cX0_setLines 22 = .ok (.aload_n 0, 1) := by decide +kernel
theorem dX0_setLines_23 : decode cX0_setLines 23 = .ok (.iload_n 3, 1) := by decide +kernel
theorem dX0_setLines_24 : decode cX0_setLines 24 = .ok (.putfield 19, 3) := by decide +kernel
theorem dX0_setLines_27 : decode cX0_setLines 27 = .ok (.return_, 1) := by decide +kernel
abbrev cX0_shift : ByteArray := prog_2_method_6_code
abbrev yX0_shift : MethodName := ⟨"RangeReaders$Area", "shift", "(III)V"⟩
theorem hd_X0_shift : (yX0_shift).cls ≠ "java/lang/invoke/MethodHandle" ∧ (yX0_shift).cls ≠ "java/lang/invoke/VarHandle" ∧ (parseMethodDescriptor (yX0_shift).desc).map (fun d => d.parameters.length) = some 3 := by decide +kernel
theorem dX0_shift_0 : decode cX0_shift 0 = .ok (.aload_n 0, 1) := by decide +kernel
theorem dX0_shift_1 : decode cX0_shift 1 = .ok (.iload_n 1, 1) := by decide +kernel
theorem dX0_shift_2 : decode cX0_shift 2 = .ok (.putfield 7, 3) := by decide +kernel
theorem dX0_shift_5 : decode cX0_shift 5 = .ok (.aload_n 0, 1) := by decide +kernel
theorem dX0_shift_6 : decode cX0_shift 6 = .ok (.dup, 1) := by decide +kernel
theorem dX0_shift_7 : decode cX0_shift 7 = .ok (.getfield 13, 3) := by decide +kernel
theorem dX0_shift_10 : decode cX0_shift 10 = .ok (.iload_n 2, 1) := by decide +kernel
theorem dX0_shift_11 : decode cX0_shift 11 = .ok (.iadd, 1) := by decide +kernel
theorem dX0_shift_12 : decode cX0_shift 12 = .ok (.putfield 13, 3) := by decide +kernel
theorem dX0_shift_15 : decode cX0_shift 15 = .ok (.aload_n 0, 1) := by decide +kernel
theorem dX0_shift_16 : decode cX0_shift 16 = .ok (.dup, 1) := by decide +kernel
theorem dX0_shift_17 : decode cX0_shift 17 = .ok (.getfield 19, 3) := by decide +kernel
theorem dX0_shift_20 : decode cX0_shift 20 = .ok (.iload_n 2, 1) := by decide +kernel
theorem dX0_shift_21 : decode cX0_shift 21 = .ok (.iadd, 1) := by decide +kernel
theorem dX0_shift_22 : decode cX0_shift 22 = .ok (.putfield 19, 3) := by decide +kernel
theorem dX0_shift_25 : decode cX0_shift 25 = .ok (.aload_n 0, 1) := by decide +kernel
theorem dX0_shift_26 : decode cX0_shift 26 = .ok (.dup, 1) := by decide +kernel
theorem dX0_shift_27 : decode cX0_shift 27 = .ok (.getfield 16, 3) := by decide +kernel
theorem dX0_shift_30 : decode cX0_shift 30 = .ok (.iload_n 3, 1) := by decide +kernel
theorem dX0_shift_31 : decode cX0_shift 31 = .ok (.iadd, 1) := by decide +kernel
theorem dX0_shift_32 : decode cX0_shift 32 = .ok (.putfield 16, 3) := by decide +kernel
theorem dX0_shift_35 : decode cX0_shift 35 = .ok (.aload_n 0, 1) := by decide +kernel
theorem dX0_shift_36 : decode cX0_shift 36 = .ok (.dup, 1) := by decide +kernel
theorem dX0_shift_37 : decode cX0_shift 37 = .ok (.getfield 22, 3) := by decide +kernel
theorem dX0_shift_40 : decode cX0_shift 40 = .ok (.iload_n 3, 1) := by decide +kernel
theorem dX0_shift_41 : decode cX0_shift 41 = .ok (.iadd, 1) := by decide +kernel
theorem dX0_shift_42 : decode cX0_shift 42 = .ok (.putfield 22, 3) := by decide +kernel
theorem dX0_shift_45 : decode cX0_shift 45 = .ok (.return_, 1) := by decide +kernel
abbrev cX0_liesIn : ByteArray := prog_2_method_9_code
abbrev yX0_liesIn : MethodName := ⟨"RangeReaders$Area", "liesIn", "(LRangeReaders$Area;)Z"⟩
theorem hd_X0_liesIn : (yX0_liesIn).cls ≠ "java/lang/invoke/MethodHandle" ∧ (yX0_liesIn).cls ≠ "java/lang/invoke/VarHandle" ∧ (parseMethodDescriptor (yX0_liesIn).desc).map (fun d => d.parameters.length) = some 1 := by decide +kernel
theorem dX0_liesIn_0 : decode cX0_liesIn 0 = .ok (.aload_n 0, 1) := by decide +kernel
theorem dX0_liesIn_1 : decode cX0_liesIn 1 = .ok (.getfield 7, 3) := by decide +kernel
theorem dX0_liesIn_4 : decode cX0_liesIn 4 = .ok (.aload_n 1, 1) := by decide +kernel
theorem dX0_liesIn_5 : decode cX0_liesIn 5 = .ok (.getfield 7, 3) := by decide +kernel
theorem dX0_liesIn_8 : decode cX0_liesIn 8 = .ok (.if_icmp .ne 51, 3) := by decide +kernel
theorem dX0_liesIn_11 : decode cX0_liesIn 11 = .ok (.aload_n 1, 1) := by decide +kernel
theorem dX0_liesIn_12 : decode cX0_liesIn 12 = .ok (.getfield 13, 3) := by decide +kernel
theorem dX0_liesIn_15 : decode cX0_liesIn 15 = .ok (.aload_n 0, 1) := by decide +kernel
theorem dX0_liesIn_16 : decode cX0_liesIn 16 = .ok (.getfield 13, 3) := by decide +kernel
theorem dX0_liesIn_19 : decode cX0_liesIn 19 = .ok (.if_icmp .gt 40, 3) := by decide +kernel
theorem dX0_liesIn_22 : decode cX0_liesIn 22 = .ok (.aload_n 0, 1) := by decide +kernel
theorem dX0_liesIn_23 : decode cX0_liesIn 23 = .ok (.getfield 19, 3) := by decide +kernel
theorem dX0_liesIn_26 : decode cX0_liesIn 26 = .ok (.aload_n 1, 1) := by decide +kernel
theorem dX0_liesIn_27 : decode cX0_liesIn 27 = .ok (.getfield 19, 3) := by decide +kernel
theorem dX0_liesIn_30 : decode cX0_liesIn 30 = .ok (.if_icmp .gt 29, 3) := by decide +kernel
theorem dX0_liesIn_33 : decode cX0_liesIn 33 = .ok (.aload_n 1, 1) := by decide +kernel
theorem dX0_liesIn_34 : decode cX0_liesIn 34 = .ok (.getfield 16, 3) := by decide +kernel
theorem dX0_liesIn_37 : decode cX0_liesIn 37 = .ok (.aload_n 0, 1) := by decide +kernel
theorem dX0_liesIn_38 : decode cX0_liesIn 38 = .ok (.getfield 16, 3) := by decide +kernel
theorem dX0_liesIn_41 : decode cX0_liesIn 41 = .ok (.if_icmp .gt 18, 3) := by decide +kernel
theorem dX0_liesIn_44 : decode cX0_liesIn 44 = .ok (.aload_n 0, 1) := by decide +kernel
theorem dX0_liesIn_45 : decode cX0_liesIn 45 = .ok (.getfield 22, 3) := by decide +kernel
theorem dX0_liesIn_48 : decode cX0_liesIn 48 = .ok (.aload_n 1, 1) := by decide +kernel
theorem dX0_liesIn_49 : decode cX0_liesIn 49 = .ok (.getfield 22, 3) := by decide +kernel
theorem dX0_liesIn_52 : decode cX0_liesIn 52 = .ok (.if_icmp .gt 7, 3) := by decide +kernel
theorem dX0_liesIn_55 : decode cX0_liesIn 55 = .ok (.iconst 1, 1) := by decide +kernel
theorem dX0_liesIn_56 : decode cX0_liesIn 56 = .ok (.goto 4, 3) := by decide +kernel
theorem dX0_liesIn_59 : decode cX0_liesIn 59 = .ok (.iconst 0, 1) := by decide +kernel
theorem dX0_liesIn_60 : decode cX0_liesIn 60 = .ok (.ireturn, 1) := by decide +kernel
abbrev cX1_init : ByteArray := prog_3_method_1_code
abbrev yX1_init : MethodName := ⟨"RangeReaders$Entry", "<init>", "(LRangeReaders$Area;I)V"⟩
theorem hd_X1_init : (yX1_init).cls ≠ "java/lang/invoke/MethodHandle" ∧ (yX1_init).cls ≠ "java/lang/invoke/VarHandle" ∧ (parseMethodDescriptor (yX1_init).desc).map (fun d => d.parameters.length) = some 2 := by decide +kernel
theorem dX1_init_0 : decode cX1_init 0 = .ok (.aload_n 0, 1) := by decide +kernel
theorem dX1_init_1 : decode cX1_init 1 = .ok (.invokespecial 1, 3) := by decide +kernel
theorem dX1_init_4 : decode cX1_init 4 = .ok (.aload_n 0, 1) := by decide +kernel
theorem dX1_init_5 : decode cX1_init 5 = .ok (.aload_n 1, 1) := by decide +kernel
theorem dX1_init_6 : decode cX1_init 6 = .ok (.putfield 7, 3) := by decide +kernel
theorem dX1_init_9 : decode cX1_init 9 = .ok (.aload_n 0, 1) := by decide +kernel
theorem dX1_init_10 : decode cX1_init 10 = .ok (.iload_n 2, 1) := by decide +kernel
theorem dX1_init_11 : decode cX1_init 11 = .ok (.putfield 13, 3) := by decide +kernel
theorem dX1_init_14 : decode cX1_init 14 = .ok (.return_, 1) := by decide +kernel
end
section
abbrev cX2_init : ByteArray := prog_1_method_1_code
abbrev yX2_init : MethodName := ⟨"RangeReaders", "<init>", "()V"⟩
theorem hd_X2_init : (yX2_init).cls ≠ "java/lang/invoke/MethodHandle" ∧ (yX2_init).cls ≠ "java/lang/invoke/VarHandle" ∧ (parseMethodDescriptor (yX2_init).desc).map (fun d => d.parameters.length) = some 0 := by decide +kernel
theorem dX2_init_0 : decode cX2_init 0 = .ok (.aload_n 0, 1) := by decide +kernel
theorem dX2_init_1 : decode cX2_init 1 = .ok (.invokespecial 1, 3) := by decide +kernel
theorem dX2_init_4 : decode cX2_init 4 = .ok (.aload_n 0, 1) := by decide +kernel
theorem dX2_init_5 : decode cX2_init 5 = .ok (.aconst_null, 1) := by decide +kernel
theorem dX2_init_6 : decode cX2_init 6 = .ok (.putfield 7, 3) := by decide +kernel
theorem dX2_init_9 : decode cX2_init 9 = .ok (.aload_n 0, 1) := by decide +kernel
theorem dX2_init_10 : decode cX2_init 10 = .ok (.bipush 16, 2) := by decide +kernel
theorem dX2_init_12 : decode cX2_init 12 = .ok (.anewarray 13, 3) := by decide +kernel
theorem dX2_init_15 : decode cX2_init 15 = .ok (.putfield 15, 3) := by decide +kernel
theorem dX2_init_18 : decode cX2_init 18 = .ok (.aload_n 0, 1) := by decide +kernel
theorem dX2_init_19 : decode cX2_init 19 = .ok (.iconst 0, 1) := by decide +kernel
theorem dX2_init_20 : decode cX2_init 20 = .ok (.putfield 19, 3) := by decide +kernel
theorem dX2_init_23 : decode cX2_init 23 = .ok (.aload_n 0, 1) := by decide +kernel
theorem dX2_init_24 : decode cX2_init 24 = .ok (.bipush 16, 2) := by decide +kernel
theorem dX2_init_26 : decode cX2_init 26 = .ok (.newarray .int, 2) := by decide +kernel
theorem dX2_init_28 : decode cX2_init 28 = .ok (.putfield 23, 3) := by decide +kernel
theorem dX2_init_31 : decode cX2_init 31 = .ok (.aload_n 0, 1) := by decide +kernel
theorem dX2_init_32 : decode cX2_init 32 = .ok (.iconst 0, 1) := by decide +kernel
theorem dX2_init_33 : decode cX2_init 33 = .ok (.putfield 27, 3) := by decide +kernel
theorem dX2_init_36 : decode cX2_init 36 = .ok (.return_, 1) := by decide +kernel
abbrev cX2_rectangle : ByteArray := prog_1_method_2_code
abbrev yX2_rectangle : MethodName := ⟨"RangeReaders", "rectangle", "(IIIII)Z"⟩
theorem hd_X2_rectangle : (yX2_rectangle).cls ≠ "java/lang/invoke/MethodHandle" ∧ (yX2_rectangle).cls ≠ "java/lang/invoke/VarHandle" ∧ (parseMethodDescriptor (yX2_rectangle).desc).map (fun d => d.parameters.length) = some 5 := by decide +kernel
theorem dX2_rectangle_0 : decode cX2_rectangle 0 = .ok (.iload_n 1, 1) := by decide +kernel
theorem dX2_rectangle_1 : decode cX2_rectangle 1 = .ok (.iload_n 2, 1) := by decide +kernel
theorem dX2_rectangle_2 : decode cX2_rectangle 2 = .ok (.iload_n 3, 1) := by decide +kernel
theorem dX2_rectangle_3 : decode cX2_rectangle 3 = .ok (.invokestatic 30, 3) := by decide +kernel
theorem dX2_rectangle_6 : decode cX2_rectangle 6 = .ok (.ifCond .eq 18, 3) := by decide +kernel
theorem dX2_rectangle_9 : decode cX2_rectangle 9 = .ok (.iload_n 1, 1) := by decide +kernel
theorem dX2_rectangle_10 : decode cX2_rectangle 10 = .ok (.iload 4, 2) := by decide +kernel
theorem dX2_rectangle_12 : decode cX2_rectangle 12 = .ok (.iload 5, 2) := by decide +kernel
theorem dX2_rectangle_14 : decode cX2_rectangle 14 = .ok (.invokestatic 30, 3) := by decide +kernel
theorem dX2_rectangle_17 : decode cX2_rectangle 17 = .ok (.ifCond .eq 7, 3) := by decide +kernel
theorem dX2_rectangle_20 : decode cX2_rectangle 20 = .ok (.iconst 1, 1) := by decide +kernel
theorem dX2_rectangle_21 : decode cX2_rectangle 21 = .ok (.goto 4, 3) := by decide +kernel
theorem dX2_rectangle_24 : decode cX2_rectangle 24 = .ok (.iconst 0, 1) := by decide +kernel
theorem dX2_rectangle_25 : decode cX2_rectangle 25 = .ok (.istore 6, 2) := by decide +kernel
theorem dX2_rectangle_27 : decode cX2_rectangle 27 = .ok (.iload 6, 2) := by decide +kernel
theorem dX2_rectangle_29 : decode cX2_rectangle 29 = .ok (.ifCond .eq 15, 3) := by decide +kernel
theorem dX2_rectangle_32 : decode cX2_rectangle 32 = .ok (.iload 4, 2) := by decide +kernel
theorem dX2_rectangle_34 : decode cX2_rectangle 34 = .ok (.iload_n 2, 1) := by decide +kernel
theorem dX2_rectangle_35 : decode cX2_rectangle 35 = .ok (.if_icmp .lt 9, 3) := by decide +kernel
theorem dX2_rectangle_38 : decode cX2_rectangle 38 = .ok (.iload 5, 2) := by decide +kernel
theorem dX2_rectangle_40 : decode cX2_rectangle 40 = .ok (.iload_n 3, 1) := by decide +kernel
theorem dX2_rectangle_41 : decode cX2_rectangle 41 = .ok (.if_icmp .ge 5, 3) := by decide +kernel
theorem dX2_rectangle_44 : decode cX2_rectangle 44 = .ok (.iconst 0, 1) := by decide +kernel
theorem dX2_rectangle_45 : decode cX2_rectangle 45 = .ok (.ireturn, 1) := by decide +kernel
theorem dX2_rectangle_46 : decode cX2_rectangle 46 = .ok (.aload_n 0, 1) := by decide +kernel
theorem dX2_rectangle_47 : decode cX2_rectangle 47 = .ok (.new 34, 3) := by decide +kernel
theorem dX2_rectangle_50 : decode cX2_rectangle 50 = .ok (.dup, 1) := by decide +kernel
theorem dX2_rectangle_51 : decode cX2_rectangle 51 = .ok (.iload_n 1, 1) := by decide +kernel
theorem dX2_rectangle_52 : decode cX2_rectangle 52 = .ok (.iload_n 2, 1) := by decide +kernel
theorem dX2_rectangle_53 : decode cX2_rectangle 53 = .ok (.iload_n 3, 1) := by decide +kernel
theorem dX2_rectangle_54 : decode cX2_rectangle 54 = .ok (.iload 4, 2) := by decide +kernel
theorem dX2_rectangle_56 : decode cX2_rectangle 56 = .ok (.iload 5, 2) := by decide +kernel
theorem dX2_rectangle_58 : decode cX2_rectangle 58 = .ok (.invokespecial 36, 3) := by decide +kernel
theorem dX2_rectangle_61 : decode cX2_rectangle 61 = .ok (.putfield 7, 3) := by decide +kernel
theorem dX2_rectangle_64 : decode cX2_rectangle 64 = .ok (.iconst 1, 1) := by decide +kernel
theorem dX2_rectangle_65 : decode cX2_rectangle 65 = .ok (.ireturn, 1) := by decide +kernel
abbrev cX2_isCell : ByteArray := prog_1_method_17_code
abbrev yX2_isCell : MethodName := ⟨"RangeReaders", "isCell", "(III)Z"⟩
theorem hd_X2_isCell : (yX2_isCell).cls ≠ "java/lang/invoke/MethodHandle" ∧ (yX2_isCell).cls ≠ "java/lang/invoke/VarHandle" ∧ (parseMethodDescriptor (yX2_isCell).desc).map (fun d => d.parameters.length) = some 3 := by decide +kernel
theorem dX2_isCell_0 : decode cX2_isCell 0 = .ok (.iload_n 0, 1) := by decide +kernel
theorem dX2_isCell_1 : decode cX2_isCell 1 = .ok (.invokestatic 149, 3) := by decide +kernel
theorem dX2_isCell_4 : decode cX2_isCell 4 = .ok (.ifCond .eq 23, 3) := by decide +kernel
theorem dX2_isCell_7 : decode cX2_isCell 7 = .ok (.iconst 0, 1) := by decide +kernel
theorem dX2_isCell_8 : decode cX2_isCell 8 = .ok (.iload_n 1, 1) := by decide +kernel
theorem dX2_isCell_9 : decode cX2_isCell 9 = .ok (.invokestatic 153, 3) := by decide +kernel
theorem dX2_isCell_12 : decode cX2_isCell 12 = .ok (.ifCond .eq 15, 3) := by decide +kernel
theorem dX2_isCell_15 : decode cX2_isCell 15 = .ok (.iconst 1, 1) := by decide +kernel
theorem dX2_isCell_16 : decode cX2_isCell 16 = .ok (.iload_n 2, 1) := by decide +kernel
theorem dX2_isCell_17 : decode cX2_isCell 17 = .ok (.invokestatic 153, 3) := by decide +kernel
theorem dX2_isCell_20 : decode cX2_isCell 20 = .ok (.ifCond .eq 7, 3) := by decide +kernel
theorem dX2_isCell_23 : decode cX2_isCell 23 = .ok (.iconst 1, 1) := by decide +kernel
theorem dX2_isCell_24 : decode cX2_isCell 24 = .ok (.goto 4, 3) := by decide +kernel
theorem dX2_isCell_27 : decode cX2_isCell 27 = .ok (.iconst 0, 1) := by decide +kernel
theorem dX2_isCell_28 : decode cX2_isCell 28 = .ok (.ireturn, 1) := by decide +kernel
abbrev cX2_isSheet : ByteArray := prog_1_method_14_code
abbrev yX2_isSheet : MethodName := ⟨"RangeReaders", "isSheet", "(I)Z"⟩
theorem hd_X2_isSheet : (yX2_isSheet).cls ≠ "java/lang/invoke/MethodHandle" ∧ (yX2_isSheet).cls ≠ "java/lang/invoke/VarHandle" ∧ (parseMethodDescriptor (yX2_isSheet).desc).map (fun d => d.parameters.length) = some 1 := by decide +kernel
theorem dX2_isSheet_0 : decode cX2_isSheet 0 = .ok (.iload_n 0, 1) := by decide +kernel
theorem dX2_isSheet_1 : decode cX2_isSheet 1 = .ok (.ifCond .lt 13, 3) := by decide +kernel
theorem dX2_isSheet_4 : decode cX2_isSheet 4 = .ok (.iload_n 0, 1) := by decide +kernel
theorem dX2_isSheet_5 : decode cX2_isSheet 5 = .ok (.bipush 8, 2) := by decide +kernel
theorem dX2_isSheet_7 : decode cX2_isSheet 7 = .ok (.if_icmp .ge 7, 3) := by decide +kernel
theorem dX2_isSheet_10 : decode cX2_isSheet 10 = .ok (.iconst 1, 1) := by decide +kernel
theorem dX2_isSheet_11 : decode cX2_isSheet 11 = .ok (.goto 4, 3) := by decide +kernel
theorem dX2_isSheet_14 : decode cX2_isSheet 14 = .ok (.iconst 0, 1) := by decide +kernel
theorem dX2_isSheet_15 : decode cX2_isSheet 15 = .ok (.ireturn, 1) := by decide +kernel
abbrev cX2_isLine : ByteArray := prog_1_method_16_code
abbrev yX2_isLine : MethodName := ⟨"RangeReaders", "isLine", "(ZI)Z"⟩
theorem hd_X2_isLine : (yX2_isLine).cls ≠ "java/lang/invoke/MethodHandle" ∧ (yX2_isLine).cls ≠ "java/lang/invoke/VarHandle" ∧ (parseMethodDescriptor (yX2_isLine).desc).map (fun d => d.parameters.length) = some 2 := by decide +kernel
theorem dX2_isLine_0 : decode cX2_isLine 0 = .ok (.iload_n 1, 1) := by decide +kernel
theorem dX2_isLine_1 : decode cX2_isLine 1 = .ok (.iconst 1, 1) := by decide +kernel
theorem dX2_isLine_2 : decode cX2_isLine 2 = .ok (.if_icmp .lt 15, 3) := by decide +kernel
theorem dX2_isLine_5 : decode cX2_isLine 5 = .ok (.iload_n 1, 1) := by decide +kernel
theorem dX2_isLine_6 : decode cX2_isLine 6 = .ok (.iload_n 0, 1) := by decide +kernel
theorem dX2_isLine_7 : decode cX2_isLine 7 = .ok (.invokestatic 109, 3) := by decide +kernel
theorem dX2_isLine_10 : decode cX2_isLine 10 = .ok (.if_icmp .gt 7, 3) := by decide +kernel
theorem dX2_isLine_13 : decode cX2_isLine 13 = .ok (.iconst 1, 1) := by decide +kernel
theorem dX2_isLine_14 : decode cX2_isLine 14 = .ok (.goto 4, 3) := by decide +kernel
theorem dX2_isLine_17 : decode cX2_isLine 17 = .ok (.iconst 0, 1) := by decide +kernel
theorem dX2_isLine_18 : decode cX2_isLine 18 = .ok (.ireturn, 1) := by decide +kernel
abbrev cX2_lastLine : ByteArray := prog_1_method_15_code
abbrev yX2_lastLine : MethodName := ⟨"RangeReaders", "lastLine", "(Z)I"⟩
theorem hd_X2_lastLine : (yX2_lastLine).cls ≠ "java/lang/invoke/MethodHandle" ∧ (yX2_lastLine).cls ≠ "java/lang/invoke/VarHandle" ∧ (parseMethodDescriptor (yX2_lastLine).desc).map (fun d => d.parameters.length) = some 1 := by decide +kernel
theorem dX2_lastLine_0 : decode cX2_lastLine 0 = .ok (.iload_n 0, 1) := by decide +kernel
theorem dX2_lastLine_1 : decode cX2_lastLine 1 = .ok (.ifCond .eq 9, 3) := by decide +kernel
theorem dX2_lastLine_4 : decode cX2_lastLine 4 = .ok (.sipush 16384, 3) := by decide +kernel
theorem dX2_lastLine_7 : decode cX2_lastLine 7 = .ok (.goto 5, 3) := by decide +kernel
theorem dX2_lastLine_10 : decode cX2_lastLine 10 = .ok (.ldc 148, 2) := by decide +kernel
theorem dX2_lastLine_12 : decode cX2_lastLine 12 = .ok (.ireturn, 1) := by decide +kernel
abbrev cX2_remove : ByteArray := prog_1_method_4_code
abbrev yX2_remove : MethodName := ⟨"RangeReaders", "remove", "(I)Z"⟩
theorem hd_X2_remove : (yX2_remove).cls ≠ "java/lang/invoke/MethodHandle" ∧ (yX2_remove).cls ≠ "java/lang/invoke/VarHandle" ∧ (parseMethodDescriptor (yX2_remove).desc).map (fun d => d.parameters.length) = some 1 := by decide +kernel
theorem dX2_remove_0 : decode cX2_remove 0 = .ok (.aload_n 0, 1) := by decide +kernel
theorem dX2_remove_1 : decode cX2_remove 1 = .ok (.iload_n 1, 1) := by decide +kernel
theorem dX2_remove_2 : decode cX2_remove 2 = .ok (.invokevirtual 68, 3) := by decide +kernel
theorem dX2_remove_5 : decode cX2_remove 5 = .ok (.ifnonnull 5, 3) := by decide +kernel
theorem dX2_remove_8 : decode cX2_remove 8 = .ok (.iconst 0, 1) := by decide +kernel
theorem dX2_remove_9 : decode cX2_remove 9 = .ok (.ireturn, 1) := by decide +kernel
theorem dX2_remove_10 : decode cX2_remove 10 = .ok (.aload_n 0, 1) := by decide +kernel
theorem dX2_remove_11 : decode cX2_remove 11 = .ok (.iload_n 1, 1) := by decide +kernel
theorem dX2_remove_12 : decode cX2_remove 12 = .ok (.invokevirtual 72, 3) := by decide +kernel
theorem dX2_remove_15 : decode cX2_remove 15 = .ok (.iconst 1, 1) := by decide +kernel
theorem dX2_remove_16 : decode cX2_remove 16 = .ok (.ireturn, 1) := by decide +kernel
abbrev cX2_entryAt : ByteArray := prog_1_method_19_code
abbrev yX2_entryAt : MethodName := ⟨"RangeReaders", "entryAt", "(I)LRangeReaders$Entry;"⟩
theorem hd_X2_entryAt : (yX2_entryAt).cls ≠ "java/lang/invoke/MethodHandle" ∧ (yX2_entryAt).cls ≠ "java/lang/invoke/VarHandle" ∧ (parseMethodDescriptor (yX2_entryAt).desc).map (fun d => d.parameters.length) = some 1 := by decide +kernel
theorem dX2_entryAt_0 : decode cX2_entryAt 0 = .ok (.iload_n 1, 1) := by decide +kernel
theorem dX2_entryAt_1 : decode cX2_entryAt 1 = .ok (.ifCond .lt 21, 3) := by decide +kernel
theorem dX2_entryAt_4 : decode cX2_entryAt 4 = .ok (.iload_n 1, 1) := by decide +kernel
theorem dX2_entryAt_5 : decode cX2_entryAt 5 = .ok (.aload_n 0, 1) := by decide +kernel
theorem dX2_entryAt_6 : decode cX2_entryAt 6 = .ok (.getfield 15, 3) := by decide +kernel
theorem dX2_entryAt_9 : decode cX2_entryAt 9 = .ok (.arraylength, 1) := by decide +kernel
theorem dX2_entryAt_10 : decode cX2_entryAt 10 = .ok (.if_icmp .ge 12, 3) := by decide +kernel
theorem dX2_entryAt_13 : decode cX2_entryAt 13 = .ok (.aload_n 0, 1) := by decide +kernel
theorem dX2_entryAt_14 : decode cX2_entryAt 14 = .ok (.getfield 15, 3) := by decide +kernel
theorem dX2_entryAt_17 : decode cX2_entryAt 17 = .ok (.iload_n 1, 1) := by decide +kernel
theorem dX2_entryAt_18 : decode cX2_entryAt 18 = .ok (.aaload, 1) := by decide +kernel
theorem dX2_entryAt_19 : decode cX2_entryAt 19 = .ok (.goto 4, 3) := by decide +kernel
theorem dX2_entryAt_22 : decode cX2_entryAt 22 = .ok (.aconst_null, 1) := by decide +kernel
theorem dX2_entryAt_23 : decode cX2_entryAt 23 = .ok (.areturn, 1) := by decide +kernel
abbrev cX2_release : ByteArray := prog_1_method_20_code
abbrev yX2_release : MethodName := ⟨"RangeReaders", "release", "(I)V"⟩
theorem hd_X2_release : (yX2_release).cls ≠ "java/lang/invoke/MethodHandle" ∧ (yX2_release).cls ≠ "java/lang/invoke/VarHandle" ∧ (parseMethodDescriptor (yX2_release).desc).map (fun d => d.parameters.length) = some 1 := by decide +kernel
theorem dX2_release_0 : decode cX2_release 0 = .ok (.iload_n 1, 1) := by decide +kernel
theorem dX2_release_1 : decode cX2_release 1 = .ok (.ifCond .lt 38, 3) := by decide +kernel
theorem dX2_release_4 : decode cX2_release 4 = .ok (.iload_n 1, 1) := by decide +kernel
theorem dX2_release_5 : decode cX2_release 5 = .ok (.aload_n 0, 1) := by decide +kernel
theorem dX2_release_6 : decode cX2_release 6 = .ok (.getfield 15, 3) := by decide +kernel
theorem dX2_release_9 : decode cX2_release 9 = .ok (.arraylength, 1) := by decide +kernel
theorem dX2_release_10 : decode cX2_release 10 = .ok (.if_icmp .ge 29, 3) := by decide +kernel
theorem dX2_release_13 : decode cX2_release 13 = .ok (.aload_n 0, 1) := by decide +kernel
theorem dX2_release_14 : decode cX2_release 14 = .ok (.getfield 15, 3) := by decide +kernel
theorem dX2_release_17 : decode cX2_release 17 = .ok (.iload_n 1, 1) := by decide +kernel
theorem dX2_release_18 : decode cX2_release 18 = .ok (.aaload, 1) := by decide +kernel
theorem dX2_release_19 : decode cX2_release 19 = .ok (.ifnull 20, 3) := by decide +kernel
theorem dX2_release_22 : decode cX2_release 22 = .ok (.aload_n 0, 1) := by decide +kernel
theorem dX2_release_23 : decode cX2_release 23 = .ok (.getfield 15, 3) := by decide +kernel
theorem dX2_release_26 : decode cX2_release 26 = .ok (.iload_n 1, 1) := by decide +kernel
theorem dX2_release_27 : decode cX2_release 27 = .ok (.aconst_null, 1) := by decide +kernel
theorem dX2_release_28 : decode cX2_release 28 = .ok (.aastore, 1) := by decide +kernel
theorem dX2_release_29 : decode cX2_release 29 = .ok (.aload_n 0, 1) := by decide +kernel
theorem dX2_release_30 : decode cX2_release 30 = .ok (.dup, 1) := by decide +kernel
theorem dX2_release_31 : decode cX2_release 31 = .ok (.getfield 19, 3) := by decide +kernel
theorem dX2_release_34 : decode cX2_release 34 = .ok (.iconst 1, 1) := by decide +kernel
theorem dX2_release_35 : decode cX2_release 35 = .ok (.isub, 1) := by decide +kernel
theorem dX2_release_36 : decode cX2_release 36 = .ok (.putfield 19, 3) := by decide +kernel
theorem dX2_release_39 : decode cX2_release 39 = .ok (.return_, 1) := by decide +kernel
abbrev cX2_drop : ByteArray := prog_1_method_5_code
abbrev yX2_drop : MethodName := ⟨"RangeReaders", "drop", "(I)I"⟩
theorem hd_X2_drop : (yX2_drop).cls ≠ "java/lang/invoke/MethodHandle" ∧ (yX2_drop).cls ≠ "java/lang/invoke/VarHandle" ∧ (parseMethodDescriptor (yX2_drop).desc).map (fun d => d.parameters.length) = some 1 := by decide +kernel
theorem dX2_drop_0 : decode cX2_drop 0 = .ok (.iconst 0, 1) := by decide +kernel
theorem dX2_drop_1 : decode cX2_drop 1 = .ok (.istore_n 2, 1) := by decide +kernel
theorem dX2_drop_2 : decode cX2_drop 2 = .ok (.iconst 0, 1) := by decide +kernel
theorem dX2_drop_3 : decode cX2_drop 3 = .ok (.istore_n 3, 1) := by decide +kernel
theorem dX2_drop_4 : decode cX2_drop 4 = .ok (.iload_n 3, 1) := by decide +kernel
theorem dX2_drop_5 : decode cX2_drop 5 = .ok (.aload_n 0, 1) := by decide +kernel
theorem dX2_drop_6 : decode cX2_drop 6 = .ok (.getfield 15, 3) := by decide +kernel
theorem dX2_drop_9 : decode cX2_drop 9 = .ok (.arraylength, 1) := by decide +kernel
theorem dX2_drop_10 : decode cX2_drop 10 = .ok (.if_icmp .ge 39, 3) := by decide +kernel
theorem dX2_drop_13 : decode cX2_drop 13 = .ok (.aload_n 0, 1) := by decide +kernel
theorem dX2_drop_14 : decode cX2_drop 14 = .ok (.getfield 15, 3) := by decide +kernel
theorem dX2_drop_17 : decode cX2_drop 17 = .ok (.iload_n 3, 1) := by decide +kernel
theorem dX2_drop_18 : decode cX2_drop 18 = .ok (.aaload, 1) := by decide +kernel
theorem dX2_drop_19 : decode cX2_drop 19 = .ok (.astore 4, 2) := by decide +kernel
theorem dX2_drop_21 : decode cX2_drop 21 = .ok (.aload 4, 2) := by decide +kernel
theorem dX2_drop_23 : decode cX2_drop 23 = .ok (.ifnull 20, 3) := by decide +kernel
theorem dX2_drop_26 : decode cX2_drop 26 = .ok (.aload 4, 2) := by decide +kernel
theorem dX2_drop_28 : decode cX2_drop 28 = .ok (.getfield 76, 3) := by decide +kernel
theorem dX2_drop_31 : decode cX2_drop 31 = .ok (.iload_n 1, 1) := by decide +kernel
theorem dX2_drop_32 : decode cX2_drop 32 = .ok (.if_icmp .ne 11, 3) := by decide +kernel
theorem dX2_drop_35 : decode cX2_drop 35 = .ok (.aload_n 0, 1) := by decide +kernel
theorem dX2_drop_36 : decode cX2_drop 36 = .ok (.iload_n 3, 1) := by decide +kernel
theorem dX2_drop_37 : decode cX2_drop 37 = .ok (.invokevirtual 72, 3) := by decide +kernel
theorem dX2_drop_40 : decode cX2_drop 40 = .ok (.iinc 2 1, 3) := by decide +kernel
theorem dX2_drop_43 : decode cX2_drop 43 = .ok (.iinc 3 1, 3) := by decide +kernel
theorem dX2_drop_46 : decode cX2_drop 46 = .ok (.goto (-42), 3) := by decide +kernel
theorem dX2_drop_49 : decode cX2_drop 49 = .ok (.iload_n 2, 1) := by decide +kernel
theorem dX2_drop_50 : decode cX2_drop 50 = .ok (.ireturn, 1) := by decide +kernel
abbrev cX2_met : ByteArray := prog_1_method_8_code
abbrev yX2_met : MethodName := ⟨"RangeReaders", "met", "(I)I"⟩
theorem hd_X2_met : (yX2_met).cls ≠ "java/lang/invoke/MethodHandle" ∧ (yX2_met).cls ≠ "java/lang/invoke/VarHandle" ∧ (parseMethodDescriptor (yX2_met).desc).map (fun d => d.parameters.length) = some 1 := by decide +kernel
theorem dX2_met_0 : decode cX2_met 0 = .ok (.iload_n 1, 1) := by decide +kernel
theorem dX2_met_1 : decode cX2_met 1 = .ok (.ifCond .lt 20, 3) := by decide +kernel
theorem dX2_met_4 : decode cX2_met 4 = .ok (.iload_n 1, 1) := by decide +kernel
theorem dX2_met_5 : decode cX2_met 5 = .ok (.aload_n 0, 1) := by decide +kernel
theorem dX2_met_6 : decode cX2_met 6 = .ok (.getfield 27, 3) := by decide +kernel
theorem dX2_met_9 : decode cX2_met 9 = .ok (.if_icmp .ge 12, 3) := by decide +kernel
theorem dX2_met_12 : decode cX2_met 12 = .ok (.iload_n 1, 1) := by decide +kernel
theorem dX2_met_13 : decode cX2_met 13 = .ok (.aload_n 0, 1) := by decide +kernel
theorem dX2_met_14 : decode cX2_met 14 = .ok (.getfield 23, 3) := by decide +kernel
theorem dX2_met_17 : decode cX2_met 17 = .ok (.arraylength, 1) := by decide +kernel
theorem dX2_met_18 : decode cX2_met 18 = .ok (.if_icmp .lt 5, 3) := by decide +kernel
theorem dX2_met_21 : decode cX2_met 21 = .ok (.iconst (-1), 1) := by decide +kernel
theorem dX2_met_22 : decode cX2_met 22 = .ok (.ireturn, 1) := by decide +kernel
theorem dX2_met_23 : decode cX2_met 23 = .ok (.aload_n 0, 1) := by decide +kernel
theorem dX2_met_24 : decode cX2_met 24 = .ok (.getfield 23, 3) := by decide +kernel
theorem dX2_met_27 : decode cX2_met 27 = .ok (.iload_n 1, 1) := by decide +kernel
theorem dX2_met_28 : decode cX2_met 28 = .ok (.iaload, 1) := by decide +kernel
theorem dX2_met_29 : decode cX2_met 29 = .ok (.ireturn, 1) := by decide +kernel
abbrev cX2_entry : ByteArray := prog_1_method_9_code
abbrev yX2_entry : MethodName := ⟨"RangeReaders", "entry", "(II)I"⟩
theorem hd_X2_entry : (yX2_entry).cls ≠ "java/lang/invoke/MethodHandle" ∧ (yX2_entry).cls ≠ "java/lang/invoke/VarHandle" ∧ (parseMethodDescriptor (yX2_entry).desc).map (fun d => d.parameters.length) = some 2 := by decide +kernel
theorem dX2_entry_0 : decode cX2_entry 0 = .ok (.aload_n 0, 1) := by decide +kernel
theorem dX2_entry_1 : decode cX2_entry 1 = .ok (.iload_n 1, 1) := by decide +kernel
theorem dX2_entry_2 : decode cX2_entry 2 = .ok (.invokevirtual 68, 3) := by decide +kernel
theorem dX2_entry_5 : decode cX2_entry 5 = .ok (.astore_n 3, 1) := by decide +kernel
theorem dX2_entry_6 : decode cX2_entry 6 = .ok (.aload_n 3, 1) := by decide +kernel
theorem dX2_entry_7 : decode cX2_entry 7 = .ok (.ifnonnull 5, 3) := by decide +kernel
theorem dX2_entry_10 : decode cX2_entry 10 = .ok (.iconst (-1), 1) := by decide +kernel
theorem dX2_entry_11 : decode cX2_entry 11 = .ok (.ireturn, 1) := by decide +kernel
theorem dX2_entry_12 : decode cX2_entry 12 = .ok (.iload_n 2, 1) := by decide +kernel
theorem dX2_entry_13 : decode cX2_entry 13 = .ok (.tableswitch 84 0 5 #[39, 47, 55, 63, 71, 79], 39) := by decide +kernel
theorem dX2_entry_52 : decode cX2_entry 52 = .ok (.aload_n 3, 1) := by decide +kernel
theorem dX2_entry_53 : decode cX2_entry 53 = .ok (.getfield 85, 3) := by decide +kernel
theorem dX2_entry_56 : decode cX2_entry 56 = .ok (.getfield 88, 3) := by decide +kernel
theorem dX2_entry_59 : decode cX2_entry 59 = .ok (.ireturn, 1) := by decide +kernel
theorem dX2_entry_60 : decode cX2_entry 60 = .ok (.aload_n 3, 1) := by decide +kernel
theorem dX2_entry_61 : decode cX2_entry 61 = .ok (.getfield 85, 3) := by decide +kernel
theorem dX2_entry_64 : decode cX2_entry 64 = .ok (.getfield 91, 3) := by decide +kernel
theorem dX2_entry_67 : decode cX2_entry 67 = .ok (.ireturn, 1) := by decide +kernel
theorem dX2_entry_68 : decode cX2_entry 68 = .ok (.aload_n 3, 1) := by decide +kernel
theorem dX2_entry_69 : decode cX2_entry 69 = .ok (.getfield 85, 3) := by decide +kernel
theorem dX2_entry_72 : decode cX2_entry 72 = .ok (.getfield 94, 3) := by decide +kernel
theorem dX2_entry_75 : decode cX2_entry 75 = .ok (.ireturn, 1) := by decide +kernel
theorem dX2_entry_76 : decode cX2_entry 76 = .ok (.aload_n 3, 1) := by decide +kernel
theorem dX2_entry_77 : decode cX2_entry 77 = .ok (.getfield 85, 3) := by decide +kernel
theorem dX2_entry_80 : decode cX2_entry 80 = .ok (.getfield 97, 3) := by decide +kernel
theorem dX2_entry_83 : decode cX2_entry 83 = .ok (.ireturn, 1) := by decide +kernel
theorem dX2_entry_84 : decode cX2_entry 84 = .ok (.aload_n 3, 1) := by decide +kernel
theorem dX2_entry_85 : decode cX2_entry 85 = .ok (.getfield 85, 3) := by decide +kernel
theorem dX2_entry_88 : decode cX2_entry 88 = .ok (.getfield 100, 3) := by decide +kernel
theorem dX2_entry_91 : decode cX2_entry 91 = .ok (.ireturn, 1) := by decide +kernel
theorem dX2_entry_92 : decode cX2_entry 92 = .ok (.aload_n 3, 1) := by decide +kernel
theorem dX2_entry_93 : decode cX2_entry 93 = .ok (.getfield 76, 3) := by decide +kernel
theorem dX2_entry_96 : decode cX2_entry 96 = .ok (.ireturn, 1) := by decide +kernel
theorem dX2_entry_97 : decode cX2_entry 97 = .ok (.iconst (-1), 1) := by decide +kernel
theorem dX2_entry_98 : decode cX2_entry 98 = .ok (.ireturn, 1) := by decide +kernel
abbrev cX2_count : ByteArray := prog_1_method_10_code
abbrev yX2_count : MethodName := ⟨"RangeReaders", "count", "()I"⟩
theorem hd_X2_count : (yX2_count).cls ≠ "java/lang/invoke/MethodHandle" ∧ (yX2_count).cls ≠ "java/lang/invoke/VarHandle" ∧ (parseMethodDescriptor (yX2_count).desc).map (fun d => d.parameters.length) = some 0 := by decide +kernel
theorem dX2_count_0 : decode cX2_count 0 = .ok (.aload_n 0, 1) := by decide +kernel
theorem dX2_count_1 : decode cX2_count 1 = .ok (.getfield 19, 3) := by decide +kernel
theorem dX2_count_4 : decode cX2_count 4 = .ok (.ireturn, 1) := by decide +kernel
abbrev cX2_add : ByteArray := prog_1_method_3_code
abbrev yX2_add : MethodName := ⟨"RangeReaders", "add", "(I)I"⟩
theorem hd_X2_add : (yX2_add).cls ≠ "java/lang/invoke/MethodHandle" ∧ (yX2_add).cls ≠ "java/lang/invoke/VarHandle" ∧ (parseMethodDescriptor (yX2_add).desc).map (fun d => d.parameters.length) = some 1 := by decide +kernel
theorem dX2_add_0 : decode cX2_add 0 = .ok (.aload_n 0, 1) := by decide +kernel
theorem dX2_add_1 : decode cX2_add 1 = .ok (.getfield 7, 3) := by decide +kernel
theorem dX2_add_4 : decode cX2_add 4 = .ok (.ifnonnull 13, 3) := by decide +kernel
theorem dX2_add_7 : decode cX2_add 7 = .ok (.new 39, 3) := by decide +kernel
theorem dX2_add_10 : decode cX2_add 10 = .ok (.dup, 1) := by decide +kernel
theorem dX2_add_11 : decode cX2_add 11 = .ok (.ldc 41, 2) := by decide +kernel
theorem dX2_add_13 : decode cX2_add 13 = .ok (.invokespecial 43, 3) := by decide +kernel
theorem dX2_add_16 : decode cX2_add 16 = .ok (.athrow, 1) := by decide +kernel
theorem dX2_add_17 : decode cX2_add 17 = .ok (.iload_n 1, 1) := by decide +kernel
theorem dX2_add_18 : decode cX2_add 18 = .ok (.ifCond .lt 10, 3) := by decide +kernel
theorem dX2_add_21 : decode cX2_add 21 = .ok (.iload_n 1, 1) := by decide +kernel
theorem dX2_add_22 : decode cX2_add 22 = .ok (.sipush 16384, 3) := by decide +kernel
theorem dX2_add_25 : decode cX2_add 25 = .ok (.if_icmp .lt 13, 3) := by decide +kernel
theorem dX2_add_28 : decode cX2_add 28 = .ok (.new 39, 3) := by decide +kernel
theorem dX2_add_31 : decode cX2_add 31 = .ok (.dup, 1) := by decide +kernel
theorem dX2_add_32 : decode cX2_add 32 = .ok (.ldc 46, 2) := by decide +kernel
theorem dX2_add_34 : decode cX2_add 34 = .ok (.invokespecial 43, 3) := by decide +kernel
theorem dX2_add_37 : decode cX2_add 37 = .ok (.athrow, 1) := by decide +kernel
theorem dX2_add_38 : decode cX2_add 38 = .ok (.aload_n 0, 1) := by decide +kernel
theorem dX2_add_39 : decode cX2_add 39 = .ok (.getfield 19, 3) := by decide +kernel
theorem dX2_add_42 : decode cX2_add 42 = .ok (.ldc 48, 2) := by decide +kernel
theorem dX2_add_44 : decode cX2_add 44 = .ok (.if_icmp .lt 13, 3) := by decide +kernel
theorem dX2_add_47 : decode cX2_add 47 = .ok (.new 49, 3) := by decide +kernel
theorem dX2_add_50 : decode cX2_add 50 = .ok (.dup, 1) := by decide +kernel
theorem dX2_add_51 : decode cX2_add 51 = .ok (.ldc 51, 2) := by decide +kernel
theorem dX2_add_53 : decode cX2_add 53 = .ok (.invokespecial 53, 3) := by decide +kernel
theorem dX2_add_56 : decode cX2_add 56 = .ok (.athrow, 1) := by decide +kernel
theorem dX2_add_57 : decode cX2_add 57 = .ok (.aload_n 0, 1) := by decide +kernel
theorem dX2_add_58 : decode cX2_add 58 = .ok (.invokevirtual 54, 3) := by decide +kernel
theorem dX2_add_61 : decode cX2_add 61 = .ok (.aload_n 0, 1) := by decide +kernel
theorem dX2_add_62 : decode cX2_add 62 = .ok (.invokevirtual 57, 3) := by decide +kernel
theorem dX2_add_65 : decode cX2_add 65 = .ok (.istore_n 2, 1) := by decide +kernel
theorem dX2_add_66 : decode cX2_add 66 = .ok (.iload_n 2, 1) := by decide +kernel
theorem dX2_add_67 : decode cX2_add 67 = .ok (.aload_n 0, 1) := by decide +kernel
theorem dX2_add_68 : decode cX2_add 68 = .ok (.getfield 15, 3) := by decide +kernel
theorem dX2_add_71 : decode cX2_add 71 = .ok (.arraylength, 1) := by decide +kernel
theorem dX2_add_72 : decode cX2_add 72 = .ok (.if_icmp .ge 34, 3) := by decide +kernel
theorem dX2_add_75 : decode cX2_add 75 = .ok (.aload_n 0, 1) := by decide +kernel
theorem dX2_add_76 : decode cX2_add 76 = .ok (.getfield 15, 3) := by decide +kernel
theorem dX2_add_79 : decode cX2_add 79 = .ok (.iload_n 2, 1) := by decide +kernel
theorem dX2_add_80 : decode cX2_add 80 = .ok (.new 13, 3) := by decide +kernel
theorem dX2_add_83 : decode cX2_add 83 = .ok (.dup, 1) := by decide +kernel
theorem dX2_add_84 : decode cX2_add 84 = .ok (.aload_n 0, 1) := by decide +kernel
theorem dX2_add_85 : decode cX2_add 85 = .ok (.getfield 7, 3) := by decide +kernel
theorem dX2_add_88 : decode cX2_add 88 = .ok (.invokevirtual 61, 3) := by decide +kernel
theorem dX2_add_91 : decode cX2_add 91 = .ok (.iload_n 1, 1) := by decide +kernel
theorem dX2_add_92 : decode cX2_add 92 = .ok (.invokespecial 65, 3) := by decide +kernel
theorem dX2_add_95 : decode cX2_add 95 = .ok (.aastore, 1) := by decide +kernel
theorem dX2_add_96 : decode cX2_add 96 = .ok (.aload_n 0, 1) := by decide +kernel
theorem dX2_add_97 : decode cX2_add 97 = .ok (.dup, 1) := by decide +kernel
theorem dX2_add_98 : decode cX2_add 98 = .ok (.getfield 19, 3) := by decide +kernel
theorem dX2_add_101 : decode cX2_add 101 = .ok (.iconst 1, 1) := by decide +kernel
theorem dX2_add_102 : decode cX2_add 102 = .ok (.iadd, 1) := by decide +kernel
theorem dX2_add_103 : decode cX2_add 103 = .ok (.putfield 19, 3) := by decide +kernel
theorem dX2_add_106 : decode cX2_add 106 = .ok (.iload_n 2, 1) := by decide +kernel
theorem dX2_add_107 : decode cX2_add 107 = .ok (.ireturn, 1) := by decide +kernel
abbrev cX2_makeRoom : ByteArray := prog_1_method_21_code
abbrev yX2_makeRoom : MethodName := ⟨"RangeReaders", "makeRoom", "()V"⟩
theorem hd_X2_makeRoom : (yX2_makeRoom).cls ≠ "java/lang/invoke/MethodHandle" ∧ (yX2_makeRoom).cls ≠ "java/lang/invoke/VarHandle" ∧ (parseMethodDescriptor (yX2_makeRoom).desc).map (fun d => d.parameters.length) = some 0 := by decide +kernel
theorem dX2_makeRoom_0 : decode cX2_makeRoom 0 = .ok (.aload_n 0, 1) := by decide +kernel
theorem dX2_makeRoom_1 : decode cX2_makeRoom 1 = .ok (.getfield 19, 3) := by decide +kernel
theorem dX2_makeRoom_4 : decode cX2_makeRoom 4 = .ok (.aload_n 0, 1) := by decide +kernel
theorem dX2_makeRoom_5 : decode cX2_makeRoom 5 = .ok (.getfield 15, 3) := by decide +kernel
theorem dX2_makeRoom_8 : decode cX2_makeRoom 8 = .ok (.arraylength, 1) := by decide +kernel
theorem dX2_makeRoom_9 : decode cX2_makeRoom 9 = .ok (.if_icmp .ge 4, 3) := by decide +kernel
theorem dX2_makeRoom_12 : decode cX2_makeRoom 12 = .ok (.return_, 1) := by decide +kernel
theorem dX2_makeRoom_13 : decode cX2_makeRoom 13 = .ok (.iconst 2, 1) := by decide +kernel
theorem dX2_makeRoom_14 : decode cX2_makeRoom 14 = .ok (.aload_n 0, 1) := by decide +kernel
theorem dX2_makeRoom_15 : decode cX2_makeRoom 15 = .ok (.getfield 19, 3) := by decide +kernel
theorem dX2_makeRoom_18 : decode cX2_makeRoom 18 = .ok (.imul, 1) := by decide +kernel
theorem dX2_makeRoom_19 : decode cX2_makeRoom 19 = .ok (.ldc 48, 2) := by decide +kernel
theorem dX2_makeRoom_21 : decode cX2_makeRoom 21 = .ok (.invokestatic 123, 3) := by decide +kernel
theorem dX2_makeRoom_24 : decode cX2_makeRoom 24 = .ok (.anewarray 13, 3) := by decide +kernel
theorem dX2_makeRoom_27 : decode cX2_makeRoom 27 = .ok (.astore_n 1, 1) := by decide +kernel
theorem dX2_makeRoom_28 : decode cX2_makeRoom 28 = .ok (.iconst 0, 1) := by decide +kernel
theorem dX2_makeRoom_29 : decode cX2_makeRoom 29 = .ok (.istore_n 2, 1) := by decide +kernel
theorem dX2_makeRoom_30 : decode cX2_makeRoom 30 = .ok (.iload_n 2, 1) := by decide +kernel
theorem dX2_makeRoom_31 : decode cX2_makeRoom 31 = .ok (.aload_n 0, 1) := by decide +kernel
theorem dX2_makeRoom_32 : decode cX2_makeRoom 32 = .ok (.getfield 15, 3) := by decide +kernel
theorem dX2_makeRoom_35 : decode cX2_makeRoom 35 = .ok (.arraylength, 1) := by decide +kernel
theorem dX2_makeRoom_36 : decode cX2_makeRoom 36 = .ok (.if_icmp .ge 24, 3) := by decide +kernel
theorem dX2_makeRoom_39 : decode cX2_makeRoom 39 = .ok (.iload_n 2, 1) := by decide +kernel
theorem dX2_makeRoom_40 : decode cX2_makeRoom 40 = .ok (.aload_n 1, 1) := by decide +kernel
theorem dX2_makeRoom_41 : decode cX2_makeRoom 41 = .ok (.arraylength, 1) := by decide +kernel
theorem dX2_makeRoom_42 : decode cX2_makeRoom 42 = .ok (.if_icmp .ge 18, 3) := by decide +kernel
theorem dX2_makeRoom_45 : decode cX2_makeRoom 45 = .ok (.aload_n 1, 1) := by decide +kernel
theorem dX2_makeRoom_46 : decode cX2_makeRoom 46 = .ok (.iload_n 2, 1) := by decide +kernel
theorem dX2_makeRoom_47 : decode cX2_makeRoom 47 = .ok (.aload_n 0, 1) := by decide +kernel
theorem dX2_makeRoom_48 : decode cX2_makeRoom 48 = .ok (.getfield 15, 3) := by decide +kernel
theorem dX2_makeRoom_51 : decode cX2_makeRoom 51 = .ok (.iload_n 2, 1) := by decide +kernel
theorem dX2_makeRoom_52 : decode cX2_makeRoom 52 = .ok (.aaload, 1) := by decide +kernel
theorem dX2_makeRoom_53 : decode cX2_makeRoom 53 = .ok (.aastore, 1) := by decide +kernel
theorem dX2_makeRoom_54 : decode cX2_makeRoom 54 = .ok (.iinc 2 1, 3) := by decide +kernel
theorem dX2_makeRoom_57 : decode cX2_makeRoom 57 = .ok (.goto (-27), 3) := by decide +kernel
theorem dX2_makeRoom_60 : decode cX2_makeRoom 60 = .ok (.aload_n 0, 1) := by decide +kernel
theorem dX2_makeRoom_61 : decode cX2_makeRoom 61 = .ok (.aload_n 1, 1) := by decide +kernel
theorem dX2_makeRoom_62 : decode cX2_makeRoom 62 = .ok (.putfield 15, 3) := by decide +kernel
theorem dX2_makeRoom_65 : decode cX2_makeRoom 65 = .ok (.return_, 1) := by decide +kernel
abbrev cX2_lowestFree : ByteArray := prog_1_method_22_code
abbrev yX2_lowestFree : MethodName := ⟨"RangeReaders", "lowestFree", "()I"⟩
theorem hd_X2_lowestFree : (yX2_lowestFree).cls ≠ "java/lang/invoke/MethodHandle" ∧ (yX2_lowestFree).cls ≠ "java/lang/invoke/VarHandle" ∧ (parseMethodDescriptor (yX2_lowestFree).desc).map (fun d => d.parameters.length) = some 0 := by decide +kernel
theorem dX2_lowestFree_0 : decode cX2_lowestFree 0 = .ok (.iconst 0, 1) := by decide +kernel
theorem dX2_lowestFree_1 : decode cX2_lowestFree 1 = .ok (.istore_n 1, 1) := by decide +kernel
theorem dX2_lowestFree_2 : decode cX2_lowestFree 2 = .ok (.iload_n 1, 1) := by decide +kernel
theorem dX2_lowestFree_3 : decode cX2_lowestFree 3 = .ok (.aload_n 0, 1) := by decide +kernel
theorem dX2_lowestFree_4 : decode cX2_lowestFree 4 = .ok (.getfield 15, 3) := by decide +kernel
theorem dX2_lowestFree_7 : decode cX2_lowestFree 7 = .ok (.arraylength, 1) := by decide +kernel
theorem dX2_lowestFree_8 : decode cX2_lowestFree 8 = .ok (.if_icmp .ge 18, 3) := by decide +kernel
theorem dX2_lowestFree_11 : decode cX2_lowestFree 11 = .ok (.aload_n 0, 1) := by decide +kernel
theorem dX2_lowestFree_12 : decode cX2_lowestFree 12 = .ok (.getfield 15, 3) := by decide +kernel
theorem dX2_lowestFree_15 : decode cX2_lowestFree 15 = .ok (.iload_n 1, 1) := by decide +kernel
theorem dX2_lowestFree_16 : decode cX2_lowestFree 16 = .ok (.aaload, 1) := by decide +kernel
theorem dX2_lowestFree_17 : decode cX2_lowestFree 17 = .ok (.ifnull 9, 3) := by decide +kernel
theorem dX2_lowestFree_20 : decode cX2_lowestFree 20 = .ok (.iinc 1 1, 3) := by decide +kernel
theorem dX2_lowestFree_23 : decode cX2_lowestFree 23 = .ok (.goto (-21), 3) := by decide +kernel
theorem dX2_lowestFree_26 : decode cX2_lowestFree 26 = .ok (.iload_n 1, 1) := by decide +kernel
theorem dX2_lowestFree_27 : decode cX2_lowestFree 27 = .ok (.ireturn, 1) := by decide +kernel
abbrev cX2_readers : ByteArray := prog_1_method_6_code
abbrev yX2_readers : MethodName := ⟨"RangeReaders", "readers", "(III)I"⟩
theorem hd_X2_readers : (yX2_readers).cls ≠ "java/lang/invoke/MethodHandle" ∧ (yX2_readers).cls ≠ "java/lang/invoke/VarHandle" ∧ (parseMethodDescriptor (yX2_readers).desc).map (fun d => d.parameters.length) = some 3 := by decide +kernel
theorem dX2_readers_0 : decode cX2_readers 0 = .ok (.iload_n 1, 1) := by decide +kernel
theorem dX2_readers_1 : decode cX2_readers 1 = .ok (.iload_n 2, 1) := by decide +kernel
theorem dX2_readers_2 : decode cX2_readers 2 = .ok (.iload_n 3, 1) := by decide +kernel
theorem dX2_readers_3 : decode cX2_readers 3 = .ok (.invokestatic 30, 3) := by decide +kernel
theorem dX2_readers_6 : decode cX2_readers 6 = .ok (.ifCond .ne 13, 3) := by decide +kernel
theorem dX2_readers_9 : decode cX2_readers 9 = .ok (.new 39, 3) := by decide +kernel
theorem dX2_readers_12 : decode cX2_readers 12 = .ok (.dup, 1) := by decide +kernel
theorem dX2_readers_13 : decode cX2_readers 13 = .ok (.ldc 79, 2) := by decide +kernel
theorem dX2_readers_15 : decode cX2_readers 15 = .ok (.invokespecial 43, 3) := by decide +kernel
theorem dX2_readers_18 : decode cX2_readers 18 = .ok (.athrow, 1) := by decide +kernel
theorem dX2_readers_19 : decode cX2_readers 19 = .ok (.aload_n 0, 1) := by decide +kernel
theorem dX2_readers_20 : decode cX2_readers 20 = .ok (.new 34, 3) := by decide +kernel
theorem dX2_readers_23 : decode cX2_readers 23 = .ok (.dup, 1) := by decide +kernel
theorem dX2_readers_24 : decode cX2_readers 24 = .ok (.iload_n 1, 1) := by decide +kernel
theorem dX2_readers_25 : decode cX2_readers 25 = .ok (.iload_n 2, 1) := by decide +kernel
theorem dX2_readers_26 : decode cX2_readers 26 = .ok (.iload_n 3, 1) := by decide +kernel
theorem dX2_readers_27 : decode cX2_readers 27 = .ok (.iload_n 2, 1) := by decide +kernel
theorem dX2_readers_28 : decode cX2_readers 28 = .ok (.iload_n 3, 1) := by decide +kernel
theorem dX2_readers_29 : decode cX2_readers 29 = .ok (.invokespecial 36, 3) := by decide +kernel
theorem dX2_readers_32 : decode cX2_readers 32 = .ok (.invokevirtual 81, 3) := by decide +kernel
theorem dX2_readers_35 : decode cX2_readers 35 = .ok (.aload_n 0, 1) := by decide +kernel
theorem dX2_readers_36 : decode cX2_readers 36 = .ok (.getfield 27, 3) := by decide +kernel
theorem dX2_readers_39 : decode cX2_readers 39 = .ok (.ireturn, 1) := by decide +kernel
abbrev cX2_findMeeting : ByteArray := prog_1_method_23_code
abbrev yX2_findMeeting : MethodName := ⟨"RangeReaders", "findMeeting", "(LRangeReaders$Area;)V"⟩
theorem hd_X2_findMeeting : (yX2_findMeeting).cls ≠ "java/lang/invoke/MethodHandle" ∧ (yX2_findMeeting).cls ≠ "java/lang/invoke/VarHandle" ∧ (parseMethodDescriptor (yX2_findMeeting).desc).map (fun d => d.parameters.length) = some 1 := by decide +kernel
theorem dX2_findMeeting_0 : decode cX2_findMeeting 0 = .ok (.aload_n 0, 1) := by decide +kernel
theorem dX2_findMeeting_1 : decode cX2_findMeeting 1 = .ok (.getfield 23, 3) := by decide +kernel
theorem dX2_findMeeting_4 : decode cX2_findMeeting 4 = .ok (.arraylength, 1) := by decide +kernel
theorem dX2_findMeeting_5 : decode cX2_findMeeting 5 = .ok (.aload_n 0, 1) := by decide +kernel
theorem dX2_findMeeting_6 : decode cX2_findMeeting 6 = .ok (.getfield 15, 3) := by decide +kernel
theorem dX2_findMeeting_9 : decode cX2_findMeeting 9 = .ok (.arraylength, 1) := by decide +kernel
theorem dX2_findMeeting_10 : decode cX2_findMeeting 10 = .ok (.if_icmp .ge 14, 3) := by decide +kernel
theorem dX2_findMeeting_13 : decode cX2_findMeeting 13 = .ok (.aload_n 0, 1) := by decide +kernel
theorem dX2_findMeeting_14 : decode cX2_findMeeting 14 = .ok (.aload_n 0, 1) := by decide +kernel
theorem dX2_findMeeting_15 : decode cX2_findMeeting 15 = .ok (.getfield 15, 3) := by decide +kernel
theorem dX2_findMeeting_18 : decode cX2_findMeeting 18 = .ok (.arraylength, 1) := by decide +kernel
theorem dX2_findMeeting_19 : decode cX2_findMeeting 19 = .ok (.newarray .int, 2) := by decide +kernel
theorem dX2_findMeeting_21 : decode cX2_findMeeting 21 = .ok (.putfield 23, 3) := by decide +kernel
theorem dX2_findMeeting_24 : decode cX2_findMeeting 24 = .ok (.aload_n 0, 1) := by decide +kernel
theorem dX2_findMeeting_25 : decode cX2_findMeeting 25 = .ok (.iconst 0, 1) := by decide +kernel
theorem dX2_findMeeting_26 : decode cX2_findMeeting 26 = .ok (.putfield 27, 3) := by decide +kernel
theorem dX2_findMeeting_29 : decode cX2_findMeeting 29 = .ok (.iconst 0, 1) := by decide +kernel
theorem dX2_findMeeting_30 : decode cX2_findMeeting 30 = .ok (.istore_n 2, 1) := by decide +kernel
theorem dX2_findMeeting_31 : decode cX2_findMeeting 31 = .ok (.iload_n 2, 1) := by decide +kernel
theorem dX2_findMeeting_32 : decode cX2_findMeeting 32 = .ok (.aload_n 0, 1) := by decide +kernel
theorem dX2_findMeeting_33 : decode cX2_findMeeting 33 = .ok (.getfield 15, 3) := by decide +kernel
theorem dX2_findMeeting_36 : decode cX2_findMeeting 36 = .ok (.arraylength, 1) := by decide +kernel
theorem dX2_findMeeting_37 : decode cX2_findMeeting 37 = .ok (.if_icmp .ge 63, 3) := by decide +kernel
theorem dX2_findMeeting_40 : decode cX2_findMeeting 40 = .ok (.aload_n 0, 1) := by decide +kernel
theorem dX2_findMeeting_41 : decode cX2_findMeeting 41 = .ok (.getfield 15, 3) := by decide +kernel
theorem dX2_findMeeting_44 : decode cX2_findMeeting 44 = .ok (.iload_n 2, 1) := by decide +kernel
theorem dX2_findMeeting_45 : decode cX2_findMeeting 45 = .ok (.aaload, 1) := by decide +kernel
theorem dX2_findMeeting_46 : decode cX2_findMeeting 46 = .ok (.astore_n 3, 1) := by decide +kernel
theorem dX2_findMeeting_47 : decode cX2_findMeeting 47 = .ok (.aload_n 3, 1) := by decide +kernel
theorem dX2_findMeeting_48 : decode cX2_findMeeting 48 = .ok (.ifnull 46, 3) := by decide +kernel
theorem dX2_findMeeting_51 : decode cX2_findMeeting 51 = .ok (.aload_n 3, 1) := by decide +kernel
theorem dX2_findMeeting_52 : decode cX2_findMeeting 52 = .ok (.getfield 85, 3) := by decide +kernel
theorem dX2_findMeeting_55 : decode cX2_findMeeting 55 = .ok (.aload_n 1, 1) := by decide +kernel
theorem dX2_findMeeting_56 : decode cX2_findMeeting 56 = .ok (.invokevirtual 157, 3) := by decide +kernel
theorem dX2_findMeeting_59 : decode cX2_findMeeting 59 = .ok (.ifCond .eq 35, 3) := by decide +kernel
theorem dX2_findMeeting_62 : decode cX2_findMeeting 62 = .ok (.aload_n 0, 1) := by decide +kernel
theorem dX2_findMeeting_63 : decode cX2_findMeeting 63 = .ok (.getfield 27, 3) := by decide +kernel
theorem dX2_findMeeting_66 : decode cX2_findMeeting 66 = .ok (.aload_n 0, 1) := by decide +kernel
theorem dX2_findMeeting_67 : decode cX2_findMeeting 67 = .ok (.getfield 23, 3) := by decide +kernel
theorem dX2_findMeeting_70 : decode cX2_findMeeting 70 = .ok (.arraylength, 1) := by decide +kernel
theorem dX2_findMeeting_71 : decode cX2_findMeeting 71 = .ok (.if_icmp .ge 23, 3) := by decide +kernel
theorem dX2_findMeeting_74 : decode cX2_findMeeting 74 = .ok (.aload_n 0, 1) := by decide +kernel
theorem dX2_findMeeting_75 : decode cX2_findMeeting 75 = .ok (.getfield 23, 3) := by decide +kernel
theorem dX2_findMeeting_78 : decode cX2_findMeeting 78 = .ok (.aload_n 0, 1) := by decide +kernel
theorem dX2_findMeeting_79 : decode cX2_findMeeting 79 = .ok (.getfield 27, 3) := by decide +kernel
theorem dX2_findMeeting_82 : decode cX2_findMeeting 82 = .ok (.iload_n 2, 1) := by decide +kernel
theorem dX2_findMeeting_83 : decode cX2_findMeeting 83 = .ok (.iastore, 1) := by decide +kernel
theorem dX2_findMeeting_84 : decode cX2_findMeeting 84 = .ok (.aload_n 0, 1) := by decide +kernel
theorem dX2_findMeeting_85 : decode cX2_findMeeting 85 = .ok (.dup, 1) := by decide +kernel
theorem dX2_findMeeting_86 : decode cX2_findMeeting 86 = .ok (.getfield 27, 3) := by decide +kernel
theorem dX2_findMeeting_89 : decode cX2_findMeeting 89 = .ok (.iconst 1, 1) := by decide +kernel
theorem dX2_findMeeting_90 : decode cX2_findMeeting 90 = .ok (.iadd, 1) := by decide +kernel
theorem dX2_findMeeting_91 : decode cX2_findMeeting 91 = .ok (.putfield 27, 3) := by decide +kernel
theorem dX2_findMeeting_94 : decode cX2_findMeeting 94 = .ok (.iinc 2 1, 3) := by decide +kernel
theorem dX2_findMeeting_97 : decode cX2_findMeeting 97 = .ok (.goto (-66), 3) := by decide +kernel
theorem dX2_findMeeting_100 : decode cX2_findMeeting 100 = .ok (.return_, 1) := by decide +kernel
abbrev cX2_meet : ByteArray := prog_1_method_7_code
abbrev yX2_meet : MethodName := ⟨"RangeReaders", "meet", "()I"⟩
theorem hd_X2_meet : (yX2_meet).cls ≠ "java/lang/invoke/MethodHandle" ∧ (yX2_meet).cls ≠ "java/lang/invoke/VarHandle" ∧ (parseMethodDescriptor (yX2_meet).desc).map (fun d => d.parameters.length) = some 0 := by decide +kernel
theorem dX2_meet_0 : decode cX2_meet 0 = .ok (.aload_n 0, 1) := by decide +kernel
theorem dX2_meet_1 : decode cX2_meet 1 = .ok (.getfield 7, 3) := by decide +kernel
theorem dX2_meet_4 : decode cX2_meet 4 = .ok (.ifnonnull 13, 3) := by decide +kernel
theorem dX2_meet_7 : decode cX2_meet 7 = .ok (.new 49, 3) := by decide +kernel
theorem dX2_meet_10 : decode cX2_meet 10 = .ok (.dup, 1) := by decide +kernel
theorem dX2_meet_11 : decode cX2_meet 11 = .ok (.ldc 41, 2) := by decide +kernel
theorem dX2_meet_13 : decode cX2_meet 13 = .ok (.invokespecial 53, 3) := by decide +kernel
theorem dX2_meet_16 : decode cX2_meet 16 = .ok (.athrow, 1) := by decide +kernel
theorem dX2_meet_17 : decode cX2_meet 17 = .ok (.aload_n 0, 1) := by decide +kernel
theorem dX2_meet_18 : decode cX2_meet 18 = .ok (.aload_n 0, 1) := by decide +kernel
theorem dX2_meet_19 : decode cX2_meet 19 = .ok (.getfield 7, 3) := by decide +kernel
theorem dX2_meet_22 : decode cX2_meet 22 = .ok (.invokevirtual 81, 3) := by decide +kernel
theorem dX2_meet_25 : decode cX2_meet 25 = .ok (.aload_n 0, 1) := by decide +kernel
theorem dX2_meet_26 : decode cX2_meet 26 = .ok (.getfield 27, 3) := by decide +kernel
theorem dX2_meet_29 : decode cX2_meet 29 = .ok (.ireturn, 1) := by decide +kernel
abbrev cX2_insert : ByteArray := prog_1_method_11_code
abbrev yX2_insert : MethodName := ⟨"RangeReaders", "insert", "(IZII)I"⟩
theorem hd_X2_insert : (yX2_insert).cls ≠ "java/lang/invoke/MethodHandle" ∧ (yX2_insert).cls ≠ "java/lang/invoke/VarHandle" ∧ (parseMethodDescriptor (yX2_insert).desc).map (fun d => d.parameters.length) = some 4 := by decide +kernel
theorem dX2_insert_0 : decode cX2_insert 0 = .ok (.iload_n 1, 1) := by decide +kernel
theorem dX2_insert_1 : decode cX2_insert 1 = .ok (.iload_n 2, 1) := by decide +kernel
theorem dX2_insert_2 : decode cX2_insert 2 = .ok (.iload_n 3, 1) := by decide +kernel
theorem dX2_insert_3 : decode cX2_insert 3 = .ok (.iload 4, 2) := by decide +kernel
theorem dX2_insert_5 : decode cX2_insert 5 = .ok (.invokestatic 103, 3) := by decide +kernel
theorem dX2_insert_8 : decode cX2_insert 8 = .ok (.ifCond .ne 13, 3) := by decide +kernel
theorem dX2_insert_11 : decode cX2_insert 11 = .ok (.new 39, 3) := by decide +kernel
theorem dX2_insert_14 : decode cX2_insert 14 = .ok (.dup, 1) := by decide +kernel
theorem dX2_insert_15 : decode cX2_insert 15 = .ok (.ldc 107, 2) := by decide +kernel
theorem dX2_insert_17 : decode cX2_insert 17 = .ok (.invokespecial 43, 3) := by decide +kernel
theorem dX2_insert_20 : decode cX2_insert 20 = .ok (.athrow, 1) := by decide +kernel
theorem dX2_insert_21 : decode cX2_insert 21 = .ok (.iload_n 2, 1) := by decide +kernel
theorem dX2_insert_22 : decode cX2_insert 22 = .ok (.invokestatic 109, 3) := by decide +kernel
theorem dX2_insert_25 : decode cX2_insert 25 = .ok (.istore 5, 2) := by decide +kernel
theorem dX2_insert_27 : decode cX2_insert 27 = .ok (.iconst 0, 1) := by decide +kernel
theorem dX2_insert_28 : decode cX2_insert 28 = .ok (.istore 6, 2) := by decide +kernel
theorem dX2_insert_30 : decode cX2_insert 30 = .ok (.iconst 0, 1) := by decide +kernel
theorem dX2_insert_31 : decode cX2_insert 31 = .ok (.istore 7, 2) := by decide +kernel
theorem dX2_insert_33 : decode cX2_insert 33 = .ok (.iload 7, 2) := by decide +kernel
theorem dX2_insert_35 : decode cX2_insert 35 = .ok (.aload_n 0, 1) := by decide +kernel
theorem dX2_insert_36 : decode cX2_insert 36 = .ok (.getfield 15, 3) := by decide +kernel
theorem dX2_insert_39 : decode cX2_insert 39 = .ok (.arraylength, 1) := by decide +kernel
theorem dX2_insert_40 : decode cX2_insert 40 = .ok (.if_icmp .ge 115, 3) := by decide +kernel
theorem dX2_insert_43 : decode cX2_insert 43 = .ok (.aload_n 0, 1) := by decide +kernel
theorem dX2_insert_44 : decode cX2_insert 44 = .ok (.getfield 15, 3) := by decide +kernel
theorem dX2_insert_47 : decode cX2_insert 47 = .ok (.iload 7, 2) := by decide +kernel
theorem dX2_insert_49 : decode cX2_insert 49 = .ok (.aaload, 1) := by decide +kernel
theorem dX2_insert_50 : decode cX2_insert 50 = .ok (.astore 8, 2) := by decide +kernel
theorem dX2_insert_52 : decode cX2_insert 52 = .ok (.aload 8, 2) := by decide +kernel
theorem dX2_insert_54 : decode cX2_insert 54 = .ok (.ifnull 95, 3) := by decide +kernel
theorem dX2_insert_57 : decode cX2_insert 57 = .ok (.aload 8, 2) := by decide +kernel
theorem dX2_insert_59 : decode cX2_insert 59 = .ok (.getfield 85, 3) := by decide +kernel
theorem dX2_insert_62 : decode cX2_insert 62 = .ok (.iload_n 1, 1) := by decide +kernel
theorem dX2_insert_63 : decode cX2_insert 63 = .ok (.iload_n 2, 1) := by decide +kernel
theorem dX2_insert_64 : decode cX2_insert 64 = .ok (.invokevirtual 113, 3) := by decide +kernel
theorem dX2_insert_67 : decode cX2_insert 67 = .ok (.ifCond .eq 82, 3) := by decide +kernel
theorem dX2_insert_70 : decode cX2_insert 70 = .ok (.aload 8, 2) := by decide +kernel
theorem dX2_insert_72 : decode cX2_insert 72 = .ok (.getfield 85, 3) := by decide +kernel
theorem dX2_insert_75 : decode cX2_insert 75 = .ok (.iload_n 2, 1) := by decide +kernel
theorem dX2_insert_76 : decode cX2_insert 76 = .ok (.invokevirtual 117, 3) := by decide +kernel
theorem dX2_insert_79 : decode cX2_insert 79 = .ok (.istore 9, 2) := by decide +kernel
theorem dX2_insert_81 : decode cX2_insert 81 = .ok (.aload 8, 2) := by decide +kernel
theorem dX2_insert_83 : decode cX2_insert 83 = .ok (.getfield 85, 3) := by decide +kernel
theorem dX2_insert_86 : decode cX2_insert 86 = .ok (.iload_n 2, 1) := by decide +kernel
theorem dX2_insert_87 : decode cX2_insert 87 = .ok (.invokevirtual 120, 3) := by decide +kernel
theorem dX2_insert_90 : decode cX2_insert 90 = .ok (.istore 10, 2) := by decide +kernel
theorem dX2_insert_92 : decode cX2_insert 92 = .ok (.iload 9, 2) := by decide +kernel
theorem dX2_insert_94 : decode cX2_insert 94 = .ok (.iload_n 3, 1) := by decide +kernel
theorem dX2_insert_95 : decode cX2_insert 95 = .ok (.if_icmp .ge 8, 3) := by decide +kernel
theorem dX2_insert_98 : decode cX2_insert 98 = .ok (.iload 9, 2) := by decide +kernel
theorem dX2_insert_100 : decode cX2_insert 100 = .ok (.goto 8, 3) := by decide +kernel
theorem dX2_insert_103 : decode cX2_insert 103 = .ok (.iload 9, 2) := by decide +kernel
theorem dX2_insert_105 : decode cX2_insert 105 = .ok (.iload 4, 2) := by decide +kernel
theorem dX2_insert_107 : decode cX2_insert 107 = .ok (.iadd, 1) := by decide +kernel
theorem dX2_insert_108 : decode cX2_insert 108 = .ok (.istore 11, 2) := by decide +kernel
theorem dX2_insert_110 : decode cX2_insert 110 = .ok (.iload 10, 2) := by decide +kernel
theorem dX2_insert_112 : decode cX2_insert 112 = .ok (.iload_n 3, 1) := by decide +kernel
theorem dX2_insert_113 : decode cX2_insert 113 = .ok (.if_icmp .ge 8, 3) := by decide +kernel
theorem dX2_insert_116 : decode cX2_insert 116 = .ok (.iload 10, 2) := by decide +kernel
theorem dX2_insert_118 : decode cX2_insert 118 = .ok (.goto 13, 3) := by decide +kernel
theorem dX2_insert_121 : decode cX2_insert 121 = .ok (.iload 10, 2) := by decide +kernel
theorem dX2_insert_123 : decode cX2_insert 123 = .ok (.iload 4, 2) := by decide +kernel
theorem dX2_insert_125 : decode cX2_insert 125 = .ok (.iadd, 1) := by decide +kernel
theorem dX2_insert_126 : decode cX2_insert 126 = .ok (.iload 5, 2) := by decide +kernel
theorem dX2_insert_128 : decode cX2_insert 128 = .ok (.invokestatic 123, 3) := by decide +kernel
theorem dX2_insert_131 : decode cX2_insert 131 = .ok (.istore 12, 2) := by decide +kernel
theorem dX2_insert_133 : decode cX2_insert 133 = .ok (.iload 6, 2) := by decide +kernel
theorem dX2_insert_135 : decode cX2_insert 135 = .ok (.aload_n 0, 1) := by decide +kernel
theorem dX2_insert_136 : decode cX2_insert 136 = .ok (.iload 7, 2) := by decide +kernel
theorem dX2_insert_138 : decode cX2_insert 138 = .ok (.iload_n 2, 1) := by decide +kernel
theorem dX2_insert_139 : decode cX2_insert 139 = .ok (.iload 11, 2) := by decide +kernel
theorem dX2_insert_141 : decode cX2_insert 141 = .ok (.iload 12, 2) := by decide +kernel
theorem dX2_insert_143 : decode cX2_insert 143 = .ok (.invokevirtual 129, 3) := by decide +kernel
theorem dX2_insert_146 : decode cX2_insert 146 = .ok (.iadd, 1) := by decide +kernel
theorem dX2_insert_147 : decode cX2_insert 147 = .ok (.istore 6, 2) := by decide +kernel
theorem dX2_insert_149 : decode cX2_insert 149 = .ok (.iinc 7 1, 3) := by decide +kernel
theorem dX2_insert_152 : decode cX2_insert 152 = .ok (.goto (-119), 3) := by decide +kernel
theorem dX2_insert_155 : decode cX2_insert 155 = .ok (.iload 6, 2) := by decide +kernel
theorem dX2_insert_157 : decode cX2_insert 157 = .ok (.ireturn, 1) := by decide +kernel
abbrev cX2_areLines : ByteArray := prog_1_method_18_code
abbrev yX2_areLines : MethodName := ⟨"RangeReaders", "areLines", "(IZII)Z"⟩
theorem hd_X2_areLines : (yX2_areLines).cls ≠ "java/lang/invoke/MethodHandle" ∧ (yX2_areLines).cls ≠ "java/lang/invoke/VarHandle" ∧ (parseMethodDescriptor (yX2_areLines).desc).map (fun d => d.parameters.length) = some 4 := by decide +kernel
theorem dX2_areLines_0 : decode cX2_areLines 0 = .ok (.iload_n 0, 1) := by decide +kernel
theorem dX2_areLines_1 : decode cX2_areLines 1 = .ok (.invokestatic 149, 3) := by decide +kernel
theorem dX2_areLines_4 : decode cX2_areLines 4 = .ok (.ifCond .eq 27, 3) := by decide +kernel
theorem dX2_areLines_7 : decode cX2_areLines 7 = .ok (.iload_n 1, 1) := by decide +kernel
theorem dX2_areLines_8 : decode cX2_areLines 8 = .ok (.iload_n 2, 1) := by decide +kernel
theorem dX2_areLines_9 : decode cX2_areLines 9 = .ok (.invokestatic 153, 3) := by decide +kernel
theorem dX2_areLines_12 : decode cX2_areLines 12 = .ok (.ifCond .eq 19, 3) := by decide +kernel
theorem dX2_areLines_15 : decode cX2_areLines 15 = .ok (.iload_n 3, 1) := by decide +kernel
theorem dX2_areLines_16 : decode cX2_areLines 16 = .ok (.iconst 1, 1) := by decide +kernel
theorem dX2_areLines_17 : decode cX2_areLines 17 = .ok (.if_icmp .lt 14, 3) := by decide +kernel
theorem dX2_areLines_20 : decode cX2_areLines 20 = .ok (.iload_n 3, 1) := by decide +kernel
theorem dX2_areLines_21 : decode cX2_areLines 21 = .ok (.sipush 16384, 3) := by decide +kernel
theorem dX2_areLines_24 : decode cX2_areLines 24 = .ok (.if_icmp .gt 7, 3) := by decide +kernel
theorem dX2_areLines_27 : decode cX2_areLines 27 = .ok (.iconst 1, 1) := by decide +kernel
theorem dX2_areLines_28 : decode cX2_areLines 28 = .ok (.goto 4, 3) := by decide +kernel
theorem dX2_areLines_31 : decode cX2_areLines 31 = .ok (.iconst 0, 1) := by decide +kernel
theorem dX2_areLines_32 : decode cX2_areLines 32 = .ok (.ireturn, 1) := by decide +kernel
abbrev cX2_putLines : ByteArray := prog_1_method_24_code
abbrev yX2_putLines : MethodName := ⟨"RangeReaders", "putLines", "(IZII)I"⟩
theorem hd_X2_putLines : (yX2_putLines).cls ≠ "java/lang/invoke/MethodHandle" ∧ (yX2_putLines).cls ≠ "java/lang/invoke/VarHandle" ∧ (parseMethodDescriptor (yX2_putLines).desc).map (fun d => d.parameters.length) = some 4 := by decide +kernel
theorem dX2_putLines_0 : decode cX2_putLines 0 = .ok (.aload_n 0, 1) := by decide +kernel
theorem dX2_putLines_1 : decode cX2_putLines 1 = .ok (.iload_n 1, 1) := by decide +kernel
theorem dX2_putLines_2 : decode cX2_putLines 2 = .ok (.invokevirtual 68, 3) := by decide +kernel
theorem dX2_putLines_5 : decode cX2_putLines 5 = .ok (.astore 5, 2) := by decide +kernel
theorem dX2_putLines_7 : decode cX2_putLines 7 = .ok (.aload 5, 2) := by decide +kernel
theorem dX2_putLines_9 : decode cX2_putLines 9 = .ok (.ifnonnull 5, 3) := by decide +kernel
theorem dX2_putLines_12 : decode cX2_putLines 12 = .ok (.iconst 0, 1) := by decide +kernel
theorem dX2_putLines_13 : decode cX2_putLines 13 = .ok (.ireturn, 1) := by decide +kernel
theorem dX2_putLines_14 : decode cX2_putLines 14 = .ok (.aload 5, 2) := by decide +kernel
theorem dX2_putLines_16 : decode cX2_putLines 16 = .ok (.getfield 85, 3) := by decide +kernel
theorem dX2_putLines_19 : decode cX2_putLines 19 = .ok (.astore 6, 2) := by decide +kernel
theorem dX2_putLines_21 : decode cX2_putLines 21 = .ok (.iload_n 3, 1) := by decide +kernel
theorem dX2_putLines_22 : decode cX2_putLines 22 = .ok (.aload 6, 2) := by decide +kernel
theorem dX2_putLines_24 : decode cX2_putLines 24 = .ok (.iload_n 2, 1) := by decide +kernel
theorem dX2_putLines_25 : decode cX2_putLines 25 = .ok (.invokevirtual 117, 3) := by decide +kernel
theorem dX2_putLines_28 : decode cX2_putLines 28 = .ok (.if_icmp .ne 16, 3) := by decide +kernel
theorem dX2_putLines_31 : decode cX2_putLines 31 = .ok (.iload 4, 2) := by decide +kernel
theorem dX2_putLines_33 : decode cX2_putLines 33 = .ok (.aload 6, 2) := by decide +kernel
theorem dX2_putLines_35 : decode cX2_putLines 35 = .ok (.iload_n 2, 1) := by decide +kernel
theorem dX2_putLines_36 : decode cX2_putLines 36 = .ok (.invokevirtual 120, 3) := by decide +kernel
theorem dX2_putLines_39 : decode cX2_putLines 39 = .ok (.if_icmp .ne 5, 3) := by decide +kernel
theorem dX2_putLines_42 : decode cX2_putLines 42 = .ok (.iconst 0, 1) := by decide +kernel
theorem dX2_putLines_43 : decode cX2_putLines 43 = .ok (.ireturn, 1) := by decide +kernel
theorem dX2_putLines_44 : decode cX2_putLines 44 = .ok (.iload_n 3, 1) := by decide +kernel
theorem dX2_putLines_45 : decode cX2_putLines 45 = .ok (.iload 4, 2) := by decide +kernel
theorem dX2_putLines_47 : decode cX2_putLines 47 = .ok (.if_icmp .le 11, 3) := by decide +kernel
theorem dX2_putLines_50 : decode cX2_putLines 50 = .ok (.aload_n 0, 1) := by decide +kernel
theorem dX2_putLines_51 : decode cX2_putLines 51 = .ok (.iload_n 1, 1) := by decide +kernel
theorem dX2_putLines_52 : decode cX2_putLines 52 = .ok (.invokevirtual 72, 3) := by decide +kernel
theorem dX2_putLines_55 : decode cX2_putLines 55 = .ok (.goto 12, 3) := by decide +kernel
theorem dX2_putLines_58 : decode cX2_putLines 58 = .ok (.aload 6, 2) := by decide +kernel
theorem dX2_putLines_60 : decode cX2_putLines 60 = .ok (.iload_n 2, 1) := by decide +kernel
theorem dX2_putLines_61 : decode cX2_putLines 61 = .ok (.iload_n 3, 1) := by decide +kernel
theorem dX2_putLines_62 : decode cX2_putLines 62 = .ok (.iload 4, 2) := by decide +kernel
theorem dX2_putLines_64 : decode cX2_putLines 64 = .ok (.invokevirtual 161, 3) := by decide +kernel
theorem dX2_putLines_67 : decode cX2_putLines 67 = .ok (.iconst 1, 1) := by decide +kernel
theorem dX2_putLines_68 : decode cX2_putLines 68 = .ok (.ireturn, 1) := by decide +kernel
abbrev cX2_delete : ByteArray := prog_1_method_12_code
abbrev yX2_delete : MethodName := ⟨"RangeReaders", "delete", "(IZII)I"⟩
theorem hd_X2_delete : (yX2_delete).cls ≠ "java/lang/invoke/MethodHandle" ∧ (yX2_delete).cls ≠ "java/lang/invoke/VarHandle" ∧ (parseMethodDescriptor (yX2_delete).desc).map (fun d => d.parameters.length) = some 4 := by decide +kernel
theorem dX2_delete_0 : decode cX2_delete 0 = .ok (.iload_n 1, 1) := by decide +kernel
theorem dX2_delete_1 : decode cX2_delete 1 = .ok (.iload_n 2, 1) := by decide +kernel
theorem dX2_delete_2 : decode cX2_delete 2 = .ok (.iload_n 3, 1) := by decide +kernel
theorem dX2_delete_3 : decode cX2_delete 3 = .ok (.iload 4, 2) := by decide +kernel
theorem dX2_delete_5 : decode cX2_delete 5 = .ok (.invokestatic 103, 3) := by decide +kernel
theorem dX2_delete_8 : decode cX2_delete 8 = .ok (.ifCond .ne 13, 3) := by decide +kernel
theorem dX2_delete_11 : decode cX2_delete 11 = .ok (.new 39, 3) := by decide +kernel
theorem dX2_delete_14 : decode cX2_delete 14 = .ok (.dup, 1) := by decide +kernel
theorem dX2_delete_15 : decode cX2_delete 15 = .ok (.ldc 107, 2) := by decide +kernel
theorem dX2_delete_17 : decode cX2_delete 17 = .ok (.invokespecial 43, 3) := by decide +kernel
theorem dX2_delete_20 : decode cX2_delete 20 = .ok (.athrow, 1) := by decide +kernel
theorem dX2_delete_21 : decode cX2_delete 21 = .ok (.iconst 0, 1) := by decide +kernel
theorem dX2_delete_22 : decode cX2_delete 22 = .ok (.istore 5, 2) := by decide +kernel
theorem dX2_delete_24 : decode cX2_delete 24 = .ok (.iconst 0, 1) := by decide +kernel
theorem dX2_delete_25 : decode cX2_delete 25 = .ok (.istore 6, 2) := by decide +kernel
theorem dX2_delete_27 : decode cX2_delete 27 = .ok (.iload 6, 2) := by decide +kernel
theorem dX2_delete_29 : decode cX2_delete 29 = .ok (.aload_n 0, 1) := by decide +kernel
theorem dX2_delete_30 : decode cX2_delete 30 = .ok (.getfield 15, 3) := by decide +kernel
theorem dX2_delete_33 : decode cX2_delete 33 = .ok (.arraylength, 1) := by decide +kernel
theorem dX2_delete_34 : decode cX2_delete 34 = .ok (.if_icmp .ge 120, 3) := by decide +kernel
theorem dX2_delete_37 : decode cX2_delete 37 = .ok (.aload_n 0, 1) := by decide +kernel
theorem dX2_delete_38 : decode cX2_delete 38 = .ok (.getfield 15, 3) := by decide +kernel
theorem dX2_delete_41 : decode cX2_delete 41 = .ok (.iload 6, 2) := by decide +kernel
theorem dX2_delete_43 : decode cX2_delete 43 = .ok (.aaload, 1) := by decide +kernel
theorem dX2_delete_44 : decode cX2_delete 44 = .ok (.astore 7, 2) := by decide +kernel
theorem dX2_delete_46 : decode cX2_delete 46 = .ok (.aload 7, 2) := by decide +kernel
theorem dX2_delete_48 : decode cX2_delete 48 = .ok (.ifnull 100, 3) := by decide +kernel
theorem dX2_delete_51 : decode cX2_delete 51 = .ok (.aload 7, 2) := by decide +kernel
theorem dX2_delete_53 : decode cX2_delete 53 = .ok (.getfield 85, 3) := by decide +kernel
theorem dX2_delete_56 : decode cX2_delete 56 = .ok (.iload_n 1, 1) := by decide +kernel
theorem dX2_delete_57 : decode cX2_delete 57 = .ok (.iload_n 2, 1) := by decide +kernel
theorem dX2_delete_58 : decode cX2_delete 58 = .ok (.invokevirtual 113, 3) := by decide +kernel
theorem dX2_delete_61 : decode cX2_delete 61 = .ok (.ifCond .eq 87, 3) := by decide +kernel
theorem dX2_delete_64 : decode cX2_delete 64 = .ok (.aload 7, 2) := by decide +kernel
theorem dX2_delete_66 : decode cX2_delete 66 = .ok (.getfield 85, 3) := by decide +kernel
theorem dX2_delete_69 : decode cX2_delete 69 = .ok (.iload_n 2, 1) := by decide +kernel
theorem dX2_delete_70 : decode cX2_delete 70 = .ok (.invokevirtual 117, 3) := by decide +kernel
theorem dX2_delete_73 : decode cX2_delete 73 = .ok (.istore 8, 2) := by decide +kernel
theorem dX2_delete_75 : decode cX2_delete 75 = .ok (.aload 7, 2) := by decide +kernel
theorem dX2_delete_77 : decode cX2_delete 77 = .ok (.getfield 85, 3) := by decide +kernel
theorem dX2_delete_80 : decode cX2_delete 80 = .ok (.iload_n 2, 1) := by decide +kernel
theorem dX2_delete_81 : decode cX2_delete 81 = .ok (.invokevirtual 120, 3) := by decide +kernel
theorem dX2_delete_84 : decode cX2_delete 84 = .ok (.istore 9, 2) := by decide +kernel
theorem dX2_delete_86 : decode cX2_delete 86 = .ok (.iload 8, 2) := by decide +kernel
theorem dX2_delete_88 : decode cX2_delete 88 = .ok (.iload_n 3, 1) := by decide +kernel
theorem dX2_delete_89 : decode cX2_delete 89 = .ok (.if_icmp .ge 8, 3) := by decide +kernel
theorem dX2_delete_92 : decode cX2_delete 92 = .ok (.iload 8, 2) := by decide +kernel
theorem dX2_delete_94 : decode cX2_delete 94 = .ok (.goto 12, 3) := by decide +kernel
theorem dX2_delete_97 : decode cX2_delete 97 = .ok (.iload 8, 2) := by decide +kernel
theorem dX2_delete_99 : decode cX2_delete 99 = .ok (.iload 4, 2) := by decide +kernel
theorem dX2_delete_101 : decode cX2_delete 101 = .ok (.isub, 1) := by decide +kernel
theorem dX2_delete_102 : decode cX2_delete 102 = .ok (.iload_n 3, 1) := by decide +kernel
theorem dX2_delete_103 : decode cX2_delete 103 = .ok (.invokestatic 133, 3) := by decide +kernel
theorem dX2_delete_106 : decode cX2_delete 106 = .ok (.istore 10, 2) := by decide +kernel
theorem dX2_delete_108 : decode cX2_delete 108 = .ok (.iload 9, 2) := by decide +kernel
theorem dX2_delete_110 : decode cX2_delete 110 = .ok (.iload_n 3, 1) := by decide +kernel
theorem dX2_delete_111 : decode cX2_delete 111 = .ok (.if_icmp .ge 8, 3) := by decide +kernel
theorem dX2_delete_114 : decode cX2_delete 114 = .ok (.iload 9, 2) := by decide +kernel
theorem dX2_delete_116 : decode cX2_delete 116 = .ok (.goto 14, 3) := by decide +kernel
theorem dX2_delete_119 : decode cX2_delete 119 = .ok (.iload 9, 2) := by decide +kernel
theorem dX2_delete_121 : decode cX2_delete 121 = .ok (.iload 4, 2) := by decide +kernel
theorem dX2_delete_123 : decode cX2_delete 123 = .ok (.isub, 1) := by decide +kernel
theorem dX2_delete_124 : decode cX2_delete 124 = .ok (.iload_n 3, 1) := by decide +kernel
theorem dX2_delete_125 : decode cX2_delete 125 = .ok (.iconst 1, 1) := by decide +kernel
theorem dX2_delete_126 : decode cX2_delete 126 = .ok (.isub, 1) := by decide +kernel
theorem dX2_delete_127 : decode cX2_delete 127 = .ok (.invokestatic 133, 3) := by decide +kernel
theorem dX2_delete_130 : decode cX2_delete 130 = .ok (.istore 11, 2) := by decide +kernel
theorem dX2_delete_132 : decode cX2_delete 132 = .ok (.iload 5, 2) := by decide +kernel
theorem dX2_delete_134 : decode cX2_delete 134 = .ok (.aload_n 0, 1) := by decide +kernel
theorem dX2_delete_135 : decode cX2_delete 135 = .ok (.iload 6, 2) := by decide +kernel
theorem dX2_delete_137 : decode cX2_delete 137 = .ok (.iload_n 2, 1) := by decide +kernel
theorem dX2_delete_138 : decode cX2_delete 138 = .ok (.iload 10, 2) := by decide +kernel
theorem dX2_delete_140 : decode cX2_delete 140 = .ok (.iload 11, 2) := by decide +kernel
theorem dX2_delete_142 : decode cX2_delete 142 = .ok (.invokevirtual 129, 3) := by decide +kernel
theorem dX2_delete_145 : decode cX2_delete 145 = .ok (.iadd, 1) := by decide +kernel
theorem dX2_delete_146 : decode cX2_delete 146 = .ok (.istore 5, 2) := by decide +kernel
theorem dX2_delete_148 : decode cX2_delete 148 = .ok (.iinc 6 1, 3) := by decide +kernel
theorem dX2_delete_151 : decode cX2_delete 151 = .ok (.goto (-124), 3) := by decide +kernel
theorem dX2_delete_154 : decode cX2_delete 154 = .ok (.iload 5, 2) := by decide +kernel
theorem dX2_delete_156 : decode cX2_delete 156 = .ok (.ireturn, 1) := by decide +kernel
abbrev cX2_move : ByteArray := prog_1_method_13_code
abbrev yX2_move : MethodName := ⟨"RangeReaders", "move", "(III)I"⟩
theorem hd_X2_move : (yX2_move).cls ≠ "java/lang/invoke/MethodHandle" ∧ (yX2_move).cls ≠ "java/lang/invoke/VarHandle" ∧ (parseMethodDescriptor (yX2_move).desc).map (fun d => d.parameters.length) = some 3 := by decide +kernel
theorem dX2_move_0 : decode cX2_move 0 = .ok (.iload_n 1, 1) := by decide +kernel
theorem dX2_move_1 : decode cX2_move 1 = .ok (.iload_n 2, 1) := by decide +kernel
theorem dX2_move_2 : decode cX2_move 2 = .ok (.iload_n 3, 1) := by decide +kernel
theorem dX2_move_3 : decode cX2_move 3 = .ok (.invokestatic 30, 3) := by decide +kernel
theorem dX2_move_6 : decode cX2_move 6 = .ok (.ifCond .ne 13, 3) := by decide +kernel
theorem dX2_move_9 : decode cX2_move 9 = .ok (.new 39, 3) := by decide +kernel
theorem dX2_move_12 : decode cX2_move 12 = .ok (.dup, 1) := by decide +kernel
theorem dX2_move_13 : decode cX2_move 13 = .ok (.ldc 136, 2) := by decide +kernel
theorem dX2_move_15 : decode cX2_move 15 = .ok (.invokespecial 43, 3) := by decide +kernel
theorem dX2_move_18 : decode cX2_move 18 = .ok (.athrow, 1) := by decide +kernel
theorem dX2_move_19 : decode cX2_move 19 = .ok (.aload_n 0, 1) := by decide +kernel
theorem dX2_move_20 : decode cX2_move 20 = .ok (.getfield 7, 3) := by decide +kernel
theorem dX2_move_23 : decode cX2_move 23 = .ok (.ifnonnull 13, 3) := by decide +kernel
theorem dX2_move_26 : decode cX2_move 26 = .ok (.new 49, 3) := by decide +kernel
theorem dX2_move_29 : decode cX2_move 29 = .ok (.dup, 1) := by decide +kernel
theorem dX2_move_30 : decode cX2_move 30 = .ok (.ldc 41, 2) := by decide +kernel
theorem dX2_move_32 : decode cX2_move 32 = .ok (.invokespecial 53, 3) := by decide +kernel
theorem dX2_move_35 : decode cX2_move 35 = .ok (.athrow, 1) := by decide +kernel
theorem dX2_move_36 : decode cX2_move 36 = .ok (.aload_n 0, 1) := by decide +kernel
theorem dX2_move_37 : decode cX2_move 37 = .ok (.getfield 7, 3) := by decide +kernel
theorem dX2_move_40 : decode cX2_move 40 = .ok (.invokevirtual 61, 3) := by decide +kernel
theorem dX2_move_43 : decode cX2_move 43 = .ok (.astore 4, 2) := by decide +kernel
theorem dX2_move_45 : decode cX2_move 45 = .ok (.aload 4, 2) := by decide +kernel
theorem dX2_move_47 : decode cX2_move 47 = .ok (.iload_n 1, 1) := by decide +kernel
theorem dX2_move_48 : decode cX2_move 48 = .ok (.iload_n 2, 1) := by decide +kernel
theorem dX2_move_49 : decode cX2_move 49 = .ok (.aload_n 0, 1) := by decide +kernel
theorem dX2_move_50 : decode cX2_move 50 = .ok (.getfield 7, 3) := by decide +kernel
theorem dX2_move_53 : decode cX2_move 53 = .ok (.getfield 91, 3) := by decide +kernel
theorem dX2_move_56 : decode cX2_move 56 = .ok (.isub, 1) := by decide +kernel
theorem dX2_move_57 : decode cX2_move 57 = .ok (.iload_n 3, 1) := by decide +kernel
theorem dX2_move_58 : decode cX2_move 58 = .ok (.aload_n 0, 1) := by decide +kernel
theorem dX2_move_59 : decode cX2_move 59 = .ok (.getfield 7, 3) := by decide +kernel
theorem dX2_move_62 : decode cX2_move 62 = .ok (.getfield 94, 3) := by decide +kernel
theorem dX2_move_65 : decode cX2_move 65 = .ok (.isub, 1) := by decide +kernel
theorem dX2_move_66 : decode cX2_move 66 = .ok (.invokevirtual 138, 3) := by decide +kernel
theorem dX2_move_69 : decode cX2_move 69 = .ok (.iload_n 1, 1) := by decide +kernel
theorem dX2_move_70 : decode cX2_move 70 = .ok (.aload 4, 2) := by decide +kernel
theorem dX2_move_72 : decode cX2_move 72 = .ok (.getfield 97, 3) := by decide +kernel
theorem dX2_move_75 : decode cX2_move 75 = .ok (.aload 4, 2) := by decide +kernel
theorem dX2_move_77 : decode cX2_move 77 = .ok (.getfield 100, 3) := by decide +kernel
theorem dX2_move_80 : decode cX2_move 80 = .ok (.invokestatic 30, 3) := by decide +kernel
theorem dX2_move_83 : decode cX2_move 83 = .ok (.ifCond .ne 13, 3) := by decide +kernel
theorem dX2_move_86 : decode cX2_move 86 = .ok (.new 39, 3) := by decide +kernel
theorem dX2_move_89 : decode cX2_move 89 = .ok (.dup, 1) := by decide +kernel
theorem dX2_move_90 : decode cX2_move 90 = .ok (.ldc 142, 2) := by decide +kernel
theorem dX2_move_92 : decode cX2_move 92 = .ok (.invokespecial 43, 3) := by decide +kernel
theorem dX2_move_95 : decode cX2_move 95 = .ok (.athrow, 1) := by decide +kernel
theorem dX2_move_96 : decode cX2_move 96 = .ok (.aload_n 0, 1) := by decide +kernel
theorem dX2_move_97 : decode cX2_move 97 = .ok (.aload_n 0, 1) := by decide +kernel
theorem dX2_move_98 : decode cX2_move 98 = .ok (.getfield 7, 3) := by decide +kernel
theorem dX2_move_101 : decode cX2_move 101 = .ok (.aload 4, 2) := by decide +kernel
theorem dX2_move_103 : decode cX2_move 103 = .ok (.invokevirtual 144, 3) := by decide +kernel
theorem dX2_move_106 : decode cX2_move 106 = .ok (.ireturn, 1) := by decide +kernel
abbrev cX2_carry : ByteArray := prog_1_method_25_code
abbrev yX2_carry : MethodName := ⟨"RangeReaders", "carry", "(LRangeReaders$Area;LRangeReaders$Area;)I"⟩
theorem hd_X2_carry : (yX2_carry).cls ≠ "java/lang/invoke/MethodHandle" ∧ (yX2_carry).cls ≠ "java/lang/invoke/VarHandle" ∧ (parseMethodDescriptor (yX2_carry).desc).map (fun d => d.parameters.length) = some 2 := by decide +kernel
theorem dX2_carry_0 : decode cX2_carry 0 = .ok (.aload_n 2, 1) := by decide +kernel
theorem dX2_carry_1 : decode cX2_carry 1 = .ok (.getfield 91, 3) := by decide +kernel
theorem dX2_carry_4 : decode cX2_carry 4 = .ok (.aload_n 1, 1) := by decide +kernel
theorem dX2_carry_5 : decode cX2_carry 5 = .ok (.getfield 91, 3) := by decide +kernel
theorem dX2_carry_8 : decode cX2_carry 8 = .ok (.isub, 1) := by decide +kernel
theorem dX2_carry_9 : decode cX2_carry 9 = .ok (.istore_n 3, 1) := by decide +kernel
theorem dX2_carry_10 : decode cX2_carry 10 = .ok (.aload_n 2, 1) := by decide +kernel
theorem dX2_carry_11 : decode cX2_carry 11 = .ok (.getfield 94, 3) := by decide +kernel
theorem dX2_carry_14 : decode cX2_carry 14 = .ok (.aload_n 1, 1) := by decide +kernel
theorem dX2_carry_15 : decode cX2_carry 15 = .ok (.getfield 94, 3) := by decide +kernel
theorem dX2_carry_18 : decode cX2_carry 18 = .ok (.isub, 1) := by decide +kernel
theorem dX2_carry_19 : decode cX2_carry 19 = .ok (.istore 4, 2) := by decide +kernel
theorem dX2_carry_21 : decode cX2_carry 21 = .ok (.aload_n 2, 1) := by decide +kernel
theorem dX2_carry_22 : decode cX2_carry 22 = .ok (.getfield 88, 3) := by decide +kernel
theorem dX2_carry_25 : decode cX2_carry 25 = .ok (.aload_n 1, 1) := by decide +kernel
theorem dX2_carry_26 : decode cX2_carry 26 = .ok (.getfield 88, 3) := by decide +kernel
theorem dX2_carry_29 : decode cX2_carry 29 = .ok (.if_icmp .ne 14, 3) := by decide +kernel
theorem dX2_carry_32 : decode cX2_carry 32 = .ok (.iload_n 3, 1) := by decide +kernel
theorem dX2_carry_33 : decode cX2_carry 33 = .ok (.ifCond .ne 10, 3) := by decide +kernel
theorem dX2_carry_36 : decode cX2_carry 36 = .ok (.iload 4, 2) := by decide +kernel
theorem dX2_carry_38 : decode cX2_carry 38 = .ok (.ifCond .ne 5, 3) := by decide +kernel
theorem dX2_carry_41 : decode cX2_carry 41 = .ok (.iconst 0, 1) := by decide +kernel
theorem dX2_carry_42 : decode cX2_carry 42 = .ok (.ireturn, 1) := by decide +kernel
theorem dX2_carry_43 : decode cX2_carry 43 = .ok (.iconst 0, 1) := by decide +kernel
theorem dX2_carry_44 : decode cX2_carry 44 = .ok (.istore 5, 2) := by decide +kernel
theorem dX2_carry_46 : decode cX2_carry 46 = .ok (.iconst 0, 1) := by decide +kernel
theorem dX2_carry_47 : decode cX2_carry 47 = .ok (.istore 6, 2) := by decide +kernel
theorem dX2_carry_49 : decode cX2_carry 49 = .ok (.iload 6, 2) := by decide +kernel
theorem dX2_carry_51 : decode cX2_carry 51 = .ok (.aload_n 0, 1) := by decide +kernel
theorem dX2_carry_52 : decode cX2_carry 52 = .ok (.getfield 15, 3) := by decide +kernel
theorem dX2_carry_55 : decode cX2_carry 55 = .ok (.arraylength, 1) := by decide +kernel
theorem dX2_carry_56 : decode cX2_carry 56 = .ok (.if_icmp .ge 82, 3) := by decide +kernel
theorem dX2_carry_59 : decode cX2_carry 59 = .ok (.aload_n 0, 1) := by decide +kernel
theorem dX2_carry_60 : decode cX2_carry 60 = .ok (.getfield 15, 3) := by decide +kernel
theorem dX2_carry_63 : decode cX2_carry 63 = .ok (.iload 6, 2) := by decide +kernel
theorem dX2_carry_65 : decode cX2_carry 65 = .ok (.aaload, 1) := by decide +kernel
theorem dX2_carry_66 : decode cX2_carry 66 = .ok (.astore 7, 2) := by decide +kernel
theorem dX2_carry_68 : decode cX2_carry 68 = .ok (.aload 7, 2) := by decide +kernel
theorem dX2_carry_70 : decode cX2_carry 70 = .ok (.ifnull 36, 3) := by decide +kernel
theorem dX2_carry_73 : decode cX2_carry 73 = .ok (.aload 7, 2) := by decide +kernel
theorem dX2_carry_75 : decode cX2_carry 75 = .ok (.getfield 85, 3) := by decide +kernel
theorem dX2_carry_78 : decode cX2_carry 78 = .ok (.aload_n 1, 1) := by decide +kernel
theorem dX2_carry_79 : decode cX2_carry 79 = .ok (.invokevirtual 165, 3) := by decide +kernel
theorem dX2_carry_82 : decode cX2_carry 82 = .ok (.ifCond .eq 24, 3) := by decide +kernel
theorem dX2_carry_85 : decode cX2_carry 85 = .ok (.aload 7, 2) := by decide +kernel
theorem dX2_carry_87 : decode cX2_carry 87 = .ok (.getfield 85, 3) := by decide +kernel
theorem dX2_carry_90 : decode cX2_carry 90 = .ok (.aload_n 2, 1) := by decide +kernel
theorem dX2_carry_91 : decode cX2_carry 91 = .ok (.getfield 88, 3) := by decide +kernel
theorem dX2_carry_94 : decode cX2_carry 94 = .ok (.iload_n 3, 1) := by decide +kernel
theorem dX2_carry_95 : decode cX2_carry 95 = .ok (.iload 4, 2) := by decide +kernel
theorem dX2_carry_97 : decode cX2_carry 97 = .ok (.invokevirtual 138, 3) := by decide +kernel
theorem dX2_carry_100 : decode cX2_carry 100 = .ok (.iinc 5 1, 3) := by decide +kernel
theorem dX2_carry_103 : decode cX2_carry 103 = .ok (.goto 29, 3) := by decide +kernel
theorem dX2_carry_106 : decode cX2_carry 106 = .ok (.aload 7, 2) := by decide +kernel
theorem dX2_carry_108 : decode cX2_carry 108 = .ok (.ifnull 24, 3) := by decide +kernel
theorem dX2_carry_111 : decode cX2_carry 111 = .ok (.aload 7, 2) := by decide +kernel
theorem dX2_carry_113 : decode cX2_carry 113 = .ok (.getfield 85, 3) := by decide +kernel
theorem dX2_carry_116 : decode cX2_carry 116 = .ok (.aload_n 2, 1) := by decide +kernel
theorem dX2_carry_117 : decode cX2_carry 117 = .ok (.invokevirtual 165, 3) := by decide +kernel
theorem dX2_carry_120 : decode cX2_carry 120 = .ok (.ifCond .eq 12, 3) := by decide +kernel
theorem dX2_carry_123 : decode cX2_carry 123 = .ok (.aload_n 0, 1) := by decide +kernel
theorem dX2_carry_124 : decode cX2_carry 124 = .ok (.iload 6, 2) := by decide +kernel
theorem dX2_carry_126 : decode cX2_carry 126 = .ok (.invokevirtual 72, 3) := by decide +kernel
theorem dX2_carry_129 : decode cX2_carry 129 = .ok (.iinc 5 1, 3) := by decide +kernel
theorem dX2_carry_132 : decode cX2_carry 132 = .ok (.iinc 6 1, 3) := by decide +kernel
theorem dX2_carry_135 : decode cX2_carry 135 = .ok (.goto (-86), 3) := by decide +kernel
theorem dX2_carry_138 : decode cX2_carry 138 = .ok (.iload 5, 2) := by decide +kernel
theorem dX2_carry_140 : decode cX2_carry 140 = .ok (.ireturn, 1) := by decide +kernel
end
section
abbrev cX3_init : ByteArray := prog_5_method_1_code
abbrev yX3_init : MethodName := ⟨"RangeReadersModel", "<init>", "()V"⟩
theorem hd_X3_init : (yX3_init).cls ≠ "java/lang/invoke/MethodHandle" ∧ (yX3_init).cls ≠ "java/lang/invoke/VarHandle" ∧ (parseMethodDescriptor (yX3_init).desc).map (fun d => d.parameters.length) = some 0 := by decide +kernel
theorem dX3_init_0 : decode cX3_init 0 = .ok (.aload_n 0, 1) := by decide +kernel
theorem dX3_init_1 : decode cX3_init 1 = .ok (.invokespecial 1, 3) := by decide +kernel
theorem dX3_init_4 : decode cX3_init 4 = .ok (.aload_n 0, 1) := by decide +kernel
theorem dX3_init_5 : decode cX3_init 5 = .ok (.sipush 4096, 3) := by decide +kernel
theorem dX3_init_8 : decode cX3_init 8 = .ok (.newarray .boolean, 2) := by decide +kernel
theorem dX3_init_10 : decode cX3_init 10 = .ok (.putfield 7, 3) := by decide +kernel
theorem dX3_init_13 : decode cX3_init 13 = .ok (.aload_n 0, 1) := by decide +kernel
theorem dX3_init_14 : decode cX3_init 14 = .ok (.sipush 4096, 3) := by decide +kernel
theorem dX3_init_17 : decode cX3_init 17 = .ok (.newarray .int, 2) := by decide +kernel
theorem dX3_init_19 : decode cX3_init 19 = .ok (.putfield 13, 3) := by decide +kernel
theorem dX3_init_22 : decode cX3_init 22 = .ok (.aload_n 0, 1) := by decide +kernel
theorem dX3_init_23 : decode cX3_init 23 = .ok (.sipush 4096, 3) := by decide +kernel
theorem dX3_init_26 : decode cX3_init 26 = .ok (.newarray .int, 2) := by decide +kernel
theorem dX3_init_28 : decode cX3_init 28 = .ok (.putfield 17, 3) := by decide +kernel
theorem dX3_init_31 : decode cX3_init 31 = .ok (.aload_n 0, 1) := by decide +kernel
theorem dX3_init_32 : decode cX3_init 32 = .ok (.sipush 4096, 3) := by decide +kernel
theorem dX3_init_35 : decode cX3_init 35 = .ok (.newarray .int, 2) := by decide +kernel
theorem dX3_init_37 : decode cX3_init 37 = .ok (.putfield 20, 3) := by decide +kernel
theorem dX3_init_40 : decode cX3_init 40 = .ok (.aload_n 0, 1) := by decide +kernel
theorem dX3_init_41 : decode cX3_init 41 = .ok (.sipush 4096, 3) := by decide +kernel
theorem dX3_init_44 : decode cX3_init 44 = .ok (.newarray .int, 2) := by decide +kernel
theorem dX3_init_46 : decode cX3_init 46 = .ok (.putfield 23, 3) := by decide +kernel
theorem dX3_init_49 : decode cX3_init 49 = .ok (.aload_n 0, 1) := by decide +kernel
theorem dX3_init_50 : decode cX3_init 50 = .ok (.sipush 4096, 3) := by decide +kernel
theorem dX3_init_53 : decode cX3_init 53 = .ok (.newarray .int, 2) := by decide +kernel
theorem dX3_init_55 : decode cX3_init 55 = .ok (.putfield 26, 3) := by decide +kernel
theorem dX3_init_58 : decode cX3_init 58 = .ok (.aload_n 0, 1) := by decide +kernel
theorem dX3_init_59 : decode cX3_init 59 = .ok (.sipush 4096, 3) := by decide +kernel
theorem dX3_init_62 : decode cX3_init 62 = .ok (.newarray .int, 2) := by decide +kernel
theorem dX3_init_64 : decode cX3_init 64 = .ok (.putfield 29, 3) := by decide +kernel
theorem dX3_init_67 : decode cX3_init 67 = .ok (.aload_n 0, 1) := by decide +kernel
theorem dX3_init_68 : decode cX3_init 68 = .ok (.sipush 4096, 3) := by decide +kernel
theorem dX3_init_71 : decode cX3_init 71 = .ok (.newarray .int, 2) := by decide +kernel
theorem dX3_init_73 : decode cX3_init 73 = .ok (.putfield 32, 3) := by decide +kernel
theorem dX3_init_76 : decode cX3_init 76 = .ok (.return_, 1) := by decide +kernel
abbrev cX3_thrown : ByteArray := prog_5_method_2_code
abbrev yX3_thrown : MethodName := ⟨"RangeReadersModel", "thrown", "()I"⟩
theorem hd_X3_thrown : (yX3_thrown).cls ≠ "java/lang/invoke/MethodHandle" ∧ (yX3_thrown).cls ≠ "java/lang/invoke/VarHandle" ∧ (parseMethodDescriptor (yX3_thrown).desc).map (fun d => d.parameters.length) = some 0 := by decide +kernel
theorem dX3_thrown_0 : decode cX3_thrown 0 = .ok (.aload_n 0, 1) := by decide +kernel
theorem dX3_thrown_1 : decode cX3_thrown 1 = .ok (.getfield 35, 3) := by decide +kernel
theorem dX3_thrown_4 : decode cX3_thrown 4 = .ok (.ireturn, 1) := by decide +kernel
abbrev cX3_rectangle : ByteArray := prog_5_method_4_code
abbrev yX3_rectangle : MethodName := ⟨"RangeReadersModel", "rectangle", "(IIIII)Z"⟩
theorem hd_X3_rectangle : (yX3_rectangle).cls ≠ "java/lang/invoke/MethodHandle" ∧ (yX3_rectangle).cls ≠ "java/lang/invoke/VarHandle" ∧ (parseMethodDescriptor (yX3_rectangle).desc).map (fun d => d.parameters.length) = some 5 := by decide +kernel
theorem dX3_rectangle_0 : decode cX3_rectangle 0 = .ok (.aload_n 0, 1) := by decide +kernel
theorem dX3_rectangle_1 : decode cX3_rectangle 1 = .ok (.iconst 0, 1) := by decide +kernel
theorem dX3_rectangle_2 : decode cX3_rectangle 2 = .ok (.putfield 35, 3) := by decide +kernel
theorem dX3_rectangle_5 : decode cX3_rectangle 5 = .ok (.iload_n 1, 1) := by decide +kernel
theorem dX3_rectangle_6 : decode cX3_rectangle 6 = .ok (.iconst 0, 1) := by decide +kernel
theorem dX3_rectangle_7 : decode cX3_rectangle 7 = .ok (.bipush 7, 2) := by decide +kernel
theorem dX3_rectangle_9 : decode cX3_rectangle 9 = .ok (.invokestatic 39, 3) := by decide +kernel
theorem dX3_rectangle_12 : decode cX3_rectangle 12 = .ok (.ifCond .eq 47, 3) := by decide +kernel
theorem dX3_rectangle_15 : decode cX3_rectangle 15 = .ok (.iload_n 2, 1) := by decide +kernel
theorem dX3_rectangle_16 : decode cX3_rectangle 16 = .ok (.iconst 1, 1) := by decide +kernel
theorem dX3_rectangle_17 : decode cX3_rectangle 17 = .ok (.ldc 43, 2) := by decide +kernel
theorem dX3_rectangle_19 : decode cX3_rectangle 19 = .ok (.invokestatic 39, 3) := by decide +kernel
theorem dX3_rectangle_22 : decode cX3_rectangle 22 = .ok (.ifCond .eq 37, 3) := by decide +kernel
theorem dX3_rectangle_25 : decode cX3_rectangle 25 = .ok (.iload 4, 2) := by decide +kernel
theorem dX3_rectangle_27 : decode cX3_rectangle 27 = .ok (.iload_n 2, 1) := by decide +kernel
theorem dX3_rectangle_28 : decode cX3_rectangle 28 = .ok (.ldc 43, 2) := by decide +kernel
theorem dX3_rectangle_30 : decode cX3_rectangle 30 = .ok (.invokestatic 39, 3) := by decide +kernel
theorem dX3_rectangle_33 : decode cX3_rectangle 33 = .ok (.ifCond .eq 26, 3) := by decide +kernel
theorem dX3_rectangle_36 : decode cX3_rectangle 36 = .ok (.iload_n 3, 1) := by decide +kernel
theorem dX3_rectangle_37 : decode cX3_rectangle 37 = .ok (.iconst 1, 1) := by decide +kernel
theorem dX3_rectangle_38 : decode cX3_rectangle 38 = .ok (.sipush 16384, 3) := by decide +kernel
theorem dX3_rectangle_41 : decode cX3_rectangle 41 = .ok (.invokestatic 39, 3) := by decide +kernel
theorem dX3_rectangle_44 : decode cX3_rectangle 44 = .ok (.ifCond .eq 15, 3) := by decide +kernel
theorem dX3_rectangle_47 : decode cX3_rectangle 47 = .ok (.iload 5, 2) := by decide +kernel
theorem dX3_rectangle_49 : decode cX3_rectangle 49 = .ok (.iload_n 3, 1) := by decide +kernel
theorem dX3_rectangle_50 : decode cX3_rectangle 50 = .ok (.sipush 16384, 3) := by decide +kernel
theorem dX3_rectangle_53 : decode cX3_rectangle 53 = .ok (.invokestatic 39, 3) := by decide +kernel
theorem dX3_rectangle_56 : decode cX3_rectangle 56 = .ok (.ifCond .ne 5, 3) := by decide +kernel
theorem dX3_rectangle_59 : decode cX3_rectangle 59 = .ok (.iconst 0, 1) := by decide +kernel
theorem dX3_rectangle_60 : decode cX3_rectangle 60 = .ok (.ireturn, 1) := by decide +kernel
theorem dX3_rectangle_61 : decode cX3_rectangle 61 = .ok (.aload_n 0, 1) := by decide +kernel
theorem dX3_rectangle_62 : decode cX3_rectangle 62 = .ok (.iload_n 1, 1) := by decide +kernel
theorem dX3_rectangle_63 : decode cX3_rectangle 63 = .ok (.putfield 44, 3) := by decide +kernel
theorem dX3_rectangle_66 : decode cX3_rectangle 66 = .ok (.aload_n 0, 1) := by decide +kernel
theorem dX3_rectangle_67 : decode cX3_rectangle 67 = .ok (.iload_n 2, 1) := by decide +kernel
theorem dX3_rectangle_68 : decode cX3_rectangle 68 = .ok (.putfield 47, 3) := by decide +kernel
theorem dX3_rectangle_71 : decode cX3_rectangle 71 = .ok (.aload_n 0, 1) := by decide +kernel
theorem dX3_rectangle_72 : decode cX3_rectangle 72 = .ok (.iload_n 3, 1) := by decide +kernel
theorem dX3_rectangle_73 : decode cX3_rectangle 73 = .ok (.putfield 50, 3) := by decide +kernel
theorem dX3_rectangle_76 : decode cX3_rectangle 76 = .ok (.aload_n 0, 1) := by decide +kernel
theorem dX3_rectangle_77 : decode cX3_rectangle 77 = .ok (.iload 4, 2) := by decide +kernel
theorem dX3_rectangle_79 : decode cX3_rectangle 79 = .ok (.putfield 53, 3) := by decide +kernel
theorem dX3_rectangle_82 : decode cX3_rectangle 82 = .ok (.aload_n 0, 1) := by decide +kernel
theorem dX3_rectangle_83 : decode cX3_rectangle 83 = .ok (.iload 5, 2) := by decide +kernel
theorem dX3_rectangle_85 : decode cX3_rectangle 85 = .ok (.putfield 56, 3) := by decide +kernel
theorem dX3_rectangle_88 : decode cX3_rectangle 88 = .ok (.aload_n 0, 1) := by decide +kernel
theorem dX3_rectangle_89 : decode cX3_rectangle 89 = .ok (.iconst 1, 1) := by decide +kernel
theorem dX3_rectangle_90 : decode cX3_rectangle 90 = .ok (.putfield 59, 3) := by decide +kernel
theorem dX3_rectangle_93 : decode cX3_rectangle 93 = .ok (.iconst 1, 1) := by decide +kernel
theorem dX3_rectangle_94 : decode cX3_rectangle 94 = .ok (.ireturn, 1) := by decide +kernel
abbrev cX3_within : ByteArray := prog_5_method_3_code
abbrev yX3_within : MethodName := ⟨"RangeReadersModel", "within", "(III)Z"⟩
theorem hd_X3_within : (yX3_within).cls ≠ "java/lang/invoke/MethodHandle" ∧ (yX3_within).cls ≠ "java/lang/invoke/VarHandle" ∧ (parseMethodDescriptor (yX3_within).desc).map (fun d => d.parameters.length) = some 3 := by decide +kernel
theorem dX3_within_0 : decode cX3_within 0 = .ok (.iload_n 0, 1) := by decide +kernel
theorem dX3_within_1 : decode cX3_within 1 = .ok (.iload_n 1, 1) := by decide +kernel
theorem dX3_within_2 : decode cX3_within 2 = .ok (.if_icmp .lt 12, 3) := by decide +kernel
theorem dX3_within_5 : decode cX3_within 5 = .ok (.iload_n 0, 1) := by decide +kernel
theorem dX3_within_6 : decode cX3_within 6 = .ok (.iload_n 2, 1) := by decide +kernel
theorem dX3_within_7 : decode cX3_within 7 = .ok (.if_icmp .gt 7, 3) := by decide +kernel
theorem dX3_within_10 : decode cX3_within 10 = .ok (.iconst 1, 1) := by decide +kernel
theorem dX3_within_11 : decode cX3_within 11 = .ok (.goto 4, 3) := by decide +kernel
theorem dX3_within_14 : decode cX3_within 14 = .ok (.iconst 0, 1) := by decide +kernel
theorem dX3_within_15 : decode cX3_within 15 = .ok (.ireturn, 1) := by decide +kernel
abbrev cX3_add : ByteArray := prog_5_method_5_code
abbrev yX3_add : MethodName := ⟨"RangeReadersModel", "add", "(I)I"⟩
theorem hd_X3_add : (yX3_add).cls ≠ "java/lang/invoke/MethodHandle" ∧ (yX3_add).cls ≠ "java/lang/invoke/VarHandle" ∧ (parseMethodDescriptor (yX3_add).desc).map (fun d => d.parameters.length) = some 1 := by decide +kernel
theorem dX3_add_0 : decode cX3_add 0 = .ok (.aload_n 0, 1) := by decide +kernel
theorem dX3_add_1 : decode cX3_add 1 = .ok (.aload_n 0, 1) := by decide +kernel
theorem dX3_add_2 : decode cX3_add 2 = .ok (.getfield 59, 3) := by decide +kernel
theorem dX3_add_5 : decode cX3_add 5 = .ok (.ifCond .eq 14, 3) := by decide +kernel
theorem dX3_add_8 : decode cX3_add 8 = .ok (.iload_n 1, 1) := by decide +kernel
theorem dX3_add_9 : decode cX3_add 9 = .ok (.iconst 0, 1) := by decide +kernel
theorem dX3_add_10 : decode cX3_add 10 = .ok (.sipush 16383, 3) := by decide +kernel
theorem dX3_add_13 : decode cX3_add 13 = .ok (.invokestatic 39, 3) := by decide +kernel
theorem dX3_add_16 : decode cX3_add 16 = .ok (.ifCond .ne 7, 3) := by decide +kernel
theorem dX3_add_19 : decode cX3_add 19 = .ok (.iconst 1, 1) := by decide +kernel
theorem dX3_add_20 : decode cX3_add 20 = .ok (.goto 4, 3) := by decide +kernel
theorem dX3_add_23 : decode cX3_add 23 = .ok (.iconst 0, 1) := by decide +kernel
theorem dX3_add_24 : decode cX3_add 24 = .ok (.putfield 35, 3) := by decide +kernel
theorem dX3_add_27 : decode cX3_add 27 = .ok (.aload_n 0, 1) := by decide +kernel
theorem dX3_add_28 : decode cX3_add 28 = .ok (.getfield 35, 3) := by decide +kernel
theorem dX3_add_31 : decode cX3_add 31 = .ok (.ifCond .eq 5, 3) := by decide +kernel
theorem dX3_add_34 : decode cX3_add 34 = .ok (.iconst 0, 1) := by decide +kernel
theorem dX3_add_35 : decode cX3_add 35 = .ok (.ireturn, 1) := by decide +kernel
theorem dX3_add_36 : decode cX3_add 36 = .ok (.iconst 0, 1) := by decide +kernel
theorem dX3_add_37 : decode cX3_add 37 = .ok (.istore_n 2, 1) := by decide +kernel
theorem dX3_add_38 : decode cX3_add 38 = .ok (.aload_n 0, 1) := by decide +kernel
theorem dX3_add_39 : decode cX3_add 39 = .ok (.getfield 7, 3) := by decide +kernel
theorem dX3_add_42 : decode cX3_add 42 = .ok (.iload_n 2, 1) := by decide +kernel
theorem dX3_add_43 : decode cX3_add 43 = .ok (.baload, 1) := by decide +kernel
theorem dX3_add_44 : decode cX3_add 44 = .ok (.ifCond .eq 9, 3) := by decide +kernel
theorem dX3_add_47 : decode cX3_add 47 = .ok (.iinc 2 1, 3) := by decide +kernel
theorem dX3_add_50 : decode cX3_add 50 = .ok (.goto (-12), 3) := by decide +kernel
theorem dX3_add_53 : decode cX3_add 53 = .ok (.aload_n 0, 1) := by decide +kernel
theorem dX3_add_54 : decode cX3_add 54 = .ok (.getfield 7, 3) := by decide +kernel
theorem dX3_add_57 : decode cX3_add 57 = .ok (.iload_n 2, 1) := by decide +kernel
theorem dX3_add_58 : decode cX3_add 58 = .ok (.iconst 1, 1) := by decide +kernel
theorem dX3_add_59 : decode cX3_add 59 = .ok (.bastore, 1) := by decide +kernel
theorem dX3_add_60 : decode cX3_add 60 = .ok (.aload_n 0, 1) := by decide +kernel
theorem dX3_add_61 : decode cX3_add 61 = .ok (.getfield 13, 3) := by decide +kernel
theorem dX3_add_64 : decode cX3_add 64 = .ok (.iload_n 2, 1) := by decide +kernel
theorem dX3_add_65 : decode cX3_add 65 = .ok (.aload_n 0, 1) := by decide +kernel
theorem dX3_add_66 : decode cX3_add 66 = .ok (.getfield 44, 3) := by decide +kernel
theorem dX3_add_69 : decode cX3_add 69 = .ok (.iastore, 1) := by decide +kernel
theorem dX3_add_70 : decode cX3_add 70 = .ok (.aload_n 0, 1) := by decide +kernel
theorem dX3_add_71 : decode cX3_add 71 = .ok (.getfield 17, 3) := by decide +kernel
theorem dX3_add_74 : decode cX3_add 74 = .ok (.iload_n 2, 1) := by decide +kernel
theorem dX3_add_75 : decode cX3_add 75 = .ok (.aload_n 0, 1) := by decide +kernel
theorem dX3_add_76 : decode cX3_add 76 = .ok (.getfield 47, 3) := by decide +kernel
theorem dX3_add_79 : decode cX3_add 79 = .ok (.iastore, 1) := by decide +kernel
theorem dX3_add_80 : decode cX3_add 80 = .ok (.aload_n 0, 1) := by decide +kernel
theorem dX3_add_81 : decode cX3_add 81 = .ok (.getfield 20, 3) := by decide +kernel
theorem dX3_add_84 : decode cX3_add 84 = .ok (.iload_n 2, 1) := by decide +kernel
theorem dX3_add_85 : decode cX3_add 85 = .ok (.aload_n 0, 1) := by decide +kernel
theorem dX3_add_86 : decode cX3_add 86 = .ok (.getfield 50, 3) := by decide +kernel
theorem dX3_add_89 : decode cX3_add 89 = .ok (.iastore, 1) := by decide +kernel
theorem dX3_add_90 : decode cX3_add 90 = .ok (.aload_n 0, 1) := by decide +kernel
theorem dX3_add_91 : decode cX3_add 91 = .ok (.getfield 23, 3) := by decide +kernel
theorem dX3_add_94 : decode cX3_add 94 = .ok (.iload_n 2, 1) := by decide +kernel
theorem dX3_add_95 : decode cX3_add 95 = .ok (.aload_n 0, 1) := by decide +kernel
theorem dX3_add_96 : decode cX3_add 96 = .ok (.getfield 53, 3) := by decide +kernel
theorem dX3_add_99 : decode cX3_add 99 = .ok (.iastore, 1) := by decide +kernel
theorem dX3_add_100 : decode cX3_add 100 = .ok (.aload_n 0, 1) := by decide +kernel
theorem dX3_add_101 : decode cX3_add 101 = .ok (.getfield 26, 3) := by decide +kernel
theorem dX3_add_104 : decode cX3_add 104 = .ok (.iload_n 2, 1) := by decide +kernel
theorem dX3_add_105 : decode cX3_add 105 = .ok (.aload_n 0, 1) := by decide +kernel
theorem dX3_add_106 : decode cX3_add 106 = .ok (.getfield 56, 3) := by decide +kernel
theorem dX3_add_109 : decode cX3_add 109 = .ok (.iastore, 1) := by decide +kernel
theorem dX3_add_110 : decode cX3_add 110 = .ok (.aload_n 0, 1) := by decide +kernel
theorem dX3_add_111 : decode cX3_add 111 = .ok (.getfield 29, 3) := by decide +kernel
theorem dX3_add_114 : decode cX3_add 114 = .ok (.iload_n 2, 1) := by decide +kernel
theorem dX3_add_115 : decode cX3_add 115 = .ok (.iload_n 1, 1) := by decide +kernel
theorem dX3_add_116 : decode cX3_add 116 = .ok (.iastore, 1) := by decide +kernel
theorem dX3_add_117 : decode cX3_add 117 = .ok (.aload_n 0, 1) := by decide +kernel
theorem dX3_add_118 : decode cX3_add 118 = .ok (.dup, 1) := by decide +kernel
theorem dX3_add_119 : decode cX3_add 119 = .ok (.getfield 63, 3) := by decide +kernel
theorem dX3_add_122 : decode cX3_add 122 = .ok (.iconst 1, 1) := by decide +kernel
theorem dX3_add_123 : decode cX3_add 123 = .ok (.iadd, 1) := by decide +kernel
theorem dX3_add_124 : decode cX3_add 124 = .ok (.putfield 63, 3) := by decide +kernel
theorem dX3_add_127 : decode cX3_add 127 = .ok (.iload_n 2, 1) := by decide +kernel
theorem dX3_add_128 : decode cX3_add 128 = .ok (.ireturn, 1) := by decide +kernel
abbrev cX3_remove : ByteArray := prog_5_method_8_code
abbrev yX3_remove : MethodName := ⟨"RangeReadersModel", "remove", "(I)Z"⟩
theorem hd_X3_remove : (yX3_remove).cls ≠ "java/lang/invoke/MethodHandle" ∧ (yX3_remove).cls ≠ "java/lang/invoke/VarHandle" ∧ (parseMethodDescriptor (yX3_remove).desc).map (fun d => d.parameters.length) = some 1 := by decide +kernel
theorem dX3_remove_0 : decode cX3_remove 0 = .ok (.aload_n 0, 1) := by decide +kernel
theorem dX3_remove_1 : decode cX3_remove 1 = .ok (.iconst 0, 1) := by decide +kernel
theorem dX3_remove_2 : decode cX3_remove 2 = .ok (.putfield 35, 3) := by decide +kernel
theorem dX3_remove_5 : decode cX3_remove 5 = .ok (.aload_n 0, 1) := by decide +kernel
theorem dX3_remove_6 : decode cX3_remove 6 = .ok (.iload_n 1, 1) := by decide +kernel
theorem dX3_remove_7 : decode cX3_remove 7 = .ok (.invokevirtual 66, 3) := by decide +kernel
theorem dX3_remove_10 : decode cX3_remove 10 = .ok (.ifCond .ne 5, 3) := by decide +kernel
theorem dX3_remove_13 : decode cX3_remove 13 = .ok (.iconst 0, 1) := by decide +kernel
theorem dX3_remove_14 : decode cX3_remove 14 = .ok (.ireturn, 1) := by decide +kernel
theorem dX3_remove_15 : decode cX3_remove 15 = .ok (.aload_n 0, 1) := by decide +kernel
theorem dX3_remove_16 : decode cX3_remove 16 = .ok (.iload_n 1, 1) := by decide +kernel
theorem dX3_remove_17 : decode cX3_remove 17 = .ok (.invokevirtual 70, 3) := by decide +kernel
theorem dX3_remove_20 : decode cX3_remove 20 = .ok (.iconst 1, 1) := by decide +kernel
theorem dX3_remove_21 : decode cX3_remove 21 = .ok (.ireturn, 1) := by decide +kernel
abbrev cX3_isThere : ByteArray := prog_5_method_6_code
abbrev yX3_isThere : MethodName := ⟨"RangeReadersModel", "isThere", "(I)Z"⟩
theorem hd_X3_isThere : (yX3_isThere).cls ≠ "java/lang/invoke/MethodHandle" ∧ (yX3_isThere).cls ≠ "java/lang/invoke/VarHandle" ∧ (parseMethodDescriptor (yX3_isThere).desc).map (fun d => d.parameters.length) = some 1 := by decide +kernel
theorem dX3_isThere_0 : decode cX3_isThere 0 = .ok (.iload_n 1, 1) := by decide +kernel
theorem dX3_isThere_1 : decode cX3_isThere 1 = .ok (.ifCond .lt 23, 3) := by decide +kernel
theorem dX3_isThere_4 : decode cX3_isThere 4 = .ok (.iload_n 1, 1) := by decide +kernel
theorem dX3_isThere_5 : decode cX3_isThere 5 = .ok (.sipush 4096, 3) := by decide +kernel
theorem dX3_isThere_8 : decode cX3_isThere 8 = .ok (.if_icmp .ge 16, 3) := by decide +kernel
theorem dX3_isThere_11 : decode cX3_isThere 11 = .ok (.aload_n 0, 1) := by decide +kernel
theorem dX3_isThere_12 : decode cX3_isThere 12 = .ok (.getfield 7, 3) := by decide +kernel
theorem dX3_isThere_15 : decode cX3_isThere 15 = .ok (.iload_n 1, 1) := by decide +kernel
theorem dX3_isThere_16 : decode cX3_isThere 16 = .ok (.baload, 1) := by decide +kernel
theorem dX3_isThere_17 : decode cX3_isThere 17 = .ok (.ifCond .eq 7, 3) := by decide +kernel
theorem dX3_isThere_20 : decode cX3_isThere 20 = .ok (.iconst 1, 1) := by decide +kernel
theorem dX3_isThere_21 : decode cX3_isThere 21 = .ok (.goto 4, 3) := by decide +kernel
theorem dX3_isThere_24 : decode cX3_isThere 24 = .ok (.iconst 0, 1) := by decide +kernel
theorem dX3_isThere_25 : decode cX3_isThere 25 = .ok (.ireturn, 1) := by decide +kernel
abbrev cX3_go : ByteArray := prog_5_method_7_code
abbrev yX3_go : MethodName := ⟨"RangeReadersModel", "go", "(I)V"⟩
theorem hd_X3_go : (yX3_go).cls ≠ "java/lang/invoke/MethodHandle" ∧ (yX3_go).cls ≠ "java/lang/invoke/VarHandle" ∧ (parseMethodDescriptor (yX3_go).desc).map (fun d => d.parameters.length) = some 1 := by decide +kernel
theorem dX3_go_0 : decode cX3_go 0 = .ok (.aload_n 0, 1) := by decide +kernel
theorem dX3_go_1 : decode cX3_go 1 = .ok (.getfield 7, 3) := by decide +kernel
theorem dX3_go_4 : decode cX3_go 4 = .ok (.iload_n 1, 1) := by decide +kernel
theorem dX3_go_5 : decode cX3_go 5 = .ok (.iconst 0, 1) := by decide +kernel
theorem dX3_go_6 : decode cX3_go 6 = .ok (.bastore, 1) := by decide +kernel
theorem dX3_go_7 : decode cX3_go 7 = .ok (.aload_n 0, 1) := by decide +kernel
theorem dX3_go_8 : decode cX3_go 8 = .ok (.dup, 1) := by decide +kernel
theorem dX3_go_9 : decode cX3_go 9 = .ok (.getfield 63, 3) := by decide +kernel
theorem dX3_go_12 : decode cX3_go 12 = .ok (.iconst 1, 1) := by decide +kernel
theorem dX3_go_13 : decode cX3_go 13 = .ok (.isub, 1) := by decide +kernel
theorem dX3_go_14 : decode cX3_go 14 = .ok (.putfield 63, 3) := by decide +kernel
theorem dX3_go_17 : decode cX3_go 17 = .ok (.return_, 1) := by decide +kernel
abbrev cX3_drop : ByteArray := prog_5_method_9_code
abbrev yX3_drop : MethodName := ⟨"RangeReadersModel", "drop", "(I)I"⟩
theorem hd_X3_drop : (yX3_drop).cls ≠ "java/lang/invoke/MethodHandle" ∧ (yX3_drop).cls ≠ "java/lang/invoke/VarHandle" ∧ (parseMethodDescriptor (yX3_drop).desc).map (fun d => d.parameters.length) = some 1 := by decide +kernel
theorem dX3_drop_0 : decode cX3_drop 0 = .ok (.aload_n 0, 1) := by decide +kernel
theorem dX3_drop_1 : decode cX3_drop 1 = .ok (.iconst 0, 1) := by decide +kernel
theorem dX3_drop_2 : decode cX3_drop 2 = .ok (.putfield 35, 3) := by decide +kernel
theorem dX3_drop_5 : decode cX3_drop 5 = .ok (.iconst 0, 1) := by decide +kernel
theorem dX3_drop_6 : decode cX3_drop 6 = .ok (.istore_n 2, 1) := by decide +kernel
theorem dX3_drop_7 : decode cX3_drop 7 = .ok (.iconst 0, 1) := by decide +kernel
theorem dX3_drop_8 : decode cX3_drop 8 = .ok (.istore_n 3, 1) := by decide +kernel
theorem dX3_drop_9 : decode cX3_drop 9 = .ok (.iload_n 3, 1) := by decide +kernel
theorem dX3_drop_10 : decode cX3_drop 10 = .ok (.sipush 4096, 3) := by decide +kernel
theorem dX3_drop_13 : decode cX3_drop 13 = .ok (.if_icmp .ge 39, 3) := by decide +kernel
theorem dX3_drop_16 : decode cX3_drop 16 = .ok (.aload_n 0, 1) := by decide +kernel
theorem dX3_drop_17 : decode cX3_drop 17 = .ok (.getfield 7, 3) := by decide +kernel
theorem dX3_drop_20 : decode cX3_drop 20 = .ok (.iload_n 3, 1) := by decide +kernel
theorem dX3_drop_21 : decode cX3_drop 21 = .ok (.baload, 1) := by decide +kernel
theorem dX3_drop_22 : decode cX3_drop 22 = .ok (.ifCond .eq 24, 3) := by decide +kernel
theorem dX3_drop_25 : decode cX3_drop 25 = .ok (.aload_n 0, 1) := by decide +kernel
theorem dX3_drop_26 : decode cX3_drop 26 = .ok (.getfield 29, 3) := by decide +kernel
theorem dX3_drop_29 : decode cX3_drop 29 = .ok (.iload_n 3, 1) := by decide +kernel
theorem dX3_drop_30 : decode cX3_drop 30 = .ok (.iaload, 1) := by decide +kernel
theorem dX3_drop_31 : decode cX3_drop 31 = .ok (.iload_n 1, 1) := by decide +kernel
theorem dX3_drop_32 : decode cX3_drop 32 = .ok (.if_icmp .eq 6, 3) := by decide +kernel
theorem dX3_drop_35 : decode cX3_drop 35 = .ok (.goto 11, 3) := by decide +kernel
theorem dX3_drop_38 : decode cX3_drop 38 = .ok (.aload_n 0, 1) := by decide +kernel
theorem dX3_drop_39 : decode cX3_drop 39 = .ok (.iload_n 3, 1) := by decide +kernel
theorem dX3_drop_40 : decode cX3_drop 40 = .ok (.invokevirtual 70, 3) := by decide +kernel
theorem dX3_drop_43 : decode cX3_drop 43 = .ok (.iinc 2 1, 3) := by decide +kernel
theorem dX3_drop_46 : decode cX3_drop 46 = .ok (.iinc 3 1, 3) := by decide +kernel
theorem dX3_drop_49 : decode cX3_drop 49 = .ok (.goto (-40), 3) := by decide +kernel
theorem dX3_drop_52 : decode cX3_drop 52 = .ok (.iload_n 2, 1) := by decide +kernel
theorem dX3_drop_53 : decode cX3_drop 53 = .ok (.ireturn, 1) := by decide +kernel
abbrev cX3_readers : ByteArray := prog_5_method_12_code
abbrev yX3_readers : MethodName := ⟨"RangeReadersModel", "readers", "(III)I"⟩
theorem hd_X3_readers : (yX3_readers).cls ≠ "java/lang/invoke/MethodHandle" ∧ (yX3_readers).cls ≠ "java/lang/invoke/VarHandle" ∧ (parseMethodDescriptor (yX3_readers).desc).map (fun d => d.parameters.length) = some 3 := by decide +kernel
theorem dX3_readers_0 : decode cX3_readers 0 = .ok (.aload_n 0, 1) := by decide +kernel
theorem dX3_readers_1 : decode cX3_readers 1 = .ok (.iload_n 1, 1) := by decide +kernel
theorem dX3_readers_2 : decode cX3_readers 2 = .ok (.iconst 0, 1) := by decide +kernel
theorem dX3_readers_3 : decode cX3_readers 3 = .ok (.bipush 7, 2) := by decide +kernel
theorem dX3_readers_5 : decode cX3_readers 5 = .ok (.invokestatic 39, 3) := by decide +kernel
theorem dX3_readers_8 : decode cX3_readers 8 = .ok (.ifCond .eq 28, 3) := by decide +kernel
theorem dX3_readers_11 : decode cX3_readers 11 = .ok (.iload_n 2, 1) := by decide +kernel
theorem dX3_readers_12 : decode cX3_readers 12 = .ok (.iconst 1, 1) := by decide +kernel
theorem dX3_readers_13 : decode cX3_readers 13 = .ok (.ldc 43, 2) := by decide +kernel
theorem dX3_readers_15 : decode cX3_readers 15 = .ok (.invokestatic 39, 3) := by decide +kernel
theorem dX3_readers_18 : decode cX3_readers 18 = .ok (.ifCond .eq 18, 3) := by decide +kernel
theorem dX3_readers_21 : decode cX3_readers 21 = .ok (.iload_n 3, 1) := by decide +kernel
theorem dX3_readers_22 : decode cX3_readers 22 = .ok (.iconst 1, 1) := by decide +kernel
theorem dX3_readers_23 : decode cX3_readers 23 = .ok (.sipush 16384, 3) := by decide +kernel
theorem dX3_readers_26 : decode cX3_readers 26 = .ok (.invokestatic 39, 3) := by decide +kernel
theorem dX3_readers_29 : decode cX3_readers 29 = .ok (.ifCond .eq 7, 3) := by decide +kernel
theorem dX3_readers_32 : decode cX3_readers 32 = .ok (.iconst 0, 1) := by decide +kernel
theorem dX3_readers_33 : decode cX3_readers 33 = .ok (.goto 4, 3) := by decide +kernel
theorem dX3_readers_36 : decode cX3_readers 36 = .ok (.iconst 1, 1) := by decide +kernel
theorem dX3_readers_37 : decode cX3_readers 37 = .ok (.putfield 35, 3) := by decide +kernel
theorem dX3_readers_40 : decode cX3_readers 40 = .ok (.aload_n 0, 1) := by decide +kernel
theorem dX3_readers_41 : decode cX3_readers 41 = .ok (.getfield 35, 3) := by decide +kernel
theorem dX3_readers_44 : decode cX3_readers 44 = .ok (.ifCond .ne 15, 3) := by decide +kernel
theorem dX3_readers_47 : decode cX3_readers 47 = .ok (.aload_n 0, 1) := by decide +kernel
theorem dX3_readers_48 : decode cX3_readers 48 = .ok (.iload_n 1, 1) := by decide +kernel
theorem dX3_readers_49 : decode cX3_readers 49 = .ok (.iload_n 2, 1) := by decide +kernel
theorem dX3_readers_50 : decode cX3_readers 50 = .ok (.iload_n 3, 1) := by decide +kernel
theorem dX3_readers_51 : decode cX3_readers 51 = .ok (.iload_n 2, 1) := by decide +kernel
theorem dX3_readers_52 : decode cX3_readers 52 = .ok (.iload_n 3, 1) := by decide +kernel
theorem dX3_readers_53 : decode cX3_readers 53 = .ok (.invokevirtual 81, 3) := by decide +kernel
theorem dX3_readers_56 : decode cX3_readers 56 = .ok (.goto 4, 3) := by decide +kernel
theorem dX3_readers_59 : decode cX3_readers 59 = .ok (.iconst 0, 1) := by decide +kernel
theorem dX3_readers_60 : decode cX3_readers 60 = .ok (.ireturn, 1) := by decide +kernel
abbrev cX3_meetAll : ByteArray := prog_5_method_11_code
abbrev yX3_meetAll : MethodName := ⟨"RangeReadersModel", "meetAll", "(IIIII)I"⟩
theorem hd_X3_meetAll : (yX3_meetAll).cls ≠ "java/lang/invoke/MethodHandle" ∧ (yX3_meetAll).cls ≠ "java/lang/invoke/VarHandle" ∧ (parseMethodDescriptor (yX3_meetAll).desc).map (fun d => d.parameters.length) = some 5 := by decide +kernel
theorem dX3_meetAll_0 : decode cX3_meetAll 0 = .ok (.aload_n 0, 1) := by decide +kernel
theorem dX3_meetAll_1 : decode cX3_meetAll 1 = .ok (.iconst 0, 1) := by decide +kernel
theorem dX3_meetAll_2 : decode cX3_meetAll 2 = .ok (.putfield 74, 3) := by decide +kernel
theorem dX3_meetAll_5 : decode cX3_meetAll 5 = .ok (.iconst 0, 1) := by decide +kernel
theorem dX3_meetAll_6 : decode cX3_meetAll 6 = .ok (.istore 6, 2) := by decide +kernel
theorem dX3_meetAll_8 : decode cX3_meetAll 8 = .ok (.iload 6, 2) := by decide +kernel
theorem dX3_meetAll_10 : decode cX3_meetAll 10 = .ok (.sipush 4096, 3) := by decide +kernel
theorem dX3_meetAll_13 : decode cX3_meetAll 13 = .ok (.if_icmp .ge 49, 3) := by decide +kernel
theorem dX3_meetAll_16 : decode cX3_meetAll 16 = .ok (.aload_n 0, 1) := by decide +kernel
theorem dX3_meetAll_17 : decode cX3_meetAll 17 = .ok (.iload 6, 2) := by decide +kernel
theorem dX3_meetAll_19 : decode cX3_meetAll 19 = .ok (.iload_n 1, 1) := by decide +kernel
theorem dX3_meetAll_20 : decode cX3_meetAll 20 = .ok (.iload_n 2, 1) := by decide +kernel
theorem dX3_meetAll_21 : decode cX3_meetAll 21 = .ok (.iload_n 3, 1) := by decide +kernel
theorem dX3_meetAll_22 : decode cX3_meetAll 22 = .ok (.iload 4, 2) := by decide +kernel
theorem dX3_meetAll_24 : decode cX3_meetAll 24 = .ok (.iload 5, 2) := by decide +kernel
theorem dX3_meetAll_26 : decode cX3_meetAll 26 = .ok (.invokevirtual 77, 3) := by decide +kernel
theorem dX3_meetAll_29 : decode cX3_meetAll 29 = .ok (.ifCond .ne 6, 3) := by decide +kernel
theorem dX3_meetAll_32 : decode cX3_meetAll 32 = .ok (.goto 24, 3) := by decide +kernel
theorem dX3_meetAll_35 : decode cX3_meetAll 35 = .ok (.aload_n 0, 1) := by decide +kernel
theorem dX3_meetAll_36 : decode cX3_meetAll 36 = .ok (.getfield 32, 3) := by decide +kernel
theorem dX3_meetAll_39 : decode cX3_meetAll 39 = .ok (.aload_n 0, 1) := by decide +kernel
theorem dX3_meetAll_40 : decode cX3_meetAll 40 = .ok (.getfield 74, 3) := by decide +kernel
theorem dX3_meetAll_43 : decode cX3_meetAll 43 = .ok (.iload 6, 2) := by decide +kernel
theorem dX3_meetAll_45 : decode cX3_meetAll 45 = .ok (.iastore, 1) := by decide +kernel
theorem dX3_meetAll_46 : decode cX3_meetAll 46 = .ok (.aload_n 0, 1) := by decide +kernel
theorem dX3_meetAll_47 : decode cX3_meetAll 47 = .ok (.dup, 1) := by decide +kernel
theorem dX3_meetAll_48 : decode cX3_meetAll 48 = .ok (.getfield 74, 3) := by decide +kernel
theorem dX3_meetAll_51 : decode cX3_meetAll 51 = .ok (.iconst 1, 1) := by decide +kernel
theorem dX3_meetAll_52 : decode cX3_meetAll 52 = .ok (.iadd, 1) := by decide +kernel
theorem dX3_meetAll_53 : decode cX3_meetAll 53 = .ok (.putfield 74, 3) := by decide +kernel
theorem dX3_meetAll_56 : decode cX3_meetAll 56 = .ok (.iinc 6 1, 3) := by decide +kernel
theorem dX3_meetAll_59 : decode cX3_meetAll 59 = .ok (.goto (-51), 3) := by decide +kernel
theorem dX3_meetAll_62 : decode cX3_meetAll 62 = .ok (.aload_n 0, 1) := by decide +kernel
theorem dX3_meetAll_63 : decode cX3_meetAll 63 = .ok (.getfield 74, 3) := by decide +kernel
theorem dX3_meetAll_66 : decode cX3_meetAll 66 = .ok (.ireturn, 1) := by decide +kernel
abbrev cX3_meets : ByteArray := prog_5_method_10_code
abbrev yX3_meets : MethodName := ⟨"RangeReadersModel", "meets", "(IIIIII)Z"⟩
theorem hd_X3_meets : (yX3_meets).cls ≠ "java/lang/invoke/MethodHandle" ∧ (yX3_meets).cls ≠ "java/lang/invoke/VarHandle" ∧ (parseMethodDescriptor (yX3_meets).desc).map (fun d => d.parameters.length) = some 6 := by decide +kernel
theorem dX3_meets_0 : decode cX3_meets 0 = .ok (.aload_n 0, 1) := by decide +kernel
theorem dX3_meets_1 : decode cX3_meets 1 = .ok (.getfield 7, 3) := by decide +kernel
theorem dX3_meets_4 : decode cX3_meets 4 = .ok (.iload_n 1, 1) := by decide +kernel
theorem dX3_meets_5 : decode cX3_meets 5 = .ok (.baload, 1) := by decide +kernel
theorem dX3_meets_6 : decode cX3_meets 6 = .ok (.ifCond .eq 60, 3) := by decide +kernel
theorem dX3_meets_9 : decode cX3_meets 9 = .ok (.aload_n 0, 1) := by decide +kernel
theorem dX3_meets_10 : decode cX3_meets 10 = .ok (.getfield 13, 3) := by decide +kernel
theorem dX3_meets_13 : decode cX3_meets 13 = .ok (.iload_n 1, 1) := by decide +kernel
theorem dX3_meets_14 : decode cX3_meets 14 = .ok (.iaload, 1) := by decide +kernel
theorem dX3_meets_15 : decode cX3_meets 15 = .ok (.iload_n 2, 1) := by decide +kernel
theorem dX3_meets_16 : decode cX3_meets 16 = .ok (.if_icmp .ne 50, 3) := by decide +kernel
theorem dX3_meets_19 : decode cX3_meets 19 = .ok (.aload_n 0, 1) := by decide +kernel
theorem dX3_meets_20 : decode cX3_meets 20 = .ok (.getfield 17, 3) := by decide +kernel
theorem dX3_meets_23 : decode cX3_meets 23 = .ok (.iload_n 1, 1) := by decide +kernel
theorem dX3_meets_24 : decode cX3_meets 24 = .ok (.iaload, 1) := by decide +kernel
theorem dX3_meets_25 : decode cX3_meets 25 = .ok (.iload 5, 2) := by decide +kernel
theorem dX3_meets_27 : decode cX3_meets 27 = .ok (.if_icmp .gt 39, 3) := by decide +kernel
theorem dX3_meets_30 : decode cX3_meets 30 = .ok (.aload_n 0, 1) := by decide +kernel
theorem dX3_meets_31 : decode cX3_meets 31 = .ok (.getfield 23, 3) := by decide +kernel
theorem dX3_meets_34 : decode cX3_meets 34 = .ok (.iload_n 1, 1) := by decide +kernel
theorem dX3_meets_35 : decode cX3_meets 35 = .ok (.iaload, 1) := by decide +kernel
theorem dX3_meets_36 : decode cX3_meets 36 = .ok (.iload_n 3, 1) := by decide +kernel
theorem dX3_meets_37 : decode cX3_meets 37 = .ok (.if_icmp .lt 29, 3) := by decide +kernel
theorem dX3_meets_40 : decode cX3_meets 40 = .ok (.aload_n 0, 1) := by decide +kernel
theorem dX3_meets_41 : decode cX3_meets 41 = .ok (.getfield 20, 3) := by decide +kernel
theorem dX3_meets_44 : decode cX3_meets 44 = .ok (.iload_n 1, 1) := by decide +kernel
theorem dX3_meets_45 : decode cX3_meets 45 = .ok (.iaload, 1) := by decide +kernel
theorem dX3_meets_46 : decode cX3_meets 46 = .ok (.iload 6, 2) := by decide +kernel
theorem dX3_meets_48 : decode cX3_meets 48 = .ok (.if_icmp .gt 18, 3) := by decide +kernel
theorem dX3_meets_51 : decode cX3_meets 51 = .ok (.aload_n 0, 1) := by decide +kernel
theorem dX3_meets_52 : decode cX3_meets 52 = .ok (.getfield 26, 3) := by decide +kernel
theorem dX3_meets_55 : decode cX3_meets 55 = .ok (.iload_n 1, 1) := by decide +kernel
theorem dX3_meets_56 : decode cX3_meets 56 = .ok (.iaload, 1) := by decide +kernel
theorem dX3_meets_57 : decode cX3_meets 57 = .ok (.iload 4, 2) := by decide +kernel
theorem dX3_meets_59 : decode cX3_meets 59 = .ok (.if_icmp .lt 7, 3) := by decide +kernel
theorem dX3_meets_62 : decode cX3_meets 62 = .ok (.iconst 1, 1) := by decide +kernel
theorem dX3_meets_63 : decode cX3_meets 63 = .ok (.goto 4, 3) := by decide +kernel
theorem dX3_meets_66 : decode cX3_meets 66 = .ok (.iconst 0, 1) := by decide +kernel
theorem dX3_meets_67 : decode cX3_meets 67 = .ok (.ireturn, 1) := by decide +kernel
abbrev cX3_meet : ByteArray := prog_5_method_13_code
abbrev yX3_meet : MethodName := ⟨"RangeReadersModel", "meet", "()I"⟩
theorem hd_X3_meet : (yX3_meet).cls ≠ "java/lang/invoke/MethodHandle" ∧ (yX3_meet).cls ≠ "java/lang/invoke/VarHandle" ∧ (parseMethodDescriptor (yX3_meet).desc).map (fun d => d.parameters.length) = some 0 := by decide +kernel
theorem dX3_meet_0 : decode cX3_meet 0 = .ok (.aload_n 0, 1) := by decide +kernel
theorem dX3_meet_1 : decode cX3_meet 1 = .ok (.aload_n 0, 1) := by decide +kernel
theorem dX3_meet_2 : decode cX3_meet 2 = .ok (.getfield 59, 3) := by decide +kernel
theorem dX3_meet_5 : decode cX3_meet 5 = .ok (.ifCond .eq 7, 3) := by decide +kernel
theorem dX3_meet_8 : decode cX3_meet 8 = .ok (.iconst 0, 1) := by decide +kernel
theorem dX3_meet_9 : decode cX3_meet 9 = .ok (.goto 4, 3) := by decide +kernel
theorem dX3_meet_12 : decode cX3_meet 12 = .ok (.iconst 1, 1) := by decide +kernel
theorem dX3_meet_13 : decode cX3_meet 13 = .ok (.putfield 35, 3) := by decide +kernel
theorem dX3_meet_16 : decode cX3_meet 16 = .ok (.aload_n 0, 1) := by decide +kernel
theorem dX3_meet_17 : decode cX3_meet 17 = .ok (.getfield 35, 3) := by decide +kernel
theorem dX3_meet_20 : decode cX3_meet 20 = .ok (.ifCond .ne 30, 3) := by decide +kernel
theorem dX3_meet_23 : decode cX3_meet 23 = .ok (.aload_n 0, 1) := by decide +kernel
theorem dX3_meet_24 : decode cX3_meet 24 = .ok (.aload_n 0, 1) := by decide +kernel
theorem dX3_meet_25 : decode cX3_meet 25 = .ok (.getfield 44, 3) := by decide +kernel
theorem dX3_meet_28 : decode cX3_meet 28 = .ok (.aload_n 0, 1) := by decide +kernel
theorem dX3_meet_29 : decode cX3_meet 29 = .ok (.getfield 47, 3) := by decide +kernel
theorem dX3_meet_32 : decode cX3_meet 32 = .ok (.aload_n 0, 1) := by decide +kernel
theorem dX3_meet_33 : decode cX3_meet 33 = .ok (.getfield 50, 3) := by decide +kernel
theorem dX3_meet_36 : decode cX3_meet 36 = .ok (.aload_n 0, 1) := by decide +kernel
theorem dX3_meet_37 : decode cX3_meet 37 = .ok (.getfield 53, 3) := by decide +kernel
theorem dX3_meet_40 : decode cX3_meet 40 = .ok (.aload_n 0, 1) := by decide +kernel
theorem dX3_meet_41 : decode cX3_meet 41 = .ok (.getfield 56, 3) := by decide +kernel
theorem dX3_meet_44 : decode cX3_meet 44 = .ok (.invokevirtual 81, 3) := by decide +kernel
theorem dX3_meet_47 : decode cX3_meet 47 = .ok (.goto 4, 3) := by decide +kernel
theorem dX3_meet_50 : decode cX3_meet 50 = .ok (.iconst 0, 1) := by decide +kernel
theorem dX3_meet_51 : decode cX3_meet 51 = .ok (.ireturn, 1) := by decide +kernel
abbrev cX3_met : ByteArray := prog_5_method_14_code
abbrev yX3_met : MethodName := ⟨"RangeReadersModel", "met", "(I)I"⟩
theorem hd_X3_met : (yX3_met).cls ≠ "java/lang/invoke/MethodHandle" ∧ (yX3_met).cls ≠ "java/lang/invoke/VarHandle" ∧ (parseMethodDescriptor (yX3_met).desc).map (fun d => d.parameters.length) = some 1 := by decide +kernel
theorem dX3_met_0 : decode cX3_met 0 = .ok (.aload_n 0, 1) := by decide +kernel
theorem dX3_met_1 : decode cX3_met 1 = .ok (.iconst 0, 1) := by decide +kernel
theorem dX3_met_2 : decode cX3_met 2 = .ok (.putfield 35, 3) := by decide +kernel
theorem dX3_met_5 : decode cX3_met 5 = .ok (.iload_n 1, 1) := by decide +kernel
theorem dX3_met_6 : decode cX3_met 6 = .ok (.ifCond .lt 20, 3) := by decide +kernel
theorem dX3_met_9 : decode cX3_met 9 = .ok (.iload_n 1, 1) := by decide +kernel
theorem dX3_met_10 : decode cX3_met 10 = .ok (.aload_n 0, 1) := by decide +kernel
theorem dX3_met_11 : decode cX3_met 11 = .ok (.getfield 74, 3) := by decide +kernel
theorem dX3_met_14 : decode cX3_met 14 = .ok (.if_icmp .ge 12, 3) := by decide +kernel
theorem dX3_met_17 : decode cX3_met 17 = .ok (.aload_n 0, 1) := by decide +kernel
theorem dX3_met_18 : decode cX3_met 18 = .ok (.getfield 32, 3) := by decide +kernel
theorem dX3_met_21 : decode cX3_met 21 = .ok (.iload_n 1, 1) := by decide +kernel
theorem dX3_met_22 : decode cX3_met 22 = .ok (.iaload, 1) := by decide +kernel
theorem dX3_met_23 : decode cX3_met 23 = .ok (.goto 4, 3) := by decide +kernel
theorem dX3_met_26 : decode cX3_met 26 = .ok (.iconst (-1), 1) := by decide +kernel
theorem dX3_met_27 : decode cX3_met 27 = .ok (.ireturn, 1) := by decide +kernel
abbrev cX3_entry : ByteArray := prog_5_method_15_code
abbrev yX3_entry : MethodName := ⟨"RangeReadersModel", "entry", "(II)I"⟩
theorem hd_X3_entry : (yX3_entry).cls ≠ "java/lang/invoke/MethodHandle" ∧ (yX3_entry).cls ≠ "java/lang/invoke/VarHandle" ∧ (parseMethodDescriptor (yX3_entry).desc).map (fun d => d.parameters.length) = some 2 := by decide +kernel
theorem dX3_entry_0 : decode cX3_entry 0 = .ok (.aload_n 0, 1) := by decide +kernel
theorem dX3_entry_1 : decode cX3_entry 1 = .ok (.iconst 0, 1) := by decide +kernel
theorem dX3_entry_2 : decode cX3_entry 2 = .ok (.putfield 35, 3) := by decide +kernel
theorem dX3_entry_5 : decode cX3_entry 5 = .ok (.aload_n 0, 1) := by decide +kernel
theorem dX3_entry_6 : decode cX3_entry 6 = .ok (.iload_n 1, 1) := by decide +kernel
theorem dX3_entry_7 : decode cX3_entry 7 = .ok (.invokevirtual 66, 3) := by decide +kernel
theorem dX3_entry_10 : decode cX3_entry 10 = .ok (.ifCond .ne 5, 3) := by decide +kernel
theorem dX3_entry_13 : decode cX3_entry 13 = .ok (.iconst (-1), 1) := by decide +kernel
theorem dX3_entry_14 : decode cX3_entry 14 = .ok (.ireturn, 1) := by decide +kernel
theorem dX3_entry_15 : decode cX3_entry 15 = .ok (.iload_n 2, 1) := by decide +kernel
theorem dX3_entry_16 : decode cX3_entry 16 = .ok (.tableswitch 82 0 5 #[40, 47, 54, 61, 68, 75], 40) := by decide +kernel
theorem dX3_entry_56 : decode cX3_entry 56 = .ok (.aload_n 0, 1) := by decide +kernel
theorem dX3_entry_57 : decode cX3_entry 57 = .ok (.getfield 13, 3) := by decide +kernel
theorem dX3_entry_60 : decode cX3_entry 60 = .ok (.iload_n 1, 1) := by decide +kernel
theorem dX3_entry_61 : decode cX3_entry 61 = .ok (.iaload, 1) := by decide +kernel
theorem dX3_entry_62 : decode cX3_entry 62 = .ok (.ireturn, 1) := by decide +kernel
theorem dX3_entry_63 : decode cX3_entry 63 = .ok (.aload_n 0, 1) := by decide +kernel
theorem dX3_entry_64 : decode cX3_entry 64 = .ok (.getfield 17, 3) := by decide +kernel
theorem dX3_entry_67 : decode cX3_entry 67 = .ok (.iload_n 1, 1) := by decide +kernel
theorem dX3_entry_68 : decode cX3_entry 68 = .ok (.iaload, 1) := by decide +kernel
theorem dX3_entry_69 : decode cX3_entry 69 = .ok (.ireturn, 1) := by decide +kernel
theorem dX3_entry_70 : decode cX3_entry 70 = .ok (.aload_n 0, 1) := by decide +kernel
theorem dX3_entry_71 : decode cX3_entry 71 = .ok (.getfield 20, 3) := by decide +kernel
theorem dX3_entry_74 : decode cX3_entry 74 = .ok (.iload_n 1, 1) := by decide +kernel
theorem dX3_entry_75 : decode cX3_entry 75 = .ok (.iaload, 1) := by decide +kernel
theorem dX3_entry_76 : decode cX3_entry 76 = .ok (.ireturn, 1) := by decide +kernel
theorem dX3_entry_77 : decode cX3_entry 77 = .ok (.aload_n 0, 1) := by decide +kernel
theorem dX3_entry_78 : decode cX3_entry 78 = .ok (.getfield 23, 3) := by decide +kernel
theorem dX3_entry_81 : decode cX3_entry 81 = .ok (.iload_n 1, 1) := by decide +kernel
theorem dX3_entry_82 : decode cX3_entry 82 = .ok (.iaload, 1) := by decide +kernel
theorem dX3_entry_83 : decode cX3_entry 83 = .ok (.ireturn, 1) := by decide +kernel
theorem dX3_entry_84 : decode cX3_entry 84 = .ok (.aload_n 0, 1) := by decide +kernel
theorem dX3_entry_85 : decode cX3_entry 85 = .ok (.getfield 26, 3) := by decide +kernel
theorem dX3_entry_88 : decode cX3_entry 88 = .ok (.iload_n 1, 1) := by decide +kernel
theorem dX3_entry_89 : decode cX3_entry 89 = .ok (.iaload, 1) := by decide +kernel
theorem dX3_entry_90 : decode cX3_entry 90 = .ok (.ireturn, 1) := by decide +kernel
theorem dX3_entry_91 : decode cX3_entry 91 = .ok (.aload_n 0, 1) := by decide +kernel
theorem dX3_entry_92 : decode cX3_entry 92 = .ok (.getfield 29, 3) := by decide +kernel
theorem dX3_entry_95 : decode cX3_entry 95 = .ok (.iload_n 1, 1) := by decide +kernel
theorem dX3_entry_96 : decode cX3_entry 96 = .ok (.iaload, 1) := by decide +kernel
theorem dX3_entry_97 : decode cX3_entry 97 = .ok (.ireturn, 1) := by decide +kernel
theorem dX3_entry_98 : decode cX3_entry 98 = .ok (.iconst (-1), 1) := by decide +kernel
theorem dX3_entry_99 : decode cX3_entry 99 = .ok (.ireturn, 1) := by decide +kernel
abbrev cX3_count : ByteArray := prog_5_method_16_code
abbrev yX3_count : MethodName := ⟨"RangeReadersModel", "count", "()I"⟩
theorem hd_X3_count : (yX3_count).cls ≠ "java/lang/invoke/MethodHandle" ∧ (yX3_count).cls ≠ "java/lang/invoke/VarHandle" ∧ (parseMethodDescriptor (yX3_count).desc).map (fun d => d.parameters.length) = some 0 := by decide +kernel
theorem dX3_count_0 : decode cX3_count 0 = .ok (.aload_n 0, 1) := by decide +kernel
theorem dX3_count_1 : decode cX3_count 1 = .ok (.iconst 0, 1) := by decide +kernel
theorem dX3_count_2 : decode cX3_count 2 = .ok (.putfield 35, 3) := by decide +kernel
theorem dX3_count_5 : decode cX3_count 5 = .ok (.aload_n 0, 1) := by decide +kernel
theorem dX3_count_6 : decode cX3_count 6 = .ok (.getfield 63, 3) := by decide +kernel
theorem dX3_count_9 : decode cX3_count 9 = .ok (.ireturn, 1) := by decide +kernel
abbrev cX3_insert : ByteArray := prog_5_method_23_code
abbrev yX3_insert : MethodName := ⟨"RangeReadersModel", "insert", "(IZII)I"⟩
theorem hd_X3_insert : (yX3_insert).cls ≠ "java/lang/invoke/MethodHandle" ∧ (yX3_insert).cls ≠ "java/lang/invoke/VarHandle" ∧ (parseMethodDescriptor (yX3_insert).desc).map (fun d => d.parameters.length) = some 4 := by decide +kernel
theorem dX3_insert_0 : decode cX3_insert 0 = .ok (.aload_n 0, 1) := by decide +kernel
theorem dX3_insert_1 : decode cX3_insert 1 = .ok (.aload_n 0, 1) := by decide +kernel
theorem dX3_insert_2 : decode cX3_insert 2 = .ok (.iload_n 1, 1) := by decide +kernel
theorem dX3_insert_3 : decode cX3_insert 3 = .ok (.iload_n 2, 1) := by decide +kernel
theorem dX3_insert_4 : decode cX3_insert 4 = .ok (.iload_n 3, 1) := by decide +kernel
theorem dX3_insert_5 : decode cX3_insert 5 = .ok (.iload 4, 2) := by decide +kernel
theorem dX3_insert_7 : decode cX3_insert 7 = .ok (.invokevirtual 96, 3) := by decide +kernel
theorem dX3_insert_10 : decode cX3_insert 10 = .ok (.ifCond .eq 7, 3) := by decide +kernel
theorem dX3_insert_13 : decode cX3_insert 13 = .ok (.iconst 0, 1) := by decide +kernel
theorem dX3_insert_14 : decode cX3_insert 14 = .ok (.goto 4, 3) := by decide +kernel
theorem dX3_insert_17 : decode cX3_insert 17 = .ok (.iconst 1, 1) := by decide +kernel
theorem dX3_insert_18 : decode cX3_insert 18 = .ok (.putfield 35, 3) := by decide +kernel
theorem dX3_insert_21 : decode cX3_insert 21 = .ok (.iconst 0, 1) := by decide +kernel
theorem dX3_insert_22 : decode cX3_insert 22 = .ok (.istore 5, 2) := by decide +kernel
theorem dX3_insert_24 : decode cX3_insert 24 = .ok (.iconst 0, 1) := by decide +kernel
theorem dX3_insert_25 : decode cX3_insert 25 = .ok (.istore 6, 2) := by decide +kernel
theorem dX3_insert_27 : decode cX3_insert 27 = .ok (.iload 6, 2) := by decide +kernel
theorem dX3_insert_29 : decode cX3_insert 29 = .ok (.sipush 4096, 3) := by decide +kernel
theorem dX3_insert_32 : decode cX3_insert 32 = .ok (.if_icmp .ge 128, 3) := by decide +kernel
theorem dX3_insert_35 : decode cX3_insert 35 = .ok (.aload_n 0, 1) := by decide +kernel
theorem dX3_insert_36 : decode cX3_insert 36 = .ok (.getfield 35, 3) := by decide +kernel
theorem dX3_insert_39 : decode cX3_insert 39 = .ok (.ifCond .ne 121, 3) := by decide +kernel
theorem dX3_insert_42 : decode cX3_insert 42 = .ok (.aload_n 0, 1) := by decide +kernel
theorem dX3_insert_43 : decode cX3_insert 43 = .ok (.iload 6, 2) := by decide +kernel
theorem dX3_insert_45 : decode cX3_insert 45 = .ok (.iload_n 1, 1) := by decide +kernel
theorem dX3_insert_46 : decode cX3_insert 46 = .ok (.iload_n 2, 1) := by decide +kernel
theorem dX3_insert_47 : decode cX3_insert 47 = .ok (.invokevirtual 100, 3) := by decide +kernel
theorem dX3_insert_50 : decode cX3_insert 50 = .ok (.ifCond .ne 6, 3) := by decide +kernel
theorem dX3_insert_53 : decode cX3_insert 53 = .ok (.goto 101, 3) := by decide +kernel
theorem dX3_insert_56 : decode cX3_insert 56 = .ok (.aload_n 0, 1) := by decide +kernel
theorem dX3_insert_57 : decode cX3_insert 57 = .ok (.iload 6, 2) := by decide +kernel
theorem dX3_insert_59 : decode cX3_insert 59 = .ok (.iload_n 2, 1) := by decide +kernel
theorem dX3_insert_60 : decode cX3_insert 60 = .ok (.invokevirtual 89, 3) := by decide +kernel
theorem dX3_insert_63 : decode cX3_insert 63 = .ok (.iload_n 3, 1) := by decide +kernel
theorem dX3_insert_64 : decode cX3_insert 64 = .ok (.if_icmp .lt 16, 3) := by decide +kernel
theorem dX3_insert_67 : decode cX3_insert 67 = .ok (.aload_n 0, 1) := by decide +kernel
theorem dX3_insert_68 : decode cX3_insert 68 = .ok (.iload 6, 2) := by decide +kernel
theorem dX3_insert_70 : decode cX3_insert 70 = .ok (.iload_n 2, 1) := by decide +kernel
theorem dX3_insert_71 : decode cX3_insert 71 = .ok (.invokevirtual 89, 3) := by decide +kernel
theorem dX3_insert_74 : decode cX3_insert 74 = .ok (.iload 4, 2) := by decide +kernel
theorem dX3_insert_76 : decode cX3_insert 76 = .ok (.iadd, 1) := by decide +kernel
theorem dX3_insert_77 : decode cX3_insert 77 = .ok (.goto 10, 3) := by decide +kernel
theorem dX3_insert_80 : decode cX3_insert 80 = .ok (.aload_n 0, 1) := by decide +kernel
theorem dX3_insert_81 : decode cX3_insert 81 = .ok (.iload 6, 2) := by decide +kernel
theorem dX3_insert_83 : decode cX3_insert 83 = .ok (.iload_n 2, 1) := by decide +kernel
theorem dX3_insert_84 : decode cX3_insert 84 = .ok (.invokevirtual 89, 3) := by decide +kernel
theorem dX3_insert_87 : decode cX3_insert 87 = .ok (.istore 7, 2) := by decide +kernel
theorem dX3_insert_89 : decode cX3_insert 89 = .ok (.aload_n 0, 1) := by decide +kernel
theorem dX3_insert_90 : decode cX3_insert 90 = .ok (.iload 6, 2) := by decide +kernel
theorem dX3_insert_92 : decode cX3_insert 92 = .ok (.iload_n 2, 1) := by decide +kernel
theorem dX3_insert_93 : decode cX3_insert 93 = .ok (.invokevirtual 93, 3) := by decide +kernel
theorem dX3_insert_96 : decode cX3_insert 96 = .ok (.iload_n 3, 1) := by decide +kernel
theorem dX3_insert_97 : decode cX3_insert 97 = .ok (.if_icmp .lt 16, 3) := by decide +kernel
theorem dX3_insert_100 : decode cX3_insert 100 = .ok (.aload_n 0, 1) := by decide +kernel
theorem dX3_insert_101 : decode cX3_insert 101 = .ok (.iload 6, 2) := by decide +kernel
theorem dX3_insert_103 : decode cX3_insert 103 = .ok (.iload_n 2, 1) := by decide +kernel
theorem dX3_insert_104 : decode cX3_insert 104 = .ok (.invokevirtual 93, 3) := by decide +kernel
theorem dX3_insert_107 : decode cX3_insert 107 = .ok (.iload 4, 2) := by decide +kernel
theorem dX3_insert_109 : decode cX3_insert 109 = .ok (.iadd, 1) := by decide +kernel
theorem dX3_insert_110 : decode cX3_insert 110 = .ok (.goto 10, 3) := by decide +kernel
theorem dX3_insert_113 : decode cX3_insert 113 = .ok (.aload_n 0, 1) := by decide +kernel
theorem dX3_insert_114 : decode cX3_insert 114 = .ok (.iload 6, 2) := by decide +kernel
theorem dX3_insert_116 : decode cX3_insert 116 = .ok (.iload_n 2, 1) := by decide +kernel
theorem dX3_insert_117 : decode cX3_insert 117 = .ok (.invokevirtual 93, 3) := by decide +kernel
theorem dX3_insert_120 : decode cX3_insert 120 = .ok (.istore 8, 2) := by decide +kernel
theorem dX3_insert_122 : decode cX3_insert 122 = .ok (.iload 5, 2) := by decide +kernel
theorem dX3_insert_124 : decode cX3_insert 124 = .ok (.aload_n 0, 1) := by decide +kernel
theorem dX3_insert_125 : decode cX3_insert 125 = .ok (.iload 6, 2) := by decide +kernel
theorem dX3_insert_127 : decode cX3_insert 127 = .ok (.iload_n 2, 1) := by decide +kernel
theorem dX3_insert_128 : decode cX3_insert 128 = .ok (.iload 7, 2) := by decide +kernel
theorem dX3_insert_130 : decode cX3_insert 130 = .ok (.iload 8, 2) := by decide +kernel
theorem dX3_insert_132 : decode cX3_insert 132 = .ok (.iload_n 2, 1) := by decide +kernel
theorem dX3_insert_133 : decode cX3_insert 133 = .ok (.invokestatic 85, 3) := by decide +kernel
theorem dX3_insert_136 : decode cX3_insert 136 = .ok (.if_icmp .le 10, 3) := by decide +kernel
theorem dX3_insert_139 : decode cX3_insert 139 = .ok (.iload_n 2, 1) := by decide +kernel
theorem dX3_insert_140 : decode cX3_insert 140 = .ok (.invokestatic 85, 3) := by decide +kernel
theorem dX3_insert_143 : decode cX3_insert 143 = .ok (.goto 5, 3) := by decide +kernel
theorem dX3_insert_146 : decode cX3_insert 146 = .ok (.iload 8, 2) := by decide +kernel
theorem dX3_insert_148 : decode cX3_insert 148 = .ok (.invokevirtual 104, 3) := by decide +kernel
theorem dX3_insert_151 : decode cX3_insert 151 = .ok (.iadd, 1) := by decide +kernel
theorem dX3_insert_152 : decode cX3_insert 152 = .ok (.istore 5, 2) := by decide +kernel
theorem dX3_insert_154 : decode cX3_insert 154 = .ok (.iinc 6 1, 3) := by decide +kernel
theorem dX3_insert_157 : decode cX3_insert 157 = .ok (.goto (-130), 3) := by decide +kernel
theorem dX3_insert_160 : decode cX3_insert 160 = .ok (.iload 5, 2) := by decide +kernel
theorem dX3_insert_162 : decode cX3_insert 162 = .ok (.ireturn, 1) := by decide +kernel
abbrev cX3_isLine : ByteArray := prog_5_method_19_code
abbrev yX3_isLine : MethodName := ⟨"RangeReadersModel", "isLine", "(IZII)Z"⟩
theorem hd_X3_isLine : (yX3_isLine).cls ≠ "java/lang/invoke/MethodHandle" ∧ (yX3_isLine).cls ≠ "java/lang/invoke/VarHandle" ∧ (parseMethodDescriptor (yX3_isLine).desc).map (fun d => d.parameters.length) = some 4 := by decide +kernel
theorem dX3_isLine_0 : decode cX3_isLine 0 = .ok (.iload_n 1, 1) := by decide +kernel
theorem dX3_isLine_1 : decode cX3_isLine 1 = .ok (.iconst 0, 1) := by decide +kernel
theorem dX3_isLine_2 : decode cX3_isLine 2 = .ok (.bipush 7, 2) := by decide +kernel
theorem dX3_isLine_4 : decode cX3_isLine 4 = .ok (.invokestatic 39, 3) := by decide +kernel
theorem dX3_isLine_7 : decode cX3_isLine 7 = .ok (.ifCond .eq 31, 3) := by decide +kernel
theorem dX3_isLine_10 : decode cX3_isLine 10 = .ok (.iload_n 3, 1) := by decide +kernel
theorem dX3_isLine_11 : decode cX3_isLine 11 = .ok (.iconst 1, 1) := by decide +kernel
theorem dX3_isLine_12 : decode cX3_isLine 12 = .ok (.iload_n 2, 1) := by decide +kernel
theorem dX3_isLine_13 : decode cX3_isLine 13 = .ok (.invokestatic 85, 3) := by decide +kernel
theorem dX3_isLine_16 : decode cX3_isLine 16 = .ok (.invokestatic 39, 3) := by decide +kernel
theorem dX3_isLine_19 : decode cX3_isLine 19 = .ok (.ifCond .eq 19, 3) := by decide +kernel
theorem dX3_isLine_22 : decode cX3_isLine 22 = .ok (.iload 4, 2) := by decide +kernel
theorem dX3_isLine_24 : decode cX3_isLine 24 = .ok (.iconst 1, 1) := by decide +kernel
theorem dX3_isLine_25 : decode cX3_isLine 25 = .ok (.sipush 16384, 3) := by decide +kernel
theorem dX3_isLine_28 : decode cX3_isLine 28 = .ok (.invokestatic 39, 3) := by decide +kernel
theorem dX3_isLine_31 : decode cX3_isLine 31 = .ok (.ifCond .eq 7, 3) := by decide +kernel
theorem dX3_isLine_34 : decode cX3_isLine 34 = .ok (.iconst 1, 1) := by decide +kernel
theorem dX3_isLine_35 : decode cX3_isLine 35 = .ok (.goto 4, 3) := by decide +kernel
theorem dX3_isLine_38 : decode cX3_isLine 38 = .ok (.iconst 0, 1) := by decide +kernel
theorem dX3_isLine_39 : decode cX3_isLine 39 = .ok (.ireturn, 1) := by decide +kernel
abbrev cX3_linesOf : ByteArray := prog_5_method_18_code
abbrev yX3_linesOf : MethodName := ⟨"RangeReadersModel", "linesOf", "(Z)I"⟩
theorem hd_X3_linesOf : (yX3_linesOf).cls ≠ "java/lang/invoke/MethodHandle" ∧ (yX3_linesOf).cls ≠ "java/lang/invoke/VarHandle" ∧ (parseMethodDescriptor (yX3_linesOf).desc).map (fun d => d.parameters.length) = some 1 := by decide +kernel
theorem dX3_linesOf_0 : decode cX3_linesOf 0 = .ok (.iload_n 0, 1) := by decide +kernel
theorem dX3_linesOf_1 : decode cX3_linesOf 1 = .ok (.ifCond .eq 9, 3) := by decide +kernel
theorem dX3_linesOf_4 : decode cX3_linesOf 4 = .ok (.sipush 16384, 3) := by decide +kernel
theorem dX3_linesOf_7 : decode cX3_linesOf 7 = .ok (.goto 5, 3) := by decide +kernel
theorem dX3_linesOf_10 : decode cX3_linesOf 10 = .ok (.ldc 43, 2) := by decide +kernel
theorem dX3_linesOf_12 : decode cX3_linesOf 12 = .ok (.ireturn, 1) := by decide +kernel
abbrev cX3_isPart : ByteArray := prog_5_method_22_code
abbrev yX3_isPart : MethodName := ⟨"RangeReadersModel", "isPart", "(IIZ)Z"⟩
theorem hd_X3_isPart : (yX3_isPart).cls ≠ "java/lang/invoke/MethodHandle" ∧ (yX3_isPart).cls ≠ "java/lang/invoke/VarHandle" ∧ (parseMethodDescriptor (yX3_isPart).desc).map (fun d => d.parameters.length) = some 3 := by decide +kernel
theorem dX3_isPart_0 : decode cX3_isPart 0 = .ok (.aload_n 0, 1) := by decide +kernel
theorem dX3_isPart_1 : decode cX3_isPart 1 = .ok (.getfield 7, 3) := by decide +kernel
theorem dX3_isPart_4 : decode cX3_isPart 4 = .ok (.iload_n 1, 1) := by decide +kernel
theorem dX3_isPart_5 : decode cX3_isPart 5 = .ok (.baload, 1) := by decide +kernel
theorem dX3_isPart_6 : decode cX3_isPart 6 = .ok (.ifCond .eq 40, 3) := by decide +kernel
theorem dX3_isPart_9 : decode cX3_isPart 9 = .ok (.aload_n 0, 1) := by decide +kernel
theorem dX3_isPart_10 : decode cX3_isPart 10 = .ok (.getfield 13, 3) := by decide +kernel
theorem dX3_isPart_13 : decode cX3_isPart 13 = .ok (.iload_n 1, 1) := by decide +kernel
theorem dX3_isPart_14 : decode cX3_isPart 14 = .ok (.iaload, 1) := by decide +kernel
theorem dX3_isPart_15 : decode cX3_isPart 15 = .ok (.iload_n 2, 1) := by decide +kernel
theorem dX3_isPart_16 : decode cX3_isPart 16 = .ok (.if_icmp .ne 30, 3) := by decide +kernel
theorem dX3_isPart_19 : decode cX3_isPart 19 = .ok (.aload_n 0, 1) := by decide +kernel
theorem dX3_isPart_20 : decode cX3_isPart 20 = .ok (.iload_n 1, 1) := by decide +kernel
theorem dX3_isPart_21 : decode cX3_isPart 21 = .ok (.iload_n 3, 1) := by decide +kernel
theorem dX3_isPart_22 : decode cX3_isPart 22 = .ok (.invokevirtual 89, 3) := by decide +kernel
theorem dX3_isPart_25 : decode cX3_isPart 25 = .ok (.iconst 1, 1) := by decide +kernel
theorem dX3_isPart_26 : decode cX3_isPart 26 = .ok (.if_icmp .ne 16, 3) := by decide +kernel
theorem dX3_isPart_29 : decode cX3_isPart 29 = .ok (.aload_n 0, 1) := by decide +kernel
theorem dX3_isPart_30 : decode cX3_isPart 30 = .ok (.iload_n 1, 1) := by decide +kernel
theorem dX3_isPart_31 : decode cX3_isPart 31 = .ok (.iload_n 3, 1) := by decide +kernel
theorem dX3_isPart_32 : decode cX3_isPart 32 = .ok (.invokevirtual 93, 3) := by decide +kernel
theorem dX3_isPart_35 : decode cX3_isPart 35 = .ok (.iload_n 3, 1) := by decide +kernel
theorem dX3_isPart_36 : decode cX3_isPart 36 = .ok (.invokestatic 85, 3) := by decide +kernel
theorem dX3_isPart_39 : decode cX3_isPart 39 = .ok (.if_icmp .eq 7, 3) := by decide +kernel
theorem dX3_isPart_42 : decode cX3_isPart 42 = .ok (.iconst 1, 1) := by decide +kernel
theorem dX3_isPart_43 : decode cX3_isPart 43 = .ok (.goto 4, 3) := by decide +kernel
theorem dX3_isPart_46 : decode cX3_isPart 46 = .ok (.iconst 0, 1) := by decide +kernel
theorem dX3_isPart_47 : decode cX3_isPart 47 = .ok (.ireturn, 1) := by decide +kernel
abbrev cX3_first : ByteArray := prog_5_method_20_code
abbrev yX3_first : MethodName := ⟨"RangeReadersModel", "first", "(IZ)I"⟩
theorem hd_X3_first : (yX3_first).cls ≠ "java/lang/invoke/MethodHandle" ∧ (yX3_first).cls ≠ "java/lang/invoke/VarHandle" ∧ (parseMethodDescriptor (yX3_first).desc).map (fun d => d.parameters.length) = some 2 := by decide +kernel
theorem dX3_first_0 : decode cX3_first 0 = .ok (.iload_n 2, 1) := by decide +kernel
theorem dX3_first_1 : decode cX3_first 1 = .ok (.ifCond .eq 12, 3) := by decide +kernel
theorem dX3_first_4 : decode cX3_first 4 = .ok (.aload_n 0, 1) := by decide +kernel
theorem dX3_first_5 : decode cX3_first 5 = .ok (.getfield 20, 3) := by decide +kernel
theorem dX3_first_8 : decode cX3_first 8 = .ok (.iload_n 1, 1) := by decide +kernel
theorem dX3_first_9 : decode cX3_first 9 = .ok (.iaload, 1) := by decide +kernel
theorem dX3_first_10 : decode cX3_first 10 = .ok (.goto 9, 3) := by decide +kernel
theorem dX3_first_13 : decode cX3_first 13 = .ok (.aload_n 0, 1) := by decide +kernel
theorem dX3_first_14 : decode cX3_first 14 = .ok (.getfield 17, 3) := by decide +kernel
theorem dX3_first_17 : decode cX3_first 17 = .ok (.iload_n 1, 1) := by decide +kernel
theorem dX3_first_18 : decode cX3_first 18 = .ok (.iaload, 1) := by decide +kernel
theorem dX3_first_19 : decode cX3_first 19 = .ok (.ireturn, 1) := by decide +kernel
abbrev cX3_last : ByteArray := prog_5_method_21_code
abbrev yX3_last : MethodName := ⟨"RangeReadersModel", "last", "(IZ)I"⟩
theorem hd_X3_last : (yX3_last).cls ≠ "java/lang/invoke/MethodHandle" ∧ (yX3_last).cls ≠ "java/lang/invoke/VarHandle" ∧ (parseMethodDescriptor (yX3_last).desc).map (fun d => d.parameters.length) = some 2 := by decide +kernel
theorem dX3_last_0 : decode cX3_last 0 = .ok (.iload_n 2, 1) := by decide +kernel
theorem dX3_last_1 : decode cX3_last 1 = .ok (.ifCond .eq 12, 3) := by decide +kernel
theorem dX3_last_4 : decode cX3_last 4 = .ok (.aload_n 0, 1) := by decide +kernel
theorem dX3_last_5 : decode cX3_last 5 = .ok (.getfield 26, 3) := by decide +kernel
theorem dX3_last_8 : decode cX3_last 8 = .ok (.iload_n 1, 1) := by decide +kernel
theorem dX3_last_9 : decode cX3_last 9 = .ok (.iaload, 1) := by decide +kernel
theorem dX3_last_10 : decode cX3_last 10 = .ok (.goto 9, 3) := by decide +kernel
theorem dX3_last_13 : decode cX3_last 13 = .ok (.aload_n 0, 1) := by decide +kernel
theorem dX3_last_14 : decode cX3_last 14 = .ok (.getfield 23, 3) := by decide +kernel
theorem dX3_last_17 : decode cX3_last 17 = .ok (.iload_n 1, 1) := by decide +kernel
theorem dX3_last_18 : decode cX3_last 18 = .ok (.iaload, 1) := by decide +kernel
theorem dX3_last_19 : decode cX3_last 19 = .ok (.ireturn, 1) := by decide +kernel
abbrev cX3_become : ByteArray := prog_5_method_17_code
abbrev yX3_become : MethodName := ⟨"RangeReadersModel", "become", "(IZII)I"⟩
theorem hd_X3_become : (yX3_become).cls ≠ "java/lang/invoke/MethodHandle" ∧ (yX3_become).cls ≠ "java/lang/invoke/VarHandle" ∧ (parseMethodDescriptor (yX3_become).desc).map (fun d => d.parameters.length) = some 4 := by decide +kernel
theorem dX3_become_0 : decode cX3_become 0 = .ok (.iload_n 2, 1) := by decide +kernel
theorem dX3_become_1 : decode cX3_become 1 = .ok (.ifCond .eq 32, 3) := by decide +kernel
theorem dX3_become_4 : decode cX3_become 4 = .ok (.aload_n 0, 1) := by decide +kernel
theorem dX3_become_5 : decode cX3_become 5 = .ok (.getfield 20, 3) := by decide +kernel
theorem dX3_become_8 : decode cX3_become 8 = .ok (.iload_n 1, 1) := by decide +kernel
theorem dX3_become_9 : decode cX3_become 9 = .ok (.iaload, 1) := by decide +kernel
theorem dX3_become_10 : decode cX3_become 10 = .ok (.iload_n 3, 1) := by decide +kernel
theorem dX3_become_11 : decode cX3_become 11 = .ok (.if_icmp .ne 18, 3) := by decide +kernel
theorem dX3_become_14 : decode cX3_become 14 = .ok (.aload_n 0, 1) := by decide +kernel
theorem dX3_become_15 : decode cX3_become 15 = .ok (.getfield 26, 3) := by decide +kernel
theorem dX3_become_18 : decode cX3_become 18 = .ok (.iload_n 1, 1) := by decide +kernel
theorem dX3_become_19 : decode cX3_become 19 = .ok (.iaload, 1) := by decide +kernel
theorem dX3_become_20 : decode cX3_become 20 = .ok (.iload 4, 2) := by decide +kernel
theorem dX3_become_22 : decode cX3_become 22 = .ok (.if_icmp .ne 7, 3) := by decide +kernel
theorem dX3_become_25 : decode cX3_become 25 = .ok (.iconst 1, 1) := by decide +kernel
theorem dX3_become_26 : decode cX3_become 26 = .ok (.goto 33, 3) := by decide +kernel
theorem dX3_become_29 : decode cX3_become 29 = .ok (.iconst 0, 1) := by decide +kernel
theorem dX3_become_30 : decode cX3_become 30 = .ok (.goto 29, 3) := by decide +kernel
theorem dX3_become_33 : decode cX3_become 33 = .ok (.aload_n 0, 1) := by decide +kernel
theorem dX3_become_34 : decode cX3_become 34 = .ok (.getfield 17, 3) := by decide +kernel
theorem dX3_become_37 : decode cX3_become 37 = .ok (.iload_n 1, 1) := by decide +kernel
theorem dX3_become_38 : decode cX3_become 38 = .ok (.iaload, 1) := by decide +kernel
theorem dX3_become_39 : decode cX3_become 39 = .ok (.iload_n 3, 1) := by decide +kernel
theorem dX3_become_40 : decode cX3_become 40 = .ok (.if_icmp .ne 18, 3) := by decide +kernel
theorem dX3_become_43 : decode cX3_become 43 = .ok (.aload_n 0, 1) := by decide +kernel
theorem dX3_become_44 : decode cX3_become 44 = .ok (.getfield 23, 3) := by decide +kernel
theorem dX3_become_47 : decode cX3_become 47 = .ok (.iload_n 1, 1) := by decide +kernel
theorem dX3_become_48 : decode cX3_become 48 = .ok (.iaload, 1) := by decide +kernel
theorem dX3_become_49 : decode cX3_become 49 = .ok (.iload 4, 2) := by decide +kernel
theorem dX3_become_51 : decode cX3_become 51 = .ok (.if_icmp .ne 7, 3) := by decide +kernel
theorem dX3_become_54 : decode cX3_become 54 = .ok (.iconst 1, 1) := by decide +kernel
theorem dX3_become_55 : decode cX3_become 55 = .ok (.goto 4, 3) := by decide +kernel
theorem dX3_become_58 : decode cX3_become 58 = .ok (.iconst 0, 1) := by decide +kernel
theorem dX3_become_59 : decode cX3_become 59 = .ok (.istore 5, 2) := by decide +kernel
theorem dX3_become_61 : decode cX3_become 61 = .ok (.iload_n 2, 1) := by decide +kernel
theorem dX3_become_62 : decode cX3_become 62 = .ok (.ifCond .eq 21, 3) := by decide +kernel
theorem dX3_become_65 : decode cX3_become 65 = .ok (.aload_n 0, 1) := by decide +kernel
theorem dX3_become_66 : decode cX3_become 66 = .ok (.getfield 20, 3) := by decide +kernel
theorem dX3_become_69 : decode cX3_become 69 = .ok (.iload_n 1, 1) := by decide +kernel
theorem dX3_become_70 : decode cX3_become 70 = .ok (.iload_n 3, 1) := by decide +kernel
theorem dX3_become_71 : decode cX3_become 71 = .ok (.iastore, 1) := by decide +kernel
theorem dX3_become_72 : decode cX3_become 72 = .ok (.aload_n 0, 1) := by decide +kernel
theorem dX3_become_73 : decode cX3_become 73 = .ok (.getfield 26, 3) := by decide +kernel
theorem dX3_become_76 : decode cX3_become 76 = .ok (.iload_n 1, 1) := by decide +kernel
theorem dX3_become_77 : decode cX3_become 77 = .ok (.iload 4, 2) := by decide +kernel
theorem dX3_become_79 : decode cX3_become 79 = .ok (.iastore, 1) := by decide +kernel
theorem dX3_become_80 : decode cX3_become 80 = .ok (.goto 18, 3) := by decide +kernel
theorem dX3_become_83 : decode cX3_become 83 = .ok (.aload_n 0, 1) := by decide +kernel
theorem dX3_become_84 : decode cX3_become 84 = .ok (.getfield 17, 3) := by decide +kernel
theorem dX3_become_87 : decode cX3_become 87 = .ok (.iload_n 1, 1) := by decide +kernel
theorem dX3_become_88 : decode cX3_become 88 = .ok (.iload_n 3, 1) := by decide +kernel
theorem dX3_become_89 : decode cX3_become 89 = .ok (.iastore, 1) := by decide +kernel
theorem dX3_become_90 : decode cX3_become 90 = .ok (.aload_n 0, 1) := by decide +kernel
theorem dX3_become_91 : decode cX3_become 91 = .ok (.getfield 23, 3) := by decide +kernel
theorem dX3_become_94 : decode cX3_become 94 = .ok (.iload_n 1, 1) := by decide +kernel
theorem dX3_become_95 : decode cX3_become 95 = .ok (.iload 4, 2) := by decide +kernel
theorem dX3_become_97 : decode cX3_become 97 = .ok (.iastore, 1) := by decide +kernel
theorem dX3_become_98 : decode cX3_become 98 = .ok (.iload_n 3, 1) := by decide +kernel
theorem dX3_become_99 : decode cX3_become 99 = .ok (.iload 4, 2) := by decide +kernel
theorem dX3_become_101 : decode cX3_become 101 = .ok (.if_icmp .le 8, 3) := by decide +kernel
theorem dX3_become_104 : decode cX3_become 104 = .ok (.aload_n 0, 1) := by decide +kernel
theorem dX3_become_105 : decode cX3_become 105 = .ok (.iload_n 1, 1) := by decide +kernel
theorem dX3_become_106 : decode cX3_become 106 = .ok (.invokevirtual 70, 3) := by decide +kernel
theorem dX3_become_109 : decode cX3_become 109 = .ok (.iload 5, 2) := by decide +kernel
theorem dX3_become_111 : decode cX3_become 111 = .ok (.ifCond .eq 7, 3) := by decide +kernel
theorem dX3_become_114 : decode cX3_become 114 = .ok (.iconst 0, 1) := by decide +kernel
theorem dX3_become_115 : decode cX3_become 115 = .ok (.goto 4, 3) := by decide +kernel
theorem dX3_become_118 : decode cX3_become 118 = .ok (.iconst 1, 1) := by decide +kernel
theorem dX3_become_119 : decode cX3_become 119 = .ok (.ireturn, 1) := by decide +kernel
abbrev cX3_delete : ByteArray := prog_5_method_24_code
abbrev yX3_delete : MethodName := ⟨"RangeReadersModel", "delete", "(IZII)I"⟩
theorem hd_X3_delete : (yX3_delete).cls ≠ "java/lang/invoke/MethodHandle" ∧ (yX3_delete).cls ≠ "java/lang/invoke/VarHandle" ∧ (parseMethodDescriptor (yX3_delete).desc).map (fun d => d.parameters.length) = some 4 := by decide +kernel
theorem dX3_delete_0 : decode cX3_delete 0 = .ok (.aload_n 0, 1) := by decide +kernel
theorem dX3_delete_1 : decode cX3_delete 1 = .ok (.aload_n 0, 1) := by decide +kernel
theorem dX3_delete_2 : decode cX3_delete 2 = .ok (.iload_n 1, 1) := by decide +kernel
theorem dX3_delete_3 : decode cX3_delete 3 = .ok (.iload_n 2, 1) := by decide +kernel
theorem dX3_delete_4 : decode cX3_delete 4 = .ok (.iload_n 3, 1) := by decide +kernel
theorem dX3_delete_5 : decode cX3_delete 5 = .ok (.iload 4, 2) := by decide +kernel
theorem dX3_delete_7 : decode cX3_delete 7 = .ok (.invokevirtual 96, 3) := by decide +kernel
theorem dX3_delete_10 : decode cX3_delete 10 = .ok (.ifCond .eq 7, 3) := by decide +kernel
theorem dX3_delete_13 : decode cX3_delete 13 = .ok (.iconst 0, 1) := by decide +kernel
theorem dX3_delete_14 : decode cX3_delete 14 = .ok (.goto 4, 3) := by decide +kernel
theorem dX3_delete_17 : decode cX3_delete 17 = .ok (.iconst 1, 1) := by decide +kernel
theorem dX3_delete_18 : decode cX3_delete 18 = .ok (.putfield 35, 3) := by decide +kernel
theorem dX3_delete_21 : decode cX3_delete 21 = .ok (.iload_n 3, 1) := by decide +kernel
theorem dX3_delete_22 : decode cX3_delete 22 = .ok (.iload 4, 2) := by decide +kernel
theorem dX3_delete_24 : decode cX3_delete 24 = .ok (.iadd, 1) := by decide +kernel
theorem dX3_delete_25 : decode cX3_delete 25 = .ok (.istore 5, 2) := by decide +kernel
theorem dX3_delete_27 : decode cX3_delete 27 = .ok (.iconst 0, 1) := by decide +kernel
theorem dX3_delete_28 : decode cX3_delete 28 = .ok (.istore 6, 2) := by decide +kernel
theorem dX3_delete_30 : decode cX3_delete 30 = .ok (.iconst 0, 1) := by decide +kernel
theorem dX3_delete_31 : decode cX3_delete 31 = .ok (.istore 7, 2) := by decide +kernel
theorem dX3_delete_33 : decode cX3_delete 33 = .ok (.iload 7, 2) := by decide +kernel
theorem dX3_delete_35 : decode cX3_delete 35 = .ok (.sipush 4096, 3) := by decide +kernel
theorem dX3_delete_38 : decode cX3_delete 38 = .ok (.if_icmp .ge 124, 3) := by decide +kernel
theorem dX3_delete_41 : decode cX3_delete 41 = .ok (.aload_n 0, 1) := by decide +kernel
theorem dX3_delete_42 : decode cX3_delete 42 = .ok (.getfield 35, 3) := by decide +kernel
theorem dX3_delete_45 : decode cX3_delete 45 = .ok (.ifCond .ne 117, 3) := by decide +kernel
theorem dX3_delete_48 : decode cX3_delete 48 = .ok (.aload_n 0, 1) := by decide +kernel
theorem dX3_delete_49 : decode cX3_delete 49 = .ok (.iload 7, 2) := by decide +kernel
theorem dX3_delete_51 : decode cX3_delete 51 = .ok (.iload_n 1, 1) := by decide +kernel
theorem dX3_delete_52 : decode cX3_delete 52 = .ok (.iload_n 2, 1) := by decide +kernel
theorem dX3_delete_53 : decode cX3_delete 53 = .ok (.invokevirtual 100, 3) := by decide +kernel
theorem dX3_delete_56 : decode cX3_delete 56 = .ok (.ifCond .ne 6, 3) := by decide +kernel
theorem dX3_delete_59 : decode cX3_delete 59 = .ok (.goto 97, 3) := by decide +kernel
theorem dX3_delete_62 : decode cX3_delete 62 = .ok (.aload_n 0, 1) := by decide +kernel
theorem dX3_delete_63 : decode cX3_delete 63 = .ok (.iload 7, 2) := by decide +kernel
theorem dX3_delete_65 : decode cX3_delete 65 = .ok (.iload_n 2, 1) := by decide +kernel
theorem dX3_delete_66 : decode cX3_delete 66 = .ok (.invokevirtual 89, 3) := by decide +kernel
theorem dX3_delete_69 : decode cX3_delete 69 = .ok (.istore 8, 2) := by decide +kernel
theorem dX3_delete_71 : decode cX3_delete 71 = .ok (.aload_n 0, 1) := by decide +kernel
theorem dX3_delete_72 : decode cX3_delete 72 = .ok (.iload 7, 2) := by decide +kernel
theorem dX3_delete_74 : decode cX3_delete 74 = .ok (.iload_n 2, 1) := by decide +kernel
theorem dX3_delete_75 : decode cX3_delete 75 = .ok (.invokevirtual 93, 3) := by decide +kernel
theorem dX3_delete_78 : decode cX3_delete 78 = .ok (.istore 9, 2) := by decide +kernel
theorem dX3_delete_80 : decode cX3_delete 80 = .ok (.iload 8, 2) := by decide +kernel
theorem dX3_delete_82 : decode cX3_delete 82 = .ok (.iload_n 3, 1) := by decide +kernel
theorem dX3_delete_83 : decode cX3_delete 83 = .ok (.if_icmp .ge 8, 3) := by decide +kernel
theorem dX3_delete_86 : decode cX3_delete 86 = .ok (.iload 8, 2) := by decide +kernel
theorem dX3_delete_88 : decode cX3_delete 88 = .ok (.goto 19, 3) := by decide +kernel
theorem dX3_delete_91 : decode cX3_delete 91 = .ok (.iload 8, 2) := by decide +kernel
theorem dX3_delete_93 : decode cX3_delete 93 = .ok (.iload 5, 2) := by decide +kernel
theorem dX3_delete_95 : decode cX3_delete 95 = .ok (.if_icmp .ge 7, 3) := by decide +kernel
theorem dX3_delete_98 : decode cX3_delete 98 = .ok (.iload_n 3, 1) := by decide +kernel
theorem dX3_delete_99 : decode cX3_delete 99 = .ok (.goto 8, 3) := by decide +kernel
theorem dX3_delete_102 : decode cX3_delete 102 = .ok (.iload 8, 2) := by decide +kernel
theorem dX3_delete_104 : decode cX3_delete 104 = .ok (.iload 4, 2) := by decide +kernel
theorem dX3_delete_106 : decode cX3_delete 106 = .ok (.isub, 1) := by decide +kernel
theorem dX3_delete_107 : decode cX3_delete 107 = .ok (.istore 8, 2) := by decide +kernel
theorem dX3_delete_109 : decode cX3_delete 109 = .ok (.iload 9, 2) := by decide +kernel
theorem dX3_delete_111 : decode cX3_delete 111 = .ok (.iload_n 3, 1) := by decide +kernel
theorem dX3_delete_112 : decode cX3_delete 112 = .ok (.if_icmp .ge 8, 3) := by decide +kernel
theorem dX3_delete_115 : decode cX3_delete 115 = .ok (.iload 9, 2) := by decide +kernel
theorem dX3_delete_117 : decode cX3_delete 117 = .ok (.goto 21, 3) := by decide +kernel
theorem dX3_delete_120 : decode cX3_delete 120 = .ok (.iload 9, 2) := by decide +kernel
theorem dX3_delete_122 : decode cX3_delete 122 = .ok (.iload 5, 2) := by decide +kernel
theorem dX3_delete_124 : decode cX3_delete 124 = .ok (.if_icmp .ge 9, 3) := by decide +kernel
theorem dX3_delete_127 : decode cX3_delete 127 = .ok (.iload_n 3, 1) := by decide +kernel
theorem dX3_delete_128 : decode cX3_delete 128 = .ok (.iconst 1, 1) := by decide +kernel
theorem dX3_delete_129 : decode cX3_delete 129 = .ok (.isub, 1) := by decide +kernel
theorem dX3_delete_130 : decode cX3_delete 130 = .ok (.goto 8, 3) := by decide +kernel
theorem dX3_delete_133 : decode cX3_delete 133 = .ok (.iload 9, 2) := by decide +kernel
theorem dX3_delete_135 : decode cX3_delete 135 = .ok (.iload 4, 2) := by decide +kernel
theorem dX3_delete_137 : decode cX3_delete 137 = .ok (.isub, 1) := by decide +kernel
theorem dX3_delete_138 : decode cX3_delete 138 = .ok (.istore 9, 2) := by decide +kernel
theorem dX3_delete_140 : decode cX3_delete 140 = .ok (.iload 6, 2) := by decide +kernel
theorem dX3_delete_142 : decode cX3_delete 142 = .ok (.aload_n 0, 1) := by decide +kernel
theorem dX3_delete_143 : decode cX3_delete 143 = .ok (.iload 7, 2) := by decide +kernel
theorem dX3_delete_145 : decode cX3_delete 145 = .ok (.iload_n 2, 1) := by decide +kernel
theorem dX3_delete_146 : decode cX3_delete 146 = .ok (.iload 8, 2) := by decide +kernel
theorem dX3_delete_148 : decode cX3_delete 148 = .ok (.iload 9, 2) := by decide +kernel
theorem dX3_delete_150 : decode cX3_delete 150 = .ok (.invokevirtual 104, 3) := by decide +kernel
theorem dX3_delete_153 : decode cX3_delete 153 = .ok (.iadd, 1) := by decide +kernel
theorem dX3_delete_154 : decode cX3_delete 154 = .ok (.istore 6, 2) := by decide +kernel
theorem dX3_delete_156 : decode cX3_delete 156 = .ok (.iinc 7 1, 3) := by decide +kernel
theorem dX3_delete_159 : decode cX3_delete 159 = .ok (.goto (-126), 3) := by decide +kernel
theorem dX3_delete_162 : decode cX3_delete 162 = .ok (.iload 6, 2) := by decide +kernel
theorem dX3_delete_164 : decode cX3_delete 164 = .ok (.ireturn, 1) := by decide +kernel
abbrev cX3_move : ByteArray := prog_5_method_26_code
abbrev yX3_move : MethodName := ⟨"RangeReadersModel", "move", "(III)I"⟩
theorem hd_X3_move : (yX3_move).cls ≠ "java/lang/invoke/MethodHandle" ∧ (yX3_move).cls ≠ "java/lang/invoke/VarHandle" ∧ (parseMethodDescriptor (yX3_move).desc).map (fun d => d.parameters.length) = some 3 := by decide +kernel
theorem dX3_move_0 : decode cX3_move 0 = .ok (.iload_n 1, 1) := by decide +kernel
theorem dX3_move_1 : decode cX3_move 1 = .ok (.iconst 0, 1) := by decide +kernel
theorem dX3_move_2 : decode cX3_move 2 = .ok (.bipush 7, 2) := by decide +kernel
theorem dX3_move_4 : decode cX3_move 4 = .ok (.invokestatic 39, 3) := by decide +kernel
theorem dX3_move_7 : decode cX3_move 7 = .ok (.ifCond .eq 28, 3) := by decide +kernel
theorem dX3_move_10 : decode cX3_move 10 = .ok (.iload_n 2, 1) := by decide +kernel
theorem dX3_move_11 : decode cX3_move 11 = .ok (.iconst 1, 1) := by decide +kernel
theorem dX3_move_12 : decode cX3_move 12 = .ok (.ldc 43, 2) := by decide +kernel
theorem dX3_move_14 : decode cX3_move 14 = .ok (.invokestatic 39, 3) := by decide +kernel
theorem dX3_move_17 : decode cX3_move 17 = .ok (.ifCond .eq 18, 3) := by decide +kernel
theorem dX3_move_20 : decode cX3_move 20 = .ok (.iload_n 3, 1) := by decide +kernel
theorem dX3_move_21 : decode cX3_move 21 = .ok (.iconst 1, 1) := by decide +kernel
theorem dX3_move_22 : decode cX3_move 22 = .ok (.sipush 16384, 3) := by decide +kernel
theorem dX3_move_25 : decode cX3_move 25 = .ok (.invokestatic 39, 3) := by decide +kernel
theorem dX3_move_28 : decode cX3_move 28 = .ok (.ifCond .eq 7, 3) := by decide +kernel
theorem dX3_move_31 : decode cX3_move 31 = .ok (.iconst 1, 1) := by decide +kernel
theorem dX3_move_32 : decode cX3_move 32 = .ok (.goto 4, 3) := by decide +kernel
theorem dX3_move_35 : decode cX3_move 35 = .ok (.iconst 0, 1) := by decide +kernel
theorem dX3_move_36 : decode cX3_move 36 = .ok (.istore 4, 2) := by decide +kernel
theorem dX3_move_38 : decode cX3_move 38 = .ok (.iload_n 2, 1) := by decide +kernel
theorem dX3_move_39 : decode cX3_move 39 = .ok (.aload_n 0, 1) := by decide +kernel
theorem dX3_move_40 : decode cX3_move 40 = .ok (.getfield 47, 3) := by decide +kernel
theorem dX3_move_43 : decode cX3_move 43 = .ok (.isub, 1) := by decide +kernel
theorem dX3_move_44 : decode cX3_move 44 = .ok (.istore 5, 2) := by decide +kernel
theorem dX3_move_46 : decode cX3_move 46 = .ok (.iload_n 3, 1) := by decide +kernel
theorem dX3_move_47 : decode cX3_move 47 = .ok (.aload_n 0, 1) := by decide +kernel
theorem dX3_move_48 : decode cX3_move 48 = .ok (.getfield 50, 3) := by decide +kernel
theorem dX3_move_51 : decode cX3_move 51 = .ok (.isub, 1) := by decide +kernel
theorem dX3_move_52 : decode cX3_move 52 = .ok (.istore 6, 2) := by decide +kernel
theorem dX3_move_54 : decode cX3_move 54 = .ok (.aload_n 0, 1) := by decide +kernel
theorem dX3_move_55 : decode cX3_move 55 = .ok (.getfield 53, 3) := by decide +kernel
theorem dX3_move_58 : decode cX3_move 58 = .ok (.iload 5, 2) := by decide +kernel
theorem dX3_move_60 : decode cX3_move 60 = .ok (.iadd, 1) := by decide +kernel
theorem dX3_move_61 : decode cX3_move 61 = .ok (.ldc 43, 2) := by decide +kernel
theorem dX3_move_63 : decode cX3_move 63 = .ok (.if_icmp .gt 20, 3) := by decide +kernel
theorem dX3_move_66 : decode cX3_move 66 = .ok (.aload_n 0, 1) := by decide +kernel
theorem dX3_move_67 : decode cX3_move 67 = .ok (.getfield 56, 3) := by decide +kernel
theorem dX3_move_70 : decode cX3_move 70 = .ok (.iload 6, 2) := by decide +kernel
theorem dX3_move_72 : decode cX3_move 72 = .ok (.iadd, 1) := by decide +kernel
theorem dX3_move_73 : decode cX3_move 73 = .ok (.sipush 16384, 3) := by decide +kernel
theorem dX3_move_76 : decode cX3_move 76 = .ok (.if_icmp .gt 7, 3) := by decide +kernel
theorem dX3_move_79 : decode cX3_move 79 = .ok (.iconst 1, 1) := by decide +kernel
theorem dX3_move_80 : decode cX3_move 80 = .ok (.goto 4, 3) := by decide +kernel
theorem dX3_move_83 : decode cX3_move 83 = .ok (.iconst 0, 1) := by decide +kernel
theorem dX3_move_84 : decode cX3_move 84 = .ok (.istore 7, 2) := by decide +kernel
theorem dX3_move_86 : decode cX3_move 86 = .ok (.aload_n 0, 1) := by decide +kernel
theorem dX3_move_87 : decode cX3_move 87 = .ok (.iload 4, 2) := by decide +kernel
theorem dX3_move_89 : decode cX3_move 89 = .ok (.ifCond .eq 15, 3) := by decide +kernel
theorem dX3_move_92 : decode cX3_move 92 = .ok (.aload_n 0, 1) := by decide +kernel
theorem dX3_move_93 : decode cX3_move 93 = .ok (.getfield 59, 3) := by decide +kernel
theorem dX3_move_96 : decode cX3_move 96 = .ok (.ifCond .eq 12, 3) := by decide +kernel
theorem dX3_move_99 : decode cX3_move 99 = .ok (.iload 7, 2) := by decide +kernel
theorem dX3_move_101 : decode cX3_move 101 = .ok (.ifCond .ne 7, 3) := by decide +kernel
theorem dX3_move_104 : decode cX3_move 104 = .ok (.iconst 1, 1) := by decide +kernel
theorem dX3_move_105 : decode cX3_move 105 = .ok (.goto 15, 3) := by decide +kernel
theorem dX3_move_108 : decode cX3_move 108 = .ok (.aload_n 0, 1) := by decide +kernel
theorem dX3_move_109 : decode cX3_move 109 = .ok (.getfield 59, 3) := by decide +kernel
theorem dX3_move_112 : decode cX3_move 112 = .ok (.ifCond .ne 7, 3) := by decide +kernel
theorem dX3_move_115 : decode cX3_move 115 = .ok (.iconst 2, 1) := by decide +kernel
theorem dX3_move_116 : decode cX3_move 116 = .ok (.goto 4, 3) := by decide +kernel
theorem dX3_move_119 : decode cX3_move 119 = .ok (.iconst 0, 1) := by decide +kernel
theorem dX3_move_120 : decode cX3_move 120 = .ok (.putfield 35, 3) := by decide +kernel
theorem dX3_move_123 : decode cX3_move 123 = .ok (.aload_n 0, 1) := by decide +kernel
theorem dX3_move_124 : decode cX3_move 124 = .ok (.getfield 35, 3) := by decide +kernel
theorem dX3_move_127 : decode cX3_move 127 = .ok (.ifCond .eq 5, 3) := by decide +kernel
theorem dX3_move_130 : decode cX3_move 130 = .ok (.iconst 0, 1) := by decide +kernel
theorem dX3_move_131 : decode cX3_move 131 = .ok (.ireturn, 1) := by decide +kernel
theorem dX3_move_132 : decode cX3_move 132 = .ok (.iconst 0, 1) := by decide +kernel
theorem dX3_move_133 : decode cX3_move 133 = .ok (.istore 8, 2) := by decide +kernel
theorem dX3_move_135 : decode cX3_move 135 = .ok (.iconst 0, 1) := by decide +kernel
theorem dX3_move_136 : decode cX3_move 136 = .ok (.istore 9, 2) := by decide +kernel
theorem dX3_move_138 : decode cX3_move 138 = .ok (.iload 9, 2) := by decide +kernel
theorem dX3_move_140 : decode cX3_move 140 = .ok (.sipush 4096, 3) := by decide +kernel
theorem dX3_move_143 : decode cX3_move 143 = .ok (.if_icmp .ge 162, 3) := by decide +kernel
theorem dX3_move_146 : decode cX3_move 146 = .ok (.aload_n 0, 1) := by decide +kernel
theorem dX3_move_147 : decode cX3_move 147 = .ok (.iload 9, 2) := by decide +kernel
theorem dX3_move_149 : decode cX3_move 149 = .ok (.aload_n 0, 1) := by decide +kernel
theorem dX3_move_150 : decode cX3_move 150 = .ok (.getfield 44, 3) := by decide +kernel
theorem dX3_move_153 : decode cX3_move 153 = .ok (.aload_n 0, 1) := by decide +kernel
theorem dX3_move_154 : decode cX3_move 154 = .ok (.getfield 47, 3) := by decide +kernel
theorem dX3_move_157 : decode cX3_move 157 = .ok (.aload_n 0, 1) := by decide +kernel
theorem dX3_move_158 : decode cX3_move 158 = .ok (.getfield 50, 3) := by decide +kernel
theorem dX3_move_161 : decode cX3_move 161 = .ok (.aload_n 0, 1) := by decide +kernel
theorem dX3_move_162 : decode cX3_move 162 = .ok (.getfield 53, 3) := by decide +kernel
theorem dX3_move_165 : decode cX3_move 165 = .ok (.aload_n 0, 1) := by decide +kernel
theorem dX3_move_166 : decode cX3_move 166 = .ok (.getfield 56, 3) := by decide +kernel
theorem dX3_move_169 : decode cX3_move 169 = .ok (.invokevirtual 108, 3) := by decide +kernel
theorem dX3_move_172 : decode cX3_move 172 = .ok (.istore 10, 2) := by decide +kernel
theorem dX3_move_174 : decode cX3_move 174 = .ok (.iload 10, 2) := by decide +kernel
theorem dX3_move_176 : decode cX3_move 176 = .ok (.ifCond .ne 38, 3) := by decide +kernel
theorem dX3_move_179 : decode cX3_move 179 = .ok (.aload_n 0, 1) := by decide +kernel
theorem dX3_move_180 : decode cX3_move 180 = .ok (.iload 9, 2) := by decide +kernel
theorem dX3_move_182 : decode cX3_move 182 = .ok (.iload_n 1, 1) := by decide +kernel
theorem dX3_move_183 : decode cX3_move 183 = .ok (.iload_n 2, 1) := by decide +kernel
theorem dX3_move_184 : decode cX3_move 184 = .ok (.iload_n 3, 1) := by decide +kernel
theorem dX3_move_185 : decode cX3_move 185 = .ok (.aload_n 0, 1) := by decide +kernel
theorem dX3_move_186 : decode cX3_move 186 = .ok (.getfield 53, 3) := by decide +kernel
theorem dX3_move_189 : decode cX3_move 189 = .ok (.iload 5, 2) := by decide +kernel
theorem dX3_move_191 : decode cX3_move 191 = .ok (.iadd, 1) := by decide +kernel
theorem dX3_move_192 : decode cX3_move 192 = .ok (.aload_n 0, 1) := by decide +kernel
theorem dX3_move_193 : decode cX3_move 193 = .ok (.getfield 56, 3) := by decide +kernel
theorem dX3_move_196 : decode cX3_move 196 = .ok (.iload 6, 2) := by decide +kernel
theorem dX3_move_198 : decode cX3_move 198 = .ok (.iadd, 1) := by decide +kernel
theorem dX3_move_199 : decode cX3_move 199 = .ok (.invokevirtual 108, 3) := by decide +kernel
theorem dX3_move_202 : decode cX3_move 202 = .ok (.ifCond .eq 12, 3) := by decide +kernel
theorem dX3_move_205 : decode cX3_move 205 = .ok (.aload_n 0, 1) := by decide +kernel
theorem dX3_move_206 : decode cX3_move 206 = .ok (.iload 9, 2) := by decide +kernel
theorem dX3_move_208 : decode cX3_move 208 = .ok (.invokevirtual 70, 3) := by decide +kernel
theorem dX3_move_211 : decode cX3_move 211 = .ok (.iinc 8 1, 3) := by decide +kernel
theorem dX3_move_214 : decode cX3_move 214 = .ok (.iload 10, 2) := by decide +kernel
theorem dX3_move_216 : decode cX3_move 216 = .ok (.ifCond .eq 83, 3) := by decide +kernel
theorem dX3_move_219 : decode cX3_move 219 = .ok (.iload_n 1, 1) := by decide +kernel
theorem dX3_move_220 : decode cX3_move 220 = .ok (.aload_n 0, 1) := by decide +kernel
theorem dX3_move_221 : decode cX3_move 221 = .ok (.getfield 44, 3) := by decide +kernel
theorem dX3_move_224 : decode cX3_move 224 = .ok (.if_icmp .ne 16, 3) := by decide +kernel
theorem dX3_move_227 : decode cX3_move 227 = .ok (.iload 5, 2) := by decide +kernel
theorem dX3_move_229 : decode cX3_move 229 = .ok (.ifCond .ne 11, 3) := by decide +kernel
theorem dX3_move_232 : decode cX3_move 232 = .ok (.iload 6, 2) := by decide +kernel
theorem dX3_move_234 : decode cX3_move 234 = .ok (.ifCond .ne 6, 3) := by decide +kernel
theorem dX3_move_237 : decode cX3_move 237 = .ok (.goto 62, 3) := by decide +kernel
theorem dX3_move_240 : decode cX3_move 240 = .ok (.aload_n 0, 1) := by decide +kernel
theorem dX3_move_241 : decode cX3_move 241 = .ok (.getfield 13, 3) := by decide +kernel
theorem dX3_move_244 : decode cX3_move 244 = .ok (.iload 9, 2) := by decide +kernel
theorem dX3_move_246 : decode cX3_move 246 = .ok (.iload_n 1, 1) := by decide +kernel
theorem dX3_move_247 : decode cX3_move 247 = .ok (.iastore, 1) := by decide +kernel
theorem dX3_move_248 : decode cX3_move 248 = .ok (.aload_n 0, 1) := by decide +kernel
theorem dX3_move_249 : decode cX3_move 249 = .ok (.getfield 17, 3) := by decide +kernel
theorem dX3_move_252 : decode cX3_move 252 = .ok (.iload 9, 2) := by decide +kernel
theorem dX3_move_254 : decode cX3_move 254 = .ok (.dup2, 1) := by decide +kernel
theorem dX3_move_255 : decode cX3_move 255 = .ok (.iaload, 1) := by decide +kernel
theorem dX3_move_256 : decode cX3_move 256 = .ok (.iload 5, 2) := by decide +kernel
theorem dX3_move_258 : decode cX3_move 258 = .ok (.iadd, 1) := by decide +kernel
theorem dX3_move_259 : decode cX3_move 259 = .ok (.iastore, 1) := by decide +kernel
theorem dX3_move_260 : decode cX3_move 260 = .ok (.aload_n 0, 1) := by decide +kernel
theorem dX3_move_261 : decode cX3_move 261 = .ok (.getfield 23, 3) := by decide +kernel
theorem dX3_move_264 : decode cX3_move 264 = .ok (.iload 9, 2) := by decide +kernel
theorem dX3_move_266 : decode cX3_move 266 = .ok (.dup2, 1) := by decide +kernel
theorem dX3_move_267 : decode cX3_move 267 = .ok (.iaload, 1) := by decide +kernel
theorem dX3_move_268 : decode cX3_move 268 = .ok (.iload 5, 2) := by decide +kernel
theorem dX3_move_270 : decode cX3_move 270 = .ok (.iadd, 1) := by decide +kernel
theorem dX3_move_271 : decode cX3_move 271 = .ok (.iastore, 1) := by decide +kernel
theorem dX3_move_272 : decode cX3_move 272 = .ok (.aload_n 0, 1) := by decide +kernel
theorem dX3_move_273 : decode cX3_move 273 = .ok (.getfield 20, 3) := by decide +kernel
theorem dX3_move_276 : decode cX3_move 276 = .ok (.iload 9, 2) := by decide +kernel
theorem dX3_move_278 : decode cX3_move 278 = .ok (.dup2, 1) := by decide +kernel
theorem dX3_move_279 : decode cX3_move 279 = .ok (.iaload, 1) := by decide +kernel
theorem dX3_move_280 : decode cX3_move 280 = .ok (.iload 6, 2) := by decide +kernel
theorem dX3_move_282 : decode cX3_move 282 = .ok (.iadd, 1) := by decide +kernel
theorem dX3_move_283 : decode cX3_move 283 = .ok (.iastore, 1) := by decide +kernel
theorem dX3_move_284 : decode cX3_move 284 = .ok (.aload_n 0, 1) := by decide +kernel
theorem dX3_move_285 : decode cX3_move 285 = .ok (.getfield 26, 3) := by decide +kernel
theorem dX3_move_288 : decode cX3_move 288 = .ok (.iload 9, 2) := by decide +kernel
theorem dX3_move_290 : decode cX3_move 290 = .ok (.dup2, 1) := by decide +kernel
theorem dX3_move_291 : decode cX3_move 291 = .ok (.iaload, 1) := by decide +kernel
theorem dX3_move_292 : decode cX3_move 292 = .ok (.iload 6, 2) := by decide +kernel
theorem dX3_move_294 : decode cX3_move 294 = .ok (.iadd, 1) := by decide +kernel
theorem dX3_move_295 : decode cX3_move 295 = .ok (.iastore, 1) := by decide +kernel
theorem dX3_move_296 : decode cX3_move 296 = .ok (.iinc 8 1, 3) := by decide +kernel
theorem dX3_move_299 : decode cX3_move 299 = .ok (.iinc 9 1, 3) := by decide +kernel
theorem dX3_move_302 : decode cX3_move 302 = .ok (.goto (-164), 3) := by decide +kernel
theorem dX3_move_305 : decode cX3_move 305 = .ok (.iload 8, 2) := by decide +kernel
theorem dX3_move_307 : decode cX3_move 307 = .ok (.ireturn, 1) := by decide +kernel
abbrev cX3_isIn : ByteArray := prog_5_method_25_code
abbrev yX3_isIn : MethodName := ⟨"RangeReadersModel", "isIn", "(IIIIII)Z"⟩
theorem hd_X3_isIn : (yX3_isIn).cls ≠ "java/lang/invoke/MethodHandle" ∧ (yX3_isIn).cls ≠ "java/lang/invoke/VarHandle" ∧ (parseMethodDescriptor (yX3_isIn).desc).map (fun d => d.parameters.length) = some 6 := by decide +kernel
theorem dX3_isIn_0 : decode cX3_isIn 0 = .ok (.aload_n 0, 1) := by decide +kernel
theorem dX3_isIn_1 : decode cX3_isIn 1 = .ok (.getfield 7, 3) := by decide +kernel
theorem dX3_isIn_4 : decode cX3_isIn 4 = .ok (.iload_n 1, 1) := by decide +kernel
theorem dX3_isIn_5 : decode cX3_isIn 5 = .ok (.baload, 1) := by decide +kernel
theorem dX3_isIn_6 : decode cX3_isIn 6 = .ok (.ifCond .eq 60, 3) := by decide +kernel
theorem dX3_isIn_9 : decode cX3_isIn 9 = .ok (.aload_n 0, 1) := by decide +kernel
theorem dX3_isIn_10 : decode cX3_isIn 10 = .ok (.getfield 13, 3) := by decide +kernel
theorem dX3_isIn_13 : decode cX3_isIn 13 = .ok (.iload_n 1, 1) := by decide +kernel
theorem dX3_isIn_14 : decode cX3_isIn 14 = .ok (.iaload, 1) := by decide +kernel
theorem dX3_isIn_15 : decode cX3_isIn 15 = .ok (.iload_n 2, 1) := by decide +kernel
theorem dX3_isIn_16 : decode cX3_isIn 16 = .ok (.if_icmp .ne 50, 3) := by decide +kernel
theorem dX3_isIn_19 : decode cX3_isIn 19 = .ok (.aload_n 0, 1) := by decide +kernel
theorem dX3_isIn_20 : decode cX3_isIn 20 = .ok (.getfield 17, 3) := by decide +kernel
theorem dX3_isIn_23 : decode cX3_isIn 23 = .ok (.iload_n 1, 1) := by decide +kernel
theorem dX3_isIn_24 : decode cX3_isIn 24 = .ok (.iaload, 1) := by decide +kernel
theorem dX3_isIn_25 : decode cX3_isIn 25 = .ok (.iload_n 3, 1) := by decide +kernel
theorem dX3_isIn_26 : decode cX3_isIn 26 = .ok (.if_icmp .lt 40, 3) := by decide +kernel
theorem dX3_isIn_29 : decode cX3_isIn 29 = .ok (.aload_n 0, 1) := by decide +kernel
theorem dX3_isIn_30 : decode cX3_isIn 30 = .ok (.getfield 23, 3) := by decide +kernel
theorem dX3_isIn_33 : decode cX3_isIn 33 = .ok (.iload_n 1, 1) := by decide +kernel
theorem dX3_isIn_34 : decode cX3_isIn 34 = .ok (.iaload, 1) := by decide +kernel
theorem dX3_isIn_35 : decode cX3_isIn 35 = .ok (.iload 5, 2) := by decide +kernel
theorem dX3_isIn_37 : decode cX3_isIn 37 = .ok (.if_icmp .gt 29, 3) := by decide +kernel
theorem dX3_isIn_40 : decode cX3_isIn 40 = .ok (.aload_n 0, 1) := by decide +kernel
theorem dX3_isIn_41 : decode cX3_isIn 41 = .ok (.getfield 20, 3) := by decide +kernel
theorem dX3_isIn_44 : decode cX3_isIn 44 = .ok (.iload_n 1, 1) := by decide +kernel
theorem dX3_isIn_45 : decode cX3_isIn 45 = .ok (.iaload, 1) := by decide +kernel
theorem dX3_isIn_46 : decode cX3_isIn 46 = .ok (.iload 4, 2) := by decide +kernel
theorem dX3_isIn_48 : decode cX3_isIn 48 = .ok (.if_icmp .lt 18, 3) := by decide +kernel
theorem dX3_isIn_51 : decode cX3_isIn 51 = .ok (.aload_n 0, 1) := by decide +kernel
theorem dX3_isIn_52 : decode cX3_isIn 52 = .ok (.getfield 26, 3) := by decide +kernel
theorem dX3_isIn_55 : decode cX3_isIn 55 = .ok (.iload_n 1, 1) := by decide +kernel
theorem dX3_isIn_56 : decode cX3_isIn 56 = .ok (.iaload, 1) := by decide +kernel
theorem dX3_isIn_57 : decode cX3_isIn 57 = .ok (.iload 6, 2) := by decide +kernel
theorem dX3_isIn_59 : decode cX3_isIn 59 = .ok (.if_icmp .gt 7, 3) := by decide +kernel
theorem dX3_isIn_62 : decode cX3_isIn 62 = .ok (.iconst 1, 1) := by decide +kernel
theorem dX3_isIn_63 : decode cX3_isIn 63 = .ok (.goto 4, 3) := by decide +kernel
theorem dX3_isIn_66 : decode cX3_isIn 66 = .ok (.iconst 0, 1) := by decide +kernel
theorem dX3_isIn_67 : decode cX3_isIn 67 = .ok (.ireturn, 1) := by decide +kernel
end
section
abbrev cL_add : ByteArray := method_3_code
abbrev yL_add : MethodName := ⟨"RangeReadersLaw", "add", "(LRangeReaders;I[J)I"⟩
theorem hd_L_add : (yL_add).cls ≠ "java/lang/invoke/MethodHandle" ∧ (yL_add).cls ≠ "java/lang/invoke/VarHandle" ∧ (parseMethodDescriptor (yL_add).desc).map (fun d => d.parameters.length) = some 3 := by decide +kernel
theorem dL_add_0 : decode cL_add 0 = .ok (.aload_n 2, 1) := by decide +kernel
theorem dL_add_1 : decode cL_add 1 = .ok (.iconst 0, 1) := by decide +kernel
theorem dL_add_2 : decode cL_add 2 = .ok (.aload_n 0, 1) := by decide +kernel
theorem dL_add_3 : decode cL_add 3 = .ok (.iload_n 1, 1) := by decide +kernel
theorem dL_add_4 : decode cL_add 4 = .ok (.invokevirtual 7, 3) := by decide +kernel
theorem dL_add_7 : decode cL_add 7 = .ok (.i2l, 1) := by decide +kernel
theorem dL_add_8 : decode cL_add 8 = .ok (.lastore, 1) := by decide +kernel
theorem dL_add_9 : decode cL_add 9 = .ok (.goto 9, 3) := by decide +kernel
theorem dL_add_12 : decode cL_add 12 = .ok (.astore_n 3, 1) := by decide +kernel
theorem dL_add_13 : decode cL_add 13 = .ok (.iconst 1, 1) := by decide +kernel
theorem dL_add_14 : decode cL_add 14 = .ok (.ireturn, 1) := by decide +kernel
theorem dL_add_15 : decode cL_add 15 = .ok (.astore_n 3, 1) := by decide +kernel
theorem dL_add_16 : decode cL_add 16 = .ok (.iconst 2, 1) := by decide +kernel
theorem dL_add_17 : decode cL_add 17 = .ok (.ireturn, 1) := by decide +kernel
theorem dL_add_18 : decode cL_add 18 = .ok (.iconst 0, 1) := by decide +kernel
theorem dL_add_19 : decode cL_add 19 = .ok (.ireturn, 1) := by decide +kernel
abbrev cL_readers : ByteArray := method_4_code
abbrev yL_readers : MethodName := ⟨"RangeReadersLaw", "readers", "(LRangeReaders;III[J)I"⟩
theorem hd_L_readers : (yL_readers).cls ≠ "java/lang/invoke/MethodHandle" ∧ (yL_readers).cls ≠ "java/lang/invoke/VarHandle" ∧ (parseMethodDescriptor (yL_readers).desc).map (fun d => d.parameters.length) = some 5 := by decide +kernel
theorem dL_readers_0 : decode cL_readers 0 = .ok (.aload 4, 2) := by decide +kernel
theorem dL_readers_2 : decode cL_readers 2 = .ok (.iconst 0, 1) := by decide +kernel
theorem dL_readers_3 : decode cL_readers 3 = .ok (.aload_n 0, 1) := by decide +kernel
theorem dL_readers_4 : decode cL_readers 4 = .ok (.iload_n 1, 1) := by decide +kernel
theorem dL_readers_5 : decode cL_readers 5 = .ok (.iload_n 2, 1) := by decide +kernel
theorem dL_readers_6 : decode cL_readers 6 = .ok (.iload_n 3, 1) := by decide +kernel
theorem dL_readers_7 : decode cL_readers 7 = .ok (.invokevirtual 17, 3) := by decide +kernel
theorem dL_readers_10 : decode cL_readers 10 = .ok (.i2l, 1) := by decide +kernel
theorem dL_readers_11 : decode cL_readers 11 = .ok (.lastore, 1) := by decide +kernel
theorem dL_readers_12 : decode cL_readers 12 = .ok (.goto 7, 3) := by decide +kernel
theorem dL_readers_15 : decode cL_readers 15 = .ok (.astore 5, 2) := by decide +kernel
theorem dL_readers_17 : decode cL_readers 17 = .ok (.iconst 1, 1) := by decide +kernel
theorem dL_readers_18 : decode cL_readers 18 = .ok (.ireturn, 1) := by decide +kernel
theorem dL_readers_19 : decode cL_readers 19 = .ok (.iconst 0, 1) := by decide +kernel
theorem dL_readers_20 : decode cL_readers 20 = .ok (.ireturn, 1) := by decide +kernel
abbrev cL_meet : ByteArray := method_5_code
abbrev yL_meet : MethodName := ⟨"RangeReadersLaw", "meet", "(LRangeReaders;[J)I"⟩
theorem hd_L_meet : (yL_meet).cls ≠ "java/lang/invoke/MethodHandle" ∧ (yL_meet).cls ≠ "java/lang/invoke/VarHandle" ∧ (parseMethodDescriptor (yL_meet).desc).map (fun d => d.parameters.length) = some 2 := by decide +kernel
theorem dL_meet_0 : decode cL_meet 0 = .ok (.aload_n 1, 1) := by decide +kernel
theorem dL_meet_1 : decode cL_meet 1 = .ok (.iconst 0, 1) := by decide +kernel
theorem dL_meet_2 : decode cL_meet 2 = .ok (.aload_n 0, 1) := by decide +kernel
theorem dL_meet_3 : decode cL_meet 3 = .ok (.invokevirtual 21, 3) := by decide +kernel
theorem dL_meet_6 : decode cL_meet 6 = .ok (.i2l, 1) := by decide +kernel
theorem dL_meet_7 : decode cL_meet 7 = .ok (.lastore, 1) := by decide +kernel
theorem dL_meet_8 : decode cL_meet 8 = .ok (.goto 6, 3) := by decide +kernel
theorem dL_meet_11 : decode cL_meet 11 = .ok (.astore_n 2, 1) := by decide +kernel
theorem dL_meet_12 : decode cL_meet 12 = .ok (.iconst 1, 1) := by decide +kernel
theorem dL_meet_13 : decode cL_meet 13 = .ok (.ireturn, 1) := by decide +kernel
theorem dL_meet_14 : decode cL_meet 14 = .ok (.iconst 0, 1) := by decide +kernel
theorem dL_meet_15 : decode cL_meet 15 = .ok (.ireturn, 1) := by decide +kernel
abbrev cL_insert : ByteArray := method_6_code
abbrev yL_insert : MethodName := ⟨"RangeReadersLaw", "insert", "(LRangeReaders;IZII[J)I"⟩
theorem hd_L_insert : (yL_insert).cls ≠ "java/lang/invoke/MethodHandle" ∧ (yL_insert).cls ≠ "java/lang/invoke/VarHandle" ∧ (parseMethodDescriptor (yL_insert).desc).map (fun d => d.parameters.length) = some 6 := by decide +kernel
theorem dL_insert_0 : decode cL_insert 0 = .ok (.aload 5, 2) := by decide +kernel
theorem dL_insert_2 : decode cL_insert 2 = .ok (.iconst 0, 1) := by decide +kernel
theorem dL_insert_3 : decode cL_insert 3 = .ok (.aload_n 0, 1) := by decide +kernel
theorem dL_insert_4 : decode cL_insert 4 = .ok (.iload_n 1, 1) := by decide +kernel
theorem dL_insert_5 : decode cL_insert 5 = .ok (.iload_n 2, 1) := by decide +kernel
theorem dL_insert_6 : decode cL_insert 6 = .ok (.iload_n 3, 1) := by decide +kernel
theorem dL_insert_7 : decode cL_insert 7 = .ok (.iload 4, 2) := by decide +kernel
theorem dL_insert_9 : decode cL_insert 9 = .ok (.invokevirtual 25, 3) := by decide +kernel
theorem dL_insert_12 : decode cL_insert 12 = .ok (.i2l, 1) := by decide +kernel
theorem dL_insert_13 : decode cL_insert 13 = .ok (.lastore, 1) := by decide +kernel
theorem dL_insert_14 : decode cL_insert 14 = .ok (.goto 7, 3) := by decide +kernel
theorem dL_insert_17 : decode cL_insert 17 = .ok (.astore 6, 2) := by decide +kernel
theorem dL_insert_19 : decode cL_insert 19 = .ok (.iconst 1, 1) := by decide +kernel
theorem dL_insert_20 : decode cL_insert 20 = .ok (.ireturn, 1) := by decide +kernel
theorem dL_insert_21 : decode cL_insert 21 = .ok (.iconst 0, 1) := by decide +kernel
theorem dL_insert_22 : decode cL_insert 22 = .ok (.ireturn, 1) := by decide +kernel
abbrev cL_delete : ByteArray := method_7_code
abbrev yL_delete : MethodName := ⟨"RangeReadersLaw", "delete", "(LRangeReaders;IZII[J)I"⟩
theorem hd_L_delete : (yL_delete).cls ≠ "java/lang/invoke/MethodHandle" ∧ (yL_delete).cls ≠ "java/lang/invoke/VarHandle" ∧ (parseMethodDescriptor (yL_delete).desc).map (fun d => d.parameters.length) = some 6 := by decide +kernel
theorem dL_delete_0 : decode cL_delete 0 = .ok (.aload 5, 2) := by decide +kernel
theorem dL_delete_2 : decode cL_delete 2 = .ok (.iconst 0, 1) := by decide +kernel
theorem dL_delete_3 : decode cL_delete 3 = .ok (.aload_n 0, 1) := by decide +kernel
theorem dL_delete_4 : decode cL_delete 4 = .ok (.iload_n 1, 1) := by decide +kernel
theorem dL_delete_5 : decode cL_delete 5 = .ok (.iload_n 2, 1) := by decide +kernel
theorem dL_delete_6 : decode cL_delete 6 = .ok (.iload_n 3, 1) := by decide +kernel
theorem dL_delete_7 : decode cL_delete 7 = .ok (.iload 4, 2) := by decide +kernel
theorem dL_delete_9 : decode cL_delete 9 = .ok (.invokevirtual 29, 3) := by decide +kernel
theorem dL_delete_12 : decode cL_delete 12 = .ok (.i2l, 1) := by decide +kernel
theorem dL_delete_13 : decode cL_delete 13 = .ok (.lastore, 1) := by decide +kernel
theorem dL_delete_14 : decode cL_delete 14 = .ok (.goto 7, 3) := by decide +kernel
theorem dL_delete_17 : decode cL_delete 17 = .ok (.astore 6, 2) := by decide +kernel
theorem dL_delete_19 : decode cL_delete 19 = .ok (.iconst 1, 1) := by decide +kernel
theorem dL_delete_20 : decode cL_delete 20 = .ok (.ireturn, 1) := by decide +kernel
theorem dL_delete_21 : decode cL_delete 21 = .ok (.iconst 0, 1) := by decide +kernel
theorem dL_delete_22 : decode cL_delete 22 = .ok (.ireturn, 1) := by decide +kernel
abbrev cL_move : ByteArray := method_8_code
abbrev yL_move : MethodName := ⟨"RangeReadersLaw", "move", "(LRangeReaders;III[J)I"⟩
theorem hd_L_move : (yL_move).cls ≠ "java/lang/invoke/MethodHandle" ∧ (yL_move).cls ≠ "java/lang/invoke/VarHandle" ∧ (parseMethodDescriptor (yL_move).desc).map (fun d => d.parameters.length) = some 5 := by decide +kernel
theorem dL_move_0 : decode cL_move 0 = .ok (.aload 4, 2) := by decide +kernel
theorem dL_move_2 : decode cL_move 2 = .ok (.iconst 0, 1) := by decide +kernel
theorem dL_move_3 : decode cL_move 3 = .ok (.aload_n 0, 1) := by decide +kernel
theorem dL_move_4 : decode cL_move 4 = .ok (.iload_n 1, 1) := by decide +kernel
theorem dL_move_5 : decode cL_move 5 = .ok (.iload_n 2, 1) := by decide +kernel
theorem dL_move_6 : decode cL_move 6 = .ok (.iload_n 3, 1) := by decide +kernel
theorem dL_move_7 : decode cL_move 7 = .ok (.invokevirtual 32, 3) := by decide +kernel
theorem dL_move_10 : decode cL_move 10 = .ok (.i2l, 1) := by decide +kernel
theorem dL_move_11 : decode cL_move 11 = .ok (.lastore, 1) := by decide +kernel
theorem dL_move_12 : decode cL_move 12 = .ok (.goto 11, 3) := by decide +kernel
theorem dL_move_15 : decode cL_move 15 = .ok (.astore 5, 2) := by decide +kernel
theorem dL_move_17 : decode cL_move 17 = .ok (.iconst 1, 1) := by decide +kernel
theorem dL_move_18 : decode cL_move 18 = .ok (.ireturn, 1) := by decide +kernel
theorem dL_move_19 : decode cL_move 19 = .ok (.astore 5, 2) := by decide +kernel
theorem dL_move_21 : decode cL_move 21 = .ok (.iconst 2, 1) := by decide +kernel
theorem dL_move_22 : decode cL_move 22 = .ok (.ireturn, 1) := by decide +kernel
theorem dL_move_23 : decode cL_move 23 = .ok (.iconst 0, 1) := by decide +kernel
theorem dL_move_24 : decode cL_move 24 = .ok (.ireturn, 1) := by decide +kernel
abbrev cL_law : ByteArray := code
abbrev yL_law : MethodName := ⟨"RangeReadersLaw", "law", "([I)Z"⟩
theorem hd_L_law : (yL_law).cls ≠ "java/lang/invoke/MethodHandle" ∧ (yL_law).cls ≠ "java/lang/invoke/VarHandle" ∧ (parseMethodDescriptor (yL_law).desc).map (fun d => d.parameters.length) = some 1 := by decide +kernel
theorem dL_law_0 : decode cL_law 0 = .ok (.new 8, 3) := by decide +kernel
theorem dL_law_3 : decode cL_law 3 = .ok (.dup, 1) := by decide +kernel
theorem dL_law_4 : decode cL_law 4 = .ok (.invokespecial 35, 3) := by decide +kernel
theorem dL_law_7 : decode cL_law 7 = .ok (.astore_n 1, 1) := by decide +kernel
theorem dL_law_8 : decode cL_law 8 = .ok (.new 36, 3) := by decide +kernel
theorem dL_law_11 : decode cL_law 11 = .ok (.dup, 1) := by decide +kernel
theorem dL_law_12 : decode cL_law 12 = .ok (.invokespecial 38, 3) := by decide +kernel
theorem dL_law_15 : decode cL_law 15 = .ok (.astore_n 2, 1) := by decide +kernel
theorem dL_law_16 : decode cL_law 16 = .ok (.iconst 1, 1) := by decide +kernel
theorem dL_law_17 : decode cL_law 17 = .ok (.newarray .long, 2) := by decide +kernel
theorem dL_law_19 : decode cL_law 19 = .ok (.astore_n 3, 1) := by decide +kernel
theorem dL_law_20 : decode cL_law 20 = .ok (.iconst 0, 1) := by decide +kernel
theorem dL_law_21 : decode cL_law 21 = .ok (.istore 4, 2) := by decide +kernel
theorem dL_law_23 : decode cL_law 23 = .ok (.iload 4, 2) := by decide +kernel
theorem dL_law_25 : decode cL_law 25 = .ok (.aload_n 0, 1) := by decide +kernel
theorem dL_law_26 : decode cL_law 26 = .ok (.arraylength, 1) := by decide +kernel
theorem dL_law_27 : decode cL_law 27 = .ok (.bipush 6, 2) := by decide +kernel
theorem dL_law_29 : decode cL_law 29 = .ok (.isub, 1) := by decide +kernel
theorem dL_law_30 : decode cL_law 30 = .ok (.if_icmp .gt 754, 3) := by decide +kernel
theorem dL_law_33 : decode cL_law 33 = .ok (.aload_n 0, 1) := by decide +kernel
theorem dL_law_34 : decode cL_law 34 = .ok (.iload 4, 2) := by decide +kernel
theorem dL_law_36 : decode cL_law 36 = .ok (.iaload, 1) := by decide +kernel
theorem dL_law_37 : decode cL_law 37 = .ok (.bipush 15, 2) := by decide +kernel
theorem dL_law_39 : decode cL_law 39 = .ok (.iand, 1) := by decide +kernel
theorem dL_law_40 : decode cL_law 40 = .ok (.tableswitch 738 0 11 #[64, 137, 193, 218, 243, 323, 367, 392, 429, 442, 550, 658], 64) := by decide +kernel
theorem dL_law_104 : decode cL_law 104 = .ok (.aload_n 1, 1) := by decide +kernel
theorem dL_law_105 : decode cL_law 105 = .ok (.aload_n 0, 1) := by decide +kernel
theorem dL_law_106 : decode cL_law 106 = .ok (.iload 4, 2) := by decide +kernel
theorem dL_law_108 : decode cL_law 108 = .ok (.iconst 1, 1) := by decide +kernel
theorem dL_law_109 : decode cL_law 109 = .ok (.iadd, 1) := by decide +kernel
theorem dL_law_110 : decode cL_law 110 = .ok (.iaload, 1) := by decide +kernel
theorem dL_law_111 : decode cL_law 111 = .ok (.aload_n 0, 1) := by decide +kernel
theorem dL_law_112 : decode cL_law 112 = .ok (.iload 4, 2) := by decide +kernel
theorem dL_law_114 : decode cL_law 114 = .ok (.iconst 2, 1) := by decide +kernel
theorem dL_law_115 : decode cL_law 115 = .ok (.iadd, 1) := by decide +kernel
theorem dL_law_116 : decode cL_law 116 = .ok (.iaload, 1) := by decide +kernel
theorem dL_law_117 : decode cL_law 117 = .ok (.aload_n 0, 1) := by decide +kernel
theorem dL_law_118 : decode cL_law 118 = .ok (.iload 4, 2) := by decide +kernel
theorem dL_law_120 : decode cL_law 120 = .ok (.iconst 3, 1) := by decide +kernel
theorem dL_law_121 : decode cL_law 121 = .ok (.iadd, 1) := by decide +kernel
theorem dL_law_122 : decode cL_law 122 = .ok (.iaload, 1) := by decide +kernel
theorem dL_law_123 : decode cL_law 123 = .ok (.aload_n 0, 1) := by decide +kernel
theorem dL_law_124 : decode cL_law 124 = .ok (.iload 4, 2) := by decide +kernel
theorem dL_law_126 : decode cL_law 126 = .ok (.iconst 4, 1) := by decide +kernel
theorem dL_law_127 : decode cL_law 127 = .ok (.iadd, 1) := by decide +kernel
theorem dL_law_128 : decode cL_law 128 = .ok (.iaload, 1) := by decide +kernel
theorem dL_law_129 : decode cL_law 129 = .ok (.aload_n 0, 1) := by decide +kernel
theorem dL_law_130 : decode cL_law 130 = .ok (.iload 4, 2) := by decide +kernel
theorem dL_law_132 : decode cL_law 132 = .ok (.iconst 5, 1) := by decide +kernel
theorem dL_law_133 : decode cL_law 133 = .ok (.iadd, 1) := by decide +kernel
theorem dL_law_134 : decode cL_law 134 = .ok (.iaload, 1) := by decide +kernel
theorem dL_law_135 : decode cL_law 135 = .ok (.invokevirtual 39, 3) := by decide +kernel
theorem dL_law_138 : decode cL_law 138 = .ok (.aload_n 2, 1) := by decide +kernel
theorem dL_law_139 : decode cL_law 139 = .ok (.aload_n 0, 1) := by decide +kernel
theorem dL_law_140 : decode cL_law 140 = .ok (.iload 4, 2) := by decide +kernel
theorem dL_law_142 : decode cL_law 142 = .ok (.iconst 1, 1) := by decide +kernel
theorem dL_law_143 : decode cL_law 143 = .ok (.iadd, 1) := by decide +kernel
theorem dL_law_144 : decode cL_law 144 = .ok (.iaload, 1) := by decide +kernel
theorem dL_law_145 : decode cL_law 145 = .ok (.aload_n 0, 1) := by decide +kernel
theorem dL_law_146 : decode cL_law 146 = .ok (.iload 4, 2) := by decide +kernel
theorem dL_law_148 : decode cL_law 148 = .ok (.iconst 2, 1) := by decide +kernel
theorem dL_law_149 : decode cL_law 149 = .ok (.iadd, 1) := by decide +kernel
theorem dL_law_150 : decode cL_law 150 = .ok (.iaload, 1) := by decide +kernel
theorem dL_law_151 : decode cL_law 151 = .ok (.aload_n 0, 1) := by decide +kernel
theorem dL_law_152 : decode cL_law 152 = .ok (.iload 4, 2) := by decide +kernel
theorem dL_law_154 : decode cL_law 154 = .ok (.iconst 3, 1) := by decide +kernel
theorem dL_law_155 : decode cL_law 155 = .ok (.iadd, 1) := by decide +kernel
theorem dL_law_156 : decode cL_law 156 = .ok (.iaload, 1) := by decide +kernel
theorem dL_law_157 : decode cL_law 157 = .ok (.aload_n 0, 1) := by decide +kernel
theorem dL_law_158 : decode cL_law 158 = .ok (.iload 4, 2) := by decide +kernel
theorem dL_law_160 : decode cL_law 160 = .ok (.iconst 4, 1) := by decide +kernel
theorem dL_law_161 : decode cL_law 161 = .ok (.iadd, 1) := by decide +kernel
theorem dL_law_162 : decode cL_law 162 = .ok (.iaload, 1) := by decide +kernel
theorem dL_law_163 : decode cL_law 163 = .ok (.aload_n 0, 1) := by decide +kernel
theorem dL_law_164 : decode cL_law 164 = .ok (.iload 4, 2) := by decide +kernel
theorem dL_law_166 : decode cL_law 166 = .ok (.iconst 5, 1) := by decide +kernel
theorem dL_law_167 : decode cL_law 167 = .ok (.iadd, 1) := by decide +kernel
theorem dL_law_168 : decode cL_law 168 = .ok (.iaload, 1) := by decide +kernel
theorem dL_law_169 : decode cL_law 169 = .ok (.invokevirtual 43, 3) := by decide +kernel
theorem dL_law_172 : decode cL_law 172 = .ok (.if_icmp .eq 606, 3) := by decide +kernel
theorem dL_law_175 : decode cL_law 175 = .ok (.iconst 0, 1) := by decide +kernel
theorem dL_law_176 : decode cL_law 176 = .ok (.ireturn, 1) := by decide +kernel
theorem dL_law_177 : decode cL_law 177 = .ok (.aload_n 1, 1) := by decide +kernel
theorem dL_law_178 : decode cL_law 178 = .ok (.aload_n 0, 1) := by decide +kernel
theorem dL_law_179 : decode cL_law 179 = .ok (.iload 4, 2) := by decide +kernel
theorem dL_law_181 : decode cL_law 181 = .ok (.iconst 1, 1) := by decide +kernel
theorem dL_law_182 : decode cL_law 182 = .ok (.iadd, 1) := by decide +kernel
theorem dL_law_183 : decode cL_law 183 = .ok (.iaload, 1) := by decide +kernel
theorem dL_law_184 : decode cL_law 184 = .ok (.aload_n 3, 1) := by decide +kernel
theorem dL_law_185 : decode cL_law 185 = .ok (.invokestatic 44, 3) := by decide +kernel
theorem dL_law_188 : decode cL_law 188 = .ok (.istore 5, 2) := by decide +kernel
theorem dL_law_190 : decode cL_law 190 = .ok (.aload_n 2, 1) := by decide +kernel
theorem dL_law_191 : decode cL_law 191 = .ok (.aload_n 0, 1) := by decide +kernel
theorem dL_law_192 : decode cL_law 192 = .ok (.iload 4, 2) := by decide +kernel
theorem dL_law_194 : decode cL_law 194 = .ok (.iconst 1, 1) := by decide +kernel
theorem dL_law_195 : decode cL_law 195 = .ok (.iadd, 1) := by decide +kernel
theorem dL_law_196 : decode cL_law 196 = .ok (.iaload, 1) := by decide +kernel
theorem dL_law_197 : decode cL_law 197 = .ok (.invokevirtual 49, 3) := by decide +kernel
theorem dL_law_200 : decode cL_law 200 = .ok (.istore 6, 2) := by decide +kernel
theorem dL_law_202 : decode cL_law 202 = .ok (.aload_n 2, 1) := by decide +kernel
theorem dL_law_203 : decode cL_law 203 = .ok (.invokevirtual 50, 3) := by decide +kernel
theorem dL_law_206 : decode cL_law 206 = .ok (.iload 5, 2) := by decide +kernel
theorem dL_law_208 : decode cL_law 208 = .ok (.if_icmp .eq 5, 3) := by decide +kernel
theorem dL_law_211 : decode cL_law 211 = .ok (.iconst 0, 1) := by decide +kernel
theorem dL_law_212 : decode cL_law 212 = .ok (.ireturn, 1) := by decide +kernel
theorem dL_law_213 : decode cL_law 213 = .ok (.iload 5, 2) := by decide +kernel
theorem dL_law_215 : decode cL_law 215 = .ok (.ifCond .ne 15, 3) := by decide +kernel
theorem dL_law_218 : decode cL_law 218 = .ok (.aload_n 3, 1) := by decide +kernel
theorem dL_law_219 : decode cL_law 219 = .ok (.iconst 0, 1) := by decide +kernel
theorem dL_law_220 : decode cL_law 220 = .ok (.laload, 1) := by decide +kernel
theorem dL_law_221 : decode cL_law 221 = .ok (.iload 6, 2) := by decide +kernel
theorem dL_law_223 : decode cL_law 223 = .ok (.i2l, 1) := by decide +kernel
theorem dL_law_224 : decode cL_law 224 = .ok (.lcmp, 1) := by decide +kernel
theorem dL_law_225 : decode cL_law 225 = .ok (.ifCond .eq 5, 3) := by decide +kernel
theorem dL_law_228 : decode cL_law 228 = .ok (.iconst 0, 1) := by decide +kernel
theorem dL_law_229 : decode cL_law 229 = .ok (.ireturn, 1) := by decide +kernel
theorem dL_law_230 : decode cL_law 230 = .ok (.goto 548, 3) := by decide +kernel
theorem dL_law_233 : decode cL_law 233 = .ok (.aload_n 1, 1) := by decide +kernel
theorem dL_law_234 : decode cL_law 234 = .ok (.aload_n 0, 1) := by decide +kernel
theorem dL_law_235 : decode cL_law 235 = .ok (.iload 4, 2) := by decide +kernel
theorem dL_law_237 : decode cL_law 237 = .ok (.iconst 1, 1) := by decide +kernel
theorem dL_law_238 : decode cL_law 238 = .ok (.iadd, 1) := by decide +kernel
theorem dL_law_239 : decode cL_law 239 = .ok (.iaload, 1) := by decide +kernel
theorem dL_law_240 : decode cL_law 240 = .ok (.invokevirtual 53, 3) := by decide +kernel
theorem dL_law_243 : decode cL_law 243 = .ok (.aload_n 2, 1) := by decide +kernel
theorem dL_law_244 : decode cL_law 244 = .ok (.aload_n 0, 1) := by decide +kernel
theorem dL_law_245 : decode cL_law 245 = .ok (.iload 4, 2) := by decide +kernel
theorem dL_law_247 : decode cL_law 247 = .ok (.iconst 1, 1) := by decide +kernel
theorem dL_law_248 : decode cL_law 248 = .ok (.iadd, 1) := by decide +kernel
theorem dL_law_249 : decode cL_law 249 = .ok (.iaload, 1) := by decide +kernel
theorem dL_law_250 : decode cL_law 250 = .ok (.invokevirtual 57, 3) := by decide +kernel
theorem dL_law_253 : decode cL_law 253 = .ok (.if_icmp .eq 525, 3) := by decide +kernel
theorem dL_law_256 : decode cL_law 256 = .ok (.iconst 0, 1) := by decide +kernel
theorem dL_law_257 : decode cL_law 257 = .ok (.ireturn, 1) := by decide +kernel
theorem dL_law_258 : decode cL_law 258 = .ok (.aload_n 1, 1) := by decide +kernel
theorem dL_law_259 : decode cL_law 259 = .ok (.aload_n 0, 1) := by decide +kernel
theorem dL_law_260 : decode cL_law 260 = .ok (.iload 4, 2) := by decide +kernel
theorem dL_law_262 : decode cL_law 262 = .ok (.iconst 1, 1) := by decide +kernel
theorem dL_law_263 : decode cL_law 263 = .ok (.iadd, 1) := by decide +kernel
theorem dL_law_264 : decode cL_law 264 = .ok (.iaload, 1) := by decide +kernel
theorem dL_law_265 : decode cL_law 265 = .ok (.invokevirtual 58, 3) := by decide +kernel
theorem dL_law_268 : decode cL_law 268 = .ok (.aload_n 2, 1) := by decide +kernel
theorem dL_law_269 : decode cL_law 269 = .ok (.aload_n 0, 1) := by decide +kernel
theorem dL_law_270 : decode cL_law 270 = .ok (.iload 4, 2) := by decide +kernel
theorem dL_law_272 : decode cL_law 272 = .ok (.iconst 1, 1) := by decide +kernel
theorem dL_law_273 : decode cL_law 273 = .ok (.iadd, 1) := by decide +kernel
theorem dL_law_274 : decode cL_law 274 = .ok (.iaload, 1) := by decide +kernel
theorem dL_law_275 : decode cL_law 275 = .ok (.invokevirtual 61, 3) := by decide +kernel
theorem dL_law_278 : decode cL_law 278 = .ok (.if_icmp .eq 500, 3) := by decide +kernel
theorem dL_law_281 : decode cL_law 281 = .ok (.iconst 0, 1) := by decide +kernel
theorem dL_law_282 : decode cL_law 282 = .ok (.ireturn, 1) := by decide +kernel
theorem dL_law_283 : decode cL_law 283 = .ok (.aload_n 1, 1) := by decide +kernel
theorem dL_law_284 : decode cL_law 284 = .ok (.aload_n 0, 1) := by decide +kernel
theorem dL_law_285 : decode cL_law 285 = .ok (.iload 4, 2) := by decide +kernel
theorem dL_law_287 : decode cL_law 287 = .ok (.iconst 1, 1) := by decide +kernel
theorem dL_law_288 : decode cL_law 288 = .ok (.iadd, 1) := by decide +kernel
theorem dL_law_289 : decode cL_law 289 = .ok (.iaload, 1) := by decide +kernel
theorem dL_law_290 : decode cL_law 290 = .ok (.aload_n 0, 1) := by decide +kernel
theorem dL_law_291 : decode cL_law 291 = .ok (.iload 4, 2) := by decide +kernel
theorem dL_law_293 : decode cL_law 293 = .ok (.iconst 2, 1) := by decide +kernel
theorem dL_law_294 : decode cL_law 294 = .ok (.iadd, 1) := by decide +kernel
theorem dL_law_295 : decode cL_law 295 = .ok (.iaload, 1) := by decide +kernel
theorem dL_law_296 : decode cL_law 296 = .ok (.aload_n 0, 1) := by decide +kernel
theorem dL_law_297 : decode cL_law 297 = .ok (.iload 4, 2) := by decide +kernel
theorem dL_law_299 : decode cL_law 299 = .ok (.iconst 3, 1) := by decide +kernel
theorem dL_law_300 : decode cL_law 300 = .ok (.iadd, 1) := by decide +kernel
theorem dL_law_301 : decode cL_law 301 = .ok (.iaload, 1) := by decide +kernel
theorem dL_law_302 : decode cL_law 302 = .ok (.aload_n 3, 1) := by decide +kernel
theorem dL_law_303 : decode cL_law 303 = .ok (.invokestatic 62, 3) := by decide +kernel
theorem dL_law_306 : decode cL_law 306 = .ok (.istore 5, 2) := by decide +kernel
theorem dL_law_308 : decode cL_law 308 = .ok (.aload_n 2, 1) := by decide +kernel
theorem dL_law_309 : decode cL_law 309 = .ok (.aload_n 0, 1) := by decide +kernel
theorem dL_law_310 : decode cL_law 310 = .ok (.iload 4, 2) := by decide +kernel
theorem dL_law_312 : decode cL_law 312 = .ok (.iconst 1, 1) := by decide +kernel
theorem dL_law_313 : decode cL_law 313 = .ok (.iadd, 1) := by decide +kernel
theorem dL_law_314 : decode cL_law 314 = .ok (.iaload, 1) := by decide +kernel
theorem dL_law_315 : decode cL_law 315 = .ok (.aload_n 0, 1) := by decide +kernel
theorem dL_law_316 : decode cL_law 316 = .ok (.iload 4, 2) := by decide +kernel
theorem dL_law_318 : decode cL_law 318 = .ok (.iconst 2, 1) := by decide +kernel
theorem dL_law_319 : decode cL_law 319 = .ok (.iadd, 1) := by decide +kernel
theorem dL_law_320 : decode cL_law 320 = .ok (.iaload, 1) := by decide +kernel
theorem dL_law_321 : decode cL_law 321 = .ok (.aload_n 0, 1) := by decide +kernel
theorem dL_law_322 : decode cL_law 322 = .ok (.iload 4, 2) := by decide +kernel
theorem dL_law_324 : decode cL_law 324 = .ok (.iconst 3, 1) := by decide +kernel
theorem dL_law_325 : decode cL_law 325 = .ok (.iadd, 1) := by decide +kernel
theorem dL_law_326 : decode cL_law 326 = .ok (.iaload, 1) := by decide +kernel
theorem dL_law_327 : decode cL_law 327 = .ok (.invokevirtual 65, 3) := by decide +kernel
theorem dL_law_330 : decode cL_law 330 = .ok (.istore 6, 2) := by decide +kernel
theorem dL_law_332 : decode cL_law 332 = .ok (.aload_n 2, 1) := by decide +kernel
theorem dL_law_333 : decode cL_law 333 = .ok (.invokevirtual 50, 3) := by decide +kernel
theorem dL_law_336 : decode cL_law 336 = .ok (.iload 5, 2) := by decide +kernel
theorem dL_law_338 : decode cL_law 338 = .ok (.if_icmp .eq 5, 3) := by decide +kernel
theorem dL_law_341 : decode cL_law 341 = .ok (.iconst 0, 1) := by decide +kernel
theorem dL_law_342 : decode cL_law 342 = .ok (.ireturn, 1) := by decide +kernel
theorem dL_law_343 : decode cL_law 343 = .ok (.iload 5, 2) := by decide +kernel
theorem dL_law_345 : decode cL_law 345 = .ok (.ifCond .ne 15, 3) := by decide +kernel
theorem dL_law_348 : decode cL_law 348 = .ok (.aload_n 3, 1) := by decide +kernel
theorem dL_law_349 : decode cL_law 349 = .ok (.iconst 0, 1) := by decide +kernel
theorem dL_law_350 : decode cL_law 350 = .ok (.laload, 1) := by decide +kernel
theorem dL_law_351 : decode cL_law 351 = .ok (.iload 6, 2) := by decide +kernel
theorem dL_law_353 : decode cL_law 353 = .ok (.i2l, 1) := by decide +kernel
theorem dL_law_354 : decode cL_law 354 = .ok (.lcmp, 1) := by decide +kernel
theorem dL_law_355 : decode cL_law 355 = .ok (.ifCond .eq 5, 3) := by decide +kernel
theorem dL_law_358 : decode cL_law 358 = .ok (.iconst 0, 1) := by decide +kernel
theorem dL_law_359 : decode cL_law 359 = .ok (.ireturn, 1) := by decide +kernel
theorem dL_law_360 : decode cL_law 360 = .ok (.goto 418, 3) := by decide +kernel
theorem dL_law_363 : decode cL_law 363 = .ok (.aload_n 1, 1) := by decide +kernel
theorem dL_law_364 : decode cL_law 364 = .ok (.aload_n 3, 1) := by decide +kernel
theorem dL_law_365 : decode cL_law 365 = .ok (.invokestatic 66, 3) := by decide +kernel
theorem dL_law_368 : decode cL_law 368 = .ok (.istore 5, 2) := by decide +kernel
theorem dL_law_370 : decode cL_law 370 = .ok (.aload_n 2, 1) := by decide +kernel
theorem dL_law_371 : decode cL_law 371 = .ok (.invokevirtual 69, 3) := by decide +kernel
theorem dL_law_374 : decode cL_law 374 = .ok (.istore 6, 2) := by decide +kernel
theorem dL_law_376 : decode cL_law 376 = .ok (.aload_n 2, 1) := by decide +kernel
theorem dL_law_377 : decode cL_law 377 = .ok (.invokevirtual 50, 3) := by decide +kernel
theorem dL_law_380 : decode cL_law 380 = .ok (.iload 5, 2) := by decide +kernel
theorem dL_law_382 : decode cL_law 382 = .ok (.if_icmp .eq 5, 3) := by decide +kernel
theorem dL_law_385 : decode cL_law 385 = .ok (.iconst 0, 1) := by decide +kernel
theorem dL_law_386 : decode cL_law 386 = .ok (.ireturn, 1) := by decide +kernel
theorem dL_law_387 : decode cL_law 387 = .ok (.iload 5, 2) := by decide +kernel
theorem dL_law_389 : decode cL_law 389 = .ok (.ifCond .ne 15, 3) := by decide +kernel
theorem dL_law_392 : decode cL_law 392 = .ok (.aload_n 3, 1) := by decide +kernel
theorem dL_law_393 : decode cL_law 393 = .ok (.iconst 0, 1) := by decide +kernel
theorem dL_law_394 : decode cL_law 394 = .ok (.laload, 1) := by decide +kernel
theorem dL_law_395 : decode cL_law 395 = .ok (.iload 6, 2) := by decide +kernel
theorem dL_law_397 : decode cL_law 397 = .ok (.i2l, 1) := by decide +kernel
theorem dL_law_398 : decode cL_law 398 = .ok (.lcmp, 1) := by decide +kernel
theorem dL_law_399 : decode cL_law 399 = .ok (.ifCond .eq 5, 3) := by decide +kernel
theorem dL_law_402 : decode cL_law 402 = .ok (.iconst 0, 1) := by decide +kernel
theorem dL_law_403 : decode cL_law 403 = .ok (.ireturn, 1) := by decide +kernel
theorem dL_law_404 : decode cL_law 404 = .ok (.goto 374, 3) := by decide +kernel
theorem dL_law_407 : decode cL_law 407 = .ok (.aload_n 1, 1) := by decide +kernel
theorem dL_law_408 : decode cL_law 408 = .ok (.aload_n 0, 1) := by decide +kernel
theorem dL_law_409 : decode cL_law 409 = .ok (.iload 4, 2) := by decide +kernel
theorem dL_law_411 : decode cL_law 411 = .ok (.iconst 1, 1) := by decide +kernel
theorem dL_law_412 : decode cL_law 412 = .ok (.iadd, 1) := by decide +kernel
theorem dL_law_413 : decode cL_law 413 = .ok (.iaload, 1) := by decide +kernel
theorem dL_law_414 : decode cL_law 414 = .ok (.invokevirtual 70, 3) := by decide +kernel
theorem dL_law_417 : decode cL_law 417 = .ok (.aload_n 2, 1) := by decide +kernel
theorem dL_law_418 : decode cL_law 418 = .ok (.aload_n 0, 1) := by decide +kernel
theorem dL_law_419 : decode cL_law 419 = .ok (.iload 4, 2) := by decide +kernel
theorem dL_law_421 : decode cL_law 421 = .ok (.iconst 1, 1) := by decide +kernel
theorem dL_law_422 : decode cL_law 422 = .ok (.iadd, 1) := by decide +kernel
theorem dL_law_423 : decode cL_law 423 = .ok (.iaload, 1) := by decide +kernel
theorem dL_law_424 : decode cL_law 424 = .ok (.invokevirtual 73, 3) := by decide +kernel
theorem dL_law_427 : decode cL_law 427 = .ok (.if_icmp .eq 351, 3) := by decide +kernel
theorem dL_law_430 : decode cL_law 430 = .ok (.iconst 0, 1) := by decide +kernel
theorem dL_law_431 : decode cL_law 431 = .ok (.ireturn, 1) := by decide +kernel
theorem dL_law_432 : decode cL_law 432 = .ok (.aload_n 1, 1) := by decide +kernel
theorem dL_law_433 : decode cL_law 433 = .ok (.aload_n 0, 1) := by decide +kernel
theorem dL_law_434 : decode cL_law 434 = .ok (.iload 4, 2) := by decide +kernel
theorem dL_law_436 : decode cL_law 436 = .ok (.iconst 1, 1) := by decide +kernel
theorem dL_law_437 : decode cL_law 437 = .ok (.iadd, 1) := by decide +kernel
theorem dL_law_438 : decode cL_law 438 = .ok (.iaload, 1) := by decide +kernel
theorem dL_law_439 : decode cL_law 439 = .ok (.aload_n 0, 1) := by decide +kernel
theorem dL_law_440 : decode cL_law 440 = .ok (.iload 4, 2) := by decide +kernel
theorem dL_law_442 : decode cL_law 442 = .ok (.iconst 2, 1) := by decide +kernel
theorem dL_law_443 : decode cL_law 443 = .ok (.iadd, 1) := by decide +kernel
theorem dL_law_444 : decode cL_law 444 = .ok (.iaload, 1) := by decide +kernel
theorem dL_law_445 : decode cL_law 445 = .ok (.invokevirtual 74, 3) := by decide +kernel
theorem dL_law_448 : decode cL_law 448 = .ok (.aload_n 2, 1) := by decide +kernel
theorem dL_law_449 : decode cL_law 449 = .ok (.aload_n 0, 1) := by decide +kernel
theorem dL_law_450 : decode cL_law 450 = .ok (.iload 4, 2) := by decide +kernel
theorem dL_law_452 : decode cL_law 452 = .ok (.iconst 1, 1) := by decide +kernel
theorem dL_law_453 : decode cL_law 453 = .ok (.iadd, 1) := by decide +kernel
theorem dL_law_454 : decode cL_law 454 = .ok (.iaload, 1) := by decide +kernel
theorem dL_law_455 : decode cL_law 455 = .ok (.aload_n 0, 1) := by decide +kernel
theorem dL_law_456 : decode cL_law 456 = .ok (.iload 4, 2) := by decide +kernel
theorem dL_law_458 : decode cL_law 458 = .ok (.iconst 2, 1) := by decide +kernel
theorem dL_law_459 : decode cL_law 459 = .ok (.iadd, 1) := by decide +kernel
theorem dL_law_460 : decode cL_law 460 = .ok (.iaload, 1) := by decide +kernel
theorem dL_law_461 : decode cL_law 461 = .ok (.invokevirtual 78, 3) := by decide +kernel
theorem dL_law_464 : decode cL_law 464 = .ok (.if_icmp .eq 314, 3) := by decide +kernel
theorem dL_law_467 : decode cL_law 467 = .ok (.iconst 0, 1) := by decide +kernel
theorem dL_law_468 : decode cL_law 468 = .ok (.ireturn, 1) := by decide +kernel
theorem dL_law_469 : decode cL_law 469 = .ok (.aload_n 1, 1) := by decide +kernel
theorem dL_law_470 : decode cL_law 470 = .ok (.invokevirtual 79, 3) := by decide +kernel
theorem dL_law_473 : decode cL_law 473 = .ok (.aload_n 2, 1) := by decide +kernel
theorem dL_law_474 : decode cL_law 474 = .ok (.invokevirtual 82, 3) := by decide +kernel
theorem dL_law_477 : decode cL_law 477 = .ok (.if_icmp .eq 301, 3) := by decide +kernel
theorem dL_law_480 : decode cL_law 480 = .ok (.iconst 0, 1) := by decide +kernel
theorem dL_law_481 : decode cL_law 481 = .ok (.ireturn, 1) := by decide +kernel
theorem dL_law_482 : decode cL_law 482 = .ok (.aload_n 1, 1) := by decide +kernel
theorem dL_law_483 : decode cL_law 483 = .ok (.aload_n 0, 1) := by decide +kernel
theorem dL_law_484 : decode cL_law 484 = .ok (.iload 4, 2) := by decide +kernel
theorem dL_law_486 : decode cL_law 486 = .ok (.iconst 1, 1) := by decide +kernel
theorem dL_law_487 : decode cL_law 487 = .ok (.iadd, 1) := by decide +kernel
theorem dL_law_488 : decode cL_law 488 = .ok (.iaload, 1) := by decide +kernel
theorem dL_law_489 : decode cL_law 489 = .ok (.aload_n 0, 1) := by decide +kernel
theorem dL_law_490 : decode cL_law 490 = .ok (.iload 4, 2) := by decide +kernel
theorem dL_law_492 : decode cL_law 492 = .ok (.iconst 2, 1) := by decide +kernel
theorem dL_law_493 : decode cL_law 493 = .ok (.iadd, 1) := by decide +kernel
theorem dL_law_494 : decode cL_law 494 = .ok (.iaload, 1) := by decide +kernel
theorem dL_law_495 : decode cL_law 495 = .ok (.ifCond .eq 7, 3) := by decide +kernel
theorem dL_law_498 : decode cL_law 498 = .ok (.iconst 1, 1) := by decide +kernel
theorem dL_law_499 : decode cL_law 499 = .ok (.goto 4, 3) := by decide +kernel
theorem dL_law_502 : decode cL_law 502 = .ok (.iconst 0, 1) := by decide +kernel
theorem dL_law_503 : decode cL_law 503 = .ok (.aload_n 0, 1) := by decide +kernel
theorem dL_law_504 : decode cL_law 504 = .ok (.iload 4, 2) := by decide +kernel
theorem dL_law_506 : decode cL_law 506 = .ok (.iconst 3, 1) := by decide +kernel
theorem dL_law_507 : decode cL_law 507 = .ok (.iadd, 1) := by decide +kernel
theorem dL_law_508 : decode cL_law 508 = .ok (.iaload, 1) := by decide +kernel
theorem dL_law_509 : decode cL_law 509 = .ok (.aload_n 0, 1) := by decide +kernel
theorem dL_law_510 : decode cL_law 510 = .ok (.iload 4, 2) := by decide +kernel
theorem dL_law_512 : decode cL_law 512 = .ok (.iconst 4, 1) := by decide +kernel
theorem dL_law_513 : decode cL_law 513 = .ok (.iadd, 1) := by decide +kernel
theorem dL_law_514 : decode cL_law 514 = .ok (.iaload, 1) := by decide +kernel
theorem dL_law_515 : decode cL_law 515 = .ok (.aload_n 3, 1) := by decide +kernel
theorem dL_law_516 : decode cL_law 516 = .ok (.invokestatic 83, 3) := by decide +kernel
theorem dL_law_519 : decode cL_law 519 = .ok (.istore 5, 2) := by decide +kernel
theorem dL_law_521 : decode cL_law 521 = .ok (.aload_n 2, 1) := by decide +kernel
theorem dL_law_522 : decode cL_law 522 = .ok (.aload_n 0, 1) := by decide +kernel
theorem dL_law_523 : decode cL_law 523 = .ok (.iload 4, 2) := by decide +kernel
theorem dL_law_525 : decode cL_law 525 = .ok (.iconst 1, 1) := by decide +kernel
theorem dL_law_526 : decode cL_law 526 = .ok (.iadd, 1) := by decide +kernel
theorem dL_law_527 : decode cL_law 527 = .ok (.iaload, 1) := by decide +kernel
theorem dL_law_528 : decode cL_law 528 = .ok (.aload_n 0, 1) := by decide +kernel
theorem dL_law_529 : decode cL_law 529 = .ok (.iload 4, 2) := by decide +kernel
theorem dL_law_531 : decode cL_law 531 = .ok (.iconst 2, 1) := by decide +kernel
theorem dL_law_532 : decode cL_law 532 = .ok (.iadd, 1) := by decide +kernel
theorem dL_law_533 : decode cL_law 533 = .ok (.iaload, 1) := by decide +kernel
theorem dL_law_534 : decode cL_law 534 = .ok (.ifCond .eq 7, 3) := by decide +kernel
theorem dL_law_537 : decode cL_law 537 = .ok (.iconst 1, 1) := by decide +kernel
theorem dL_law_538 : decode cL_law 538 = .ok (.goto 4, 3) := by decide +kernel
theorem dL_law_541 : decode cL_law 541 = .ok (.iconst 0, 1) := by decide +kernel
theorem dL_law_542 : decode cL_law 542 = .ok (.aload_n 0, 1) := by decide +kernel
theorem dL_law_543 : decode cL_law 543 = .ok (.iload 4, 2) := by decide +kernel
theorem dL_law_545 : decode cL_law 545 = .ok (.iconst 3, 1) := by decide +kernel
theorem dL_law_546 : decode cL_law 546 = .ok (.iadd, 1) := by decide +kernel
theorem dL_law_547 : decode cL_law 547 = .ok (.iaload, 1) := by decide +kernel
theorem dL_law_548 : decode cL_law 548 = .ok (.aload_n 0, 1) := by decide +kernel
theorem dL_law_549 : decode cL_law 549 = .ok (.iload 4, 2) := by decide +kernel
theorem dL_law_551 : decode cL_law 551 = .ok (.iconst 4, 1) := by decide +kernel
theorem dL_law_552 : decode cL_law 552 = .ok (.iadd, 1) := by decide +kernel
theorem dL_law_553 : decode cL_law 553 = .ok (.iaload, 1) := by decide +kernel
theorem dL_law_554 : decode cL_law 554 = .ok (.invokevirtual 86, 3) := by decide +kernel
theorem dL_law_557 : decode cL_law 557 = .ok (.istore 6, 2) := by decide +kernel
theorem dL_law_559 : decode cL_law 559 = .ok (.aload_n 2, 1) := by decide +kernel
theorem dL_law_560 : decode cL_law 560 = .ok (.invokevirtual 50, 3) := by decide +kernel
theorem dL_law_563 : decode cL_law 563 = .ok (.iload 5, 2) := by decide +kernel
theorem dL_law_565 : decode cL_law 565 = .ok (.if_icmp .eq 5, 3) := by decide +kernel
theorem dL_law_568 : decode cL_law 568 = .ok (.iconst 0, 1) := by decide +kernel
theorem dL_law_569 : decode cL_law 569 = .ok (.ireturn, 1) := by decide +kernel
theorem dL_law_570 : decode cL_law 570 = .ok (.iload 5, 2) := by decide +kernel
theorem dL_law_572 : decode cL_law 572 = .ok (.ifCond .ne 15, 3) := by decide +kernel
theorem dL_law_575 : decode cL_law 575 = .ok (.aload_n 3, 1) := by decide +kernel
theorem dL_law_576 : decode cL_law 576 = .ok (.iconst 0, 1) := by decide +kernel
theorem dL_law_577 : decode cL_law 577 = .ok (.laload, 1) := by decide +kernel
theorem dL_law_578 : decode cL_law 578 = .ok (.iload 6, 2) := by decide +kernel
theorem dL_law_580 : decode cL_law 580 = .ok (.i2l, 1) := by decide +kernel
theorem dL_law_581 : decode cL_law 581 = .ok (.lcmp, 1) := by decide +kernel
theorem dL_law_582 : decode cL_law 582 = .ok (.ifCond .eq 5, 3) := by decide +kernel
theorem dL_law_585 : decode cL_law 585 = .ok (.iconst 0, 1) := by decide +kernel
theorem dL_law_586 : decode cL_law 586 = .ok (.ireturn, 1) := by decide +kernel
theorem dL_law_587 : decode cL_law 587 = .ok (.goto 191, 3) := by decide +kernel
theorem dL_law_590 : decode cL_law 590 = .ok (.aload_n 1, 1) := by decide +kernel
theorem dL_law_591 : decode cL_law 591 = .ok (.aload_n 0, 1) := by decide +kernel
theorem dL_law_592 : decode cL_law 592 = .ok (.iload 4, 2) := by decide +kernel
theorem dL_law_594 : decode cL_law 594 = .ok (.iconst 1, 1) := by decide +kernel
theorem dL_law_595 : decode cL_law 595 = .ok (.iadd, 1) := by decide +kernel
theorem dL_law_596 : decode cL_law 596 = .ok (.iaload, 1) := by decide +kernel
theorem dL_law_597 : decode cL_law 597 = .ok (.aload_n 0, 1) := by decide +kernel
theorem dL_law_598 : decode cL_law 598 = .ok (.iload 4, 2) := by decide +kernel
theorem dL_law_600 : decode cL_law 600 = .ok (.iconst 2, 1) := by decide +kernel
theorem dL_law_601 : decode cL_law 601 = .ok (.iadd, 1) := by decide +kernel
theorem dL_law_602 : decode cL_law 602 = .ok (.iaload, 1) := by decide +kernel
theorem dL_law_603 : decode cL_law 603 = .ok (.ifCond .eq 7, 3) := by decide +kernel
theorem dL_law_606 : decode cL_law 606 = .ok (.iconst 1, 1) := by decide +kernel
theorem dL_law_607 : decode cL_law 607 = .ok (.goto 4, 3) := by decide +kernel
theorem dL_law_610 : decode cL_law 610 = .ok (.iconst 0, 1) := by decide +kernel
theorem dL_law_611 : decode cL_law 611 = .ok (.aload_n 0, 1) := by decide +kernel
theorem dL_law_612 : decode cL_law 612 = .ok (.iload 4, 2) := by decide +kernel
theorem dL_law_614 : decode cL_law 614 = .ok (.iconst 3, 1) := by decide +kernel
theorem dL_law_615 : decode cL_law 615 = .ok (.iadd, 1) := by decide +kernel
theorem dL_law_616 : decode cL_law 616 = .ok (.iaload, 1) := by decide +kernel
theorem dL_law_617 : decode cL_law 617 = .ok (.aload_n 0, 1) := by decide +kernel
theorem dL_law_618 : decode cL_law 618 = .ok (.iload 4, 2) := by decide +kernel
theorem dL_law_620 : decode cL_law 620 = .ok (.iconst 4, 1) := by decide +kernel
theorem dL_law_621 : decode cL_law 621 = .ok (.iadd, 1) := by decide +kernel
theorem dL_law_622 : decode cL_law 622 = .ok (.iaload, 1) := by decide +kernel
theorem dL_law_623 : decode cL_law 623 = .ok (.aload_n 3, 1) := by decide +kernel
theorem dL_law_624 : decode cL_law 624 = .ok (.invokestatic 87, 3) := by decide +kernel
theorem dL_law_627 : decode cL_law 627 = .ok (.istore 5, 2) := by decide +kernel
theorem dL_law_629 : decode cL_law 629 = .ok (.aload_n 2, 1) := by decide +kernel
theorem dL_law_630 : decode cL_law 630 = .ok (.aload_n 0, 1) := by decide +kernel
theorem dL_law_631 : decode cL_law 631 = .ok (.iload 4, 2) := by decide +kernel
theorem dL_law_633 : decode cL_law 633 = .ok (.iconst 1, 1) := by decide +kernel
theorem dL_law_634 : decode cL_law 634 = .ok (.iadd, 1) := by decide +kernel
theorem dL_law_635 : decode cL_law 635 = .ok (.iaload, 1) := by decide +kernel
theorem dL_law_636 : decode cL_law 636 = .ok (.aload_n 0, 1) := by decide +kernel
theorem dL_law_637 : decode cL_law 637 = .ok (.iload 4, 2) := by decide +kernel
theorem dL_law_639 : decode cL_law 639 = .ok (.iconst 2, 1) := by decide +kernel
theorem dL_law_640 : decode cL_law 640 = .ok (.iadd, 1) := by decide +kernel
theorem dL_law_641 : decode cL_law 641 = .ok (.iaload, 1) := by decide +kernel
theorem dL_law_642 : decode cL_law 642 = .ok (.ifCond .eq 7, 3) := by decide +kernel
theorem dL_law_645 : decode cL_law 645 = .ok (.iconst 1, 1) := by decide +kernel
theorem dL_law_646 : decode cL_law 646 = .ok (.goto 4, 3) := by decide +kernel
theorem dL_law_649 : decode cL_law 649 = .ok (.iconst 0, 1) := by decide +kernel
theorem dL_law_650 : decode cL_law 650 = .ok (.aload_n 0, 1) := by decide +kernel
theorem dL_law_651 : decode cL_law 651 = .ok (.iload 4, 2) := by decide +kernel
theorem dL_law_653 : decode cL_law 653 = .ok (.iconst 3, 1) := by decide +kernel
theorem dL_law_654 : decode cL_law 654 = .ok (.iadd, 1) := by decide +kernel
theorem dL_law_655 : decode cL_law 655 = .ok (.iaload, 1) := by decide +kernel
theorem dL_law_656 : decode cL_law 656 = .ok (.aload_n 0, 1) := by decide +kernel
theorem dL_law_657 : decode cL_law 657 = .ok (.iload 4, 2) := by decide +kernel
theorem dL_law_659 : decode cL_law 659 = .ok (.iconst 4, 1) := by decide +kernel
theorem dL_law_660 : decode cL_law 660 = .ok (.iadd, 1) := by decide +kernel
theorem dL_law_661 : decode cL_law 661 = .ok (.iaload, 1) := by decide +kernel
theorem dL_law_662 : decode cL_law 662 = .ok (.invokevirtual 89, 3) := by decide +kernel
theorem dL_law_665 : decode cL_law 665 = .ok (.istore 6, 2) := by decide +kernel
theorem dL_law_667 : decode cL_law 667 = .ok (.aload_n 2, 1) := by decide +kernel
theorem dL_law_668 : decode cL_law 668 = .ok (.invokevirtual 50, 3) := by decide +kernel
theorem dL_law_671 : decode cL_law 671 = .ok (.iload 5, 2) := by decide +kernel
theorem dL_law_673 : decode cL_law 673 = .ok (.if_icmp .eq 5, 3) := by decide +kernel
theorem dL_law_676 : decode cL_law 676 = .ok (.iconst 0, 1) := by decide +kernel
theorem dL_law_677 : decode cL_law 677 = .ok (.ireturn, 1) := by decide +kernel
theorem dL_law_678 : decode cL_law 678 = .ok (.iload 5, 2) := by decide +kernel
theorem dL_law_680 : decode cL_law 680 = .ok (.ifCond .ne 15, 3) := by decide +kernel
theorem dL_law_683 : decode cL_law 683 = .ok (.aload_n 3, 1) := by decide +kernel
theorem dL_law_684 : decode cL_law 684 = .ok (.iconst 0, 1) := by decide +kernel
theorem dL_law_685 : decode cL_law 685 = .ok (.laload, 1) := by decide +kernel
theorem dL_law_686 : decode cL_law 686 = .ok (.iload 6, 2) := by decide +kernel
theorem dL_law_688 : decode cL_law 688 = .ok (.i2l, 1) := by decide +kernel
theorem dL_law_689 : decode cL_law 689 = .ok (.lcmp, 1) := by decide +kernel
theorem dL_law_690 : decode cL_law 690 = .ok (.ifCond .eq 5, 3) := by decide +kernel
theorem dL_law_693 : decode cL_law 693 = .ok (.iconst 0, 1) := by decide +kernel
theorem dL_law_694 : decode cL_law 694 = .ok (.ireturn, 1) := by decide +kernel
theorem dL_law_695 : decode cL_law 695 = .ok (.goto 83, 3) := by decide +kernel
theorem dL_law_698 : decode cL_law 698 = .ok (.aload_n 1, 1) := by decide +kernel
theorem dL_law_699 : decode cL_law 699 = .ok (.aload_n 0, 1) := by decide +kernel
theorem dL_law_700 : decode cL_law 700 = .ok (.iload 4, 2) := by decide +kernel
theorem dL_law_702 : decode cL_law 702 = .ok (.iconst 1, 1) := by decide +kernel
theorem dL_law_703 : decode cL_law 703 = .ok (.iadd, 1) := by decide +kernel
theorem dL_law_704 : decode cL_law 704 = .ok (.iaload, 1) := by decide +kernel
theorem dL_law_705 : decode cL_law 705 = .ok (.aload_n 0, 1) := by decide +kernel
theorem dL_law_706 : decode cL_law 706 = .ok (.iload 4, 2) := by decide +kernel
theorem dL_law_708 : decode cL_law 708 = .ok (.iconst 2, 1) := by decide +kernel
theorem dL_law_709 : decode cL_law 709 = .ok (.iadd, 1) := by decide +kernel
theorem dL_law_710 : decode cL_law 710 = .ok (.iaload, 1) := by decide +kernel
theorem dL_law_711 : decode cL_law 711 = .ok (.aload_n 0, 1) := by decide +kernel
theorem dL_law_712 : decode cL_law 712 = .ok (.iload 4, 2) := by decide +kernel
theorem dL_law_714 : decode cL_law 714 = .ok (.iconst 3, 1) := by decide +kernel
theorem dL_law_715 : decode cL_law 715 = .ok (.iadd, 1) := by decide +kernel
theorem dL_law_716 : decode cL_law 716 = .ok (.iaload, 1) := by decide +kernel
theorem dL_law_717 : decode cL_law 717 = .ok (.aload_n 3, 1) := by decide +kernel
theorem dL_law_718 : decode cL_law 718 = .ok (.invokestatic 90, 3) := by decide +kernel
theorem dL_law_721 : decode cL_law 721 = .ok (.istore 5, 2) := by decide +kernel
theorem dL_law_723 : decode cL_law 723 = .ok (.aload_n 2, 1) := by decide +kernel
theorem dL_law_724 : decode cL_law 724 = .ok (.aload_n 0, 1) := by decide +kernel
theorem dL_law_725 : decode cL_law 725 = .ok (.iload 4, 2) := by decide +kernel
theorem dL_law_727 : decode cL_law 727 = .ok (.iconst 1, 1) := by decide +kernel
theorem dL_law_728 : decode cL_law 728 = .ok (.iadd, 1) := by decide +kernel
theorem dL_law_729 : decode cL_law 729 = .ok (.iaload, 1) := by decide +kernel
theorem dL_law_730 : decode cL_law 730 = .ok (.aload_n 0, 1) := by decide +kernel
theorem dL_law_731 : decode cL_law 731 = .ok (.iload 4, 2) := by decide +kernel
theorem dL_law_733 : decode cL_law 733 = .ok (.iconst 2, 1) := by decide +kernel
theorem dL_law_734 : decode cL_law 734 = .ok (.iadd, 1) := by decide +kernel
theorem dL_law_735 : decode cL_law 735 = .ok (.iaload, 1) := by decide +kernel
theorem dL_law_736 : decode cL_law 736 = .ok (.aload_n 0, 1) := by decide +kernel
theorem dL_law_737 : decode cL_law 737 = .ok (.iload 4, 2) := by decide +kernel
theorem dL_law_739 : decode cL_law 739 = .ok (.iconst 3, 1) := by decide +kernel
theorem dL_law_740 : decode cL_law 740 = .ok (.iadd, 1) := by decide +kernel
theorem dL_law_741 : decode cL_law 741 = .ok (.iaload, 1) := by decide +kernel
theorem dL_law_742 : decode cL_law 742 = .ok (.invokevirtual 92, 3) := by decide +kernel
theorem dL_law_745 : decode cL_law 745 = .ok (.istore 6, 2) := by decide +kernel
theorem dL_law_747 : decode cL_law 747 = .ok (.aload_n 2, 1) := by decide +kernel
theorem dL_law_748 : decode cL_law 748 = .ok (.invokevirtual 50, 3) := by decide +kernel
theorem dL_law_751 : decode cL_law 751 = .ok (.iload 5, 2) := by decide +kernel
theorem dL_law_753 : decode cL_law 753 = .ok (.if_icmp .eq 5, 3) := by decide +kernel
theorem dL_law_756 : decode cL_law 756 = .ok (.iconst 0, 1) := by decide +kernel
theorem dL_law_757 : decode cL_law 757 = .ok (.ireturn, 1) := by decide +kernel
theorem dL_law_758 : decode cL_law 758 = .ok (.iload 5, 2) := by decide +kernel
theorem dL_law_760 : decode cL_law 760 = .ok (.ifCond .ne 15, 3) := by decide +kernel
theorem dL_law_763 : decode cL_law 763 = .ok (.aload_n 3, 1) := by decide +kernel
theorem dL_law_764 : decode cL_law 764 = .ok (.iconst 0, 1) := by decide +kernel
theorem dL_law_765 : decode cL_law 765 = .ok (.laload, 1) := by decide +kernel
theorem dL_law_766 : decode cL_law 766 = .ok (.iload 6, 2) := by decide +kernel
theorem dL_law_768 : decode cL_law 768 = .ok (.i2l, 1) := by decide +kernel
theorem dL_law_769 : decode cL_law 769 = .ok (.lcmp, 1) := by decide +kernel
theorem dL_law_770 : decode cL_law 770 = .ok (.ifCond .eq 5, 3) := by decide +kernel
theorem dL_law_773 : decode cL_law 773 = .ok (.iconst 0, 1) := by decide +kernel
theorem dL_law_774 : decode cL_law 774 = .ok (.ireturn, 1) := by decide +kernel
theorem dL_law_775 : decode cL_law 775 = .ok (.goto 3, 3) := by decide +kernel
theorem dL_law_778 : decode cL_law 778 = .ok (.iinc 4 6, 3) := by decide +kernel
theorem dL_law_781 : decode cL_law 781 = .ok (.goto (-758), 3) := by decide +kernel
theorem dL_law_784 : decode cL_law 784 = .ok (.iconst 1, 1) := by decide +kernel
theorem dL_law_785 : decode cL_law 785 = .ok (.ireturn, 1) := by decide +kernel
end
section
/-! ===== BEGIN words of one list among another's, by their places ===== -/
theorem goodIn_r {big : List Cond} (ws : List Cond) (ps : List Nat) (hp : ws = ps.filterMap (fun i => big[i]?)) (h : ws.all goodWord = true) : GoodIn big ws := by
  intro w hw
  have h1 := List.all_eq_true.mp h w hw
  rw [hp] at hw
  obtain ⟨i, -, hi⟩ := List.mem_filterMap.mp hw
  have hm : w ∈ big := by first | exact List.mem_of_getElem? hi | exact List.getElem?_mem hi
  exact ⟨hm, good_of_word h1⟩
theorem goodIn_app {big a b : List Cond} (ha : GoodIn big a) (hb : GoodIn big b) : GoodIn big (a ++ b) := fun w h => (List.mem_append.mp h).elim (ha w) (hb w)
theorem goodIn_ca {big a b : List Cond} {c : Cond} (ha : GoodIn big (c :: a)) (hb : GoodIn big b) : GoodIn big (c :: (a ++ b)) := fun w h => (List.mem_cons.mp h).elim (fun e => ha w (List.mem_cons.mpr (Or.inl e))) (fun h => (List.mem_append.mp h).elim (fun h => ha w (List.mem_cons.mpr (Or.inr h))) (hb w))
theorem goodIn_sub {big ws : List Cond} (hm : ∀ w ∈ ws, w ∈ big) (h : ws.all goodWord = true) : GoodIn big ws := fun w hw => ⟨hm w hw, good_of_word (List.all_eq_true.mp h w hw)⟩
/-! ===== END ===== -/

/-! ===== BEGIN exceptions that leave a method, and their catching by the caller (launches without stack traces) ===== -/
section VXA
/-! The laws vx_back, vx_callV, vx_callS, vx_callSW, vx_throw0, vx_throwS follow proofs of the library, with one case more: JvmDerived/Free/Laws.lean (Back.of_free), Shelf42/LK1.lean (callV, callS), Shelf/KitTraced.lean (throwNew0V, throwNewS). -/
/-- where a method has thrown q: the class by its name, the cell, what was written, the world -/
def vx_T (XC : String → State → State → Prop) (st : State) (q : Addr) (t : State) (mc ms : Nat) (free : Addr → Prop) : Prop :=
  ∃ (E : String) (ce : Cell) (L : List Loc), XC E st t ∧ t.heap[q]? = some ce ∧ ce.vm = .none ∧ st.vm.findClass E = some ce.cls ∧ st.WarmedH t.vm ∧ st.sameButNew ({ t with vm := st.vm } : State) L mc ms ∧ ∀ z ∈ L, free z.base
def vx_Q (Qc : Array Value → State → Outcome → State → Prop) (XC : String → State → State → Prop) (mc ms : Nat) (free : Addr → Prop) : Array Value → State → Outcome → State → Prop := fun a st o t =>
  (Qc a st o t ∧ ∃ L, FrameEnd st o t L mc ms ∧ ∀ q ∈ L, free q.base) ∨ ∃ q, o = .threw q ∧ vx_T XC st q t mc ms free
/-- a callee that returns or throws -/
def vx_Met (l : Launch) (y : MethodName) (ws : List Cond) (rm : Room) (Pc : Array Value → State → Prop) (Qc : Array Value → State → Outcome → State → Prop) (XC : String → State → State → Prop) (mc ms : Nat) (free : Addr → Prop) : Prop :=
  MetFree l y (headSpec ws rm) Pc (fun _ _ _ _ _ => True) (vx_Q Qc XC mc ms free)
def vx_Post (XC : String → State → State → Prop) (mc ms : Nat) (free : Addr → Prop) : Pt → Array Value → Addr → Pt → Prop := fun A a q B =>
  ∃ (g : JFrame) (mk : MethodId) (t : State) (L : List Loc) (E : String) (ce : Cell), B.U.heap = t.heap ∧ B.U.vm = t.vm ∧ XC E (A.U.calling g mk a) t ∧ t.heap[q]? = some ce ∧ ce.vm = .none ∧ A.U.vm.findClass E = some ce.cls ∧ B.locs = A.locs ++ L ∧ (∀ z ∈ L, free z.base) ∧ B.cells = A.cells + mc ∧ B.slots = A.slots + ms
def vx_Back (l : Launch) (R : Room) (p : Program) (e : Env) (below : List Frame) (s : State) (sargs : Array Value) (y : MethodName) (len W9 : Nat)
    (Pre : Pt → Array Value → Prop) (Post : Pt → Array Value → Option Value → Pt → Prop) (PostX : Pt → Array Value → Addr → Pt → Prop) : Prop :=
  ∀ (m : MethodId) (meth : Method) (c : Code) (A : Pt) (g : JFrame) (ig : Instr) (mk : MethodId) (a : Array Value),
    Stand p l e R s m sargs below meth c A.U A.locs A.cells A.slots → g.method = m → g.locals.size = c.maxLocals → decode c.code g.pc = .ok (ig, len) →
    2 * g.monitorRoom + (g.stack.map fun v => v.category).sum ≤ W9 → A.U.methodNamed? y = some mk → Pre A a →
    (∃ (v : Option Value) (B : Pt), Stand p l e R s m sargs below meth c B.U B.locs B.cells B.slots ∧ Post A a v B ∧
      Steps p.tables e below (doInvoke e (A.U.setTop g) [] mk a).1 (B.U.setTop { g with pc := g.pc + len, stack := v.toList ++ g.stack })) ∨
    (∃ (q : Addr) (B : Pt), Stand p l e R s m sargs below meth c B.U B.locs B.cells B.slots ∧ PostX A a q B ∧
      Steps p.tables e below (doInvoke e (A.U.setTop g) [] mk a).1 ((B.U.setTop g).pushFrame (.throwing q)))
section Payer
variable {l : Launch} {R : Room} {p : Program} {e : Env} {below : List Frame} {s : State} {sargs : Array Value} {y : MethodName} {len W9 : Nat}
theorem vx_back {ws : List Cond} {rm : Room} {Pc : Array Value → State → Prop} {Qc : Array Value → State → Outcome → State → Prop} {XC : String → State → State → Prop} {mc ms : Nat} {free : Addr → Prop} {bytes : ByteArray} {maxL : Nat} {ret : Option FieldType}
    (hM : vx_Met l y ws rm Pc Qc XC mc ms free) (hblind : FrameBlind Pc) (hrc : rm.cells = mc) (hrs : rm.slots = ms)
    (hframes : rm.frames + 1 ≤ R.frames) (hlocals : W9 + (maxL + 11) + rm.locals ≤ R.locals)
    (hws : ∀ w ∈ ws, ∀ a' U, s.WarmedH U.vm → w.before a' U = true) (hcode : Cond.code y bytes maxL ret ∈ ws) (hinit : ∀ a' U, s.WarmedH U.vm → (Cond.initialized y.cls).before a' U = true) :
    vx_Back l R p e below s sargs y len W9 (PreOf R mc ms Pc) (PostOf Qc mc ms free) (vx_Post XC mc ms free) := by
  intro m meth c A g ig mk a X hg hsize hdg hW hn hp
  have h1 : (headSpec ws rm).pre.before a A.U = true := atoms_intro fun w hw => hws w hw _ _ X.warmed
  have h2 : (Cond.code y bytes maxL ret).before a A.U = true := hws _ hcode _ _ X.warmed
  have h3 : (Cond.initialized y.cls).before a A.U = true := hinit _ _ X.warmed
  have h4 : A.cells + (headSpec ws rm).room.cells ≤ R.cells := by rw [show (headSpec ws rm).room.cells = mc from hrc]; exact hp.1
  have h5 : A.slots + (headSpec ws rm).room.slots ≤ R.slots := by rw [show (headSpec ws rm).room.slots = ms from hrs]; exact hp.2.1
  have hPc : Pc a (A.U.calling g mk a) := hblind _ _ _ _ hp.2.2
  obtain ⟨U, Ls, c0, s0⟩ := A
  dsimp only [Pt.U, Pt.locs, Pt.cells, Pt.slots] at h1 h2 h3 h4 h5 X hn hPc ⊢
  obtain ⟨methY, cY, hmY, hcY, -, hlY, -, -, -, -⟩ := Cond.code_spec hn h2
  obtain ⟨kY, hkY, -⟩ := className_of_methodNamed hn
  have hinitY : kY.init = .initialized := Cond.initialized_spec (findClass_of_methodNamed hn) hkY h3
  have h : At U g.method c below := by rw [hg]; exact X.here
  have hlocals9 : W9 + (maxL + 11) + (headSpec ws rm).room.locals ≤ R.locals := hlocals
  have happ : (headSpec ws rm).appliesLoose y e.platform (U.calling g mk a) = true :=
    Spec.appliesLoose_calling (g := g) h hdg hn hkY hinitY
      (X.room_calling (g := g) (R' := (headSpec ws rm).room) hsize hmY hcY hframes (by rw [hlY]; omega) h4 h5) h1
  obtain ⟨mid, hmid⟩ := h.above
  have hfr : (U.setTop g).frames = (.java g :: mid) ++ below := by rw [State.frames_setTop' g h.top, hmid]; rfl
  obtain ⟨o, s₂, hsteps, -, hend, hq⟩ := Steps.callFree hM p X.admits X.cas X.clock (acts := []) hfr happ hPc trivial
  have hq' : vx_Q Qc XC mc ms free a (U.calling g mk a) o s₂ := hq
  rw [State.frames_setTop' g h.top] at hend
  obtain ⟨g₀, hg0⟩ := Option.isSome_iff_exists.mp h.top
  obtain ⟨r, hr⟩ := State.topJava?_eq_some.mp hg0
  have hr' : (({ U with heap := s₂.heap, slotsUsed := s₂.slotsUsed } : State).setVm s₂.vm).frames = .java g₀ :: r := hr
  rcases hq' with ⟨hqc, L, hfe, hL⟩ | ⟨q, rfl, E, ce, L, hx, hce, hcv, hcl, hW₂, hsm, hL⟩
  · obtain ⟨⟨v, rfl⟩, hW₂, e2, q2, q3, q4, q5, q6⟩ := id hfe
    have e3 : s₂ = ({ (U.calling g mk a).setFrames s₂.frames with heap := s₂.heap, slotsUsed := s₂.slotsUsed } : State).setVm s₂.vm := by
      have : s₂ = ({ s₂ with vm := (U.calling g mk a).vm } : State).setVm s₂.vm := rfl
      rw [e2] at this
      exact this
    obtain ⟨c₂, i₂, len₂, hc₂, hd₂, hf₂⟩ := hend
    have hW' : U.WarmedH s₂.vm := hW₂
    have hcc : c₂ = c := by
      have h1 : s₂.code? g.method = U.code? g.method := by
        rw [State.code?_eq, State.code?_eq, hW'.alike.method?]
      exact Option.some.inj (hc₂.symm.trans (h1.trans h.code))
    subst hcc
    have hlen : len₂ = len := by rw [hdg] at hd₂; cases hd₂; rfl
    subst hlen
    have hs₂ : s₂ = (({ U with heap := s₂.heap, slotsUsed := s₂.slotsUsed } : State).setVm s₂.vm).setTop { g with pc := g.pc + len₂, stack := v.toList ++ g.stack } := by
      refine e3.trans ?_
      rw [hf₂, State.calling_eq h.top, State.setFrames_setFrames, State.setTop_of_frames _ hr', hr]
      rfl
    have hsame : U.sameButNew ({ U with heap := s₂.heap, slotsUsed := s₂.slotsUsed } : State) L mc ms := by
      refine ⟨?_, q2, q3, q4, q5, q6⟩
      obtain ⟨t, ht, -⟩ := State.frames_cons hr
      show ({ U with heap := s₂.heap, slotsUsed := s₂.slotsUsed } : State) = { U.setFrames U.frames with heap := s₂.heap, slotsUsed := s₂.slotsUsed }
      rw [State.setFrames_self ht]
    subst hg
    refine Or.inl ⟨v, ⟨(({ U with heap := s₂.heap, slotsUsed := s₂.slotsUsed } : State).setVm s₂.vm), Ls ++ L, c0 + mc, s0 + ms⟩,
      ⟨X.admits, X.cas, X.clock, X.frames, X.room, X.hears, X.method, X.code, (X.here.setHeapUsed s₂.heap s₂.slotsUsed).setVm hW'.alike, X.tail, State.WarmedH.trans X.warmed hW', X.limits, X.bytes, X.same.trans (hsame.setVm s.vm)⟩,
      ⟨g, mk, s₂, L, rfl, rfl, hqc, rfl, hL, rfl, rfl⟩, ?_⟩
    show Steps p.tables e below _ ((({ U with heap := s₂.heap, slotsUsed := s₂.slotsUsed } : State).setVm s₂.vm).setTop { g with pc := g.pc + len₂, stack := v.toList ++ g.stack })
    rw [← hs₂]
    exact hsteps
  · obtain ⟨e2, q2, q3, q4, q5, q6⟩ := id hsm
    have e3 : s₂ = ({ (U.calling g mk a).setFrames s₂.frames with heap := s₂.heap, slotsUsed := s₂.slotsUsed } : State).setVm s₂.vm := by
      have : s₂ = ({ s₂ with vm := (U.calling g mk a).vm } : State).setVm s₂.vm := rfl
      rw [e2] at this
      exact this
    have hf₂ : s₂.frames = .throwing q :: .java g :: U.frames.tail := hend
    have hW' : U.WarmedH s₂.vm := hW₂
    have hs₂ : s₂ = ((({ U with heap := s₂.heap, slotsUsed := s₂.slotsUsed } : State).setVm s₂.vm).setTop g).pushFrame (.throwing q) := by
      refine e3.trans ?_
      rw [hf₂, State.calling_eq h.top, State.setFrames_setFrames, State.pushFrame, State.frames_setTop _ hr', State.setTop_of_frames _ hr', State.setFrames_setFrames, hr]
      rfl
    have hsame : U.sameButNew ({ U with heap := s₂.heap, slotsUsed := s₂.slotsUsed } : State) L mc ms := by
      refine ⟨?_, q2, q3, q4, q5, q6⟩
      obtain ⟨t, ht, -⟩ := State.frames_cons hr
      show ({ U with heap := s₂.heap, slotsUsed := s₂.slotsUsed } : State) = { U.setFrames U.frames with heap := s₂.heap, slotsUsed := s₂.slotsUsed }
      rw [State.setFrames_self ht]
    subst hg
    refine Or.inr ⟨q, ⟨(({ U with heap := s₂.heap, slotsUsed := s₂.slotsUsed } : State).setVm s₂.vm), Ls ++ L, c0 + mc, s0 + ms⟩,
      ⟨X.admits, X.cas, X.clock, X.frames, X.room, X.hears, X.method, X.code, (X.here.setHeapUsed s₂.heap s₂.slotsUsed).setVm hW'.alike, X.tail, State.WarmedH.trans X.warmed hW', X.limits, X.bytes, X.same.trans (hsame.setVm s.vm)⟩,
      ⟨g, mk, s₂, L, E, ce, rfl, rfl, hx, hce, hcv, hcl, rfl, hL, rfl, rfl⟩, ?_⟩
    show Steps p.tables e below _ (((({ U with heap := s₂.heap, slotsUsed := s₂.slotsUsed } : State).setVm s₂.vm).setTop g).pushFrame (.throwing q))
    rw [← hs₂]
    exact hsteps
end Payer
section Calls
variable {p : Program} {l : Launch} {e : Env} {R : Room} {s : State} {m : MethodId} {args : Array Value} {below : List Frame} {meth : Method} {c : Code} {T : State} {locs : List Loc} {cells slots : Nat}
theorem vx_callV (X : Stand p l e R s m args below meth c T locs cells slots) (hexec : p.tables.exec = Jvm.exec) {own C : String} {index : Nat} {y : MethodName} {bytes : ByteArray} {maxL : Nat} {ret : Option FieldType}
    (hown : s.vm.findClass own = some m.cls) (hlink : (Cond.methodLink own index y).before args s = true) (hinst : (Cond.instanceMethod y).before args s = true) (hsel : (Cond.selects C y y).before args s = true)
    (hcode : (Cond.code y bytes maxL ret).before args s = true) (hy : y.cls ≠ "java/lang/invoke/MethodHandle" ∧ y.cls ≠ "java/lang/invoke/VarHandle")
    {W9 : Nat} {Pre : Pt → Array Value → Prop} {Post : Pt → Array Value → Option Value → Pt → Prop} {PostX : Pt → Array Value → Addr → Pt → Prop} (hK : vx_Back l R p e below s args y 3 W9 Pre Post PostX)
    {b : Addr} {cellB : Cell} (hcell : T.heap[b]? = some cellB) (hobj : cellB.vm.isStatics = false) (hcls : s.vm.findClass C = some cellB.cls)
    {g : JFrame} (hg : g.method = m) (hsize : g.locals.size = c.maxLocals) {argsL rest : List Value} (hlen : ∀ sig, parseMethodDescriptor y.desc = some sig → argsL.length = sig.parameters.length)
    (hstack : g.stack = argsL.reverse ++ .ref b :: rest) (hW : 2 * g.monitorRoom + (rest.map fun v => v.category).sum ≤ W9) (hdg : decode c.code g.pc = .ok (.invokevirtual index, 3))
    (hpre : ∀ vm₁, s.WarmedH vm₁ → Pre ⟨T.setVm vm₁, locs, cells, slots⟩ (Value.ref b :: argsL).toArray) :
    (∃ (v : Option Value) (vm₁ : Vm) (B : Pt), s.WarmedH vm₁ ∧ Stand p l e R s m args below meth c B.U B.locs B.cells B.slots ∧ Post ⟨T.setVm vm₁, locs, cells, slots⟩ (Value.ref b :: argsL).toArray v B ∧
      ∀ target, Steps p.tables e below (B.U.setTop { g with pc := g.pc + 3, stack := v.toList ++ rest }) target → Steps p.tables e below (T.setTop g) target) ∨
    (∃ (q : Addr) (vm₁ : Vm) (B : Pt), s.WarmedH vm₁ ∧ Stand p l e R s m args below meth c B.U B.locs B.cells B.slots ∧ PostX ⟨T.setVm vm₁, locs, cells, slots⟩ (Value.ref b :: argsL).toArray q B ∧
      Steps p.tables e below (T.setTop g) ((B.U.setTop { g with stack := rest }).pushFrame (.throwing q))) := by
  obtain ⟨mk, methM, hnamed, hmethM, hstM, habM⟩ := Cond.instanceMethod_spec hinst
  obtain ⟨methM', cM, hmethM', -, -, -, -, -, -, hsigM⟩ := Cond.code_spec hnamed hcode
  cases hmethM.symm.trans hmethM'
  obtain ⟨c2, r2, m2, q1, q2, q3, q4, kP, hkP, hkPi⟩ := Cond.selects_spec hsel
  cases hcls.symm.trans q1
  cases (State.methodFound?_of_named hnamed hy).symm.trans q2
  cases hnamed.symm.trans q3
  have hselP : selectMethod e.platform s.vm cellB.cls mk = .method mk := by rw [Launch.admits_selectMethod X.admits]; exact q4
  obtain ⟨vm₁, X₁, hstep₁⟩ := X.invokevirtual hexec hown hlink hnamed hmethM hstM hkP hkPi hy (a := b) (cell := cellB) hcell
    (fun z h => by rw [h] at hobj; cases hobj) hselP hmethM habM hkP hkPi (g := g) hg (argsL := argsL) (rest := rest) (hlen _ hsigM) hstack hdg
  rcases hK m meth c ⟨T.setVm vm₁, locs, cells, slots⟩ { g with stack := rest } (.invokevirtual index) mk (Value.ref b :: argsL).toArray X₁ hg hsize hdg hW (X₁.named hnamed) (hpre vm₁ X₁.warmed) with ⟨v, B, X', hpost, hsteps⟩ | ⟨q, B, X', hpost, hsteps⟩
  · exact Or.inl ⟨v, vm₁, B, X₁.warmed, X', hpost, fun target h => hstep₁ _ fun acts => by rw [doInvoke_state]; exact hsteps.trans h⟩
  · exact Or.inr ⟨q, vm₁, B, X₁.warmed, X', hpost, hstep₁ _ fun acts => by rw [doInvoke_state]; exact hsteps⟩
theorem vx_callS (X : Stand p l e R s m args below meth c T locs cells slots) (hexec : p.tables.exec = Jvm.exec) {own : String} {index : Nat} {y : MethodName} {bytes : ByteArray} {maxL : Nat} {ret : Option FieldType}
    (hown : s.vm.findClass own = some m.cls) (hlink : (Cond.methodLink own index y).before args s = true) (hstat : (Cond.static y).before args s = true) (hinit : (Cond.initialized y.cls).before args s = true)
    (hcode : (Cond.code y bytes maxL ret).before args s = true) (hy : y.cls ≠ "java/lang/invoke/MethodHandle" ∧ y.cls ≠ "java/lang/invoke/VarHandle")
    {W9 : Nat} {Pre : Pt → Array Value → Prop} {Post : Pt → Array Value → Option Value → Pt → Prop} {PostX : Pt → Array Value → Addr → Pt → Prop} (hK : vx_Back l R p e below s args y 3 W9 Pre Post PostX)
    {g : JFrame} (hg : g.method = m) (hsize : g.locals.size = c.maxLocals) {argsL rest : List Value} (hlen : ∀ sig, parseMethodDescriptor y.desc = some sig → argsL.length = sig.parameters.length)
    (hstack : g.stack = argsL.reverse ++ rest) (hW : 2 * g.monitorRoom + (rest.map fun v => v.category).sum ≤ W9) (hdg : decode c.code g.pc = .ok (.invokestatic index, 3))
    (hpre : ∀ vm₁, s.WarmedH vm₁ → Pre ⟨T.setVm vm₁, locs, cells, slots⟩ argsL.toArray) :
    (∃ (v : Option Value) (vm₁ : Vm) (B : Pt), s.WarmedH vm₁ ∧ Stand p l e R s m args below meth c B.U B.locs B.cells B.slots ∧ Post ⟨T.setVm vm₁, locs, cells, slots⟩ argsL.toArray v B ∧
      ∀ target, Steps p.tables e below (B.U.setTop { g with pc := g.pc + 3, stack := v.toList ++ rest }) target → Steps p.tables e below (T.setTop g) target) ∨
    (∃ (q : Addr) (vm₁ : Vm) (B : Pt), s.WarmedH vm₁ ∧ Stand p l e R s m args below meth c B.U B.locs B.cells B.slots ∧ PostX ⟨T.setVm vm₁, locs, cells, slots⟩ argsL.toArray q B ∧
      Steps p.tables e below (T.setTop g) ((B.U.setTop { g with stack := rest }).pushFrame (.throwing q))) := by
  obtain ⟨mk, hnamed⟩ := Cond.code_named hcode
  obtain ⟨methM, cM, hmethM, -, -, -, -, -, -, hsigM⟩ := Cond.code_spec hnamed hcode
  have hstatic : methM.isStatic = true := Cond.static_spec hnamed hmethM hstat
  obtain ⟨kP, hkP, -⟩ := className_of_methodNamed hnamed
  have hinitP : kP.init = .initialized := Cond.initialized_spec (findClass_of_methodNamed hnamed) hkP hinit
  obtain ⟨vm₁, X₁, hstep₁⟩ := X.invokestatic hexec hown hlink hnamed hmethM hstatic hkP hinitP hy (g := g) hg (argsL := argsL) (rest := rest) (hlen _ hsigM) hstack hdg
  rcases hK m meth c ⟨T.setVm vm₁, locs, cells, slots⟩ { g with stack := rest } (.invokestatic index) mk argsL.toArray X₁ hg hsize hdg hW (X₁.named hnamed) (hpre vm₁ X₁.warmed) with ⟨v, B, X', hpost, hsteps⟩ | ⟨q, B, X', hpost, hsteps⟩
  · exact Or.inl ⟨v, vm₁, B, X₁.warmed, X', hpost, fun target h => hstep₁ _ fun acts => by rw [doInvoke_state]; exact hsteps.trans h⟩
  · exact Or.inr ⟨q, vm₁, B, X₁.warmed, X', hpost, hstep₁ _ fun acts => by rw [doInvoke_state]; exact hsteps⟩
end Calls
theorem vx_cls {s : State} {T : State} {vm₁ : Vm} {E : String} {k : ClassId} (hW : s.WarmedH vm₁) (h : (T.setVm vm₁).vm.findClass E = some k) : s.vm.findClass E = some k := by
  have h1 : vm₁.findClass E = some k := h
  rw [hW.alike.findClass] at h1
  exact h1
/-- the method's frame g, with q thrown over it -/
def vx_W (p : Program) (l : Launch) (e : Env) (R : Room) (s : State) (m : MethodId) (args : Array Value) (below : List Frame) (meth : Method) (c : Code) (H : Heap) (locs : List Loc) (cells slots : Nat) (Q : State → Prop) (g : JFrame) (q : Addr) : Prop :=
  ∀ T : State, T.heap = H → Stand p l e R s m args below meth c T locs cells slots → ∃ t, Steps p.tables e below ((T.setTop g).pushFrame (.throwing q)) t ∧ Q t
def vx_Run (p : Program) (l : Launch) (e : Env) (R : Room) (s : State) (m : MethodId) (args : Array Value) (below : List Frame) (meth : Method) (c : Code) (H : Heap) (locs : List Loc) (cells slots mc ms : Nat) (g : JFrame) (rest : List Value) (Qa : State → Outcome → State → Prop) (XC : String → State → State → Prop) (free : Addr → Prop) : Prop :=
  ∀ T : State, T.heap = H → Stand p l e R s m args below meth c T locs cells slots →
    (∃ (v : Option Value) (st₀ t T' : State) (L : List Loc), st₀.heap = H ∧ Stand p l e R s m args below meth c T' (locs ++ L) (cells + mc) (slots + ms) ∧ (∀ q ∈ L, free q.base) ∧ T'.heap = t.heap ∧ T'.vm = t.vm ∧ Qa st₀ (.returned v) t ∧
      Goes p e below T g T' { g with pc := g.pc + 3, stack := v.toList ++ rest }) ∨
    (∃ (q : Addr) (st₀ t T' : State) (L : List Loc) (E : String) (ce : Cell), st₀.heap = H ∧ Stand p l e R s m args below meth c T' (locs ++ L) (cells + mc) (slots + ms) ∧ (∀ z ∈ L, free z.base) ∧ T'.heap = t.heap ∧ T'.vm = t.vm ∧ XC E st₀ t ∧ t.heap[q]? = some ce ∧ ce.vm = .none ∧ s.vm.findClass E = some ce.cls ∧
      Steps p.tables e below (T.setTop g) ((T'.setTop { g with stack := rest }).pushFrame (.throwing q)))
def vx_X {S : Type} (px : S → Prop) (B : String → S → State → Prop) (A : Nat → Prop) : String → State → State → Prop := fun E st t => ∃ u : S, px u ∧ B E u t ∧ va_F A st t
section Runs
variable {p : Program} {l : Launch} {e : Env} {R : Room} {s : State} {m : MethodId} {args : Array Value} {below : List Frame} {meth : Method} {c : Code} {H : Heap} {locs : List Loc} {cells slots : Nat}
variable {y : MethodName} {bytes cc : ByteArray} {maxL nL mc ms n index : Nat} {ret : Option FieldType} {ws : List Cond} {rm : Room} {Pc : Array Value → State → Prop} {Qc : Array Value → State → Outcome → State → Prop} {XC : String → State → State → Prop} {free : Addr → Prop} {Ts : List Cond} {own C : String} {b : Addr} {As rest : List Value} {g : JFrame}
theorem vx_callBack (cb : CallB R s args own index y bytes maxL ret ws rm mc ms n) (hM : vx_Met l y ws rm Pc Qc XC mc ms free) (hbl : FrameBlind Pc) : vx_Back l R p e below s args y 3 8 (PreOf R mc ms Pc) (PostOf Qc mc ms free) (vx_Post XC mc ms free) := by
  obtain ⟨hrc, hrs, hfr, hlo, hws, hcw, -, hini, -⟩ := cb
  exact vx_back (bytes := bytes) (maxL := maxL) (ret := ret) hM hbl hrc hrs hfr hlo hws hcw (fun a' U hW => word_at hW (Or.inl (by first | rfl | simp [Cond.onTables, Cond.keeps, Cond.steady])) hini)
theorem vx_runV (S : CallFix p m c cc nL s args Ts own) (hM : vx_Met l y ws rm Pc Qc XC mc ms free) (cw : CallW R s args own C index y bytes maxL ret ws rm mc ms n) (hp : PreV s H C b Pc As)
    (hg : g.method = m) (hn : As.length = n) (hsize : g.locals.size = nL) (hstack : g.stack = As.reverse ++ .ref b :: rest) (hW : 2 * g.monitorRoom + (rest.map fun v => v.category).sum ≤ 8) (hdg : decode cc g.pc = .ok (.invokevirtual index, 3)) (hf : cells + mc ≤ R.cells ∧ slots + ms ≤ R.slots) :
    vx_Run p l e R s m args below meth c H locs cells slots mc ms g rest (Qc (Value.ref b :: As).toArray) XC free := by
  have hK : vx_Back l R p e below s args y 3 8 (PreOf R mc ms Pc) (PostOf Qc mc ms free) (vx_Post XC mc ms free) := vx_callBack cw.1 hM hp.1
  obtain ⟨⟨-, -, -, -, -, -, hcode, -, hy, hlen, hl⟩, hin, hse⟩ := cw
  obtain ⟨hx, hb, hml, ho, -⟩ := S
  obtain ⟨-, ⟨cellB, hcB, hoB, hclB⟩, hPc⟩ := hp
  intro T hT X
  rcases vx_callV X hx (C := C) (bytes := bytes) (maxL := maxL) (ret := ret) ho hl hin hse hcode hy hK (by rw [hT]; exact hcB) hoB hclB hg (hsize.trans hml.symm) (argsL := As) (rest := rest) (fun sig h => hn.trans (hlen sig h)) hstack hW (by rw [hb]; exact hdg)
    (fun vm₁ hW₁ => ⟨hf.1, hf.2, hPc (T.setVm vm₁) hT hW₁⟩) with ⟨v, vm₁, ⟨U', l2, c2, s2⟩, hW₁, X', ⟨g', mk, t, L, e1, e2, hq, h1, hL, h2, h3⟩, st⟩ | ⟨q, vm₁, ⟨U', l2, c2, s2⟩, hW₁, X', ⟨g', mk, t, L, E, ce, e1, e2, hq, hce, hcv, hcl, h1, hL, h2, h3⟩, st⟩
  · dsimp only [Pt.U, Pt.locs, Pt.cells, Pt.slots] at X' e1 e2 h1 h2 h3 st
    subst h1; subst h2; subst h3
    exact Or.inl ⟨v, (T.setVm vm₁).calling g' mk (Value.ref b :: As).toArray, t, U', L, hT, X', hL, e1, e2, hq, st⟩
  · dsimp only [Pt.U, Pt.locs, Pt.cells, Pt.slots] at X' e1 e2 h1 h2 h3 st hcl
    subst h1; subst h2; subst h3
    exact Or.inr ⟨q, (T.setVm vm₁).calling g' mk (Value.ref b :: As).toArray, t, U', L, E, ce, hT, X', hL, e1, e2, hq, hce, hcv, vx_cls hW₁ hcl, st⟩
theorem vx_runS (S : CallFix p m c cc nL s args Ts own) (hM : vx_Met l y ws rm Pc Qc XC mc ms free) (cw : CallB R s args own index y bytes maxL ret ws rm mc ms n ∧ (Cond.static y).before args s = true) (hp : PreS s H Pc As)
    (hg : g.method = m) (hn : As.length = n) (hsize : g.locals.size = nL) (hstack : g.stack = As.reverse ++ rest) (hW : 2 * g.monitorRoom + (rest.map fun v => v.category).sum ≤ 8) (hdg : decode cc g.pc = .ok (.invokestatic index, 3)) (hf : cells + mc ≤ R.cells ∧ slots + ms ≤ R.slots) :
    vx_Run p l e R s m args below meth c H locs cells slots mc ms g rest (Qc As.toArray) XC free := by
  have hK : vx_Back l R p e below s args y 3 8 (PreOf R mc ms Pc) (PostOf Qc mc ms free) (vx_Post XC mc ms free) := vx_callBack cw.1 hM hp.1
  obtain ⟨⟨-, -, -, -, -, -, hcode, hini, hy, hlen, hl⟩, hstt⟩ := cw
  obtain ⟨hx, hb, hml, ho, -⟩ := S
  intro T hT X
  rcases vx_callS X hx (bytes := bytes) (maxL := maxL) (ret := ret) ho hl hstt hini hcode hy hK hg (hsize.trans hml.symm) (argsL := As) (rest := rest) (fun sig h => hn.trans (hlen sig h)) hstack hW (by rw [hb]; exact hdg)
    (fun vm₁ hW₁ => ⟨hf.1, hf.2, hp.2 (T.setVm vm₁) hT hW₁⟩) with ⟨v, vm₁, ⟨U', l2, c2, s2⟩, hW₁, X', ⟨g', mk, t, L, e1, e2, hq, h1, hL, h2, h3⟩, st⟩ | ⟨q, vm₁, ⟨U', l2, c2, s2⟩, hW₁, X', ⟨g', mk, t, L, E, ce, e1, e2, hq, hce, hcv, hcl, h1, hL, h2, h3⟩, st⟩
  · dsimp only [Pt.U, Pt.locs, Pt.cells, Pt.slots] at X' e1 e2 h1 h2 h3 st
    subst h1; subst h2; subst h3
    exact Or.inl ⟨v, (T.setVm vm₁).calling g' mk As.toArray, t, U', L, hT, X', hL, e1, e2, hq, st⟩
  · dsimp only [Pt.U, Pt.locs, Pt.cells, Pt.slots] at X' e1 e2 h1 h2 h3 st hcl
    subst h1; subst h2; subst h3
    exact Or.inr ⟨q, (T.setVm vm₁).calling g' mk As.toArray, t, U', L, E, ce, hT, X', hL, e1, e2, hq, hce, hcv, vx_cls hW₁ hcl, st⟩
end Runs
section Rows
variable {p : Program} {l : Launch} {e : Env} {R : Room} {s : State} {m : MethodId} {args : Array Value} {below : List Frame} {meth : Method} {c : Code} {H : Heap} {locs : List Loc} {cells slots : Nat} {Q : State → Prop}
variable {mc ms : Nat} {free : Addr → Prop} {A0 A1 : Nat → Prop} {H0 : Heap} {a : Array Value} {pc : Nat} {ls : Array Slot} {st0 rest : List Value}
theorem vx_keep {st₀ t T' : State} {L : List Loc} (h0 : st₀.heap = H) (e1 : T'.heap = t.heap) (hS : va_S A0 H0 H locs) (hA : ∀ q, q < H.size → A1 q → A0 q) (hf : ∀ q, free q → A0 q) (hL : ∀ q ∈ L, free q.base) (hF : va_F A1 st₀ t) :
    H.size ≤ T'.heap.size ∧ (∀ q : Nat, q < H.size → ¬ A1 q → T'.heap[q]? = H[q]?) ∧ va_S A0 H0 T'.heap (locs ++ L) := by
  obtain ⟨hz, hk⟩ := hF
  rw [h0] at hz hk
  exact ⟨by rw [e1]; exact hz, fun q h1 h2 => by rw [e1]; exact hk q h1 h2,
    ⟨Nat.le_trans hS.1 (by rw [e1]; exact hz), fun q h1 h2 => by rw [e1, hk q (Nat.lt_of_lt_of_le h1 hS.1) (fun z => h2 (hA q (Nat.lt_of_lt_of_le h1 hS.1) z))]; exact hS.2.1 q h1 h2, fun q hq => by
      rcases List.mem_append.mp hq with h | h
      · exact hS.2.2 q h
      · exact hf _ (hL q h)⟩⟩
theorem vx_calli {S SX : Type} {post : Int32 → S → Prop} {px : SX → Prop} {B : S → State → Prop} {BX : String → SX → State → Prop} {AX : Nat → Prop} (hr : vx_Run p l e R s m args below meth c H locs cells slots mc ms (F0 m pc ls st0) rest (va_Qi post B A1 a) (vx_X px BX AX) free) (hS : va_S A0 H0 H locs) (hA : ∀ q, q < H.size → A1 q → A0 q) (hf : ∀ q, free q → A0 q) (hAX : ∀ q, q < H.size → AX q → A0 q)
    (kx : ∀ (E : String) (ce : Cell) (q9 : Addr) (u : SX) (t : State) (H1 : Heap) (locs1 : List Loc), t.heap = H1 → s.vm.Alike t.vm → px u → BX E u t → H.size ≤ H1.size → (∀ q : Nat, q < H.size → ¬ AX q → H1[q]? = H[q]?) → va_S A0 H0 H1 locs1 → H1[q9]? = some ce → ce.vm = .none → s.vm.findClass E = some ce.cls → vx_W p l e R s m args below meth c H1 locs1 (cells + mc) (slots + ms) Q (F0 m pc ls rest) q9)
    (kk : ∀ (r : Int32) (u : S) (t : State) (H1 : Heap) (locs1 : List Loc), t.heap = H1 → s.vm.Alike t.vm → post r u → B u t → H.size ≤ H1.size → (∀ q : Nat, q < H.size → ¬ A1 q → H1[q]? = H[q]?) → va_S A0 H0 H1 locs1 → W p l e R s m args below meth c H1 locs1 (cells + mc) (slots + ms) Q (F0 m (pc + 3) ls (.int r :: rest))) : W p l e R s m args below meth c H locs cells slots Q (F0 m pc ls st0) := by
  intro T hT X
  rcases hr T hT X with ⟨v, st₀, t, T', L, h0, X', hL, e1, e2, ⟨⟨r, u, hv, hp, hb⟩, hF⟩, st⟩ | ⟨q, st₀, t, T', L, E, ce, h0, X', hL, e1, e2, ⟨u, hp, hb, hF⟩, hce, hcv, hcl, st⟩
  · cases hv
    obtain ⟨k1, k2, k3⟩ := vx_keep h0 e1 hS hA hf hL hF
    obtain ⟨t2, a1, b1⟩ := kk r u t T'.heap (locs ++ L) e1.symm (by rw [← e2]; exact X'.warmed.alike) hp hb k1 k2 k3 T' rfl X'
    exact ⟨t2, st t2 a1, b1⟩
  · obtain ⟨k1, k2, k3⟩ := vx_keep h0 e1 hS hAX hf hL hF
    obtain ⟨t2, a1, b1⟩ := kx E ce q u t T'.heap (locs ++ L) e1.symm (by rw [← e2]; exact X'.warmed.alike) hp hb k1 k2 k3 (by rw [e1]; exact hce) hcv hcl T' rfl X'
    exact ⟨t2, st.trans a1, b1⟩
theorem vx_calll {S SX : Type} {post : Int64 → S → Prop} {px : SX → Prop} {B : S → State → Prop} {BX : String → SX → State → Prop} {AX : Nat → Prop} (hr : vx_Run p l e R s m args below meth c H locs cells slots mc ms (F0 m pc ls st0) rest (va_Ql post B A1 a) (vx_X px BX AX) free) (hS : va_S A0 H0 H locs) (hA : ∀ q, q < H.size → A1 q → A0 q) (hf : ∀ q, free q → A0 q) (hAX : ∀ q, q < H.size → AX q → A0 q)
    (kx : ∀ (E : String) (ce : Cell) (q9 : Addr) (u : SX) (t : State) (H1 : Heap) (locs1 : List Loc), t.heap = H1 → s.vm.Alike t.vm → px u → BX E u t → H.size ≤ H1.size → (∀ q : Nat, q < H.size → ¬ AX q → H1[q]? = H[q]?) → va_S A0 H0 H1 locs1 → H1[q9]? = some ce → ce.vm = .none → s.vm.findClass E = some ce.cls → vx_W p l e R s m args below meth c H1 locs1 (cells + mc) (slots + ms) Q (F0 m pc ls rest) q9)
    (kk : ∀ (r : Int64) (u : S) (t : State) (H1 : Heap) (locs1 : List Loc), t.heap = H1 → s.vm.Alike t.vm → post r u → B u t → H.size ≤ H1.size → (∀ q : Nat, q < H.size → ¬ A1 q → H1[q]? = H[q]?) → va_S A0 H0 H1 locs1 → W p l e R s m args below meth c H1 locs1 (cells + mc) (slots + ms) Q (F0 m (pc + 3) ls (.long r :: rest))) : W p l e R s m args below meth c H locs cells slots Q (F0 m pc ls st0) := by
  intro T hT X
  rcases hr T hT X with ⟨v, st₀, t, T', L, h0, X', hL, e1, e2, ⟨⟨r, u, hv, hp, hb⟩, hF⟩, st⟩ | ⟨q, st₀, t, T', L, E, ce, h0, X', hL, e1, e2, ⟨u, hp, hb, hF⟩, hce, hcv, hcl, st⟩
  · cases hv
    obtain ⟨k1, k2, k3⟩ := vx_keep h0 e1 hS hA hf hL hF
    obtain ⟨t2, a1, b1⟩ := kk r u t T'.heap (locs ++ L) e1.symm (by rw [← e2]; exact X'.warmed.alike) hp hb k1 k2 k3 T' rfl X'
    exact ⟨t2, st t2 a1, b1⟩
  · obtain ⟨k1, k2, k3⟩ := vx_keep h0 e1 hS hAX hf hL hF
    obtain ⟨t2, a1, b1⟩ := kx E ce q u t T'.heap (locs ++ L) e1.symm (by rw [← e2]; exact X'.warmed.alike) hp hb k1 k2 k3 (by rw [e1]; exact hce) hcv hcl T' rfl X'
    exact ⟨t2, st.trans a1, b1⟩
theorem vx_callf {S SX : Type} {post : UInt32 → S → Prop} {px : SX → Prop} {B : S → State → Prop} {BX : String → SX → State → Prop} {AX : Nat → Prop} (hr : vx_Run p l e R s m args below meth c H locs cells slots mc ms (F0 m pc ls st0) rest (va_Qf post B A1 a) (vx_X px BX AX) free) (hS : va_S A0 H0 H locs) (hA : ∀ q, q < H.size → A1 q → A0 q) (hf : ∀ q, free q → A0 q) (hAX : ∀ q, q < H.size → AX q → A0 q)
    (kx : ∀ (E : String) (ce : Cell) (q9 : Addr) (u : SX) (t : State) (H1 : Heap) (locs1 : List Loc), t.heap = H1 → s.vm.Alike t.vm → px u → BX E u t → H.size ≤ H1.size → (∀ q : Nat, q < H.size → ¬ AX q → H1[q]? = H[q]?) → va_S A0 H0 H1 locs1 → H1[q9]? = some ce → ce.vm = .none → s.vm.findClass E = some ce.cls → vx_W p l e R s m args below meth c H1 locs1 (cells + mc) (slots + ms) Q (F0 m pc ls rest) q9)
    (kk : ∀ (r : UInt32) (u : S) (t : State) (H1 : Heap) (locs1 : List Loc), t.heap = H1 → s.vm.Alike t.vm → post r u → B u t → H.size ≤ H1.size → (∀ q : Nat, q < H.size → ¬ A1 q → H1[q]? = H[q]?) → va_S A0 H0 H1 locs1 → W p l e R s m args below meth c H1 locs1 (cells + mc) (slots + ms) Q (F0 m (pc + 3) ls (.float r :: rest))) : W p l e R s m args below meth c H locs cells slots Q (F0 m pc ls st0) := by
  intro T hT X
  rcases hr T hT X with ⟨v, st₀, t, T', L, h0, X', hL, e1, e2, ⟨⟨r, u, hv, hp, hb⟩, hF⟩, st⟩ | ⟨q, st₀, t, T', L, E, ce, h0, X', hL, e1, e2, ⟨u, hp, hb, hF⟩, hce, hcv, hcl, st⟩
  · cases hv
    obtain ⟨k1, k2, k3⟩ := vx_keep h0 e1 hS hA hf hL hF
    obtain ⟨t2, a1, b1⟩ := kk r u t T'.heap (locs ++ L) e1.symm (by rw [← e2]; exact X'.warmed.alike) hp hb k1 k2 k3 T' rfl X'
    exact ⟨t2, st t2 a1, b1⟩
  · obtain ⟨k1, k2, k3⟩ := vx_keep h0 e1 hS hAX hf hL hF
    obtain ⟨t2, a1, b1⟩ := kx E ce q u t T'.heap (locs ++ L) e1.symm (by rw [← e2]; exact X'.warmed.alike) hp hb k1 k2 k3 (by rw [e1]; exact hce) hcv hcl T' rfl X'
    exact ⟨t2, st.trans a1, b1⟩
theorem vx_calld {S SX : Type} {post : UInt64 → S → Prop} {px : SX → Prop} {B : S → State → Prop} {BX : String → SX → State → Prop} {AX : Nat → Prop} (hr : vx_Run p l e R s m args below meth c H locs cells slots mc ms (F0 m pc ls st0) rest (va_Qd post B A1 a) (vx_X px BX AX) free) (hS : va_S A0 H0 H locs) (hA : ∀ q, q < H.size → A1 q → A0 q) (hf : ∀ q, free q → A0 q) (hAX : ∀ q, q < H.size → AX q → A0 q)
    (kx : ∀ (E : String) (ce : Cell) (q9 : Addr) (u : SX) (t : State) (H1 : Heap) (locs1 : List Loc), t.heap = H1 → s.vm.Alike t.vm → px u → BX E u t → H.size ≤ H1.size → (∀ q : Nat, q < H.size → ¬ AX q → H1[q]? = H[q]?) → va_S A0 H0 H1 locs1 → H1[q9]? = some ce → ce.vm = .none → s.vm.findClass E = some ce.cls → vx_W p l e R s m args below meth c H1 locs1 (cells + mc) (slots + ms) Q (F0 m pc ls rest) q9)
    (kk : ∀ (r : UInt64) (u : S) (t : State) (H1 : Heap) (locs1 : List Loc), t.heap = H1 → s.vm.Alike t.vm → post r u → B u t → H.size ≤ H1.size → (∀ q : Nat, q < H.size → ¬ A1 q → H1[q]? = H[q]?) → va_S A0 H0 H1 locs1 → W p l e R s m args below meth c H1 locs1 (cells + mc) (slots + ms) Q (F0 m (pc + 3) ls (.double r :: rest))) : W p l e R s m args below meth c H locs cells slots Q (F0 m pc ls st0) := by
  intro T hT X
  rcases hr T hT X with ⟨v, st₀, t, T', L, h0, X', hL, e1, e2, ⟨⟨r, u, hv, hp, hb⟩, hF⟩, st⟩ | ⟨q, st₀, t, T', L, E, ce, h0, X', hL, e1, e2, ⟨u, hp, hb, hF⟩, hce, hcv, hcl, st⟩
  · cases hv
    obtain ⟨k1, k2, k3⟩ := vx_keep h0 e1 hS hA hf hL hF
    obtain ⟨t2, a1, b1⟩ := kk r u t T'.heap (locs ++ L) e1.symm (by rw [← e2]; exact X'.warmed.alike) hp hb k1 k2 k3 T' rfl X'
    exact ⟨t2, st t2 a1, b1⟩
  · obtain ⟨k1, k2, k3⟩ := vx_keep h0 e1 hS hAX hf hL hF
    obtain ⟨t2, a1, b1⟩ := kx E ce q u t T'.heap (locs ++ L) e1.symm (by rw [← e2]; exact X'.warmed.alike) hp hb k1 k2 k3 (by rw [e1]; exact hce) hcv hcl T' rfl X'
    exact ⟨t2, st.trans a1, b1⟩
theorem vx_callv {S SX : Type} {post : S → Prop} {px : SX → Prop} {B : S → State → Prop} {BX : String → SX → State → Prop} {AX : Nat → Prop} (hr : vx_Run p l e R s m args below meth c H locs cells slots mc ms (F0 m pc ls st0) rest (va_Qv post B A1 a) (vx_X px BX AX) free) (hS : va_S A0 H0 H locs) (hA : ∀ q, q < H.size → A1 q → A0 q) (hf : ∀ q, free q → A0 q) (hAX : ∀ q, q < H.size → AX q → A0 q)
    (kx : ∀ (E : String) (ce : Cell) (q9 : Addr) (u : SX) (t : State) (H1 : Heap) (locs1 : List Loc), t.heap = H1 → s.vm.Alike t.vm → px u → BX E u t → H.size ≤ H1.size → (∀ q : Nat, q < H.size → ¬ AX q → H1[q]? = H[q]?) → va_S A0 H0 H1 locs1 → H1[q9]? = some ce → ce.vm = .none → s.vm.findClass E = some ce.cls → vx_W p l e R s m args below meth c H1 locs1 (cells + mc) (slots + ms) Q (F0 m pc ls rest) q9)
    (kk : ∀ (u : S) (t : State) (H1 : Heap) (locs1 : List Loc), t.heap = H1 → s.vm.Alike t.vm → post u → B u t → H.size ≤ H1.size → (∀ q : Nat, q < H.size → ¬ A1 q → H1[q]? = H[q]?) → va_S A0 H0 H1 locs1 → W p l e R s m args below meth c H1 locs1 (cells + mc) (slots + ms) Q (F0 m (pc + 3) ls (rest))) : W p l e R s m args below meth c H locs cells slots Q (F0 m pc ls st0) := by
  intro T hT X
  rcases hr T hT X with ⟨v, st₀, t, T', L, h0, X', hL, e1, e2, ⟨⟨u, hv, hp, hb⟩, hF⟩, st⟩ | ⟨q, st₀, t, T', L, E, ce, h0, X', hL, e1, e2, ⟨u, hp, hb, hF⟩, hce, hcv, hcl, st⟩
  · cases hv
    obtain ⟨k1, k2, k3⟩ := vx_keep h0 e1 hS hA hf hL hF
    obtain ⟨t2, a1, b1⟩ := kk u t T'.heap (locs ++ L) e1.symm (by rw [← e2]; exact X'.warmed.alike) hp hb k1 k2 k3 T' rfl X'
    exact ⟨t2, st t2 a1, b1⟩
  · obtain ⟨k1, k2, k3⟩ := vx_keep h0 e1 hS hAX hf hL hF
    obtain ⟨t2, a1, b1⟩ := kx E ce q u t T'.heap (locs ++ L) e1.symm (by rw [← e2]; exact X'.warmed.alike) hp hb k1 k2 k3 (by rw [e1]; exact hce) hcv hcl T' rfl X'
    exact ⟨t2, st.trans a1, b1⟩
/-- caught by the row x of this method's table; the rows ahead don't take it -/
theorem vx_catch {own name : String} {E : String} {ce : Cell} {q : Addr} (hown : s.vm.findClass own = some m.cls) (pre : List ExceptionTableEntry) (x : ExceptionTableEntry) (suf : List ExceptionTableEntry) (hsplit : c.exceptionTable.toList = pre ++ x :: suf)
    (hpass : ∀ z ∈ pre, covers z pc = false ∨ (z.catchType ≠ 0 ∧ ∃ nm : String, (Cond.classLink own z.catchType nm).before args s = true ∧ va_Nc E nm s)) (hx : covers x pc = true) (h0 : x.catchType ≠ 0)
    (hlink : (Cond.classLink own x.catchType name).before args s = true) (hcast : (Cond.castable E name).before args s = true) (hcell : H[q]? = some ce) (hv : ce.vm = .none) (hcl : s.vm.findClass E = some ce.cls)
    (kk : W p l e R s m args below meth c H locs cells slots Q (F0 m x.handlerPc ls [.ref q])) : vx_W p l e R s m args below meth c H locs cells slots Q (F0 m pc ls rest) q := by
  intro T hT X
  have hpl : e.platform.magicAccessors = ({} : Platform).magicAccessors := by rw [X.admits.platform]
  obtain ⟨c3, c4, hc3, hc4, hasg⟩ := Cond.castable_spec hcast
  cases Option.some.inj (hc3.symm.trans hcl)
  obtain ⟨c5, hc5, hcl5⟩ := Cond.classLink_spec hown hlink e.platform hpl
  cases Option.some.inj (hc4.symm.trans hc5)
  obtain ⟨vm', X', st⟩ := X.thenCaughtThrough q (g := F0 m pc ls rest) rfl (Steps.refl _) (by rw [hT]; exact hcell) (by rw [hv]; rfl) (by obtain ⟨k9, h9, -⟩ := Vm.findClass_spec hcl; exact ⟨k9, h9⟩) pre x suf hsplit
    (fun z hz => by
      rcases hpass z hz with h | ⟨hz0, nm, hl1, hn1⟩
      · exact Or.inl h
      · obtain ⟨c6, hc6, hcl6⟩ := Cond.classLink_spec hown hl1 e.platform hpl
        obtain ⟨a8, b8, h1, h2, h3⟩ := hn1
        cases Option.some.inj (h1.symm.trans hcl)
        cases Option.some.inj (h2.symm.trans hc6)
        exact Or.inr ⟨hz0, _, hcl6, h3⟩) hx (Or.inr ⟨h0, c4, hcl5, hasg⟩)
  obtain ⟨t, a1, b1⟩ := kk (T.setVm vm') hT X'
  exact ⟨t, st.trans a1, b1⟩
end Rows
section Ends
variable {p : Program} {l : Launch} {e : Env} {R : Room} {s : State} {m : MethodId} {args : Array Value} {below : List Frame} {meth : Method} {c : Code} {H : Heap} {locs : List Loc} {cells slots : Nat} {Q : State → Prop}
variable {mc ms : Nat} {free : Addr → Prop} {A0 A1 : Nat → Prop} {H0 : Heap} {a : Array Value} {ls : Array Slot} {st0 rest : List Value}
variable {Qc : Array Value → State → Outcome → State → Prop} {XC : String → State → State → Prop}
/-- what a body that may throw owes at its end -/
def vx_MQ (below : List Frame) (Qc : Array Value → State → Outcome → State → Prop) (XC : String → State → State → Prop) (a : Array Value) (s : State) (mc ms : Nat) (free : Addr → Prop) : State → Prop := fun t =>
  ∃ o, t.status = .running ∧ Ended t below o ∧ vx_Q Qc XC mc ms free a s o t
theorem vx_ret {g : JFrame} {mc ms : Nat} (k : W p l e R s m args below meth c H locs cells slots (MQ below Qc args s mc ms free) g) : W p l e R s m args below meth c H locs cells slots (vx_MQ below Qc XC args s mc ms free) g := by
  intro T hT X
  obtain ⟨t, a1, o, b1, b2, b3, b4⟩ := k T hT X
  exact ⟨t, a1, o, b1, b2, Or.inl ⟨b3, b4⟩⟩
/-- not caught here: it goes on to the caller -/
theorem vx_widen {g : JFrame} {q : Addr} {k n : Nat} (h1 : cells ≤ k) (h2 : slots ≤ n) (kk : vx_W p l e R s m args below meth c H locs k n Q g q) : vx_W p l e R s m args below meth c H locs cells slots Q g q := fun T hT X => kk T hT (stand_widen X h1 h2)
theorem vx_out {pc : Nat} {E : String} {ce : Cell} {q : Addr} {mc ms : Nat} (hout : ∀ x ∈ c.exceptionTable.toList, covers x pc = false) (hlocks : meth.locks = false) (hcell : H[q]? = some ce) (hv : ce.vm = .none) (hcl : s.vm.findClass E = some ce.cls)
    (hx : ∀ t : State, t.heap = H → s.vm.Alike t.vm → XC E s t) (hf : ∀ z ∈ locs, free z.base) (hc : cells ≤ mc) (hs : slots ≤ ms) :
    vx_W p l e R s m args below meth c H locs cells slots (vx_MQ below Qc XC args s mc ms free) (F0 m pc ls rest) q := by
  intro T hT X
  obtain ⟨st1, hrun, hend, hW, hsm⟩ := X.leaveThrown q (g := F0 m pc ls rest) rfl rfl rfl hout hlocks
  have hcell9 : (T.setFrames (.throwing q :: below)).heap[q]? = some ce := by
    show T.heap[q]? = some ce
    rw [hT]; exact hcell
  exact ⟨_, st1, .threw q, hrun, hend, Or.inr ⟨q, rfl, E, ce, locs, hx _ hT hW.alike, hcell9, hv, hcl, hW, hsm.mono hc hs, hf⟩⟩
theorem vx_frame {U : State} {k n : Nat} (h : s.sameButNew ({ U with vm := s.vm } : State) locs k n) : s.heap.size ≤ U.heap.size ∧ ∀ q : Nat, q < s.heap.size → (∀ z ∈ locs, z.base ≠ q) → U.heap[q]? = s.heap[q]? := by
  obtain ⟨-, h2, -, -, -, h6⟩ := h
  refine ⟨h2, fun q hq hz => ?_⟩
  obtain ⟨c9, e1, e2, e3, e4⟩ := h6 q _ (Array.getElem?_eq_getElem hq)
  have hs : c9.slots = (s.heap[q]).slots := Array.ext_getElem? fun i => e4 i fun hm => hz _ hm rfl
  have h9 : c9 = s.heap[q] := by
    rw [hs] at e2
    exact e2
  have e5 : U.heap[q]? = some c9 := e1
  rw [e5, h9, Array.getElem?_eq_getElem hq]
/-- the words of a throw but the four that speak of the heap -/
def vx_no (w : Cond) : Bool := decide (w ≠ .isRef (.static Bundle.tN "UNASSIGNED_STACK" Bundle.steD)) && decide (w ≠ .isRef (.static Bundle.tN "SUPPRESSED_SENTINEL" Bundle.listD)) && decide (w ≠ .laysStatic Bundle.tN "UNASSIGNED_STACK" Bundle.steD) && decide (w ≠ .laysStatic Bundle.tN "SUPPRESSED_SENTINEL" Bundle.listD)
def vx_at0 (own : String) (ic : Nat) (X : String) (names : List String) : List Cond := (Bundle.ownAtoms0 own ic X names).filter vx_no
def vx_atS (own : String) (ic : Nat) (X : String) (names : List String) : List Cond := (Bundle.ownAtoms own ic X names).filter vx_no
/-- a word that the tables alone decide, or a good one -/
def vx_ot (w : Cond) : Bool := w.onTables || goodWord w
theorem vx_ot_at {args a' : Array Value} {s U : State} {w : Cond} (hW : s.WarmedH U.vm) (hvm : s.vm = U.vm) (hg : vx_ot w = true) (h : w.before args s = true) : w.before a' U = true := by
  simp only [vx_ot, Bool.or_eq_true] at hg
  rcases hg with hg | hg
  · exact va_tabs hg hvm h
  · exact word_at hW (good_of_word hg) h
/-- a list's words: the good ones out of the method's own list, the others by premises of their own -/
theorem vx_hat {args : Array Value} {s : State} {L B : List Cond} (h1 : ∀ w ∈ L.filter goodWord, w.before args s = true) (h2 : ∀ w ∈ L.filter (fun w => !goodWord w), w ∈ B) (h3 : ∀ w ∈ B, w.before args s = true) : ∀ w ∈ L, w.before args s = true := by
  intro w hw
  by_cases g : goodWord w = true
  · exact h1 w (List.mem_filter.mpr ⟨hw, g⟩)
  · refine h3 w (h2 w (List.mem_filter.mpr ⟨hw, ?_⟩))
    show (!goodWord w) = true
    cases hgw : goodWord w
    · rfl
    · exact absurd hgw g
theorem vx_c {args : Array Value} {s : State} {w : Cond} {B : List Cond} (h : w.before args s = true) (t : ∀ w ∈ B, w.before args s = true) : ∀ w' ∈ w :: B, w'.before args s = true := fun w' h' => (List.mem_cons.mp h').elim (fun e => by rw [e]; exact h) (t w')
theorem vx_n {args : Array Value} {s : State} : ∀ w ∈ ([] : List Cond), w.before args s = true := fun _ h => nomatch h
theorem vx_own {args : Array Value} {s : State} {L : List Cond} (h1 : ∀ w ∈ L.filter vx_no, w.before args s = true)
    (hU : (Cond.isRef (.static Bundle.tN "UNASSIGNED_STACK" Bundle.steD)).before args s = true) (hN : (Cond.isRef (.static Bundle.tN "SUPPRESSED_SENTINEL" Bundle.listD)).before args s = true)
    (lU : (Cond.laysStatic Bundle.tN "UNASSIGNED_STACK" Bundle.steD).before args s = true) (lN : (Cond.laysStatic Bundle.tN "SUPPRESSED_SENTINEL" Bundle.listD).before args s = true) : ∀ w ∈ L, w.before args s = true := by
  intro w hw
  by_cases e1 : w = .isRef (.static Bundle.tN "UNASSIGNED_STACK" Bundle.steD)
  · rw [e1]; exact hU
  · by_cases e2 : w = .isRef (.static Bundle.tN "SUPPRESSED_SENTINEL" Bundle.listD)
    · rw [e2]; exact hN
    · by_cases e3 : w = .laysStatic Bundle.tN "UNASSIGNED_STACK" Bundle.steD
      · rw [e3]; exact lU
      · by_cases e4 : w = .laysStatic Bundle.tN "SUPPRESSED_SENTINEL" Bundle.listD
        · rw [e4]; exact lN
        · exact h1 w (List.mem_filter.mpr ⟨hw, by unfold vx_no; rw [decide_eq_true e1, decide_eq_true e2, decide_eq_true e3, decide_eq_true e4]; rfl⟩)
/-- where a static field lies, its class's statics cell in H -/
def vx_L (C n d : String) (A : Nat → Prop) (U : State) (H : Heap) : Prop := ∃ (c : ClassId) (k : Class) (i : Nat) (f : Field) (a : Nat) (cell : Cell), U.vm.findClass C = some c ∧ U.fieldFound? C n d = some (c, k, i, f) ∧ f.isStatic = true ∧ k.statics = some a ∧ H[a]? = some cell ∧ cell.vm.isStatics = true ∧ cell.cls = c ∧ f.slot < cell.slots.size ∧ k.staticTypes[f.slot]? = some f.type ∧ ¬ A a
theorem vx_L.moved {C n d : String} {A : Nat → Prop} {u U : State} {H : Heap} (hvm : u.vm.Alike U.vm) (h : vx_L C n d A u H) : vx_L C n d A U H := by
  obtain ⟨c, k, i, f, a, cell, h1, h2, h3, h4, h5, h6, h7, h8, h9, h10⟩ := h
  obtain ⟨k', hi', he⟩ := State.fieldFound?_setVm hvm h2
  exact ⟨c, k', i, f, a, cell, by rw [hvm.findClass]; exact h1, hi', h3, by rw [he]; exact h4, h5, h6, h7, h8, by rw [he]; exact h9, h10⟩
theorem vx_L.kept {C n d : String} {A : Nat → Prop} {U : State} {H H1 : Heap} (h : vx_L C n d A U H) (hq : ∀ a : Nat, a < H.size → ¬ A a → H1[a]? = H[a]?) : vx_L C n d A U H1 := by
  obtain ⟨c, k, i, f, a, cell, h1, h2, h3, h4, h5, h6, h7, h8, h9, h10⟩ := h
  exact ⟨c, k, i, f, a, cell, h1, h2, h3, h4, by rw [hq a (Array.getElem?_eq_some_iff.mp h5).1 h10]; exact h5, h6, h7, h8, h9, h10⟩
theorem vx_L.narrow {C n d : String} {A B : Nat → Prop} {U : State} {H : Heap} (h : vx_L C n d A U H) (hAB : ∀ q, B q → A q) : vx_L C n d B U H := by
  obtain ⟨c, k, i, f, a, cell, h1, h2, h3, h4, h5, h6, h7, h8, h9, h10⟩ := h
  exact ⟨c, k, i, f, a, cell, h1, h2, h3, h4, h5, h6, h7, h8, h9, fun z => h10 (hAB _ z)⟩
theorem vx_L.word {C n d : String} {A : Nat → Prop} {s : State} {args : Array Value} (h : vx_L C n d A s s.heap) : (Cond.laysStatic C n d).before args s = true := by
  obtain ⟨c, k, i, f, a, cell, h1, h2, h3, h4, h5, h6, h7, h8, h9, -⟩ := h
  show (Cond.laysStatic C n d).holds args s none s [] = true
  exact Cond.laysStatic_of h1 h2 h3 h4 h5 h6 h7 h8 h9
/-- .. and what it holds: null or some reference -/
def vx_Zq (C n d : String) (A : Nat → Prop) (U : State) (H : Heap) : Prop := va_Zq C n d A U H ∧ vx_L C n d A U H
theorem vx_Zq.moved {C n d : String} {A : Nat → Prop} {u U : State} {H : Heap} (hvm : u.vm.Alike U.vm) (h : vx_Zq C n d A u H) : vx_Zq C n d A U H := ⟨va_Zq.moved hvm h.1, vx_L.moved hvm h.2⟩
theorem vx_Zq.kept {C n d : String} {A : Nat → Prop} {U : State} {H H1 : Heap} (h : vx_Zq C n d A U H) (hq : ∀ a : Nat, a < H.size → ¬ A a → H1[a]? = H[a]?) : vx_Zq C n d A U H1 := ⟨va_Zq.kept h.1 hq, vx_L.kept h.2 hq⟩
theorem vx_Zq.narrow {C n d : String} {A B : Nat → Prop} {U : State} {H : Heap} (h : vx_Zq C n d A U H) (hAB : ∀ q, B q → A q) : vx_Zq C n d B U H := ⟨va_Zq.narrow h.1 hAB, vx_L.narrow h.2 hAB⟩
theorem vx_Zqof {args : Array Value} {s : State} {C n d : String} {A : Nat → Prop} (hl : (Cond.laysStatic C n d).before args s = true) (hini : (Cond.initialized C).before args s = true) (h : (Cond.isRef (.static C n d)).before args s = true) (hA : ∀ a : Nat, a < s.heap.size → ¬ A a) : vx_Zq C n d A s s.heap := by
  refine ⟨va_Zqof hl hini h hA, ?_⟩
  obtain ⟨c, k, i, f, a, cell, h1, h2, h3, h4, h5, h6, h7, h8, h9⟩ := Cond.laysStatic_spec hl
  exact ⟨c, k, i, f, a, cell, h1, h2, h3, h4, h5, h6, h7, h8, h9, hA a (Array.getElem?_eq_some_iff.mp h5).1⟩
theorem vx_isRef {C n d : String} {v : Value} {A : Nat → Prop} {s : State} {args : Array Value} (h : va_Z C n d v A s s.heap) (hv : v.isRef = true) : (Cond.isRef (.static C n d)).before args s = true := by
  obtain ⟨cf, kf, fi, f, a, cell, h1, h2, h3, h4, h5, h6, h7, -⟩ := h
  have he : (Term.static C n d).eval args s none [] s = some v := by
    simp [Term.eval, State.fieldNamed?, h1, h2, h4, h5, h6, h7]
  simp only [Cond.before, Cond.holds, Cond.value, he]
  cases v <;> simp_all [Value.isRef]
theorem vx_isRefq {C n d : String} {A : Nat → Prop} {s : State} {args : Array Value} (h : va_Zq C n d A s s.heap) : (Cond.isRef (.static C n d)).before args s = true := by
  rcases h with h | ⟨t, h⟩
  · exact vx_isRef h rfl
  · exact vx_isRef h rfl
/-- the same frame, seen from here: as if the method were called anew in this heap -/
theorem vx_rebase {T : State} (X : Stand p l e R s m args below meth c T locs cells slots) {R' : Room} (hf : R'.frames ≤ R.frames) (hl : R'.locals ≤ R.locals) (hc : cells + R'.cells ≤ R.cells) (hs : slots + R'.slots ≤ R.slots) :
    Stand p l e R' ((T.setVm s.vm).setFrames (.invoking m args :: below)) m args below meth c T [] 0 0 := by
  have htop : (T.setVm s.vm).topJava?.isSome := X.here.top
  have hF : ((T.setVm s.vm).setFrames (.invoking m args :: below)).frames = .invoking m args :: below := State.frames_setFrames _ (State.cur_lt_of_top htop)
  obtain ⟨g₀, hg0⟩ := Option.isSome_iff_exists.mp htop
  obtain ⟨r, hr⟩ := State.topJava?_eq_some.mp hg0
  have hl9 : e.platform.stackLimits (T.setVm s.vm).me = e.platform.stackLimits s.me := X.limits
  have hb9 : (T.setVm s.vm).me.stackBytes = s.me.stackBytes := X.bytes
  refine ⟨X.admits, X.cas, X.clock, hF, ?_, X.hears, X.method, X.code, X.here, X.tail, X.warmed, ?_, ?_, ?_⟩
  · have h := X.room
    have hU : ((T.setVm s.vm).setFrames (.invoking m args :: below)).localsInUse = s.localsInUse := by
      rw [State.localsInUse_invoking hF (meth := meth) (c := c) X.method X.code, State.localsInUse_invoking X.frames X.method X.code]
    simp only [State.hasRoom, Bool.and_eq_true, decide_eq_true_eq] at h ⊢
    obtain ⟨⟨⟨⟨h1, h2, h3, h4, h5, h6⟩, h7⟩, h8⟩, h9⟩ := h
    rw [X.frames, List.length_cons] at h2 h3
    have q1 := X.heapSize
    have q2 := X.used
    simp only [hF, hU, List.length_cons, State.stackLimits_setFrames, State.stackBytes_setFrames, hl9, hb9]
    refine ⟨⟨⟨⟨by omega, by omega, by omega, by omega, by omega, h6⟩, ?_⟩, ?_⟩, X.book⟩
    · show T.heap.size + R'.cells ≤ e.platform.maxCells
      omega
    · show T.slotsUsed + R'.slots ≤ e.platform.maxSlots
      omega
  · rw [State.stackLimits_setFrames]; rfl
  · rw [State.stackBytes_setFrames]; rfl
  · refine ⟨?_, Nat.le_refl _, Nat.le_refl _, ?_, ?_, fun a c9 h9 => ⟨c9, h9, rfl, rfl, fun _ _ => rfl⟩⟩
    · obtain ⟨t, ht, -⟩ := State.frames_cons hr
      show T.setVm s.vm = { ((T.setVm s.vm).setFrames (.invoking m args :: below)).setFrames (T.setVm s.vm).frames with heap := T.heap, slotsUsed := T.slotsUsed }
      rw [State.setFrames_setFrames, State.setFrames_self ht]
      rfl
    · show T.slotsUsed = T.slotsUsed + ((T.heap.toList.drop T.heap.size).map (·.slots.size)).sum
      rw [List.drop_eq_nil_of_le (Nat.le_of_eq Array.length_toList)]
      rfl
    · show ((T.heap.toList.drop T.heap.size).map (·.slots.size)).sum ≤ 0
      rw [List.drop_eq_nil_of_le (Nat.le_of_eq Array.length_toList)]
      exact Nat.le_refl _
/-- 'throw new E()': new; dup; invokespecial; athrow -/
theorem vx_throw0 {cc : ByteArray} {pc : Nat} (hexec : p.tables.exec = Jvm.exec) (hb : c.code = cc) (hl : l.stackTraces = false) {own cls : String} {names : List String} {ik ic mc ms : Nat} {A : Nat → Prop}
    (hown : s.vm.findClass own = some m.cls) (hcls : Bundle.fit cls = true) (hnames : ∀ n ∈ names, Bundle.fit n = true)
    (hk : (Cond.classLink own ik cls).before args s = true) (hini : (Cond.initialized cls).before args s = true) (hat : ∀ w ∈ vx_at0 own ic cls names, w.before args s = true)
    (hgood : ∀ w ∈ Cond.classLink own ik cls :: Cond.initialized cls :: vx_at0 own ic cls names, vx_ot w = true)
    (hU : vx_Zq Bundle.tN "UNASSIGNED_STACK" Bundle.steD A s s.heap) (hN : vx_Zq Bundle.tN "SUPPRESSED_SENTINEL" Bundle.listD A s s.heap) (hS : va_S A s.heap H locs) (hsize : ls.size = c.maxLocals)
    (d0 : decode cc pc = .ok (.new ik, 3)) (d3 : decode cc (pc + 3) = .ok (.dup, 1)) (d4 : decode cc (pc + 4) = .ok (.invokespecial ic, 3)) (d7 : decode cc (pc + 7) = .ok (.athrow, 1))
    (hout : ∀ x ∈ c.exceptionTable.toList, covers x (pc + 7) = false)
    (hRframes : names.length + 3 < R.frames) (hRlocals : (rest.map fun v => v.category).sum + (13 * (names.length + 1) + 42) ≤ R.locals) (hRcells : cells + 1 ≤ R.cells) (hRslots : slots + 6 ≤ R.slots) (hlocks : meth.locks = false)
    (hx : ∀ t : State, s.vm.Alike t.vm → H.size ≤ t.heap.size → (∀ q : Nat, q < H.size → t.heap[q]? = H[q]?) → XC cls s t)
    (hf : ∀ z ∈ locs, free z.base) (hc : cells + 1 ≤ mc) (hs : slots + 6 ≤ ms) :
    W p l e R s m args below meth c H locs cells slots (vx_MQ below Qc XC args s mc ms free) (F0 m pc ls rest) := by
  intro T hT X
  have htr : e.platform.stackTraces = false := (show e.platform.stackTraces = l.stackTraces by rw [X.admits.platform]).trans hl
  have Y := vx_rebase X (R' := { frames := R.frames, locals := R.locals, cells := 1, slots := 6 }) (Nat.le_refl _) (Nat.le_refl _) hRcells hRslots
  obtain ⟨s', hA⟩ : ∃ z, z = (T.setVm s.vm).setFrames (.invoking m args :: below) := ⟨_, rfl⟩
  rw [← hA] at Y
  have hvm : s'.vm = s.vm := by rw [hA]; rfl
  have hhp : s'.heap = H := by rw [hA]; exact hT
  have hW0 : s.WarmedH s'.vm := by rw [hvm]; exact State.WarmedH.refl s
  have hat' : ∀ w ∈ vx_at0 own ic cls names, w.before args s' = true := fun w hw => vx_ot_at hW0 hvm.symm (hgood w (List.mem_cons_of_mem _ (List.mem_cons_of_mem _ hw))) (hat w hw)
  have hk' : (Cond.classLink own ik cls).before args s' = true := vx_ot_at hW0 hvm.symm (hgood _ List.mem_cons_self) hk
  have hini' : (Cond.initialized cls).before args s' = true := vx_ot_at hW0 hvm.symm (hgood _ (List.mem_cons_of_mem _ List.mem_cons_self)) hini
  have hU' : vx_Zq Bundle.tN "UNASSIGNED_STACK" Bundle.steD A s' s'.heap := by rw [hhp]; exact vx_Zq.moved hW0.alike (hU.kept hS.2.1)
  have hN' : vx_Zq Bundle.tN "SUPPRESSED_SENTINEL" Bundle.listD A s' s'.heap := by rw [hhp]; exact vx_Zq.moved hW0.alike (hN.kept hS.2.1)
  have h : ∀ w ∈ Bundle.ownAtoms0 own ic cls names, w.before args s' = true := vx_own hat' (vx_isRefq hU'.1) (vx_isRefq hN'.1) hU'.2.word hN'.2.word
  have hown' : s'.vm.findClass own = some m.cls := by rw [hvm]; exact hown
  have hins : (Cond.instantiable cls 6).before args s' = true := h _ (by simp [Bundle.ownAtoms0])
  obtain ⟨vm₁, cX, kX, hfX, hkX, -, -, X₁, st1⟩ := Y.newCold hexec (own := own) (C := cls) (index := ik) (n := 6) hown' hk' hins hini'
    (g := F0 m pc ls rest) rfl (by rw [hb]; exact d0) (Nat.le_refl _) (Nat.le_refl _)
  generalize hT1 : (T.setVm vm₁).pushCell { cls := cX, slots := kX.instanceTypes.map defaultValue, vm := .none } = T1 at X₁ st1
  have hcat : (Value.ref T.heap.size).category = 1 := rfl
  have hcellA : T1.heap[T.heap.size]? = some (freshCell cX kX) := by rw [← hT1]; exact State.heap_pushCell_size _ _
  have d3' : decode c.code (pc + 3) = .ok (.dup, 1) := by rw [hb]; exact d3
  obtain ⟨U, hsteps, hrun, hend, hW, hsame, ce, hce, hO⟩ := X₁.ctorThrow0 hexec htr (own := own) (cls := cls) (names := names) (ic := ic) hown' hcls hnames h (fun x hx => nomatch hx) hfX hkX hcellA (by rw [hhp, hT]; exact Nat.le_refl _)
    (g := { method := m, pc := pc + 4, locals := ls, stack := .ref T.heap.size :: .ref T.heap.size :: rest, locked := none }) rfl hsize rfl rfl (rest := rest) rfl
    (by rw [hb]; exact d4) (by rw [hb]; exact d7) hout hRframes (by simp only [List.map_cons, List.sum_cons, hcat]; omega) hlocks
  obtain ⟨f1, f2⟩ := vx_frame hsame
  rw [hhp] at f1 f2
  have hWs : s.WarmedH U.vm := State.WarmedH.trans hW0 hW
  have hcl : s.vm.findClass cls = some ce.cls := by
    have h9 := hO.cls
    rw [hvm] at h9
    exact h9
  have hall : s.sameButNew ({ U with vm := s.vm } : State) locs mc ms := by
    subst hA
    obtain ⟨e1, e2⟩ := hsame
    rw [State.setFrames_setFrames] at e1
    have h2 : (T.setVm s.vm).sameButNew ({ U with vm := s.vm } : State) [] (0 + 1) (0 + 6) := ⟨e1, e2⟩
    have h3 := X.same.trans h2
    rw [List.append_nil] at h3
    exact h3.mono hc hs
  refine ⟨U, ?_, .threw T.heap.size, hrun, hend, Or.inr ⟨T.heap.size, rfl, cls, ce, locs, hx U hWs.alike f1 (fun q hq => f2 q hq (fun z hz => nomatch hz)), hce, hO.vm, hcl, hWs, hall, hf⟩⟩
  refine st1 _ ?_
  show Steps p.tables e below (T1.setTop { method := m, pc := pc + 3, locals := ls, stack := .ref T.heap.size :: rest, locked := none }) _
  jvm_step X₁.here [X₁.here.top, hexec, d3', Value.category]
  exact hsteps
/-- 'throw new E("text")': new; dup; ldc; invokespecial; athrow -/
theorem vx_throwS {cc : ByteArray} {pc : Nat} (hexec : p.tables.exec = Jvm.exec) (hb : c.code = cc) (hl : l.stackTraces = false) {own cls text : String} {names : List String} {ik is ic mc ms sa : Nat} {A : Nat → Prop}
    (hown : s.vm.findClass own = some m.cls) (hcls : Bundle.fit cls = true) (hnames : ∀ n ∈ names, Bundle.fit n = true)
    (hk : (Cond.classLink own ik cls).before args s = true) (hini : (Cond.initialized cls).before args s = true) (hstr : vk_R own is text sa s) (hat : ∀ w ∈ vx_atS own ic cls names, w.before args s = true)
    (hgood : ∀ w ∈ Cond.classLink own ik cls :: Cond.initialized cls :: vx_atS own ic cls names, vx_ot w = true)
    (hU : vx_Zq Bundle.tN "UNASSIGNED_STACK" Bundle.steD A s s.heap) (hN : vx_Zq Bundle.tN "SUPPRESSED_SENTINEL" Bundle.listD A s s.heap) (hS : va_S A s.heap H locs) (hsize : ls.size = c.maxLocals)
    (d0 : decode cc pc = .ok (.new ik, 3)) (d3 : decode cc (pc + 3) = .ok (.dup, 1)) (d4 : decode cc (pc + 4) = .ok (.ldc is, 2)) (d6 : decode cc (pc + 6) = .ok (.invokespecial ic, 3)) (d9 : decode cc (pc + 9) = .ok (.athrow, 1))
    (hout : ∀ x ∈ c.exceptionTable.toList, covers x (pc + 9) = false)
    (hRframes : names.length + 3 < R.frames) (hRlocals : (rest.map fun v => v.category).sum + (13 * (names.length + 1) + 43) ≤ R.locals) (hRcells : cells + 1 ≤ R.cells) (hRslots : slots + 6 ≤ R.slots) (hlocks : meth.locks = false)
    (hx : ∀ t : State, s.vm.Alike t.vm → H.size ≤ t.heap.size → (∀ q : Nat, q < H.size → t.heap[q]? = H[q]?) → XC cls s t)
    (hf : ∀ z ∈ locs, free z.base) (hc : cells + 1 ≤ mc) (hs : slots + 6 ≤ ms) :
    W p l e R s m args below meth c H locs cells slots (vx_MQ below Qc XC args s mc ms free) (F0 m pc ls rest) := by
  intro T hT X
  have htr : e.platform.stackTraces = false := (show e.platform.stackTraces = l.stackTraces by rw [X.admits.platform]).trans hl
  have Y := vx_rebase X (R' := { frames := R.frames, locals := R.locals, cells := 1, slots := 6 }) (Nat.le_refl _) (Nat.le_refl _) hRcells hRslots
  obtain ⟨s', hA⟩ : ∃ z, z = (T.setVm s.vm).setFrames (.invoking m args :: below) := ⟨_, rfl⟩
  rw [← hA] at Y
  have hvm : s'.vm = s.vm := by rw [hA]; rfl
  have hhp : s'.heap = H := by rw [hA]; exact hT
  have hW0 : s.WarmedH s'.vm := by rw [hvm]; exact State.WarmedH.refl s
  have hat' : ∀ w ∈ vx_atS own ic cls names, w.before args s' = true := fun w hw => vx_ot_at hW0 hvm.symm (hgood w (List.mem_cons_of_mem _ (List.mem_cons_of_mem _ hw))) (hat w hw)
  have hk' : (Cond.classLink own ik cls).before args s' = true := vx_ot_at hW0 hvm.symm (hgood _ List.mem_cons_self) hk
  have hini' : (Cond.initialized cls).before args s' = true := vx_ot_at hW0 hvm.symm (hgood _ (List.mem_cons_of_mem _ List.mem_cons_self)) hini
  have hU' : vx_Zq Bundle.tN "UNASSIGNED_STACK" Bundle.steD A s' s'.heap := by rw [hhp]; exact vx_Zq.moved hW0.alike (hU.kept hS.2.1)
  have hN' : vx_Zq Bundle.tN "SUPPRESSED_SENTINEL" Bundle.listD A s' s'.heap := by rw [hhp]; exact vx_Zq.moved hW0.alike (hN.kept hS.2.1)
  have h : ∀ w ∈ Bundle.ownAtoms own ic cls names, w.before args s' = true := vx_own hat' (vx_isRefq hU'.1) (vx_isRefq hN'.1) hU'.2.word hN'.2.word
  have hown' : s'.vm.findClass own = some m.cls := by rw [hvm]; exact hown
  have hins : (Cond.instantiable cls 6).before args s' = true := h _ (by simp [Bundle.ownAtoms])
  obtain ⟨vm₁, cX, kX, hfX, hkX, -, -, X₁, st1⟩ := Y.newCold hexec (own := own) (C := cls) (index := ik) (n := 6) hown' hk' hins hini'
    (g := F0 m pc ls rest) rfl (by rw [hb]; exact d0) (Nat.le_refl _) (Nat.le_refl _)
  generalize hT1 : (T.setVm vm₁).pushCell { cls := cX, slots := kX.instanceTypes.map defaultValue, vm := .none } = T1 at X₁ st1
  have hcat : (Value.ref T.heap.size).category = 1 := rfl
  have hcellA : T1.heap[T.heap.size]? = some (freshCell cX kX) := by rw [← hT1]; exact State.heap_pushCell_size _ _
  have d3' : decode c.code (pc + 3) = .ok (.dup, 1) := by rw [hb]; exact d3
  have d4' : decode c.code (pc + 4) = .ok (.ldc is, 2) := by rw [hb]; exact d4
  have hstr' : vk_R own is text sa s' := vk_R.warm hW0 hstr
  obtain ⟨U, hsteps, hrun, hend, hW, hsame, ce, hce, hO⟩ := X₁.ctorThrowS hexec htr (own := own) (cls := cls) (names := names) (ic := ic) hown' hcls hnames h (fun x hx => nomatch hx) hfX hkX hcellA (by rw [hhp, hT]; exact Nat.le_refl _) (msg := .ref sa) rfl
    (g := { method := m, pc := pc + 6, locals := ls, stack := .ref sa :: .ref T.heap.size :: .ref T.heap.size :: rest, locked := none }) rfl hsize rfl rfl (rest := rest) rfl
    (by rw [hb]; exact d6) (by rw [hb]; exact d9) hout hRframes (by simp only [List.map_cons, List.sum_cons, hcat]; omega) hlocks
  obtain ⟨f1, f2⟩ := vx_frame hsame
  rw [hhp] at f1 f2
  have hWs : s.WarmedH U.vm := State.WarmedH.trans hW0 hW
  have hcl : s.vm.findClass cls = some ce.cls := by
    have h9 := hO.cls
    rw [hvm] at h9
    exact h9
  have hall : s.sameButNew ({ U with vm := s.vm } : State) locs mc ms := by
    subst hA
    obtain ⟨e1, e2⟩ := hsame
    rw [State.setFrames_setFrames] at e1
    have h2 : (T.setVm s.vm).sameButNew ({ U with vm := s.vm } : State) [] (0 + 1) (0 + 6) := ⟨e1, e2⟩
    have h3 := X.same.trans h2
    rw [List.append_nil] at h3
    exact h3.mono hc hs
  refine ⟨U, ?_, .threw T.heap.size, hrun, hend, Or.inr ⟨T.heap.size, rfl, cls, ce, locs, hx U hWs.alike f1 (fun q hq => f2 q hq (fun z hz => nomatch hz)), hce, hO.vm, hcl, hWs, hall, hf⟩⟩
  refine st1 _ ?_
  show Steps p.tables e below (T1.setTop { method := m, pc := pc + 3, locals := ls, stack := .ref T.heap.size :: rest, locked := none }) _
  jvm_step X₁.here [X₁.here.top, hexec, d3', Value.category]
  exact X₁.ldcString hexec (own := own) (text := text) (index := is) (a := sa) hown' hstr'.1 hstr'.2
    (g := { method := m, pc := pc + 4, locals := ls, stack := .ref T.heap.size :: .ref T.heap.size :: rest, locked := none }) rfl d4' _ hsteps
/-- 'throw new E("text")', the text by a wide index -/
theorem vx_throwSW {cc : ByteArray} {pc : Nat} (hexec : p.tables.exec = Jvm.exec) (hb : c.code = cc) (hl : l.stackTraces = false) {own cls text : String} {names : List String} {ik is ic mc ms sa : Nat} {A : Nat → Prop}
    (hown : s.vm.findClass own = some m.cls) (hcls : Bundle.fit cls = true) (hnames : ∀ n ∈ names, Bundle.fit n = true)
    (hk : (Cond.classLink own ik cls).before args s = true) (hini : (Cond.initialized cls).before args s = true) (hstr : vk_R own is text sa s) (hat : ∀ w ∈ vx_atS own ic cls names, w.before args s = true)
    (hgood : ∀ w ∈ Cond.classLink own ik cls :: Cond.initialized cls :: vx_atS own ic cls names, vx_ot w = true)
    (hU : vx_Zq Bundle.tN "UNASSIGNED_STACK" Bundle.steD A s s.heap) (hN : vx_Zq Bundle.tN "SUPPRESSED_SENTINEL" Bundle.listD A s s.heap) (hS : va_S A s.heap H locs) (hsize : ls.size = c.maxLocals)
    (d0 : decode cc pc = .ok (.new ik, 3)) (d3 : decode cc (pc + 3) = .ok (.dup, 1)) (d4 : decode cc (pc + 4) = .ok (.ldc_w is, 3)) (d7 : decode cc (pc + 7) = .ok (.invokespecial ic, 3)) (d10 : decode cc (pc + 10) = .ok (.athrow, 1))
    (hout : ∀ x ∈ c.exceptionTable.toList, covers x (pc + 10) = false)
    (hRframes : names.length + 3 < R.frames) (hRlocals : (rest.map fun v => v.category).sum + (13 * (names.length + 1) + 43) ≤ R.locals) (hRcells : cells + 1 ≤ R.cells) (hRslots : slots + 6 ≤ R.slots) (hlocks : meth.locks = false)
    (hx : ∀ t : State, s.vm.Alike t.vm → H.size ≤ t.heap.size → (∀ q : Nat, q < H.size → t.heap[q]? = H[q]?) → XC cls s t)
    (hf : ∀ z ∈ locs, free z.base) (hc : cells + 1 ≤ mc) (hs : slots + 6 ≤ ms) :
    W p l e R s m args below meth c H locs cells slots (vx_MQ below Qc XC args s mc ms free) (F0 m pc ls rest) := by
  intro T hT X
  have htr : e.platform.stackTraces = false := (show e.platform.stackTraces = l.stackTraces by rw [X.admits.platform]).trans hl
  have Y := vx_rebase X (R' := { frames := R.frames, locals := R.locals, cells := 1, slots := 6 }) (Nat.le_refl _) (Nat.le_refl _) hRcells hRslots
  obtain ⟨s', hA⟩ : ∃ z, z = (T.setVm s.vm).setFrames (.invoking m args :: below) := ⟨_, rfl⟩
  rw [← hA] at Y
  have hvm : s'.vm = s.vm := by rw [hA]; rfl
  have hhp : s'.heap = H := by rw [hA]; exact hT
  have hW0 : s.WarmedH s'.vm := by rw [hvm]; exact State.WarmedH.refl s
  have hat' : ∀ w ∈ vx_atS own ic cls names, w.before args s' = true := fun w hw => vx_ot_at hW0 hvm.symm (hgood w (List.mem_cons_of_mem _ (List.mem_cons_of_mem _ hw))) (hat w hw)
  have hk' : (Cond.classLink own ik cls).before args s' = true := vx_ot_at hW0 hvm.symm (hgood _ List.mem_cons_self) hk
  have hini' : (Cond.initialized cls).before args s' = true := vx_ot_at hW0 hvm.symm (hgood _ (List.mem_cons_of_mem _ List.mem_cons_self)) hini
  have hU' : vx_Zq Bundle.tN "UNASSIGNED_STACK" Bundle.steD A s' s'.heap := by rw [hhp]; exact vx_Zq.moved hW0.alike (hU.kept hS.2.1)
  have hN' : vx_Zq Bundle.tN "SUPPRESSED_SENTINEL" Bundle.listD A s' s'.heap := by rw [hhp]; exact vx_Zq.moved hW0.alike (hN.kept hS.2.1)
  have h : ∀ w ∈ Bundle.ownAtoms own ic cls names, w.before args s' = true := vx_own hat' (vx_isRefq hU'.1) (vx_isRefq hN'.1) hU'.2.word hN'.2.word
  have hown' : s'.vm.findClass own = some m.cls := by rw [hvm]; exact hown
  have hins : (Cond.instantiable cls 6).before args s' = true := h _ (by simp [Bundle.ownAtoms])
  obtain ⟨vm₁, cX, kX, hfX, hkX, -, -, X₁, st1⟩ := Y.newCold hexec (own := own) (C := cls) (index := ik) (n := 6) hown' hk' hins hini'
    (g := F0 m pc ls rest) rfl (by rw [hb]; exact d0) (Nat.le_refl _) (Nat.le_refl _)
  generalize hT1 : (T.setVm vm₁).pushCell { cls := cX, slots := kX.instanceTypes.map defaultValue, vm := .none } = T1 at X₁ st1
  have hcat : (Value.ref T.heap.size).category = 1 := rfl
  have hcellA : T1.heap[T.heap.size]? = some (freshCell cX kX) := by rw [← hT1]; exact State.heap_pushCell_size _ _
  have d3' : decode c.code (pc + 3) = .ok (.dup, 1) := by rw [hb]; exact d3
  have d4' : decode c.code (pc + 4) = .ok (.ldc_w is, 3) := by rw [hb]; exact d4
  have hstr' : vk_R own is text sa s' := vk_R.warm hW0 hstr
  obtain ⟨U, hsteps, hrun, hend, hW, hsame, ce, hce, hO⟩ := X₁.ctorThrowS hexec htr (own := own) (cls := cls) (names := names) (ic := ic) hown' hcls hnames h (fun x hx => nomatch hx) hfX hkX hcellA (by rw [hhp, hT]; exact Nat.le_refl _) (msg := .ref sa) rfl
    (g := { method := m, pc := pc + 7, locals := ls, stack := .ref sa :: .ref T.heap.size :: .ref T.heap.size :: rest, locked := none }) rfl hsize rfl rfl (rest := rest) rfl
    (by rw [hb]; exact d7) (by rw [hb]; exact d10) hout hRframes (by simp only [List.map_cons, List.sum_cons, hcat]; omega) hlocks
  obtain ⟨f1, f2⟩ := vx_frame hsame
  rw [hhp] at f1 f2
  have hWs : s.WarmedH U.vm := State.WarmedH.trans hW0 hW
  have hcl : s.vm.findClass cls = some ce.cls := by
    have h9 := hO.cls
    rw [hvm] at h9
    exact h9
  have hall : s.sameButNew ({ U with vm := s.vm } : State) locs mc ms := by
    subst hA
    obtain ⟨e1, e2⟩ := hsame
    rw [State.setFrames_setFrames] at e1
    have h2 : (T.setVm s.vm).sameButNew ({ U with vm := s.vm } : State) [] (0 + 1) (0 + 6) := ⟨e1, e2⟩
    have h3 := X.same.trans h2
    rw [List.append_nil] at h3
    exact h3.mono hc hs
  refine ⟨U, ?_, .threw T.heap.size, hrun, hend, Or.inr ⟨T.heap.size, rfl, cls, ce, locs, hx U hWs.alike f1 (fun q hq => f2 q hq (fun z hz => nomatch hz)), hce, hO.vm, hcl, hWs, hall, hf⟩⟩
  refine st1 _ ?_
  show Steps p.tables e below (T1.setTop { method := m, pc := pc + 3, locals := ls, stack := .ref T.heap.size :: rest, locked := none }) _
  jvm_step X₁.here [X₁.here.top, hexec, d3', Value.category]
  exact X₁.ldcStringW hexec (own := own) (text := text) (index := is) (a := sa) hown' hstr'.1 hstr'.2
    (g := { method := m, pc := pc + 4, locals := ls, stack := .ref T.heap.size :: .ref T.heap.size :: rest, locked := none }) rfl d4' _ hsteps
end Ends
section Bodies
variable {l : Launch}
theorem vx_ofW {y : MethodName} {ws ws' : List Cond} {rm : Room} {Pc : Array Value → State → Prop} {Qc : Array Value → State → Outcome → State → Prop} {XC : String → State → State → Prop} {mc ms : Nat} {free : Addr → Prop} {cc : ByteArray} {maxL : Nat} {ret : Option FieldType}
    (hy : plainName y.cls = true) (hw : ws = Cond.code y cc maxL ret :: ws')
    (body : ∀ p e s m args below meth c s₁, BodyLoose p l y (headSpec ws rm) cc maxL ret e s m args below meth c s₁ → c.maxLocals = maxL → (∀ x ∈ c.exceptionTable.toList, False) → Pc args s →
      W p l e (headSpec ws rm).room s m args below meth c s.heap [] 0 0 (vx_MQ below Qc XC args s mc ms free) (entryFrame m args maxL)) : vx_Met l y ws rm Pc Qc XC mc ms free := by
  refine MetFree.of_bodyS (code := cc) (maxLocals := maxL) (ret := ret) hy ?_ ?_
  · intro args s m h hn
    obtain ⟨meth, c, h1, h2, h3, h4, h5, h6, -, -⟩ := Cond.code_spec hn (atoms_spec (ws := ws) h _ (by rw [hw]; exact List.mem_cons_self))
    exact ⟨meth, c, h1, h2, h3, h4, h5, h6⟩
  · intro p e s m args below meth c s₁ B hml hP _
    have hh0 : s₁.heap = s.heap := by rw [B.state]; rfl
    have ht : ∀ x ∈ c.exceptionTable.toList, False := by
      obtain ⟨meth9, c9, h1, h2, -, -, -, -, h7, -⟩ := Cond.code_spec B.named (atoms_spec (ws := ws) B.pre _ (by rw [hw]; exact List.mem_cons_self))
      cases Option.some.inj (h1.symm.trans B.method)
      cases Option.some.inj (h2.symm.trans (Stand.of_body B).code)
      intro x hx
      rw [Array.isEmpty_iff.mp h7] at hx
      cases hx
    obtain ⟨t, a1, o, b1, b2, b3⟩ := body p e s m args below meth c s₁ B hml ht hP s₁ hh0 (Stand.of_body B)
    exact ⟨t, o, a1, b1, b2, b3⟩
/-- the table of a body with handlers -/
theorem vx_table {p : Program} {x y : MethodName} {S : Spec} {cc bytes : ByteArray} {maxL maxL' : Nat} {ret ret' : Option FieldType} {e : Env} {s s₁ : State} {m : MethodId} {args : Array Value} {below : List Frame} {meth : Method} {c : Code} {hh : List (Nat × Nat × Nat × Nat)}
    (B : BodyLoose p l y S cc maxL ret e s m args below meth c s₁) (h : (Cond.codeWith y bytes maxL' ret' hh).before args s = true) : c.exceptionTable.toList = tableOf hh := by
  obtain ⟨m9, meth9, c9, hn9, h1, h2, -, -, h6, -⟩ := Cond.codeWith_spec h
  cases Option.some.inj (hn9.symm.trans B.named)
  cases Option.some.inj (h1.symm.trans B.method)
  cases Option.some.inj (h2.symm.trans (Stand.of_body B).code)
  rw [← h6, table_eq]
end Bodies
end VXA
/-! ===== END ===== -/
/-! ===== BEGIN a static call of a method with an exception table ===== -/
section VXS
variable {p : Program} {l : Launch} {e : Env} {R : Room} {s : State} {m : MethodId} {args : Array Value} {below : List Frame} {meth : Method} {c : Code} {T : State} {H : Heap} {locs : List Loc} {cells slots : Nat}
abbrev vx_CSW (R : Room) (s : State) (args : Array Value) (own : String) (index : Nat) (y : MethodName) (bytes : ByteArray) (maxL : Nat) (ret : Option FieldType) (hh : List (Nat × Nat × Nat × Nat)) (ws : List Cond) (rm : Room) (mc ms n : Nat) : Prop :=
  (rm.cells = mc ∧ rm.slots = ms ∧ rm.frames + 1 ≤ R.frames ∧ 8 + (maxL + 11) + rm.locals ≤ R.locals ∧ (∀ w ∈ ws, ∀ (a' : Array Value) (U : State), s.WarmedH U.vm → w.before a' U = true) ∧ Cond.codeWith y bytes maxL ret hh ∈ ws) ∧
  (Cond.codeWith y bytes maxL ret hh).before args s = true ∧ (Cond.initialized y.cls).before args s = true ∧ (y.cls ≠ "java/lang/invoke/MethodHandle" ∧ y.cls ≠ "java/lang/invoke/VarHandle") ∧
  (∀ sig, parseMethodDescriptor y.desc = some sig → n = sig.parameters.length) ∧ (Cond.methodLink own index y).before args s = true ∧ (Cond.static y).before args s = true
theorem vx_cwSW {own : String} {index maxL mc ms : Nat} {y : MethodName} {bytes : ByteArray} {ret : Option FieldType} {hh : List (Nat × Nat × Nat × Nat)} {Ts ws ws' : List Cond} {rm : Room} (n : Nat) (ht : ∀ w ∈ Ts, w.before args s = true) (hT : GoodIn Ts (va_wsS own index y ws)) (hw : ws = Cond.codeWith y bytes maxL ret hh :: ws') (hrc : rm.cells = mc) (hrs : rm.slots = ms)
    (hd : y.cls ≠ "java/lang/invoke/MethodHandle" ∧ y.cls ≠ "java/lang/invoke/VarHandle" ∧ (parseMethodDescriptor y.desc).map (fun d => d.parameters.length) = some n) (hR : rm.frames + 1 ≤ R.frames ∧ 8 + (maxL + 11) + rm.locals ≤ R.locals) :
    vx_CSW R s args own index y bytes maxL ret hh ws rm mc ms n := by
  have ok : ∀ w ∈ va_wsS own index y ws, w.before args s = true := fun w h => ht w (hT w h).1
  have hG : GoodIn Ts ws := fun w h => hT w (by unfold va_wsS; exact List.mem_append_right _ h)
  have hc : Cond.codeWith y bytes maxL ret hh ∈ ws := by rw [hw]; exact List.mem_cons_self
  refine ⟨⟨hrc, hrs, hR.1, hR.2, pay_in ht hG, hc⟩, ht _ (hG _ hc).1, ok _ (by simp [va_wsS]), ⟨hd.1, hd.2.1⟩, fun sig h => ?_, ok _ (by simp [va_wsS]), ok _ (by simp [va_wsS])⟩
  have h2 := hd.2.2
  rw [h] at h2
  exact (Option.some.inj h2).symm
theorem vx_callSW (X : Stand p l e R s m args below meth c T locs cells slots) (hexec : p.tables.exec = Jvm.exec) {own : String} {index : Nat} {y : MethodName} {bytes : ByteArray} {maxL : Nat} {ret : Option FieldType} {hh : List (Nat × Nat × Nat × Nat)}
    (hown : s.vm.findClass own = some m.cls) (hlink : (Cond.methodLink own index y).before args s = true) (hstat : (Cond.static y).before args s = true) (hinit : (Cond.initialized y.cls).before args s = true)
    (hcode : (Cond.codeWith y bytes maxL ret hh).before args s = true) (hy : y.cls ≠ "java/lang/invoke/MethodHandle" ∧ y.cls ≠ "java/lang/invoke/VarHandle")
    {W9 : Nat} {Pre : Pt → Array Value → Prop} {Post : Pt → Array Value → Option Value → Pt → Prop} (hK : Back l R p e below s args y 3 W9 Pre Post)
    {g : JFrame} (hg : g.method = m) (hsize : g.locals.size = c.maxLocals) {argsL rest : List Value} (hlen : ∀ sig, parseMethodDescriptor y.desc = some sig → argsL.length = sig.parameters.length)
    (hstack : g.stack = argsL.reverse ++ rest) (hW : 2 * g.monitorRoom + (rest.map fun v => v.category).sum ≤ W9) (hdg : decode c.code g.pc = .ok (.invokestatic index, 3))
    (hpre : ∀ vm₁, s.WarmedH vm₁ → Pre ⟨T.setVm vm₁, locs, cells, slots⟩ argsL.toArray) :
    ∃ (v : Option Value) (vm₁ : Vm) (B : Pt), s.WarmedH vm₁ ∧ Stand p l e R s m args below meth c B.U B.locs B.cells B.slots ∧ Post ⟨T.setVm vm₁, locs, cells, slots⟩ argsL.toArray v B ∧
      ∀ target, Steps p.tables e below (B.U.setTop { g with pc := g.pc + 3, stack := v.toList ++ rest }) target → Steps p.tables e below (T.setTop g) target := by
  obtain ⟨mk, methM, cM, hnamed, hmethM, -, -, -, -, -, -, hsigM⟩ := Cond.codeWith_spec hcode
  have hstatic : methM.isStatic = true := Cond.static_spec hnamed hmethM hstat
  obtain ⟨kP, hkP, -⟩ := className_of_methodNamed hnamed
  have hinitP : kP.init = .initialized := Cond.initialized_spec (findClass_of_methodNamed hnamed) hkP hinit
  obtain ⟨vm₁, X₁, hstep₁⟩ := X.invokestatic hexec hown hlink hnamed hmethM hstatic hkP hinitP hy (g := g) hg (argsL := argsL) (rest := rest) (hlen _ hsigM) hstack hdg
  obtain ⟨v, B, X', hpost, hsteps⟩ := hK m meth c ⟨T.setVm vm₁, locs, cells, slots⟩ { g with stack := rest } (.invokestatic index) mk argsL.toArray X₁ hg hsize hdg hW (X₁.named hnamed) (hpre vm₁ X₁.warmed)
  exact ⟨v, vm₁, B, X₁.warmed, X', hpost, fun target h => hstep₁ _ fun acts => by rw [doInvoke_state]; exact hsteps.trans h⟩
theorem vx_runSW {y : MethodName} {bytes cc : ByteArray} {maxL nL mc ms n index : Nat} {ret : Option FieldType} {hh : List (Nat × Nat × Nat × Nat)} {ws : List Cond} {rm : Room} {Pc : Array Value → State → Prop} {Qc : Array Value → State → Outcome → State → Prop} {free : Addr → Prop} {Ts : List Cond} {own : String} {As rest : List Value} {g : JFrame}
    (S : CallFix p m c cc nL s args Ts own) (hM : Met l y ws rm Pc Qc mc ms free) (cw : vx_CSW R s args own index y bytes maxL ret hh ws rm mc ms n) (hp : PreS s H Pc As)
    (hg : g.method = m) (hn : As.length = n) (hsize : g.locals.size = nL) (hstack : g.stack = As.reverse ++ rest) (hW : 2 * g.monitorRoom + (rest.map fun v => v.category).sum ≤ 8) (hdg : decode cc g.pc = .ok (.invokestatic index, 3)) (hf : cells + mc ≤ R.cells ∧ slots + ms ≤ R.slots) :
    va_Run p l e R s m args below meth c H locs cells slots mc ms g rest (Qc As.toArray) (free) := by
  obtain ⟨⟨hrc, hrs, hfr, hlo, hws, hcw⟩, hcode, hini, hy, hlen, hl, hstt⟩ := cw
  have hK : Back l R p e below s args y 3 8 (PreOf R mc ms Pc) (PostOf Qc mc ms free) := va_backW (hh := hh) (bytes := bytes) (maxL := maxL) (ret := ret) hM hp.1 hrc hrs hfr hlo hws hcw (fun a' U hW => word_at hW (Or.inl (by first | rfl | simp [Cond.onTables, Cond.keeps, Cond.steady])) hini)
  obtain ⟨hx, hb, hml, ho, -⟩ := S
  intro T hT X
  obtain ⟨v, vm₁, ⟨U', l2, c2, s2⟩, hW₁, X', ⟨g', mk, t, L, e1, e2, hq, h1, hL, h2, h3⟩, st⟩ := vx_callSW X hx (hh := hh) (bytes := bytes) (maxL := maxL) (ret := ret) ho hl hstt hini hcode hy hK hg (hsize.trans hml.symm) (argsL := As) (rest := rest) (fun sig h => hn.trans (hlen sig h)) hstack hW (by rw [hb]; exact hdg)
    (fun vm₁ hW₁ => ⟨hf.1, hf.2, hp.2 (T.setVm vm₁) hT hW₁⟩)
  dsimp only [Pt.U, Pt.locs, Pt.cells, Pt.slots] at X' e1 e2 h1 h2 h3 st
  subst h1; subst h2; subst h3
  exact ⟨v, (T.setVm vm₁).calling g' mk As.toArray, t, U', L, hT, X', hL, e1, e2, hq, st⟩
/-- not caught here, past rows that name other classes: it goes on to the caller -/
theorem vx_outP {p : Program} {l : Launch} {e : Env} {R : Room} {s : State} {m : MethodId} {args : Array Value} {below : List Frame} {meth : Method} {c : Code} {H : Heap} {locs : List Loc} {cells slots : Nat} {free : Addr → Prop} {ls : Array Slot} {rest : List Value} {Qc : Array Value → State → Outcome → State → Prop} {XC : String → State → State → Prop}
    {pc : Nat} {own E : String} {ce : Cell} {q : Addr} {mc ms : Nat} (hown : s.vm.findClass own = some m.cls) (hlocks : meth.locks = false)
    (hpass : ∀ z ∈ c.exceptionTable.toList, covers z pc = false ∨ (z.catchType ≠ 0 ∧ ∃ nm : String, (Cond.classLink own z.catchType nm).before args s = true ∧ va_Nc E nm s)) (hcell : H[q]? = some ce) (hv : ce.vm = .none) (hcl : s.vm.findClass E = some ce.cls)
    (hx : ∀ t : State, t.heap = H → s.vm.Alike t.vm → XC E s t) (hf : ∀ z ∈ locs, free z.base) (hc : cells ≤ mc) (hs : slots ≤ ms) :
    vx_W p l e R s m args below meth c H locs cells slots (vx_MQ below Qc XC args s mc ms free) (F0 m pc ls rest) q := by
  intro T hT X
  have hpl : e.platform.magicAccessors = ({} : Platform).magicAccessors := by rw [X.admits.platform]
  obtain ⟨vm', hW', X', st⟩ := X.outThrough hlocks q (g := F0 m pc ls rest) rfl rfl rfl (cell := ce) (by rw [hT]; exact hcell) (by rw [hv]; rfl)
    (by obtain ⟨k9, h9, -⟩ := Vm.findClass_spec hcl; exact ⟨k9, h9⟩) (fun z hz => by
      rcases hpass z hz with h | ⟨hz0, nm, hl1, hn1⟩
      · exact Or.inl h
      · obtain ⟨c6, hc6, hcl6⟩ := Cond.classLink_spec hown hl1 e.platform hpl
        obtain ⟨a8, b8, h1, h2, h3⟩ := hn1
        cases Option.some.inj (h1.symm.trans hcl)
        cases Option.some.inj (h2.symm.trans hc6)
        exact Or.inr ⟨hz0, _, hcl6, h3⟩)
  obtain ⟨g₀, hfr⟩ := X'.frames_eq
  have hcell9 : ((T.setVm vm').setFrames (.throwing q :: below)).heap[q]? = some ce := by
    show T.heap[q]? = some ce
    rw [hT]; exact hcell
  have hend : Ended ((T.setVm vm').setFrames (.throwing q :: below)) below (.threw q) := State.frames_setFrames _ (State.cur_lt_of_frames hfr)
  refine ⟨(T.setVm vm').setFrames (.throwing q :: below), ?_, .threw q, X'.here.running, hend, Or.inr ⟨q, rfl, E, ce, locs, hx _ hT (X'.ends _).1.alike, hcell9, hv, hcl, (X'.ends _).1, (X'.ends _).2.mono hc hs, hf⟩⟩
  rw [X.pushThrowing_eq]
  exact st
/-- a thing of a world lies in the heap -/
theorem vx_lt {D : va_G} {cl : List vw_C} {ws : va_W} {H1 : Heap} (h : va_P D cl ws H1) {k : Nat} {q : Nat × va_E} (hk : ws[k]? = some q) : q.1 < H1.size := (h k q hk).lt
end VXS
/-! ===== END ===== -/
/-! ===== BEGIN methods with a table of their own: called by a name, returning or throwing ===== -/
section VXH
/-! vx_backW, vx_callVX, vx_callSX, vx_callVW, vx_runVW, vx_runVX, vx_runSX, vx_ofWH follow the same proofs as their sisters above (Free/Laws.lean, Shelf42/LK1.lean); vx_outP calls Shelf42/NT130.lean (outThrough). -/
section
variable {l : Launch} {R : Room} {p : Program} {e : Env} {below : List Frame} {s : State} {sargs : Array Value} {y : MethodName} {len W9 : Nat}
theorem vx_backW {ws : List Cond} {rm : Room} {Pc : Array Value → State → Prop} {Qc : Array Value → State → Outcome → State → Prop} {XC : String → State → State → Prop} {mc ms : Nat} {free : Addr → Prop} {bytes : ByteArray} {maxL : Nat} {ret : Option FieldType} {hh : List (Nat × Nat × Nat × Nat)}
    (hM : vx_Met l y ws rm Pc Qc XC mc ms free) (hblind : FrameBlind Pc) (hrc : rm.cells = mc) (hrs : rm.slots = ms)
    (hframes : rm.frames + 1 ≤ R.frames) (hlocals : W9 + (maxL + 11) + rm.locals ≤ R.locals)
    (hws : ∀ w ∈ ws, ∀ a' U, s.WarmedH U.vm → w.before a' U = true) (hcode : Cond.codeWith y bytes maxL ret hh ∈ ws) (hinit : ∀ a' U, s.WarmedH U.vm → (Cond.initialized y.cls).before a' U = true) :
    vx_Back l R p e below s sargs y len W9 (PreOf R mc ms Pc) (PostOf Qc mc ms free) (vx_Post XC mc ms free) := by
  intro m meth c A g ig mk a X hg hsize hdg hW hn hp
  have h1 : (headSpec ws rm).pre.before a A.U = true := atoms_intro fun w hw => hws w hw _ _ X.warmed
  have h2 : (Cond.codeWith y bytes maxL ret hh).before a A.U = true := hws _ hcode _ _ X.warmed
  have h3 : (Cond.initialized y.cls).before a A.U = true := hinit _ _ X.warmed
  have h4 : A.cells + (headSpec ws rm).room.cells ≤ R.cells := by rw [show (headSpec ws rm).room.cells = mc from hrc]; exact hp.1
  have h5 : A.slots + (headSpec ws rm).room.slots ≤ R.slots := by rw [show (headSpec ws rm).room.slots = ms from hrs]; exact hp.2.1
  have hPc : Pc a (A.U.calling g mk a) := hblind _ _ _ _ hp.2.2
  obtain ⟨U, Ls, c0, s0⟩ := A
  dsimp only [Pt.U, Pt.locs, Pt.cells, Pt.slots] at h1 h2 h3 h4 h5 X hn hPc ⊢
  obtain ⟨m9, methY, cY, hn9, hmY, hcY, -, hlY, -⟩ := Cond.codeWith_spec h2
  cases Option.some.inj (hn9.symm.trans hn)
  obtain ⟨kY, hkY, -⟩ := className_of_methodNamed hn
  have hinitY : kY.init = .initialized := Cond.initialized_spec (findClass_of_methodNamed hn) hkY h3
  have h : At U g.method c below := by rw [hg]; exact X.here
  have hlocals9 : W9 + (maxL + 11) + (headSpec ws rm).room.locals ≤ R.locals := hlocals
  have happ : (headSpec ws rm).appliesLoose y e.platform (U.calling g mk a) = true :=
    Spec.appliesLoose_calling (g := g) h hdg hn hkY hinitY
      (X.room_calling (g := g) (R' := (headSpec ws rm).room) hsize hmY hcY hframes (by rw [hlY]; omega) h4 h5) h1
  obtain ⟨mid, hmid⟩ := h.above
  have hfr : (U.setTop g).frames = (.java g :: mid) ++ below := by rw [State.frames_setTop' g h.top, hmid]; rfl
  obtain ⟨o, s₂, hsteps, -, hend, hq⟩ := Steps.callFree hM p X.admits X.cas X.clock (acts := []) hfr happ hPc trivial
  have hq' : vx_Q Qc XC mc ms free a (U.calling g mk a) o s₂ := hq
  rw [State.frames_setTop' g h.top] at hend
  obtain ⟨g₀, hg0⟩ := Option.isSome_iff_exists.mp h.top
  obtain ⟨r, hr⟩ := State.topJava?_eq_some.mp hg0
  have hr' : (({ U with heap := s₂.heap, slotsUsed := s₂.slotsUsed } : State).setVm s₂.vm).frames = .java g₀ :: r := hr
  rcases hq' with ⟨hqc, L, hfe, hL⟩ | ⟨q, rfl, E, ce, L, hx, hce, hcv, hcl, hW₂, hsm, hL⟩
  · obtain ⟨⟨v, rfl⟩, hW₂, e2, q2, q3, q4, q5, q6⟩ := id hfe
    have e3 : s₂ = ({ (U.calling g mk a).setFrames s₂.frames with heap := s₂.heap, slotsUsed := s₂.slotsUsed } : State).setVm s₂.vm := by
      have : s₂ = ({ s₂ with vm := (U.calling g mk a).vm } : State).setVm s₂.vm := rfl
      rw [e2] at this
      exact this
    obtain ⟨c₂, i₂, len₂, hc₂, hd₂, hf₂⟩ := hend
    have hW' : U.WarmedH s₂.vm := hW₂
    have hcc : c₂ = c := by
      have h1 : s₂.code? g.method = U.code? g.method := by
        rw [State.code?_eq, State.code?_eq, hW'.alike.method?]
      exact Option.some.inj (hc₂.symm.trans (h1.trans h.code))
    subst hcc
    have hlen : len₂ = len := by rw [hdg] at hd₂; cases hd₂; rfl
    subst hlen
    have hs₂ : s₂ = (({ U with heap := s₂.heap, slotsUsed := s₂.slotsUsed } : State).setVm s₂.vm).setTop { g with pc := g.pc + len₂, stack := v.toList ++ g.stack } := by
      refine e3.trans ?_
      rw [hf₂, State.calling_eq h.top, State.setFrames_setFrames, State.setTop_of_frames _ hr', hr]
      rfl
    have hsame : U.sameButNew ({ U with heap := s₂.heap, slotsUsed := s₂.slotsUsed } : State) L mc ms := by
      refine ⟨?_, q2, q3, q4, q5, q6⟩
      obtain ⟨t, ht, -⟩ := State.frames_cons hr
      show ({ U with heap := s₂.heap, slotsUsed := s₂.slotsUsed } : State) = { U.setFrames U.frames with heap := s₂.heap, slotsUsed := s₂.slotsUsed }
      rw [State.setFrames_self ht]
    subst hg
    refine Or.inl ⟨v, ⟨(({ U with heap := s₂.heap, slotsUsed := s₂.slotsUsed } : State).setVm s₂.vm), Ls ++ L, c0 + mc, s0 + ms⟩,
      ⟨X.admits, X.cas, X.clock, X.frames, X.room, X.hears, X.method, X.code, (X.here.setHeapUsed s₂.heap s₂.slotsUsed).setVm hW'.alike, X.tail, State.WarmedH.trans X.warmed hW', X.limits, X.bytes, X.same.trans (hsame.setVm s.vm)⟩,
      ⟨g, mk, s₂, L, rfl, rfl, hqc, rfl, hL, rfl, rfl⟩, ?_⟩
    show Steps p.tables e below _ ((({ U with heap := s₂.heap, slotsUsed := s₂.slotsUsed } : State).setVm s₂.vm).setTop { g with pc := g.pc + len₂, stack := v.toList ++ g.stack })
    rw [← hs₂]
    exact hsteps
  · obtain ⟨e2, q2, q3, q4, q5, q6⟩ := id hsm
    have e3 : s₂ = ({ (U.calling g mk a).setFrames s₂.frames with heap := s₂.heap, slotsUsed := s₂.slotsUsed } : State).setVm s₂.vm := by
      have : s₂ = ({ s₂ with vm := (U.calling g mk a).vm } : State).setVm s₂.vm := rfl
      rw [e2] at this
      exact this
    have hf₂ : s₂.frames = .throwing q :: .java g :: U.frames.tail := hend
    have hW' : U.WarmedH s₂.vm := hW₂
    have hs₂ : s₂ = ((({ U with heap := s₂.heap, slotsUsed := s₂.slotsUsed } : State).setVm s₂.vm).setTop g).pushFrame (.throwing q) := by
      refine e3.trans ?_
      rw [hf₂, State.calling_eq h.top, State.setFrames_setFrames, State.pushFrame, State.frames_setTop _ hr', State.setTop_of_frames _ hr', State.setFrames_setFrames, hr]
      rfl
    have hsame : U.sameButNew ({ U with heap := s₂.heap, slotsUsed := s₂.slotsUsed } : State) L mc ms := by
      refine ⟨?_, q2, q3, q4, q5, q6⟩
      obtain ⟨t, ht, -⟩ := State.frames_cons hr
      show ({ U with heap := s₂.heap, slotsUsed := s₂.slotsUsed } : State) = { U.setFrames U.frames with heap := s₂.heap, slotsUsed := s₂.slotsUsed }
      rw [State.setFrames_self ht]
    subst hg
    refine Or.inr ⟨q, ⟨(({ U with heap := s₂.heap, slotsUsed := s₂.slotsUsed } : State).setVm s₂.vm), Ls ++ L, c0 + mc, s0 + ms⟩,
      ⟨X.admits, X.cas, X.clock, X.frames, X.room, X.hears, X.method, X.code, (X.here.setHeapUsed s₂.heap s₂.slotsUsed).setVm hW'.alike, X.tail, State.WarmedH.trans X.warmed hW', X.limits, X.bytes, X.same.trans (hsame.setVm s.vm)⟩,
      ⟨g, mk, s₂, L, E, ce, rfl, rfl, hx, hce, hcv, hcl, rfl, hL, rfl, rfl⟩, ?_⟩
    show Steps p.tables e below _ (((({ U with heap := s₂.heap, slotsUsed := s₂.slotsUsed } : State).setVm s₂.vm).setTop g).pushFrame (.throwing q))
    rw [← hs₂]
    exact hsteps
end
variable {p : Program} {l : Launch} {e : Env} {R : Room} {s : State} {m : MethodId} {args : Array Value} {below : List Frame} {meth : Method} {c : Code} {T : State} {H : Heap} {locs : List Loc} {cells slots : Nat}
theorem vx_callVX (X : Stand p l e R s m args below meth c T locs cells slots) (hexec : p.tables.exec = Jvm.exec) {own C : String} {index : Nat} {y : MethodName} {bytes : ByteArray} {maxL : Nat} {ret : Option FieldType} {hh : List (Nat × Nat × Nat × Nat)}
    (hown : s.vm.findClass own = some m.cls) (hlink : (Cond.methodLink own index y).before args s = true) (hinst : (Cond.instanceMethod y).before args s = true) (hsel : (Cond.selects C y y).before args s = true)
    (hcode : (Cond.codeWith y bytes maxL ret hh).before args s = true) (hy : y.cls ≠ "java/lang/invoke/MethodHandle" ∧ y.cls ≠ "java/lang/invoke/VarHandle")
    {W9 : Nat} {Pre : Pt → Array Value → Prop} {Post : Pt → Array Value → Option Value → Pt → Prop} {PostX : Pt → Array Value → Addr → Pt → Prop} (hK : vx_Back l R p e below s args y 3 W9 Pre Post PostX)
    {b : Addr} {cellB : Cell} (hcell : T.heap[b]? = some cellB) (hobj : cellB.vm.isStatics = false) (hcls : s.vm.findClass C = some cellB.cls)
    {g : JFrame} (hg : g.method = m) (hsize : g.locals.size = c.maxLocals) {argsL rest : List Value} (hlen : ∀ sig, parseMethodDescriptor y.desc = some sig → argsL.length = sig.parameters.length)
    (hstack : g.stack = argsL.reverse ++ .ref b :: rest) (hW : 2 * g.monitorRoom + (rest.map fun v => v.category).sum ≤ W9) (hdg : decode c.code g.pc = .ok (.invokevirtual index, 3))
    (hpre : ∀ vm₁, s.WarmedH vm₁ → Pre ⟨T.setVm vm₁, locs, cells, slots⟩ (Value.ref b :: argsL).toArray) :
    (∃ (v : Option Value) (vm₁ : Vm) (B : Pt), s.WarmedH vm₁ ∧ Stand p l e R s m args below meth c B.U B.locs B.cells B.slots ∧ Post ⟨T.setVm vm₁, locs, cells, slots⟩ (Value.ref b :: argsL).toArray v B ∧
      ∀ target, Steps p.tables e below (B.U.setTop { g with pc := g.pc + 3, stack := v.toList ++ rest }) target → Steps p.tables e below (T.setTop g) target) ∨
    (∃ (q : Addr) (vm₁ : Vm) (B : Pt), s.WarmedH vm₁ ∧ Stand p l e R s m args below meth c B.U B.locs B.cells B.slots ∧ PostX ⟨T.setVm vm₁, locs, cells, slots⟩ (Value.ref b :: argsL).toArray q B ∧
      Steps p.tables e below (T.setTop g) ((B.U.setTop { g with stack := rest }).pushFrame (.throwing q))) := by
  obtain ⟨mk, methM, hnamed, hmethM, hstM, habM⟩ := Cond.instanceMethod_spec hinst
  obtain ⟨m8, methM', cM, hn8, hmethM', -, -, -, -, -, -, hsigM⟩ := Cond.codeWith_spec hcode
  cases Option.some.inj (hn8.symm.trans hnamed)
  cases hmethM.symm.trans hmethM'
  obtain ⟨c2, r2, m2, q1, q2, q3, q4, kP, hkP, hkPi⟩ := Cond.selects_spec hsel
  cases hcls.symm.trans q1
  cases (State.methodFound?_of_named hnamed hy).symm.trans q2
  cases hnamed.symm.trans q3
  have hselP : selectMethod e.platform s.vm cellB.cls mk = .method mk := by rw [Launch.admits_selectMethod X.admits]; exact q4
  obtain ⟨vm₁, X₁, hstep₁⟩ := X.invokevirtual hexec hown hlink hnamed hmethM hstM hkP hkPi hy (a := b) (cell := cellB) hcell
    (fun z h => by rw [h] at hobj; cases hobj) hselP hmethM habM hkP hkPi (g := g) hg (argsL := argsL) (rest := rest) (hlen _ hsigM) hstack hdg
  rcases hK m meth c ⟨T.setVm vm₁, locs, cells, slots⟩ { g with stack := rest } (.invokevirtual index) mk (Value.ref b :: argsL).toArray X₁ hg hsize hdg hW (X₁.named hnamed) (hpre vm₁ X₁.warmed) with ⟨v, B, X', hpost, hsteps⟩ | ⟨q, B, X', hpost, hsteps⟩
  · exact Or.inl ⟨v, vm₁, B, X₁.warmed, X', hpost, fun target h => hstep₁ _ fun acts => by rw [doInvoke_state]; exact hsteps.trans h⟩
  · exact Or.inr ⟨q, vm₁, B, X₁.warmed, X', hpost, hstep₁ _ fun acts => by rw [doInvoke_state]; exact hsteps⟩
theorem vx_callSX (X : Stand p l e R s m args below meth c T locs cells slots) (hexec : p.tables.exec = Jvm.exec) {own : String} {index : Nat} {y : MethodName} {bytes : ByteArray} {maxL : Nat} {ret : Option FieldType} {hh : List (Nat × Nat × Nat × Nat)}
    (hown : s.vm.findClass own = some m.cls) (hlink : (Cond.methodLink own index y).before args s = true) (hstat : (Cond.static y).before args s = true) (hinit : (Cond.initialized y.cls).before args s = true)
    (hcode : (Cond.codeWith y bytes maxL ret hh).before args s = true) (hy : y.cls ≠ "java/lang/invoke/MethodHandle" ∧ y.cls ≠ "java/lang/invoke/VarHandle")
    {W9 : Nat} {Pre : Pt → Array Value → Prop} {Post : Pt → Array Value → Option Value → Pt → Prop} {PostX : Pt → Array Value → Addr → Pt → Prop} (hK : vx_Back l R p e below s args y 3 W9 Pre Post PostX)
    {g : JFrame} (hg : g.method = m) (hsize : g.locals.size = c.maxLocals) {argsL rest : List Value} (hlen : ∀ sig, parseMethodDescriptor y.desc = some sig → argsL.length = sig.parameters.length)
    (hstack : g.stack = argsL.reverse ++ rest) (hW : 2 * g.monitorRoom + (rest.map fun v => v.category).sum ≤ W9) (hdg : decode c.code g.pc = .ok (.invokestatic index, 3))
    (hpre : ∀ vm₁, s.WarmedH vm₁ → Pre ⟨T.setVm vm₁, locs, cells, slots⟩ argsL.toArray) :
    (∃ (v : Option Value) (vm₁ : Vm) (B : Pt), s.WarmedH vm₁ ∧ Stand p l e R s m args below meth c B.U B.locs B.cells B.slots ∧ Post ⟨T.setVm vm₁, locs, cells, slots⟩ argsL.toArray v B ∧
      ∀ target, Steps p.tables e below (B.U.setTop { g with pc := g.pc + 3, stack := v.toList ++ rest }) target → Steps p.tables e below (T.setTop g) target) ∨
    (∃ (q : Addr) (vm₁ : Vm) (B : Pt), s.WarmedH vm₁ ∧ Stand p l e R s m args below meth c B.U B.locs B.cells B.slots ∧ PostX ⟨T.setVm vm₁, locs, cells, slots⟩ argsL.toArray q B ∧
      Steps p.tables e below (T.setTop g) ((B.U.setTop { g with stack := rest }).pushFrame (.throwing q))) := by
  obtain ⟨mk, methM, cM, hnamed, hmethM, -, -, -, -, -, -, hsigM⟩ := Cond.codeWith_spec hcode
  have hstatic : methM.isStatic = true := Cond.static_spec hnamed hmethM hstat
  obtain ⟨kP, hkP, -⟩ := className_of_methodNamed hnamed
  have hinitP : kP.init = .initialized := Cond.initialized_spec (findClass_of_methodNamed hnamed) hkP hinit
  obtain ⟨vm₁, X₁, hstep₁⟩ := X.invokestatic hexec hown hlink hnamed hmethM hstatic hkP hinitP hy (g := g) hg (argsL := argsL) (rest := rest) (hlen _ hsigM) hstack hdg
  rcases hK m meth c ⟨T.setVm vm₁, locs, cells, slots⟩ { g with stack := rest } (.invokestatic index) mk argsL.toArray X₁ hg hsize hdg hW (X₁.named hnamed) (hpre vm₁ X₁.warmed) with ⟨v, B, X', hpost, hsteps⟩ | ⟨q, B, X', hpost, hsteps⟩
  · exact Or.inl ⟨v, vm₁, B, X₁.warmed, X', hpost, fun target h => hstep₁ _ fun acts => by rw [doInvoke_state]; exact hsteps.trans h⟩
  · exact Or.inr ⟨q, vm₁, B, X₁.warmed, X', hpost, hstep₁ _ fun acts => by rw [doInvoke_state]; exact hsteps⟩
theorem vx_callVW (X : Stand p l e R s m args below meth c T locs cells slots) (hexec : p.tables.exec = Jvm.exec) {own C : String} {index : Nat} {y : MethodName} {bytes : ByteArray} {maxL : Nat} {ret : Option FieldType} {hh : List (Nat × Nat × Nat × Nat)}
    (hown : s.vm.findClass own = some m.cls) (hlink : (Cond.methodLink own index y).before args s = true) (hinst : (Cond.instanceMethod y).before args s = true) (hsel : (Cond.selects C y y).before args s = true)
    (hcode : (Cond.codeWith y bytes maxL ret hh).before args s = true) (hy : y.cls ≠ "java/lang/invoke/MethodHandle" ∧ y.cls ≠ "java/lang/invoke/VarHandle")
    {W9 : Nat} {Pre : Pt → Array Value → Prop} {Post : Pt → Array Value → Option Value → Pt → Prop} (hK : Back l R p e below s args y 3 W9 Pre Post)
    {b : Addr} {cellB : Cell} (hcell : T.heap[b]? = some cellB) (hobj : cellB.vm.isStatics = false) (hcls : s.vm.findClass C = some cellB.cls)
    {g : JFrame} (hg : g.method = m) (hsize : g.locals.size = c.maxLocals) {argsL rest : List Value} (hlen : ∀ sig, parseMethodDescriptor y.desc = some sig → argsL.length = sig.parameters.length)
    (hstack : g.stack = argsL.reverse ++ .ref b :: rest) (hW : 2 * g.monitorRoom + (rest.map fun v => v.category).sum ≤ W9) (hdg : decode c.code g.pc = .ok (.invokevirtual index, 3))
    (hpre : ∀ vm₁, s.WarmedH vm₁ → Pre ⟨T.setVm vm₁, locs, cells, slots⟩ (Value.ref b :: argsL).toArray) :
    ∃ (v : Option Value) (vm₁ : Vm) (B : Pt), s.WarmedH vm₁ ∧ Stand p l e R s m args below meth c B.U B.locs B.cells B.slots ∧ Post ⟨T.setVm vm₁, locs, cells, slots⟩ (Value.ref b :: argsL).toArray v B ∧
      ∀ target, Steps p.tables e below (B.U.setTop { g with pc := g.pc + 3, stack := v.toList ++ rest }) target → Steps p.tables e below (T.setTop g) target := by
  obtain ⟨mk, methM, hnamed, hmethM, hstM, habM⟩ := Cond.instanceMethod_spec hinst
  obtain ⟨m8, methM', cM, hn8, hmethM', -, -, -, -, -, -, hsigM⟩ := Cond.codeWith_spec hcode
  cases Option.some.inj (hn8.symm.trans hnamed)
  cases hmethM.symm.trans hmethM'
  obtain ⟨c2, r2, m2, q1, q2, q3, q4, kP, hkP, hkPi⟩ := Cond.selects_spec hsel
  cases hcls.symm.trans q1
  cases (State.methodFound?_of_named hnamed hy).symm.trans q2
  cases hnamed.symm.trans q3
  have hselP : selectMethod e.platform s.vm cellB.cls mk = .method mk := by rw [Launch.admits_selectMethod X.admits]; exact q4
  obtain ⟨vm₁, X₁, hstep₁⟩ := X.invokevirtual hexec hown hlink hnamed hmethM hstM hkP hkPi hy (a := b) (cell := cellB) hcell
    (fun z h => by rw [h] at hobj; cases hobj) hselP hmethM habM hkP hkPi (g := g) hg (argsL := argsL) (rest := rest) (hlen _ hsigM) hstack hdg
  obtain ⟨v, B, X', hpost, hsteps⟩ := hK m meth c ⟨T.setVm vm₁, locs, cells, slots⟩ { g with stack := rest } (.invokevirtual index) mk (Value.ref b :: argsL).toArray X₁ hg hsize hdg hW (X₁.named hnamed) (hpre vm₁ X₁.warmed)
  exact ⟨v, vm₁, B, X₁.warmed, X', hpost, fun target h => hstep₁ _ fun acts => by rw [doInvoke_state]; exact hsteps.trans h⟩
abbrev vx_CVW (R : Room) (s : State) (args : Array Value) (own C : String) (index : Nat) (y : MethodName) (bytes : ByteArray) (maxL : Nat) (ret : Option FieldType) (hh : List (Nat × Nat × Nat × Nat)) (ws : List Cond) (rm : Room) (mc ms n : Nat) : Prop :=
  (rm.cells = mc ∧ rm.slots = ms ∧ rm.frames + 1 ≤ R.frames ∧ 8 + (maxL + 11) + rm.locals ≤ R.locals ∧ (∀ w ∈ ws, ∀ (a' : Array Value) (U : State), s.WarmedH U.vm → w.before a' U = true) ∧ Cond.codeWith y bytes maxL ret hh ∈ ws) ∧
  (Cond.codeWith y bytes maxL ret hh).before args s = true ∧ (Cond.initialized y.cls).before args s = true ∧ (y.cls ≠ "java/lang/invoke/MethodHandle" ∧ y.cls ≠ "java/lang/invoke/VarHandle") ∧
  (∀ sig, parseMethodDescriptor y.desc = some sig → n = sig.parameters.length) ∧ (Cond.methodLink own index y).before args s = true ∧ (Cond.instanceMethod y).before args s = true ∧ (Cond.selects C y y).before args s = true
theorem vx_cwVW {own C : String} {index maxL mc ms : Nat} {y : MethodName} {bytes : ByteArray} {ret : Option FieldType} {hh : List (Nat × Nat × Nat × Nat)} {Ts ws ws' : List Cond} {rm : Room} (n : Nat) (ht : ∀ w ∈ Ts, w.before args s = true) (hT : GoodIn Ts (wsV own index C y ws)) (hw : ws = Cond.codeWith y bytes maxL ret hh :: ws') (hrc : rm.cells = mc) (hrs : rm.slots = ms)
    (hd : y.cls = C ∧ y.cls ≠ "java/lang/invoke/MethodHandle" ∧ y.cls ≠ "java/lang/invoke/VarHandle" ∧ (parseMethodDescriptor y.desc).map (fun d => d.parameters.length) = some n) (hR : rm.frames + 1 ≤ R.frames ∧ 8 + (maxL + 11) + rm.locals ≤ R.locals) :
    vx_CVW R s args own C index y bytes maxL ret hh ws rm mc ms n := by
  obtain ⟨hC, hd⟩ := hd
  subst hC
  have ok : ∀ w ∈ wsV own index y.cls y ws, w.before args s = true := fun w h => ht w (hT w h).1
  have hG : GoodIn Ts ws := fun w h => hT w (by unfold wsV; exact List.mem_append_right _ h)
  have hc : Cond.codeWith y bytes maxL ret hh ∈ ws := by rw [hw]; exact List.mem_cons_self
  refine ⟨⟨hrc, hrs, hR.1, hR.2, pay_in ht hG, hc⟩, ht _ (hG _ hc).1, ok _ (by simp [wsV]), ⟨hd.1, hd.2.1⟩, fun sig h => ?_, ok _ (by simp [wsV]), ok _ (by simp [wsV]), ok _ (by simp [wsV])⟩
  have h2 := hd.2.2
  rw [h] at h2
  exact (Option.some.inj h2).symm
theorem vx_runVW {y : MethodName} {bytes cc : ByteArray} {maxL nL mc ms n index : Nat} {ret : Option FieldType} {hh : List (Nat × Nat × Nat × Nat)} {ws : List Cond} {rm : Room} {Pc : Array Value → State → Prop} {Qc : Array Value → State → Outcome → State → Prop} {free : Addr → Prop} {Ts : List Cond} {own C : String} {b : Addr} {As rest : List Value} {g : JFrame}
    (S : CallFix p m c cc nL s args Ts own) (hM : Met l y ws rm Pc Qc mc ms free) (cw : vx_CVW R s args own C index y bytes maxL ret hh ws rm mc ms n) (hp : PreV s H C b Pc As)
    (hg : g.method = m) (hn : As.length = n) (hsize : g.locals.size = nL) (hstack : g.stack = As.reverse ++ .ref b :: rest) (hW : 2 * g.monitorRoom + (rest.map fun v => v.category).sum ≤ 8) (hdg : decode cc g.pc = .ok (.invokevirtual index, 3)) (hf : cells + mc ≤ R.cells ∧ slots + ms ≤ R.slots) :
    va_Run p l e R s m args below meth c H locs cells slots mc ms g rest (Qc (Value.ref b :: As).toArray) free := by
  obtain ⟨⟨hrc, hrs, hfr, hlo, hws, hcw⟩, hcode, hini, hy, hlen, hl, hin, hse⟩ := cw
  have hK : Back l R p e below s args y 3 8 (PreOf R mc ms Pc) (PostOf Qc mc ms free) := va_backW (hh := hh) (bytes := bytes) (maxL := maxL) (ret := ret) hM hp.1 hrc hrs hfr hlo hws hcw (fun a' U hW => word_at hW (Or.inl (by first | rfl | simp [Cond.onTables, Cond.keeps, Cond.steady])) hini)
  obtain ⟨hx, hb, hml, ho, -⟩ := S
  obtain ⟨-, ⟨cellB, hcB, hoB, hclB⟩, hPc⟩ := hp
  intro T hT X
  obtain ⟨v, vm₁, ⟨U', l2, c2, s2⟩, hW₁, X', ⟨g', mk, t, L, e1, e2, hq, h1, hL, h2, h3⟩, st⟩ := vx_callVW X hx (C := C) (hh := hh) (bytes := bytes) (maxL := maxL) (ret := ret) ho hl hin hse hcode hy hK (by rw [hT]; exact hcB) hoB hclB hg (hsize.trans hml.symm) (argsL := As) (rest := rest) (fun sig h => hn.trans (hlen sig h)) hstack hW (by rw [hb]; exact hdg)
    (fun vm₁ hW₁ => ⟨hf.1, hf.2, hPc (T.setVm vm₁) hT hW₁⟩)
  dsimp only [Pt.U, Pt.locs, Pt.cells, Pt.slots] at X' e1 e2 h1 h2 h3 st
  subst h1; subst h2; subst h3
  exact ⟨v, (T.setVm vm₁).calling g' mk (Value.ref b :: As).toArray, t, U', L, hT, X', hL, e1, e2, hq, st⟩
section
variable {y : MethodName} {bytes cc : ByteArray} {maxL nL mc ms n index : Nat} {ret : Option FieldType} {ws : List Cond} {rm : Room} {Pc : Array Value → State → Prop} {Qc : Array Value → State → Outcome → State → Prop} {XC : String → State → State → Prop} {free : Addr → Prop} {Ts : List Cond} {own C : String} {b : Addr} {As rest : List Value} {g : JFrame}
theorem vx_runVX {hh : List (Nat × Nat × Nat × Nat)} (S : CallFix p m c cc nL s args Ts own) (hM : vx_Met l y ws rm Pc Qc XC mc ms free) (cw : vx_CVW R s args own C index y bytes maxL ret hh ws rm mc ms n) (hp : PreV s H C b Pc As)
    (hg : g.method = m) (hn : As.length = n) (hsize : g.locals.size = nL) (hstack : g.stack = As.reverse ++ .ref b :: rest) (hW : 2 * g.monitorRoom + (rest.map fun v => v.category).sum ≤ 8) (hdg : decode cc g.pc = .ok (.invokevirtual index, 3)) (hf : cells + mc ≤ R.cells ∧ slots + ms ≤ R.slots) :
    vx_Run p l e R s m args below meth c H locs cells slots mc ms g rest (Qc (Value.ref b :: As).toArray) XC free := by
  obtain ⟨⟨hrc, hrs, hfr, hlo, hws, hcw⟩, hcode, hini, hy, hlen, hl, hin, hse⟩ := cw
  have hK : vx_Back l R p e below s args y 3 8 (PreOf R mc ms Pc) (PostOf Qc mc ms free) (vx_Post XC mc ms free) := vx_backW (hh := hh) (bytes := bytes) (maxL := maxL) (ret := ret) hM hp.1 hrc hrs hfr hlo hws hcw (fun a' U hW => word_at hW (Or.inl (by first | rfl | simp [Cond.onTables, Cond.keeps, Cond.steady])) hini)
  obtain ⟨hx, hb, hml, ho, -⟩ := S
  obtain ⟨-, ⟨cellB, hcB, hoB, hclB⟩, hPc⟩ := hp
  intro T hT X
  rcases vx_callVX X hx (C := C) (hh := hh) (bytes := bytes) (maxL := maxL) (ret := ret) ho hl hin hse hcode hy hK (by rw [hT]; exact hcB) hoB hclB hg (hsize.trans hml.symm) (argsL := As) (rest := rest) (fun sig h => hn.trans (hlen sig h)) hstack hW (by rw [hb]; exact hdg)
    (fun vm₁ hW₁ => ⟨hf.1, hf.2, hPc (T.setVm vm₁) hT hW₁⟩) with ⟨v, vm₁, ⟨U', l2, c2, s2⟩, hW₁, X', ⟨g', mk, t, L, e1, e2, hq, h1, hL, h2, h3⟩, st⟩ | ⟨q, vm₁, ⟨U', l2, c2, s2⟩, hW₁, X', ⟨g', mk, t, L, E, ce, e1, e2, hq, hce, hcv, hcl, h1, hL, h2, h3⟩, st⟩
  · dsimp only [Pt.U, Pt.locs, Pt.cells, Pt.slots] at X' e1 e2 h1 h2 h3 st
    subst h1; subst h2; subst h3
    exact Or.inl ⟨v, (T.setVm vm₁).calling g' mk (Value.ref b :: As).toArray, t, U', L, hT, X', hL, e1, e2, hq, st⟩
  · dsimp only [Pt.U, Pt.locs, Pt.cells, Pt.slots] at X' e1 e2 h1 h2 h3 st hcl
    subst h1; subst h2; subst h3
    exact Or.inr ⟨q, (T.setVm vm₁).calling g' mk (Value.ref b :: As).toArray, t, U', L, E, ce, hT, X', hL, e1, e2, hq, hce, hcv, vx_cls hW₁ hcl, st⟩
theorem vx_runSX {hh : List (Nat × Nat × Nat × Nat)} (S : CallFix p m c cc nL s args Ts own) (hM : vx_Met l y ws rm Pc Qc XC mc ms free) (cw : vx_CSW R s args own index y bytes maxL ret hh ws rm mc ms n) (hp : PreS s H Pc As)
    (hg : g.method = m) (hn : As.length = n) (hsize : g.locals.size = nL) (hstack : g.stack = As.reverse ++ rest) (hW : 2 * g.monitorRoom + (rest.map fun v => v.category).sum ≤ 8) (hdg : decode cc g.pc = .ok (.invokestatic index, 3)) (hf : cells + mc ≤ R.cells ∧ slots + ms ≤ R.slots) :
    vx_Run p l e R s m args below meth c H locs cells slots mc ms g rest (Qc As.toArray) XC free := by
  obtain ⟨⟨hrc, hrs, hfr, hlo, hws, hcw⟩, hcode, hini, hy, hlen, hl, hstt⟩ := cw
  have hK : vx_Back l R p e below s args y 3 8 (PreOf R mc ms Pc) (PostOf Qc mc ms free) (vx_Post XC mc ms free) := vx_backW (hh := hh) (bytes := bytes) (maxL := maxL) (ret := ret) hM hp.1 hrc hrs hfr hlo hws hcw (fun a' U hW => word_at hW (Or.inl (by first | rfl | simp [Cond.onTables, Cond.keeps, Cond.steady])) hini)
  obtain ⟨hx, hb, hml, ho, -⟩ := S
  intro T hT X
  rcases vx_callSX X hx (hh := hh) (bytes := bytes) (maxL := maxL) (ret := ret) ho hl hstt hini hcode hy hK hg (hsize.trans hml.symm) (argsL := As) (rest := rest) (fun sig h => hn.trans (hlen sig h)) hstack hW (by rw [hb]; exact hdg)
    (fun vm₁ hW₁ => ⟨hf.1, hf.2, hp.2 (T.setVm vm₁) hT hW₁⟩) with ⟨v, vm₁, ⟨U', l2, c2, s2⟩, hW₁, X', ⟨g', mk, t, L, e1, e2, hq, h1, hL, h2, h3⟩, st⟩ | ⟨q, vm₁, ⟨U', l2, c2, s2⟩, hW₁, X', ⟨g', mk, t, L, E, ce, e1, e2, hq, hce, hcv, hcl, h1, hL, h2, h3⟩, st⟩
  · dsimp only [Pt.U, Pt.locs, Pt.cells, Pt.slots] at X' e1 e2 h1 h2 h3 st
    subst h1; subst h2; subst h3
    exact Or.inl ⟨v, (T.setVm vm₁).calling g' mk As.toArray, t, U', L, hT, X', hL, e1, e2, hq, st⟩
  · dsimp only [Pt.U, Pt.locs, Pt.cells, Pt.slots] at X' e1 e2 h1 h2 h3 st hcl
    subst h1; subst h2; subst h3
    exact Or.inr ⟨q, (T.setVm vm₁).calling g' mk As.toArray, t, U', L, E, ce, hT, X', hL, e1, e2, hq, hce, hcv, vx_cls hW₁ hcl, st⟩
end
end VXH
theorem vx_ofWH {l : Launch} {y : MethodName} {ws ws' : List Cond} {rm : Room} {Pc : Array Value → State → Prop} {Qc : Array Value → State → Outcome → State → Prop} {XC : String → State → State → Prop} {mc ms : Nat} {free : Addr → Prop} {cc : ByteArray} {maxL : Nat} {ret : Option FieldType} {hh : List (Nat × Nat × Nat × Nat)}
    (hy : plainName y.cls = true) (hw : ws = Cond.codeWith y cc maxL ret hh :: ws')
    (body : ∀ p e s m args below meth c s₁, BodyLoose p l y (headSpec ws rm) cc maxL ret e s m args below meth c s₁ → c.maxLocals = maxL → Pc args s →
      W p l e (headSpec ws rm).room s m args below meth c s.heap [] 0 0 (vx_MQ below Qc XC args s mc ms free) (entryFrame m args maxL)) : vx_Met l y ws rm Pc Qc XC mc ms free := by
  refine MetFree.of_bodyS (code := cc) (maxLocals := maxL) (ret := ret) hy ?_ ?_
  · intro args s m h hn
    obtain ⟨m9, meth, c, hn9, h1, h2, h3, h4, -, h5, h6, -⟩ := Cond.codeWith_spec (atoms_spec (ws := ws) h _ (by rw [hw]; exact List.mem_cons_self))
    cases hn.symm.trans hn9
    exact ⟨meth, c, h1, h2, h3, h4, h5, h6⟩
  · intro p e s m args below meth c s₁ B hml hP _
    have hh0 : s₁.heap = s.heap := by rw [B.state]; rfl
    obtain ⟨t, a1, o, b1, b2, b3⟩ := body p e s m args below meth c s₁ B hml hP s₁ hh0 (Stand.of_body B)
    exact ⟨t, o, a1, b1, b2, b3⟩
/-! ===== END ===== -/
end
section
/-! A world as a map from addresses to cells: no places, no frame to put back; a contract says what the map is behind the call. -/
abbrev gm : Type := Nat → Option va_E
def gm_up (f : gm) (a : Nat) (x : va_E) : gm := fun q => if q = a then some x else f q
theorem gm_up_self {f : gm} {a : Nat} {x : va_E} : gm_up f a x a = some x := if_pos rfl
theorem gm_up_ne {f : gm} {a b : Nat} {x : va_E} (h : b ≠ a) : gm_up f a x b = f b := if_neg h
theorem gm_up_of {f : gm} {a b : Nat} {x y : va_E} (hb : f b = some y) (ha : f a = none) : gm_up f a x b = some y := by
  rw [gm_up_ne (fun e => by rw [e, ha] at hb; cases hb)]; exact hb
def gm_hp (D : va_G) (cl : List vw_C) (A : Nat → Prop) (f : gm) (H : Heap) : Prop := ∀ (a : Nat) (x : va_E), f a = some x → va_at D cl (a, x) H ∧ A a
def gm_l (f : gm) (n : Nat) : va_W := (List.range n).filterMap (fun a => (f a).map (fun x => (a, x)))
theorem gm_l_mem {f : gm} {n a : Nat} {x : va_E} : (a, x) ∈ gm_l f n ↔ a < n ∧ f a = some x := by
  simp only [gm_l, List.mem_filterMap, List.mem_range, Option.map_eq_some_iff]
  constructor
  · rintro ⟨b, hb, y, hy, e⟩
    cases e
    exact ⟨hb, hy⟩
  · rintro ⟨h1, h2⟩
    exact ⟨a, h1, x, h2, rfl⟩
theorem gm_l_succ (f : gm) (n : Nat) : gm_l f (n + 1) = gm_l f n ++ (f n).toList.map (fun x => (n, x)) := by
  unfold gm_l
  rw [List.range_succ, List.filterMap_append]
  congr 1
  cases h : f n <;> simp [h]
theorem gm_apart (f : gm) : ∀ (n i j : Nat) (p q : Nat × va_E), (gm_l f n)[i]? = some p → (gm_l f n)[j]? = some q → p.1 = q.1 → i = j := by
  intro n
  induction n with
  | zero => intro i j p q h; simp [gm_l] at h
  | succ n ih =>
    have key : ∀ (i : Nat) (p : Nat × va_E), (gm_l f (n + 1))[i]? = some p → ((gm_l f n)[i]? = some p ∧ p.1 < n) ∨ (i = (gm_l f n).length ∧ p.1 = n) := by
      intro i p h
      rw [gm_l_succ] at h
      by_cases hl : i < (gm_l f n).length
      · rw [List.getElem?_append_left hl] at h
        obtain ⟨a, x⟩ := p
        exact Or.inl ⟨h, (gm_l_mem.mp (List.mem_of_getElem? h)).1⟩
      · rw [List.getElem?_append_right (by omega)] at h
        cases hf : f n with
        | none => rw [hf] at h; simp at h
        | some x =>
          rw [hf] at h
          have h0 : i - (gm_l f n).length < 1 := by
            have := (List.getElem?_eq_some_iff.mp h).1
            simpa using this
          have h1 : i = (gm_l f n).length := by omega
          subst h1
          simp at h
          exact Or.inr ⟨rfl, by rw [← h]⟩
    intro i j p q hi hj hpq
    rcases key i p hi with ⟨a1, a2⟩ | ⟨a1, a2⟩ <;> rcases key j q hj with ⟨b1, b2⟩ | ⟨b1, b2⟩
    · exact ih i j p q a1 b1 hpq
    · omega
    · omega
    · omega
section GM
variable {D : va_G} {cl : List vw_C} {A : Nat → Prop} {f g : gm} {H H1 : Heap} {a b k n q : Nat} {x y : va_E}
theorem gm_hp.lt (h : gm_hp D cl A f H) (ha : f a = some x) : a < H.size := (h a x ha).1.lt
theorem gm_P (h : gm_hp D cl A f H) : va_P D cl (gm_l f H.size) H := by
  intro k q hk
  obtain ⟨a, x⟩ := q
  exact (h a x (gm_l_mem.mp (List.mem_of_getElem? hk)).2).1
theorem gm_D (h : gm_hp D cl A f H) : va_D A (gm_l f H.size) := ⟨gm_apart f _, fun k q hk => by
  obtain ⟨a, x⟩ := q
  exact (h a x (gm_l_mem.mp (List.mem_of_getElem? hk)).2).2⟩
theorem gm_at (h : gm_hp D cl A f H) (ha : f a = some x) : ∃ k : Nat, (gm_l f H.size)[k]? = some (a, x) := List.getElem?_of_mem (gm_l_mem.mpr ⟨h.lt ha, ha⟩)
theorem gm_one (h : gm_hp D cl A f H) (ha : f a = some x) : va_P D cl [(a, x)] H := by
  intro k q hk
  have hz : k < 1 := (List.getElem?_eq_some_iff.mp hk).1
  rw [show k = 0 by omega] at hk
  cases hk
  exact (h a x ha).1
theorem gm_set (h : gm_hp D cl A f H) (hk : (gm_l f H.size)[k]? = some (a, x)) (hP : va_P D cl ((gm_l f H.size).set k (a, y)) H1) (hD : va_D A ((gm_l f H.size).set k (a, y))) : gm_hp D cl A (gm_up f a y) H1 := by
  have hl := (List.getElem?_eq_some_iff.mp hk).1
  have hka : ((gm_l f H.size).set k (a, y))[k]? = some (a, y) := List.getElem?_set_self hl
  intro b z hb
  by_cases e : b = a
  · subst e
    rw [gm_up_self] at hb
    cases hb
    exact ⟨hP k _ hka, hD.2 k _ hka⟩
  · rw [gm_up_ne e] at hb
    obtain ⟨j, hj⟩ := gm_at h hb
    have hjk : k ≠ j := by
      intro e2
      subst e2
      rw [hk] at hj
      cases hj
      exact e rfl
    have hj' : ((gm_l f H.size).set k (a, y))[j]? = some (b, z) := by rw [List.getElem?_set_ne hjk]; exact hj
    exact ⟨hP j _ hj', hD.2 j _ hj'⟩
theorem gm_push (h : gm_hp D cl A f H) (hP : va_P D cl (gm_l f H.size ++ [(q, y)]) H1) (hD : va_D A (gm_l f H.size ++ [(q, y)])) : f q = none ∧ gm_hp D cl A (gm_up f q y) H1 := by
  have hq : (gm_l f H.size ++ [(q, y)])[(gm_l f H.size).length]? = some (q, y) := by simp
  have hn : f q = none := by
    cases hf : f q with
    | none => rfl
    | some z =>
      obtain ⟨k, hk⟩ := gm_at h hf
      have hl := (List.getElem?_eq_some_iff.mp hk).1
      have hk' : (gm_l f H.size ++ [(q, y)])[k]? = some (q, z) := by rw [List.getElem?_append_left hl]; exact hk
      exact absurd (hD.1 k _ _ _ hk' hq rfl) (Nat.ne_of_lt hl)
  refine ⟨hn, fun b z hb => ?_⟩
  by_cases e : b = q
  · subst e
    rw [gm_up_self] at hb
    cases hb
    exact ⟨hP _ _ hq, hD.2 _ _ hq⟩
  · rw [gm_up_ne e] at hb
    obtain ⟨j, hj⟩ := gm_at h hb
    have hl := (List.getElem?_eq_some_iff.mp hj).1
    have hj' : (gm_l f H.size ++ [(q, y)])[j]? = some (b, z) := by rw [List.getElem?_append_left hl]; exact hj
    exact ⟨hP _ _ hj', hD.2 _ _ hj'⟩
theorem gm_hp.mono {B : Nat → Prop} (h : gm_hp D cl A f H) (hAB : ∀ q, A q → B q) : gm_hp D cl B f H := fun a x ha => ⟨(h a x ha).1, hAB _ (h a x ha).2⟩
end GM
/-- what a call may change: its world's cells, and those that it makes -/
def gm_A (f : gm) (sz : Nat) : Nat → Prop := fun q => f q ≠ none ∨ sz ≤ q
theorem gm_A_in {f : gm} {sz a : Nat} {x : va_E} (h : f a = some x) : gm_A f sz a := Or.inl (by rw [h]; exact fun z => by cases z)
theorem gm_A_none {f : gm} {sz a : Nat} (h : ¬ gm_A f sz a) : f a = none := by
  cases hf : f a with
  | none => rfl
  | some x => exact absurd (gm_A_in hf) h
/-- the map behind a call that saw the part g of f and left g' -/
def gm_fr (f g g' : gm) : gm := fun q => if g q = none ∧ f q ≠ none then f q else g' q
theorem gm_fr_self {f g' : gm} : gm_fr f f g' = g' := by
  funext q
  unfold gm_fr
  rw [if_neg (fun h => h.2 h.1)]
end
section
/-! The judgement gj: the machine at pc, with the world f (a map), locals lw by their places (none: unknown), the stack st, and room left for nc cells of ns slots. Its rows follow the kit's, an instruction each. -/
def gl_l (lw : List (Option Value)) : List (Nat × Value) := lw.zipIdx.filterMap (fun q => q.1.map (fun v => (q.2, v)))
theorem gl_mem {lw : List (Option Value)} {i : Nat} {v : Value} : (i, v) ∈ gl_l lw ↔ lw[i]? = some (some v) := by
  simp only [gl_l, List.mem_filterMap]
  constructor
  · rintro ⟨⟨o, j⟩, hm, he⟩
    rw [List.mk_mem_zipIdx_iff_getElem?] at hm
    cases o with
    | none => cases he
    | some w => cases he; exact hm
  · intro h
    exact ⟨(some v, i), List.mk_mem_zipIdx_iff_getElem?.mpr h, rfl⟩
def gl_has (ls : Array Slot) (nL : Nat) (lw : List (Option Value)) : Prop := lv_has ls nL (gl_l lw)
theorem gl_at {ls : Array Slot} {nL : Nat} {lw : List (Option Value)} {i : Nat} {v : Value} (h : gl_has ls nL lw) (hi : lw[i]? = some (some v)) : ls[i]? = some (.val v) := h.2.2 (i, v) (gl_mem.mpr hi)
theorem gl_sub {ls : Array Slot} {nL : Nat} {lw lw' : List (Option Value)} (h : gl_has ls nL lw) (hs : ∀ (i : Nat) (v : Value), lw'[i]? = some (some v) → lw[i]? = some (some v)) : gl_has ls nL lw' := ⟨h.1, h.2.1, fun q hq => h.2.2 q (by obtain ⟨i, v⟩ := q; exact gl_mem.mpr (hs i v (gl_mem.mp hq)))⟩
def gl_c1 (lw : List (Option Value)) : Bool := lw.all (fun o => match o with | some v => v.category == 1 | none => true)
theorem gl_c1_at {lw : List (Option Value)} (h : gl_c1 lw = true) {i : Nat} {v : Value} (hi : lw[i]? = some (some v)) : v.category = 1 := by
  have := List.all_eq_true.mp h _ (List.mem_of_getElem? hi)
  simpa using this
theorem gl_put {ls : Array Slot} {nL i : Nat} {w : Value} {lw : List (Option Value)} (hc : gl_c1 lw = true) (h : lv_has ls nL ((i, w) :: (gl_l lw).filter (fun q => !(q.1 == i) && !(q.1 + 1 == i && q.2.category == 2)))) : gl_has ls nL (lw.set i (some w)) := by
  refine ⟨h.1, h.2.1, fun q hq => h.2.2 q ?_⟩
  obtain ⟨j, v⟩ := q
  have hj := gl_mem.mp hq
  by_cases e : j = i
  · subst e
    rw [List.getElem?_set] at hj
    split at hj
    · split at hj
      · cases hj
        exact List.mem_cons_self
      · cases hj
    · exact absurd rfl (by assumption)
  · rw [List.getElem?_set_ne (Ne.symm e)] at hj
    refine List.mem_cons_of_mem _ (List.mem_filter.mpr ⟨gl_mem.mpr hj, ?_⟩)
    simp [e, gl_c1_at hc hj]
section GJ
variable {p : Program} {l : Launch} {e : Env} {R : Room} {s : State} {m : MethodId} {args : Array Value} {below : List Frame} {meth : Method} {c : Code} {D : va_G} {cl : List vw_C} {A : Nat → Prop} {nL : Nat} {Q : State → Prop} {f : gm} {nc ns pc : Nat} {lw lw' : List (Option Value)} {st : List Value} {cc : ByteArray} {Ts : List Cond} {own : String} {tys : List (ClassId × FieldType)}
def gj (p : Program) (l : Launch) (e : Env) (R : Room) (s : State) (m : MethodId) (args : Array Value) (below : List Frame) (meth : Method) (c : Code) (D : va_G) (cl : List vw_C) (A : Nat → Prop) (nL : Nat) (Q : State → Prop) (f : gm) (nc ns pc : Nat) (lw : List (Option Value)) (st : List Value) : Prop :=
  ∀ (H : Heap) (locs : List Loc) (cells slots : Nat) (ls : Array Slot), gm_hp D cl A f H → va_S A s.heap H locs → cells + nc ≤ R.cells → slots + ns ≤ R.slots → gl_has ls nL lw → W p l e R s m args below meth c H locs cells slots Q (F0 m pc ls st)
/-- what stands fixed in a method's walk -/
def gx (p : Program) (m : MethodId) (c : Code) (cc : ByteArray) (nL : Nat) (s : State) (args : Array Value) (Ts : List Cond) (own : String) (D : va_G) (cl : List vw_C) (tys : List (ClassId × FieldType)) (A : Nat → Prop) : Prop :=
  CallFix p m c cc nL s args Ts own ∧ va_K D cl tys s ∧ ∀ q : Nat, s.heap.size ≤ q → A q

theorem gj_nc {nc' ns' : Nat} (h1 : nc' ≤ nc) (h2 : ns' ≤ ns) (kk : gj p l e R s m args below meth c D cl A nL Q f nc' ns' pc lw st) : gj p l e R s m args below meth c D cl A nL Q f nc ns pc lw st := fun H locs cells slots ls a1 a2 a3 a4 hl => kk H locs cells slots ls a1 a2 (Nat.le_trans (Nat.add_le_add_left h1 _) a3) (Nat.le_trans (Nat.add_le_add_left h2 _) a4) hl
theorem gj_lw (hs : ∀ (i : Nat) (v : Value), lw'[i]? = some (some v) → lw[i]? = some (some v)) (kk : gj p l e R s m args below meth c D cl A nL Q f nc ns pc lw' st) : gj p l e R s m args below meth c D cl A nL Q f nc ns pc lw st := fun H locs cells slots ls a1 a2 a3 a4 hl => kk H locs cells slots ls a1 a2 a3 a4 (gl_sub hl hs)
theorem gj_un (k : Nat) (h : lw.set k none = lw') (kk : gj p l e R s m args below meth c D cl A nL Q f nc ns pc lw' st) : gj p l e R s m args below meth c D cl A nL Q f nc ns pc lw st := by
  subst h
  refine gj_lw (fun i v hi => ?_) kk
  by_cases e : i = k
  · subst e
    rw [List.getElem?_set] at hi
    split at hi
    · split at hi <;> cases hi
    · exact absurd rfl (by assumption)
  · rwa [List.getElem?_set_ne (Ne.symm e)] at hi
theorem gj_f {f' : gm} (h : f = f') (kk : gj p l e R s m args below meth c D cl A nL Q f' nc ns pc lw st) : gj p l e R s m args below meth c D cl A nL Q f nc ns pc lw st := h ▸ kk
theorem gj_iconst (C : gx p m c cc nL s args Ts own D cl tys A) {n : Int} {v : Int32} (d : decode cc pc = .ok (.iconst n, 1)) (hv : Int32.ofInt n = v) (kk : gj p l e R s m args below meth c D cl A nL Q f nc ns (pc + 1) lw (.int v :: st)) : gj p l e R s m args below meth c D cl A nL Q f nc ns pc lw st := fun H locs cells slots ls h1 h2 h3 h4 hl => lv_iconst C.1.1 C.1.2.1 d hv (kk H locs cells slots ls h1 h2 h3 h4 hl)
theorem gj_bipush (C : gx p m c cc nL s args Ts own D cl tys A) {n : Int} {v : Int32} (d : decode cc pc = .ok (.bipush n, 2)) (hv : (Int8.ofInt n).toInt32 = v) (kk : gj p l e R s m args below meth c D cl A nL Q f nc ns (pc + 2) lw (.int v :: st)) : gj p l e R s m args below meth c D cl A nL Q f nc ns pc lw st := fun H locs cells slots ls h1 h2 h3 h4 hl => lv_bipush C.1.1 C.1.2.1 d hv (kk H locs cells slots ls h1 h2 h3 h4 hl)
theorem gj_sipush (C : gx p m c cc nL s args Ts own D cl tys A) {n : Int} {v : Int32} (d : decode cc pc = .ok (.sipush n, 3)) (hv : (Int16.ofInt n).toInt32 = v) (kk : gj p l e R s m args below meth c D cl A nL Q f nc ns (pc + 3) lw (.int v :: st)) : gj p l e R s m args below meth c D cl A nL Q f nc ns pc lw st := fun H locs cells slots ls h1 h2 h3 h4 hl => lv_sipush C.1.1 C.1.2.1 d hv (kk H locs cells slots ls h1 h2 h3 h4 hl)
theorem gj_ldc (C : gx p m c cc nL s args Ts own D cl tys A) {index : Nat} {v : Int32} (d : decode cc pc = .ok (.ldc index, 2)) (hm : Cond.constant own index v ∈ Ts) (kk : gj p l e R s m args below meth c D cl A nL Q f nc ns (pc + 2) lw (.int v :: st)) : gj p l e R s m args below meth c D cl A nL Q f nc ns pc lw st := fun H locs cells slots ls h1 h2 h3 h4 hl => lv_ldc C.1.1 C.1.2.1 C.1.2.2.2.1 (C.1.2.2.2.2 _ hm) d (kk H locs cells slots ls h1 h2 h3 h4 hl)
theorem gj_lconst (C : gx p m c cc nL s args Ts own D cl tys A) {n : Fin 2} {v : Int64} (d : decode cc pc = .ok (.lconst n, 1)) (hv : Int64.ofNat (n : Nat) = v) (kk : gj p l e R s m args below meth c D cl A nL Q f nc ns (pc + 1) lw (.long v :: st)) : gj p l e R s m args below meth c D cl A nL Q f nc ns pc lw st := fun H locs cells slots ls h1 h2 h3 h4 hl => lv_lconst C.1.1 C.1.2.1 d hv (kk H locs cells slots ls h1 h2 h3 h4 hl)
theorem gj_null (C : gx p m c cc nL s args Ts own D cl tys A) (d : decode cc pc = .ok (.aconst_null, 1)) (kk : gj p l e R s m args below meth c D cl A nL Q f nc ns (pc + 1) lw (.null :: st)) : gj p l e R s m args below meth c D cl A nL Q f nc ns pc lw st := fun H locs cells slots ls h1 h2 h3 h4 hl => lv_null C.1.1 C.1.2.1 d (kk H locs cells slots ls h1 h2 h3 h4 hl)
theorem gj_iload_n (C : gx p m c cc nL s args Ts own D cl tys A) {k : Fin 4} {x : Int32} (d : decode cc pc = .ok (.iload_n k, 1)) (hj : lw[(k : Nat)]? = some (some (.int x))) (kk : gj p l e R s m args below meth c D cl A nL Q f nc ns (pc + 1) lw (.int x :: st)) : gj p l e R s m args below meth c D cl A nL Q f nc ns pc lw st := fun H locs cells slots ls h1 h2 h3 h4 hl => lv_iload_n C.1.1 C.1.2.1 d rfl (gl_at hl hj) (kk H locs cells slots ls h1 h2 h3 h4 hl)
theorem gj_iload (C : gx p m c cc nL s args Ts own D cl tys A) {k : Nat} {x : Int32} (d : decode cc pc = .ok (.iload k, 2)) (hj : lw[k]? = some (some (.int x))) (kk : gj p l e R s m args below meth c D cl A nL Q f nc ns (pc + 2) lw (.int x :: st)) : gj p l e R s m args below meth c D cl A nL Q f nc ns pc lw st := fun H locs cells slots ls h1 h2 h3 h4 hl => lv_iload C.1.1 C.1.2.1 d (gl_at hl hj) (kk H locs cells slots ls h1 h2 h3 h4 hl)
theorem gj_aload_n (C : gx p m c cc nL s args Ts own D cl tys A) {k : Fin 4} {x : Nat} (d : decode cc pc = .ok (.aload_n k, 1)) (hj : lw[(k : Nat)]? = some (some (.ref x))) (kk : gj p l e R s m args below meth c D cl A nL Q f nc ns (pc + 1) lw (.ref x :: st)) : gj p l e R s m args below meth c D cl A nL Q f nc ns pc lw st := fun H locs cells slots ls h1 h2 h3 h4 hl => lv_aload_n C.1.1 C.1.2.1 d rfl (gl_at hl hj) (kk H locs cells slots ls h1 h2 h3 h4 hl)
theorem gj_aload (C : gx p m c cc nL s args Ts own D cl tys A) {k : Nat} {x : Nat} (d : decode cc pc = .ok (.aload k, 2)) (hj : lw[k]? = some (some (.ref x))) (kk : gj p l e R s m args below meth c D cl A nL Q f nc ns (pc + 2) lw (.ref x :: st)) : gj p l e R s m args below meth c D cl A nL Q f nc ns pc lw st := fun H locs cells slots ls h1 h2 h3 h4 hl => lv_aload C.1.1 C.1.2.1 d (gl_at hl hj) (kk H locs cells slots ls h1 h2 h3 h4 hl)
theorem gj_aload_nN (C : gx p m c cc nL s args Ts own D cl tys A) {k : Fin 4} (d : decode cc pc = .ok (.aload_n k, 1)) (hj : lw[(k : Nat)]? = some (some .null)) (kk : gj p l e R s m args below meth c D cl A nL Q f nc ns (pc + 1) lw (.null :: st)) : gj p l e R s m args below meth c D cl A nL Q f nc ns pc lw st := fun H locs cells slots ls h1 h2 h3 h4 hl => lv_aload_nN C.1.1 C.1.2.1 d rfl (gl_at hl hj) (kk H locs cells slots ls h1 h2 h3 h4 hl)
theorem gj_aloadN (C : gx p m c cc nL s args Ts own D cl tys A) {k : Nat} (d : decode cc pc = .ok (.aload k, 2)) (hj : lw[k]? = some (some .null)) (kk : gj p l e R s m args below meth c D cl A nL Q f nc ns (pc + 2) lw (.null :: st)) : gj p l e R s m args below meth c D cl A nL Q f nc ns pc lw st := fun H locs cells slots ls h1 h2 h3 h4 hl => lv_aloadN C.1.1 C.1.2.1 d (gl_at hl hj) (kk H locs cells slots ls h1 h2 h3 h4 hl)
theorem gj_istore_n (C : gx p m c cc nL s args Ts own D cl tys A) {k : Fin 4} {x : Int32} (d : decode cc pc = .ok (.istore_n k, 1)) (hn : (k : Nat) < nL) (hc : gl_c1 lw = true) (hs : lw.set (k : Nat) (some (.int x)) = lw') (kk : gj p l e R s m args below meth c D cl A nL Q f nc ns (pc + 1) lw' st) : gj p l e R s m args below meth c D cl A nL Q f nc ns pc lw (.int x :: st) := fun H locs cells slots ls h1 h2 h3 h4 hl => lv_istore_n C.1.1 C.1.2.1 d rfl hl hn rfl (fun ls2 hl2 => kk H locs cells slots ls2 h1 h2 h3 h4 (by rw [← hs]; exact gl_put hc hl2))
theorem gj_istore (C : gx p m c cc nL s args Ts own D cl tys A) {k : Nat} {x : Int32} (d : decode cc pc = .ok (.istore k, 2)) (hn : k < nL) (hc : gl_c1 lw = true) (hs : lw.set k (some (.int x)) = lw') (kk : gj p l e R s m args below meth c D cl A nL Q f nc ns (pc + 2) lw' st) : gj p l e R s m args below meth c D cl A nL Q f nc ns pc lw (.int x :: st) := fun H locs cells slots ls h1 h2 h3 h4 hl => lv_istore C.1.1 C.1.2.1 d hl hn rfl (fun ls2 hl2 => kk H locs cells slots ls2 h1 h2 h3 h4 (by rw [← hs]; exact gl_put hc hl2))
theorem gj_astore_n (C : gx p m c cc nL s args Ts own D cl tys A) {k : Fin 4} {x : Nat} (d : decode cc pc = .ok (.astore_n k, 1)) (hn : (k : Nat) < nL) (hc : gl_c1 lw = true) (hs : lw.set (k : Nat) (some (.ref x)) = lw') (kk : gj p l e R s m args below meth c D cl A nL Q f nc ns (pc + 1) lw' st) : gj p l e R s m args below meth c D cl A nL Q f nc ns pc lw (.ref x :: st) := fun H locs cells slots ls h1 h2 h3 h4 hl => lv_astore_n C.1.1 C.1.2.1 d rfl hl hn rfl (fun ls2 hl2 => kk H locs cells slots ls2 h1 h2 h3 h4 (by rw [← hs]; exact gl_put hc hl2))
theorem gj_astore (C : gx p m c cc nL s args Ts own D cl tys A) {k : Nat} {x : Nat} (d : decode cc pc = .ok (.astore k, 2)) (hn : k < nL) (hc : gl_c1 lw = true) (hs : lw.set k (some (.ref x)) = lw') (kk : gj p l e R s m args below meth c D cl A nL Q f nc ns (pc + 2) lw' st) : gj p l e R s m args below meth c D cl A nL Q f nc ns pc lw (.ref x :: st) := fun H locs cells slots ls h1 h2 h3 h4 hl => lv_astore C.1.1 C.1.2.1 d hl hn rfl (fun ls2 hl2 => kk H locs cells slots ls2 h1 h2 h3 h4 (by rw [← hs]; exact gl_put hc hl2))
theorem gj_astore_nN (C : gx p m c cc nL s args Ts own D cl tys A) {k : Fin 4} (d : decode cc pc = .ok (.astore_n k, 1)) (hn : (k : Nat) < nL) (hc : gl_c1 lw = true) (hs : lw.set (k : Nat) (some (.null)) = lw') (kk : gj p l e R s m args below meth c D cl A nL Q f nc ns (pc + 1) lw' st) : gj p l e R s m args below meth c D cl A nL Q f nc ns pc lw (.null :: st) := fun H locs cells slots ls h1 h2 h3 h4 hl => lv_astore_nN C.1.1 C.1.2.1 d rfl hl hn rfl (fun ls2 hl2 => kk H locs cells slots ls2 h1 h2 h3 h4 (by rw [← hs]; exact gl_put hc hl2))
theorem gj_astoreN (C : gx p m c cc nL s args Ts own D cl tys A) {k : Nat} (d : decode cc pc = .ok (.astore k, 2)) (hn : k < nL) (hc : gl_c1 lw = true) (hs : lw.set k (some (.null)) = lw') (kk : gj p l e R s m args below meth c D cl A nL Q f nc ns (pc + 2) lw' st) : gj p l e R s m args below meth c D cl A nL Q f nc ns pc lw (.null :: st) := fun H locs cells slots ls h1 h2 h3 h4 hl => lv_astoreN C.1.1 C.1.2.1 d hl hn rfl (fun ls2 hl2 => kk H locs cells slots ls2 h1 h2 h3 h4 (by rw [← hs]; exact gl_put hc hl2))
theorem gj_iinc (C : gx p m c cc nL s args Ts own D cl tys A) {k : Nat} {n : Int} {x v : Int32} (d : decode cc pc = .ok (.iinc k n, 3)) (hj : lw[k]? = some (some (.int x))) (hv : x + Int32.ofInt n = v) (hn : k < nL) (hc : gl_c1 lw = true) (hs : lw.set k (some (.int v)) = lw') (kk : gj p l e R s m args below meth c D cl A nL Q f nc ns (pc + 3) lw' st) : gj p l e R s m args below meth c D cl A nL Q f nc ns pc lw st := by
  intro H locs cells slots ls h1 h2 h3 h4 hl
  obtain ⟨j, hj2⟩ := List.getElem?_of_mem (gl_mem.mpr hj)
  exact lv_iinc C.1.1 C.1.2.1 d hl hj2 hv hn rfl (fun ls2 hl2 => kk H locs cells slots ls2 h1 h2 h3 h4 (by rw [← hs]; exact gl_put hc hl2))
theorem gj_iadd (C : gx p m c cc nL s args Ts own D cl tys A) {x y : Int32} (d : decode cc pc = .ok (.iadd, 1)) (kk : gj p l e R s m args below meth c D cl A nL Q f nc ns (pc + 1) lw (.int (x + y) :: st)) : gj p l e R s m args below meth c D cl A nL Q f nc ns pc lw (.int y :: .int x :: st) := fun H locs cells slots ls h1 h2 h3 h4 hl => lv_iadd C.1.1 C.1.2.1 d (kk H locs cells slots ls h1 h2 h3 h4 hl)
theorem gj_isub (C : gx p m c cc nL s args Ts own D cl tys A) {x y : Int32} (d : decode cc pc = .ok (.isub, 1)) (kk : gj p l e R s m args below meth c D cl A nL Q f nc ns (pc + 1) lw (.int (x - y) :: st)) : gj p l e R s m args below meth c D cl A nL Q f nc ns pc lw (.int y :: .int x :: st) := fun H locs cells slots ls h1 h2 h3 h4 hl => lv_isub C.1.1 C.1.2.1 d (kk H locs cells slots ls h1 h2 h3 h4 hl)
theorem gj_imul (C : gx p m c cc nL s args Ts own D cl tys A) {x y : Int32} (d : decode cc pc = .ok (.imul, 1)) (kk : gj p l e R s m args below meth c D cl A nL Q f nc ns (pc + 1) lw (.int (x * y) :: st)) : gj p l e R s m args below meth c D cl A nL Q f nc ns pc lw (.int y :: .int x :: st) := fun H locs cells slots ls h1 h2 h3 h4 hl => lv_imul C.1.1 C.1.2.1 d (kk H locs cells slots ls h1 h2 h3 h4 hl)
theorem gj_iand (C : gx p m c cc nL s args Ts own D cl tys A) {x y : Int32} (d : decode cc pc = .ok (.iand, 1)) (kk : gj p l e R s m args below meth c D cl A nL Q f nc ns (pc + 1) lw (.int (x &&& y) :: st)) : gj p l e R s m args below meth c D cl A nL Q f nc ns pc lw (.int y :: .int x :: st) := fun H locs cells slots ls h1 h2 h3 h4 hl => lv_iand C.1.1 C.1.2.1 d (kk H locs cells slots ls h1 h2 h3 h4 hl)
theorem gj_ior (C : gx p m c cc nL s args Ts own D cl tys A) {x y : Int32} (d : decode cc pc = .ok (.ior, 1)) (kk : gj p l e R s m args below meth c D cl A nL Q f nc ns (pc + 1) lw (.int (x ||| y) :: st)) : gj p l e R s m args below meth c D cl A nL Q f nc ns pc lw (.int y :: .int x :: st) := fun H locs cells slots ls h1 h2 h3 h4 hl => lv_ior C.1.1 C.1.2.1 d (kk H locs cells slots ls h1 h2 h3 h4 hl)
theorem gj_i2l (C : gx p m c cc nL s args Ts own D cl tys A) {x : Int32} (d : decode cc pc = .ok (.i2l, 1)) (kk : gj p l e R s m args below meth c D cl A nL Q f nc ns (pc + 1) lw (.long x.toInt64 :: st)) : gj p l e R s m args below meth c D cl A nL Q f nc ns pc lw (.int x :: st) := fun H locs cells slots ls h1 h2 h3 h4 hl => lv_i2l C.1.1 C.1.2.1 d rfl (kk H locs cells slots ls h1 h2 h3 h4 hl)
theorem gj_dup (C : gx p m c cc nL s args Ts own D cl tys A) {v : Value} (d : decode cc pc = .ok (.dup, 1)) (hv : v.category = 1) (kk : gj p l e R s m args below meth c D cl A nL Q f nc ns (pc + 1) lw (v :: v :: st)) : gj p l e R s m args below meth c D cl A nL Q f nc ns pc lw (v :: st) := fun H locs cells slots ls h1 h2 h3 h4 hl => lv_dup C.1.1 C.1.2.1 d hv (kk H locs cells slots ls h1 h2 h3 h4 hl)
theorem gj_pop (C : gx p m c cc nL s args Ts own D cl tys A) {v : Value} (d : decode cc pc = .ok (.pop, 1)) (hv : v.category = 1) (kk : gj p l e R s m args below meth c D cl A nL Q f nc ns (pc + 1) lw st) : gj p l e R s m args below meth c D cl A nL Q f nc ns pc lw (v :: st) := fun H locs cells slots ls h1 h2 h3 h4 hl => lv_pop C.1.1 C.1.2.1 d hv (kk H locs cells slots ls h1 h2 h3 h4 hl)
theorem gj_dup_x1 (C : gx p m c cc nL s args Ts own D cl tys A) {v w : Value} (d : decode cc pc = .ok (.dup_x1, 1)) (hv : v.category = 1) (hw : w.category = 1) (kk : gj p l e R s m args below meth c D cl A nL Q f nc ns (pc + 1) lw (v :: w :: v :: st)) : gj p l e R s m args below meth c D cl A nL Q f nc ns pc lw (v :: w :: st) := fun H locs cells slots ls h1 h2 h3 h4 hl => lv_dup_x1 C.1.1 C.1.2.1 d hv hw (kk H locs cells slots ls h1 h2 h3 h4 hl)
theorem gj_if_eq (C : gx p m c cc nL s args Ts own D cl tys A) {x : Int32} {off : Int} {tgt : Nat} (d : decode cc pc = .ok (.ifCond .eq off, 3)) (ht : (pc : Int) + off = (tgt : Int)) (kt : x = 0 → gj p l e R s m args below meth c D cl A nL Q f nc ns tgt lw st) (kf : ¬ x = 0 → gj p l e R s m args below meth c D cl A nL Q f nc ns (pc + 3) lw st) : gj p l e R s m args below meth c D cl A nL Q f nc ns pc lw (.int x :: st) := fun H locs cells slots ls h1 h2 h3 h4 hl => lv_if_eq C.1.1 C.1.2.1 d ht (fun h => kt h H locs cells slots ls h1 h2 h3 h4 hl) (fun h => kf h H locs cells slots ls h1 h2 h3 h4 hl)
theorem gj_icmp_eq (C : gx p m c cc nL s args Ts own D cl tys A) {x y : Int32} {off : Int} {tgt : Nat} (d : decode cc pc = .ok (.if_icmp .eq off, 3)) (ht : (pc : Int) + off = (tgt : Int)) (kt : x = y → gj p l e R s m args below meth c D cl A nL Q f nc ns tgt lw st) (kf : ¬ x = y → gj p l e R s m args below meth c D cl A nL Q f nc ns (pc + 3) lw st) : gj p l e R s m args below meth c D cl A nL Q f nc ns pc lw (.int y :: .int x :: st) := fun H locs cells slots ls h1 h2 h3 h4 hl => lv_icmp_eq C.1.1 C.1.2.1 d ht (fun h => kt h H locs cells slots ls h1 h2 h3 h4 hl) (fun h => kf h H locs cells slots ls h1 h2 h3 h4 hl)
theorem gj_if_ne (C : gx p m c cc nL s args Ts own D cl tys A) {x : Int32} {off : Int} {tgt : Nat} (d : decode cc pc = .ok (.ifCond .ne off, 3)) (ht : (pc : Int) + off = (tgt : Int)) (kt : ¬ x = 0 → gj p l e R s m args below meth c D cl A nL Q f nc ns tgt lw st) (kf : x = 0 → gj p l e R s m args below meth c D cl A nL Q f nc ns (pc + 3) lw st) : gj p l e R s m args below meth c D cl A nL Q f nc ns pc lw (.int x :: st) := fun H locs cells slots ls h1 h2 h3 h4 hl => lv_if_ne C.1.1 C.1.2.1 d ht (fun h => kt h H locs cells slots ls h1 h2 h3 h4 hl) (fun h => kf h H locs cells slots ls h1 h2 h3 h4 hl)
theorem gj_icmp_ne (C : gx p m c cc nL s args Ts own D cl tys A) {x y : Int32} {off : Int} {tgt : Nat} (d : decode cc pc = .ok (.if_icmp .ne off, 3)) (ht : (pc : Int) + off = (tgt : Int)) (kt : ¬ x = y → gj p l e R s m args below meth c D cl A nL Q f nc ns tgt lw st) (kf : x = y → gj p l e R s m args below meth c D cl A nL Q f nc ns (pc + 3) lw st) : gj p l e R s m args below meth c D cl A nL Q f nc ns pc lw (.int y :: .int x :: st) := fun H locs cells slots ls h1 h2 h3 h4 hl => lv_icmp_ne C.1.1 C.1.2.1 d ht (fun h => kt h H locs cells slots ls h1 h2 h3 h4 hl) (fun h => kf h H locs cells slots ls h1 h2 h3 h4 hl)
theorem gj_if_lt (C : gx p m c cc nL s args Ts own D cl tys A) {x : Int32} {off : Int} {tgt : Nat} (d : decode cc pc = .ok (.ifCond .lt off, 3)) (ht : (pc : Int) + off = (tgt : Int)) (kt : x < 0 → gj p l e R s m args below meth c D cl A nL Q f nc ns tgt lw st) (kf : ¬ x < 0 → gj p l e R s m args below meth c D cl A nL Q f nc ns (pc + 3) lw st) : gj p l e R s m args below meth c D cl A nL Q f nc ns pc lw (.int x :: st) := fun H locs cells slots ls h1 h2 h3 h4 hl => lv_if_lt C.1.1 C.1.2.1 d ht (fun h => kt h H locs cells slots ls h1 h2 h3 h4 hl) (fun h => kf h H locs cells slots ls h1 h2 h3 h4 hl)
theorem gj_icmp_lt (C : gx p m c cc nL s args Ts own D cl tys A) {x y : Int32} {off : Int} {tgt : Nat} (d : decode cc pc = .ok (.if_icmp .lt off, 3)) (ht : (pc : Int) + off = (tgt : Int)) (kt : x < y → gj p l e R s m args below meth c D cl A nL Q f nc ns tgt lw st) (kf : ¬ x < y → gj p l e R s m args below meth c D cl A nL Q f nc ns (pc + 3) lw st) : gj p l e R s m args below meth c D cl A nL Q f nc ns pc lw (.int y :: .int x :: st) := fun H locs cells slots ls h1 h2 h3 h4 hl => lv_icmp_lt C.1.1 C.1.2.1 d ht (fun h => kt h H locs cells slots ls h1 h2 h3 h4 hl) (fun h => kf h H locs cells slots ls h1 h2 h3 h4 hl)
theorem gj_if_ge (C : gx p m c cc nL s args Ts own D cl tys A) {x : Int32} {off : Int} {tgt : Nat} (d : decode cc pc = .ok (.ifCond .ge off, 3)) (ht : (pc : Int) + off = (tgt : Int)) (kt : 0 ≤ x → gj p l e R s m args below meth c D cl A nL Q f nc ns tgt lw st) (kf : ¬ 0 ≤ x → gj p l e R s m args below meth c D cl A nL Q f nc ns (pc + 3) lw st) : gj p l e R s m args below meth c D cl A nL Q f nc ns pc lw (.int x :: st) := fun H locs cells slots ls h1 h2 h3 h4 hl => lv_if_ge C.1.1 C.1.2.1 d ht (fun h => kt h H locs cells slots ls h1 h2 h3 h4 hl) (fun h => kf h H locs cells slots ls h1 h2 h3 h4 hl)
theorem gj_icmp_ge (C : gx p m c cc nL s args Ts own D cl tys A) {x y : Int32} {off : Int} {tgt : Nat} (d : decode cc pc = .ok (.if_icmp .ge off, 3)) (ht : (pc : Int) + off = (tgt : Int)) (kt : y ≤ x → gj p l e R s m args below meth c D cl A nL Q f nc ns tgt lw st) (kf : ¬ y ≤ x → gj p l e R s m args below meth c D cl A nL Q f nc ns (pc + 3) lw st) : gj p l e R s m args below meth c D cl A nL Q f nc ns pc lw (.int y :: .int x :: st) := fun H locs cells slots ls h1 h2 h3 h4 hl => lv_icmp_ge C.1.1 C.1.2.1 d ht (fun h => kt h H locs cells slots ls h1 h2 h3 h4 hl) (fun h => kf h H locs cells slots ls h1 h2 h3 h4 hl)
theorem gj_if_gt (C : gx p m c cc nL s args Ts own D cl tys A) {x : Int32} {off : Int} {tgt : Nat} (d : decode cc pc = .ok (.ifCond .gt off, 3)) (ht : (pc : Int) + off = (tgt : Int)) (kt : 0 < x → gj p l e R s m args below meth c D cl A nL Q f nc ns tgt lw st) (kf : ¬ 0 < x → gj p l e R s m args below meth c D cl A nL Q f nc ns (pc + 3) lw st) : gj p l e R s m args below meth c D cl A nL Q f nc ns pc lw (.int x :: st) := fun H locs cells slots ls h1 h2 h3 h4 hl => lv_if_gt C.1.1 C.1.2.1 d ht (fun h => kt h H locs cells slots ls h1 h2 h3 h4 hl) (fun h => kf h H locs cells slots ls h1 h2 h3 h4 hl)
theorem gj_icmp_gt (C : gx p m c cc nL s args Ts own D cl tys A) {x y : Int32} {off : Int} {tgt : Nat} (d : decode cc pc = .ok (.if_icmp .gt off, 3)) (ht : (pc : Int) + off = (tgt : Int)) (kt : y < x → gj p l e R s m args below meth c D cl A nL Q f nc ns tgt lw st) (kf : ¬ y < x → gj p l e R s m args below meth c D cl A nL Q f nc ns (pc + 3) lw st) : gj p l e R s m args below meth c D cl A nL Q f nc ns pc lw (.int y :: .int x :: st) := fun H locs cells slots ls h1 h2 h3 h4 hl => lv_icmp_gt C.1.1 C.1.2.1 d ht (fun h => kt h H locs cells slots ls h1 h2 h3 h4 hl) (fun h => kf h H locs cells slots ls h1 h2 h3 h4 hl)
theorem gj_if_le (C : gx p m c cc nL s args Ts own D cl tys A) {x : Int32} {off : Int} {tgt : Nat} (d : decode cc pc = .ok (.ifCond .le off, 3)) (ht : (pc : Int) + off = (tgt : Int)) (kt : x ≤ 0 → gj p l e R s m args below meth c D cl A nL Q f nc ns tgt lw st) (kf : ¬ x ≤ 0 → gj p l e R s m args below meth c D cl A nL Q f nc ns (pc + 3) lw st) : gj p l e R s m args below meth c D cl A nL Q f nc ns pc lw (.int x :: st) := fun H locs cells slots ls h1 h2 h3 h4 hl => lv_if_le C.1.1 C.1.2.1 d ht (fun h => kt h H locs cells slots ls h1 h2 h3 h4 hl) (fun h => kf h H locs cells slots ls h1 h2 h3 h4 hl)
theorem gj_icmp_le (C : gx p m c cc nL s args Ts own D cl tys A) {x y : Int32} {off : Int} {tgt : Nat} (d : decode cc pc = .ok (.if_icmp .le off, 3)) (ht : (pc : Int) + off = (tgt : Int)) (kt : x ≤ y → gj p l e R s m args below meth c D cl A nL Q f nc ns tgt lw st) (kf : ¬ x ≤ y → gj p l e R s m args below meth c D cl A nL Q f nc ns (pc + 3) lw st) : gj p l e R s m args below meth c D cl A nL Q f nc ns pc lw (.int y :: .int x :: st) := fun H locs cells slots ls h1 h2 h3 h4 hl => lv_icmp_le C.1.1 C.1.2.1 d ht (fun h => kt h H locs cells slots ls h1 h2 h3 h4 hl) (fun h => kf h H locs cells slots ls h1 h2 h3 h4 hl)
theorem gj_if_eqT (C : gx p m c cc nL s args Ts own D cl tys A) {x : Int32} {off : Int} {tgt : Nat} (d : decode cc pc = .ok (.ifCond .eq off, 3)) (ht : (pc : Int) + off = (tgt : Int)) (h : x = 0) (kk : gj p l e R s m args below meth c D cl A nL Q f nc ns tgt lw st) : gj p l e R s m args below meth c D cl A nL Q f nc ns pc lw (.int x :: st) := gj_if_eq C d ht (fun _ => kk) (fun h2 => absurd h (by first | exact h2 | exact (fun q => q h2)))
theorem gj_if_eqF (C : gx p m c cc nL s args Ts own D cl tys A) {x : Int32} {off : Int} {tgt : Nat} (d : decode cc pc = .ok (.ifCond .eq off, 3)) (ht : (pc : Int) + off = (tgt : Int)) (h : ¬ x = 0) (kk : gj p l e R s m args below meth c D cl A nL Q f nc ns (pc + 3) lw st) : gj p l e R s m args below meth c D cl A nL Q f nc ns pc lw (.int x :: st) := gj_if_eq C d ht (fun h2 => absurd h (by first | exact h2 | exact (fun q => q h2))) (fun _ => kk)
theorem gj_icmp_eqT (C : gx p m c cc nL s args Ts own D cl tys A) {x y : Int32} {off : Int} {tgt : Nat} (d : decode cc pc = .ok (.if_icmp .eq off, 3)) (ht : (pc : Int) + off = (tgt : Int)) (h : x = y) (kk : gj p l e R s m args below meth c D cl A nL Q f nc ns tgt lw st) : gj p l e R s m args below meth c D cl A nL Q f nc ns pc lw (.int y :: .int x :: st) := gj_icmp_eq C d ht (fun _ => kk) (fun h2 => absurd h (by first | exact h2 | exact (fun q => q h2)))
theorem gj_icmp_eqF (C : gx p m c cc nL s args Ts own D cl tys A) {x y : Int32} {off : Int} {tgt : Nat} (d : decode cc pc = .ok (.if_icmp .eq off, 3)) (ht : (pc : Int) + off = (tgt : Int)) (h : ¬ x = y) (kk : gj p l e R s m args below meth c D cl A nL Q f nc ns (pc + 3) lw st) : gj p l e R s m args below meth c D cl A nL Q f nc ns pc lw (.int y :: .int x :: st) := gj_icmp_eq C d ht (fun h2 => absurd h (by first | exact h2 | exact (fun q => q h2))) (fun _ => kk)
theorem gj_if_neT (C : gx p m c cc nL s args Ts own D cl tys A) {x : Int32} {off : Int} {tgt : Nat} (d : decode cc pc = .ok (.ifCond .ne off, 3)) (ht : (pc : Int) + off = (tgt : Int)) (h : ¬ x = 0) (kk : gj p l e R s m args below meth c D cl A nL Q f nc ns tgt lw st) : gj p l e R s m args below meth c D cl A nL Q f nc ns pc lw (.int x :: st) := gj_if_ne C d ht (fun _ => kk) (fun h2 => absurd h (by first | exact h2 | exact (fun q => q h2)))
theorem gj_if_neF (C : gx p m c cc nL s args Ts own D cl tys A) {x : Int32} {off : Int} {tgt : Nat} (d : decode cc pc = .ok (.ifCond .ne off, 3)) (ht : (pc : Int) + off = (tgt : Int)) (h : x = 0) (kk : gj p l e R s m args below meth c D cl A nL Q f nc ns (pc + 3) lw st) : gj p l e R s m args below meth c D cl A nL Q f nc ns pc lw (.int x :: st) := gj_if_ne C d ht (fun h2 => absurd h (by first | exact h2 | exact (fun q => q h2))) (fun _ => kk)
theorem gj_icmp_neT (C : gx p m c cc nL s args Ts own D cl tys A) {x y : Int32} {off : Int} {tgt : Nat} (d : decode cc pc = .ok (.if_icmp .ne off, 3)) (ht : (pc : Int) + off = (tgt : Int)) (h : ¬ x = y) (kk : gj p l e R s m args below meth c D cl A nL Q f nc ns tgt lw st) : gj p l e R s m args below meth c D cl A nL Q f nc ns pc lw (.int y :: .int x :: st) := gj_icmp_ne C d ht (fun _ => kk) (fun h2 => absurd h (by first | exact h2 | exact (fun q => q h2)))
theorem gj_icmp_neF (C : gx p m c cc nL s args Ts own D cl tys A) {x y : Int32} {off : Int} {tgt : Nat} (d : decode cc pc = .ok (.if_icmp .ne off, 3)) (ht : (pc : Int) + off = (tgt : Int)) (h : x = y) (kk : gj p l e R s m args below meth c D cl A nL Q f nc ns (pc + 3) lw st) : gj p l e R s m args below meth c D cl A nL Q f nc ns pc lw (.int y :: .int x :: st) := gj_icmp_ne C d ht (fun h2 => absurd h (by first | exact h2 | exact (fun q => q h2))) (fun _ => kk)
theorem gj_if_ltT (C : gx p m c cc nL s args Ts own D cl tys A) {x : Int32} {off : Int} {tgt : Nat} (d : decode cc pc = .ok (.ifCond .lt off, 3)) (ht : (pc : Int) + off = (tgt : Int)) (h : x < 0) (kk : gj p l e R s m args below meth c D cl A nL Q f nc ns tgt lw st) : gj p l e R s m args below meth c D cl A nL Q f nc ns pc lw (.int x :: st) := gj_if_lt C d ht (fun _ => kk) (fun h2 => absurd h (by first | exact h2 | exact (fun q => q h2)))
theorem gj_if_ltF (C : gx p m c cc nL s args Ts own D cl tys A) {x : Int32} {off : Int} {tgt : Nat} (d : decode cc pc = .ok (.ifCond .lt off, 3)) (ht : (pc : Int) + off = (tgt : Int)) (h : ¬ x < 0) (kk : gj p l e R s m args below meth c D cl A nL Q f nc ns (pc + 3) lw st) : gj p l e R s m args below meth c D cl A nL Q f nc ns pc lw (.int x :: st) := gj_if_lt C d ht (fun h2 => absurd h (by first | exact h2 | exact (fun q => q h2))) (fun _ => kk)
theorem gj_icmp_ltT (C : gx p m c cc nL s args Ts own D cl tys A) {x y : Int32} {off : Int} {tgt : Nat} (d : decode cc pc = .ok (.if_icmp .lt off, 3)) (ht : (pc : Int) + off = (tgt : Int)) (h : x < y) (kk : gj p l e R s m args below meth c D cl A nL Q f nc ns tgt lw st) : gj p l e R s m args below meth c D cl A nL Q f nc ns pc lw (.int y :: .int x :: st) := gj_icmp_lt C d ht (fun _ => kk) (fun h2 => absurd h (by first | exact h2 | exact (fun q => q h2)))
theorem gj_icmp_ltF (C : gx p m c cc nL s args Ts own D cl tys A) {x y : Int32} {off : Int} {tgt : Nat} (d : decode cc pc = .ok (.if_icmp .lt off, 3)) (ht : (pc : Int) + off = (tgt : Int)) (h : ¬ x < y) (kk : gj p l e R s m args below meth c D cl A nL Q f nc ns (pc + 3) lw st) : gj p l e R s m args below meth c D cl A nL Q f nc ns pc lw (.int y :: .int x :: st) := gj_icmp_lt C d ht (fun h2 => absurd h (by first | exact h2 | exact (fun q => q h2))) (fun _ => kk)
theorem gj_if_geT (C : gx p m c cc nL s args Ts own D cl tys A) {x : Int32} {off : Int} {tgt : Nat} (d : decode cc pc = .ok (.ifCond .ge off, 3)) (ht : (pc : Int) + off = (tgt : Int)) (h : 0 ≤ x) (kk : gj p l e R s m args below meth c D cl A nL Q f nc ns tgt lw st) : gj p l e R s m args below meth c D cl A nL Q f nc ns pc lw (.int x :: st) := gj_if_ge C d ht (fun _ => kk) (fun h2 => absurd h (by first | exact h2 | exact (fun q => q h2)))
theorem gj_if_geF (C : gx p m c cc nL s args Ts own D cl tys A) {x : Int32} {off : Int} {tgt : Nat} (d : decode cc pc = .ok (.ifCond .ge off, 3)) (ht : (pc : Int) + off = (tgt : Int)) (h : ¬ 0 ≤ x) (kk : gj p l e R s m args below meth c D cl A nL Q f nc ns (pc + 3) lw st) : gj p l e R s m args below meth c D cl A nL Q f nc ns pc lw (.int x :: st) := gj_if_ge C d ht (fun h2 => absurd h (by first | exact h2 | exact (fun q => q h2))) (fun _ => kk)
theorem gj_icmp_geT (C : gx p m c cc nL s args Ts own D cl tys A) {x y : Int32} {off : Int} {tgt : Nat} (d : decode cc pc = .ok (.if_icmp .ge off, 3)) (ht : (pc : Int) + off = (tgt : Int)) (h : y ≤ x) (kk : gj p l e R s m args below meth c D cl A nL Q f nc ns tgt lw st) : gj p l e R s m args below meth c D cl A nL Q f nc ns pc lw (.int y :: .int x :: st) := gj_icmp_ge C d ht (fun _ => kk) (fun h2 => absurd h (by first | exact h2 | exact (fun q => q h2)))
theorem gj_icmp_geF (C : gx p m c cc nL s args Ts own D cl tys A) {x y : Int32} {off : Int} {tgt : Nat} (d : decode cc pc = .ok (.if_icmp .ge off, 3)) (ht : (pc : Int) + off = (tgt : Int)) (h : ¬ y ≤ x) (kk : gj p l e R s m args below meth c D cl A nL Q f nc ns (pc + 3) lw st) : gj p l e R s m args below meth c D cl A nL Q f nc ns pc lw (.int y :: .int x :: st) := gj_icmp_ge C d ht (fun h2 => absurd h (by first | exact h2 | exact (fun q => q h2))) (fun _ => kk)
theorem gj_if_gtT (C : gx p m c cc nL s args Ts own D cl tys A) {x : Int32} {off : Int} {tgt : Nat} (d : decode cc pc = .ok (.ifCond .gt off, 3)) (ht : (pc : Int) + off = (tgt : Int)) (h : 0 < x) (kk : gj p l e R s m args below meth c D cl A nL Q f nc ns tgt lw st) : gj p l e R s m args below meth c D cl A nL Q f nc ns pc lw (.int x :: st) := gj_if_gt C d ht (fun _ => kk) (fun h2 => absurd h (by first | exact h2 | exact (fun q => q h2)))
theorem gj_if_gtF (C : gx p m c cc nL s args Ts own D cl tys A) {x : Int32} {off : Int} {tgt : Nat} (d : decode cc pc = .ok (.ifCond .gt off, 3)) (ht : (pc : Int) + off = (tgt : Int)) (h : ¬ 0 < x) (kk : gj p l e R s m args below meth c D cl A nL Q f nc ns (pc + 3) lw st) : gj p l e R s m args below meth c D cl A nL Q f nc ns pc lw (.int x :: st) := gj_if_gt C d ht (fun h2 => absurd h (by first | exact h2 | exact (fun q => q h2))) (fun _ => kk)
theorem gj_icmp_gtT (C : gx p m c cc nL s args Ts own D cl tys A) {x y : Int32} {off : Int} {tgt : Nat} (d : decode cc pc = .ok (.if_icmp .gt off, 3)) (ht : (pc : Int) + off = (tgt : Int)) (h : y < x) (kk : gj p l e R s m args below meth c D cl A nL Q f nc ns tgt lw st) : gj p l e R s m args below meth c D cl A nL Q f nc ns pc lw (.int y :: .int x :: st) := gj_icmp_gt C d ht (fun _ => kk) (fun h2 => absurd h (by first | exact h2 | exact (fun q => q h2)))
theorem gj_icmp_gtF (C : gx p m c cc nL s args Ts own D cl tys A) {x y : Int32} {off : Int} {tgt : Nat} (d : decode cc pc = .ok (.if_icmp .gt off, 3)) (ht : (pc : Int) + off = (tgt : Int)) (h : ¬ y < x) (kk : gj p l e R s m args below meth c D cl A nL Q f nc ns (pc + 3) lw st) : gj p l e R s m args below meth c D cl A nL Q f nc ns pc lw (.int y :: .int x :: st) := gj_icmp_gt C d ht (fun h2 => absurd h (by first | exact h2 | exact (fun q => q h2))) (fun _ => kk)
theorem gj_if_leT (C : gx p m c cc nL s args Ts own D cl tys A) {x : Int32} {off : Int} {tgt : Nat} (d : decode cc pc = .ok (.ifCond .le off, 3)) (ht : (pc : Int) + off = (tgt : Int)) (h : x ≤ 0) (kk : gj p l e R s m args below meth c D cl A nL Q f nc ns tgt lw st) : gj p l e R s m args below meth c D cl A nL Q f nc ns pc lw (.int x :: st) := gj_if_le C d ht (fun _ => kk) (fun h2 => absurd h (by first | exact h2 | exact (fun q => q h2)))
theorem gj_if_leF (C : gx p m c cc nL s args Ts own D cl tys A) {x : Int32} {off : Int} {tgt : Nat} (d : decode cc pc = .ok (.ifCond .le off, 3)) (ht : (pc : Int) + off = (tgt : Int)) (h : ¬ x ≤ 0) (kk : gj p l e R s m args below meth c D cl A nL Q f nc ns (pc + 3) lw st) : gj p l e R s m args below meth c D cl A nL Q f nc ns pc lw (.int x :: st) := gj_if_le C d ht (fun h2 => absurd h (by first | exact h2 | exact (fun q => q h2))) (fun _ => kk)
theorem gj_icmp_leT (C : gx p m c cc nL s args Ts own D cl tys A) {x y : Int32} {off : Int} {tgt : Nat} (d : decode cc pc = .ok (.if_icmp .le off, 3)) (ht : (pc : Int) + off = (tgt : Int)) (h : x ≤ y) (kk : gj p l e R s m args below meth c D cl A nL Q f nc ns tgt lw st) : gj p l e R s m args below meth c D cl A nL Q f nc ns pc lw (.int y :: .int x :: st) := gj_icmp_le C d ht (fun _ => kk) (fun h2 => absurd h (by first | exact h2 | exact (fun q => q h2)))
theorem gj_icmp_leF (C : gx p m c cc nL s args Ts own D cl tys A) {x y : Int32} {off : Int} {tgt : Nat} (d : decode cc pc = .ok (.if_icmp .le off, 3)) (ht : (pc : Int) + off = (tgt : Int)) (h : ¬ x ≤ y) (kk : gj p l e R s m args below meth c D cl A nL Q f nc ns (pc + 3) lw st) : gj p l e R s m args below meth c D cl A nL Q f nc ns pc lw (.int y :: .int x :: st) := gj_icmp_le C d ht (fun h2 => absurd h (by first | exact h2 | exact (fun q => q h2))) (fun _ => kk)
theorem gj_goto (C : gx p m c cc nL s args Ts own D cl tys A) {off : Int} {tgt : Nat} (d : decode cc pc = .ok (.goto off, 3)) (ht : (pc : Int) + off = (tgt : Int)) (kk : gj p l e R s m args below meth c D cl A nL Q f nc ns tgt lw st) : gj p l e R s m args below meth c D cl A nL Q f nc ns pc lw st := fun H locs cells slots ls h1 h2 h3 h4 hl => lv_goto C.1.1 C.1.2.1 d ht (kk H locs cells slots ls h1 h2 h3 h4 hl)
theorem gj_ifnonnull (C : gx p m c cc nL s args Ts own D cl tys A) {x : Nat} {off : Int} {tgt : Nat} (d : decode cc pc = .ok (.ifnonnull off, 3)) (ht : (pc : Int) + off = (tgt : Int)) (kk : gj p l e R s m args below meth c D cl A nL Q f nc ns tgt lw st) : gj p l e R s m args below meth c D cl A nL Q f nc ns pc lw (.ref x :: st) := fun H locs cells slots ls h1 h2 h3 h4 hl => lv_ifnonnull C.1.1 C.1.2.1 d ht (kk H locs cells slots ls h1 h2 h3 h4 hl)
theorem gj_ifnull (C : gx p m c cc nL s args Ts own D cl tys A) {x : Nat} {off : Int} (d : decode cc pc = .ok (.ifnull off, 3)) (kk : gj p l e R s m args below meth c D cl A nL Q f nc ns (pc + 3) lw st) : gj p l e R s m args below meth c D cl A nL Q f nc ns pc lw (.ref x :: st) := fun H locs cells slots ls h1 h2 h3 h4 hl => lv_ifnull C.1.1 C.1.2.1 d (kk H locs cells slots ls h1 h2 h3 h4 hl)
theorem gj_ifnullN (C : gx p m c cc nL s args Ts own D cl tys A) {off : Int} {tgt : Nat} (d : decode cc pc = .ok (.ifnull off, 3)) (ht : (pc : Int) + off = (tgt : Int)) (kk : gj p l e R s m args below meth c D cl A nL Q f nc ns tgt lw st) : gj p l e R s m args below meth c D cl A nL Q f nc ns pc lw (.null :: st) := fun H locs cells slots ls h1 h2 h3 h4 hl => lv_ifnullN C.1.1 C.1.2.1 d ht (kk H locs cells slots ls h1 h2 h3 h4 hl)
theorem gj_ifnonnullN (C : gx p m c cc nL s args Ts own D cl tys A) {off : Int} (d : decode cc pc = .ok (.ifnonnull off, 3)) (kk : gj p l e R s m args below meth c D cl A nL Q f nc ns (pc + 3) lw st) : gj p l e R s m args below meth c D cl A nL Q f nc ns pc lw (.null :: st) := fun H locs cells slots ls h1 h2 h3 h4 hl => lv_ifnonnullN C.1.1 C.1.2.1 d (kk H locs cells slots ls h1 h2 h3 h4 hl)
theorem gj_get (C : gx p m c cc nL s args Ts own D cl tys A) {Cn : String} {T : u_T} {N ci index : Nat} {a : Nat} {fs : List Value} {v : Value} (d : decode cc pc = .ok (.getfield index, 3)) (ha : f a = some (.inr (ci, fs))) (hc : cl[ci]? = some (Cn, T, N)) (hin : ∀ w ∈ u_ws Cn T N, w ∈ Ts) (k : Nat) (hk : k < N) (hl0 : Cond.fieldLink own index (T k).1 (T k).2.1 (T k).2.2.1 ∈ Ts) (hv : fs[k]? = some v) (kk : gj p l e R s m args below meth c D cl A nL Q f nc ns (pc + 3) lw (v :: st)) : gj p l e R s m args below meth c D cl A nL Q f nc ns pc lw (.ref a :: st) := fun H locs cells slots ls h1 h2 h3 h4 hl => va_get C.1.1 C.1.2.1 C.1.2.2.2.2 hin C.1.2.2.2.1 C.2.1 (gm_one h1 ha) 0 rfl hc k hk (C.1.2.2.2.2 _ hl0) (fun _ h9 => h9) hv d (kk H locs cells slots ls h1 h2 h3 h4 hl)
theorem gj_getN (C : gx p m c cc nL s args Ts own D cl tys A) {Cn : String} {T : u_T} {N ci index : Nat} {a : Nat} {fs : List Value} {v : Value} {host : String} (d : decode cc pc = .ok (.getfield index, 3)) (ha : f a = some (.inr (ci, fs))) (hc : cl[ci]? = some (Cn, T, N)) (hin : ∀ w ∈ u_ws Cn T N, w ∈ Ts) (k : Nat) (hk : k < N) (hl0 : va_Nw (.fieldLinkNest own index (T k).1 (T k).2.1 (T k).2.2.1 host) s) (hv : fs[k]? = some v) (kk : gj p l e R s m args below meth c D cl A nL Q f nc ns (pc + 3) lw (v :: st)) : gj p l e R s m args below meth c D cl A nL Q f nc ns pc lw (.ref a :: st) := fun H locs cells slots ls h1 h2 h3 h4 hl => va_getN C.1.1 C.1.2.1 C.1.2.2.2.2 hin C.1.2.2.2.1 C.2.1 (gm_one h1 ha) 0 rfl hc k hk (va_Nw.use rfl hl0) (fun _ h9 => h9) hv d (kk H locs cells slots ls h1 h2 h3 h4 hl)
theorem gj_put (C : gx p m c cc nL s args Ts own D cl tys A) {Cn : String} {T : u_T} {N ci index : Nat} {a : Nat} {fs : List Value} {v : Value} (d : decode cc pc = .ok (.putfield index, 3)) (ha : f a = some (.inr (ci, fs))) (hc : cl[ci]? = some (Cn, T, N)) (hin : ∀ w ∈ u_ws Cn T N, w ∈ Ts) {ty0 : Nat → FieldType} (hty : ∀ k, k < N → parseFieldDescriptor (T k).2.2.1 = some (ty0 k)) (hnm : ∀ a, a < N → ∀ b, b < N → a ≠ b → (T a).2.1 ≠ (T b).2.1) (k : Nat) (hk : k < N) (hl0 : Cond.fieldLink own index (T k).1 (T k).2.1 (T k).2.2.1 ∈ Ts) (hfin : (T k).2.2.2 = false) (hn : narrow (ty0 k) v = v) (hfit : fits (ty0 k) v = true) (hl1 : k < fs.length) (kk : gj p l e R s m args below meth c D cl A nL Q (gm_up f a (.inr (ci, fs.set k v))) nc ns (pc + 3) lw st) : gj p l e R s m args below meth c D cl A nL Q f nc ns pc lw (v :: .ref a :: st) := by
  intro H locs cells slots ls h1 h2 h3 h4 hl
  obtain ⟨q0, hq0⟩ := gm_at h1 ha
  exact va_put (ty := ty0 k) C.1.1 C.1.2.1 C.1.2.2.2.2 hin ty0 hty hnm C.1.2.2.2.1 C.2.1 (gm_P h1) (gm_D h1) h2 q0 hq0 hc k hk (C.1.2.2.2.2 _ hl0) (fun _ h9 => h9) hfin (hty k hk) hn hfit hl1 d (fun H1 locs1 hP1 hD1 hS1 => kk H1 locs1 cells slots ls (gm_set h1 hq0 hP1 hD1) hS1 h3 h4 hl)
theorem gj_putN (C : gx p m c cc nL s args Ts own D cl tys A) {Cn : String} {T : u_T} {N ci index : Nat} {a : Nat} {fs : List Value} {v : Value} {host : String} (d : decode cc pc = .ok (.putfield index, 3)) (ha : f a = some (.inr (ci, fs))) (hc : cl[ci]? = some (Cn, T, N)) (hin : ∀ w ∈ u_ws Cn T N, w ∈ Ts) {ty0 : Nat → FieldType} (hty : ∀ k, k < N → parseFieldDescriptor (T k).2.2.1 = some (ty0 k)) (hnm : ∀ a, a < N → ∀ b, b < N → a ≠ b → (T a).2.1 ≠ (T b).2.1) (k : Nat) (hk : k < N) (hl0 : va_Nw (.fieldLinkNest own index (T k).1 (T k).2.1 (T k).2.2.1 host) s) (hfin : (T k).2.2.2 = false) (hn : narrow (ty0 k) v = v) (hfit : fits (ty0 k) v = true) (hl1 : k < fs.length) (kk : gj p l e R s m args below meth c D cl A nL Q (gm_up f a (.inr (ci, fs.set k v))) nc ns (pc + 3) lw st) : gj p l e R s m args below meth c D cl A nL Q f nc ns pc lw (v :: .ref a :: st) := by
  intro H locs cells slots ls h1 h2 h3 h4 hl
  obtain ⟨q0, hq0⟩ := gm_at h1 ha
  exact va_putN (ty := ty0 k) C.1.1 C.1.2.1 C.1.2.2.2.2 hin ty0 hty hnm C.1.2.2.2.1 C.2.1 (gm_P h1) (gm_D h1) h2 q0 hq0 hc k hk (va_Nw.use rfl hl0) (fun _ h9 => h9) hfin (hty k hk) hn hfit hl1 d (fun H1 locs1 hP1 hD1 hS1 => kk H1 locs1 cells slots ls (gm_set h1 hq0 hP1 hD1) hS1 h3 h4 hl)
theorem gj_putF (C : gx p m c cc nL s args Ts own D cl tys A) {Cn : String} {T : u_T} {N ci index : Nat} {a : Nat} {fs : List Value} {v : Value} (d : decode cc pc = .ok (.putfield index, 3)) (ha : f a = some (.inr (ci, fs))) (hc : cl[ci]? = some (Cn, T, N)) (hin : ∀ w ∈ u_ws Cn T N, w ∈ Ts) {ty0 : Nat → FieldType} (hty : ∀ k, k < N → parseFieldDescriptor (T k).2.2.1 = some (ty0 k)) (hnm : ∀ a, a < N → ∀ b, b < N → a ≠ b → (T a).2.1 ≠ (T b).2.1) (k : Nat) (hk : k < N) (hl0 : Cond.fieldLink own index (T k).1 (T k).2.1 (T k).2.2.1 ∈ Ts) (hfin : (T k).2.2.2 = true) (hini : meth.name = "<init>") (hdecl : (T k).1 = own) (hn : narrow (ty0 k) v = v) (hfit : fits (ty0 k) v = true) (hl1 : k < fs.length) (kk : gj p l e R s m args below meth c D cl A nL Q (gm_up f a (.inr (ci, fs.set k v))) nc ns (pc + 3) lw st) : gj p l e R s m args below meth c D cl A nL Q f nc ns pc lw (v :: .ref a :: st) := by
  intro H locs cells slots ls h1 h2 h3 h4 hl
  obtain ⟨q0, hq0⟩ := gm_at h1 ha
  exact va_putF (ty := ty0 k) C.1.1 C.1.2.1 C.1.2.2.2.2 hin ty0 hty hnm C.1.2.2.2.1 C.2.1 (gm_P h1) (gm_D h1) h2 q0 hq0 hc k hk (C.1.2.2.2.2 _ hl0) (fun _ h9 => h9) hfin hini hdecl (hty k hk) hn hfit hl1 d (fun H1 locs1 hP1 hD1 hS1 => kk H1 locs1 cells slots ls (gm_set h1 hq0 hP1 hD1) hS1 h3 h4 hl)
theorem gj_alen (C : gx p m c cc nL s args Ts own D cl tys A) {a : Nat} {cA : ClassId} {x : vp_A} {ty : FieldType} (t0 : Nat) (d : decode cc pc = .ok (.arraylength, 1)) (ha : f a = some (.inl (cA, x))) (ht : tys[t0]? = some (cA, ty)) (kk : gj p l e R s m args below meth c D cl A nL Q f nc ns (pc + 1) lw (.int (nI x.1) :: st)) : gj p l e R s m args below meth c D cl A nL Q f nc ns pc lw (.ref a :: st) := fun H locs cells slots ls h1 h2 h3 h4 hl => va_alen C.1.1 C.1.2.1 C.2.1 (gm_one h1 ha) 0 t0 rfl ht rfl d (kk H locs cells slots ls h1 h2 h3 h4 hl)
theorem gj_iald (C : gx p m c cc nL s args Ts own D cl tys A) {a : Nat} {cA : ClassId} {n : Nat} {g : Nat → Int32} {i : Int32} (t0 : Nat) (d : decode cc pc = .ok (.iaload, 1)) (ha : f a = some (.inl (cA, n, .inl g))) (ht : tys[t0]? = some (cA, .int)) (hi : vp_in i n) (kk : gj p l e R s m args below meth c D cl A nL Q f nc ns (pc + 1) lw (.int (g i.toNatClampNeg) :: st)) : gj p l e R s m args below meth c D cl A nL Q f nc ns pc lw (.int i :: .ref a :: st) := fun H locs cells slots ls h1 h2 h3 h4 hl => va_iald C.1.1 C.1.2.1 C.2.1 (gm_one h1 ha) 0 t0 rfl ht hi d (kk H locs cells slots ls h1 h2 h3 h4 hl)
theorem gj_lald (C : gx p m c cc nL s args Ts own D cl tys A) {a : Nat} {cA : ClassId} {n : Nat} {g : Nat → Int64} {i : Int32} (t0 : Nat) (d : decode cc pc = .ok (.laload, 1)) (ha : f a = some (.inl (cA, n, .inr (.inl g)))) (ht : tys[t0]? = some (cA, .long)) (hi : vp_in i n) (kk : gj p l e R s m args below meth c D cl A nL Q f nc ns (pc + 1) lw (.long (g i.toNatClampNeg) :: st)) : gj p l e R s m args below meth c D cl A nL Q f nc ns pc lw (.int i :: .ref a :: st) := fun H locs cells slots ls h1 h2 h3 h4 hl => va_lald C.1.1 C.1.2.1 C.2.1 (gm_one h1 ha) 0 t0 rfl ht hi d (kk H locs cells slots ls h1 h2 h3 h4 hl)
theorem gj_aald (C : gx p m c cc nL s args Ts own D cl tys A) {a : Nat} {cA : ClassId} {Cn : String} {n : Nat} {g : Nat → Option Nat} {i : Int32} (t0 : Nat) (d : decode cc pc = .ok (.aaload, 1)) (ha : f a = some (.inl (cA, n, .inr (.inr (.inr (.inr g)))))) (ht : tys[t0]? = some (cA, .object Cn)) (hi : vp_in i n) (kk : gj p l e R s m args below meth c D cl A nL Q f nc ns (pc + 1) lw (va_rf (g i.toNatClampNeg) :: st)) : gj p l e R s m args below meth c D cl A nL Q f nc ns pc lw (.int i :: .ref a :: st) := fun H locs cells slots ls h1 h2 h3 h4 hl => va_aldq C.1.1 C.1.2.1 C.2.1 (gm_one h1 ha) 0 t0 rfl ht hi d (kk H locs cells slots ls h1 h2 h3 h4 hl)
theorem gj_zald (C : gx p m c cc nL s args Ts own D cl tys A) {a : Nat} {cA : ClassId} {n : Nat} {g : Nat → Int32} {i : Int32} (t0 : Nat) (d : decode cc pc = .ok (.baload, 1)) (ha : f a = some (.inl (cA, n, .inl g))) (ht : tys[t0]? = some (cA, .boolean)) (hi : vp_in i n) (kk : gj p l e R s m args below meth c D cl A nL Q f nc ns (pc + 1) lw (.int (g i.toNatClampNeg) :: st)) : gj p l e R s m args below meth c D cl A nL Q f nc ns pc lw (.int i :: .ref a :: st) := fun H locs cells slots ls h1 h2 h3 h4 hl => va_zald C.1.1 C.1.2.1 C.2.1 (gm_one h1 ha) 0 t0 rfl ht hi d (kk H locs cells slots ls h1 h2 h3 h4 hl)
theorem gj_iast (C : gx p m c cc nL s args Ts own D cl tys A) {a : Nat} {cA : ClassId} {n : Nat} {g : Nat → Int32} {i x : Int32} (t0 : Nat) (d : decode cc pc = .ok (.iastore, 1)) (ha : f a = some (.inl (cA, n, .inl g))) (ht : tys[t0]? = some (cA, .int)) (hi : vp_in i n) (kk : gj p l e R s m args below meth c D cl A nL Q (gm_up f a (.inl (cA, n, .inl (upd g i.toNatClampNeg x)))) nc ns (pc + 1) lw st) : gj p l e R s m args below meth c D cl A nL Q f nc ns pc lw (.int x :: .int i :: .ref a :: st) := by
  intro H locs cells slots ls h1 h2 h3 h4 hl
  obtain ⟨q0, hq0⟩ := gm_at h1 ha
  exact va_iast C.1.1 C.1.2.1 C.2.1 (gm_P h1) (gm_D h1) h2 q0 t0 hq0 ht hi d (fun H1 locs1 hP1 hD1 hS1 => kk H1 locs1 cells slots ls (gm_set h1 hq0 hP1 hD1) hS1 h3 h4 hl)
theorem gj_last (C : gx p m c cc nL s args Ts own D cl tys A) {a : Nat} {cA : ClassId} {n : Nat} {g : Nat → Int64} {i : Int32} {x : Int64} (t0 : Nat) (d : decode cc pc = .ok (.lastore, 1)) (ha : f a = some (.inl (cA, n, .inr (.inl g)))) (ht : tys[t0]? = some (cA, .long)) (hi : vp_in i n) (kk : gj p l e R s m args below meth c D cl A nL Q (gm_up f a (.inl (cA, n, .inr (.inl (vp_updL g i.toNatClampNeg x))))) nc ns (pc + 1) lw st) : gj p l e R s m args below meth c D cl A nL Q f nc ns pc lw (.long x :: .int i :: .ref a :: st) := by
  intro H locs cells slots ls h1 h2 h3 h4 hl
  obtain ⟨q0, hq0⟩ := gm_at h1 ha
  exact va_last C.1.1 C.1.2.1 C.2.1 (gm_P h1) (gm_D h1) h2 q0 t0 hq0 ht hi d (fun H1 locs1 hP1 hD1 hS1 => kk H1 locs1 cells slots ls (gm_set h1 hq0 hP1 hD1) hS1 h3 h4 hl)
theorem gj_aast (C : gx p m c cc nL s args Ts own D cl tys A) {a v ci : Nat} {r : vw_C} {vs : List Value} {cA : ClassId} {n : Nat} {g : Nat → Option Nat} {i : Int32} (t0 : Nat) (d : decode cc pc = .ok (.aastore, 1)) (ha : f a = some (.inl (cA, n, .inr (.inr (.inr (.inr g)))))) (ht : tys[t0]? = some (cA, .object r.1)) (hv : f v = some (.inr (ci, vs))) (hc : cl[ci]? = some r) (hi : vp_in i n) (kk : gj p l e R s m args below meth c D cl A nL Q (gm_up f a (.inl (cA, n, .inr (.inr (.inr (.inr (va_up g i.toNatClampNeg (some v)))))))) nc ns (pc + 1) lw st) : gj p l e R s m args below meth c D cl A nL Q f nc ns pc lw (.ref v :: .int i :: .ref a :: st) := by
  intro H locs cells slots ls h1 h2 h3 h4 hl
  obtain ⟨q0, hq0⟩ := gm_at h1 ha
  obtain ⟨q1, hq1⟩ := gm_at h1 hv
  exact va_astq C.1.1 C.1.2.1 C.2.1 (gm_P h1) (gm_D h1) h2 q0 t0 q1 ci hq0 ht hq1 hc hi d (fun H1 locs1 hP1 hD1 hS1 => kk H1 locs1 cells slots ls (gm_set h1 hq0 hP1 hD1) hS1 h3 h4 hl)
theorem gj_aastN (C : gx p m c cc nL s args Ts own D cl tys A) {a : Nat} {Cn : String} {cA : ClassId} {n : Nat} {g : Nat → Option Nat} {i : Int32} (t0 : Nat) (d : decode cc pc = .ok (.aastore, 1)) (ha : f a = some (.inl (cA, n, .inr (.inr (.inr (.inr g)))))) (ht : tys[t0]? = some (cA, .object Cn)) (hi : vp_in i n) (kk : gj p l e R s m args below meth c D cl A nL Q (gm_up f a (.inl (cA, n, .inr (.inr (.inr (.inr (va_up g i.toNatClampNeg none))))))) nc ns (pc + 1) lw st) : gj p l e R s m args below meth c D cl A nL Q f nc ns pc lw (.null :: .int i :: .ref a :: st) := by
  intro H locs cells slots ls h1 h2 h3 h4 hl
  obtain ⟨q0, hq0⟩ := gm_at h1 ha
  exact va_astqN C.1.1 C.1.2.1 C.2.1 (gm_P h1) (gm_D h1) h2 q0 t0 hq0 ht hi d (fun H1 locs1 hP1 hD1 hS1 => kk H1 locs1 cells slots ls (gm_set h1 hq0 hP1 hD1) hS1 h3 h4 hl)
theorem gj_zast (C : gx p m c cc nL s args Ts own D cl tys A) {a : Nat} {cA : ClassId} {n : Nat} {g : Nat → Int32} {i x : Int32} (t0 : Nat) (d : decode cc pc = .ok (.bastore, 1)) (ha : f a = some (.inl (cA, n, .inl g))) (ht : tys[t0]? = some (cA, .boolean)) (hi : vp_in i n) (kk : gj p l e R s m args below meth c D cl A nL Q (gm_up f a (.inl (cA, n, .inl (upd g i.toNatClampNeg (vp_nar .boolean x))))) nc ns (pc + 1) lw st) : gj p l e R s m args below meth c D cl A nL Q f nc ns pc lw (.int x :: .int i :: .ref a :: st) := by
  intro H locs cells slots ls h1 h2 h3 h4 hl
  obtain ⟨q0, hq0⟩ := gm_at h1 ha
  exact va_zast C.1.1 C.1.2.1 C.2.1 (gm_P h1) (gm_D h1) h2 q0 t0 hq0 ht hi d (fun H1 locs1 hP1 hD1 hS1 => kk H1 locs1 cells slots ls (gm_set h1 hq0 hP1 hD1) hS1 h3 h4 hl)
theorem gj_lcmp (C : gx p m c cc nL s args Ts own D cl tys A) {x y : Int64} (d : decode cc pc = .ok (.lcmp, 1)) (kk : gj p l e R s m args below meth c D cl A nL Q f nc ns (pc + 1) lw (.int (lg_cmp x y) :: st)) : gj p l e R s m args below meth c D cl A nL Q f nc ns pc lw (.long y :: .long x :: st) := fun H locs cells slots ls h1 h2 h3 h4 hl => W.lcmp C.1.1 C.1.2.1 d (kk H locs cells slots ls h1 h2 h3 h4 hl)
theorem gj_tabOut (C : gx p m c cc nL s args Ts own D cl tys A) {dflt lo hi : Int} {offs : Array Int} {len : Nat} {x : Int32} {tgt : Nat} (d : decode cc pc = .ok (.tableswitch dflt lo hi offs, len)) (h : x.toInt < lo ∨ hi < x.toInt) (ht : (pc : Int) + dflt = (tgt : Int)) (kk : gj p l e R s m args below meth c D cl A nL Q f nc ns tgt lw st) : gj p l e R s m args below meth c D cl A nL Q f nc ns pc lw (.int x :: st) := fun H locs cells slots ls h1 h2 h3 h4 hl => lv_tableOut C.1.1 C.1.2.1 d h ht (kk H locs cells slots ls h1 h2 h3 h4 hl)
theorem gj_tabIn (C : gx p m c cc nL s args Ts own D cl tys A) {dflt lo hi : Int} {offs : Array Int} {len : Nat} {x : Int32} {off : Int} {tgt : Nat} (d : decode cc pc = .ok (.tableswitch dflt lo hi offs, len)) (hlo : ¬ x.toInt < lo) (hhi : ¬ hi < x.toInt) (ho : offs[(x.toInt - lo).toNat]? = some off) (ht : (pc : Int) + off = (tgt : Int)) (kk : gj p l e R s m args below meth c D cl A nL Q f nc ns tgt lw st) : gj p l e R s m args below meth c D cl A nL Q f nc ns pc lw (.int x :: st) := fun H locs cells slots ls h1 h2 h3 h4 hl => lv_tableIn C.1.1 C.1.2.1 d hlo hhi ho ht (kk H locs cells slots ls h1 h2 h3 h4 hl)
theorem gj_ialdN (C : gx p m c cc nL s args Ts own D cl tys A) {a : Nat} {cA : ClassId} {n j : Nat} {g : Nat → Int32} (t0 : Nat) (d : decode cc pc = .ok (.iaload, 1)) (ha : f a = some (.inl (cA, n, .inl g))) (ht : tys[t0]? = some (cA, .int)) (hj : j < n) (hn : n < 2 ^ 31) (kk : gj p l e R s m args below meth c D cl A nL Q f nc ns (pc + 1) lw (.int (g j) :: st)) : gj p l e R s m args below meth c D cl A nL Q f nc ns pc lw (.int (nI j) :: .ref a :: st) := gj_iald C t0 d ha ht (vp_in_nI hj hn) (by rw [nI_clamp (by omega)]; exact kk)
theorem gj_zaldN (C : gx p m c cc nL s args Ts own D cl tys A) {a : Nat} {cA : ClassId} {n j : Nat} {g : Nat → Int32} (t0 : Nat) (d : decode cc pc = .ok (.baload, 1)) (ha : f a = some (.inl (cA, n, .inl g))) (ht : tys[t0]? = some (cA, .boolean)) (hj : j < n) (hn : n < 2 ^ 31) (kk : gj p l e R s m args below meth c D cl A nL Q f nc ns (pc + 1) lw (.int (g j) :: st)) : gj p l e R s m args below meth c D cl A nL Q f nc ns pc lw (.int (nI j) :: .ref a :: st) := gj_zald C t0 d ha ht (vp_in_nI hj hn) (by rw [nI_clamp (by omega)]; exact kk)
theorem gj_aaldN (C : gx p m c cc nL s args Ts own D cl tys A) {a : Nat} {cA : ClassId} {Cn : String} {n j : Nat} {g : Nat → Option Nat} (t0 : Nat) (d : decode cc pc = .ok (.aaload, 1)) (ha : f a = some (.inl (cA, n, .inr (.inr (.inr (.inr g)))))) (ht : tys[t0]? = some (cA, .object Cn)) (hj : j < n) (hn : n < 2 ^ 31) (kk : gj p l e R s m args below meth c D cl A nL Q f nc ns (pc + 1) lw (va_rf (g j) :: st)) : gj p l e R s m args below meth c D cl A nL Q f nc ns pc lw (.int (nI j) :: .ref a :: st) := gj_aald C t0 d ha ht (vp_in_nI hj hn) (by rw [nI_clamp (by omega)]; exact kk)
theorem gj_iastN (C : gx p m c cc nL s args Ts own D cl tys A) {a : Nat} {cA : ClassId} {n j : Nat} {g : Nat → Int32} {x : Int32} (t0 : Nat) (d : decode cc pc = .ok (.iastore, 1)) (ha : f a = some (.inl (cA, n, .inl g))) (ht : tys[t0]? = some (cA, .int)) (hj : j < n) (hn : n < 2 ^ 31) (kk : gj p l e R s m args below meth c D cl A nL Q (gm_up f a (.inl (cA, n, .inl (upd g j x)))) nc ns (pc + 1) lw st) : gj p l e R s m args below meth c D cl A nL Q f nc ns pc lw (.int x :: .int (nI j) :: .ref a :: st) := gj_iast C t0 d ha ht (vp_in_nI hj hn) (by rw [nI_clamp (by omega)]; exact kk)
theorem gj_zastN (C : gx p m c cc nL s args Ts own D cl tys A) {a : Nat} {cA : ClassId} {n j : Nat} {g : Nat → Int32} {x : Int32} (t0 : Nat) (d : decode cc pc = .ok (.bastore, 1)) (ha : f a = some (.inl (cA, n, .inl g))) (ht : tys[t0]? = some (cA, .boolean)) (hj : j < n) (hn : n < 2 ^ 31) (kk : gj p l e R s m args below meth c D cl A nL Q (gm_up f a (.inl (cA, n, .inl (upd g j (vp_nar .boolean x))))) nc ns (pc + 1) lw st) : gj p l e R s m args below meth c D cl A nL Q f nc ns pc lw (.int x :: .int (nI j) :: .ref a :: st) := gj_zast C t0 d ha ht (vp_in_nI hj hn) (by rw [nI_clamp (by omega)]; exact kk)
theorem gj_aastJ (C : gx p m c cc nL s args Ts own D cl tys A) {a : Nat} {cA : ClassId} {v ci : Nat} {r : vw_C} {vs : List Value} {n j : Nat} {g : Nat → Option Nat} (t0 : Nat) (d : decode cc pc = .ok (.aastore, 1)) (ha : f a = some (.inl (cA, n, .inr (.inr (.inr (.inr g)))))) (ht : tys[t0]? = some (cA, .object r.1)) (hv : f v = some (.inr (ci, vs))) (hc : cl[ci]? = some r) (hj : j < n) (hn : n < 2 ^ 31) (kk : gj p l e R s m args below meth c D cl A nL Q (gm_up f a (.inl (cA, n, .inr (.inr (.inr (.inr (va_up g j (some v)))))))) nc ns (pc + 1) lw st) : gj p l e R s m args below meth c D cl A nL Q f nc ns pc lw (.ref v :: .int (nI j) :: .ref a :: st) := gj_aast C t0 d ha ht hv hc (vp_in_nI hj hn) (by rw [nI_clamp (by omega)]; exact kk)
theorem gj_aastNJ (C : gx p m c cc nL s args Ts own D cl tys A) {a : Nat} {cA : ClassId} {Cn : String} {n j : Nat} {g : Nat → Option Nat} (t0 : Nat) (d : decode cc pc = .ok (.aastore, 1)) (ha : f a = some (.inl (cA, n, .inr (.inr (.inr (.inr g)))))) (ht : tys[t0]? = some (cA, .object Cn)) (hj : j < n) (hn : n < 2 ^ 31) (kk : gj p l e R s m args below meth c D cl A nL Q (gm_up f a (.inl (cA, n, .inr (.inr (.inr (.inr (va_up g j none))))))) nc ns (pc + 1) lw st) : gj p l e R s m args below meth c D cl A nL Q f nc ns pc lw (.null :: .int (nI j) :: .ref a :: st) := gj_aastN C t0 d ha ht (vp_in_nI hj hn) (by rw [nI_clamp (by omega)]; exact kk)
theorem gj_new (C : gx p m c cc nL s args Ts own D cl tys A) {Cn : String} {T : u_T} {N ci index : Nat} {fs : List Value} {ty : Nat → FieldType} (d : decode cc pc = .ok (.new index, 3)) (hc : cl[ci]? = some (Cn, T, N)) (hin : ∀ w ∈ u_ws Cn T N, w ∈ Ts) (hty : ∀ k, k < N → parseFieldDescriptor (T k).2.2.1 = some (ty k)) (hlk : Cond.classLink own index Cn ∈ Ts) (hins : Cond.instantiable Cn N ∈ Ts) (hini : Cond.initialized Cn ∈ Ts) (hfs : ∀ j, j < N → defaultValue (ty j) = vp_V fs j) {nc0 ns0 : Nat} (hb1 : nc + 1 ≤ nc0) (hb2 : ns + N ≤ ns0) (kk : ∀ q : Nat, f q = none → gj p l e R s m args below meth c D cl A nL Q (gm_up f q (.inr (ci, fs))) nc ns (pc + 3) lw (.ref q :: st)) : gj p l e R s m args below meth c D cl A nL Q f nc0 ns0 pc lw st := by
  intro H locs cells slots ls h1 h2 h3 h4 hl
  refine va_new C.1.1 C.1.2.1 C.1.2.2.2.2 hin ty hty C.1.2.2.2.1 (C.1.2.2.2.2 _ hlk) (C.1.2.2.2.2 _ hins) (C.1.2.2.2.2 _ hini) C.2.1 (gm_P h1) (gm_D h1) h2 C.2.2 hc hfs (by omega) (by omega) d (fun q H1 hP1 hD1 hS1 => ?_)
  obtain ⟨hq, hh⟩ := gm_push h1 hP1 hD1
  exact kk q hq H1 locs (cells + 1) (slots + N) ls hh hS1 (by omega) (by omega) hl
theorem gm_cA {U : State} {c1 c2 : ClassId} {ty : FieldType} (h1 : va_RA U c1 ty) (h2 : va_RA U c2 ty) : c1 = c2 := by
  cases ty <;> first | exact Option.some.inj (h1.symm.trans h2) | (obtain ⟨_, _, _, _, _, h1⟩ := h1; obtain ⟨_, _, _, _, _, h2⟩ := h2; exact Option.some.inj (h1.symm.trans h2))
theorem gj_newa (C : gx p m c cc nL s args Ts own D cl tys A) {cA : ClassId} {atype : ArrayType} {ty : FieldType} {n : Int32} {N : Nat} {a0 : vp_A} (t0 : Nat) (d : decode cc pc = .ok (.newarray atype, 2)) (hty : newarray.typeOf atype = ty) (ht : tys[t0]? = some (cA, ty)) (harr : Cond.arrayClass (newarray.typeOf atype) ∈ Ts) (hcell : ∀ cA : ClassId, vp_cell cA a0 = arrV cA N (fun _ => defaultValue ty)) (hn : ¬ n < 0) (hN : n.toNatClampNeg = N) (hby : N * componentBytes ty ≤ 536870912) {nc0 ns0 : Nat} (hb1 : nc + 1 ≤ nc0) (hb2 : ns + N ≤ ns0) (kk : ∀ q : Nat, f q = none → gj p l e R s m args below meth c D cl A nL Q (gm_up f q (.inl (cA, a0))) nc ns (pc + 2) lw (.ref q :: st)) : gj p l e R s m args below meth c D cl A nL Q f nc0 ns0 pc lw (.int n :: st) := by
  intro H locs cells slots ls h1 h2 h3 h4 hl
  refine va_newa C.1.1 C.1.2.1 (C.1.2.2.2.2 _ harr) hty C.2.1 (gm_P h1) (gm_D h1) h2 C.2.2 hcell hn hN hby (by omega) (by omega) d (fun q c2 H1 hK1 hP1 hD1 hS1 => ?_)
  have e2 : c2 = cA := gm_cA (hK1.2 tys.length (c2, ty) (by simp)).2 (C.2.1.2 t0 _ ht).2
  subst e2
  obtain ⟨hq, hh⟩ := gm_push h1 hP1 hD1
  exact kk q hq H1 locs (cells + 1) (slots + N) ls hh hS1 (by omega) (by omega) hl
theorem gj_newq (C : gx p m c cc nL s args Ts own D cl tys A) {Cn : String} {index : Nat} {cA : ClassId} {n : Int32} {N : Nat} (t0 : Nat) (d : decode cc pc = .ok (.anewarray index, 3)) (ht : tys[t0]? = some (cA, .object Cn)) (hlk : Cond.classLink own index Cn ∈ Ts) (hov : va_AO Cn s) (hn : ¬ n < 0) (hN : n.toNatClampNeg = N) (hby : N * 4 ≤ 536870912) {nc0 ns0 : Nat} (hb1 : nc + 1 ≤ nc0) (hb2 : ns + N ≤ ns0) (kk : ∀ q : Nat, f q = none → gj p l e R s m args below meth c D cl A nL Q (gm_up f q (.inl (cA, N, .inr (.inr (.inr (.inr (fun _ => none))))))) nc ns (pc + 3) lw (.ref q :: st)) : gj p l e R s m args below meth c D cl A nL Q f nc0 ns0 pc lw (.int n :: st) := by
  intro H locs cells slots ls h1 h2 h3 h4 hl
  refine va_newq C.1.1 C.1.2.1 C.1.2.2.2.1 (C.1.2.2.2.2 _ hlk) hov C.2.1 (gm_P h1) (gm_D h1) h2 C.2.2 hn hN hby (by omega) (by omega) d (fun q c2 H1 hK1 hP1 hD1 hS1 => ?_)
  have e2 : c2 = cA := gm_cA (hK1.2 tys.length (c2, .object Cn) (by simp)).2 (C.2.1.2 t0 _ ht).2
  subst e2
  obtain ⟨hq, hh⟩ := gm_push h1 hP1 hD1
  exact kk q hq H1 locs (cells + 1) (slots + N) ls hh hS1 (by omega) (by omega) hl
theorem gj_mmax (C : gx p m c cc nL s args Ts own D cl tys A) {index : Nat} {x y : Int32} (d : decode cc pc = .ok (.invokestatic index, 3)) (hlk : Cond.methodLink own index Lib.Math.max.name ∈ Ts) (hst : Cond.static Lib.Math.max.name ∈ Ts) (hini : Cond.initialized "java/lang/Math" ∈ Ts) (hcd : Cond.code Lib.Math.max.name Lib.Math.max.code 2 (some .int) ∈ Ts) (hfr : 1 ≤ R.frames) (hlo : (st.map fun v => v.category).sum + 13 ≤ R.locals) (kk : gj p l e R s m args below meth c D cl A nL Q f nc ns (pc + 3) lw (.int (if x < y then y else x) :: st)) : gj p l e R s m args below meth c D cl A nL Q f nc ns pc lw (.int y :: .int x :: st) := fun H locs cells slots ls h1 h2 h3 h4 hl => va_mmax C.1.1 C.1.2.1 (C.1.2.2.1.trans hl.1.symm) C.1.2.2.2.1 (C.1.2.2.2.2 _ hlk) (C.1.2.2.2.2 _ hst) (C.1.2.2.2.2 _ hini) (C.1.2.2.2.2 _ hcd) hfr hlo (by omega) (by omega) d (kk H locs cells slots ls h1 h2 h3 h4 hl)
theorem gj_mmin (C : gx p m c cc nL s args Ts own D cl tys A) {index : Nat} {x y : Int32} (d : decode cc pc = .ok (.invokestatic index, 3)) (hlk : Cond.methodLink own index Lib.Math.min.name ∈ Ts) (hst : Cond.static Lib.Math.min.name ∈ Ts) (hini : Cond.initialized "java/lang/Math" ∈ Ts) (hcd : Cond.code Lib.Math.min.name Lib.Math.min.code 2 (some .int) ∈ Ts) (hfr : 1 ≤ R.frames) (hlo : (st.map fun v => v.category).sum + 13 ≤ R.locals) (kk : gj p l e R s m args below meth c D cl A nL Q f nc ns (pc + 3) lw (.int (if y < x then y else x) :: st)) : gj p l e R s m args below meth c D cl A nL Q f nc ns pc lw (.int y :: .int x :: st) := fun H locs cells slots ls h1 h2 h3 h4 hl => va_mmin C.1.1 C.1.2.1 (C.1.2.2.1.trans hl.1.symm) C.1.2.2.2.1 (C.1.2.2.2.2 _ hlk) (C.1.2.2.2.2 _ hst) (C.1.2.2.2.2 _ hini) (C.1.2.2.2.2 _ hcd) hfr hlo (by omega) (by omega) d (kk H locs cells slots ls h1 h2 h3 h4 hl)
theorem gj_objInit (C : gx p m c cc nL s args Ts own D cl tys A) {idx a : Nat} (d : decode cc pc = .ok (.invokespecial idx, 3)) (hlk : Cond.methodLink own idx Lib.objectInit ∈ Ts) (hin : Cond.instanceMethod Lib.objectInit ∈ Ts) (hcd : Cond.code Lib.objectInit ⟨#[0xb1]⟩ 1 none ∈ Ts) (hfr : 1 ≤ R.frames) (hlo : (st.map fun v => v.category).sum + 12 ≤ R.locals) (kk : gj p l e R s m args below meth c D cl A nL Q f nc ns (pc + 3) lw st) : gj p l e R s m args below meth c D cl A nL Q f nc ns pc lw (.ref a :: st) := fun H locs cells slots ls h1 h2 h3 h4 hl => W.objInit C.1.1 C.1.2.1 C.1.2.2.2.1 (C.1.2.2.2.2 _ hlk) (C.1.2.2.2.2 _ hin) (C.1.2.2.2.2 _ hcd) rfl (hl.1.trans C.1.2.2.1.symm) rfl d hfr (by show 2 * 0 + _ + 12 ≤ _; omega) (kk H locs cells slots ls h1 h2 h3 h4 hl)
end GJ
end
section
/-! Contracts over maps, and calls by them. gk_NW, gk_OV, gk_ST, gk_NC: the links across the nest, the element classes of arrays, the texts, the classes that aren't castable (a list each, above). -/
def gk_nest : Cond → Bool
  | .fieldLinkNest .. => true
  | .methodLinkNest .. => true
  | _ => false
theorem gk_nw {s U : State} {w : Cond} (hW : s.WarmedH U.vm) (hw : gk_nest w = true) (h : va_Nw w s) : va_Nw w U := by
  cases w <;> first | exact va_Nw.warmF hW h | exact va_Nw.warmM hW h | (exact absurd hw (by simp [gk_nest]))
theorem gk_NW_ok : gk_NW.all gk_nest = true := by decide +kernel
/-- what the tables say, the same at every state of the run -/
def gk_E (D : va_G) (tys : List (ClassId × FieldType)) (U : State) : Prop :=
  va_K D vwCl tys U ∧ (∀ w ∈ gk_NW, va_Nw w U) ∧ (∀ C ∈ gk_OV, va_AO C U) ∧ (∀ q ∈ gk_ST, ∃ sa : Nat, vk_R q.1 q.2.1 q.2.2 sa U) ∧ ∀ q ∈ gk_NC, va_Nc q.1 q.2 U
theorem gk_E.warm {D : va_G} {tys : List (ClassId × FieldType)} {s U : State} (hW : s.WarmedH U.vm) (h : gk_E D tys s) : gk_E D tys U := by
  obtain ⟨h1, h2, h3, h4, h5⟩ := h
  refine ⟨va_K.moved hW.alike h1, fun w hw => gk_nw hW (List.all_eq_true.mp gk_NW_ok w hw) (h2 w hw), fun C hC => va_AO.moved hW.alike (h3 C hC), fun q hq => ?_, fun q hq => va_Nc.moved hW.alike (h5 q hq)⟩
  obtain ⟨sa, hs⟩ := h4 q hq
  exact ⟨sa, vk_R.warm hW hs⟩
def gk_Q (post : Option Value → gm → Prop) (D : va_G) (A : Nat → Prop) : Array Value → State → Outcome → State → Prop := fun _ st oc t => (∃ (v : Option Value) (u : gm), oc = .returned v ∧ post v u ∧ gm_hp D vwCl A u t.heap) ∧ va_F A st t
def gk_B (D : va_G) (tys : List (ClassId × FieldType)) (f : gm) (sz : Nat) (U : State) : Prop := U.heap.size = sz ∧ gm_hp D vwCl (fun _ => True) f U.heap ∧ gk_E D tys U
/-- a contract: with the arguments av, over any heap that holds the map f, the method returns, and 'post answer map' -/
def gk (l : Launch) (y : MethodName) (cw : Cond) (rm : Room) (D : va_G) (tys : List (ClassId × FieldType)) (av : List Value) (f : gm) (post : Option Value → gm → Prop) : Prop :=
  ∀ sz : Nat, Met l y (cw :: gW) rm (va_Pc av (gk_B D tys f sz)) (gk_Q post D (gm_A f sz)) rm.cells rm.slots (gm_A f sz)
theorem gk_of {l : Launch} {y : MethodName} {cw : Cond} {rm : Room} {D : va_G} {tys : List (ClassId × FieldType)} {av : List Value} {f : gm} {post : Option Value → gm → Prop} {cc : ByteArray} {maxL : Nat} {ret : Option FieldType} (lw : List (Option Value))
    (hy : plainName y.cls = true) (hw : cw = Cond.code y cc maxL ret) (hlen : (lg_sl av).length ≤ maxL) (hlw : gl_l lw = lv_args 0 av)
    (body : ∀ (p : Program) (e : Env) (s : State) (m : MethodId) (args : Array Value) (below : List Frame) (meth : Method) (c : Code) (A : Nat → Prop), gx p m c cc maxL s args gW y.cls D vwCl tys A → gk_E D tys s → meth.sig.returnType = ret → meth.locks = false → meth.name = y.name →
      gj p l e rm s m args below meth c D vwCl A maxL (MQ below (gk_Q post D A) args s rm.cells rm.slots A) f rm.cells rm.slots 0 lw []) : gk l y cw rm D tys av f post := by
  intro sz
  refine Met.ofW (cc := cc) (maxL := maxL) (ret := ret) hy (by rw [hw]) ?_
  intro p e s m args below meth c s₁ B hml hv
  obtain ⟨rfl, hsz, hP, hE⟩ := hv
  have hts := atoms_spec (ws := cw :: gW) B.pre
  have hown : s.vm.findClass y.cls = some m.cls := findClass_of_methodNamed B.named
  have hnm : meth.name = y.name := (name_of_methodNamed B.named B.method).1
  subst hsz
  have hl := lv_entry av (n := maxL) hlen
  rw [lg_entry_eq]
  refine body p e s m av.toArray below meth c (gm_A f s.heap.size) ⟨⟨B.exec, B.bytes, hml, hown, fun w hw => hts w (List.mem_cons_of_mem _ hw)⟩, hE.1, fun q hq => Or.inr hq⟩ hE B.returns B.notSynchronized hnm s.heap [] 0 0 _ (fun a x ha => ⟨(hP a x ha).1, gm_A_in ha⟩) va_S.rf (by omega) (by omega) ?_
  show lv_has _ _ (gl_l lw)
  rw [hlw]
  exact hl
section GK
variable {p : Program} {l : Launch} {e : Env} {R : Room} {s : State} {m : MethodId} {args : Array Value} {below : List Frame} {meth : Method} {c : Code} {D : va_G} {A : Nat → Prop} {nL : Nat} {Q : State → Prop} {f g : gm} {nc ns pc : Nat} {lw : List (Option Value)} {st rest : List Value} {cc : ByteArray} {Ts : List Cond} {own : String} {tys : List (ClassId × FieldType)} {post : Option Value → gm → Prop}
theorem gj_iret (C : gx p m c cc nL s args gW own D vwCl tys A) (hr : meth.sig.returnType = some .int) (hlk : meth.locks = false) {v : Int32} (d : decode cc pc = .ok (.ireturn, 1)) (hp : post (some (.int v)) f) : gj p l e R s m args below meth c D vwCl A nL (MQ below (gk_Q post D A) args s R.cells R.slots A) f nc ns pc lw [.int v] := by
  intro H locs cells slots ls h1 h2 h3 h4 hl
  refine W.widen (k := R.cells) (n := R.slots) (by omega) (by omega) ?_
  exact W.iret C.1.1 C.1.2.1 hr (fun t ht hW => ⟨⟨_, f, rfl, hp, by rw [ht]; exact h1⟩, h2.F ht⟩) h2.2.2 d hlk
theorem gj_zret (C : gx p m c cc nL s args gW own D vwCl tys A) (hr : meth.sig.returnType = some .boolean) (hlk : meth.locks = false) {v : Int32} (d : decode cc pc = .ok (.ireturn, 1)) (hv : narrow .boolean (.int v) = .int v) (hp : post (some (.int v)) f) : gj p l e R s m args below meth c D vwCl A nL (MQ below (gk_Q post D A) args s R.cells R.slots A) f nc ns pc lw [.int v] := by
  intro H locs cells slots ls h1 h2 h3 h4 hl
  refine W.widen (k := R.cells) (n := R.slots) (by omega) (by omega) ?_
  exact W.zret C.1.1 C.1.2.1 hr hv (fun t ht hW => ⟨⟨_, f, rfl, hp, by rw [ht]; exact h1⟩, h2.F ht⟩) h2.2.2 d hlk
theorem gj_vret (C : gx p m c cc nL s args gW own D vwCl tys A) (hr : meth.sig.returnType = none) (hlk : meth.locks = false) (d : decode cc pc = .ok (.return_, 1)) (hp : post none f) : gj p l e R s m args below meth c D vwCl A nL (MQ below (gk_Q post D A) args s R.cells R.slots A) f nc ns pc lw [] := by
  intro H locs cells slots ls h1 h2 h3 h4 hl
  refine W.widen (k := R.cells) (n := R.slots) (by omega) (by omega) ?_
  exact W.vret C.1.1 C.1.2.1 hr (fun t ht hW => ⟨⟨_, f, rfl, hp, by rw [ht]; exact h1⟩, h2.F ht⟩) h2.2.2 d hlk
theorem gj_aret (C : gx p m c cc nL s args gW own D vwCl tys A) {nm : String} {v : Value} (hr : meth.sig.returnType = some (.object nm)) (hlk : meth.locks = false) (d : decode cc pc = .ok (.areturn, 1)) (hv : v = .null ∨ ∃ a, v = .ref a) (hp : post (some v) f) : gj p l e R s m args below meth c D vwCl A nL (MQ below (gk_Q post D A) args s R.cells R.slots A) f nc ns pc lw [v] := by
  intro H locs cells slots ls h1 h2 h3 h4 hl
  refine W.widen (k := R.cells) (n := R.slots) (by omega) (by omega) ?_
  exact W.aret C.1.1 C.1.2.1 hr (Or.inl ⟨nm, rfl⟩) hv (fun t ht hW => ⟨⟨_, f, rfl, hp, by rw [ht]; exact h1⟩, h2.F ht⟩) h2.2.2 d hlk
theorem gk_keep {A1 : Nat → Prop} {H0 H : Heap} {st₀ t T' : State} {locs L : List Loc} {free : Addr → Prop} (h0 : st₀.heap = H) (e1 : T'.heap = t.heap) (hS : va_S A H0 H locs) (hA : ∀ q, q < H.size → A1 q → A q) (hf : ∀ q, free q → A q) (hL : ∀ q ∈ L, free q.base) (hF : va_F A1 st₀ t) :
    (∀ q : Nat, q < H.size → ¬ A1 q → T'.heap[q]? = H[q]?) ∧ va_S A H0 T'.heap (locs ++ L) := by
  obtain ⟨hz, hk⟩ := hF
  rw [h0] at hz hk
  exact ⟨fun q h1 h2 => by rw [e1]; exact hk q h1 h2,
    ⟨Nat.le_trans hS.1 (by rw [e1]; exact hz), fun q h1 h2 => by rw [e1, hk q (Nat.lt_of_lt_of_le h1 hS.1) (fun z => h2 (hA q (Nat.lt_of_lt_of_le h1 hS.1) z))]; exact hS.2.1 q h1 h2, fun q hq => by
      rcases List.mem_append.mp hq with h | h
      · exact hS.2.2 q h
      · exact hf _ (hL q h)⟩⟩
/-- what the caller may change has in it what the callee may -/
theorem gk_sub {H : Heap} {locs : List Loc} (C : gx p m c cc nL s args gW own D vwCl tys A) (h1 : gm_hp D vwCl A f H) (h2 : va_S A s.heap H locs) (hg : ∀ a x, g a = some x → f a = some x) : ∀ q, gm_A g H.size q → A q := by
  intro q h
  rcases h with h | h
  · cases hq : g q with
    | none => exact absurd hq h
    | some x => exact (h1 q x (hg q x hq)).2
  · exact C.2.2 q (Nat.le_trans h2.1 h)
theorem gk_map {H H1 : Heap} {u : gm} (h1 : gm_hp D vwCl A f H) (hf : ∀ q, gm_A g H.size q → A q) (hk : ∀ q : Nat, q < H.size → ¬ gm_A g H.size q → H1[q]? = H[q]?) (hb : gm_hp D vwCl (gm_A g H.size) u H1) : gm_hp D vwCl A (gm_fr f g u) H1 := by
  intro b x hx
  unfold gm_fr at hx
  split at hx
  · rename_i hc
    have hlt := h1.lt hx
    have hnA : ¬ gm_A g H.size b := by
      intro h
      rcases h with h | h
      · exact h hc.1
      · omega
    exact ⟨(h1 b x hx).1.kept (hk b hlt hnA), (h1 b x hx).2⟩
  · exact ⟨(hb b x hx).1, hf b (hb b x hx).2⟩
theorem gk_dom {H H1 : Heap} {u : gm} (h1 : gm_hp D vwCl A f H) (hb : gm_hp D vwCl (gm_A g H.size) u H1) : ∀ q, u q ≠ none → g q ≠ none ∨ f q = none := by
  intro q hq
  cases hu : u q with
  | none => exact absurd hu hq
  | some x =>
    rcases (hb q x hu).2 with h | h
    · exact Or.inl h
    · right
      cases hf : f q with
      | none => rfl
      | some y => exact absurd (h1.lt hf) (by omega)
/-- a call, over the part g of the caller's map -/
theorem gj_callF {mc ms : Nat} {a : Array Value} {st0 : List Value} (C : gx p m c cc nL s args gW own D vwCl tys A) (hg : ∀ a x, g a = some x → f a = some x)
    (hr : ∀ (H : Heap) (locs : List Loc) (cells slots : Nat) (ls : Array Slot), gm_hp D vwCl A f H → va_S A s.heap H locs → cells + (nc + mc) ≤ R.cells → slots + (ns + ms) ≤ R.slots → gl_has ls nL lw → va_Run p l e R s m args below meth c H locs cells slots mc ms (F0 m pc ls st0) rest (gk_Q post D (gm_A g H.size) a) (gm_A g H.size))
    (kk : ∀ (v : Option Value) (u : gm), post v u → (∀ q, u q ≠ none → g q ≠ none ∨ f q = none) → gj p l e R s m args below meth c D vwCl A nL Q (gm_fr f g u) nc ns (pc + 3) lw (v.toList ++ rest)) :
    gj p l e R s m args below meth c D vwCl A nL Q f (nc + mc) (ns + ms) pc lw st0 := by
  intro H locs cells slots ls h1 h2 h3 h4 hl T hT X
  obtain ⟨v, st₀, t, T', L, h0, X', hL, e1, e2, ⟨⟨v', u, hv, hp, hb⟩, hF⟩, stp⟩ := hr H locs cells slots ls h1 h2 h3 h4 hl T hT X
  cases hv
  have hf := gk_sub C h1 h2 hg
  obtain ⟨k2, k3⟩ := gk_keep h0 e1 h2 (fun q _ h => hf q h) hf hL hF
  rw [← e1] at hb
  obtain ⟨t2, a1, b1⟩ := kk v u hp (gk_dom h1 hb) T'.heap (locs ++ L) (cells + mc) (slots + ms) ls (gk_map h1 hf k2 hb) k3 (by omega) (by omega) hl T' rfl X'
  exact ⟨t2, stp t2 a1, b1⟩
theorem gj_call {mc ms : Nat} {a : Array Value} {st0 : List Value} (C : gx p m c cc nL s args gW own D vwCl tys A)
    (hr : ∀ (H : Heap) (locs : List Loc) (cells slots : Nat) (ls : Array Slot), gm_hp D vwCl A f H → va_S A s.heap H locs → cells + (nc + mc) ≤ R.cells → slots + (ns + ms) ≤ R.slots → gl_has ls nL lw → va_Run p l e R s m args below meth c H locs cells slots mc ms (F0 m pc ls st0) rest (gk_Q post D (gm_A f H.size) a) (gm_A f H.size))
    (kk : ∀ (v : Option Value) (u : gm), post v u → gj p l e R s m args below meth c D vwCl A nL Q u nc ns (pc + 3) lw (v.toList ++ rest)) :
    gj p l e R s m args below meth c D vwCl A nL Q f (nc + mc) (ns + ms) pc lw st0 :=
  gj_callF C (fun _ _ h => h) hr (fun v u hp _ => gj_f gm_fr_self (kk v u hp))
/-- a contract's start holds at any frame -/
theorem gk_blind {av : List Value} {sz : Nat} : FrameBlind (va_Pc av (gk_B D tys f sz)) := fun a U g mk q => ⟨q.1, q.2.1, q.2.2.1, gk_E.warm (U := U.calling g mk a) (State.WarmedH.refl U) q.2.2.2⟩
theorem gk_pre {H : Heap} {As : List Value} (hE : gk_E D tys s) (h1 : gm_hp D vwCl A f H) (hg : ∀ a x, g a = some x → f a = some x) : ∀ U : State, U.heap = H → s.WarmedH U.vm → va_Pc As (gk_B D tys g H.size) As.toArray U :=
  fun U hU hW => ⟨rfl, by rw [hU], fun a x ha => ⟨by rw [hU]; exact (h1 a x (hg a x ha)).1, trivial⟩, gk_E.warm hW hE⟩
theorem gk_recv {H : Heap} {a ci : Nat} {fs : List Value} {r : vw_C} (C : gx p m c cc nL s args gW own D vwCl tys A) (h1 : gm_hp D vwCl A f H) (ha : f a = some (.inr (ci, fs))) (hc : vwCl[ci]? = some r) : ∃ cell : Cell, H[a]? = some cell ∧ cell.vm.isStatics = false ∧ s.vm.findClass r.1 = some cell.cls := va_recv C.2.1 (gm_one h1 ha) hc (q0 := 0) rfl
variable {y : MethodName} {cw : Cond} {rm : Room} {bytes : ByteArray} {maxL n index : Nat} {ret : Option FieldType} {As st0 : List Value} {b ci nc0 ns0 : Nat} {fs : List Value} {r : vw_C} {host : String}
/-- invokevirtual of a method of the receiver's own class -/
theorem gj_cV (C : gx p m c cc nL s args gW own D vwCl tys A) (hE : gk_E D tys s) (hM : gk l y cw rm D tys (.ref b :: As) f post) (d : decode cc pc = .ok (.invokevirtual index, 3)) (hst : st0 = As.reverse ++ .ref b :: rest) (hcw : cw ∈ gW) (hw : cw = Cond.code y bytes maxL ret) (hlk : Cond.methodLink own index y ∈ gW) (hini : Cond.initialized y.cls ∈ gW) (hin : Cond.instanceMethod y ∈ gW) (hsel : Cond.selects r.1 y y ∈ gW)
    (hd : y.cls ≠ "java/lang/invoke/MethodHandle" ∧ y.cls ≠ "java/lang/invoke/VarHandle" ∧ (parseMethodDescriptor y.desc).map (fun d => d.parameters.length) = some n) (hn : As.length = n) (hb : f b = some (.inr (ci, fs))) (hc : vwCl[ci]? = some r) (hR : rm.frames + 1 ≤ R.frames ∧ 8 + (maxL + 11) + rm.locals ≤ R.locals) (hW : (rest.map fun v => v.category).sum ≤ 8)
    (h1 : nc + rm.cells ≤ nc0) (h2 : ns + rm.slots ≤ ns0) (kk : ∀ (v : Option Value) (u : gm), post v u → gj p l e R s m args below meth c D vwCl A nL Q u nc ns (pc + 3) lw (v.toList ++ rest)) :
    gj p l e R s m args below meth c D vwCl A nL Q f nc0 ns0 pc lw st0 := by
  subst hst
  exact gj_nc h1 h2 <| gj_call C (fun H locs cells slots ls h1 h2 h3 h4 hl => va_runV (As := As) (rest := rest) C.1 (hM H.size) ⟨callB_of n C.1.2.2.2.2 (gW_good hcw) (by rw [hw]) rfl rfl (C.1.2.2.2.2 _ hini) (C.1.2.2.2.2 _ hlk) hd hR, C.1.2.2.2.2 _ hin, C.1.2.2.2.2 _ hsel⟩ ⟨gk_blind, gk_recv C h1 hb hc, gk_pre hE h1 (fun _ _ h => h)⟩ rfl hn hl.1 rfl (lv_room hW) d ⟨by omega, by omega⟩) kk
/-- a private method of a nest mate -/
theorem gj_cVN (C : gx p m c cc nL s args gW own D vwCl tys A) (hE : gk_E D tys s) (hM : gk l y cw rm D tys (.ref b :: As) f post) (d : decode cc pc = .ok (.invokevirtual index, 3)) (hst : st0 = As.reverse ++ .ref b :: rest) (hcw : cw ∈ gW) (hw : cw = Cond.code y bytes maxL ret) (hNw : Cond.methodLinkNest own index y host ∈ gk_NW) (hini : Cond.initialized y.cls ∈ gW) (hin : Cond.instanceMethod y ∈ gW) (hsel : Cond.selects r.1 y y ∈ gW)
    (hd : y.cls ≠ "java/lang/invoke/MethodHandle" ∧ y.cls ≠ "java/lang/invoke/VarHandle" ∧ (parseMethodDescriptor y.desc).map (fun d => d.parameters.length) = some n) (hn : As.length = n) (hb : f b = some (.inr (ci, fs))) (hc : vwCl[ci]? = some r) (hR : rm.frames + 1 ≤ R.frames ∧ 8 + (maxL + 11) + rm.locals ≤ R.locals) (hW : (rest.map fun v => v.category).sum ≤ 8)
    (h1 : nc + rm.cells ≤ nc0) (h2 : ns + rm.slots ≤ ns0) (kk : ∀ (v : Option Value) (u : gm), post v u → gj p l e R s m args below meth c D vwCl A nL Q u nc ns (pc + 3) lw (v.toList ++ rest)) :
    gj p l e R s m args below meth c D vwCl A nL Q f nc0 ns0 pc lw st0 := by
  subst hst
  exact gj_nc h1 h2 <| gj_call C (fun H locs cells slots ls h1 h2 h3 h4 hl => va_runVN (As := As) (rest := rest) C.1 (hM H.size) ⟨va_cnB n C.1.2.2.2.2 (gW_good hcw) (by rw [hw]) rfl rfl (hE.2.1 _ hNw) (C.1.2.2.2.2 _ hini) hd hR, C.1.2.2.2.2 _ hin, C.1.2.2.2.2 _ hsel⟩ ⟨gk_blind, gk_recv C h1 hb hc, gk_pre hE h1 (fun _ _ h => h)⟩ rfl hn hl.1 rfl (lv_room hW) d ⟨by omega, by omega⟩) kk
/-- invokestatic, of the own class -/
theorem gj_cS (C : gx p m c cc nL s args gW own D vwCl tys A) (hE : gk_E D tys s) (hM : gk l y cw rm D tys As f post) (d : decode cc pc = .ok (.invokestatic index, 3)) (hst : st0 = As.reverse ++ rest) (hcw : cw ∈ gW) (hw : cw = Cond.code y bytes maxL ret) (hlk : Cond.methodLink own index y ∈ gW) (hini : Cond.initialized y.cls ∈ gW) (hstt : Cond.static y ∈ gW)
    (hd : y.cls ≠ "java/lang/invoke/MethodHandle" ∧ y.cls ≠ "java/lang/invoke/VarHandle" ∧ (parseMethodDescriptor y.desc).map (fun d => d.parameters.length) = some n) (hn : As.length = n) (hR : rm.frames + 1 ≤ R.frames ∧ 8 + (maxL + 11) + rm.locals ≤ R.locals) (hW : (rest.map fun v => v.category).sum ≤ 8)
    (h1 : nc + rm.cells ≤ nc0) (h2 : ns + rm.slots ≤ ns0) (kk : ∀ (v : Option Value) (u : gm), post v u → gj p l e R s m args below meth c D vwCl A nL Q u nc ns (pc + 3) lw (v.toList ++ rest)) :
    gj p l e R s m args below meth c D vwCl A nL Q f nc0 ns0 pc lw st0 := by
  subst hst
  exact gj_nc h1 h2 <| gj_call C (fun H locs cells slots ls h1 h2 h3 h4 hl => va_runS (As := As) (rest := rest) C.1 (hM H.size) ⟨callB_of n C.1.2.2.2.2 (gW_good hcw) (by rw [hw]) rfl rfl (C.1.2.2.2.2 _ hini) (C.1.2.2.2.2 _ hlk) hd hR, C.1.2.2.2.2 _ hstt⟩ ⟨gk_blind, gk_pre hE h1 (fun _ _ h => h)⟩ rfl hn hl.1 rfl (lv_room hW) d ⟨by omega, by omega⟩) kk
/-- a private static method of a nest mate -/
theorem gj_cSN (C : gx p m c cc nL s args gW own D vwCl tys A) (hE : gk_E D tys s) (hM : gk l y cw rm D tys As f post) (d : decode cc pc = .ok (.invokestatic index, 3)) (hst : st0 = As.reverse ++ rest) (hcw : cw ∈ gW) (hw : cw = Cond.code y bytes maxL ret) (hNw : Cond.methodLinkNest own index y host ∈ gk_NW) (hini : Cond.initialized y.cls ∈ gW) (hstt : Cond.static y ∈ gW)
    (hd : y.cls ≠ "java/lang/invoke/MethodHandle" ∧ y.cls ≠ "java/lang/invoke/VarHandle" ∧ (parseMethodDescriptor y.desc).map (fun d => d.parameters.length) = some n) (hn : As.length = n) (hR : rm.frames + 1 ≤ R.frames ∧ 8 + (maxL + 11) + rm.locals ≤ R.locals) (hW : (rest.map fun v => v.category).sum ≤ 8)
    (h1 : nc + rm.cells ≤ nc0) (h2 : ns + rm.slots ≤ ns0) (kk : ∀ (v : Option Value) (u : gm), post v u → gj p l e R s m args below meth c D vwCl A nL Q u nc ns (pc + 3) lw (v.toList ++ rest)) :
    gj p l e R s m args below meth c D vwCl A nL Q f nc0 ns0 pc lw st0 := by
  subst hst
  exact gj_nc h1 h2 <| gj_call C (fun H locs cells slots ls h1 h2 h3 h4 hl => va_runSN (As := As) (rest := rest) C.1 (hM H.size) ⟨va_cnB n C.1.2.2.2.2 (gW_good hcw) (by rw [hw]) rfl rfl (hE.2.1 _ hNw) (C.1.2.2.2.2 _ hini) hd hR, C.1.2.2.2.2 _ hstt, trivial⟩ ⟨gk_blind, gk_pre hE h1 (fun _ _ h => h)⟩ rfl hn hl.1 rfl (lv_room hW) d ⟨by omega, by omega⟩) kk
/-- a private constructor of a nest mate -/
theorem gj_cIN (C : gx p m c cc nL s args gW own D vwCl tys A) (hE : gk_E D tys s) (hM : gk l y cw rm D tys (.ref b :: As) f post) (d : decode cc pc = .ok (.invokespecial index, 3)) (hst : st0 = As.reverse ++ .ref b :: rest) (hcw : cw ∈ gW) (hw : cw = Cond.code y bytes maxL none) (hNw : Cond.methodLinkNest own index y host ∈ gk_NW) (hini : Cond.initialized y.cls ∈ gW) (hin : Cond.instanceMethod y ∈ gW) (hy1 : y.name = "<init>")
    (hd : y.cls ≠ "java/lang/invoke/MethodHandle" ∧ y.cls ≠ "java/lang/invoke/VarHandle" ∧ (parseMethodDescriptor y.desc).map (fun d => d.parameters.length) = some n) (hn : As.length = n) (hR : rm.frames + 1 ≤ R.frames ∧ 8 + (maxL + 11) + rm.locals ≤ R.locals) (hW : (rest.map fun v => v.category).sum ≤ 8)
    (h1 : nc + rm.cells ≤ nc0) (h2 : ns + rm.slots ≤ ns0) (kk : ∀ (v : Option Value) (u : gm), post v u → gj p l e R s m args below meth c D vwCl A nL Q u nc ns (pc + 3) lw (v.toList ++ rest)) :
    gj p l e R s m args below meth c D vwCl A nL Q f nc0 ns0 pc lw st0 := by
  subst hst
  exact gj_nc h1 h2 <| gj_call C (fun H locs cells slots ls h1 h2 h3 h4 hl => va_runIN (As := As) (rest := rest) C.1 (hM H.size) ⟨va_cnB n C.1.2.2.2.2 (gW_good hcw) (by rw [hw]) rfl rfl (hE.2.1 _ hNw) (C.1.2.2.2.2 _ hini) hd hR, hy1, C.1.2.2.2.2 _ hin⟩ ⟨gk_blind, gk_pre hE h1 (fun _ _ h => h)⟩ rfl hn hl.1 rfl (lv_room hW) d ⟨by omega, by omega⟩) kk
/-- a constructor -/
theorem gj_cI (C : gx p m c cc nL s args gW own D vwCl tys A) (hE : gk_E D tys s) (hM : gk l y cw rm D tys (.ref b :: As) f post) (d : decode cc pc = .ok (.invokespecial index, 3)) (hst : st0 = As.reverse ++ .ref b :: rest) (hcw : cw ∈ gW) (hw : cw = Cond.code y bytes maxL none) (hlk : Cond.methodLink own index y ∈ gW) (hini : Cond.initialized y.cls ∈ gW) (hin : Cond.instanceMethod y ∈ gW) (hy1 : y.name = "<init>")
    (hd : y.cls ≠ "java/lang/invoke/MethodHandle" ∧ y.cls ≠ "java/lang/invoke/VarHandle" ∧ (parseMethodDescriptor y.desc).map (fun d => d.parameters.length) = some n) (hn : As.length = n) (hR : rm.frames + 1 ≤ R.frames ∧ 8 + (maxL + 11) + rm.locals ≤ R.locals) (hW : (rest.map fun v => v.category).sum ≤ 8)
    (h1 : nc + rm.cells ≤ nc0) (h2 : ns + rm.slots ≤ ns0) (kk : ∀ (v : Option Value) (u : gm), post v u → gj p l e R s m args below meth c D vwCl A nL Q u nc ns (pc + 3) lw (v.toList ++ rest)) :
    gj p l e R s m args below meth c D vwCl A nL Q f nc0 ns0 pc lw st0 := by
  subst hst
  exact gj_nc h1 h2 <| gj_call C (fun H locs cells slots ls h1 h2 h3 h4 hl => va_runI (As := As) (rest := rest) C.1 (hM H.size) (cwI n C.1.2.2.2.2 (gW_good hcw) (by rw [hw]) rfl rfl (C.1.2.2.2.2 _ hini) (C.1.2.2.2.2 _ hlk) (C.1.2.2.2.2 _ hin) hy1 hd hR) ⟨gk_blind, gk_pre hE h1 (fun _ _ h => h)⟩ rfl hn hl.1 rfl (lv_room hW) d ⟨by omega, by omega⟩) kk
theorem gj_st {st' : List Value} (h : st = st') (kk : gj p l e R s m args below meth c D vwCl A nL Q f nc ns pc lw st') : gj p l e R s m args below meth c D vwCl A nL Q f nc ns pc lw st := h ▸ kk
theorem gj_rt {v w : Option Value} {u : gm} {st' : List Value} (hv : v = w) (hu : u = f) (hst : w.toList ++ rest = st') (kk : gj p l e R s m args below meth c D vwCl A nL Q f nc ns pc lw st') : gj p l e R s m args below meth c D vwCl A nL Q u nc ns pc lw (v.toList ++ rest) := by
  subst hv; subst hu; subst hst; exact kk
end GK
theorem gm_ne {f : gm} {a b : Nat} {x y : va_E} (ha : f a = some x) (hb : f b = some y) (h : x ≠ y) : a ≠ b := fun e => h (Option.some.inj (ha.symm.trans (e ▸ hb)))
/-- a method's room: its level, what it makes -/
def rmk (k c s : Nat) : Room := { frames := k + 1, cells := c, slots := s, locals := 20 + 33 * k }
end
section
/-! What the two classes have in common: rectangles and what a call asks of them. -/
abbrev Rc : Type := Int32 × Int32 × Int32 × Int32 × Int32
abbrev En : Type := Rc × Int32
def bI (b : Bool) : Int32 := if b then 1 else 0
theorem bI_t {p : Prop} [Decidable p] (h : p) : bI (decide p) = 1 := by simp [bI, h]
theorem bI_f {p : Prop} [Decidable p] (h : ¬ p) : bI (decide p) = 0 := by simp [bI, h]
theorem bI_n (b : Bool) : narrow .boolean (.int (bI b)) = .int (bI b) := by cases b <;> decide +kernel
theorem bI_0 {b : Bool} : bI b = 0 ↔ b = false := by cases b <;> simp [bI]
theorem bI_p0 {p : Prop} [Decidable p] (h : bI (decide p) = 0) : ¬ p := by simpa [bI_0] using h
theorem bI_p1 {p : Prop} [Decidable p] (h : ¬ bI (decide p) = 0) : p := by simpa [bI_0] using h
theorem nz_0 : narrow .boolean (.int 0) = .int 0 := by decide +kernel
theorem nz_1 : narrow .boolean (.int 1) = .int 1 := by decide +kernel
theorem i_le {x y : Int32} : x ≤ y ↔ x.toInt ≤ y.toInt := Int32.le_iff_toInt_le
theorem i_lt {x y : Int32} : x < y ↔ x.toInt < y.toInt := Int32.lt_iff_toInt_lt
theorem i_eq {x y : Int32} : x = y ↔ x.toInt = y.toInt := Int32.toInt_inj.symm
theorem t_0 : (0 : Int32).toInt = 0 := by decide +kernel
theorem t_1 : (1 : Int32).toInt = 1 := by decide +kernel
theorem t_5 : (5 : Int32).toInt = 5 := by decide +kernel
theorem t_7 : (7 : Int32).toInt = 7 := by decide +kernel
theorem t_8 : (8 : Int32).toInt = 8 := by decide +kernel
theorem t_16383 : (16383 : Int32).toInt = 16383 := by decide +kernel
theorem t_16384 : (16384 : Int32).toInt = 16384 := by decide +kernel
theorem t_32768 : (32768 : Int32).toInt = 32768 := by decide +kernel
theorem t_1048576 : (1048576 : Int32).toInt = 1048576 := by decide +kernel
abbrev ll (cs : Bool) : Int32 := if cs then 16384 else 1048576
abbrev vs (sh : Int32) : Prop := 0 ≤ sh ∧ sh < 8
abbrev vl (cs : Bool) (x : Int32) : Prop := 1 ≤ x ∧ x ≤ ll cs
abbrev vc (sh r c : Int32) : Prop := vs sh ∧ vl false r ∧ vl true c
abbrev vn (sh : Int32) (cs : Bool) (at0 n : Int32) : Prop := vs sh ∧ vl cs at0 ∧ 1 ≤ n ∧ n ≤ 16384
abbrev rF (cs : Bool) (r : Rc) : Int32 := if cs then r.2.2.1 else r.2.1
abbrev rL (cs : Bool) (r : Rc) : Int32 := if cs then r.2.2.2.2 else r.2.2.2.1
abbrev rS (cs : Bool) (a b : Int32) (r : Rc) : Rc := if cs then (r.1, r.2.1, a, r.2.2.2.1, b) else (r.1, a, r.2.2.1, b, r.2.2.2.2)
abbrev rM (sh dr dc : Int32) (r : Rc) : Rc := (sh, r.2.1 + dr, r.2.2.1 + dc, r.2.2.2.1 + dr, r.2.2.2.2 + dc)
abbrev rMeet (a b : Rc) : Prop := a.1 = b.1 ∧ a.2.1 ≤ b.2.2.2.1 ∧ b.2.1 ≤ a.2.2.2.1 ∧ a.2.2.1 ≤ b.2.2.2.2 ∧ b.2.2.1 ≤ a.2.2.2.2
abbrev rIn (a b : Rc) : Prop := a.1 = b.1 ∧ b.2.1 ≤ a.2.1 ∧ a.2.2.2.1 ≤ b.2.2.2.1 ∧ b.2.2.1 ≤ a.2.2.1 ∧ a.2.2.2.2 ≤ b.2.2.2.2
abbrev rY (sh : Int32) (cs : Bool) (r : Rc) : Prop := r.1 = sh ∧ ¬ (rF cs r = 1 ∧ rL cs r = ll cs)
/-- the cells of an Area and of an Entry -/
abbrev cAr (r : Rc) : va_E := .inr (0, [.int r.1, .int r.2.1, .int r.2.2.1, .int r.2.2.2.1, .int r.2.2.2.2])
abbrev cEn (a : Nat) (w : Int32) : va_E := .inr (1, [.ref a, .int w])
theorem gm_up_up {f : gm} {a : Nat} {x y : va_E} : gm_up (gm_up f a x) a y = gm_up f a y := by
  funext q
  unfold gm_up
  by_cases h : q = a <;> simp [h]
theorem dfX0 : ∀ j, j < 5 → defaultValue (tyX0 j) = vp_V [.int 0, .int 0, .int 0, .int 0, .int 0] j := fun j hj => by rcases (show j = 0 ∨ j = 1 ∨ j = 2 ∨ j = 3 ∨ j = 4 by omega) with rfl | rfl | rfl | rfl | rfl <;> rfl
theorem dfX1 : ∀ j, j < 2 → defaultValue (tyX1 j) = vp_V [.null, .int 0] j := fun j hj => by rcases (show j = 0 ∨ j = 1 by omega) with rfl | rfl <;> rfl
theorem dfX2 : ∀ j, j < 5 → defaultValue (tyX2 j) = vp_V [.null, .null, .int 0, .null, .int 0] j := fun j hj => by rcases (show j = 0 ∨ j = 1 ∨ j = 2 ∨ j = 3 ∨ j = 4 by omega) with rfl | rfl | rfl | rfl | rfl <;> rfl
theorem dfX3 : ∀ j, j < 17 → defaultValue (tyX3 j) = vp_V [.int 0, .null, .null, .null, .null, .null, .null, .null, .int 0, .int 0, .int 0, .int 0, .int 0, .int 0, .int 0, .int 0, .null] j := fun j hj => by rcases (show j = 0 ∨ j = 1 ∨ j = 2 ∨ j = 3 ∨ j = 4 ∨ j = 5 ∨ j = 6 ∨ j = 7 ∨ j = 8 ∨ j = 9 ∨ j = 10 ∨ j = 11 ∨ j = 12 ∨ j = 13 ∨ j = 14 ∨ j = 15 ∨ j = 16 by omega) with rfl | rfl | rfl | rfl | rfl | rfl | rfl | rfl | rfl | rfl | rfl | rfl | rfl | rfl | rfl | rfl | rfl <;> rfl
end
section
/-! RangeReaders: its static methods; Area: all of it. By gen/m11.py. -/
set_option maxRecDepth 100000 in
set_option maxHeartbeats 4000000 in
theorem k_isSheet (l : Launch) (D : va_G) (tys : List (ClassId × FieldType)) (f : gm) (sh : Int32) : gk l yX2_isSheet (.code yX2_isSheet cX2_isSheet 1 (Option.some Jvm.ClassFile.FieldType.boolean)) (rmk 0 0 0) D tys [.int sh] f (fun v u => v = some (.int (bI (decide (vs sh)))) ∧ u = f) := by
  refine gk_of [some (.int sh)] (by decide) rfl (Nat.le_of_ble_eq_true rfl) rfl ?_
  intro p e s m args below meth c A C hV hr hlk hnm
  refine gj_iload_n C dX2_isSheet_0 rfl ?_
  refine gj_if_lt (tgt := 14) C dX2_isSheet_1 (by decide) (fun c1 => ?_) (fun c1 => ?_)
  · refine gj_iconst (v := 0) C dX2_isSheet_14 (by decide) ?_
    exact gj_zret C hr hlk dX2_isSheet_15 nz_0 (⟨congrArg (fun z => some (Value.int z)) (bI_f (by revert c1; simp only [i_le, i_lt, i_eq, t_0, t_1, t_5, t_7, t_8, t_16383, t_16384, t_32768, t_1048576, vs, vl, vc, vn, ll, rF, rL, rMeet, rIn, rY, if_true, if_false, Bool.false_eq_true, ite_true, ite_false, reduceIte]; (try intros); omega)).symm, rfl⟩)
  · refine gj_iload_n C dX2_isSheet_4 rfl ?_
    refine gj_bipush (v := 8) C dX2_isSheet_5 (by decide) ?_
    refine gj_icmp_ge (tgt := 14) C dX2_isSheet_7 (by decide) (fun c2 => ?_) (fun c2 => ?_)
    · refine gj_iconst (v := 0) C dX2_isSheet_14 (by decide) ?_
      exact gj_zret C hr hlk dX2_isSheet_15 nz_0 (⟨congrArg (fun z => some (Value.int z)) (bI_f (by revert c1 c2; simp only [i_le, i_lt, i_eq, t_0, t_1, t_5, t_7, t_8, t_16383, t_16384, t_32768, t_1048576, vs, vl, vc, vn, ll, rF, rL, rMeet, rIn, rY, if_true, if_false, Bool.false_eq_true, ite_true, ite_false, reduceIte]; (try intros); omega)).symm, rfl⟩)
    · refine gj_iconst (v := 1) C dX2_isSheet_10 (by decide) ?_
      refine gj_goto (tgt := 15) C dX2_isSheet_11 (by decide) ?_
      exact gj_zret C hr hlk dX2_isSheet_15 nz_1 (⟨congrArg (fun z => some (Value.int z)) (bI_t (by revert c1 c2; simp only [i_le, i_lt, i_eq, t_0, t_1, t_5, t_7, t_8, t_16383, t_16384, t_32768, t_1048576, vs, vl, vc, vn, ll, rF, rL, rMeet, rIn, rY, if_true, if_false, Bool.false_eq_true, ite_true, ite_false, reduceIte]; (try intros); omega)).symm, rfl⟩)
set_option maxRecDepth 100000 in
set_option maxHeartbeats 4000000 in
theorem k_lastLine (l : Launch) (D : va_G) (tys : List (ClassId × FieldType)) (f : gm) (cs : Bool) : gk l yX2_lastLine (.code yX2_lastLine cX2_lastLine 1 (Option.some Jvm.ClassFile.FieldType.int)) (rmk 0 0 0) D tys [.int (bI cs)] f (fun v u => v = some (.int (ll cs)) ∧ u = f) := by
  refine gk_of [some (.int (bI cs))] (by decide) rfl (Nat.le_of_ble_eq_true rfl) rfl ?_
  intro p e s m args below meth c A C hV hr hlk hnm
  cases cs
  · refine gj_iload_n C dX2_lastLine_0 rfl ?_
    refine gj_if_eqT (tgt := 10) C dX2_lastLine_1 (by decide) rfl ?_
    refine gj_ldc (v := 1048576) C dX2_lastLine_10 w_54 ?_
    exact gj_iret C hr hlk dX2_lastLine_12 (⟨rfl, rfl⟩)
  · refine gj_iload_n C dX2_lastLine_0 rfl ?_
    refine gj_if_eqF (tgt := 10) C dX2_lastLine_1 (by decide) (by decide) ?_
    refine gj_sipush (v := 16384) C dX2_lastLine_4 (by decide) ?_
    refine gj_goto (tgt := 12) C dX2_lastLine_7 (by decide) ?_
    exact gj_iret C hr hlk dX2_lastLine_12 (⟨rfl, rfl⟩)
set_option maxRecDepth 100000 in
set_option maxHeartbeats 4000000 in
theorem k_isLine (l : Launch) (D : va_G) (tys : List (ClassId × FieldType)) (f : gm) (cs : Bool) (x : Int32) : gk l yX2_isLine (.code yX2_isLine cX2_isLine 2 (Option.some Jvm.ClassFile.FieldType.boolean)) (rmk 1 0 0) D tys [.int (bI cs), .int x] f (fun v u => v = some (.int (bI (decide (vl cs x)))) ∧ u = f) := by
  refine gk_of [some (.int (bI cs)), some (.int x)] (by decide) rfl (Nat.le_of_ble_eq_true rfl) rfl ?_
  intro p e s m args below meth c A C hV hr hlk hnm
  refine gj_iload_n C dX2_isLine_0 rfl ?_
  refine gj_iconst (v := 1) C dX2_isLine_1 (by decide) ?_
  refine gj_icmp_lt (tgt := 17) C dX2_isLine_2 (by decide) (fun c1 => ?_) (fun c1 => ?_)
  · refine gj_iconst (v := 0) C dX2_isLine_17 (by decide) ?_
    exact gj_zret C hr hlk dX2_isLine_18 nz_0 (⟨congrArg (fun z => some (Value.int z)) (bI_f (by revert c1; simp only [i_le, i_lt, i_eq, t_0, t_1, t_5, t_7, t_8, t_16383, t_16384, t_32768, t_1048576, vs, vl, vc, vn, ll, rF, rL, rMeet, rIn, rY, if_true, if_false, Bool.false_eq_true, ite_true, ite_false, reduceIte]; (try intros); omega)).symm, rfl⟩)
  · refine gj_iload_n C dX2_isLine_5 rfl ?_
    refine gj_iload_n C dX2_isLine_6 rfl ?_
    refine gj_cS (As := [.int (bI cs)]) (rest := [.int x]) (nc := 0) (ns := 0) C hV (k_lastLine l D tys f cs) dX2_isLine_7 rfl w_53 rfl w_51 w_1 w_52 hd_X2_lastLine rfl ⟨Nat.le_of_ble_eq_true rfl, Nat.le_of_ble_eq_true rfl⟩ (Nat.le_of_ble_eq_true rfl) (by decide) (by decide) (fun v u hp2 => ?_)
    refine gj_rt (st' := [.int (ll cs), .int x]) hp2.1 hp2.2 rfl ?_
    refine gj_icmp_gt (tgt := 17) C dX2_isLine_10 (by decide) (fun c3 => ?_) (fun c3 => ?_)
    · refine gj_iconst (v := 0) C dX2_isLine_17 (by decide) ?_
      exact gj_zret C hr hlk dX2_isLine_18 nz_0 (⟨congrArg (fun z => some (Value.int z)) (bI_f (by revert c1 c3; simp only [i_le, i_lt, i_eq, t_0, t_1, t_5, t_7, t_8, t_16383, t_16384, t_32768, t_1048576, vs, vl, vc, vn, ll, rF, rL, rMeet, rIn, rY, if_true, if_false, Bool.false_eq_true, ite_true, ite_false, reduceIte]; (try intros); omega)).symm, rfl⟩)
    · refine gj_iconst (v := 1) C dX2_isLine_13 (by decide) ?_
      refine gj_goto (tgt := 18) C dX2_isLine_14 (by decide) ?_
      exact gj_zret C hr hlk dX2_isLine_18 nz_1 (⟨congrArg (fun z => some (Value.int z)) (bI_t (by revert c1 c3; simp only [i_le, i_lt, i_eq, t_0, t_1, t_5, t_7, t_8, t_16383, t_16384, t_32768, t_1048576, vs, vl, vc, vn, ll, rF, rL, rMeet, rIn, rY, if_true, if_false, Bool.false_eq_true, ite_true, ite_false, reduceIte]; (try intros); omega)).symm, rfl⟩)
set_option maxRecDepth 100000 in
set_option maxHeartbeats 4000000 in
theorem k_isCell (l : Launch) (D : va_G) (tys : List (ClassId × FieldType)) (f : gm) (sh rw co : Int32) : gk l yX2_isCell (.code yX2_isCell cX2_isCell 3 (Option.some Jvm.ClassFile.FieldType.boolean)) (rmk 2 0 0) D tys [.int sh, .int rw, .int co] f (fun v u => v = some (.int (bI (decide (vc sh rw co)))) ∧ u = f) := by
  refine gk_of [some (.int sh), some (.int rw), some (.int co)] (by decide) rfl (Nat.le_of_ble_eq_true rfl) rfl ?_
  intro p e s m args below meth c A C hV hr hlk hnm
  refine gj_iload_n C dX2_isCell_0 rfl ?_
  refine gj_cS (As := [.int sh]) (rest := []) (nc := 0) (ns := 0) C hV (k_isSheet l D tys f sh) dX2_isCell_1 rfl w_47 rfl w_45 w_1 w_46 hd_X2_isSheet rfl ⟨Nat.le_of_ble_eq_true rfl, Nat.le_of_ble_eq_true rfl⟩ (Nat.le_of_ble_eq_true rfl) (by decide) (by decide) (fun v u hp1 => ?_)
  refine gj_rt (st' := [.int (bI (decide (vs sh)))]) hp1.1 hp1.2 rfl ?_
  refine gj_if_eq (tgt := 27) C dX2_isCell_4 (by decide) (fun c2 => ?_) (fun c2 => ?_)
  · refine gj_iconst (v := 0) C dX2_isCell_27 (by decide) ?_
    exact gj_zret C hr hlk dX2_isCell_28 nz_0 (⟨congrArg (fun z => some (Value.int z)) (bI_f (by have qc2 := bI_p0 c2; revert qc2; simp only [i_le, i_lt, i_eq, t_0, t_1, t_5, t_7, t_8, t_16383, t_16384, t_32768, t_1048576, vs, vl, vc, vn, ll, rF, rL, rMeet, rIn, rY, if_true, if_false, Bool.false_eq_true, ite_true, ite_false, reduceIte]; (try intros); omega)).symm, rfl⟩)
  · refine gj_iconst (v := 0) C dX2_isCell_7 (by decide) ?_
    refine gj_iload_n C dX2_isCell_8 rfl ?_
    refine gj_cS (As := [.int 0, .int rw]) (rest := []) (nc := 0) (ns := 0) C hV (k_isLine l D tys f false rw) dX2_isCell_9 rfl w_50 rfl w_48 w_1 w_49 hd_X2_isLine rfl ⟨Nat.le_of_ble_eq_true rfl, Nat.le_of_ble_eq_true rfl⟩ (Nat.le_of_ble_eq_true rfl) (by decide) (by decide) (fun v u hp3 => ?_)
    refine gj_rt (st' := [.int (bI (decide (vl false rw)))]) hp3.1 hp3.2 rfl ?_
    refine gj_if_eq (tgt := 27) C dX2_isCell_12 (by decide) (fun c4 => ?_) (fun c4 => ?_)
    · refine gj_iconst (v := 0) C dX2_isCell_27 (by decide) ?_
      exact gj_zret C hr hlk dX2_isCell_28 nz_0 (⟨congrArg (fun z => some (Value.int z)) (bI_f (by have qc2 := bI_p1 c2; have qc4 := bI_p0 c4; revert qc2 qc4; simp only [i_le, i_lt, i_eq, t_0, t_1, t_5, t_7, t_8, t_16383, t_16384, t_32768, t_1048576, vs, vl, vc, vn, ll, rF, rL, rMeet, rIn, rY, if_true, if_false, Bool.false_eq_true, ite_true, ite_false, reduceIte]; (try intros); omega)).symm, rfl⟩)
    · refine gj_iconst (v := 1) C dX2_isCell_15 (by decide) ?_
      refine gj_iload_n C dX2_isCell_16 rfl ?_
      refine gj_cS (As := [.int 1, .int co]) (rest := []) (nc := 0) (ns := 0) C hV (k_isLine l D tys f true co) dX2_isCell_17 rfl w_50 rfl w_48 w_1 w_49 hd_X2_isLine rfl ⟨Nat.le_of_ble_eq_true rfl, Nat.le_of_ble_eq_true rfl⟩ (Nat.le_of_ble_eq_true rfl) (by decide) (by decide) (fun v u hp5 => ?_)
      refine gj_rt (st' := [.int (bI (decide (vl true co)))]) hp5.1 hp5.2 rfl ?_
      refine gj_if_eq (tgt := 27) C dX2_isCell_20 (by decide) (fun c6 => ?_) (fun c6 => ?_)
      · refine gj_iconst (v := 0) C dX2_isCell_27 (by decide) ?_
        exact gj_zret C hr hlk dX2_isCell_28 nz_0 (⟨congrArg (fun z => some (Value.int z)) (bI_f (by have qc2 := bI_p1 c2; have qc4 := bI_p1 c4; have qc6 := bI_p0 c6; revert qc2 qc4 qc6; simp only [i_le, i_lt, i_eq, t_0, t_1, t_5, t_7, t_8, t_16383, t_16384, t_32768, t_1048576, vs, vl, vc, vn, ll, rF, rL, rMeet, rIn, rY, if_true, if_false, Bool.false_eq_true, ite_true, ite_false, reduceIte]; (try intros); omega)).symm, rfl⟩)
      · refine gj_iconst (v := 1) C dX2_isCell_23 (by decide) ?_
        refine gj_goto (tgt := 28) C dX2_isCell_24 (by decide) ?_
        exact gj_zret C hr hlk dX2_isCell_28 nz_1 (⟨congrArg (fun z => some (Value.int z)) (bI_t (by have qc2 := bI_p1 c2; have qc4 := bI_p1 c4; have qc6 := bI_p1 c6; revert qc2 qc4 qc6; simp only [i_le, i_lt, i_eq, t_0, t_1, t_5, t_7, t_8, t_16383, t_16384, t_32768, t_1048576, vs, vl, vc, vn, ll, rF, rL, rMeet, rIn, rY, if_true, if_false, Bool.false_eq_true, ite_true, ite_false, reduceIte]; (try intros); omega)).symm, rfl⟩)
set_option maxRecDepth 100000 in
set_option maxHeartbeats 4000000 in
theorem k_areLines (l : Launch) (D : va_G) (tys : List (ClassId × FieldType)) (f : gm) (sh : Int32) (cs : Bool) (x n : Int32) : gk l yX2_areLines (.code yX2_areLines cX2_areLines 4 (Option.some Jvm.ClassFile.FieldType.boolean)) (rmk 2 0 0) D tys [.int sh, .int (bI cs), .int x, .int n] f (fun v u => v = some (.int (bI (decide (vn sh cs x n)))) ∧ u = f) := by
  refine gk_of [some (.int sh), some (.int (bI cs)), some (.int x), some (.int n)] (by decide) rfl (Nat.le_of_ble_eq_true rfl) rfl ?_
  intro p e s m args below meth c A C hV hr hlk hnm
  refine gj_iload_n C dX2_areLines_0 rfl ?_
  refine gj_cS (As := [.int sh]) (rest := []) (nc := 0) (ns := 0) C hV (k_isSheet l D tys f sh) dX2_areLines_1 rfl w_47 rfl w_45 w_1 w_46 hd_X2_isSheet rfl ⟨Nat.le_of_ble_eq_true rfl, Nat.le_of_ble_eq_true rfl⟩ (Nat.le_of_ble_eq_true rfl) (by decide) (by decide) (fun v u hp1 => ?_)
  refine gj_rt (st' := [.int (bI (decide (vs sh)))]) hp1.1 hp1.2 rfl ?_
  refine gj_if_eq (tgt := 31) C dX2_areLines_4 (by decide) (fun c2 => ?_) (fun c2 => ?_)
  · refine gj_iconst (v := 0) C dX2_areLines_31 (by decide) ?_
    exact gj_zret C hr hlk dX2_areLines_32 nz_0 (⟨congrArg (fun z => some (Value.int z)) (bI_f (by have qc2 := bI_p0 c2; revert qc2; simp only [i_le, i_lt, i_eq, t_0, t_1, t_5, t_7, t_8, t_16383, t_16384, t_32768, t_1048576, vs, vl, vc, vn, ll, rF, rL, rMeet, rIn, rY, if_true, if_false, Bool.false_eq_true, ite_true, ite_false, reduceIte]; (try intros); omega)).symm, rfl⟩)
  · refine gj_iload_n C dX2_areLines_7 rfl ?_
    refine gj_iload_n C dX2_areLines_8 rfl ?_
    refine gj_cS (As := [.int (bI cs), .int x]) (rest := []) (nc := 0) (ns := 0) C hV (k_isLine l D tys f cs x) dX2_areLines_9 rfl w_50 rfl w_48 w_1 w_49 hd_X2_isLine rfl ⟨Nat.le_of_ble_eq_true rfl, Nat.le_of_ble_eq_true rfl⟩ (Nat.le_of_ble_eq_true rfl) (by decide) (by decide) (fun v u hp3 => ?_)
    refine gj_rt (st' := [.int (bI (decide (vl cs x)))]) hp3.1 hp3.2 rfl ?_
    refine gj_if_eq (tgt := 31) C dX2_areLines_12 (by decide) (fun c4 => ?_) (fun c4 => ?_)
    · refine gj_iconst (v := 0) C dX2_areLines_31 (by decide) ?_
      exact gj_zret C hr hlk dX2_areLines_32 nz_0 (⟨congrArg (fun z => some (Value.int z)) (bI_f (by have qc2 := bI_p1 c2; have qc4 := bI_p0 c4; revert qc2 qc4; simp only [i_le, i_lt, i_eq, t_0, t_1, t_5, t_7, t_8, t_16383, t_16384, t_32768, t_1048576, vs, vl, vc, vn, ll, rF, rL, rMeet, rIn, rY, if_true, if_false, Bool.false_eq_true, ite_true, ite_false, reduceIte]; (try intros); omega)).symm, rfl⟩)
    · refine gj_iload_n C dX2_areLines_15 rfl ?_
      refine gj_iconst (v := 1) C dX2_areLines_16 (by decide) ?_
      refine gj_icmp_lt (tgt := 31) C dX2_areLines_17 (by decide) (fun c5 => ?_) (fun c5 => ?_)
      · refine gj_iconst (v := 0) C dX2_areLines_31 (by decide) ?_
        exact gj_zret C hr hlk dX2_areLines_32 nz_0 (⟨congrArg (fun z => some (Value.int z)) (bI_f (by have qc2 := bI_p1 c2; have qc4 := bI_p1 c4; revert qc2 qc4 c5; simp only [i_le, i_lt, i_eq, t_0, t_1, t_5, t_7, t_8, t_16383, t_16384, t_32768, t_1048576, vs, vl, vc, vn, ll, rF, rL, rMeet, rIn, rY, if_true, if_false, Bool.false_eq_true, ite_true, ite_false, reduceIte]; (try intros); omega)).symm, rfl⟩)
      · refine gj_iload_n C dX2_areLines_20 rfl ?_
        refine gj_sipush (v := 16384) C dX2_areLines_21 (by decide) ?_
        refine gj_icmp_gt (tgt := 31) C dX2_areLines_24 (by decide) (fun c6 => ?_) (fun c6 => ?_)
        · refine gj_iconst (v := 0) C dX2_areLines_31 (by decide) ?_
          exact gj_zret C hr hlk dX2_areLines_32 nz_0 (⟨congrArg (fun z => some (Value.int z)) (bI_f (by have qc2 := bI_p1 c2; have qc4 := bI_p1 c4; revert qc2 qc4 c5 c6; simp only [i_le, i_lt, i_eq, t_0, t_1, t_5, t_7, t_8, t_16383, t_16384, t_32768, t_1048576, vs, vl, vc, vn, ll, rF, rL, rMeet, rIn, rY, if_true, if_false, Bool.false_eq_true, ite_true, ite_false, reduceIte]; (try intros); omega)).symm, rfl⟩)
        · refine gj_iconst (v := 1) C dX2_areLines_27 (by decide) ?_
          refine gj_goto (tgt := 32) C dX2_areLines_28 (by decide) ?_
          exact gj_zret C hr hlk dX2_areLines_32 nz_1 (⟨congrArg (fun z => some (Value.int z)) (bI_t (by have qc2 := bI_p1 c2; have qc4 := bI_p1 c4; revert qc2 qc4 c5 c6; simp only [i_le, i_lt, i_eq, t_0, t_1, t_5, t_7, t_8, t_16383, t_16384, t_32768, t_1048576, vs, vl, vc, vn, ll, rF, rL, rMeet, rIn, rY, if_true, if_false, Bool.false_eq_true, ite_true, ite_false, reduceIte]; (try intros); omega)).symm, rfl⟩)
end
section
/-! Area and Entry. By gen/m12.py. -/
set_option maxRecDepth 100000 in
set_option maxHeartbeats 4000000 in
theorem k_Area_init (l : Launch) (D : va_G) (tys : List (ClassId × FieldType)) (f : gm) (a : Nat) (r : Rc) (x0 x1 x2 x3 x4 : Int32) (h0 : f a = some (.inr (0, [.int x0, .int x1, .int x2, .int x3, .int x4]))) : gk l yX0_init (.code yX0_init cX0_init 6 (Option.none : Option Jvm.ClassFile.FieldType)) (rmk 0 0 0) D tys [.ref a, .int r.1, .int r.2.1, .int r.2.2.1, .int r.2.2.2.1, .int r.2.2.2.2] f (fun v u => v = none ∧ u = gm_up f a (cAr r)) := by
  refine gk_of [some (.ref a), some (.int r.1), some (.int r.2.1), some (.int r.2.2.1), some (.int r.2.2.2.1), some (.int r.2.2.2.2)] (by decide) rfl (Nat.le_of_ble_eq_true rfl) rfl ?_
  intro p e s m args below meth c A C hV hr hlk hnm
  refine gj_aload_n C dX0_init_0 rfl ?_
  refine gj_objInit C dX0_init_1 w_60 w_17 w_18 (Nat.le_of_ble_eq_true rfl) (Nat.le_of_ble_eq_true rfl) ?_
  refine gj_aload_n C dX0_init_4 rfl ?_
  refine gj_iload_n C dX0_init_5 rfl ?_
  refine gj_put C dX0_init_6 h0 rfl inX0 tyX0_ok nmX0 0 (by decide) w_61 rfl rfl rfl (Nat.le_of_ble_eq_true rfl) ?_
  refine gj_aload_n C dX0_init_9 rfl ?_
  refine gj_iload_n C dX0_init_10 rfl ?_
  refine gj_put C dX0_init_11 gm_up_self rfl inX0 tyX0_ok nmX0 1 (by decide) w_63 rfl rfl rfl (Nat.le_of_ble_eq_true rfl) ?_
  refine gj_aload_n C dX0_init_14 rfl ?_
  refine gj_iload_n C dX0_init_15 rfl ?_
  refine gj_put C dX0_init_16 gm_up_self rfl inX0 tyX0_ok nmX0 2 (by decide) w_65 rfl rfl rfl (Nat.le_of_ble_eq_true rfl) ?_
  refine gj_aload_n C dX0_init_19 rfl ?_
  refine gj_iload C dX0_init_20 rfl ?_
  refine gj_put C dX0_init_22 gm_up_self rfl inX0 tyX0_ok nmX0 3 (by decide) w_67 rfl rfl rfl (Nat.le_of_ble_eq_true rfl) ?_
  refine gj_aload_n C dX0_init_25 rfl ?_
  refine gj_iload C dX0_init_26 rfl ?_
  refine gj_put C dX0_init_28 gm_up_self rfl inX0 tyX0_ok nmX0 4 (by decide) w_69 rfl rfl rfl (Nat.le_of_ble_eq_true rfl) ?_
  exact gj_vret C hr hlk dX0_init_31 (⟨rfl, by simp only [gm_up_up] <;> rfl⟩)
set_option maxRecDepth 100000 in
set_option maxHeartbeats 4000000 in
theorem k_Entry_init (l : Launch) (D : va_G) (tys : List (ClassId × FieldType)) (f : gm) (a b : Nat) (wo x1 : Int32) (h0 : f a = some (.inr (1, [.null, .int x1]))) : gk l yX1_init (.code yX1_init cX1_init 3 (Option.none : Option Jvm.ClassFile.FieldType)) (rmk 0 0 0) D tys [.ref a, .ref b, .int wo] f (fun v u => v = none ∧ u = gm_up f a (cEn b wo)) := by
  refine gk_of [some (.ref a), some (.ref b), some (.int wo)] (by decide) rfl (Nat.le_of_ble_eq_true rfl) rfl ?_
  intro p e s m args below meth c A C hV hr hlk hnm
  refine gj_aload_n C dX1_init_0 rfl ?_
  refine gj_objInit C dX1_init_1 w_225 w_17 w_18 (Nat.le_of_ble_eq_true rfl) (Nat.le_of_ble_eq_true rfl) ?_
  refine gj_aload_n C dX1_init_4 rfl ?_
  refine gj_aload_n C dX1_init_5 rfl ?_
  refine gj_putF C dX1_init_6 h0 rfl inX1 tyX1_ok nmX1 0 (by decide) w_226 rfl hnm rfl rfl rfl (Nat.le_of_ble_eq_true rfl) ?_
  refine gj_aload_n C dX1_init_9 rfl ?_
  refine gj_iload_n C dX1_init_10 rfl ?_
  refine gj_putF C dX1_init_11 gm_up_self rfl inX1 tyX1_ok nmX1 1 (by decide) w_228 rfl hnm rfl rfl rfl (Nat.le_of_ble_eq_true rfl) ?_
  exact gj_vret C hr hlk dX1_init_14 (⟨rfl, by simp only [gm_up_up] <;> rfl⟩)
set_option maxRecDepth 100000 in
set_option maxHeartbeats 4000000 in
theorem k_Area_copy (l : Launch) (D : va_G) (tys : List (ClassId × FieldType)) (f : gm) (a : Nat) (r : Rc) (h0 : f a = some (cAr r)) : gk l yX0_copy (.code yX0_copy cX0_copy 1 (Option.some (Jvm.ClassFile.FieldType.object "RangeReaders$Area"))) (rmk 1 1 5) D tys [.ref a] f (fun v u => ∃ q, v = some (.ref q) ∧ f q = none ∧ u = gm_up f q (cAr r)) := by
  refine gk_of [some (.ref a)] (by decide) rfl (Nat.le_of_ble_eq_true rfl) rfl ?_
  intro p e s m args below meth c A C hV hr hlk hnm
  refine gj_new (ci := 0) (nc := 0) (ns := 0) C dX0_copy_0 rfl inX0 tyX0_ok w_220 w_56 w_3 dfX0 (by decide) (by decide) (fun q1 hq1 => ?_)
  refine gj_dup C dX0_copy_3 rfl ?_
  refine gj_aload_n C dX0_copy_4 rfl ?_
  refine gj_get C dX0_copy_5 (gm_up_of h0 hq1) rfl inX0 0 (by decide) w_61 rfl ?_
  refine gj_aload_n C dX0_copy_8 rfl ?_
  refine gj_get C dX0_copy_9 (gm_up_of h0 hq1) rfl inX0 1 (by decide) w_63 rfl ?_
  refine gj_aload_n C dX0_copy_12 rfl ?_
  refine gj_get C dX0_copy_13 (gm_up_of h0 hq1) rfl inX0 2 (by decide) w_65 rfl ?_
  refine gj_aload_n C dX0_copy_16 rfl ?_
  refine gj_get C dX0_copy_17 (gm_up_of h0 hq1) rfl inX0 3 (by decide) w_67 rfl ?_
  refine gj_aload_n C dX0_copy_20 rfl ?_
  refine gj_get C dX0_copy_21 (gm_up_of h0 hq1) rfl inX0 4 (by decide) w_69 rfl ?_
  refine gj_cI (As := [.int r.1, .int r.2.1, .int r.2.2.1, .int r.2.2.2.1, .int r.2.2.2.2]) (rest := [.ref q1]) (nc := 0) (ns := 0) C hV (k_Area_init l D tys (gm_up f q1 (.inr (0, [.int 0, .int 0, .int 0, .int 0, .int 0]))) q1 r 0 0 0 0 0 gm_up_self) dX0_copy_24 rfl w_59 rfl w_221 w_3 w_58 rfl hd_X0_init rfl ⟨Nat.le_of_ble_eq_true rfl, Nat.le_of_ble_eq_true rfl⟩ (Nat.le_of_ble_eq_true rfl) (by decide) (by decide) (fun v u hp2 => ?_)
  refine gj_rt (f := (gm_up f q1 (cAr r))) (st' := [.ref q1]) hp2.1 (hp2.2.trans gm_up_up) rfl ?_
  exact gj_aret C hr hlk dX0_copy_27 (Or.inr ⟨_, rfl⟩) (⟨q1, rfl, hq1, rfl⟩)
set_option maxRecDepth 100000 in
set_option maxHeartbeats 4000000 in
theorem k_Area_first (l : Launch) (D : va_G) (tys : List (ClassId × FieldType)) (f : gm) (a : Nat) (r : Rc) (cs : Bool) (h0 : f a = some (cAr r)) : gk l yX0_first (.code yX0_first cX0_first 2 (Option.some Jvm.ClassFile.FieldType.int)) (rmk 0 0 0) D tys [.ref a, .int (bI cs)] f (fun v u => v = some (.int (rF cs r)) ∧ u = f) := by
  refine gk_of [some (.ref a), some (.int (bI cs))] (by decide) rfl (Nat.le_of_ble_eq_true rfl) rfl ?_
  intro p e s m args below meth c A C hV hr hlk hnm
  cases cs
  · refine gj_iload_n C dX0_first_0 rfl ?_
    refine gj_if_eqT (tgt := 11) C dX0_first_1 (by decide) rfl ?_
    refine gj_aload_n C dX0_first_11 rfl ?_
    refine gj_get C dX0_first_12 h0 rfl inX0 1 (by decide) w_63 rfl ?_
    exact gj_iret C hr hlk dX0_first_15 (⟨rfl, rfl⟩)
  · refine gj_iload_n C dX0_first_0 rfl ?_
    refine gj_if_eqF (tgt := 11) C dX0_first_1 (by decide) (by decide) ?_
    refine gj_aload_n C dX0_first_4 rfl ?_
    refine gj_get C dX0_first_5 h0 rfl inX0 2 (by decide) w_65 rfl ?_
    refine gj_goto (tgt := 15) C dX0_first_8 (by decide) ?_
    exact gj_iret C hr hlk dX0_first_15 (⟨rfl, rfl⟩)
set_option maxRecDepth 100000 in
set_option maxHeartbeats 4000000 in
theorem k_Area_last (l : Launch) (D : va_G) (tys : List (ClassId × FieldType)) (f : gm) (a : Nat) (r : Rc) (cs : Bool) (h0 : f a = some (cAr r)) : gk l yX0_last (.code yX0_last cX0_last 2 (Option.some Jvm.ClassFile.FieldType.int)) (rmk 0 0 0) D tys [.ref a, .int (bI cs)] f (fun v u => v = some (.int (rL cs r)) ∧ u = f) := by
  refine gk_of [some (.ref a), some (.int (bI cs))] (by decide) rfl (Nat.le_of_ble_eq_true rfl) rfl ?_
  intro p e s m args below meth c A C hV hr hlk hnm
  cases cs
  · refine gj_iload_n C dX0_last_0 rfl ?_
    refine gj_if_eqT (tgt := 11) C dX0_last_1 (by decide) rfl ?_
    refine gj_aload_n C dX0_last_11 rfl ?_
    refine gj_get C dX0_last_12 h0 rfl inX0 3 (by decide) w_67 rfl ?_
    exact gj_iret C hr hlk dX0_last_15 (⟨rfl, rfl⟩)
  · refine gj_iload_n C dX0_last_0 rfl ?_
    refine gj_if_eqF (tgt := 11) C dX0_last_1 (by decide) (by decide) ?_
    refine gj_aload_n C dX0_last_4 rfl ?_
    refine gj_get C dX0_last_5 h0 rfl inX0 4 (by decide) w_69 rfl ?_
    refine gj_goto (tgt := 15) C dX0_last_8 (by decide) ?_
    exact gj_iret C hr hlk dX0_last_15 (⟨rfl, rfl⟩)
set_option maxRecDepth 100000 in
set_option maxHeartbeats 4000000 in
theorem k_Area_setLines (l : Launch) (D : va_G) (tys : List (ClassId × FieldType)) (f : gm) (a : Nat) (r : Rc) (cs : Bool) (x y : Int32) (h0 : f a = some (cAr r)) : gk l yX0_setLines (.code yX0_setLines cX0_setLines 4 (Option.none : Option Jvm.ClassFile.FieldType)) (rmk 0 0 0) D tys [.ref a, .int (bI cs), .int x, .int y] f (fun v u => v = none ∧ u = gm_up f a (cAr (rS cs x y r))) := by
  refine gk_of [some (.ref a), some (.int (bI cs)), some (.int x), some (.int y)] (by decide) rfl (Nat.le_of_ble_eq_true rfl) rfl ?_
  intro p e s m args below meth c A C hV hr hlk hnm
  cases cs
  · refine gj_iload_n C dX0_setLines_0 rfl ?_
    refine gj_if_eqT (tgt := 17) C dX0_setLines_1 (by decide) rfl ?_
    refine gj_aload_n C dX0_setLines_17 rfl ?_
    refine gj_iload_n C dX0_setLines_18 rfl ?_
    refine gj_put C dX0_setLines_19 h0 rfl inX0 tyX0_ok nmX0 1 (by decide) w_63 rfl rfl rfl (Nat.le_of_ble_eq_true rfl) ?_
    refine gj_aload_n C dX0_setLines_22 rfl ?_
    refine gj_iload_n C dX0_setLines_23 rfl ?_
    refine gj_put C dX0_setLines_24 gm_up_self rfl inX0 tyX0_ok nmX0 3 (by decide) w_67 rfl rfl rfl (Nat.le_of_ble_eq_true rfl) ?_
    exact gj_vret C hr hlk dX0_setLines_27 (⟨rfl, by simp only [gm_up_up] <;> rfl⟩)
  · refine gj_iload_n C dX0_setLines_0 rfl ?_
    refine gj_if_eqF (tgt := 17) C dX0_setLines_1 (by decide) (by decide) ?_
    refine gj_aload_n C dX0_setLines_4 rfl ?_
    refine gj_iload_n C dX0_setLines_5 rfl ?_
    refine gj_put C dX0_setLines_6 h0 rfl inX0 tyX0_ok nmX0 2 (by decide) w_65 rfl rfl rfl (Nat.le_of_ble_eq_true rfl) ?_
    refine gj_aload_n C dX0_setLines_9 rfl ?_
    refine gj_iload_n C dX0_setLines_10 rfl ?_
    refine gj_put C dX0_setLines_11 gm_up_self rfl inX0 tyX0_ok nmX0 4 (by decide) w_69 rfl rfl rfl (Nat.le_of_ble_eq_true rfl) ?_
    refine gj_goto (tgt := 27) C dX0_setLines_14 (by decide) ?_
    exact gj_vret C hr hlk dX0_setLines_27 (⟨rfl, by simp only [gm_up_up] <;> rfl⟩)
set_option maxRecDepth 100000 in
set_option maxHeartbeats 4000000 in
theorem k_Area_shift (l : Launch) (D : va_G) (tys : List (ClassId × FieldType)) (f : gm) (a : Nat) (r : Rc) (sh dr dc : Int32) (h0 : f a = some (cAr r)) : gk l yX0_shift (.code yX0_shift cX0_shift 4 (Option.none : Option Jvm.ClassFile.FieldType)) (rmk 0 0 0) D tys [.ref a, .int sh, .int dr, .int dc] f (fun v u => v = none ∧ u = gm_up f a (cAr (rM sh dr dc r))) := by
  refine gk_of [some (.ref a), some (.int sh), some (.int dr), some (.int dc)] (by decide) rfl (Nat.le_of_ble_eq_true rfl) rfl ?_
  intro p e s m args below meth c A C hV hr hlk hnm
  refine gj_aload_n C dX0_shift_0 rfl ?_
  refine gj_iload_n C dX0_shift_1 rfl ?_
  refine gj_put C dX0_shift_2 h0 rfl inX0 tyX0_ok nmX0 0 (by decide) w_61 rfl rfl rfl (Nat.le_of_ble_eq_true rfl) ?_
  refine gj_aload_n C dX0_shift_5 rfl ?_
  refine gj_dup C dX0_shift_6 rfl ?_
  refine gj_get C dX0_shift_7 gm_up_self rfl inX0 1 (by decide) w_63 rfl ?_
  refine gj_iload_n C dX0_shift_10 rfl ?_
  refine gj_iadd C dX0_shift_11 ?_
  refine gj_put C dX0_shift_12 gm_up_self rfl inX0 tyX0_ok nmX0 1 (by decide) w_63 rfl rfl rfl (Nat.le_of_ble_eq_true rfl) ?_
  refine gj_aload_n C dX0_shift_15 rfl ?_
  refine gj_dup C dX0_shift_16 rfl ?_
  refine gj_get C dX0_shift_17 gm_up_self rfl inX0 3 (by decide) w_67 rfl ?_
  refine gj_iload_n C dX0_shift_20 rfl ?_
  refine gj_iadd C dX0_shift_21 ?_
  refine gj_put C dX0_shift_22 gm_up_self rfl inX0 tyX0_ok nmX0 3 (by decide) w_67 rfl rfl rfl (Nat.le_of_ble_eq_true rfl) ?_
  refine gj_aload_n C dX0_shift_25 rfl ?_
  refine gj_dup C dX0_shift_26 rfl ?_
  refine gj_get C dX0_shift_27 gm_up_self rfl inX0 2 (by decide) w_65 rfl ?_
  refine gj_iload_n C dX0_shift_30 rfl ?_
  refine gj_iadd C dX0_shift_31 ?_
  refine gj_put C dX0_shift_32 gm_up_self rfl inX0 tyX0_ok nmX0 2 (by decide) w_65 rfl rfl rfl (Nat.le_of_ble_eq_true rfl) ?_
  refine gj_aload_n C dX0_shift_35 rfl ?_
  refine gj_dup C dX0_shift_36 rfl ?_
  refine gj_get C dX0_shift_37 gm_up_self rfl inX0 4 (by decide) w_69 rfl ?_
  refine gj_iload_n C dX0_shift_40 rfl ?_
  refine gj_iadd C dX0_shift_41 ?_
  refine gj_put C dX0_shift_42 gm_up_self rfl inX0 tyX0_ok nmX0 4 (by decide) w_69 rfl rfl rfl (Nat.le_of_ble_eq_true rfl) ?_
  exact gj_vret C hr hlk dX0_shift_45 (⟨rfl, by simp only [gm_up_up] <;> rfl⟩)
set_option maxRecDepth 100000 in
set_option maxHeartbeats 4000000 in
theorem k_Area_meets (l : Launch) (D : va_G) (tys : List (ClassId × FieldType)) (f : gm) (a b : Nat) (r r2 : Rc) (h0 : f a = some (cAr r)) (h1 : f b = some (cAr r2)) : gk l yX0_meets (.code yX0_meets cX0_meets 2 (Option.some Jvm.ClassFile.FieldType.boolean)) (rmk 0 0 0) D tys [.ref a, .ref b] f (fun v u => v = some (.int (bI (decide (rMeet r r2)))) ∧ u = f) := by
  refine gk_of [some (.ref a), some (.ref b)] (by decide) rfl (Nat.le_of_ble_eq_true rfl) rfl ?_
  intro p e s m args below meth c A C hV hr hlk hnm
  refine gj_aload_n C dX0_meets_0 rfl ?_
  refine gj_get C dX0_meets_1 h0 rfl inX0 0 (by decide) w_61 rfl ?_
  refine gj_aload_n C dX0_meets_4 rfl ?_
  refine gj_get C dX0_meets_5 h1 rfl inX0 0 (by decide) w_61 rfl ?_
  refine gj_icmp_ne (tgt := 59) C dX0_meets_8 (by decide) (fun c1 => ?_) (fun c1 => ?_)
  · refine gj_iconst (v := 0) C dX0_meets_59 (by decide) ?_
    exact gj_zret C hr hlk dX0_meets_60 nz_0 (⟨congrArg (fun z => some (Value.int z)) (bI_f (by revert c1; simp only [i_le, i_lt, i_eq, t_0, t_1, t_5, t_7, t_8, t_16383, t_16384, t_32768, t_1048576, vs, vl, vc, vn, ll, rF, rL, rMeet, rIn, rY, if_true, if_false, Bool.false_eq_true, ite_true, ite_false, reduceIte]; (try intros); omega)).symm, rfl⟩)
  · refine gj_aload_n C dX0_meets_11 rfl ?_
    refine gj_get C dX0_meets_12 h0 rfl inX0 1 (by decide) w_63 rfl ?_
    refine gj_aload_n C dX0_meets_15 rfl ?_
    refine gj_get C dX0_meets_16 h1 rfl inX0 3 (by decide) w_67 rfl ?_
    refine gj_icmp_gt (tgt := 59) C dX0_meets_19 (by decide) (fun c2 => ?_) (fun c2 => ?_)
    · refine gj_iconst (v := 0) C dX0_meets_59 (by decide) ?_
      exact gj_zret C hr hlk dX0_meets_60 nz_0 (⟨congrArg (fun z => some (Value.int z)) (bI_f (by revert c1 c2; simp only [i_le, i_lt, i_eq, t_0, t_1, t_5, t_7, t_8, t_16383, t_16384, t_32768, t_1048576, vs, vl, vc, vn, ll, rF, rL, rMeet, rIn, rY, if_true, if_false, Bool.false_eq_true, ite_true, ite_false, reduceIte]; (try intros); omega)).symm, rfl⟩)
    · refine gj_aload_n C dX0_meets_22 rfl ?_
      refine gj_get C dX0_meets_23 h1 rfl inX0 1 (by decide) w_63 rfl ?_
      refine gj_aload_n C dX0_meets_26 rfl ?_
      refine gj_get C dX0_meets_27 h0 rfl inX0 3 (by decide) w_67 rfl ?_
      refine gj_icmp_gt (tgt := 59) C dX0_meets_30 (by decide) (fun c3 => ?_) (fun c3 => ?_)
      · refine gj_iconst (v := 0) C dX0_meets_59 (by decide) ?_
        exact gj_zret C hr hlk dX0_meets_60 nz_0 (⟨congrArg (fun z => some (Value.int z)) (bI_f (by revert c1 c2 c3; simp only [i_le, i_lt, i_eq, t_0, t_1, t_5, t_7, t_8, t_16383, t_16384, t_32768, t_1048576, vs, vl, vc, vn, ll, rF, rL, rMeet, rIn, rY, if_true, if_false, Bool.false_eq_true, ite_true, ite_false, reduceIte]; (try intros); omega)).symm, rfl⟩)
      · refine gj_aload_n C dX0_meets_33 rfl ?_
        refine gj_get C dX0_meets_34 h0 rfl inX0 2 (by decide) w_65 rfl ?_
        refine gj_aload_n C dX0_meets_37 rfl ?_
        refine gj_get C dX0_meets_38 h1 rfl inX0 4 (by decide) w_69 rfl ?_
        refine gj_icmp_gt (tgt := 59) C dX0_meets_41 (by decide) (fun c4 => ?_) (fun c4 => ?_)
        · refine gj_iconst (v := 0) C dX0_meets_59 (by decide) ?_
          exact gj_zret C hr hlk dX0_meets_60 nz_0 (⟨congrArg (fun z => some (Value.int z)) (bI_f (by revert c1 c2 c3 c4; simp only [i_le, i_lt, i_eq, t_0, t_1, t_5, t_7, t_8, t_16383, t_16384, t_32768, t_1048576, vs, vl, vc, vn, ll, rF, rL, rMeet, rIn, rY, if_true, if_false, Bool.false_eq_true, ite_true, ite_false, reduceIte]; (try intros); omega)).symm, rfl⟩)
        · refine gj_aload_n C dX0_meets_44 rfl ?_
          refine gj_get C dX0_meets_45 h1 rfl inX0 2 (by decide) w_65 rfl ?_
          refine gj_aload_n C dX0_meets_48 rfl ?_
          refine gj_get C dX0_meets_49 h0 rfl inX0 4 (by decide) w_69 rfl ?_
          refine gj_icmp_gt (tgt := 59) C dX0_meets_52 (by decide) (fun c5 => ?_) (fun c5 => ?_)
          · refine gj_iconst (v := 0) C dX0_meets_59 (by decide) ?_
            exact gj_zret C hr hlk dX0_meets_60 nz_0 (⟨congrArg (fun z => some (Value.int z)) (bI_f (by revert c1 c2 c3 c4 c5; simp only [i_le, i_lt, i_eq, t_0, t_1, t_5, t_7, t_8, t_16383, t_16384, t_32768, t_1048576, vs, vl, vc, vn, ll, rF, rL, rMeet, rIn, rY, if_true, if_false, Bool.false_eq_true, ite_true, ite_false, reduceIte]; (try intros); omega)).symm, rfl⟩)
          · refine gj_iconst (v := 1) C dX0_meets_55 (by decide) ?_
            refine gj_goto (tgt := 60) C dX0_meets_56 (by decide) ?_
            exact gj_zret C hr hlk dX0_meets_60 nz_1 (⟨congrArg (fun z => some (Value.int z)) (bI_t (by revert c1 c2 c3 c4 c5; simp only [i_le, i_lt, i_eq, t_0, t_1, t_5, t_7, t_8, t_16383, t_16384, t_32768, t_1048576, vs, vl, vc, vn, ll, rF, rL, rMeet, rIn, rY, if_true, if_false, Bool.false_eq_true, ite_true, ite_false, reduceIte]; (try intros); omega)).symm, rfl⟩)
set_option maxRecDepth 100000 in
set_option maxHeartbeats 4000000 in
theorem k_Area_liesIn (l : Launch) (D : va_G) (tys : List (ClassId × FieldType)) (f : gm) (a b : Nat) (r r2 : Rc) (h0 : f a = some (cAr r)) (h1 : f b = some (cAr r2)) : gk l yX0_liesIn (.code yX0_liesIn cX0_liesIn 2 (Option.some Jvm.ClassFile.FieldType.boolean)) (rmk 0 0 0) D tys [.ref a, .ref b] f (fun v u => v = some (.int (bI (decide (rIn r r2)))) ∧ u = f) := by
  refine gk_of [some (.ref a), some (.ref b)] (by decide) rfl (Nat.le_of_ble_eq_true rfl) rfl ?_
  intro p e s m args below meth c A C hV hr hlk hnm
  refine gj_aload_n C dX0_liesIn_0 rfl ?_
  refine gj_get C dX0_liesIn_1 h0 rfl inX0 0 (by decide) w_61 rfl ?_
  refine gj_aload_n C dX0_liesIn_4 rfl ?_
  refine gj_get C dX0_liesIn_5 h1 rfl inX0 0 (by decide) w_61 rfl ?_
  refine gj_icmp_ne (tgt := 59) C dX0_liesIn_8 (by decide) (fun c1 => ?_) (fun c1 => ?_)
  · refine gj_iconst (v := 0) C dX0_liesIn_59 (by decide) ?_
    exact gj_zret C hr hlk dX0_liesIn_60 nz_0 (⟨congrArg (fun z => some (Value.int z)) (bI_f (by revert c1; simp only [i_le, i_lt, i_eq, t_0, t_1, t_5, t_7, t_8, t_16383, t_16384, t_32768, t_1048576, vs, vl, vc, vn, ll, rF, rL, rMeet, rIn, rY, if_true, if_false, Bool.false_eq_true, ite_true, ite_false, reduceIte]; (try intros); omega)).symm, rfl⟩)
  · refine gj_aload_n C dX0_liesIn_11 rfl ?_
    refine gj_get C dX0_liesIn_12 h1 rfl inX0 1 (by decide) w_63 rfl ?_
    refine gj_aload_n C dX0_liesIn_15 rfl ?_
    refine gj_get C dX0_liesIn_16 h0 rfl inX0 1 (by decide) w_63 rfl ?_
    refine gj_icmp_gt (tgt := 59) C dX0_liesIn_19 (by decide) (fun c2 => ?_) (fun c2 => ?_)
    · refine gj_iconst (v := 0) C dX0_liesIn_59 (by decide) ?_
      exact gj_zret C hr hlk dX0_liesIn_60 nz_0 (⟨congrArg (fun z => some (Value.int z)) (bI_f (by revert c1 c2; simp only [i_le, i_lt, i_eq, t_0, t_1, t_5, t_7, t_8, t_16383, t_16384, t_32768, t_1048576, vs, vl, vc, vn, ll, rF, rL, rMeet, rIn, rY, if_true, if_false, Bool.false_eq_true, ite_true, ite_false, reduceIte]; (try intros); omega)).symm, rfl⟩)
    · refine gj_aload_n C dX0_liesIn_22 rfl ?_
      refine gj_get C dX0_liesIn_23 h0 rfl inX0 3 (by decide) w_67 rfl ?_
      refine gj_aload_n C dX0_liesIn_26 rfl ?_
      refine gj_get C dX0_liesIn_27 h1 rfl inX0 3 (by decide) w_67 rfl ?_
      refine gj_icmp_gt (tgt := 59) C dX0_liesIn_30 (by decide) (fun c3 => ?_) (fun c3 => ?_)
      · refine gj_iconst (v := 0) C dX0_liesIn_59 (by decide) ?_
        exact gj_zret C hr hlk dX0_liesIn_60 nz_0 (⟨congrArg (fun z => some (Value.int z)) (bI_f (by revert c1 c2 c3; simp only [i_le, i_lt, i_eq, t_0, t_1, t_5, t_7, t_8, t_16383, t_16384, t_32768, t_1048576, vs, vl, vc, vn, ll, rF, rL, rMeet, rIn, rY, if_true, if_false, Bool.false_eq_true, ite_true, ite_false, reduceIte]; (try intros); omega)).symm, rfl⟩)
      · refine gj_aload_n C dX0_liesIn_33 rfl ?_
        refine gj_get C dX0_liesIn_34 h1 rfl inX0 2 (by decide) w_65 rfl ?_
        refine gj_aload_n C dX0_liesIn_37 rfl ?_
        refine gj_get C dX0_liesIn_38 h0 rfl inX0 2 (by decide) w_65 rfl ?_
        refine gj_icmp_gt (tgt := 59) C dX0_liesIn_41 (by decide) (fun c4 => ?_) (fun c4 => ?_)
        · refine gj_iconst (v := 0) C dX0_liesIn_59 (by decide) ?_
          exact gj_zret C hr hlk dX0_liesIn_60 nz_0 (⟨congrArg (fun z => some (Value.int z)) (bI_f (by revert c1 c2 c3 c4; simp only [i_le, i_lt, i_eq, t_0, t_1, t_5, t_7, t_8, t_16383, t_16384, t_32768, t_1048576, vs, vl, vc, vn, ll, rF, rL, rMeet, rIn, rY, if_true, if_false, Bool.false_eq_true, ite_true, ite_false, reduceIte]; (try intros); omega)).symm, rfl⟩)
        · refine gj_aload_n C dX0_liesIn_44 rfl ?_
          refine gj_get C dX0_liesIn_45 h0 rfl inX0 4 (by decide) w_69 rfl ?_
          refine gj_aload_n C dX0_liesIn_48 rfl ?_
          refine gj_get C dX0_liesIn_49 h1 rfl inX0 4 (by decide) w_69 rfl ?_
          refine gj_icmp_gt (tgt := 59) C dX0_liesIn_52 (by decide) (fun c5 => ?_) (fun c5 => ?_)
          · refine gj_iconst (v := 0) C dX0_liesIn_59 (by decide) ?_
            exact gj_zret C hr hlk dX0_liesIn_60 nz_0 (⟨congrArg (fun z => some (Value.int z)) (bI_f (by revert c1 c2 c3 c4 c5; simp only [i_le, i_lt, i_eq, t_0, t_1, t_5, t_7, t_8, t_16383, t_16384, t_32768, t_1048576, vs, vl, vc, vn, ll, rF, rL, rMeet, rIn, rY, if_true, if_false, Bool.false_eq_true, ite_true, ite_false, reduceIte]; (try intros); omega)).symm, rfl⟩)
          · refine gj_iconst (v := 1) C dX0_liesIn_55 (by decide) ?_
            refine gj_goto (tgt := 60) C dX0_liesIn_56 (by decide) ?_
            exact gj_zret C hr hlk dX0_liesIn_60 nz_1 (⟨congrArg (fun z => some (Value.int z)) (bI_t (by revert c1 c2 c3 c4 c5; simp only [i_le, i_lt, i_eq, t_0, t_1, t_5, t_7, t_8, t_16383, t_16384, t_32768, t_1048576, vs, vl, vc, vn, ll, rF, rL, rMeet, rIn, rY, if_true, if_false, Bool.false_eq_true, ite_true, ite_false, reduceIte]; (try intros); omega)).symm, rfl⟩)
set_option maxRecDepth 100000 in
set_option maxHeartbeats 4000000 in
theorem k_Area_yieldsTo (l : Launch) (D : va_G) (tys : List (ClassId × FieldType)) (f : gm) (a : Nat) (r : Rc) (sh : Int32) (cs : Bool) (h0 : f a = some (cAr r)) : gk l yX0_yieldsTo (.code yX0_yieldsTo cX0_yieldsTo 4 (Option.some Jvm.ClassFile.FieldType.boolean)) (rmk 1 0 0) D tys [.ref a, .int sh, .int (bI cs)] f (fun v u => v = some (.int (bI (decide (rY sh cs r)))) ∧ u = f) := by
  refine gk_of [some (.ref a), some (.int sh), some (.int (bI cs)), none] (by decide) rfl (Nat.le_of_ble_eq_true rfl) rfl ?_
  intro p e s m args below meth c A C hV hr hlk hnm
  refine gj_aload_n C dX0_yieldsTo_0 rfl ?_
  refine gj_iload_n C dX0_yieldsTo_1 rfl ?_
  refine gj_cV (As := [.int (bI cs)]) (rest := []) (nc := 0) (ns := 0) C hV (k_Area_first l D tys f a r cs h0) dX0_yieldsTo_2 rfl w_276 rfl w_273 w_3 w_275 ws_9 hd_X0_first rfl h0 rfl ⟨Nat.le_of_ble_eq_true rfl, Nat.le_of_ble_eq_true rfl⟩ (Nat.le_of_ble_eq_true rfl) (by decide) (by decide) (fun v u hp1 => ?_)
  refine gj_rt (st' := [.int (rF cs r)]) hp1.1 hp1.2 rfl ?_
  refine gj_iconst (v := 1) C dX0_yieldsTo_5 (by decide) ?_
  refine gj_icmp_ne (tgt := 25) C dX0_yieldsTo_6 (by decide) (fun c2 => ?_) (fun c2 => ?_)
  · refine gj_iconst (v := 0) C dX0_yieldsTo_25 (by decide) ?_
    refine gj_istore_n (lw' := [some (.ref a), some (.int sh), some (.int (bI cs)), some (.int 0)]) C dX0_yieldsTo_26 (by decide) rfl rfl ?_
    refine gj_aload_n C dX0_yieldsTo_27 rfl ?_
    refine gj_get C dX0_yieldsTo_28 h0 rfl inX0 0 (by decide) w_61 rfl ?_
    refine gj_iload_n C dX0_yieldsTo_31 rfl ?_
    refine gj_icmp_ne (tgt := 43) C dX0_yieldsTo_32 (by decide) (fun c3 => ?_) (fun c3 => ?_)
    · refine gj_iconst (v := 0) C dX0_yieldsTo_43 (by decide) ?_
      exact gj_zret C hr hlk dX0_yieldsTo_44 nz_0 (⟨congrArg (fun z => some (Value.int z)) (bI_f (by simp only [rY]; revert c2 c3; simp only [i_eq, t_1]; (try intros); omega)).symm, rfl⟩)
    · refine gj_iload_n C dX0_yieldsTo_35 rfl ?_
      refine gj_if_neF (tgt := 43) C dX0_yieldsTo_36 (by decide) rfl ?_
      refine gj_iconst (v := 1) C dX0_yieldsTo_39 (by decide) ?_
      refine gj_goto (tgt := 44) C dX0_yieldsTo_40 (by decide) ?_
      exact gj_zret C hr hlk dX0_yieldsTo_44 nz_1 (⟨congrArg (fun z => some (Value.int z)) (bI_t (by simp only [rY]; revert c2 c3; simp only [i_eq, t_1]; (try intros); omega)).symm, rfl⟩)
  · refine gj_aload_n C dX0_yieldsTo_9 rfl ?_
    refine gj_iload_n C dX0_yieldsTo_10 rfl ?_
    refine gj_cV (As := [.int (bI cs)]) (rest := []) (nc := 0) (ns := 0) C hV (k_Area_last l D tys f a r cs h0) dX0_yieldsTo_11 rfl w_280 rfl w_277 w_3 w_279 ws_10 hd_X0_last rfl h0 rfl ⟨Nat.le_of_ble_eq_true rfl, Nat.le_of_ble_eq_true rfl⟩ (Nat.le_of_ble_eq_true rfl) (by decide) (by decide) (fun v u hp4 => ?_)
    refine gj_rt (st' := [.int (rL cs r)]) hp4.1 hp4.2 rfl ?_
    refine gj_iload_n C dX0_yieldsTo_14 rfl ?_
    refine gj_cSN (As := [.int (bI cs)]) (rest := [.int (rL cs r)]) (nc := 0) (ns := 0) C hV (k_lastLine l D tys f cs) dX0_yieldsTo_15 rfl w_53 rfl nw_12 w_1 w_52 hd_X2_lastLine rfl ⟨Nat.le_of_ble_eq_true rfl, Nat.le_of_ble_eq_true rfl⟩ (Nat.le_of_ble_eq_true rfl) (by decide) (by decide) (fun v u hp5 => ?_)
    refine gj_rt (st' := [.int (ll cs), .int (rL cs r)]) hp5.1 hp5.2 rfl ?_
    refine gj_icmp_ne (tgt := 25) C dX0_yieldsTo_18 (by decide) (fun c6 => ?_) (fun c6 => ?_)
    · refine gj_iconst (v := 0) C dX0_yieldsTo_25 (by decide) ?_
      refine gj_istore_n (lw' := [some (.ref a), some (.int sh), some (.int (bI cs)), some (.int 0)]) C dX0_yieldsTo_26 (by decide) rfl rfl ?_
      refine gj_aload_n C dX0_yieldsTo_27 rfl ?_
      refine gj_get C dX0_yieldsTo_28 h0 rfl inX0 0 (by decide) w_61 rfl ?_
      refine gj_iload_n C dX0_yieldsTo_31 rfl ?_
      refine gj_icmp_ne (tgt := 43) C dX0_yieldsTo_32 (by decide) (fun c7 => ?_) (fun c7 => ?_)
      · refine gj_iconst (v := 0) C dX0_yieldsTo_43 (by decide) ?_
        exact gj_zret C hr hlk dX0_yieldsTo_44 nz_0 (⟨congrArg (fun z => some (Value.int z)) (bI_f (by simp only [rY]; revert c2 c6 c7; simp only [i_eq, t_1]; (try intros); omega)).symm, rfl⟩)
      · refine gj_iload_n C dX0_yieldsTo_35 rfl ?_
        refine gj_if_neF (tgt := 43) C dX0_yieldsTo_36 (by decide) rfl ?_
        refine gj_iconst (v := 1) C dX0_yieldsTo_39 (by decide) ?_
        refine gj_goto (tgt := 44) C dX0_yieldsTo_40 (by decide) ?_
        exact gj_zret C hr hlk dX0_yieldsTo_44 nz_1 (⟨congrArg (fun z => some (Value.int z)) (bI_t (by simp only [rY]; revert c2 c6 c7; simp only [i_eq, t_1]; (try intros); omega)).symm, rfl⟩)
    · refine gj_iconst (v := 1) C dX0_yieldsTo_21 (by decide) ?_
      refine gj_goto (tgt := 26) C dX0_yieldsTo_22 (by decide) ?_
      refine gj_istore_n (lw' := [some (.ref a), some (.int sh), some (.int (bI cs)), some (.int 1)]) C dX0_yieldsTo_26 (by decide) rfl rfl ?_
      refine gj_aload_n C dX0_yieldsTo_27 rfl ?_
      refine gj_get C dX0_yieldsTo_28 h0 rfl inX0 0 (by decide) w_61 rfl ?_
      refine gj_iload_n C dX0_yieldsTo_31 rfl ?_
      refine gj_icmp_ne (tgt := 43) C dX0_yieldsTo_32 (by decide) (fun c8 => ?_) (fun c8 => ?_)
      · refine gj_iconst (v := 0) C dX0_yieldsTo_43 (by decide) ?_
        exact gj_zret C hr hlk dX0_yieldsTo_44 nz_0 (⟨congrArg (fun z => some (Value.int z)) (bI_f (by simp only [rY]; revert c2 c6 c8; simp only [i_eq, t_1]; (try intros); omega)).symm, rfl⟩)
      · refine gj_iload_n C dX0_yieldsTo_35 rfl ?_
        refine gj_if_neT (tgt := 43) C dX0_yieldsTo_36 (by decide) (by decide) ?_
        refine gj_iconst (v := 0) C dX0_yieldsTo_43 (by decide) ?_
        exact gj_zret C hr hlk dX0_yieldsTo_44 nz_0 (⟨congrArg (fun z => some (Value.int z)) (bI_f (by simp only [rY]; revert c2 c6 c8; simp only [i_eq, t_1]; (try intros); omega)).symm, rfl⟩)
end
section
/-! How many entries there are; an object of RangeReaders in a map. -/
def cn (en : Nat → Option En) : Nat → Nat
  | 0 => 0
  | n + 1 => cn en n + (if (en n).isSome then 1 else 0)
theorem cn_le (en : Nat → Option En) : ∀ n, cn en n ≤ n
  | 0 => Nat.le_refl 0
  | n + 1 => by
    have := cn_le en n
    unfold cn
    split <;> omega
theorem cn_ext {en en' : Nat → Option En} : ∀ (n : Nat), (∀ j, j < n → (en j).isSome = (en' j).isSome) → cn en n = cn en' n
  | 0, _ => rfl
  | n + 1, h => by
    unfold cn
    rw [cn_ext n (fun j hj => h j (by omega)), h n (by omega)]
theorem cn_add {en : Nat → Option En} {i : Nat} {e : En} (h0 : en i = none) : ∀ (n : Nat), i < n → cn (va_up en i (some e)) n = cn en n + 1
  | 0, h => absurd h (Nat.not_lt_zero _)
  | n + 1, h => by
    by_cases hi : i = n
    · subst hi
      have e1 : cn (va_up en i (some e)) i = cn en i := cn_ext i (fun j hj => by rw [va_up_ne _ _ (by omega)])
      unfold cn
      rw [e1, va_up_self, h0]
      simp
    · have := cn_add (e := e) h0 n (by omega)
      unfold cn
      rw [this, va_up_ne _ _ (by omega)]
      omega
theorem cn_del {en : Nat → Option En} {i : Nat} {e : En} (h0 : en i = some e) : ∀ (n : Nat), i < n → cn (va_up en i none) n + 1 = cn en n
  | 0, h => absurd h (Nat.not_lt_zero _)
  | n + 1, h => by
    by_cases hi : i = n
    · subst hi
      have e1 : cn (va_up en i none) i = cn en i := cn_ext i (fun j hj => by rw [va_up_ne _ _ (by omega)])
      unfold cn
      rw [e1, va_up_self, h0]
      simp
    · have := cn_del h0 n (by omega)
      unfold cn
      rw [va_up_ne _ _ (by omega)]
      omega
theorem cn_same {en : Nat → Option En} {i : Nat} {e e' : En} (h0 : en i = some e) (n : Nat) : cn (va_up en i (some e')) n = cn en n := cn_ext n (fun j _ => by
  by_cases hj : j = i
  · subst hj; rw [va_up_self, h0]; rfl
  · rw [va_up_ne _ _ hj])
theorem cn_full {en : Nat → Option En} : ∀ (n : Nat), (∀ j, j < n → en j ≠ none) → cn en n = n
  | 0, _ => rfl
  | n + 1, h => by
    unfold cn
    rw [cn_full n (fun j hj => h j (by omega))]
    cases hn : en n with
    | none => exact absurd hn (h n (by omega))
    | some e => simp
theorem cn_none {en : Nat → Option En} {n : Nat} (h : ∀ j, n ≤ j → en j = none) : ∀ m, n ≤ m → cn en m = cn en n := by
  intro m hm
  induction m with
  | zero => rw [show n = 0 by omega]
  | succ m ih =>
    by_cases e : n = m + 1
    · rw [e]
    · show cn en m + (if (en m).isSome then 1 else 0) = cn en n
      rw [h m (by omega), ih (by omega)]
      simp
theorem cn_all {en : Nat → Option En} : ∀ (n : Nat), cn en n = n → ∀ j, j < n → en j ≠ none
  | 0, _, j, hj => absurd hj (Nat.not_lt_zero _)
  | n + 1, h, j, hj => by
    have h1 := cn_le en n
    unfold cn at h
    cases hn : en n with
    | none => rw [hn] at h; simp at h; omega
    | some e =>
      rw [hn] at h
      simp at h
      by_cases e2 : j = n
      · rw [e2, hn]; exact fun z => by cases z
      · exact cn_all n h j (by omega)
theorem rf_or (o : Option Nat) : va_rf o = .null ∨ ∃ a, va_rf o = .ref a := by
  cases o with
  | none => exact Or.inl rfl
  | some a => exact Or.inr ⟨a, rfl⟩
abbrev tyl (cI cN cZ cJ : ClassId) : List (ClassId × FieldType) := [(cI, .int), (cN, .object "RangeReaders$Entry"), (cZ, .boolean), (cJ, .long)]
abbrev cRR (q : Option Nat) (hE : Nat) (held : Int32) (hM : Nat) (mc : Int32) : va_E := .inr (2, [va_rf q, .ref hE, .int held, .ref hM, .int mc])
abbrev aE (cN : ClassId) (n : Nat) (g : Nat → Option Nat) : va_E := .inl (cN, n, .inr (.inr (.inr (.inr g))))
abbrev aI (cI : ClassId) (n : Nat) (g : Nat → Int32) : va_E := .inl (cI, n, .inl g)
/-- an entry's place: null, or an Entry with its Area -/
def rpe (f : gm) (o : Option Nat) (a : Nat) (e : Option En) : Prop := match e with
  | none => o = none
  | some e => ∃ q, o = some q ∧ f q = some (cEn a e.2) ∧ f a = some (cAr e.1)
/-- the next rectangle -/
def rpn (f : gm) (q : Option Nat) (nx : Option Rc) : Prop := match nx with
  | none => q = none
  | some r => ∃ a, q = some a ∧ f a = some (cAr r)
/-- an object of RangeReaders: its cells by their addresses, what it stands for -/
def rpw (cI cN : ClassId) (f : gm) (x : Nat) (nx : Option Rc) (en : Nat → Option En) (n : Nat) (ml : List Nat) (q : Option Nat) (hE hM k : Nat) (g : Nat → Option Nat) (mf : Nat → Int32) (ar : Nat → Nat) : Prop :=
  (f x = some (cRR q hE (nI (cn en n)) hM (nI ml.length)) ∧ f hE = some (aE cN n g) ∧ f hM = some (aI cI k mf)) ∧
  (rpn f q nx ∧ ∀ i, i < n → rpe f (g i) (ar i) (en i)) ∧
  ((∀ i j, i < n → j < n → en i ≠ none → en j ≠ none → ar i = ar j → i = j) ∧ (∀ i, i < n → en i ≠ none → q ≠ some (ar i))) ∧
  ((∀ i, n ≤ i → en i = none) ∧ n ≤ 1024 ∧ k ≤ 1024 ∧ 1 ≤ n) ∧
  (ml.length ≤ k ∧ ∀ j, j < ml.length → mf j = nI (ml.getD j 0))
def Rp (cI cN : ClassId) (f : gm) (x : Nat) (nx : Option Rc) (en : Nat → Option En) (n : Nat) (ml : List Nat) : Prop :=
  ∃ (q : Option Nat) (hE hM k : Nat) (g : Nat → Option Nat) (mf : Nat → Int32) (ar : Nat → Nat), rpw cI cN f x nx en n ml q hE hM k g mf ar
section RP
variable {cI cN : ClassId} {f : gm} {x : Nat} {nx : Option Rc} {en : Nat → Option En} {n : Nat} {ml : List Nat} {q : Option Nat} {hE hM k : Nat} {g : Nat → Option Nat} {mf : Nat → Int32} {ar : Nat → Nat}
theorem rpe_none {o : Option Nat} {a : Nat} (h : rpe f o a none) : o = none := h
/-- an entry that is there -/
theorem rpw_at (h : rpw cI cN f x nx en n ml q hE hM k g mf ar) {i : Nat} {e : En} (hi : i < n) (he : en i = some e) : ∃ z, g i = some z ∧ f z = some (cEn (ar i) e.2) ∧ f (ar i) = some (cAr e.1) := by
  have := h.2.1.2 i hi
  rw [he] at this
  exact this
theorem rpw_no (h : rpw cI cN f x nx en n ml q hE hM k g mf ar) {i : Nat} (hi : i < n) (he : en i = none) : g i = none := by
  have := h.2.1.2 i hi
  rw [he] at this
  exact this
theorem rpe_kept {f' : gm} {o : Option Nat} {a : Nat} {e : Option En} (h : rpe f o a e) (hk : ∀ b y, f b = some y → (∃ r, y = cAr r) ∨ (∃ c w, y = cEn c w) → f' b = f b) : rpe f' o a e := by
  cases e with
  | none => exact h
  | some e =>
    obtain ⟨q, h1, h2, h3⟩ := h
    exact ⟨q, h1, (hk q _ h2 (Or.inr ⟨_, _, rfl⟩)).trans h2, (hk a _ h3 (Or.inl ⟨_, rfl⟩)).trans h3⟩
theorem rpn_kept {f' : gm} {q : Option Nat} {nx : Option Rc} (h : rpn f q nx) (hk : ∀ b y, f b = some y → (∃ r, y = cAr r) ∨ (∃ c w, y = cEn c w) → f' b = f b) : rpn f' q nx := by
  cases nx with
  | none => exact h
  | some r =>
    obtain ⟨a, h1, h2⟩ := h
    exact ⟨a, h1, (hk a _ h2 (Or.inl ⟨_, rfl⟩)).trans h2⟩
/-- an entry's rectangle becomes another -/
theorem rpw_area (h : rpw cI cN f x nx en n ml q hE hM k g mf ar) {i : Nat} {e : En} (hi : i < n) (he : en i = some e) (r : Rc) : rpw cI cN (gm_up f (ar i) (cAr r)) x nx (va_up en i (some (r, e.2))) n ml q hE hM k g mf ar := by
  obtain ⟨z, z1, z2, z3⟩ := rpw_at h hi he
  obtain ⟨⟨a1, a2, a3⟩, ⟨b1, b2⟩, ⟨c1, c2⟩, ⟨d1, d2, d3, d4⟩, e1, e2⟩ := h
  have hne : ∀ j, en j ≠ none → va_up en i (some (r, e.2)) j ≠ none → en j ≠ none := fun j hj _ => hj
  have hsome : ∀ j, va_up en i (some (r, e.2)) j ≠ none → en j ≠ none := by
    intro j hj
    by_cases hji : j = i
    · rw [hji, he]; exact fun hh => by cases hh
    · rw [va_up_ne _ _ hji] at hj; exact hj
  refine ⟨⟨?_, ?_, ?_⟩, ⟨?_, ?_⟩, ⟨fun s t hs ht h1 h2 h3 => c1 s t hs ht (hsome s h1) (hsome t h2) h3, fun s hs h1 => c2 s hs (hsome s h1)⟩, ⟨?_, d2, d3, d4⟩, e1, e2⟩
  · rw [gm_up_ne (gm_ne a1 z3 (by simp)), cn_same he]; exact a1
  · rw [gm_up_ne (gm_ne a2 z3 (by simp))]; exact a2
  · rw [gm_up_ne (gm_ne a3 z3 (by simp))]; exact a3
  · cases nx with
    | none => exact b1
    | some r0 =>
      obtain ⟨a, h1, h2⟩ := b1
      exact ⟨a, h1, by rw [gm_up_ne (fun hh => c2 i hi (by rw [he]; exact fun hh => by cases hh) (by rw [h1, hh]))]; exact h2⟩
  · intro j hj
    by_cases hji : j = i
    · subst hji
      rw [va_up_self]
      exact ⟨z, z1, by rw [gm_up_ne (gm_ne z2 z3 (by simp))]; exact z2, gm_up_self⟩
    · rw [va_up_ne _ _ hji]
      cases hej : en j with
      | none => have := b2 j hj; rw [hej] at this; exact this
      | some ej =>
        have := b2 j hj
        rw [hej] at this
        obtain ⟨y, y1, y2, y3⟩ := this
        refine ⟨y, y1, by rw [gm_up_ne (gm_ne y2 z3 (by simp))]; exact y2, ?_⟩
        rw [gm_up_ne (fun hh => hji (c1 j i hj hi (by rw [hej]; exact fun hh => by cases hh) (by rw [he]; exact fun hh => by cases hh) hh))]
        exact y3
  · intro j hj
    rw [va_up_ne _ _ (by omega)]
    exact d1 j hj
/-- an entry goes: its place is null, one less is held -/
theorem rpw_rel (h : rpw cI cN f x nx en n ml q hE hM k g mf ar) {i : Nat} {e : En} (hi : i < n) (he : en i = some e) : rpw cI cN (gm_up (gm_up f hE (aE cN n (va_up g i none))) x (cRR q hE (nI (cn en n) - 1) hM (nI ml.length))) x nx (va_up en i none) n ml q hE hM k (va_up g i none) mf ar := by
  obtain ⟨⟨a1, a2, a3⟩, ⟨b1, b2⟩, ⟨c1, c2⟩, ⟨d1, d2, d3, d4⟩, e1, e2⟩ := h
  have hxE : hE ≠ x := gm_ne a2 a1 (by simp)
  have hk : ∀ b y, f b = some y → (∃ r, y = cAr r) ∨ (∃ c w, y = cEn c w) → gm_up (gm_up f hE (aE cN n (va_up g i none))) x (cRR q hE (nI (cn en n) - 1) hM (nI ml.length)) b = f b := by
    intro b y hb hy
    rw [gm_up_ne (gm_ne hb a1 (by rcases hy with ⟨r, rfl⟩ | ⟨c, w, rfl⟩ <;> simp)), gm_up_ne (gm_ne hb a2 (by rcases hy with ⟨r, rfl⟩ | ⟨c, w, rfl⟩ <;> simp))]
  have hsome : ∀ j, va_up en i none j ≠ none → en j ≠ none := by
    intro j hj
    by_cases hji : j = i
    · rw [hji, va_up_self] at hj; exact absurd rfl hj
    · rw [va_up_ne _ _ hji] at hj; exact hj
  refine ⟨⟨?_, ?_, ?_⟩, ⟨rpn_kept b1 hk, ?_⟩, ⟨fun s t hs ht h1 h2 h3 => c1 s t hs ht (hsome s h1) (hsome t h2) h3, fun s hs h1 => c2 s hs (hsome s h1)⟩, ⟨?_, d2, d3, d4⟩, e1, e2⟩
  · rw [gm_up_self, ← cn_del he n hi, nI_pred]
  · rw [gm_up_ne hxE, gm_up_self]
  · by_cases hh : hM = hE
    · exfalso
      rw [hh, a2] at a3
      simp at a3
    · rw [gm_up_ne (gm_ne a3 a1 (by simp)), gm_up_ne hh]; exact a3
  · intro j hj
    by_cases hji : j = i
    · subst hji
      rw [va_up_self, va_up_self]
      exact rfl
    · rw [va_up_ne _ _ hji, va_up_ne _ _ hji]
      exact rpe_kept (b2 j hj) hk
  · intro j hj
    rw [va_up_ne _ _ (by omega)]
    exact d1 j hj
/-- the next rectangle is another, in a new cell -/
theorem rpw_next (h : rpw cI cN f x nx en n ml q hE hM k g mf ar) {a : Nat} (ha : f a = none) (r : Rc) : rpw cI cN (gm_up (gm_up f a (cAr r)) x (cRR (some a) hE (nI (cn en n)) hM (nI ml.length))) x (some r) en n ml (some a) hE hM k g mf ar := by
  obtain ⟨⟨a1, a2, a3⟩, ⟨b1, b2⟩, ⟨c1, c2⟩, ⟨d1, d2, d3, d4⟩, e1, e2⟩ := h
  have hn : ∀ b y, f b = some y → b ≠ a := fun b y hb hh => by rw [hh, ha] at hb; cases hb
  have hk : ∀ b y, f b = some y → (∃ r, y = cAr r) ∨ (∃ c w, y = cEn c w) → gm_up (gm_up f a (cAr r)) x (cRR (some a) hE (nI (cn en n)) hM (nI ml.length)) b = f b := by
    intro b y hb hy
    rw [gm_up_ne (gm_ne hb a1 (by rcases hy with ⟨r, rfl⟩ | ⟨c, w, rfl⟩ <;> simp)), gm_up_ne (hn b y hb)]
  refine ⟨⟨gm_up_self, ?_, ?_⟩, ⟨⟨a, rfl, ?_⟩, fun j hj => rpe_kept (b2 j hj) hk⟩, ⟨c1, fun j hj h1 h2 => ?_⟩, ⟨d1, d2, d3, d4⟩, e1, e2⟩
  · rw [gm_up_ne (gm_ne a2 a1 (by simp)), gm_up_ne (hn _ _ a2)]; exact a2
  · rw [gm_up_ne (gm_ne a3 a1 (by simp)), gm_up_ne (hn _ _ a3)]; exact a3
  · rw [gm_up_ne (fun hh => hn _ _ a1 hh.symm), gm_up_self]
  · cases hej : en j with
    | none => exact h1 hej
    | some ej =>
      have := b2 j hj
      rw [hej] at this
      obtain ⟨y, y1, y2, y3⟩ := this
      cases h2
      rw [ha] at y3
      cases y3
end RP
end
section
/-! RangeReaders: entryAt, release, lowestFree, makeRoom. By gen/m14.py. -/
set_option maxRecDepth 100000 in
set_option maxHeartbeats 4000000 in
theorem k_entryAt (l : Launch) (D : va_G) (cI cN cZ cJ : ClassId) (f : gm) (x : Nat) (q : Option Nat) (hE hM : Nat) (held mc : Int32) (n : Nat) (g : Nat → Option Nat) (num : Int32) (hx : f x = some (cRR q hE held hM mc)) (h1 : f hE = some (aE cN n g)) (hn : n ≤ 1024) : gk l yX2_entryAt (.code yX2_entryAt cX2_entryAt 2 (Option.some (Jvm.ClassFile.FieldType.object "RangeReaders$Entry"))) (rmk 0 0 0) D (tyl cI cN cZ cJ) [.ref x, .int num] f (fun v u => ((∃ i, i < n ∧ num = nI i ∧ v = some (va_rf (g i))) ∨ ((∀ i, i < n → num ≠ nI i) ∧ v = some .null)) ∧ u = f) := by
  refine gk_of [some (.ref x), some (.int num)] (by decide) rfl (Nat.le_of_ble_eq_true rfl) rfl ?_
  intro p e s m args below meth c A C hV hr hlk hnm
  rcases pk_ix num (n := n) (by omega) with hh | hh | ⟨j, hj, rfl⟩
  · refine gj_iload_n C dX2_entryAt_0 rfl ?_
    refine gj_if_ltT (tgt := 22) C dX2_entryAt_1 (by decide) hh ?_
    refine gj_null C dX2_entryAt_22 ?_
    exact gj_aret C hr hlk dX2_entryAt_23 (Or.inl rfl) (⟨Or.inr ⟨(fun i hi h => by rw [h] at hh; exact nI_pos (by omega) hh), rfl⟩, rfl⟩)
  · refine gj_iload_n C dX2_entryAt_0 rfl ?_
    refine gj_if_lt (tgt := 22) C dX2_entryAt_1 (by decide) (fun c1 => ?_) (fun c1 => ?_)
    · refine gj_null C dX2_entryAt_22 ?_
      exact gj_aret C hr hlk dX2_entryAt_23 (Or.inl rfl) (⟨Or.inr ⟨(fun i hi h => by rw [h] at hh; exact nI_ge hi (by omega) hh), rfl⟩, rfl⟩)
    · refine gj_iload_n C dX2_entryAt_4 rfl ?_
      refine gj_aload_n C dX2_entryAt_5 rfl ?_
      refine gj_get C dX2_entryAt_6 hx rfl inX2 1 (by decide) w_22 rfl ?_
      refine gj_alen C 1 dX2_entryAt_9 h1 rfl ?_
      refine gj_icmp_geT (tgt := 22) C dX2_entryAt_10 (by decide) hh ?_
      refine gj_null C dX2_entryAt_22 ?_
      exact gj_aret C hr hlk dX2_entryAt_23 (Or.inl rfl) (⟨Or.inr ⟨(fun i hi h => by rw [h] at hh; exact nI_ge hi (by omega) hh), rfl⟩, rfl⟩)
  · refine gj_iload_n C dX2_entryAt_0 rfl ?_
    refine gj_if_ltF (tgt := 22) C dX2_entryAt_1 (by decide) (nI_pos (by omega)) ?_
    refine gj_iload_n C dX2_entryAt_4 rfl ?_
    refine gj_aload_n C dX2_entryAt_5 rfl ?_
    refine gj_get C dX2_entryAt_6 hx rfl inX2 1 (by decide) w_22 rfl ?_
    refine gj_alen C 1 dX2_entryAt_9 h1 rfl ?_
    refine gj_icmp_geF (tgt := 22) C dX2_entryAt_10 (by decide) (nI_ge hj (by omega)) ?_
    refine gj_aload_n C dX2_entryAt_13 rfl ?_
    refine gj_get C dX2_entryAt_14 hx rfl inX2 1 (by decide) w_22 rfl ?_
    refine gj_iload_n C dX2_entryAt_17 rfl ?_
    refine gj_aaldN C 1 dX2_entryAt_18 h1 rfl hj (by omega) ?_
    refine gj_goto (tgt := 23) C dX2_entryAt_19 (by decide) ?_
    exact gj_aret C hr hlk dX2_entryAt_23 (rf_or _) (⟨Or.inl ⟨j, hj, rfl, rfl⟩, rfl⟩)
set_option maxRecDepth 100000 in
set_option maxHeartbeats 4000000 in
theorem k_release (l : Launch) (D : va_G) (cI cN cZ cJ : ClassId) (f : gm) (x : Nat) (q : Option Nat) (hE hM : Nat) (held mc : Int32) (n : Nat) (g : Nat → Option Nat) (j z : Nat) (hx : f x = some (cRR q hE held hM mc)) (h1 : f hE = some (aE cN n g)) (hn : n ≤ 1024) (hj : j < n) (hz : g j = some z) : gk l yX2_release (.code yX2_release cX2_release 2 (Option.none : Option Jvm.ClassFile.FieldType)) (rmk 0 0 0) D (tyl cI cN cZ cJ) [.ref x, .int (nI j)] f (fun v u => v = none ∧ u = gm_up (gm_up f hE (aE cN n (va_up g j none))) x (cRR q hE (held - 1) hM mc)) := by
  refine gk_of [some (.ref x), some (.int (nI j))] (by decide) rfl (Nat.le_of_ble_eq_true rfl) rfl ?_
  intro p e s m args below meth c A C hV hr hlk hnm
  refine gj_iload_n C dX2_release_0 rfl ?_
  refine gj_if_ltF (tgt := 39) C dX2_release_1 (by decide) (nI_pos (by omega)) ?_
  refine gj_iload_n C dX2_release_4 rfl ?_
  refine gj_aload_n C dX2_release_5 rfl ?_
  refine gj_get C dX2_release_6 hx rfl inX2 1 (by decide) w_22 rfl ?_
  refine gj_alen C 1 dX2_release_9 h1 rfl ?_
  refine gj_icmp_geF (tgt := 39) C dX2_release_10 (by decide) (nI_ge hj (by omega)) ?_
  refine gj_aload_n C dX2_release_13 rfl ?_
  refine gj_get C dX2_release_14 hx rfl inX2 1 (by decide) w_22 rfl ?_
  refine gj_iload_n C dX2_release_17 rfl ?_
  refine gj_aaldN C 1 dX2_release_18 h1 rfl hj (by omega) ?_
  refine gj_st (st' := [.ref z]) (by rw [hz]; rfl) ?_
  refine gj_ifnull C dX2_release_19 ?_
  refine gj_aload_n C dX2_release_22 rfl ?_
  refine gj_get C dX2_release_23 hx rfl inX2 1 (by decide) w_22 rfl ?_
  refine gj_iload_n C dX2_release_26 rfl ?_
  refine gj_null C dX2_release_27 ?_
  refine gj_aastNJ C 1 dX2_release_28 h1 rfl hj (by omega) ?_
  refine gj_aload_n C dX2_release_29 rfl ?_
  refine gj_dup C dX2_release_30 rfl ?_
  refine gj_get C dX2_release_31 ((gm_up_ne (gm_ne hx h1 (by simp))).trans hx) rfl inX2 2 (by decide) w_23 rfl ?_
  refine gj_iconst (v := 1) C dX2_release_34 (by decide) ?_
  refine gj_isub C dX2_release_35 ?_
  refine gj_put C dX2_release_36 ((gm_up_ne (gm_ne hx h1 (by simp))).trans hx) rfl inX2 tyX2_ok nmX2 2 (by decide) w_23 rfl rfl rfl (Nat.le_of_ble_eq_true rfl) ?_
  exact gj_vret C hr hlk dX2_release_39 (⟨rfl, rfl⟩)
set_option maxRecDepth 100000 in
set_option maxHeartbeats 4000000 in
theorem k_lowestFree (l : Launch) (D : va_G) (cI cN cZ cJ : ClassId) (f : gm) (x : Nat) (q : Option Nat) (hE hM : Nat) (held mc : Int32) (n : Nat) (g : Nat → Option Nat) (k : Nat) (hx : f x = some (cRR q hE held hM mc)) (h1 : f hE = some (aE cN n g)) (hn : n ≤ 1024) (hkn : k < n) (hk : g k = none) (hlt : ∀ j, j < k → ∃ z, g j = some z) : gk l yX2_lowestFree (.code yX2_lowestFree cX2_lowestFree 2 (Option.some Jvm.ClassFile.FieldType.int)) (rmk 0 0 0) D (tyl cI cN cZ cJ) [.ref x] f (fun v u => v = some (.int (nI k)) ∧ u = f) := by
  refine gk_of [some (.ref x), none] (by decide) rfl (Nat.le_of_ble_eq_true rfl) rfl ?_
  intro p e s m args below meth c A C hV hr hlk hnm
  have loop : ∀ (d i : Nat), i + d = k → gj p l e (rmk 0 0 0) s m args below meth c D vwCl A 2 (MQ below (gk_Q (fun v u => v = some (.int (nI k)) ∧ u = f) D A) args s (rmk 0 0 0).cells (rmk 0 0 0).slots A) f 0 0 2 [some (.ref x), some (.int (nI i))] [] := by
    intro d
    induction d with
    | zero =>
      intro i hik
      have hik : i = k := by omega
      have hj : i < n := by omega
      refine gj_iload_n C dX2_lowestFree_2 rfl ?_
      refine gj_aload_n C dX2_lowestFree_3 rfl ?_
      refine gj_get C dX2_lowestFree_4 hx rfl inX2 1 (by decide) w_22 rfl ?_
      refine gj_alen C 1 dX2_lowestFree_7 h1 rfl ?_
      refine gj_icmp_geF (tgt := 26) C dX2_lowestFree_8 (by decide) (nI_ge hj (by omega)) ?_
      refine gj_aload_n C dX2_lowestFree_11 rfl ?_
      refine gj_get C dX2_lowestFree_12 hx rfl inX2 1 (by decide) w_22 rfl ?_
      refine gj_iload_n C dX2_lowestFree_15 rfl ?_
      refine gj_aaldN C 1 dX2_lowestFree_16 h1 rfl hj (by omega) ?_
      refine gj_st (st' := [.null]) (by rw [hik, hk]; rfl) ?_
      refine gj_ifnullN (tgt := 26) C dX2_lowestFree_17 (by decide) ?_
      refine gj_iload_n C dX2_lowestFree_26 rfl ?_
      exact gj_iret C hr hlk dX2_lowestFree_27 (⟨by rw [hik], rfl⟩)
    | succ d ih =>
      intro i hik
      have hj : i < n := by omega
      refine gj_iload_n C dX2_lowestFree_2 rfl ?_
      refine gj_aload_n C dX2_lowestFree_3 rfl ?_
      refine gj_get C dX2_lowestFree_4 hx rfl inX2 1 (by decide) w_22 rfl ?_
      refine gj_alen C 1 dX2_lowestFree_7 h1 rfl ?_
      refine gj_icmp_geF (tgt := 26) C dX2_lowestFree_8 (by decide) (nI_ge hj (by omega)) ?_
      refine gj_aload_n C dX2_lowestFree_11 rfl ?_
      refine gj_get C dX2_lowestFree_12 hx rfl inX2 1 (by decide) w_22 rfl ?_
      refine gj_iload_n C dX2_lowestFree_15 rfl ?_
      refine gj_aaldN C 1 dX2_lowestFree_16 h1 rfl hj (by omega) ?_
      obtain ⟨z, hz⟩ := hlt i (by omega)
      refine gj_st (st' := [.ref z]) (by rw [hz]; rfl) ?_
      refine gj_ifnull C dX2_lowestFree_17 ?_
      refine gj_iinc (v := (nI (i + 1))) (lw' := [some (.ref x), some (.int (nI (i + 1)))]) C dX2_lowestFree_20 rfl (nI_1 i) (by decide) rfl rfl ?_
      refine gj_goto (tgt := 2) C dX2_lowestFree_23 (by decide) ?_
      exact ih (i + 1) (by omega)
  refine gj_iconst (v := 0) C dX2_lowestFree_0 (by decide) ?_
  refine gj_istore_n (lw' := [some (.ref x), some (.int 0)]) C dX2_lowestFree_1 (by decide) rfl rfl ?_
  refine gj_st (st' := []) rfl ?_
  exact loop k 0 (by omega)
end
section
section RP2
variable {cI cN : ClassId} {f : gm} {x : Nat} {nx : Option Rc} {en : Nat → Option En} {n : Nat} {ml : List Nat} {q : Option Nat} {hE hM k : Nat} {g : Nat → Option Nat} {mf : Nat → Int32} {ar : Nat → Nat}
/-- what was met is another list, in the same row or another -/
theorem rpw_upd {f1 : gm} {ml' : List Nat} {hM' k' : Nat} {mf' : Nat → Int32} (h : rpw cI cN f x nx en n ml q hE hM k g mf ar) (h1 : f1 x = some (cRR q hE (nI (cn en n)) hM' (nI ml'.length))) (h2 : f1 hE = some (aE cN n g)) (h3 : f1 hM' = some (aI cI k' mf')) (hk : ∀ b y, f b = some y → (∃ r, y = cAr r) ∨ (∃ c w, y = cEn c w) → f1 b = f b) (h4 : k' ≤ 1024) (h5 : ml'.length ≤ k') (h6 : ∀ j, j < ml'.length → mf' j = nI (ml'.getD j 0)) : rpw cI cN f1 x nx en n ml' q hE hM' k' g mf' ar := by
  obtain ⟨⟨a1, a2, a3⟩, ⟨b1, b2⟩, ⟨c1, c2⟩, ⟨d1, d2, d3, d4⟩, e1, e2⟩ := h
  exact ⟨⟨h1, h2, h3⟩, ⟨rpn_kept b1 hk, fun j hj => rpe_kept (b2 j hj) hk⟩, ⟨c1, c2⟩, ⟨d1, d2, h4, d4⟩, h5, h6⟩
theorem rpw_met0 (h : rpw cI cN f x nx en n ml q hE hM k g mf ar) : rpw cI cN (gm_up f x (cRR q hE (nI (cn en n)) hM 0)) x nx en n [] q hE hM k g mf ar := by
  obtain ⟨a1, a2, a3⟩ := h.1
  refine rpw_upd h gm_up_self ?_ ?_ ?_ h.2.2.2.1.2.2.1 (Nat.zero_le _) (fun j hj => absurd hj (Nat.not_lt_zero _))
  · rw [gm_up_ne (gm_ne a2 a1 (by simp))]; exact a2
  · rw [gm_up_ne (gm_ne a3 a1 (by simp))]; exact a3
  · intro b y hb hy
    rw [gm_up_ne (gm_ne hb a1 (by rcases hy with ⟨r, rfl⟩ | ⟨c, w, rfl⟩ <;> simp))]
theorem rpw_metN (h : rpw cI cN f x nx en n ml q hE hM k g mf ar) {b : Nat} (hb : f b = none) (mf' : Nat → Int32) : rpw cI cN (gm_up (gm_up f b (aI cI n mf')) x (cRR q hE (nI (cn en n)) b 0)) x nx en n [] q hE b n g mf' ar := by
  obtain ⟨a1, a2, a3⟩ := h.1
  have hn : ∀ c y, f c = some y → c ≠ b := fun c y hc hh => by rw [hh, hb] at hc; cases hc
  refine rpw_upd h gm_up_self ?_ ?_ ?_ h.2.2.2.1.2.1 (Nat.zero_le _) (fun j hj => absurd hj (Nat.not_lt_zero _))
  · rw [gm_up_ne (gm_ne a2 a1 (by simp)), gm_up_ne (hn _ _ a2)]; exact a2
  · rw [gm_up_ne (fun hh => hn _ _ a1 hh.symm), gm_up_self]
  · intro c y hc hy
    rw [gm_up_ne (gm_ne hc a1 (by rcases hy with ⟨r, rfl⟩ | ⟨c, w, rfl⟩ <;> simp)), gm_up_ne (hn _ _ hc)]
theorem getD_snoc (l : List Nat) (i j : Nat) : (l ++ [i]).getD j 0 = if j < l.length then l.getD j 0 else if j = l.length then i else 0 := by
  by_cases h : j < l.length
  · rw [if_pos h]
    simp [List.getD, List.getElem?_append_left h]
  · rw [if_neg h]
    by_cases h2 : j = l.length
    · subst h2; simp [List.getD]
    · rw [if_neg h2]
      simp [List.getD, List.getElem?_append_right (by omega : l.length ≤ j)]
      have : j - l.length ≠ 0 := by omega
      cases hh : j - l.length with
      | zero => omega
      | succ m => rfl
theorem rpw_metS (h : rpw cI cN f x nx en n ml q hE hM k g mf ar) (i : Nat) (hlen : ml.length < k) : rpw cI cN (gm_up (gm_up f hM (aI cI k (upd mf ml.length (nI i)))) x (cRR q hE (nI (cn en n)) hM (nI ml.length + 1))) x nx en n (ml ++ [i]) q hE hM k g (upd mf ml.length (nI i)) ar := by
  obtain ⟨a1, a2, a3⟩ := h.1
  have h6 := h.2.2.2.2.2
  have hne : hE ≠ hM := gm_ne a2 a3 (by simp)
  refine rpw_upd h ?_ ?_ ?_ ?_ h.2.2.2.1.2.2.1 (by simp; omega) ?_
  · rw [gm_up_self]
    simp only [List.length_append, List.length_singleton, nI_1]
  · rw [gm_up_ne (gm_ne a2 a1 (by simp)), gm_up_ne hne]; exact a2
  · rw [gm_up_ne (gm_ne a3 a1 (by simp)), gm_up_self]
  · intro c y hc hy
    rw [gm_up_ne (gm_ne hc a1 (by rcases hy with ⟨r, rfl⟩ | ⟨c, w, rfl⟩ <;> simp)), gm_up_ne (gm_ne hc a3 (by rcases hy with ⟨r, rfl⟩ | ⟨c, w, rfl⟩ <;> simp))]
  · intro j hj
    rw [getD_snoc]
    by_cases h1 : j < ml.length
    · rw [if_pos h1, pk_un (by omega)]; exact h6 j h1
    · have h2 : j = ml.length := by simp at hj; omega
      rw [if_neg h1, if_pos h2, h2, pk_us]
/-- the row of entries becomes twice as long -/
theorem rpw_grow (h : rpw cI cN f x nx en n ml q hE hM k g mf ar) {b : Nat} (hb : f b = none) (hn : n ≤ 512) : rpw cI cN (gm_up (gm_up f b (aE cN (2 * n) (fun j => if j < n then g j else none))) x (cRR q b (nI (cn en n)) hM (nI ml.length))) x nx en (2 * n) ml q b hM k (fun j => if j < n then g j else none) mf ar := by
  obtain ⟨⟨a1, a2, a3⟩, ⟨b1, b2⟩, ⟨c1, c2⟩, ⟨d1, d2, d3, d4⟩, e1, e2⟩ := h
  have hnb : ∀ c y, f c = some y → c ≠ b := fun c y hc hh => by rw [hh, hb] at hc; cases hc
  have hk : ∀ c y, f c = some y → (∃ r, y = cAr r) ∨ (∃ c w, y = cEn c w) → gm_up (gm_up f b (aE cN (2 * n) (fun j => if j < n then g j else none))) x (cRR q b (nI (cn en n)) hM (nI ml.length)) c = f c := by
    intro c y hc hy
    rw [gm_up_ne (gm_ne hc a1 (by rcases hy with ⟨r, rfl⟩ | ⟨c, w, rfl⟩ <;> simp)), gm_up_ne (hnb _ _ hc)]
  have hlt : ∀ j, en j ≠ none → j < n := fun j hj => by
    rcases Nat.lt_or_ge j n with h | h
    · exact h
    · exact absurd (d1 j h) hj
  refine ⟨⟨?_, ?_, ?_⟩, ⟨rpn_kept b1 hk, ?_⟩, ⟨fun i j _ _ h1 h2 h3 => c1 i j (hlt i h1) (hlt j h2) h1 h2 h3, fun i _ h1 => c2 i (hlt i h1) h1⟩, ⟨fun i hi => d1 i (by omega), by omega, d3, by omega⟩, e1, e2⟩
  · rw [gm_up_self, cn_none d1 (2 * n) (by omega)]
  · rw [gm_up_ne (fun hh => hnb _ _ a1 hh.symm), gm_up_self]
  · rw [gm_up_ne (gm_ne a3 a1 (by simp)), gm_up_ne (hnb _ _ a3)]; exact a3
  · intro j hj
    by_cases h1 : j < n
    · simp only [h1, if_true]; exact rpe_kept (b2 j h1) hk
    · simp only [h1, if_false]
      rw [d1 j (by omega)]
      exact rfl
/-- a new entry, with a copy of the next rectangle -/
theorem rpw_add (h : rpw cI cN f x nx en n ml q hE hM k g mf ar) {i a z : Nat} {r : Rc} {w : Int32} (hi : i < n) (he : en i = none) (ha : f a = none) (hz : gm_up f a (cAr r) z = none) : rpw cI cN (gm_up (gm_up (gm_up (gm_up f a (cAr r)) z (cEn a w)) hE (aE cN n (va_up g i (some z)))) x (cRR q hE (nI (cn en n) + 1) hM (nI ml.length))) x nx (va_up en i (some (r, w))) n ml q hE hM k (va_up g i (some z)) mf (va_up ar i a) := by
  obtain ⟨⟨a1, a2, a3⟩, ⟨b1, b2⟩, ⟨c1, c2⟩, ⟨d1, d2, d3, d4⟩, e1, e2⟩ := h
  have hna : ∀ c y, f c = some y → c ≠ a := fun c y hc hh => by rw [hh, ha] at hc; cases hc
  have hza : z ≠ a := fun hh => by rw [hh, gm_up_self] at hz; cases hz
  have hfz : f z = none := by rw [gm_up_ne hza] at hz; exact hz
  have hnz : ∀ c y, f c = some y → c ≠ z := fun c y hc hh => by rw [hh, hfz] at hc; cases hc
  have hxE : hE ≠ x := gm_ne a2 a1 (by simp)
  have hk : ∀ c y, f c = some y → (∃ r, y = cAr r) ∨ (∃ c w, y = cEn c w) → gm_up (gm_up (gm_up (gm_up f a (cAr r)) z (cEn a w)) hE (aE cN n (va_up g i (some z)))) x (cRR q hE (nI (cn en n) + 1) hM (nI ml.length)) c = f c := by
    intro c y hc hy
    rw [gm_up_ne (gm_ne hc a1 (by rcases hy with ⟨r, rfl⟩ | ⟨c, w, rfl⟩ <;> simp)), gm_up_ne (gm_ne hc a2 (by rcases hy with ⟨r, rfl⟩ | ⟨c, w, rfl⟩ <;> simp)), gm_up_ne (hnz _ _ hc), gm_up_ne (hna _ _ hc)]
  have har : ∀ j, j < n → en j ≠ none → f (ar j) ≠ none := by
    intro j hj hn
    cases hej : en j with
    | none => exact absurd hej hn
    | some ej =>
      have := b2 j hj
      rw [hej] at this
      obtain ⟨y, y1, y2, y3⟩ := this
      rw [y3]; exact fun z => by cases z
  have hsome : ∀ j, j ≠ i → va_up en i (some (r, w)) j ≠ none → en j ≠ none := fun j hji hj => by rw [va_up_ne _ _ hji] at hj; exact hj
  refine ⟨⟨?_, ?_, ?_⟩, ⟨rpn_kept b1 hk, ?_⟩, ⟨?_, ?_⟩, ⟨?_, d2, d3, d4⟩, e1, e2⟩
  · rw [gm_up_self, cn_add he n hi, nI_1]
  · rw [gm_up_ne hxE, gm_up_self]
  · rw [gm_up_ne (gm_ne a3 a1 (by simp)), gm_up_ne (gm_ne a3 a2 (by simp)), gm_up_ne (hnz _ _ a3), gm_up_ne (hna _ _ a3)]; exact a3
  · intro j hj
    by_cases hji : j = i
    · subst hji
      rw [va_up_self, va_up_self, va_up_self]
      refine ⟨z, rfl, ?_, ?_⟩
      · rw [gm_up_ne (fun hh => hnz _ _ a1 hh.symm), gm_up_ne (fun hh => hnz _ _ a2 hh.symm), gm_up_self]
      · rw [gm_up_ne (fun hh => hna _ _ a1 hh.symm), gm_up_ne (fun hh => hna _ _ a2 hh.symm), gm_up_ne (Ne.symm hza), gm_up_self]
    · rw [va_up_ne _ _ hji, va_up_ne _ _ hji, va_up_ne _ _ hji]
      exact rpe_kept (b2 j hj) hk
  · intro s t hs ht h1 h2 h3
    by_cases hsi : s = i <;> by_cases hti : t = i
    · omega
    · rw [hsi, va_up_self, va_up_ne _ _ hti] at h3
      exact absurd ha (by rw [h3]; exact har t ht (hsome t hti h2))
    · rw [hti, va_up_self, va_up_ne _ _ hsi] at h3
      exact absurd ha (by rw [← h3]; exact har s hs (hsome s hsi h1))
    · rw [va_up_ne _ _ hsi, va_up_ne _ _ hti] at h3
      exact c1 s t hs ht (hsome s hsi h1) (hsome t hti h2) h3
  · intro s hs h1
    by_cases hsi : s = i
    · rw [hsi, va_up_self]
      intro hh
      cases nx with
      | none => rw [show q = none from b1] at hh; cases hh
      | some r0 =>
        obtain ⟨c, hc1, hc2⟩ := b1
        rw [hc1] at hh
        cases hh
        rw [ha] at hc2
        cases hc2
    · rw [va_up_ne _ _ hsi]
      exact c2 s hs (hsome s hsi h1)
  · intro j hj
    rw [va_up_ne _ _ (by omega)]
    exact d1 j hj
end RP2
end
section
/-! What a call does to all entries: which are met, which change or go. -/
def mtb (en : Nat → Option En) (r0 : Rc) (j : Nat) : Bool := match en j with
  | some e => decide (rMeet e.1 r0)
  | none => false
def mls (en : Nat → Option En) (r0 : Rc) (n : Nat) : List Nat := (List.range n).filter (mtb en r0)
theorem mls_t {en : Nat → Option En} {r0 : Rc} {n : Nat} (h : mtb en r0 n = true) : mls en r0 (n + 1) = mls en r0 n ++ [n] := by
  unfold mls
  rw [List.range_succ, List.filter_append]
  simp [h]
theorem mls_f {en : Nat → Option En} {r0 : Rc} {n : Nat} (h : mtb en r0 n = false) : mls en r0 (n + 1) = mls en r0 n := by
  unfold mls
  rw [List.range_succ, List.filter_append]
  simp [h]
theorem mls_len (en : Nat → Option En) (r0 : Rc) : ∀ n, (mls en r0 n).length ≤ n := by
  intro n
  have := List.length_filter_le (mtb en r0) (List.range n)
  rw [List.length_range] at this
  exact this
theorem mls_none {en : Nat → Option En} {r0 : Rc} {n : Nat} (h : ∀ j, n ≤ j → en j = none) : ∀ m, n ≤ m → mls en r0 m = mls en r0 n := by
  intro m hm
  induction m with
  | zero => rw [show n = 0 by omega]
  | succ m ih =>
    by_cases e : n = m + 1
    · rw [e]
    · rw [mls_f (by unfold mtb; rw [h m (by omega)]), ih (by omega)]
def mapE (φ : En → Option En) (en : Nat → Option En) : Nat → Option En := fun j => (en j).bind φ
def mapI (φ : En → Option En) (en : Nat → Option En) (i : Nat) : Nat → Option En := fun j => if j < i then (en j).bind φ else en j
theorem mapI_0 {φ : En → Option En} {en : Nat → Option En} : mapI φ en 0 = en := by funext j; simp [mapI]
theorem mapI_at {φ : En → Option En} {en : Nat → Option En} {i : Nat} : mapI φ en i i = en i := by simp [mapI]
theorem mapI_s {φ : En → Option En} {en : Nat → Option En} {i : Nat} {e : En} (h : en i = some e) : mapI φ en (i + 1) = va_up (mapI φ en i) i (φ e) := by
  funext j
  by_cases hj : j = i
  · subst hj; rw [va_up_self]; simp [mapI, h]
  · rw [va_up_ne _ _ hj]
    have : j < i + 1 ↔ j < i := by omega
    simp [mapI, this]
theorem mapI_n {φ : En → Option En} {en : Nat → Option En} {i : Nat} (h : en i = none) : mapI φ en (i + 1) = mapI φ en i := by
  funext j
  by_cases hj : j = i
  · subst hj; simp [mapI, h]
  · have : j < i + 1 ↔ j < i := by omega
    simp [mapI, this]
theorem mapI_k {φ : En → Option En} {en : Nat → Option En} {i : Nat} {e : En} (h : en i = some e) (hφ : φ e = some e) : mapI φ en (i + 1) = mapI φ en i := by
  rw [mapI_s h, hφ]
  funext j
  by_cases hj : j = i
  · subst hj; rw [va_up_self, mapI_at, h]
  · rw [va_up_ne _ _ hj]
theorem mapI_end {φ : En → Option En} {en : Nat → Option En} {n : Nat} (h : ∀ j, n ≤ j → en j = none) : mapI φ en n = mapE φ en := by
  funext j
  unfold mapI mapE
  by_cases hj : j < n
  · rw [if_pos hj]
  · rw [if_neg hj, h j (by omega)]; rfl
def cb1 (χ : En → Bool) (o : Option En) : Nat := match o with
  | some e => if χ e then 1 else 0
  | none => 0
def cbE (χ : En → Bool) (en : Nat → Option En) : Nat → Nat
  | 0 => 0
  | n + 1 => cbE χ en n + cb1 χ (en n)
theorem cbE_none {χ : En → Bool} {en : Nat → Option En} {n : Nat} (h : ∀ j, n ≤ j → en j = none) : ∀ m, n ≤ m → cbE χ en m = cbE χ en n := by
  intro m hm
  induction m with
  | zero => rw [show n = 0 by omega]
  | succ m ih =>
    by_cases e : n = m + 1
    · rw [e]
    · show cbE χ en m + cb1 χ (en m) = cbE χ en n
      rw [h m (by omega), ih (by omega)]
      rfl
theorem cbE_le (χ : En → Bool) (en : Nat → Option En) : ∀ n, cbE χ en n ≤ n
  | 0 => Nat.le_refl 0
  | n + 1 => by
    have := cbE_le χ en n
    show cbE χ en n + cb1 χ (en n) ≤ n + 1
    have h1 : cb1 χ (en n) ≤ 1 := by
      unfold cb1
      split
      · split <;> omega
      · omega
    omega
theorem cb_t {χ : En → Bool} {en : Nat → Option En} {i : Nat} {e : En} (h : en i = some e) (hχ : χ e = true) : cbE χ en (i + 1) = cbE χ en i + 1 := by
  show cbE χ en i + cb1 χ (en i) = _
  rw [h]; simp [cb1, hχ]
theorem cb_f {χ : En → Bool} {en : Nat → Option En} {i : Nat} {e : En} (h : en i = some e) (hχ : χ e = false) : cbE χ en (i + 1) = cbE χ en i := by
  show cbE χ en i + cb1 χ (en i) = _
  rw [h]; simp [cb1, hχ]
theorem cb_n {χ : En → Bool} {en : Nat → Option En} {i : Nat} (h : en i = none) : cbE χ en (i + 1) = cbE χ en i := by
  show cbE χ en i + cb1 χ (en i) = _
  rw [h]; simp [cb1]
/-- the lines of an entry become a .. b; it goes if they are none -/
def plE (cs : Bool) (a b : Int32) (e : En) : Option En := if b < a then none else some (rS cs a b e.1, e.2)
theorem rS_same (cs : Bool) (r : Rc) : rS cs (rF cs r) (rL cs r) r = r := by cases cs <;> rfl
theorem va_up_id {en : Nat → Option En} {i : Nat} {e : En} (h : en i = some e) : va_up en i (some e) = en := by
  funext j
  by_cases hj : j = i
  · subst hj; rw [va_up_self, h]
  · rw [va_up_ne _ _ hj]
theorem grow_s {g : Nat → Option Nat} {i z : Nat} (h : g i = some z) : va_up (fun j => if j < i then g j else none) i (some z) = fun j => if j < i + 1 then g j else none := by
  funext j
  by_cases hj : j = i
  · subst hj; rw [va_up_self]; simp [h]
  · rw [va_up_ne _ _ hj]
    have : j < i + 1 ↔ j < i := by omega
    simp [this]
theorem grow_min {n : Nat} (h : n ≤ 512) : (if (32768 : Int32) < 2 * nI n then 32768 else 2 * nI n) = nI (2 * n) := by
  have e : (2 : Int32) * nI n = nI (2 * n) := pk_mul 2 n
  rw [e, if_neg]
  rw [i_lt, t_32768, nI_toInt (by omega)]
  omega
theorem plE_n {cs : Bool} {a b : Int32} {e : En} (h : ¬ a ≤ b) : plE cs a b e = none := if_pos (by rw [i_le] at h; rw [i_lt]; omega)
theorem plE_s {cs : Bool} {a b : Int32} {e : En} (h : a ≤ b) : plE cs a b e = some (rS cs a b e.1, e.2) := if_neg (by rw [i_le] at h; rw [i_lt]; omega)
theorem plE_same {cs : Bool} {a b : Int32} {e : En} (h1 : a = rF cs e.1) (h2 : b = rL cs e.1) (h : rF cs e.1 ≤ rL cs e.1) : plE cs a b e = some e := by
  rw [plE_s (by rw [h1, h2]; exact h), h1, h2, rS_same]
theorem bI_tn {p : Prop} [Decidable p] (h : ¬ p) : bI (decide (¬ p)) = 1 := by simp [bI, h]
theorem bI_fn {p : Prop} [Decidable p] (h : p) : bI (decide (¬ p)) = 0 := by simp [bI, h]
theorem i_nlt {x y : Int32} (h : ¬ x < y) : y ≤ x := by rw [i_lt] at h; rw [i_le]; omega
theorem i_ltn {x y : Int32} (h : x < y) : ¬ y ≤ x := by rw [i_lt] at h; rw [i_le]; omega
theorem i_nle {x y : Int32} (h : ¬ x ≤ y) : y < x := by rw [i_le] at h; rw [i_lt]; omega
theorem i_len {x y : Int32} (h : x ≤ y) : ¬ y < x := by rw [i_le] at h; rw [i_lt]; omega
end
section
/-! RangeReaders: makeRoom, findMeeting, putLines. By gen/m17.py. -/
set_option maxRecDepth 100000 in
set_option maxHeartbeats 4000000 in
theorem k_makeRoomA (l : Launch) (D : va_G) (cI cN cZ cJ : ClassId) (f : gm) (x : Nat) (q : Option Nat) (hE hM : Nat) (held mc : Int32) (n : Nat) (g : Nat → Option Nat) (hx : f x = some (cRR q hE held hM mc)) (h1 : f hE = some (aE cN n g)) (hn : n ≤ 1024) (hlt : ¬ nI n ≤ held) : gk l yX2_makeRoom (.code yX2_makeRoom cX2_makeRoom 3 (Option.none : Option Jvm.ClassFile.FieldType)) (rmk 0 0 0) D (tyl cI cN cZ cJ) [.ref x] f (fun v u => v = none ∧ u = f) := by
  refine gk_of [some (.ref x), none, none] (by decide) rfl (Nat.le_of_ble_eq_true rfl) rfl ?_
  intro p e s m args below meth c A C hV hr hlk hnm
  refine gj_aload_n C dX2_makeRoom_0 rfl ?_
  refine gj_get C dX2_makeRoom_1 hx rfl inX2 2 (by decide) w_23 rfl ?_
  refine gj_aload_n C dX2_makeRoom_4 rfl ?_
  refine gj_get C dX2_makeRoom_5 hx rfl inX2 1 (by decide) w_22 rfl ?_
  refine gj_alen C 1 dX2_makeRoom_8 h1 rfl ?_
  refine gj_icmp_geF (tgt := 13) C dX2_makeRoom_9 (by decide) hlt ?_
  exact gj_vret C hr hlk dX2_makeRoom_12 (⟨rfl, rfl⟩)
set_option maxRecDepth 100000 in
set_option maxHeartbeats 4000000 in
theorem k_makeRoomB (l : Launch) (D : va_G) (cI cN cZ cJ : ClassId) (f : gm) (x : Nat) (q : Option Nat) (hE hM : Nat) (mc : Int32) (n : Nat) (g : Nat → Option Nat) (hx : f x = some (cRR q hE (nI n) hM mc)) (h1 : f hE = some (aE cN n g)) (hn : n ≤ 512) (hall : ∀ j, j < n → ∃ z c w, g j = some z ∧ f z = some (cEn c w)) : gk l yX2_makeRoom (.code yX2_makeRoom cX2_makeRoom 3 (Option.none : Option Jvm.ClassFile.FieldType)) (rmk 0 1 (2 * n)) D (tyl cI cN cZ cJ) [.ref x] f (fun v u => ∃ b, v = none ∧ f b = none ∧ u = gm_up (gm_up f b (aE cN (2 * n) (fun j => if j < n then g j else none))) x (cRR q b (nI n) hM mc)) := by
  refine gk_of [some (.ref x), none, none] (by decide) rfl (Nat.le_of_ble_eq_true rfl) rfl ?_
  intro p e s m args below meth c A C hV hr hlk hnm
  have loop : ∀ (b : Nat), f b = none → ∀ (d i : Nat), i + d = n → gj p l e (rmk 0 1 (2 * n)) s m args below meth c D vwCl A 3 (MQ below (gk_Q (fun v u => ∃ b, v = none ∧ f b = none ∧ u = gm_up (gm_up f b (aE cN (2 * n) (fun j => if j < n then g j else none))) x (cRR q b (nI n) hM mc)) D A) args s (rmk 0 1 (2 * n)).cells (rmk 0 1 (2 * n)).slots A) (gm_up f b (aE cN (2 * n) (fun j => if j < i then g j else none))) 0 0 30 [some (.ref x), some (.ref b), some (.int (nI i))] [] := by
    intro b hb d
    induction d with
    | zero =>
      intro i hik
      have hik : i = n := by omega
      subst hik
      have hik : i = i := rfl
      refine gj_iload_n C dX2_makeRoom_30 rfl ?_
      refine gj_aload_n C dX2_makeRoom_31 rfl ?_
      refine gj_get C dX2_makeRoom_32 (gm_up_of hx hb) rfl inX2 1 (by decide) w_22 rfl ?_
      refine gj_alen C 1 dX2_makeRoom_35 (gm_up_of h1 hb) rfl ?_
      refine gj_icmp_geT (tgt := 60) C dX2_makeRoom_36 (by decide) (Int32.le_refl _) ?_
      refine gj_aload_n C dX2_makeRoom_60 rfl ?_
      refine gj_aload_n C dX2_makeRoom_61 rfl ?_
      refine gj_put C dX2_makeRoom_62 (gm_up_of hx hb) rfl inX2 tyX2_ok nmX2 1 (by decide) w_22 rfl rfl rfl (Nat.le_of_ble_eq_true rfl) ?_
      exact gj_vret C hr hlk dX2_makeRoom_65 (⟨b, rfl, hb, rfl⟩)
    | succ d ih =>
      intro i hik
      have hj : i < n := by omega
      refine gj_iload_n C dX2_makeRoom_30 rfl ?_
      refine gj_aload_n C dX2_makeRoom_31 rfl ?_
      refine gj_get C dX2_makeRoom_32 (gm_up_of hx hb) rfl inX2 1 (by decide) w_22 rfl ?_
      refine gj_alen C 1 dX2_makeRoom_35 (gm_up_of h1 hb) rfl ?_
      refine gj_icmp_geF (tgt := 60) C dX2_makeRoom_36 (by decide) (nI_ge hj (by omega)) ?_
      refine gj_iload_n C dX2_makeRoom_39 rfl ?_
      refine gj_aload_n C dX2_makeRoom_40 rfl ?_
      refine gj_alen C 1 dX2_makeRoom_41 gm_up_self rfl ?_
      refine gj_icmp_geF (tgt := 60) C dX2_makeRoom_42 (by decide) (nI_ge (by omega) (by omega)) ?_
      refine gj_aload_n C dX2_makeRoom_45 rfl ?_
      refine gj_iload_n C dX2_makeRoom_46 rfl ?_
      refine gj_aload_n C dX2_makeRoom_47 rfl ?_
      refine gj_get C dX2_makeRoom_48 (gm_up_of hx hb) rfl inX2 1 (by decide) w_22 rfl ?_
      refine gj_iload_n C dX2_makeRoom_51 rfl ?_
      obtain ⟨z, c0, w0, hz, hz2⟩ := hall i hj
      refine gj_aaldN C 1 dX2_makeRoom_52 (gm_up_of h1 hb) rfl hj (by omega) ?_
      refine gj_st (st' := [.ref z, .int (nI i), .ref b]) (by rw [hz]; rfl) ?_
      refine gj_aastJ C 1 dX2_makeRoom_53 gm_up_self rfl (gm_up_of hz2 hb) rfl (by omega) (by omega) ?_
      refine gj_f (f' := (gm_up f b (aE cN (2 * n) (fun j => if j < i + 1 then g j else none)))) (by rw [gm_up_up, grow_s hz]) ?_
      refine gj_iinc (v := (nI (i + 1))) (lw' := [some (.ref x), some (.ref b), some (.int (nI (i + 1)))]) C dX2_makeRoom_54 rfl (nI_1 i) (by decide) rfl rfl ?_
      refine gj_goto (tgt := 30) C dX2_makeRoom_57 (by decide) ?_
      exact ih (i + 1) (by omega)
  refine gj_aload_n C dX2_makeRoom_0 rfl ?_
  refine gj_get C dX2_makeRoom_1 hx rfl inX2 2 (by decide) w_23 rfl ?_
  refine gj_aload_n C dX2_makeRoom_4 rfl ?_
  refine gj_get C dX2_makeRoom_5 hx rfl inX2 1 (by decide) w_22 rfl ?_
  refine gj_alen C 1 dX2_makeRoom_8 h1 rfl ?_
  refine gj_icmp_geT (tgt := 13) C dX2_makeRoom_9 (by decide) (Int32.le_refl _) ?_
  refine gj_iconst (v := 2) C dX2_makeRoom_13 (by decide) ?_
  refine gj_aload_n C dX2_makeRoom_14 rfl ?_
  refine gj_get C dX2_makeRoom_15 hx rfl inX2 2 (by decide) w_23 rfl ?_
  refine gj_imul C dX2_makeRoom_18 ?_
  refine gj_ldc (v := 32768) C dX2_makeRoom_19 w_187 ?_
  refine gj_mmin C dX2_makeRoom_21 w_208 w_209 w_9 w_210 (Nat.le_of_ble_eq_true rfl) (Nat.le_of_ble_eq_true rfl) ?_
  refine gj_st (st' := [.int (nI (2 * n))]) (by rw [grow_min hn]) ?_
  refine gj_newq (N := 2 * n) (nc := 0) (ns := 0) C 1 dX2_makeRoom_24 rfl w_19 (hV.2.2.1 _ (List.mem_of_getElem? (i := 0) rfl)) (nI_pos (by omega)) (nI_clamp (by omega)) (by omega) (by show 0 + 1 ≤ 1; decide) (by show 0 + 2 * n ≤ 2 * n; omega) (fun b hb => ?_)
  refine gj_f (f' := (gm_up f b (aE cN (2 * n) (fun j => if j < 0 then g j else none)))) (by simp only [Nat.not_lt_zero, if_false]) ?_
  refine gj_astore_n (lw' := [some (.ref x), some (.ref b), none]) C dX2_makeRoom_27 (by decide) rfl rfl ?_
  refine gj_iconst (v := 0) C dX2_makeRoom_28 (by decide) ?_
  refine gj_istore_n (lw' := [some (.ref x), some (.ref b), some (.int 0)]) C dX2_makeRoom_29 (by decide) rfl rfl ?_
  exact loop b hb n 0 (by omega)
end
section
/-! RangeReaders: findMeeting, putLines. By gen/m18.py. -/
set_option maxRecDepth 100000 in
set_option maxHeartbeats 4000000 in
theorem k_findMeeting (l : Launch) (D : va_G) (cI cN cZ cJ : ClassId) (f : gm) (x : Nat) (nx : Option Rc) (en : Nat → Option En) (n : Nat) (ml : List Nat) (a : Nat) (r0 : Rc) (hR : Rp cI cN f x nx en n ml) (ha : f a = some (cAr r0)) : gk l yX2_findMeeting (.code yX2_findMeeting cX2_findMeeting 4 (Option.none : Option Jvm.ClassFile.FieldType)) (rmk 1 1 1024) D (tyl cI cN cZ cJ) [.ref x, .ref a] f (fun v u => v = none ∧ Rp cI cN u x nx en n (mls en r0 n)) := by
  refine gk_of [some (.ref x), some (.ref a), none, none] (by decide) rfl (Nat.le_of_ble_eq_true rfl) rfl ?_
  intro p e s m args below meth c A C hV hr hlk hnm
  obtain ⟨q, hE, hM, k, g, mf, ar, hW⟩ := hR
  have hn : n ≤ 1024 := hW.2.2.2.1.2.1
  have hk : k ≤ 1024 := hW.2.2.2.1.2.2.1
  have loop : ∀ (hM k : Nat), k ≤ 1024 → n ≤ k → ∀ (d i : Nat) (f : gm) (mf : Nat → Int32), i + d = n → rpw cI cN f x nx en n (mls en r0 i) q hE hM k g mf ar → f a = some (cAr r0) → gj p l e (rmk 1 1 1024) s m args below meth c D vwCl A 4 (MQ below (gk_Q (fun v u => v = none ∧ Rp cI cN u x nx en n (mls en r0 n)) D A) args s (rmk 1 1 1024).cells (rmk 1 1 1024).slots A) f 0 0 31 [some (.ref x), some (.ref a), some (.int (nI i)), none] [] := by
    intro hM k hk hnk d
    induction d with
    | zero =>
      intro i f mf hid hW ha
      rw [show mls en r0 i = mls en r0 n by rw [show i = n by omega]] at hW
      refine gj_iload_n C dX2_findMeeting_31 rfl ?_
      refine gj_aload_n C dX2_findMeeting_32 rfl ?_
      refine gj_get C dX2_findMeeting_33 hW.1.1 rfl inX2 1 (by decide) w_22 rfl ?_
      refine gj_alen C 1 dX2_findMeeting_36 hW.1.2.1 rfl ?_
      refine gj_icmp_geT (tgt := 100) C dX2_findMeeting_37 (by decide) (by rw [show i = n by omega]; exact Int32.le_refl _) ?_
      exact gj_vret C hr hlk dX2_findMeeting_100 (⟨rfl, q, hE, hM, k, g, mf, ar, hW⟩)
    | succ d ih =>
      intro i f mf hid hW ha
      have hj : i < n := by omega
      have hlen : (mls en r0 i).length < k := by have := mls_len en r0 i; omega
      cases hei : en i with
      | none =>
        refine gj_iload_n C dX2_findMeeting_31 rfl ?_
        refine gj_aload_n C dX2_findMeeting_32 rfl ?_
        refine gj_get C dX2_findMeeting_33 hW.1.1 rfl inX2 1 (by decide) w_22 rfl ?_
        refine gj_alen C 1 dX2_findMeeting_36 hW.1.2.1 rfl ?_
        refine gj_icmp_geF (tgt := 100) C dX2_findMeeting_37 (by decide) (nI_ge hj (by omega)) ?_
        refine gj_aload_n C dX2_findMeeting_40 rfl ?_
        refine gj_get C dX2_findMeeting_41 hW.1.1 rfl inX2 1 (by decide) w_22 rfl ?_
        refine gj_iload_n C dX2_findMeeting_44 rfl ?_
        refine gj_aaldN C 1 dX2_findMeeting_45 hW.1.2.1 rfl hj (by omega) ?_
        refine gj_st (st' := [.null]) (by rw [rpw_no hW hj hei]; rfl) ?_
        refine gj_astore_nN (lw' := [some (.ref x), some (.ref a), some (.int (nI i)), some (.null)]) C dX2_findMeeting_46 (by decide) rfl rfl ?_
        refine gj_aload_nN C dX2_findMeeting_47 rfl ?_
        refine gj_ifnullN (tgt := 94) C dX2_findMeeting_48 (by decide) ?_
        refine gj_iinc (v := (nI (i + 1))) (lw' := [some (.ref x), some (.ref a), some (.int (nI (i + 1))), some (.null)]) C dX2_findMeeting_94 rfl (nI_1 i) (by decide) rfl rfl ?_
        refine gj_goto (tgt := 31) C dX2_findMeeting_97 (by decide) ?_
        refine gj_un 3 (lw' := [some (.ref x), some (.ref a), some (.int (nI (i + 1))), none]) rfl ?_
        exact ih (i + 1) f mf (by omega) (by rw [mls_f (by unfold mtb; rw [hei])]; exact hW) ha
      | some e0 =>
        obtain ⟨z, z1, z2, z3⟩ := rpw_at hW hj hei
        refine gj_iload_n C dX2_findMeeting_31 rfl ?_
        refine gj_aload_n C dX2_findMeeting_32 rfl ?_
        refine gj_get C dX2_findMeeting_33 hW.1.1 rfl inX2 1 (by decide) w_22 rfl ?_
        refine gj_alen C 1 dX2_findMeeting_36 hW.1.2.1 rfl ?_
        refine gj_icmp_geF (tgt := 100) C dX2_findMeeting_37 (by decide) (nI_ge hj (by omega)) ?_
        refine gj_aload_n C dX2_findMeeting_40 rfl ?_
        refine gj_get C dX2_findMeeting_41 hW.1.1 rfl inX2 1 (by decide) w_22 rfl ?_
        refine gj_iload_n C dX2_findMeeting_44 rfl ?_
        refine gj_aaldN C 1 dX2_findMeeting_45 hW.1.2.1 rfl hj (by omega) ?_
        refine gj_st (st' := [.ref z]) (by rw [z1]; rfl) ?_
        refine gj_astore_n (lw' := [some (.ref x), some (.ref a), some (.int (nI i)), some (.ref z)]) C dX2_findMeeting_46 (by decide) rfl rfl ?_
        refine gj_aload_n C dX2_findMeeting_47 rfl ?_
        refine gj_ifnull C dX2_findMeeting_48 ?_
        refine gj_aload_n C dX2_findMeeting_51 rfl ?_
        refine gj_getN C dX2_findMeeting_52 z2 rfl inX1 0 (by decide) (hV.2.1 _ nw_8) rfl ?_
        refine gj_aload_n C dX2_findMeeting_55 rfl ?_
        refine gj_cVN (As := [.ref a]) (rest := []) (nc := 0) (ns := 0) C hV (k_Area_meets l D (tyl cI cN cZ cJ) f (ar i) a e0.1 r0 z3 ha) dX2_findMeeting_56 rfl w_250 rfl nw_10 w_3 w_249 ws_7 hd_X0_meets rfl z3 rfl ⟨Nat.le_of_ble_eq_true rfl, Nat.le_of_ble_eq_true rfl⟩ (Nat.le_of_ble_eq_true rfl) (by decide) (by decide) (fun v u hp1 => ?_)
        refine gj_rt (st' := [.int (bI (decide (rMeet e0.1 r0)))]) hp1.1 hp1.2 rfl ?_
        refine gj_if_eq (tgt := 94) C dX2_findMeeting_59 (by decide) (fun c2 => ?_) (fun c2 => ?_)
        · refine gj_iinc (v := (nI (i + 1))) (lw' := [some (.ref x), some (.ref a), some (.int (nI (i + 1))), some (.ref z)]) C dX2_findMeeting_94 rfl (nI_1 i) (by decide) rfl rfl ?_
          refine gj_goto (tgt := 31) C dX2_findMeeting_97 (by decide) ?_
          refine gj_un 3 (lw' := [some (.ref x), some (.ref a), some (.int (nI (i + 1))), none]) rfl ?_
          exact ih (i + 1) f mf (by omega) (by rw [mls_f (by unfold mtb; rw [hei]; exact decide_eq_false (bI_p0 c2))]; exact hW) ha
        · refine gj_aload_n C dX2_findMeeting_62 rfl ?_
          refine gj_get C dX2_findMeeting_63 hW.1.1 rfl inX2 4 (by decide) w_25 rfl ?_
          refine gj_aload_n C dX2_findMeeting_66 rfl ?_
          refine gj_get C dX2_findMeeting_67 hW.1.1 rfl inX2 3 (by decide) w_24 rfl ?_
          refine gj_alen C 0 dX2_findMeeting_70 hW.1.2.2 rfl ?_
          refine gj_icmp_geF (tgt := 94) C dX2_findMeeting_71 (by decide) (nI_ge hlen (by omega)) ?_
          refine gj_aload_n C dX2_findMeeting_74 rfl ?_
          refine gj_get C dX2_findMeeting_75 hW.1.1 rfl inX2 3 (by decide) w_24 rfl ?_
          refine gj_aload_n C dX2_findMeeting_78 rfl ?_
          refine gj_get C dX2_findMeeting_79 hW.1.1 rfl inX2 4 (by decide) w_25 rfl ?_
          refine gj_iload_n C dX2_findMeeting_82 rfl ?_
          refine gj_iastN C 0 dX2_findMeeting_83 hW.1.2.2 rfl hlen (by omega) ?_
          refine gj_aload_n C dX2_findMeeting_84 rfl ?_
          refine gj_dup C dX2_findMeeting_85 rfl ?_
          refine gj_get C dX2_findMeeting_86 ((gm_up_ne (gm_ne hW.1.1 hW.1.2.2 (by simp))).trans hW.1.1) rfl inX2 4 (by decide) w_25 rfl ?_
          refine gj_iconst (v := 1) C dX2_findMeeting_89 (by decide) ?_
          refine gj_iadd C dX2_findMeeting_90 ?_
          refine gj_put C dX2_findMeeting_91 ((gm_up_ne (gm_ne hW.1.1 hW.1.2.2 (by simp))).trans hW.1.1) rfl inX2 tyX2_ok nmX2 4 (by decide) w_25 rfl rfl rfl (Nat.le_of_ble_eq_true rfl) ?_
          refine gj_iinc (v := (nI (i + 1))) (lw' := [some (.ref x), some (.ref a), some (.int (nI (i + 1))), some (.ref z)]) C dX2_findMeeting_94 rfl (nI_1 i) (by decide) rfl rfl ?_
          refine gj_goto (tgt := 31) C dX2_findMeeting_97 (by decide) ?_
          refine gj_un 3 (lw' := [some (.ref x), some (.ref a), some (.int (nI (i + 1))), none]) rfl ?_
          exact ih (i + 1) _ _ (by omega) (by rw [mls_t (by unfold mtb; rw [hei]; exact decide_eq_true (bI_p1 c2))]; exact rpw_metS hW i hlen) ((gm_up_ne (gm_ne ha hW.1.1 (by simp))).trans ((gm_up_ne (gm_ne ha hW.1.2.2 (by simp))).trans ha))
  refine gj_aload_n C dX2_findMeeting_0 rfl ?_
  refine gj_get C dX2_findMeeting_1 hW.1.1 rfl inX2 3 (by decide) w_24 rfl ?_
  refine gj_alen C 0 dX2_findMeeting_4 hW.1.2.2 rfl ?_
  refine gj_aload_n C dX2_findMeeting_5 rfl ?_
  refine gj_get C dX2_findMeeting_6 hW.1.1 rfl inX2 1 (by decide) w_22 rfl ?_
  refine gj_alen C 1 dX2_findMeeting_9 hW.1.2.1 rfl ?_
  refine gj_icmp_ge (tgt := 24) C dX2_findMeeting_10 (by decide) (fun c3 => ?_) (fun c3 => ?_)
  · refine gj_aload_n C dX2_findMeeting_24 rfl ?_
    refine gj_iconst (v := 0) C dX2_findMeeting_25 (by decide) ?_
    refine gj_put C dX2_findMeeting_26 hW.1.1 rfl inX2 tyX2_ok nmX2 4 (by decide) w_25 rfl rfl rfl (Nat.le_of_ble_eq_true rfl) ?_
    refine gj_iconst (v := 0) C dX2_findMeeting_29 (by decide) ?_
    refine gj_istore_n (lw' := [some (.ref x), some (.ref a), some (.int 0), none]) C dX2_findMeeting_30 (by decide) rfl rfl ?_
    refine gj_un 3 (lw' := [some (.ref x), some (.ref a), some (.int 0), none]) rfl ?_
    refine gj_nc (Nat.zero_le _) (Nat.zero_le _) ?_
    exact loop hM k hk ((nI_leI (by omega) (by omega)).mp c3) n 0 _ mf (by omega) (rpw_met0 hW) ((gm_up_ne (gm_ne ha hW.1.1 (by simp))).trans ha)
  · refine gj_aload_n C dX2_findMeeting_13 rfl ?_
    refine gj_aload_n C dX2_findMeeting_14 rfl ?_
    refine gj_get C dX2_findMeeting_15 hW.1.1 rfl inX2 1 (by decide) w_22 rfl ?_
    refine gj_alen C 1 dX2_findMeeting_18 hW.1.2.1 rfl ?_
    refine gj_newa (N := n) (a0 := (n, .inl (fun _ => 0))) (nc := 0) (ns := 0) C 0 dX2_findMeeting_19 rfl rfl w_37 (fun _ => rfl) (nI_pos (by omega)) (nI_clamp (by omega)) (by show n * 4 ≤ 536870912; omega) (by show 0 + 1 ≤ 1; decide) (by show 0 + n ≤ 1024; omega) (fun b hb => ?_)
    refine gj_put C dX2_findMeeting_21 (gm_up_of hW.1.1 hb) rfl inX2 tyX2_ok nmX2 3 (by decide) w_24 rfl rfl rfl (Nat.le_of_ble_eq_true rfl) ?_
    refine gj_aload_n C dX2_findMeeting_24 rfl ?_
    refine gj_iconst (v := 0) C dX2_findMeeting_25 (by decide) ?_
    refine gj_put C dX2_findMeeting_26 gm_up_self rfl inX2 tyX2_ok nmX2 4 (by decide) w_25 rfl rfl rfl (Nat.le_of_ble_eq_true rfl) ?_
    refine gj_iconst (v := 0) C dX2_findMeeting_29 (by decide) ?_
    refine gj_istore_n (lw' := [some (.ref x), some (.ref a), some (.int 0), none]) C dX2_findMeeting_30 (by decide) rfl rfl ?_
    refine gj_un 3 (lw' := [some (.ref x), some (.ref a), some (.int 0), none]) rfl ?_
    refine gj_f (f' := gm_up (gm_up f b (aI cI n (fun _ => 0))) x (cRR q hE (nI (cn en n)) b 0)) (by rw [gm_up_up] <;> rfl) ?_
    exact loop b n hn (Nat.le_refl _) n 0 _ _ (by omega) (rpw_metN hW hb _) ((gm_up_ne (gm_ne ha hW.1.1 (by simp))).trans (gm_up_of ha hb))
set_option maxRecDepth 100000 in
set_option maxHeartbeats 4000000 in
theorem k_putLines (l : Launch) (D : va_G) (cI cN cZ cJ : ClassId) (f : gm) (x : Nat) (nx : Option Rc) (en : Nat → Option En) (n : Nat) (ml : List Nat) (i : Nat) (e0 : En) (cs : Bool) (a b : Int32) (hR : Rp cI cN f x nx en n ml) (hi : i < n) (hei : en i = some e0) (hle : rF cs e0.1 ≤ rL cs e0.1) : gk l yX2_putLines (.code yX2_putLines cX2_putLines 7 (Option.some Jvm.ClassFile.FieldType.int)) (rmk 1 0 0) D (tyl cI cN cZ cJ) [.ref x, .int (nI i), .int (bI cs), .int a, .int b] f (fun v u => v = some (.int (bI (decide (¬ (a = rF cs e0.1 ∧ b = rL cs e0.1))))) ∧ Rp cI cN u x nx (va_up en i (plE cs a b e0)) n ml) := by
  refine gk_of [some (.ref x), some (.int (nI i)), some (.int (bI cs)), some (.int a), some (.int b), none, none] (by decide) rfl (Nat.le_of_ble_eq_true rfl) rfl ?_
  intro p e s m args below meth c A C hV hr hlk hnm
  obtain ⟨q, hE, hM, k, g, mf, ar, hW⟩ := hR
  have hn : n ≤ 1024 := hW.2.2.2.1.2.1
  have hk : k ≤ 1024 := hW.2.2.2.1.2.2.1
  obtain ⟨z, z1, z2, z3⟩ := rpw_at hW hi hei
  refine gj_aload_n C dX2_putLines_0 rfl ?_
  refine gj_iload_n C dX2_putLines_1 rfl ?_
  refine gj_cV (As := [.int (nI i)]) (rest := []) (nc := 0) (ns := 0) C hV (k_entryAt l D cI cN cZ cJ f x q hE hM _ _ n g (nI i) hW.1.1 hW.1.2.1 hn) dX2_putLines_2 rfl w_89 rfl w_86 w_1 w_88 ws_0 hd_X2_entryAt rfl hW.1.1 rfl ⟨Nat.le_of_ble_eq_true rfl, Nat.le_of_ble_eq_true rfl⟩ (Nat.le_of_ble_eq_true rfl) (by decide) (by decide) (fun v u hp => ?_)
  obtain ⟨hp1, hu⟩ := hp
  rcases hp1 with ⟨j9, hj9, hij, hv⟩ | ⟨hno, -⟩
  · have hij : i = j9 := (nI_eq (by omega) (by omega)).mp hij
    subst hij
    refine gj_rt (st' := [.ref z]) (hv.trans (by rw [z1])) hu rfl ?_
    refine gj_astore (lw' := [some (.ref x), some (.int (nI i)), some (.int (bI cs)), some (.int a), some (.int b), some (.ref z), none]) C dX2_putLines_5 (by decide) rfl rfl ?_
    refine gj_aload C dX2_putLines_7 rfl ?_
    refine gj_ifnonnull (tgt := 14) C dX2_putLines_9 (by decide) ?_
    refine gj_aload C dX2_putLines_14 rfl ?_
    refine gj_getN C dX2_putLines_16 z2 rfl inX1 0 (by decide) (hV.2.1 _ nw_8) rfl ?_
    refine gj_astore (lw' := [some (.ref x), some (.int (nI i)), some (.int (bI cs)), some (.int a), some (.int b), some (.ref z), some (.ref (ar i))]) C dX2_putLines_19 (by decide) rfl rfl ?_
    refine gj_iload_n C dX2_putLines_21 rfl ?_
    refine gj_aload C dX2_putLines_22 rfl ?_
    refine gj_iload_n C dX2_putLines_24 rfl ?_
    refine gj_cVN (As := [.int (bI cs)]) (rest := [.int a]) (nc := 0) (ns := 0) C hV (k_Area_first l D (tyl cI cN cZ cJ) f (ar i) e0.1 cs z3) dX2_putLines_25 rfl w_276 rfl nw_13 w_3 w_275 ws_9 hd_X0_first rfl z3 rfl ⟨Nat.le_of_ble_eq_true rfl, Nat.le_of_ble_eq_true rfl⟩ (Nat.le_of_ble_eq_true rfl) (by decide) (by decide) (fun v u hp1 => ?_)
    refine gj_rt (st' := [.int (rF cs e0.1), .int a]) hp1.1 hp1.2 rfl ?_
    refine gj_icmp_ne (tgt := 44) C dX2_putLines_28 (by decide) (fun c2 => ?_) (fun c2 => ?_)
    · refine gj_iload_n C dX2_putLines_44 rfl ?_
      refine gj_iload C dX2_putLines_45 rfl ?_
      refine gj_icmp_le (tgt := 58) C dX2_putLines_47 (by decide) (fun c3 => ?_) (fun c3 => ?_)
      · refine gj_aload C dX2_putLines_58 rfl ?_
        refine gj_iload_n C dX2_putLines_60 rfl ?_
        refine gj_iload_n C dX2_putLines_61 rfl ?_
        refine gj_iload C dX2_putLines_62 rfl ?_
        refine gj_cVN (As := [.int (bI cs), .int a, .int b]) (rest := []) (nc := 0) (ns := 0) C hV (k_Area_setLines l D (tyl cI cN cZ cJ) f (ar i) e0.1 cs a b z3) dX2_putLines_64 rfl w_291 rfl nw_15 w_3 w_290 ws_12 hd_X0_setLines rfl z3 rfl ⟨Nat.le_of_ble_eq_true rfl, Nat.le_of_ble_eq_true rfl⟩ (Nat.le_of_ble_eq_true rfl) (by decide) (by decide) (fun v u hp4 => ?_)
        refine gj_rt (f := (gm_up f (ar i) (cAr (rS cs a b e0.1)))) (st' := []) hp4.1 hp4.2 rfl ?_
        refine gj_iconst (v := 1) C dX2_putLines_67 (by decide) ?_
        exact gj_iret C hr hlk dX2_putLines_68 (⟨congrArg (fun z => some (Value.int z)) (bI_tn (fun h => c2 h.1)).symm, q, hE, hM, k, g, mf, ar, by rw [plE_s c3]; exact rpw_area hW hi hei _⟩)
      · refine gj_aload_n C dX2_putLines_50 rfl ?_
        refine gj_iload_n C dX2_putLines_51 rfl ?_
        refine gj_cV (As := [.int (nI i)]) (rest := []) (nc := 0) (ns := 0) C hV (k_release l D cI cN cZ cJ f x q hE hM _ _ n g i z hW.1.1 hW.1.2.1 hn hi z1) dX2_putLines_52 rfl w_93 rfl w_90 w_1 w_92 ws_1 hd_X2_release rfl hW.1.1 rfl ⟨Nat.le_of_ble_eq_true rfl, Nat.le_of_ble_eq_true rfl⟩ (Nat.le_of_ble_eq_true rfl) (by decide) (by decide) (fun v u hp5 => ?_)
        refine gj_rt (f := (gm_up (gm_up f hE (aE cN n (va_up g i none))) x (cRR q hE (nI (cn en n) - 1) hM (nI ml.length)))) (st' := []) hp5.1 hp5.2 rfl ?_
        refine gj_goto (tgt := 67) C dX2_putLines_55 (by decide) ?_
        refine gj_iconst (v := 1) C dX2_putLines_67 (by decide) ?_
        exact gj_iret C hr hlk dX2_putLines_68 (⟨congrArg (fun z => some (Value.int z)) (bI_tn (fun h => c2 h.1)).symm, q, hE, hM, k, _, mf, ar, by rw [plE_n c3]; exact rpw_rel hW hi hei⟩)
    · refine gj_iload C dX2_putLines_31 rfl ?_
      refine gj_aload C dX2_putLines_33 rfl ?_
      refine gj_iload_n C dX2_putLines_35 rfl ?_
      refine gj_cVN (As := [.int (bI cs)]) (rest := [.int b]) (nc := 0) (ns := 0) C hV (k_Area_last l D (tyl cI cN cZ cJ) f (ar i) e0.1 cs z3) dX2_putLines_36 rfl w_280 rfl nw_14 w_3 w_279 ws_10 hd_X0_last rfl z3 rfl ⟨Nat.le_of_ble_eq_true rfl, Nat.le_of_ble_eq_true rfl⟩ (Nat.le_of_ble_eq_true rfl) (by decide) (by decide) (fun v u hp6 => ?_)
      refine gj_rt (st' := [.int (rL cs e0.1), .int b]) hp6.1 hp6.2 rfl ?_
      refine gj_icmp_ne (tgt := 44) C dX2_putLines_39 (by decide) (fun c7 => ?_) (fun c7 => ?_)
      · refine gj_iload_n C dX2_putLines_44 rfl ?_
        refine gj_iload C dX2_putLines_45 rfl ?_
        refine gj_icmp_le (tgt := 58) C dX2_putLines_47 (by decide) (fun c8 => ?_) (fun c8 => ?_)
        · refine gj_aload C dX2_putLines_58 rfl ?_
          refine gj_iload_n C dX2_putLines_60 rfl ?_
          refine gj_iload_n C dX2_putLines_61 rfl ?_
          refine gj_iload C dX2_putLines_62 rfl ?_
          refine gj_cVN (As := [.int (bI cs), .int a, .int b]) (rest := []) (nc := 0) (ns := 0) C hV (k_Area_setLines l D (tyl cI cN cZ cJ) f (ar i) e0.1 cs a b z3) dX2_putLines_64 rfl w_291 rfl nw_15 w_3 w_290 ws_12 hd_X0_setLines rfl z3 rfl ⟨Nat.le_of_ble_eq_true rfl, Nat.le_of_ble_eq_true rfl⟩ (Nat.le_of_ble_eq_true rfl) (by decide) (by decide) (fun v u hp9 => ?_)
          refine gj_rt (f := (gm_up f (ar i) (cAr (rS cs a b e0.1)))) (st' := []) hp9.1 hp9.2 rfl ?_
          refine gj_iconst (v := 1) C dX2_putLines_67 (by decide) ?_
          exact gj_iret C hr hlk dX2_putLines_68 (⟨congrArg (fun z => some (Value.int z)) (bI_tn (fun h => c7 h.2)).symm, q, hE, hM, k, g, mf, ar, by rw [plE_s c8]; exact rpw_area hW hi hei _⟩)
        · refine gj_aload_n C dX2_putLines_50 rfl ?_
          refine gj_iload_n C dX2_putLines_51 rfl ?_
          refine gj_cV (As := [.int (nI i)]) (rest := []) (nc := 0) (ns := 0) C hV (k_release l D cI cN cZ cJ f x q hE hM _ _ n g i z hW.1.1 hW.1.2.1 hn hi z1) dX2_putLines_52 rfl w_93 rfl w_90 w_1 w_92 ws_1 hd_X2_release rfl hW.1.1 rfl ⟨Nat.le_of_ble_eq_true rfl, Nat.le_of_ble_eq_true rfl⟩ (Nat.le_of_ble_eq_true rfl) (by decide) (by decide) (fun v u hp10 => ?_)
          refine gj_rt (f := (gm_up (gm_up f hE (aE cN n (va_up g i none))) x (cRR q hE (nI (cn en n) - 1) hM (nI ml.length)))) (st' := []) hp10.1 hp10.2 rfl ?_
          refine gj_goto (tgt := 67) C dX2_putLines_55 (by decide) ?_
          refine gj_iconst (v := 1) C dX2_putLines_67 (by decide) ?_
          exact gj_iret C hr hlk dX2_putLines_68 (⟨congrArg (fun z => some (Value.int z)) (bI_tn (fun h => c7 h.2)).symm, q, hE, hM, k, _, mf, ar, by rw [plE_n c8]; exact rpw_rel hW hi hei⟩)
      · refine gj_iconst (v := 0) C dX2_putLines_42 (by decide) ?_
        exact gj_iret C hr hlk dX2_putLines_43 (⟨congrArg (fun z => some (Value.int z)) (bI_fn ⟨c2, c7⟩).symm, q, hE, hM, k, g, mf, ar, by rw [plE_same c2 c7 hle, va_up_id hei]; exact hW⟩)
  · exact absurd rfl (hno i hi)
end
section
/-! The answers and the entries behind each call. -/
abbrev vr (r : Rc) : Prop := vc r.1 r.2.1 r.2.2.1 ∧ vc r.1 r.2.2.2.1 r.2.2.2.2 ∧ r.2.1 ≤ r.2.2.2.1 ∧ r.2.2.1 ≤ r.2.2.2.2
/-- is the entry of a number there -/
def thr (en : Nat → Option En) (num : Int32) : Bool := decide (0 ≤ num) && (en num.toNatClampNeg).isSome
def rmE (en : Nat → Option En) (num : Int32) : Nat → Option En := if thr en num then va_up en num.toNatClampNeg none else en
def phD (w : Int32) (e : En) : Option En := if e.2 = w then none else some e
def chD (w : Int32) (e : En) : Bool := decide (e.2 = w)
def mtA (ml : List Nat) (k : Int32) : Int32 := if k < 0 then -1 else if ml.length ≤ k.toNatClampNeg then -1 else nI (ml.getD k.toNatClampNeg 0)
def enV (e : En) (wh : Int32) : Int32 := if wh = 0 then e.1.1 else if wh = 1 then e.1.2.1 else if wh = 2 then e.1.2.2.1 else if wh = 3 then e.1.2.2.2.1 else if wh = 4 then e.1.2.2.2.2 else if wh = 5 then e.2 else -1
def enA (en : Nat → Option En) (num wh : Int32) : Int32 := if num < 0 then -1 else match en num.toNatClampNeg with
  | none => -1
  | some e => enV e wh
/-- insert: the lines of an entry -/
def insA (at0 n x : Int32) : Int32 := if x < at0 then x else x + n
def insB (cs : Bool) (at0 n x : Int32) : Int32 := if x < at0 then x else if ll cs < x + n then ll cs else x + n
def phI (sh : Int32) (cs : Bool) (at0 n : Int32) (e : En) : Option En := if rY sh cs e.1 then plE cs (insA at0 n (rF cs e.1)) (insB cs at0 n (rL cs e.1)) e else some e
def chI (sh : Int32) (cs : Bool) (at0 n : Int32) (e : En) : Bool := decide (rY sh cs e.1) && decide (¬ (insA at0 n (rF cs e.1) = rF cs e.1 ∧ insB cs at0 n (rL cs e.1) = rL cs e.1))
def delA (at0 n x : Int32) : Int32 := if x < at0 then x else if x - n < at0 then at0 else x - n
def delB (at0 n x : Int32) : Int32 := if x < at0 then x else if x - n < at0 - 1 then at0 - 1 else x - n
def phX (sh : Int32) (cs : Bool) (at0 n : Int32) (e : En) : Option En := if rY sh cs e.1 then plE cs (delA at0 n (rF cs e.1)) (delB at0 n (rL cs e.1)) e else some e
def chX (sh : Int32) (cs : Bool) (at0 n : Int32) (e : En) : Bool := decide (rY sh cs e.1) && decide (¬ (delA at0 n (rF cs e.1) = rF cs e.1 ∧ delB at0 n (rL cs e.1) = rL cs e.1))
/-- move: from r1 to r2 -/
abbrev sameM (r1 r2 : Rc) : Prop := r2.1 = r1.1 ∧ r2.2.1 - r1.2.1 = 0 ∧ r2.2.2.1 - r1.2.2.1 = 0
def phM (r1 r2 : Rc) (e : En) : Option En := if rIn e.1 r1 then some (rM r2.1 (r2.2.1 - r1.2.1) (r2.2.2.1 - r1.2.2.1) e.1, e.2) else if rIn e.1 r2 then none else some e
def chM (r1 r2 : Rc) (e : En) : Bool := decide (¬ sameM r1 r2) && (decide (rIn e.1 r1) || decide (rIn e.1 r2))
theorem i_add0 (a : Int32) : a + 0 = a := by simp
theorem phM_same {r1 r2 : Rc} (h : sameM r1 r2) (hr : r2 = r1) (e : En) : phM r1 r2 e = some e := by
  obtain ⟨h1, h2, h3⟩ := h
  unfold phM
  by_cases hi : rIn e.1 r1
  · rw [if_pos hi, h2, h3, h1, ← hi.1]
    obtain ⟨⟨a, b, c, d, f⟩, w⟩ := e
    simp [rM]
  · rw [if_neg hi, hr, if_neg hi]
theorem mapE_id {φ : En → Option En} {en : Nat → Option En} (h : ∀ e, φ e = some e) : mapE φ en = en := by
  funext j
  unfold mapE
  cases hj : en j with
  | none => rfl
  | some e => simp [h]
theorem cbE_0 {χ : En → Bool} {en : Nat → Option En} (h : ∀ e, χ e = false) : ∀ n, cbE χ en n = 0
  | 0 => rfl
  | n + 1 => by
    show cbE χ en n + cb1 χ (en n) = 0
    rw [cbE_0 h n]
    unfold cb1
    split <;> simp [h]
theorem mapI_ne {φ : En → Option En} {en : Nat → Option En} {i j : Nat} (h : mapI φ en i j ≠ none) : en j ≠ none := by
  intro hn
  apply h
  unfold mapI
  split <;> simp [hn]
section RP3
variable {cI cN : ClassId} {f : gm} {x : Nat} {nx : Option Rc} {en : Nat → Option En} {n : Nat} {ml : List Nat}
theorem Rp.bd (h : Rp cI cN f x nx en n ml) : (∀ i, n ≤ i → en i = none) ∧ n ≤ 1024 ∧ 1 ≤ n := by
  obtain ⟨q, hE, hM, k, g, mf, ar, h⟩ := h
  exact ⟨h.2.2.2.1.1, h.2.2.2.1.2.1, h.2.2.2.1.2.2.2⟩
theorem Rp_new {b1 b2 : Nat} (h1 : f x = some (cRR none b1 0 b2 0)) (h2 : f b1 = some (aE cN 16 (fun _ => none))) (h3 : f b2 = some (aI cI 16 (fun _ => 0))) : Rp cI cN f x none (fun _ => none) 16 [] := by
  refine ⟨none, b1, b2, 16, fun _ => none, fun _ => 0, fun _ => 0, ⟨?_, h2, h3⟩, ⟨rfl, fun i _ => rfl⟩, ⟨fun i j _ _ h => absurd rfl h, fun i _ h => absurd rfl h⟩, ⟨fun _ _ => rfl, by omega, by omega, by omega⟩, Nat.zero_le _, fun j hj => absurd hj (Nat.not_lt_zero _)⟩
  rw [h1]
  have e0 : cn (fun _ => none) 16 = 0 := by decide
  rw [e0]
  rfl
end RP3
theorem thr_nI {en : Nat → Option En} {i : Nat} (h : i < 2 ^ 31) : thr en (nI i) = (en i).isSome := by
  unfold thr
  rw [nI_clamp h, decide_eq_true (nI_pos' h), Bool.true_and]
theorem thr_no {en : Nat → Option En} {n : Nat} {num : Int32} (hn : n < 2 ^ 31) (h : ∀ i, i < n → num ≠ nI i) (hd : ∀ i, n ≤ i → en i = none) : thr en num = false := by
  unfold thr
  by_cases h0 : num < 0
  · have : ¬ (0 ≤ num) := by rw [i_le]; rw [i_lt] at h0; omega
    rw [decide_eq_false this, Bool.false_and]
  · obtain ⟨j, hj, rfl⟩ := nI_of h0
    rw [nI_clamp hj, hd j (by
      rcases Nat.lt_or_ge j n with h1 | h1
      · exact absurd rfl (h j h1)
      · exact h1)]
    simp
theorem rmE_f {en : Nat → Option En} {num : Int32} (h : thr en num = false) : rmE en num = en := by unfold rmE; rw [h]; rfl
theorem rmE_nI {en : Nat → Option En} {i : Nat} {e : En} (hi : i < 2 ^ 31) (h : en i = some e) : rmE en (nI i) = va_up en i none := by
  unfold rmE
  rw [thr_nI hi, h, nI_clamp hi]; rfl
theorem mtA_neg {ml : List Nat} {k : Int32} (h : k < 0) : mtA ml k = -1 := if_pos h
theorem mtA_ge {ml : List Nat} {k : Int32} (hl : ml.length < 2 ^ 31) (h : nI ml.length ≤ k) : mtA ml k = -1 := by
  unfold mtA
  by_cases h0 : k < 0
  · rw [if_pos h0]
  · obtain ⟨j, hj, rfl⟩ := nI_of h0
    rw [if_neg h0, nI_clamp hj, if_pos ((nI_leI hl hj).mp h)]
theorem mtA_nI {ml : List Nat} {j : Nat} (hl : ml.length < 2 ^ 31) (h : j < ml.length) : mtA ml (nI j) = nI (ml.getD j 0) := by
  unfold mtA
  rw [if_neg (nI_pos (by omega)), nI_clamp (by omega), if_neg (by omega)]
theorem sw6 (wh : Int32) : wh = 0 ∨ wh = 1 ∨ wh = 2 ∨ wh = 3 ∨ wh = 4 ∨ wh = 5 ∨ (wh.toInt < 0 ∨ 5 < wh.toInt) := by
  have t2 : (2 : Int32).toInt = 2 := by decide +kernel
  have t3 : (3 : Int32).toInt = 3 := by decide +kernel
  have t4 : (4 : Int32).toInt = 4 := by decide +kernel
  rw [i_eq, i_eq, i_eq, i_eq, i_eq, i_eq, t_0, t_1, t2, t3, t4, t_5]
  omega
theorem enV_out {e : En} {wh : Int32} (h : wh.toInt < 0 ∨ 5 < wh.toInt) : enV e wh = -1 := by
  have t2 : (2 : Int32).toInt = 2 := by decide +kernel
  have t3 : (3 : Int32).toInt = 3 := by decide +kernel
  have t4 : (4 : Int32).toInt = 4 := by decide +kernel
  unfold enV
  rw [if_neg (by rw [i_eq, t_0]; omega), if_neg (by rw [i_eq, t_1]; omega), if_neg (by rw [i_eq, t2]; omega), if_neg (by rw [i_eq, t3]; omega), if_neg (by rw [i_eq, t4]; omega), if_neg (by rw [i_eq, t_5]; omega)]
theorem enA_nI {en : Nat → Option En} {i : Nat} {e : En} {wh : Int32} (hi : i < 2 ^ 31) (h : en i = some e) : enA en (nI i) wh = enV e wh := by
  unfold enA
  rw [if_neg (nI_pos hi), nI_clamp hi, h]
theorem enA_no {en : Nat → Option En} {num wh : Int32} (h : thr en num = false) : enA en num wh = -1 := by
  unfold enA
  by_cases h0 : num < 0
  · rw [if_pos h0]
  · rw [if_neg h0]
    have h1 : (0 : Int32) ≤ num := by rw [i_le]; rw [i_lt] at h0; omega
    unfold thr at h
    rw [decide_eq_true h1, Bool.true_and] at h
    cases hn : en num.toNatClampNeg with
    | none => rfl
    | some e => rw [hn] at h; simp at h
theorem phD_t {w : Int32} {e : En} (h : e.2 = w) : phD w e = none := if_pos h
theorem phD_f {w : Int32} {e : En} (h : ¬ e.2 = w) : phD w e = some e := if_neg h
theorem chM_1 {r1 r2 : Rc} {e : En} (hs : ¬ sameM r1 r2) (h : rIn e.1 r1) : chM r1 r2 e = true := by unfold chM; rw [decide_eq_true hs, decide_eq_true h]; rfl
theorem chM_2 {r1 r2 : Rc} {e : En} (hs : ¬ sameM r1 r2) (h : rIn e.1 r2) : chM r1 r2 e = true := by unfold chM; rw [decide_eq_true hs, decide_eq_true h, Bool.or_true]; rfl
theorem chM_3 {r1 r2 : Rc} {e : En} (h1 : ¬ rIn e.1 r1) (h2 : ¬ rIn e.1 r2) : chM r1 r2 e = false := by unfold chM; rw [decide_eq_false h1, decide_eq_false h2, Bool.or_false, Bool.and_false]
theorem chM_0 {r1 r2 : Rc} (hs : sameM r1 r2) (e : En) : chM r1 r2 e = false := by unfold chM; rw [show decide (¬ sameM r1 r2) = false from decide_eq_false (fun h => h hs), Bool.false_and]
theorem phM_1 {r1 r2 : Rc} {e : En} (h : rIn e.1 r1) : phM r1 r2 e = some (rM r2.1 (r2.2.1 - r1.2.1) (r2.2.2.1 - r1.2.2.1) e.1, e.2) := if_pos h
theorem phM_2 {r1 r2 : Rc} {e : En} (h1 : ¬ rIn e.1 r1) (h : rIn e.1 r2) : phM r1 r2 e = none := by unfold phM; rw [if_neg h1, if_pos h]
theorem phM_3 {r1 r2 : Rc} {e : En} (h1 : ¬ rIn e.1 r1) (h : ¬ rIn e.1 r2) : phM r1 r2 e = some e := by unfold phM; rw [if_neg h1, if_neg h]
end
section
/-! RangeReaders: the public methods that never throw. By gen/m20.py. -/
set_option maxRecDepth 100000 in
set_option maxHeartbeats 4000000 in
theorem k_init (l : Launch) (D : va_G) (cI cN cZ cJ : ClassId) (f : gm) (x : Nat) (h0 : f x = some (.inr (2, [.null, .null, .int 0, .null, .int 0]))) : gk l yX2_init (.code yX2_init cX2_init 1 (Option.none : Option Jvm.ClassFile.FieldType)) (rmk 0 2 32) D (tyl cI cN cZ cJ) [.ref x] f (fun v u => v = none ∧ Rp cI cN u x none (fun _ => none) 16 []) := by
  refine gk_of [some (.ref x)] (by decide) rfl (Nat.le_of_ble_eq_true rfl) rfl ?_
  intro p e s m args below meth c A C hV hr hlk hnm
  refine gj_aload_n C dX2_init_0 rfl ?_
  refine gj_objInit C dX2_init_1 w_16 w_17 w_18 (Nat.le_of_ble_eq_true rfl) (Nat.le_of_ble_eq_true rfl) ?_
  refine gj_aload_n C dX2_init_4 rfl ?_
  refine gj_null C dX2_init_5 ?_
  refine gj_put C dX2_init_6 h0 rfl inX2 tyX2_ok nmX2 0 (by decide) w_21 rfl rfl rfl (Nat.le_of_ble_eq_true rfl) ?_
  refine gj_aload_n C dX2_init_9 rfl ?_
  refine gj_bipush (v := 16) C dX2_init_10 (by decide) ?_
  refine gj_newq (N := 16) (nc := 1) (ns := 16) C 1 dX2_init_12 rfl w_19 (hV.2.2.1 _ (List.mem_of_getElem? (i := 0) rfl)) (by decide) (by decide) (by decide) (by decide) (by decide) (fun b1 hb1 => ?_)
  refine gj_put C dX2_init_15 (gm_up_of gm_up_self hb1) rfl inX2 tyX2_ok nmX2 1 (by decide) w_22 rfl rfl rfl (Nat.le_of_ble_eq_true rfl) ?_
  refine gj_aload_n C dX2_init_18 rfl ?_
  refine gj_iconst (v := 0) C dX2_init_19 (by decide) ?_
  refine gj_put C dX2_init_20 gm_up_self rfl inX2 tyX2_ok nmX2 2 (by decide) w_23 rfl rfl rfl (Nat.le_of_ble_eq_true rfl) ?_
  refine gj_aload_n C dX2_init_23 rfl ?_
  refine gj_bipush (v := 16) C dX2_init_24 (by decide) ?_
  refine gj_newa (N := 16) (a0 := (16, .inl (fun _ => 0))) (nc := 0) (ns := 0) C 0 dX2_init_26 rfl rfl w_37 (fun _ => rfl) (by decide) (by decide) (by decide) (by decide) (by decide) (fun b2 hb2 => ?_)
  refine gj_put C dX2_init_28 (gm_up_of gm_up_self hb2) rfl inX2 tyX2_ok nmX2 3 (by decide) w_24 rfl rfl rfl (Nat.le_of_ble_eq_true rfl) ?_
  refine gj_aload_n C dX2_init_31 rfl ?_
  refine gj_iconst (v := 0) C dX2_init_32 (by decide) ?_
  refine gj_put C dX2_init_33 gm_up_self rfl inX2 tyX2_ok nmX2 4 (by decide) w_25 rfl rfl rfl (Nat.le_of_ble_eq_true rfl) ?_
  have n1 : b1 ≠ x := fun h => by rw [h, gm_up_self] at hb1; cases hb1
  have n2 : b2 ≠ x := fun h => by rw [h, gm_up_self] at hb2; cases hb2
  have n3 : b1 ≠ b2 := fun h => by rw [← h, gm_up_ne n1, gm_up_ne n1, gm_up_self] at hb2; cases hb2
  exact gj_vret C hr hlk dX2_init_36 (⟨rfl, Rp_new (b1 := b1) (b2 := b2) gm_up_self (by rw [gm_up_ne n1, gm_up_ne n1, gm_up_ne n3, gm_up_ne n1, gm_up_ne n1, gm_up_self]) (by rw [gm_up_ne n2, gm_up_ne n2, gm_up_self])⟩)
set_option maxRecDepth 100000 in
set_option maxHeartbeats 4000000 in
theorem k_count (l : Launch) (D : va_G) (cI cN cZ cJ : ClassId) (f : gm) (x : Nat) (nx : Option Rc) (en : Nat → Option En) (n : Nat) (ml : List Nat) (hR : Rp cI cN f x nx en n ml) : gk l yX2_count (.code yX2_count cX2_count 1 (Option.some Jvm.ClassFile.FieldType.int)) (rmk 0 0 0) D (tyl cI cN cZ cJ) [.ref x] f (fun v u => v = some (.int (nI (cn en 4096))) ∧ u = f) := by
  refine gk_of [some (.ref x)] (by decide) rfl (Nat.le_of_ble_eq_true rfl) rfl ?_
  intro p e s m args below meth c A C hV hr hlk hnm
  have hR9 := hR
  obtain ⟨q, hE, hM, k, g, mf, ar, hW⟩ := hR9
  have hn : n ≤ 1024 := hW.2.2.2.1.2.1
  have hk : k ≤ 1024 := hW.2.2.2.1.2.2.1
  refine gj_aload_n C dX2_count_0 rfl ?_
  refine gj_get C dX2_count_1 hW.1.1 rfl inX2 2 (by decide) w_23 rfl ?_
  exact gj_iret C hr hlk dX2_count_4 (⟨by rw [cn_none hR.bd.1 4096 (by omega)], rfl⟩)
set_option maxRecDepth 100000 in
set_option maxHeartbeats 4000000 in
theorem k_remove (l : Launch) (D : va_G) (cI cN cZ cJ : ClassId) (f : gm) (x : Nat) (nx : Option Rc) (en : Nat → Option En) (n : Nat) (ml : List Nat) (num : Int32) (hR : Rp cI cN f x nx en n ml) : gk l yX2_remove (.code yX2_remove cX2_remove 2 (Option.some Jvm.ClassFile.FieldType.boolean)) (rmk 1 0 0) D (tyl cI cN cZ cJ) [.ref x, .int num] f (fun v u => v = some (.int (bI (thr en num))) ∧ Rp cI cN u x nx (rmE en num) n ml) := by
  refine gk_of [some (.ref x), some (.int num)] (by decide) rfl (Nat.le_of_ble_eq_true rfl) rfl ?_
  intro p e s m args below meth c A C hV hr hlk hnm
  obtain ⟨q, hE, hM, k, g, mf, ar, hW⟩ := hR
  have hn : n ≤ 1024 := hW.2.2.2.1.2.1
  have hk : k ≤ 1024 := hW.2.2.2.1.2.2.1
  refine gj_aload_n C dX2_remove_0 rfl ?_
  refine gj_iload_n C dX2_remove_1 rfl ?_
  refine gj_cV (As := [.int num]) (rest := []) (nc := 0) (ns := 0) C hV (k_entryAt l D cI cN cZ cJ f x q hE hM _ _ n g num hW.1.1 hW.1.2.1 hn) dX2_remove_2 rfl w_89 rfl w_86 w_1 w_88 ws_0 hd_X2_entryAt rfl hW.1.1 rfl ⟨Nat.le_of_ble_eq_true rfl, Nat.le_of_ble_eq_true rfl⟩ (Nat.le_of_ble_eq_true rfl) (by decide) (by decide) (fun v u hp => ?_)
  obtain ⟨hp1, hu⟩ := hp
  rcases hp1 with ⟨i, hi, hij, hv⟩ | ⟨hno, hv⟩
  · subst hij
    cases hei : en i with
    | none =>
      refine gj_rt (st' := [.null]) (hv.trans (by rw [rpw_no hW hi hei] <;> rfl)) hu rfl ?_
      refine gj_ifnonnullN C dX2_remove_5 ?_
      refine gj_iconst (v := 0) C dX2_remove_8 (by decide) ?_
      exact gj_zret C hr hlk dX2_remove_9 nz_0 (⟨by rw [((thr_nI (by omega)).trans (by rw [hei] <;> rfl))] <;> rfl, by rw [rmE_f ((thr_nI (by omega)).trans (by rw [hei] <;> rfl))]; exact ⟨q, hE, hM, k, g, mf, ar, hW⟩⟩)
    | some e0 =>
      obtain ⟨z, z1, z2, z3⟩ := rpw_at hW hi hei
      refine gj_rt (st' := [.ref z]) (hv.trans (by rw [z1])) hu rfl ?_
      refine gj_ifnonnull (tgt := 10) C dX2_remove_5 (by decide) ?_
      refine gj_aload_n C dX2_remove_10 rfl ?_
      refine gj_iload_n C dX2_remove_11 rfl ?_
      refine gj_cV (As := [.int (nI i)]) (rest := []) (nc := 0) (ns := 0) C hV (k_release l D cI cN cZ cJ f x q hE hM _ _ n g i z hW.1.1 hW.1.2.1 hn hi z1) dX2_remove_12 rfl w_93 rfl w_90 w_1 w_92 ws_1 hd_X2_release rfl hW.1.1 rfl ⟨Nat.le_of_ble_eq_true rfl, Nat.le_of_ble_eq_true rfl⟩ (Nat.le_of_ble_eq_true rfl) (by decide) (by decide) (fun v u hp1 => ?_)
      refine gj_rt (f := (gm_up (gm_up f hE (aE cN n (va_up g i none))) x (cRR q hE (nI (cn en n) - 1) hM (nI ml.length)))) (st' := []) hp1.1 hp1.2 rfl ?_
      refine gj_iconst (v := 1) C dX2_remove_15 (by decide) ?_
      exact gj_zret C hr hlk dX2_remove_16 nz_1 (⟨by rw [thr_nI (by omega), hei]; rfl, by rw [rmE_nI (by omega) hei]; exact ⟨q, hE, hM, k, _, mf, ar, rpw_rel hW hi hei⟩⟩)
  · refine gj_rt (st' := [.null]) hv hu rfl ?_
    refine gj_ifnonnullN C dX2_remove_5 ?_
    refine gj_iconst (v := 0) C dX2_remove_8 (by decide) ?_
    exact gj_zret C hr hlk dX2_remove_9 nz_0 (⟨by rw [(thr_no (by omega) hno hW.2.2.2.1.1)] <;> rfl, by rw [rmE_f (thr_no (by omega) hno hW.2.2.2.1.1)]; exact ⟨q, hE, hM, k, g, mf, ar, hW⟩⟩)
set_option maxRecDepth 100000 in
set_option maxHeartbeats 4000000 in
theorem k_entry (l : Launch) (D : va_G) (cI cN cZ cJ : ClassId) (f : gm) (x : Nat) (nx : Option Rc) (en : Nat → Option En) (n : Nat) (ml : List Nat) (num wh : Int32) (hR : Rp cI cN f x nx en n ml) : gk l yX2_entry (.code yX2_entry cX2_entry 4 (Option.some Jvm.ClassFile.FieldType.int)) (rmk 1 0 0) D (tyl cI cN cZ cJ) [.ref x, .int num, .int wh] f (fun v u => v = some (.int (enA en num wh)) ∧ u = f) := by
  refine gk_of [some (.ref x), some (.int num), some (.int wh), none] (by decide) rfl (Nat.le_of_ble_eq_true rfl) rfl ?_
  intro p e s m args below meth c A C hV hr hlk hnm
  obtain ⟨q, hE, hM, k, g, mf, ar, hW⟩ := hR
  have hn : n ≤ 1024 := hW.2.2.2.1.2.1
  have hk : k ≤ 1024 := hW.2.2.2.1.2.2.1
  refine gj_aload_n C dX2_entry_0 rfl ?_
  refine gj_iload_n C dX2_entry_1 rfl ?_
  refine gj_cV (As := [.int num]) (rest := []) (nc := 0) (ns := 0) C hV (k_entryAt l D cI cN cZ cJ f x q hE hM _ _ n g num hW.1.1 hW.1.2.1 hn) dX2_entry_2 rfl w_89 rfl w_86 w_1 w_88 ws_0 hd_X2_entryAt rfl hW.1.1 rfl ⟨Nat.le_of_ble_eq_true rfl, Nat.le_of_ble_eq_true rfl⟩ (Nat.le_of_ble_eq_true rfl) (by decide) (by decide) (fun v u hp => ?_)
  obtain ⟨hp1, hu⟩ := hp
  rcases hp1 with ⟨i, hi, hij, hv⟩ | ⟨hno, hv⟩
  · subst hij
    cases hei : en i with
    | none =>
      refine gj_rt (st' := [.null]) (hv.trans (by rw [rpw_no hW hi hei] <;> rfl)) hu rfl ?_
      refine gj_astore_nN (lw' := [some (.ref x), some (.int (nI i)), some (.int wh), some (.null)]) C dX2_entry_5 (by decide) rfl rfl ?_
      refine gj_aload_nN C dX2_entry_6 rfl ?_
      refine gj_ifnonnullN C dX2_entry_7 ?_
      refine gj_iconst (v := (-1)) C dX2_entry_10 (by decide) ?_
      exact gj_iret C hr hlk dX2_entry_11 (⟨by rw [enA_no ((thr_nI (by omega)).trans (by rw [hei] <;> rfl))], rfl⟩)
    | some e0 =>
      obtain ⟨z, z1, z2, z3⟩ := rpw_at hW hi hei
      refine gj_rt (st' := [.ref z]) (hv.trans (by rw [z1])) hu rfl ?_
      refine gj_astore_n (lw' := [some (.ref x), some (.int (nI i)), some (.int wh), some (.ref z)]) C dX2_entry_5 (by decide) rfl rfl ?_
      refine gj_aload_n C dX2_entry_6 rfl ?_
      refine gj_ifnonnull (tgt := 12) C dX2_entry_7 (by decide) ?_
      refine gj_iload_n C dX2_entry_12 rfl ?_
      rcases sw6 wh with rfl | rfl | rfl | rfl | rfl | rfl | hw
      · refine gj_tabIn (off := 39) (tgt := 52) C dX2_entry_13 (by decide) (by decide) (by decide) (by decide) ?_
        refine gj_aload_n C dX2_entry_52 rfl ?_
        refine gj_getN C dX2_entry_53 z2 rfl inX1 0 (by decide) (hV.2.1 _ nw_8) rfl ?_
        refine gj_getN C dX2_entry_56 z3 rfl inX0 0 (by decide) (hV.2.1 _ nw_1) rfl ?_
        exact gj_iret C hr hlk dX2_entry_59 (⟨by rw [enA_nI (by omega) hei]; rfl, rfl⟩)
      · refine gj_tabIn (off := 47) (tgt := 60) C dX2_entry_13 (by decide) (by decide) (by decide) (by decide) ?_
        refine gj_aload_n C dX2_entry_60 rfl ?_
        refine gj_getN C dX2_entry_61 z2 rfl inX1 0 (by decide) (hV.2.1 _ nw_8) rfl ?_
        refine gj_getN C dX2_entry_64 z3 rfl inX0 1 (by decide) (hV.2.1 _ nw_2) rfl ?_
        exact gj_iret C hr hlk dX2_entry_67 (⟨by rw [enA_nI (by omega) hei]; rfl, rfl⟩)
      · refine gj_tabIn (off := 55) (tgt := 68) C dX2_entry_13 (by decide) (by decide) (by decide) (by decide) ?_
        refine gj_aload_n C dX2_entry_68 rfl ?_
        refine gj_getN C dX2_entry_69 z2 rfl inX1 0 (by decide) (hV.2.1 _ nw_8) rfl ?_
        refine gj_getN C dX2_entry_72 z3 rfl inX0 2 (by decide) (hV.2.1 _ nw_3) rfl ?_
        exact gj_iret C hr hlk dX2_entry_75 (⟨by rw [enA_nI (by omega) hei]; rfl, rfl⟩)
      · refine gj_tabIn (off := 63) (tgt := 76) C dX2_entry_13 (by decide) (by decide) (by decide) (by decide) ?_
        refine gj_aload_n C dX2_entry_76 rfl ?_
        refine gj_getN C dX2_entry_77 z2 rfl inX1 0 (by decide) (hV.2.1 _ nw_8) rfl ?_
        refine gj_getN C dX2_entry_80 z3 rfl inX0 3 (by decide) (hV.2.1 _ nw_4) rfl ?_
        exact gj_iret C hr hlk dX2_entry_83 (⟨by rw [enA_nI (by omega) hei]; rfl, rfl⟩)
      · refine gj_tabIn (off := 71) (tgt := 84) C dX2_entry_13 (by decide) (by decide) (by decide) (by decide) ?_
        refine gj_aload_n C dX2_entry_84 rfl ?_
        refine gj_getN C dX2_entry_85 z2 rfl inX1 0 (by decide) (hV.2.1 _ nw_8) rfl ?_
        refine gj_getN C dX2_entry_88 z3 rfl inX0 4 (by decide) (hV.2.1 _ nw_5) rfl ?_
        exact gj_iret C hr hlk dX2_entry_91 (⟨by rw [enA_nI (by omega) hei]; rfl, rfl⟩)
      · refine gj_tabIn (off := 79) (tgt := 92) C dX2_entry_13 (by decide) (by decide) (by decide) (by decide) ?_
        refine gj_aload_n C dX2_entry_92 rfl ?_
        refine gj_getN C dX2_entry_93 z2 rfl inX1 1 (by decide) (hV.2.1 _ nw_9) rfl ?_
        exact gj_iret C hr hlk dX2_entry_96 (⟨by rw [enA_nI (by omega) hei]; rfl, rfl⟩)
      · refine gj_tabOut (tgt := 97) C dX2_entry_13 hw (by decide) ?_
        refine gj_iconst (v := (-1)) C dX2_entry_97 (by decide) ?_
        exact gj_iret C hr hlk dX2_entry_98 (⟨by rw [enA_nI (by omega) hei, enV_out hw], rfl⟩)
  · refine gj_rt (st' := [.null]) hv hu rfl ?_
    refine gj_astore_nN (lw' := [some (.ref x), some (.int num), some (.int wh), some (.null)]) C dX2_entry_5 (by decide) rfl rfl ?_
    refine gj_aload_nN C dX2_entry_6 rfl ?_
    refine gj_ifnonnullN C dX2_entry_7 ?_
    refine gj_iconst (v := (-1)) C dX2_entry_10 (by decide) ?_
    exact gj_iret C hr hlk dX2_entry_11 (⟨by rw [enA_no (thr_no (by omega) hno hW.2.2.2.1.1)], rfl⟩)
set_option maxRecDepth 100000 in
set_option maxHeartbeats 4000000 in
theorem k_met (l : Launch) (D : va_G) (cI cN cZ cJ : ClassId) (f : gm) (x : Nat) (nx : Option Rc) (en : Nat → Option En) (n : Nat) (ml : List Nat) (num : Int32) (hR : Rp cI cN f x nx en n ml) : gk l yX2_met (.code yX2_met cX2_met 2 (Option.some Jvm.ClassFile.FieldType.int)) (rmk 0 0 0) D (tyl cI cN cZ cJ) [.ref x, .int num] f (fun v u => v = some (.int (mtA ml num)) ∧ u = f) := by
  refine gk_of [some (.ref x), some (.int num)] (by decide) rfl (Nat.le_of_ble_eq_true rfl) rfl ?_
  intro p e s m args below meth c A C hV hr hlk hnm
  obtain ⟨q, hE, hM, k, g, mf, ar, hW⟩ := hR
  have hn : n ≤ 1024 := hW.2.2.2.1.2.1
  have hk : k ≤ 1024 := hW.2.2.2.1.2.2.1
  have hl : ml.length ≤ k := hW.2.2.2.2.1
  rcases pk_ix num (n := ml.length) (by omega) with hh | hh | ⟨j, hj, rfl⟩
  · refine gj_iload_n C dX2_met_0 rfl ?_
    refine gj_if_ltT (tgt := 21) C dX2_met_1 (by decide) hh ?_
    refine gj_iconst (v := (-1)) C dX2_met_21 (by decide) ?_
    exact gj_iret C hr hlk dX2_met_22 (⟨by rw [mtA_neg hh], rfl⟩)
  · refine gj_iload_n C dX2_met_0 rfl ?_
    refine gj_if_lt (tgt := 21) C dX2_met_1 (by decide) (fun c1 => ?_) (fun c1 => ?_)
    · refine gj_iconst (v := (-1)) C dX2_met_21 (by decide) ?_
      exact gj_iret C hr hlk dX2_met_22 (⟨by rw [mtA_ge (by omega) hh], rfl⟩)
    · refine gj_iload_n C dX2_met_4 rfl ?_
      refine gj_aload_n C dX2_met_5 rfl ?_
      refine gj_get C dX2_met_6 hW.1.1 rfl inX2 4 (by decide) w_25 rfl ?_
      refine gj_icmp_geT (tgt := 21) C dX2_met_9 (by decide) hh ?_
      refine gj_iconst (v := (-1)) C dX2_met_21 (by decide) ?_
      exact gj_iret C hr hlk dX2_met_22 (⟨by rw [mtA_ge (by omega) hh], rfl⟩)
  · refine gj_iload_n C dX2_met_0 rfl ?_
    refine gj_if_ltF (tgt := 21) C dX2_met_1 (by decide) (nI_pos (by omega)) ?_
    refine gj_iload_n C dX2_met_4 rfl ?_
    refine gj_aload_n C dX2_met_5 rfl ?_
    refine gj_get C dX2_met_6 hW.1.1 rfl inX2 4 (by decide) w_25 rfl ?_
    refine gj_icmp_geF (tgt := 21) C dX2_met_9 (by decide) (nI_ge hj (by omega)) ?_
    refine gj_iload_n C dX2_met_12 rfl ?_
    refine gj_aload_n C dX2_met_13 rfl ?_
    refine gj_get C dX2_met_14 hW.1.1 rfl inX2 3 (by decide) w_24 rfl ?_
    refine gj_alen C 0 dX2_met_17 hW.1.2.2 rfl ?_
    refine gj_icmp_ltT (tgt := 23) C dX2_met_18 (by decide) (nI_lt (by omega) (by omega)) ?_
    refine gj_aload_n C dX2_met_23 rfl ?_
    refine gj_get C dX2_met_24 hW.1.1 rfl inX2 3 (by decide) w_24 rfl ?_
    refine gj_iload_n C dX2_met_27 rfl ?_
    refine gj_ialdN C 0 dX2_met_28 hW.1.2.2 rfl (by omega) (by omega) ?_
    exact gj_iret C hr hlk dX2_met_29 (⟨by rw [mtA_nI (by omega) hj, hW.2.2.2.2.2 j hj], rfl⟩)
set_option maxRecDepth 100000 in
set_option maxHeartbeats 4000000 in
theorem k_rectangle (l : Launch) (D : va_G) (cI cN cZ cJ : ClassId) (f : gm) (x : Nat) (nx : Option Rc) (en : Nat → Option En) (n : Nat) (ml : List Nat) (sh tp lf bt rt : Int32) (hR : Rp cI cN f x nx en n ml) : gk l yX2_rectangle (.code yX2_rectangle cX2_rectangle 7 (Option.some Jvm.ClassFile.FieldType.boolean)) (rmk 3 1 5) D (tyl cI cN cZ cJ) [.ref x, .int sh, .int tp, .int lf, .int bt, .int rt] f (fun v u => v = some (.int (bI (decide (vr (sh, tp, lf, bt, rt))))) ∧ Rp cI cN u x (if vr (sh, tp, lf, bt, rt) then some (sh, tp, lf, bt, rt) else nx) en n ml) := by
  refine gk_of [some (.ref x), some (.int sh), some (.int tp), some (.int lf), some (.int bt), some (.int rt), none] (by decide) rfl (Nat.le_of_ble_eq_true rfl) rfl ?_
  intro p e s m args below meth c A C hV hr hlk hnm
  obtain ⟨q, hE, hM, k, g, mf, ar, hW⟩ := hR
  have hn : n ≤ 1024 := hW.2.2.2.1.2.1
  have hk : k ≤ 1024 := hW.2.2.2.1.2.2.1
  refine gj_iload_n C dX2_rectangle_0 rfl ?_
  refine gj_iload_n C dX2_rectangle_1 rfl ?_
  refine gj_iload_n C dX2_rectangle_2 rfl ?_
  refine gj_cS (As := [.int sh, .int tp, .int lf]) (rest := []) (nc := 1) (ns := 5) C hV (k_isCell l D (tyl cI cN cZ cJ) f sh tp lf) dX2_rectangle_3 rfl w_44 rfl w_42 w_1 w_43 hd_X2_isCell rfl ⟨Nat.le_of_ble_eq_true rfl, Nat.le_of_ble_eq_true rfl⟩ (Nat.le_of_ble_eq_true rfl) (by decide) (by decide) (fun v u hp1 => ?_)
  refine gj_rt (st' := [.int (bI (decide (vc sh tp lf)))]) hp1.1 hp1.2 rfl ?_
  refine gj_if_eq (tgt := 24) C dX2_rectangle_6 (by decide) (fun c2 => ?_) (fun c2 => ?_)
  · refine gj_iconst (v := 0) C dX2_rectangle_24 (by decide) ?_
    refine gj_istore (lw' := [some (.ref x), some (.int sh), some (.int tp), some (.int lf), some (.int bt), some (.int rt), some (.int 0)]) C dX2_rectangle_25 (by decide) rfl rfl ?_
    refine gj_iload C dX2_rectangle_27 rfl ?_
    refine gj_if_eqT (tgt := 44) C dX2_rectangle_29 (by decide) rfl ?_
    refine gj_iconst (v := 0) C dX2_rectangle_44 (by decide) ?_
    exact gj_zret C hr hlk dX2_rectangle_45 nz_0 (⟨by rw [bI_f (show ¬ vr (sh, tp, lf, bt, rt) from (fun h => bI_p0 c2 h.1))], by rw [if_neg (show ¬ vr (sh, tp, lf, bt, rt) from (fun h => bI_p0 c2 h.1))]; exact ⟨q, hE, hM, k, g, mf, ar, hW⟩⟩)
  · refine gj_iload_n C dX2_rectangle_9 rfl ?_
    refine gj_iload C dX2_rectangle_10 rfl ?_
    refine gj_iload C dX2_rectangle_12 rfl ?_
    refine gj_cS (As := [.int sh, .int bt, .int rt]) (rest := []) (nc := 1) (ns := 5) C hV (k_isCell l D (tyl cI cN cZ cJ) f sh bt rt) dX2_rectangle_14 rfl w_44 rfl w_42 w_1 w_43 hd_X2_isCell rfl ⟨Nat.le_of_ble_eq_true rfl, Nat.le_of_ble_eq_true rfl⟩ (Nat.le_of_ble_eq_true rfl) (by decide) (by decide) (fun v u hp3 => ?_)
    refine gj_rt (st' := [.int (bI (decide (vc sh bt rt)))]) hp3.1 hp3.2 rfl ?_
    refine gj_if_eq (tgt := 24) C dX2_rectangle_17 (by decide) (fun c4 => ?_) (fun c4 => ?_)
    · refine gj_iconst (v := 0) C dX2_rectangle_24 (by decide) ?_
      refine gj_istore (lw' := [some (.ref x), some (.int sh), some (.int tp), some (.int lf), some (.int bt), some (.int rt), some (.int 0)]) C dX2_rectangle_25 (by decide) rfl rfl ?_
      refine gj_iload C dX2_rectangle_27 rfl ?_
      refine gj_if_eqT (tgt := 44) C dX2_rectangle_29 (by decide) rfl ?_
      refine gj_iconst (v := 0) C dX2_rectangle_44 (by decide) ?_
      exact gj_zret C hr hlk dX2_rectangle_45 nz_0 (⟨by rw [bI_f (show ¬ vr (sh, tp, lf, bt, rt) from (fun h => bI_p0 c4 h.2.1))], by rw [if_neg (show ¬ vr (sh, tp, lf, bt, rt) from (fun h => bI_p0 c4 h.2.1))]; exact ⟨q, hE, hM, k, g, mf, ar, hW⟩⟩)
    · refine gj_iconst (v := 1) C dX2_rectangle_20 (by decide) ?_
      refine gj_goto (tgt := 25) C dX2_rectangle_21 (by decide) ?_
      refine gj_istore (lw' := [some (.ref x), some (.int sh), some (.int tp), some (.int lf), some (.int bt), some (.int rt), some (.int 1)]) C dX2_rectangle_25 (by decide) rfl rfl ?_
      refine gj_iload C dX2_rectangle_27 rfl ?_
      refine gj_if_eqF (tgt := 44) C dX2_rectangle_29 (by decide) (by decide) ?_
      refine gj_iload C dX2_rectangle_32 rfl ?_
      refine gj_iload_n C dX2_rectangle_34 rfl ?_
      refine gj_icmp_lt (tgt := 44) C dX2_rectangle_35 (by decide) (fun c5 => ?_) (fun c5 => ?_)
      · refine gj_iconst (v := 0) C dX2_rectangle_44 (by decide) ?_
        exact gj_zret C hr hlk dX2_rectangle_45 nz_0 (⟨by rw [bI_f (show ¬ vr (sh, tp, lf, bt, rt) from (fun h => i_ltn c5 h.2.2.1))], by rw [if_neg (show ¬ vr (sh, tp, lf, bt, rt) from (fun h => i_ltn c5 h.2.2.1))]; exact ⟨q, hE, hM, k, g, mf, ar, hW⟩⟩)
      · refine gj_iload C dX2_rectangle_38 rfl ?_
        refine gj_iload_n C dX2_rectangle_40 rfl ?_
        refine gj_icmp_ge (tgt := 46) C dX2_rectangle_41 (by decide) (fun c6 => ?_) (fun c6 => ?_)
        · refine gj_aload_n C dX2_rectangle_46 rfl ?_
          refine gj_new (ci := 0) (nc := 0) (ns := 0) C dX2_rectangle_47 rfl inX0 tyX0_ok w_55 w_56 w_3 dfX0 (by decide) (by decide) (fun q7 hq7 => ?_)
          refine gj_dup C dX2_rectangle_50 rfl ?_
          refine gj_iload_n C dX2_rectangle_51 rfl ?_
          refine gj_iload_n C dX2_rectangle_52 rfl ?_
          refine gj_iload_n C dX2_rectangle_53 rfl ?_
          refine gj_iload C dX2_rectangle_54 rfl ?_
          refine gj_iload C dX2_rectangle_56 rfl ?_
          refine gj_cIN (As := [.int sh, .int tp, .int lf, .int bt, .int rt]) (rest := [.ref q7, .ref x]) (nc := 0) (ns := 0) C hV (k_Area_init l D (tyl cI cN cZ cJ) (gm_up f q7 (.inr (0, [.int 0, .int 0, .int 0, .int 0, .int 0]))) q7 (sh, tp, lf, bt, rt) 0 0 0 0 0 gm_up_self) dX2_rectangle_58 rfl w_59 rfl nw_0 w_3 w_58 rfl hd_X0_init rfl ⟨Nat.le_of_ble_eq_true rfl, Nat.le_of_ble_eq_true rfl⟩ (Nat.le_of_ble_eq_true rfl) (by decide) (by decide) (fun v u hp8 => ?_)
          refine gj_rt (f := (gm_up f q7 (cAr (sh, tp, lf, bt, rt)))) (st' := [.ref q7, .ref x]) hp8.1 (hp8.2.trans gm_up_up) rfl ?_
          refine gj_put C dX2_rectangle_61 (gm_up_of hW.1.1 hq7) rfl inX2 tyX2_ok nmX2 0 (by decide) w_21 rfl rfl rfl (Nat.le_of_ble_eq_true rfl) ?_
          refine gj_iconst (v := 1) C dX2_rectangle_64 (by decide) ?_
          exact gj_zret C hr hlk dX2_rectangle_65 nz_1 (⟨by rw [bI_t (show vr (sh, tp, lf, bt, rt) from ⟨bI_p1 c2, bI_p1 c4, (i_nlt c5), c6⟩)], by rw [if_pos (show vr (sh, tp, lf, bt, rt) from ⟨bI_p1 c2, bI_p1 c4, (i_nlt c5), c6⟩)]; exact ⟨some q7, hE, hM, k, g, mf, ar, rpw_next hW hq7 _⟩⟩)
        · refine gj_iconst (v := 0) C dX2_rectangle_44 (by decide) ?_
          exact gj_zret C hr hlk dX2_rectangle_45 nz_0 (⟨by rw [bI_f (show ¬ vr (sh, tp, lf, bt, rt) from (fun h => c6 h.2.2.2))], by rw [if_neg (show ¬ vr (sh, tp, lf, bt, rt) from (fun h => c6 h.2.2.2))]; exact ⟨q, hE, hM, k, g, mf, ar, hW⟩⟩)
set_option maxRecDepth 100000 in
set_option maxHeartbeats 4000000 in
theorem k_drop (l : Launch) (D : va_G) (cI cN cZ cJ : ClassId) (f : gm) (x : Nat) (nx : Option Rc) (en : Nat → Option En) (n : Nat) (ml : List Nat) (wo : Int32) (hR : Rp cI cN f x nx en n ml) : gk l yX2_drop (.code yX2_drop cX2_drop 5 (Option.some Jvm.ClassFile.FieldType.int)) (rmk 1 0 0) D (tyl cI cN cZ cJ) [.ref x, .int wo] f (fun v u => v = some (.int (nI (cbE (chD wo) en 4096))) ∧ Rp cI cN u x nx (mapE (phD wo) en) n ml) := by
  refine gk_of [some (.ref x), some (.int wo), none, none, none] (by decide) rfl (Nat.le_of_ble_eq_true rfl) rfl ?_
  intro p e s m args below meth c A C hV hr hlk hnm
  have hd : ∀ j, n ≤ j → en j = none := hR.bd.1
  have hn : n ≤ 1024 := hR.bd.2.1
  have loop : ∀ (d i : Nat) (f : gm), i + d = n → Rp cI cN f x nx (mapI (phD wo) en i) n ml → gj p l e (rmk 1 0 0) s m args below meth c D vwCl A 5 (MQ below (gk_Q (fun v u => v = some (.int (nI (cbE (chD wo) en 4096))) ∧ Rp cI cN u x nx (mapE (phD wo) en) n ml) D A) args s (rmk 1 0 0).cells (rmk 1 0 0).slots A) f 0 0 4 [some (.ref x), some (.int wo), some (.int (nI (cbE (chD wo) en i))), some (.int (nI i)), none] [] := by
    intro d
    induction d with
    | zero =>
      intro i f hid hR
      rw [show mapI (phD wo) en i = mapI (phD wo) en n by rw [show i = n by omega]] at hR
      obtain ⟨q, hE, hM, k, g, mf, ar, hW⟩ := id hR
      refine gj_iload_n C dX2_drop_4 rfl ?_
      refine gj_aload_n C dX2_drop_5 rfl ?_
      refine gj_get C dX2_drop_6 hW.1.1 rfl inX2 1 (by decide) w_22 rfl ?_
      refine gj_alen C 1 dX2_drop_9 hW.1.2.1 rfl ?_
      refine gj_icmp_geT (tgt := 49) C dX2_drop_10 (by decide) (by rw [show i = n by omega]; exact Int32.le_refl _) ?_
      refine gj_iload_n C dX2_drop_49 rfl ?_
      exact gj_iret C hr hlk dX2_drop_50 (⟨by rw [cbE_none hd 4096 (by omega), show i = n by omega], by rw [← mapI_end (φ := (phD wo)) hd]; exact hR⟩)
    | succ d ih =>
      intro i f hid hR
      have hj : i < n := by omega
      obtain ⟨q, hE, hM, k, g, mf, ar, hW⟩ := id hR
      cases hei : en i with
      | none =>
        refine gj_iload_n C dX2_drop_4 rfl ?_
        refine gj_aload_n C dX2_drop_5 rfl ?_
        refine gj_get C dX2_drop_6 hW.1.1 rfl inX2 1 (by decide) w_22 rfl ?_
        refine gj_alen C 1 dX2_drop_9 hW.1.2.1 rfl ?_
        refine gj_icmp_geF (tgt := 49) C dX2_drop_10 (by decide) (nI_ge hj (by omega)) ?_
        refine gj_aload_n C dX2_drop_13 rfl ?_
        refine gj_get C dX2_drop_14 hW.1.1 rfl inX2 1 (by decide) w_22 rfl ?_
        refine gj_iload_n C dX2_drop_17 rfl ?_
        refine gj_aaldN C 1 dX2_drop_18 hW.1.2.1 rfl hj (by omega) ?_
        refine gj_st (st' := [.null]) (by rw [rpw_no hW hj (mapI_at.trans hei)]; rfl) ?_
        refine gj_astoreN (lw' := [some (.ref x), some (.int wo), some (.int (nI (cbE (chD wo) en i))), some (.int (nI i)), some (.null)]) C dX2_drop_19 (by decide) rfl rfl ?_
        refine gj_aloadN C dX2_drop_21 rfl ?_
        refine gj_ifnullN (tgt := 43) C dX2_drop_23 (by decide) ?_
        refine gj_iinc (v := (nI (i + 1))) (lw' := [some (.ref x), some (.int wo), some (.int (nI (cbE (chD wo) en i))), some (.int (nI (i + 1))), some (.null)]) C dX2_drop_43 rfl (nI_1 i) (by decide) rfl rfl ?_
        refine gj_goto (tgt := 4) C dX2_drop_46 (by decide) ?_
        refine gj_un 4 (lw' := [some (.ref x), some (.int wo), some (.int (nI (cbE (chD wo) en i))), some (.int (nI (i + 1))), none]) rfl ?_
        have h9 := ih (i + 1) f (by omega) (by rw [mapI_n hei]; exact hR)
        rw [cb_n hei] at h9
        exact h9
      | some e0 =>
        obtain ⟨z, z1, z2, z3⟩ := rpw_at hW hj (mapI_at.trans hei)
        refine gj_iload_n C dX2_drop_4 rfl ?_
        refine gj_aload_n C dX2_drop_5 rfl ?_
        refine gj_get C dX2_drop_6 hW.1.1 rfl inX2 1 (by decide) w_22 rfl ?_
        refine gj_alen C 1 dX2_drop_9 hW.1.2.1 rfl ?_
        refine gj_icmp_geF (tgt := 49) C dX2_drop_10 (by decide) (nI_ge hj (by omega)) ?_
        refine gj_aload_n C dX2_drop_13 rfl ?_
        refine gj_get C dX2_drop_14 hW.1.1 rfl inX2 1 (by decide) w_22 rfl ?_
        refine gj_iload_n C dX2_drop_17 rfl ?_
        refine gj_aaldN C 1 dX2_drop_18 hW.1.2.1 rfl hj (by omega) ?_
        refine gj_st (st' := [.ref z]) (by rw [z1]; rfl) ?_
        refine gj_astore (lw' := [some (.ref x), some (.int wo), some (.int (nI (cbE (chD wo) en i))), some (.int (nI i)), some (.ref z)]) C dX2_drop_19 (by decide) rfl rfl ?_
        refine gj_aload C dX2_drop_21 rfl ?_
        refine gj_ifnull C dX2_drop_23 ?_
        refine gj_aload C dX2_drop_26 rfl ?_
        refine gj_getN C dX2_drop_28 z2 rfl inX1 1 (by decide) (hV.2.1 _ nw_9) rfl ?_
        refine gj_iload_n C dX2_drop_31 rfl ?_
        refine gj_icmp_ne (tgt := 43) C dX2_drop_32 (by decide) (fun c1 => ?_) (fun c1 => ?_)
        · refine gj_iinc (v := (nI (i + 1))) (lw' := [some (.ref x), some (.int wo), some (.int (nI (cbE (chD wo) en i))), some (.int (nI (i + 1))), some (.ref z)]) C dX2_drop_43 rfl (nI_1 i) (by decide) rfl rfl ?_
          refine gj_goto (tgt := 4) C dX2_drop_46 (by decide) ?_
          refine gj_un 4 (lw' := [some (.ref x), some (.int wo), some (.int (nI (cbE (chD wo) en i))), some (.int (nI (i + 1))), none]) rfl ?_
          have h9 := ih (i + 1) f (by omega) (by rw [mapI_k hei (phD_f c1)]; exact hR)
          rw [cb_f hei (decide_eq_false c1)] at h9
          exact h9
        · refine gj_aload_n C dX2_drop_35 rfl ?_
          refine gj_iload_n C dX2_drop_36 rfl ?_
          refine gj_cV (As := [.int (nI i)]) (rest := []) (nc := 0) (ns := 0) C hV (k_release l D cI cN cZ cJ f x q hE hM _ _ n g i z hW.1.1 hW.1.2.1 hn hj z1) dX2_drop_37 rfl w_93 rfl w_90 w_1 w_92 ws_1 hd_X2_release rfl hW.1.1 rfl ⟨Nat.le_of_ble_eq_true rfl, Nat.le_of_ble_eq_true rfl⟩ (Nat.le_of_ble_eq_true rfl) (by decide) (by decide) (fun v u hp2 => ?_)
          refine gj_rt (f := (gm_up (gm_up f hE (aE cN n (va_up g i none))) x (cRR q hE (nI (cn (mapI (phD wo) en i) n) - 1) hM (nI ml.length)))) (st' := []) hp2.1 hp2.2 rfl ?_
          refine gj_iinc (v := (nI ((cbE (chD wo) en i) + 1))) (lw' := [some (.ref x), some (.int wo), some (.int (nI ((cbE (chD wo) en i) + 1))), some (.int (nI i)), some (.ref z)]) C dX2_drop_40 rfl (nI_1 (cbE (chD wo) en i)) (by decide) rfl rfl ?_
          refine gj_iinc (v := (nI (i + 1))) (lw' := [some (.ref x), some (.int wo), some (.int (nI ((cbE (chD wo) en i) + 1))), some (.int (nI (i + 1))), some (.ref z)]) C dX2_drop_43 rfl (nI_1 i) (by decide) rfl rfl ?_
          refine gj_goto (tgt := 4) C dX2_drop_46 (by decide) ?_
          refine gj_un 4 (lw' := [some (.ref x), some (.int wo), some (.int (nI ((cbE (chD wo) en i) + 1))), some (.int (nI (i + 1))), none]) rfl ?_
          have h9 := ih (i + 1) _ (by omega) (by rw [mapI_s hei, phD_t c1]; exact ⟨q, hE, hM, k, _, mf, ar, rpw_rel hW hj (mapI_at.trans hei)⟩)
          rw [cb_t hei (decide_eq_true c1)] at h9
          exact h9
  refine gj_iconst (v := 0) C dX2_drop_0 (by decide) ?_
  refine gj_istore_n (lw' := [some (.ref x), some (.int wo), some (.int 0), none, none]) C dX2_drop_1 (by decide) rfl rfl ?_
  refine gj_iconst (v := 0) C dX2_drop_2 (by decide) ?_
  refine gj_istore_n (lw' := [some (.ref x), some (.int wo), some (.int 0), some (.int 0), none]) C dX2_drop_3 (by decide) rfl rfl ?_
  exact loop n 0 f (by omega) (by rw [mapI_0]; exact hR)
end
section
/-! RangeReaders.carry. By gen/m21.py. -/
set_option maxRecDepth 100000 in
set_option maxHeartbeats 4000000 in
theorem k_carry (l : Launch) (D : va_G) (cI cN cZ cJ : ClassId) (f : gm) (x : Nat) (nx : Option Rc) (en : Nat → Option En) (n : Nat) (ml : List Nat) (hE hM k : Nat) (g : Nat → Option Nat) (mf : Nat → Int32) (ar : Nat → Nat) (a b : Nat) (r1 r2 : Rc) (hW : rpw cI cN f x nx en n ml (some a) hE hM k g mf ar) (ha : f a = some (cAr r1)) (hb : f b = some (cAr r2)) (hbn : ∀ i, i < n → en i ≠ none → ar i ≠ b) (hS : sameM r1 r2 → r2 = r1) : gk l yX2_carry (.code yX2_carry cX2_carry 8 (Option.some Jvm.ClassFile.FieldType.int)) (rmk 1 0 0) D (tyl cI cN cZ cJ) [.ref x, .ref a, .ref b] f (fun v u => v = some (.int (nI (cbE (chM r1 r2) en 4096))) ∧ Rp cI cN u x nx (mapE (phM r1 r2) en) n ml) := by
  refine gk_of [some (.ref x), some (.ref a), some (.ref b), none, none, none, none, none] (by decide) rfl (Nat.le_of_ble_eq_true rfl) rfl ?_
  intro p e s m args below meth c A C hV hr hlk hnm
  have hd : ∀ j, n ≤ j → en j = none := hW.2.2.2.1.1
  have hn : n ≤ 1024 := hW.2.2.2.1.2.1
  have loop : ¬ sameM r1 r2 → ∀ (d i : Nat) (f : gm) (g : Nat → Option Nat), i + d = n → rpw cI cN f x nx (mapI (phM r1 r2) en i) n ml (some a) hE hM k g mf ar → f a = some (cAr r1) → f b = some (cAr r2) → gj p l e (rmk 1 0 0) s m args below meth c D vwCl A 8 (MQ below (gk_Q (fun v u => v = some (.int (nI (cbE (chM r1 r2) en 4096))) ∧ Rp cI cN u x nx (mapE (phM r1 r2) en) n ml) D A) args s (rmk 1 0 0).cells (rmk 1 0 0).slots A) f 0 0 49 [some (.ref x), some (.ref a), some (.ref b), some (.int (r2.2.1 - r1.2.1)), some (.int (r2.2.2.1 - r1.2.2.1)), some (.int (nI (cbE (chM r1 r2) en i))), some (.int (nI i)), none] [] := by
    intro hns d
    induction d with
    | zero =>
      intro i f g hid hW ha hb
      rw [show mapI (phM r1 r2) en i = mapI (phM r1 r2) en n by rw [show i = n by omega]] at hW
      refine gj_iload C dX2_carry_49 rfl ?_
      refine gj_aload_n C dX2_carry_51 rfl ?_
      refine gj_get C dX2_carry_52 hW.1.1 rfl inX2 1 (by decide) w_22 rfl ?_
      refine gj_alen C 1 dX2_carry_55 hW.1.2.1 rfl ?_
      refine gj_icmp_geT (tgt := 138) C dX2_carry_56 (by decide) (by rw [show i = n by omega]; exact Int32.le_refl _) ?_
      refine gj_iload C dX2_carry_138 rfl ?_
      exact gj_iret C hr hlk dX2_carry_140 (⟨by rw [cbE_none hd 4096 (by omega), show i = n by omega], by rw [← mapI_end (φ := (phM r1 r2)) hd]; exact ⟨_, hE, hM, k, g, mf, ar, hW⟩⟩)
    | succ d ih =>
      intro i f g hid hW ha hb
      have hj : i < n := by omega
      cases hei : en i with
      | none =>
        refine gj_iload C dX2_carry_49 rfl ?_
        refine gj_aload_n C dX2_carry_51 rfl ?_
        refine gj_get C dX2_carry_52 hW.1.1 rfl inX2 1 (by decide) w_22 rfl ?_
        refine gj_alen C 1 dX2_carry_55 hW.1.2.1 rfl ?_
        refine gj_icmp_geF (tgt := 138) C dX2_carry_56 (by decide) (nI_ge hj (by omega)) ?_
        refine gj_aload_n C dX2_carry_59 rfl ?_
        refine gj_get C dX2_carry_60 hW.1.1 rfl inX2 1 (by decide) w_22 rfl ?_
        refine gj_iload C dX2_carry_63 rfl ?_
        refine gj_aaldN C 1 dX2_carry_65 hW.1.2.1 rfl hj (by omega) ?_
        refine gj_st (st' := [.null]) (by rw [rpw_no hW hj (mapI_at.trans hei)]; rfl) ?_
        refine gj_astoreN (lw' := [some (.ref x), some (.ref a), some (.ref b), some (.int (r2.2.1 - r1.2.1)), some (.int (r2.2.2.1 - r1.2.2.1)), some (.int (nI (cbE (chM r1 r2) en i))), some (.int (nI i)), some (.null)]) C dX2_carry_66 (by decide) rfl rfl ?_
        refine gj_aloadN C dX2_carry_68 rfl ?_
        refine gj_ifnullN (tgt := 106) C dX2_carry_70 (by decide) ?_
        refine gj_aloadN C dX2_carry_106 rfl ?_
        refine gj_ifnullN (tgt := 132) C dX2_carry_108 (by decide) ?_
        refine gj_iinc (v := (nI (i + 1))) (lw' := [some (.ref x), some (.ref a), some (.ref b), some (.int (r2.2.1 - r1.2.1)), some (.int (r2.2.2.1 - r1.2.2.1)), some (.int (nI (cbE (chM r1 r2) en i))), some (.int (nI (i + 1))), some (.null)]) C dX2_carry_132 rfl (nI_1 i) (by decide) rfl rfl ?_
        refine gj_goto (tgt := 49) C dX2_carry_135 (by decide) ?_
        refine gj_un 7 (lw' := [some (.ref x), some (.ref a), some (.ref b), some (.int (r2.2.1 - r1.2.1)), some (.int (r2.2.2.1 - r1.2.2.1)), some (.int (nI (cbE (chM r1 r2) en i))), some (.int (nI (i + 1))), none]) rfl ?_
        have h9 := ih (i + 1) f g (by omega) (by rw [mapI_n hei]; exact hW) ha hb
        rw [cb_n hei] at h9
        exact h9
      | some e0 =>
        obtain ⟨z, z1, z2, z3⟩ := rpw_at hW hj (mapI_at.trans hei)
        refine gj_iload C dX2_carry_49 rfl ?_
        refine gj_aload_n C dX2_carry_51 rfl ?_
        refine gj_get C dX2_carry_52 hW.1.1 rfl inX2 1 (by decide) w_22 rfl ?_
        refine gj_alen C 1 dX2_carry_55 hW.1.2.1 rfl ?_
        refine gj_icmp_geF (tgt := 138) C dX2_carry_56 (by decide) (nI_ge hj (by omega)) ?_
        refine gj_aload_n C dX2_carry_59 rfl ?_
        refine gj_get C dX2_carry_60 hW.1.1 rfl inX2 1 (by decide) w_22 rfl ?_
        refine gj_iload C dX2_carry_63 rfl ?_
        refine gj_aaldN C 1 dX2_carry_65 hW.1.2.1 rfl hj (by omega) ?_
        refine gj_st (st' := [.ref z]) (by rw [z1]; rfl) ?_
        refine gj_astore (lw' := [some (.ref x), some (.ref a), some (.ref b), some (.int (r2.2.1 - r1.2.1)), some (.int (r2.2.2.1 - r1.2.2.1)), some (.int (nI (cbE (chM r1 r2) en i))), some (.int (nI i)), some (.ref z)]) C dX2_carry_66 (by decide) rfl rfl ?_
        refine gj_aload C dX2_carry_68 rfl ?_
        refine gj_ifnull C dX2_carry_70 ?_
        refine gj_aload C dX2_carry_73 rfl ?_
        refine gj_getN C dX2_carry_75 z2 rfl inX1 0 (by decide) (hV.2.1 _ nw_8) rfl ?_
        refine gj_aload_n C dX2_carry_78 rfl ?_
        refine gj_cVN (As := [.ref a]) (rest := []) (nc := 0) (ns := 0) C hV (k_Area_liesIn l D (tyl cI cN cZ cJ) f (ar i) a e0.1 r1 z3 ha) dX2_carry_79 rfl w_322 rfl nw_17 w_3 w_321 ws_15 hd_X0_liesIn rfl z3 rfl ⟨Nat.le_of_ble_eq_true rfl, Nat.le_of_ble_eq_true rfl⟩ (Nat.le_of_ble_eq_true rfl) (by decide) (by decide) (fun v u hp1 => ?_)
        refine gj_rt (st' := [.int (bI (decide (rIn e0.1 r1)))]) hp1.1 hp1.2 rfl ?_
        refine gj_if_eq (tgt := 106) C dX2_carry_82 (by decide) (fun c2 => ?_) (fun c2 => ?_)
        · refine gj_aload C dX2_carry_106 rfl ?_
          refine gj_ifnull C dX2_carry_108 ?_
          refine gj_aload C dX2_carry_111 rfl ?_
          refine gj_getN C dX2_carry_113 z2 rfl inX1 0 (by decide) (hV.2.1 _ nw_8) rfl ?_
          refine gj_aload_n C dX2_carry_116 rfl ?_
          refine gj_cVN (As := [.ref b]) (rest := []) (nc := 0) (ns := 0) C hV (k_Area_liesIn l D (tyl cI cN cZ cJ) f (ar i) b e0.1 r2 z3 hb) dX2_carry_117 rfl w_322 rfl nw_17 w_3 w_321 ws_15 hd_X0_liesIn rfl z3 rfl ⟨Nat.le_of_ble_eq_true rfl, Nat.le_of_ble_eq_true rfl⟩ (Nat.le_of_ble_eq_true rfl) (by decide) (by decide) (fun v u hp3 => ?_)
          refine gj_rt (st' := [.int (bI (decide (rIn e0.1 r2)))]) hp3.1 hp3.2 rfl ?_
          refine gj_if_eq (tgt := 132) C dX2_carry_120 (by decide) (fun c4 => ?_) (fun c4 => ?_)
          · refine gj_iinc (v := (nI (i + 1))) (lw' := [some (.ref x), some (.ref a), some (.ref b), some (.int (r2.2.1 - r1.2.1)), some (.int (r2.2.2.1 - r1.2.2.1)), some (.int (nI (cbE (chM r1 r2) en i))), some (.int (nI (i + 1))), some (.ref z)]) C dX2_carry_132 rfl (nI_1 i) (by decide) rfl rfl ?_
            refine gj_goto (tgt := 49) C dX2_carry_135 (by decide) ?_
            refine gj_un 7 (lw' := [some (.ref x), some (.ref a), some (.ref b), some (.int (r2.2.1 - r1.2.1)), some (.int (r2.2.2.1 - r1.2.2.1)), some (.int (nI (cbE (chM r1 r2) en i))), some (.int (nI (i + 1))), none]) rfl ?_
            have h9 := ih (i + 1) f g (by omega) (by rw [mapI_k hei (phM_3 (bI_p0 c2) (bI_p0 c4))]; exact hW) ha hb
            rw [cb_f hei (chM_3 (bI_p0 c2) (bI_p0 c4))] at h9
            exact h9
          · refine gj_aload_n C dX2_carry_123 rfl ?_
            refine gj_iload C dX2_carry_124 rfl ?_
            refine gj_cV (As := [.int (nI i)]) (rest := []) (nc := 0) (ns := 0) C hV (k_release l D cI cN cZ cJ f x (some a) hE hM _ _ n g i z hW.1.1 hW.1.2.1 hn hj z1) dX2_carry_126 rfl w_93 rfl w_90 w_1 w_92 ws_1 hd_X2_release rfl hW.1.1 rfl ⟨Nat.le_of_ble_eq_true rfl, Nat.le_of_ble_eq_true rfl⟩ (Nat.le_of_ble_eq_true rfl) (by decide) (by decide) (fun v u hp5 => ?_)
            refine gj_rt (f := (gm_up (gm_up f hE (aE cN n (va_up g i none))) x (cRR (some a) hE (nI (cn (mapI (phM r1 r2) en i) n) - 1) hM (nI ml.length)))) (st' := []) hp5.1 hp5.2 rfl ?_
            refine gj_iinc (v := (nI ((cbE (chM r1 r2) en i) + 1))) (lw' := [some (.ref x), some (.ref a), some (.ref b), some (.int (r2.2.1 - r1.2.1)), some (.int (r2.2.2.1 - r1.2.2.1)), some (.int (nI ((cbE (chM r1 r2) en i) + 1))), some (.int (nI i)), some (.ref z)]) C dX2_carry_129 rfl (nI_1 (cbE (chM r1 r2) en i)) (by decide) rfl rfl ?_
            refine gj_iinc (v := (nI (i + 1))) (lw' := [some (.ref x), some (.ref a), some (.ref b), some (.int (r2.2.1 - r1.2.1)), some (.int (r2.2.2.1 - r1.2.2.1)), some (.int (nI ((cbE (chM r1 r2) en i) + 1))), some (.int (nI (i + 1))), some (.ref z)]) C dX2_carry_132 rfl (nI_1 i) (by decide) rfl rfl ?_
            refine gj_goto (tgt := 49) C dX2_carry_135 (by decide) ?_
            refine gj_un 7 (lw' := [some (.ref x), some (.ref a), some (.ref b), some (.int (r2.2.1 - r1.2.1)), some (.int (r2.2.2.1 - r1.2.2.1)), some (.int (nI ((cbE (chM r1 r2) en i) + 1))), some (.int (nI (i + 1))), none]) rfl ?_
            have h9 := ih (i + 1) _ _ (by omega) (by rw [mapI_s hei, phM_2 (bI_p0 c2) (bI_p1 c4)]; exact rpw_rel hW hj (mapI_at.trans hei)) ((gm_up_ne (gm_ne ha hW.1.1 (by simp))).trans ((gm_up_ne (gm_ne ha hW.1.2.1 (by simp))).trans ha)) ((gm_up_ne (gm_ne hb hW.1.1 (by simp))).trans ((gm_up_ne (gm_ne hb hW.1.2.1 (by simp))).trans hb))
            rw [cb_t hei (chM_2 hns (bI_p1 c4))] at h9
            exact h9
        · refine gj_aload C dX2_carry_85 rfl ?_
          refine gj_getN C dX2_carry_87 z2 rfl inX1 0 (by decide) (hV.2.1 _ nw_8) rfl ?_
          refine gj_aload_n C dX2_carry_90 rfl ?_
          refine gj_getN C dX2_carry_91 hb rfl inX0 0 (by decide) (hV.2.1 _ nw_1) rfl ?_
          refine gj_iload_n C dX2_carry_94 rfl ?_
          refine gj_iload C dX2_carry_95 rfl ?_
          refine gj_cVN (As := [.int r2.1, .int (r2.2.1 - r1.2.1), .int (r2.2.2.1 - r1.2.2.1)]) (rest := []) (nc := 0) (ns := 0) C hV (k_Area_shift l D (tyl cI cN cZ cJ) f (ar i) e0.1 r2.1 (r2.2.1 - r1.2.1) (r2.2.2.1 - r1.2.2.1) z3) dX2_carry_97 rfl w_313 rfl nw_16 w_3 w_312 ws_13 hd_X0_shift rfl z3 rfl ⟨Nat.le_of_ble_eq_true rfl, Nat.le_of_ble_eq_true rfl⟩ (Nat.le_of_ble_eq_true rfl) (by decide) (by decide) (fun v u hp6 => ?_)
          refine gj_rt (f := (gm_up f (ar i) (cAr (rM r2.1 (r2.2.1 - r1.2.1) (r2.2.2.1 - r1.2.2.1) e0.1)))) (st' := []) hp6.1 hp6.2 rfl ?_
          refine gj_iinc (v := (nI ((cbE (chM r1 r2) en i) + 1))) (lw' := [some (.ref x), some (.ref a), some (.ref b), some (.int (r2.2.1 - r1.2.1)), some (.int (r2.2.2.1 - r1.2.2.1)), some (.int (nI ((cbE (chM r1 r2) en i) + 1))), some (.int (nI i)), some (.ref z)]) C dX2_carry_100 rfl (nI_1 (cbE (chM r1 r2) en i)) (by decide) rfl rfl ?_
          refine gj_goto (tgt := 132) C dX2_carry_103 (by decide) ?_
          refine gj_iinc (v := (nI (i + 1))) (lw' := [some (.ref x), some (.ref a), some (.ref b), some (.int (r2.2.1 - r1.2.1)), some (.int (r2.2.2.1 - r1.2.2.1)), some (.int (nI ((cbE (chM r1 r2) en i) + 1))), some (.int (nI (i + 1))), some (.ref z)]) C dX2_carry_132 rfl (nI_1 i) (by decide) rfl rfl ?_
          refine gj_goto (tgt := 49) C dX2_carry_135 (by decide) ?_
          refine gj_un 7 (lw' := [some (.ref x), some (.ref a), some (.ref b), some (.int (r2.2.1 - r1.2.1)), some (.int (r2.2.2.1 - r1.2.2.1)), some (.int (nI ((cbE (chM r1 r2) en i) + 1))), some (.int (nI (i + 1))), none]) rfl ?_
          have h9 := ih (i + 1) _ g (by omega) (by rw [mapI_s hei, phM_1 (bI_p1 c2)]; exact rpw_area hW hj (mapI_at.trans hei) _) ((gm_up_ne (fun h => hW.2.2.1.2 i hj (by rw [mapI_at, hei]; exact fun z => by cases z) (by rw [h]))).trans ha) ((gm_up_ne (fun h => hbn i hj (by rw [hei]; exact fun z => by cases z) h.symm)).trans hb)
          rw [cb_t hei (chM_1 hns (bI_p1 c2))] at h9
          exact h9
  refine gj_aload_n C dX2_carry_0 rfl ?_
  refine gj_getN C dX2_carry_1 hb rfl inX0 1 (by decide) (hV.2.1 _ nw_2) rfl ?_
  refine gj_aload_n C dX2_carry_4 rfl ?_
  refine gj_getN C dX2_carry_5 ha rfl inX0 1 (by decide) (hV.2.1 _ nw_2) rfl ?_
  refine gj_isub C dX2_carry_8 ?_
  refine gj_istore_n (lw' := [some (.ref x), some (.ref a), some (.ref b), some (.int (r2.2.1 - r1.2.1)), none, none, none, none]) C dX2_carry_9 (by decide) rfl rfl ?_
  refine gj_aload_n C dX2_carry_10 rfl ?_
  refine gj_getN C dX2_carry_11 hb rfl inX0 2 (by decide) (hV.2.1 _ nw_3) rfl ?_
  refine gj_aload_n C dX2_carry_14 rfl ?_
  refine gj_getN C dX2_carry_15 ha rfl inX0 2 (by decide) (hV.2.1 _ nw_3) rfl ?_
  refine gj_isub C dX2_carry_18 ?_
  refine gj_istore (lw' := [some (.ref x), some (.ref a), some (.ref b), some (.int (r2.2.1 - r1.2.1)), some (.int (r2.2.2.1 - r1.2.2.1)), none, none, none]) C dX2_carry_19 (by decide) rfl rfl ?_
  refine gj_aload_n C dX2_carry_21 rfl ?_
  refine gj_getN C dX2_carry_22 hb rfl inX0 0 (by decide) (hV.2.1 _ nw_1) rfl ?_
  refine gj_aload_n C dX2_carry_25 rfl ?_
  refine gj_getN C dX2_carry_26 ha rfl inX0 0 (by decide) (hV.2.1 _ nw_1) rfl ?_
  refine gj_icmp_ne (tgt := 43) C dX2_carry_29 (by decide) (fun c7 => ?_) (fun c7 => ?_)
  · refine gj_iconst (v := 0) C dX2_carry_43 (by decide) ?_
    refine gj_istore (lw' := [some (.ref x), some (.ref a), some (.ref b), some (.int (r2.2.1 - r1.2.1)), some (.int (r2.2.2.1 - r1.2.2.1)), some (.int 0), none, none]) C dX2_carry_44 (by decide) rfl rfl ?_
    refine gj_iconst (v := 0) C dX2_carry_46 (by decide) ?_
    refine gj_istore (lw' := [some (.ref x), some (.ref a), some (.ref b), some (.int (r2.2.1 - r1.2.1)), some (.int (r2.2.2.1 - r1.2.2.1)), some (.int 0), some (.int 0), none]) C dX2_carry_47 (by decide) rfl rfl ?_
    exact loop (fun h => c7 h.1) n 0 f g (by omega) (by rw [mapI_0]; exact hW) ha hb
  · refine gj_iload_n C dX2_carry_32 rfl ?_
    refine gj_if_ne (tgt := 43) C dX2_carry_33 (by decide) (fun c8 => ?_) (fun c8 => ?_)
    · refine gj_iconst (v := 0) C dX2_carry_43 (by decide) ?_
      refine gj_istore (lw' := [some (.ref x), some (.ref a), some (.ref b), some (.int (r2.2.1 - r1.2.1)), some (.int (r2.2.2.1 - r1.2.2.1)), some (.int 0), none, none]) C dX2_carry_44 (by decide) rfl rfl ?_
      refine gj_iconst (v := 0) C dX2_carry_46 (by decide) ?_
      refine gj_istore (lw' := [some (.ref x), some (.ref a), some (.ref b), some (.int (r2.2.1 - r1.2.1)), some (.int (r2.2.2.1 - r1.2.2.1)), some (.int 0), some (.int 0), none]) C dX2_carry_47 (by decide) rfl rfl ?_
      exact loop (fun h => c8 h.2.1) n 0 f g (by omega) (by rw [mapI_0]; exact hW) ha hb
    · refine gj_iload C dX2_carry_36 rfl ?_
      refine gj_if_ne (tgt := 43) C dX2_carry_38 (by decide) (fun c9 => ?_) (fun c9 => ?_)
      · refine gj_iconst (v := 0) C dX2_carry_43 (by decide) ?_
        refine gj_istore (lw' := [some (.ref x), some (.ref a), some (.ref b), some (.int (r2.2.1 - r1.2.1)), some (.int (r2.2.2.1 - r1.2.2.1)), some (.int 0), none, none]) C dX2_carry_44 (by decide) rfl rfl ?_
        refine gj_iconst (v := 0) C dX2_carry_46 (by decide) ?_
        refine gj_istore (lw' := [some (.ref x), some (.ref a), some (.ref b), some (.int (r2.2.1 - r1.2.1)), some (.int (r2.2.2.1 - r1.2.2.1)), some (.int 0), some (.int 0), none]) C dX2_carry_47 (by decide) rfl rfl ?_
        exact loop (fun h => c9 h.2.2) n 0 f g (by omega) (by rw [mapI_0]; exact hW) ha hb
      · refine gj_iconst (v := 0) C dX2_carry_41 (by decide) ?_
        exact gj_iret C hr hlk dX2_carry_42 (⟨by rw [cbE_0 (chM_0 ⟨c7, c8, c9⟩)] <;> rfl, by rw [mapE_id (phM_same ⟨c7, c8, c9⟩ (hS ⟨c7, c8, c9⟩))]; exact ⟨_, hE, hM, k, g, mf, ar, hW⟩⟩)
end
section
/-! Methods that may throw, and their calls inside a handler's range. -/
theorem gz_Z {C n d : String} {v : Value} {A B : Nat → Prop} {U : State} {H : Heap} (h : va_Z C n d v A U H) (hAB : ∀ q, q < H.size → B q → A q) : va_Z C n d v B U H := by
  obtain ⟨cf, kf, fi, f, a, cell, h1, h2, h3, h4, h5, h6, h7, h8⟩ := h
  exact ⟨cf, kf, fi, f, a, cell, h1, h2, h3, h4, h5, h6, h7, fun z => h8 (hAB a (Array.getElem?_eq_some_iff.mp h5).1 z)⟩
theorem gz_L {C n d : String} {A B : Nat → Prop} {U : State} {H : Heap} (h : vx_L C n d A U H) (hAB : ∀ q, q < H.size → B q → A q) : vx_L C n d B U H := by
  obtain ⟨c, k, i, f, a, cell, h1, h2, h3, h4, h5, h6, h7, h8, h9, h10⟩ := h
  exact ⟨c, k, i, f, a, cell, h1, h2, h3, h4, h5, h6, h7, h8, h9, fun z => h10 (hAB a (Array.getElem?_eq_some_iff.mp h5).1 z)⟩
theorem gz_Zq {C n d : String} {A B : Nat → Prop} {U : State} {H : Heap} (h : vx_Zq C n d A U H) (hAB : ∀ q, q < H.size → B q → A q) : vx_Zq C n d B U H := by
  refine ⟨?_, gz_L h.2 hAB⟩
  rcases h.1 with h | ⟨t, h⟩
  · exact Or.inl (gz_Z h hAB)
  · exact Or.inr ⟨t, gz_Z h hAB⟩
/-- the statics that a throw reads lie outside the cells of A -/
def gz (A : Nat → Prop) (U : State) (H : Heap) : Prop := vx_Zq Bundle.tN "UNASSIGNED_STACK" Bundle.steD A U H ∧ vx_Zq Bundle.tN "SUPPRESSED_SENTINEL" Bundle.listD A U H
theorem gz.sub {A B : Nat → Prop} {U : State} {H : Heap} (h : gz A U H) (hAB : ∀ q, q < H.size → B q → A q) : gz B U H := ⟨gz_Zq h.1 hAB, gz_Zq h.2 hAB⟩
theorem gz.moved {A : Nat → Prop} {u U : State} {H : Heap} (hvm : u.vm.Alike U.vm) (h : gz A u H) : gz A U H := ⟨vx_Zq.moved hvm h.1, vx_Zq.moved hvm h.2⟩
theorem gz.kept {A : Nat → Prop} {U : State} {H H1 : Heap} (h : gz A U H) (hq : ∀ a : Nat, a < H.size → ¬ A a → H1[a]? = H[a]?) : gz A U H1 := ⟨vx_Zq.kept h.1 hq, vx_Zq.kept h.2 hq⟩
abbrev xIA : String := "java/lang/IllegalArgumentException"
abbrev xIS : String := "java/lang/IllegalStateException"
abbrev xNm : List String := ["java/lang/RuntimeException", "java/lang/Exception"]
def gk_NW2 : List Cond := [.castable "java/lang/IllegalArgumentException" "java/lang/IllegalArgumentException", .castable "java/lang/IllegalStateException" "java/lang/IllegalStateException", .declares ⟨"java/lang/RuntimeException", "<init>", "(Ljava/lang/String;)V"⟩, .declares ⟨"java/lang/Exception", "<init>", "(Ljava/lang/String;)V"⟩, .declares ⟨"java/lang/Throwable", "<init>", "(Ljava/lang/String;)V"⟩]
theorem gk_NW2_tbl : ∀ w ∈ gk_NW2, w ∈ lw_tbl := by decide +kernel
theorem gk_NW2_on : gk_NW2.all Cond.onTables = true := by decide +kernel
def gk_E2 (U : State) : Prop := ∀ w ∈ gk_NW2, va_Nw w U
theorem gk_E2.warm {s U : State} (hW : s.WarmedH U.vm) (h : gk_E2 s) : gk_E2 U := by
  intro w hw
  have h1 := h w hw
  unfold gk_NW2 at hw
  simp only [List.mem_cons, List.not_mem_nil, or_false] at hw
  rcases hw with rfl | rfl | rfl | rfl | rfl
  · exact va_Nw.warmC hW h1
  · exact va_Nw.warmC hW h1
  · exact va_Nw.warmD hW h1
  · exact va_Nw.warmD hW h1
  · exact va_Nw.warmD hW h1
theorem gk_E2.use {s : State} {args : Array Value} (h : gk_E2 s) : ∀ w ∈ gk_NW2, w.before args s = true := fun w hw => va_Nw.use (List.all_eq_true.mp gk_NW2_on w hw) (h w hw)
def gkx_X (px : String → gm → Prop) (D : va_G) (A : Nat → Prop) : String → State → State → Prop := fun E st t => ∃ u : gm, px E u ∧ gm_hp D vwCl A u t.heap ∧ va_F A st t
def gkx_B (D : va_G) (tys : List (ClassId × FieldType)) (f : gm) (sz : Nat) (U : State) : Prop := gk_B D tys f sz U ∧ gk_E2 U ∧ gz (fun q => f q ≠ none) U U.heap
/-- a contract of a method that returns (post answer map) or throws an E (px E map) -/
def gkx (l : Launch) (y : MethodName) (cw : Cond) (rm : Room) (D : va_G) (tys : List (ClassId × FieldType)) (av : List Value) (f : gm) (post : Option Value → gm → Prop) (px : String → gm → Prop) : Prop :=
  ∀ sz : Nat, vx_Met l y (cw :: gW) rm (va_Pc av (gkx_B D tys f sz)) (gk_Q post D (gm_A f sz)) (gkx_X px D (gm_A f sz)) rm.cells rm.slots (gm_A f sz)
theorem gz_A {f : gm} {U : State} (h : gz (fun q => f q ≠ none) U U.heap) : gz (gm_A f U.heap.size) U U.heap := h.sub (fun q hq hA => by
  rcases hA with h | h
  · exact h
  · omega)
theorem gkx_of {l : Launch} {y : MethodName} {cw : Cond} {rm : Room} {D : va_G} {tys : List (ClassId × FieldType)} {av : List Value} {f : gm} {post : Option Value → gm → Prop} {px : String → gm → Prop} {cc : ByteArray} {maxL : Nat} {ret : Option FieldType} (lw : List (Option Value))
    (hy : plainName y.cls = true) (hw : cw = Cond.code y cc maxL ret) (hlen : (lg_sl av).length ≤ maxL) (hlw : gl_l lw = lv_args 0 av)
    (body : ∀ (p : Program) (e : Env) (s : State) (m : MethodId) (args : Array Value) (below : List Frame) (meth : Method) (c : Code) (A : Nat → Prop), gx p m c cc maxL s args gW y.cls D vwCl tys A → gk_E D tys s → meth.sig.returnType = ret → meth.locks = false → meth.name = y.name → gk_E2 s → gz A s s.heap → (∀ x ∈ c.exceptionTable.toList, False) →
      gj p l e rm s m args below meth c D vwCl A maxL (vx_MQ below (gk_Q post D A) (gkx_X px D A) args s rm.cells rm.slots A) f rm.cells rm.slots 0 lw []) : gkx l y cw rm D tys av f post px := by
  intro sz
  refine vx_ofW (cc := cc) (maxL := maxL) (ret := ret) hy (by rw [hw]) ?_
  intro p e s m args below meth c s₁ B hml hT hv
  obtain ⟨rfl, ⟨hsz, hP, hE⟩, hE2, hZ⟩ := hv
  have hts := atoms_spec (ws := cw :: gW) B.pre
  have hown : s.vm.findClass y.cls = some m.cls := findClass_of_methodNamed B.named
  have hnm : meth.name = y.name := (name_of_methodNamed B.named B.method).1
  subst hsz
  have hl := lv_entry av (n := maxL) hlen
  rw [lg_entry_eq]
  refine body p e s m av.toArray below meth c (gm_A f s.heap.size) ⟨⟨B.exec, B.bytes, hml, hown, fun w hw => hts w (List.mem_cons_of_mem _ hw)⟩, hE.1, fun q hq => Or.inr hq⟩ hE B.returns B.notSynchronized hnm hE2 (gz_A hZ) hT s.heap [] 0 0 _ (fun a x ha => ⟨(hP a x ha).1, gm_A_in ha⟩) va_S.rf (by omega) (by omega) ?_
  show lv_has _ _ (gl_l lw)
  rw [hlw]
  exact hl
/-- a method with a table of its own -/
theorem gkx_ofH {l : Launch} {y : MethodName} {cw : Cond} {rm : Room} {D : va_G} {tys : List (ClassId × FieldType)} {av : List Value} {f : gm} {post : Option Value → gm → Prop} {px : String → gm → Prop} {cc : ByteArray} {maxL : Nat} {ret : Option FieldType} {hh : List (Nat × Nat × Nat × Nat)} (lw : List (Option Value))
    (hy : plainName y.cls = true) (hw : cw = Cond.codeWith y cc maxL ret hh) (hlen : (lg_sl av).length ≤ maxL) (hlw : gl_l lw = lv_args 0 av)
    (body : ∀ (p : Program) (e : Env) (s : State) (m : MethodId) (args : Array Value) (below : List Frame) (meth : Method) (c : Code) (A : Nat → Prop), gx p m c cc maxL s args gW y.cls D vwCl tys A → gk_E D tys s → meth.sig.returnType = ret → meth.locks = false → meth.name = y.name → gk_E2 s → gz A s s.heap → c.exceptionTable.toList = tableOf hh →
      gj p l e rm s m args below meth c D vwCl A maxL (vx_MQ below (gk_Q post D A) (gkx_X px D A) args s rm.cells rm.slots A) f rm.cells rm.slots 0 lw []) : gkx l y cw rm D tys av f post px := by
  intro sz
  refine vx_ofWH (cc := cc) (maxL := maxL) (ret := ret) (hh := hh) hy (by rw [hw]) ?_
  intro p e s m args below meth c s₁ B hml hv
  obtain ⟨rfl, ⟨hsz, hP, hE⟩, hE2, hZ⟩ := hv
  have hts := atoms_spec (ws := cw :: gW) B.pre
  have hown : s.vm.findClass y.cls = some m.cls := findClass_of_methodNamed B.named
  have hnm : meth.name = y.name := (name_of_methodNamed B.named B.method).1
  have hT : c.exceptionTable.toList = tableOf hh := vx_table (x := y) B (hw ▸ hts cw List.mem_cons_self)
  subst hsz
  have hl := lv_entry av (n := maxL) hlen
  rw [lg_entry_eq]
  refine body p e s m av.toArray below meth c (gm_A f s.heap.size) ⟨⟨B.exec, B.bytes, hml, hown, fun w hw => hts w (List.mem_cons_of_mem _ hw)⟩, hE.1, fun q hq => Or.inr hq⟩ hE B.returns B.notSynchronized hnm hE2 (gz_A hZ) hT s.heap [] 0 0 _ (fun a x ha => ⟨(hP a x ha).1, gm_A_in ha⟩) va_S.rf (by omega) (by omega) ?_
  show lv_has _ _ (gl_l lw)
  rw [hlw]
  exact hl
section GKX
variable {p : Program} {l : Launch} {e : Env} {R : Room} {s : State} {m : MethodId} {args : Array Value} {below : List Frame} {meth : Method} {c : Code} {D : va_G} {A : Nat → Prop} {nL : Nat} {Q : State → Prop} {f g : gm} {nc ns pc : Nat} {lw : List (Option Value)} {st rest : List Value} {cc : ByteArray} {own : String} {tys : List (ClassId × FieldType)} {post : Option Value → gm → Prop} {px : String → gm → Prop}
theorem gj_vx {Qc : Array Value → State → Outcome → State → Prop} {XC : String → State → State → Prop} (k : gj p l e R s m args below meth c D vwCl A nL (MQ below Qc args s R.cells R.slots A) f nc ns pc lw st) : gj p l e R s m args below meth c D vwCl A nL (vx_MQ below Qc XC args s R.cells R.slots A) f nc ns pc lw st :=
  fun H locs cells slots ls h1 h2 h3 h4 hl => vx_ret (k H locs cells slots ls h1 h2 h3 h4 hl)
/-- throw new E("text") -/
theorem gj_throwS (C : gx p m c cc nL s args gW own D vwCl tys A) (hV : gk_E D tys s) (hV2 : gk_E2 s) (hZ : gz A s s.heap) (hl : l.stackTraces = false) (hT : ∀ x ∈ c.exceptionTable.toList, False) (hlk : meth.locks = false) {cls text : String} {names : List String} {ik is ic : Nat}
    (d0 : decode cc pc = .ok (.new ik, 3)) (d3 : decode cc (pc + 3) = .ok (.dup, 1)) (d4 : decode cc (pc + 4) = .ok (.ldc is, 2)) (d6 : decode cc (pc + 6) = .ok (.invokespecial ic, 3)) (d9 : decode cc (pc + 9) = .ok (.athrow, 1))
    (hcls : Bundle.fit cls = true ∧ ∀ n ∈ names, Bundle.fit n = true) (hk : Cond.classLink own ik cls ∈ gW) (hini : Cond.initialized cls ∈ gW) (hs : (own, is, text) ∈ gk_ST)
    (hat1 : ∀ w ∈ (vx_atS own ic cls names).filter goodWord, w ∈ gW) (hat2 : ∀ w ∈ (vx_atS own ic cls names).filter (fun w => !goodWord w), w ∈ gk_NW2) (hgood : ∀ w ∈ Cond.classLink own ik cls :: Cond.initialized cls :: vx_atS own ic cls names, vx_ot w = true)
    (hfr : names.length + 3 < R.frames) (hlo : (st.map fun v => v.category).sum + (13 * (names.length + 1) + 43) ≤ R.locals) (hnc : 1 ≤ nc) (hns : 6 ≤ ns) (hp : px cls f) :
    gj p l e R s m args below meth c D vwCl A nL (vx_MQ below (gk_Q post D A) (gkx_X px D A) args s R.cells R.slots A) f nc ns pc lw st := by
  intro H locs cells slots ls h1 h2 h3 h4 hlw
  obtain ⟨sa, hsa⟩ := hV.2.2.2.1 _ hs
  refine vx_throwS C.1.1 C.1.2.1 hl C.1.2.2.2.1 hcls.1 hcls.2 (C.1.2.2.2.2 _ hk) (C.1.2.2.2.2 _ hini) hsa (vx_hat (fun w hw => C.1.2.2.2.2 w (hat1 w hw)) hat2 hV2.use) hgood hZ.1 hZ.2 h2 (hlw.1.trans C.1.2.2.1.symm) d0 d3 d4 d6 d9 (fun x hx => (hT x hx).elim) hfr hlo (by omega) (by omega) hlk (fun t ht1 ht2 ht3 => ?_) h2.2.2 (by omega) (by omega)
  exact ⟨f, hp, fun a x ha => ⟨(h1 a x ha).1.kept (ht3 a (h1.lt ha)), (h1 a x ha).2⟩, Nat.le_trans h2.1 ht2, fun q hq hA => (ht3 q (Nat.lt_of_lt_of_le hq h2.1)).trans (h2.2.1 q hq hA)⟩
/-- the machine with an E thrown over this frame -/
def gjx (p : Program) (l : Launch) (e : Env) (R : Room) (s : State) (m : MethodId) (args : Array Value) (below : List Frame) (meth : Method) (c : Code) (D : va_G) (A : Nat → Prop) (nL : Nat) (Q : State → Prop) (f : gm) (nc ns pc : Nat) (lw : List (Option Value)) (st : List Value) (E : String) : Prop :=
  ∀ (H : Heap) (locs : List Loc) (cells slots : Nat) (ls : Array Slot) (q : Nat) (ce : Cell), gm_hp D vwCl A f H → va_S A s.heap H locs → cells + nc ≤ R.cells → slots + ns ≤ R.slots → gl_has ls nL lw → H[q]? = some ce → ce.vm = .none → s.vm.findClass E = some ce.cls → vx_W p l e R s m args below meth c H locs cells slots Q (F0 m pc ls st) q
theorem gjx_catch (C : gx p m c cc nL s args gW own D vwCl tys A) (hV : gk_E D tys s) (hV2 : gk_E2 s) {E name : String} (pre : List ExceptionTableEntry) (x : ExceptionTableEntry) (suf : List ExceptionTableEntry) (hsplit : c.exceptionTable.toList = pre ++ x :: suf)
    (hpass : ∀ z ∈ pre, z.catchType ≠ 0 ∧ ∃ nm : String, Cond.classLink own z.catchType nm ∈ gW ∧ (E, nm) ∈ gk_NC) (hx : covers x pc = true) (h0 : x.catchType ≠ 0) (hlk : Cond.classLink own x.catchType name ∈ gW) (hcast : Cond.castable E name ∈ gk_NW2)
    (kk : ∀ q : Nat, gj p l e R s m args below meth c D vwCl A nL Q f nc ns x.handlerPc lw [.ref q]) : gjx p l e R s m args below meth c D A nL Q f nc ns pc lw st E := by
  intro H locs cells slots ls q ce h1 h2 h3 h4 hl hce hcv hcl
  refine vx_catch C.1.2.2.2.1 pre x suf hsplit (fun z hz => ?_) hx h0 (C.1.2.2.2.2 _ hlk) (hV2.use _ hcast) hce hcv hcl (kk q H locs cells slots ls h1 h2 h3 h4 hl)
  obtain ⟨hz0, nm, hz1, hz2⟩ := hpass z hz
  exact Or.inr ⟨hz0, nm, C.1.2.2.2.2 _ hz1, hV.2.2.2.2 _ hz2⟩
theorem gkx_blind {av : List Value} {sz : Nat} : FrameBlind (va_Pc av (gkx_B D tys f sz)) := fun a U g mk q => ⟨q.1, ⟨q.2.1.1, q.2.1.2.1, gk_E.warm (U := U.calling g mk a) (State.WarmedH.refl U) q.2.1.2.2⟩, gk_E2.warm (U := U.calling g mk a) (State.WarmedH.refl U) q.2.2.1, gz.moved (u := U) (U := U.calling g mk a) (Vm.Alike.refl U.vm) q.2.2.2⟩
theorem gkx_pre {H : Heap} {locs : List Loc} {As : List Value} (hE : gk_E D tys s) (hE2 : gk_E2 s) (hZ : gz A s s.heap) (h1 : gm_hp D vwCl A f H) (h2 : va_S A s.heap H locs) (hg : ∀ a x, g a = some x → f a = some x) : ∀ U : State, U.heap = H → s.WarmedH U.vm → va_Pc As (gkx_B D tys g H.size) As.toArray U := by
  intro U hU hW
  refine ⟨rfl, ⟨by rw [hU], fun a x ha => ⟨by rw [hU]; exact (h1 a x (hg a x ha)).1, trivial⟩, gk_E.warm hW hE⟩, gk_E2.warm hW hE2, ?_⟩
  rw [hU]
  refine ((gz.moved hW.alike (hZ.kept h2.2.1)).sub (fun q hq hq2 => ?_))
  cases hgq : g q with
  | none => exact absurd hgq hq2
  | some x => exact (h1 q x (hg q x hgq)).2
/-- a call that returns or throws, over the part g of the caller's map -/
theorem gj_callX {mc ms nc0 ns0 : Nat} {a : Array Value} {st0 : List Value} (C : gx p m c cc nL s args gW own D vwCl tys A) (hg : ∀ a x, g a = some x → f a = some x) (hb1 : nc + mc ≤ nc0) (hb2 : ns + ms ≤ ns0)
    (hr : ∀ (H : Heap) (locs : List Loc) (cells slots : Nat) (ls : Array Slot), gm_hp D vwCl A f H → va_S A s.heap H locs → cells + nc0 ≤ R.cells → slots + ns0 ≤ R.slots → gl_has ls nL lw → vx_Run p l e R s m args below meth c H locs cells slots mc ms (F0 m pc ls st0) rest (gk_Q post D (gm_A g H.size) a) (gkx_X px D (gm_A g H.size)) (gm_A g H.size))
    (kx : ∀ (E : String) (u : gm), px E u → (∀ q, u q ≠ none → g q ≠ none ∨ f q = none) → gjx p l e R s m args below meth c D A nL Q (gm_fr f g u) nc ns pc lw rest E)
    (kk : ∀ (v : Option Value) (u : gm), post v u → (∀ q, u q ≠ none → g q ≠ none ∨ f q = none) → gj p l e R s m args below meth c D vwCl A nL Q (gm_fr f g u) nc ns (pc + 3) lw (v.toList ++ rest)) :
    gj p l e R s m args below meth c D vwCl A nL Q f nc0 ns0 pc lw st0 := by
  intro H locs cells slots ls h1 h2 h3 h4 hl T hT X
  have hf := gk_sub C h1 h2 hg
  rcases hr H locs cells slots ls h1 h2 h3 h4 hl T hT X with ⟨v, st₀, t, T', L, h0, X', hL, e1, e2, ⟨⟨v', u, hv, hp, hb⟩, hF⟩, stp⟩ | ⟨q, st₀, t, T', L, E, ce, h0, X', hL, e1, e2, ⟨u, hp, hb, hF⟩, hce, hcv, hcl, stp⟩
  · cases hv
    obtain ⟨k2, k3⟩ := gk_keep h0 e1 h2 (fun q _ h => hf q h) hf hL hF
    rw [← e1] at hb
    obtain ⟨t2, a1, b1⟩ := kk v u hp (gk_dom h1 hb) T'.heap (locs ++ L) (cells + mc) (slots + ms) ls (gk_map h1 hf k2 hb) k3 (by omega) (by omega) hl T' rfl X'
    exact ⟨t2, stp t2 a1, b1⟩
  · obtain ⟨k2, k3⟩ := gk_keep h0 e1 h2 (fun q _ h => hf q h) hf hL hF
    rw [← e1] at hb
    obtain ⟨t2, a1, b1⟩ := kx E u hp (gk_dom h1 hb) T'.heap (locs ++ L) (cells + mc) (slots + ms) ls q ce (gk_map h1 hf k2 hb) k3 (by omega) (by omega) hl (by rw [e1]; exact hce) hcv hcl T' rfl X'
    exact ⟨t2, stp.trans a1, b1⟩
variable {y : MethodName} {cw : Cond} {rm : Room} {bytes : ByteArray} {maxL n index : Nat} {ret : Option FieldType} {As st0 : List Value} {b ci nc0 ns0 : Nat} {fs : List Value} {r : vw_C} {hh : List (Nat × Nat × Nat × Nat)}
/-- invokevirtual of a method that may throw -/
theorem gj_cVX (C : gx p m c cc nL s args gW own D vwCl tys A) (hV : gk_E D tys s) (hV2 : gk_E2 s) (hZ : gz A s s.heap) (hM : gkx l y cw rm D tys (.ref b :: As) g post px) (hg : ∀ a x, g a = some x → f a = some x) (d : decode cc pc = .ok (.invokevirtual index, 3)) (hst : st0 = As.reverse ++ .ref b :: rest) (hcw : cw ∈ gW) (hw : cw = Cond.code y bytes maxL ret) (hlk : Cond.methodLink own index y ∈ gW) (hini : Cond.initialized y.cls ∈ gW) (hin : Cond.instanceMethod y ∈ gW) (hsel : Cond.selects r.1 y y ∈ gW)
    (hd : y.cls ≠ "java/lang/invoke/MethodHandle" ∧ y.cls ≠ "java/lang/invoke/VarHandle" ∧ (parseMethodDescriptor y.desc).map (fun d => d.parameters.length) = some n) (hn : As.length = n) (hb : f b = some (.inr (ci, fs))) (hc : vwCl[ci]? = some r) (hR : rm.frames + 1 ≤ R.frames ∧ 8 + (maxL + 11) + rm.locals ≤ R.locals) (hW : (rest.map fun v => v.category).sum ≤ 8) (h1 : nc + rm.cells ≤ nc0) (h2 : ns + rm.slots ≤ ns0)
    (kx : ∀ (E : String) (u : gm), px E u → (∀ q, u q ≠ none → g q ≠ none ∨ f q = none) → gjx p l e R s m args below meth c D A nL Q (gm_fr f g u) nc ns pc lw rest E)
    (kk : ∀ (v : Option Value) (u : gm), post v u → (∀ q, u q ≠ none → g q ≠ none ∨ f q = none) → gj p l e R s m args below meth c D vwCl A nL Q (gm_fr f g u) nc ns (pc + 3) lw (v.toList ++ rest)) :
    gj p l e R s m args below meth c D vwCl A nL Q f nc0 ns0 pc lw st0 := by
  subst hst
  exact gj_callX C hg h1 h2 (fun H locs cells slots ls q1 q2 q3 q4 hl => vx_runV (As := As) (rest := rest) C.1 (hM H.size) ⟨callB_of n C.1.2.2.2.2 (gW_good hcw) (by rw [hw]) rfl rfl (C.1.2.2.2.2 _ hini) (C.1.2.2.2.2 _ hlk) hd hR, C.1.2.2.2.2 _ hin, C.1.2.2.2.2 _ hsel⟩ ⟨gkx_blind, gk_recv C q1 hb hc, gkx_pre hV hV2 hZ q1 q2 hg⟩ rfl hn hl.1 rfl (lv_room hW) d ⟨by omega, by omega⟩) kx kk
/-- invokestatic of a method with a table of its own, that never throws -/
theorem gj_cSX (C : gx p m c cc nL s args gW own D vwCl tys A) (hV : gk_E D tys s) (hV2 : gk_E2 s) (hZ : gz A s s.heap) (hM : gkx l y cw rm D tys As g post (fun _ _ => False)) (hg : ∀ a x, g a = some x → f a = some x) (d : decode cc pc = .ok (.invokestatic index, 3)) (hst : st0 = As.reverse ++ rest) (hcw : cw ∈ gW) (hw : cw = Cond.codeWith y bytes maxL ret hh) (hlk : Cond.methodLink own index y ∈ gW) (hini : Cond.initialized y.cls ∈ gW) (hstt : Cond.static y ∈ gW)
    (hd : y.cls ≠ "java/lang/invoke/MethodHandle" ∧ y.cls ≠ "java/lang/invoke/VarHandle" ∧ (parseMethodDescriptor y.desc).map (fun d => d.parameters.length) = some n) (hn : As.length = n) (hR : rm.frames + 1 ≤ R.frames ∧ 8 + (maxL + 11) + rm.locals ≤ R.locals) (hW : (rest.map fun v => v.category).sum ≤ 8) (h1 : nc + rm.cells ≤ nc0) (h2 : ns + rm.slots ≤ ns0)
    (kk : ∀ (v : Option Value) (u : gm), post v u → (∀ q, u q ≠ none → g q ≠ none ∨ f q = none) → gj p l e R s m args below meth c D vwCl A nL Q (gm_fr f g u) nc ns (pc + 3) lw (v.toList ++ rest)) :
    gj p l e R s m args below meth c D vwCl A nL Q f nc0 ns0 pc lw st0 := by
  subst hst
  have hG : GoodIn gW (cw :: gW) := gW_good hcw
  exact gj_callX C hg h1 h2 (fun H locs cells slots ls q1 q2 q3 q4 hl => vx_runSX (hh := hh) (As := As) (rest := rest) (bytes := bytes) (maxL := maxL) (ret := ret) (n := n) C.1 (hM H.size) ⟨⟨rfl, rfl, hR.1, hR.2, pay_in C.1.2.2.2.2 hG, by rw [hw]; exact List.mem_cons_self⟩, hw ▸ C.1.2.2.2.2 _ hcw, C.1.2.2.2.2 _ hini, ⟨hd.1, hd.2.1⟩, (fun sig h => by have h2 := hd.2.2; rw [h] at h2; exact (Option.some.inj h2).symm), C.1.2.2.2.2 _ hlk, C.1.2.2.2.2 _ hstt⟩ ⟨gkx_blind, gkx_pre hV hV2 hZ q1 q2 hg⟩ rfl hn hl.1 rfl (lv_room hW) d ⟨by omega, by omega⟩) (fun E u hp _ => hp.elim) kk
end GKX
theorem xfit_IA : Bundle.fit xIA = true ∧ ∀ n ∈ xNm, Bundle.fit n = true := by decide +kernel
theorem xfit_IS : Bundle.fit xIS = true ∧ ∀ n ∈ xNm, Bundle.fit n = true := by decide +kernel
theorem xat1_IA : ∀ w ∈ (vx_atS "RangeReaders" 43 xIA xNm).filter goodWord, w ∈ gW := by decide +kernel
theorem xat2_IA : ∀ w ∈ (vx_atS "RangeReaders" 43 xIA xNm).filter (fun w => !goodWord w), w ∈ gk_NW2 := by decide +kernel
theorem xat1_IS : ∀ w ∈ (vx_atS "RangeReaders" 53 xIS xNm).filter goodWord, w ∈ gW := by decide +kernel
theorem xat2_IS : ∀ w ∈ (vx_atS "RangeReaders" 53 xIS xNm).filter (fun w => !goodWord w), w ∈ gk_NW2 := by decide +kernel
theorem xgd_IA : ∀ w ∈ Cond.classLink "RangeReaders" 39 xIA :: Cond.initialized xIA :: vx_atS "RangeReaders" 43 xIA xNm, vx_ot w = true := by decide +kernel
theorem xgd_IS : ∀ w ∈ Cond.classLink "RangeReaders" 49 xIS :: Cond.initialized xIS :: vx_atS "RangeReaders" 53 xIS xNm, vx_ot w = true := by decide +kernel
end
section
theorem gm_swap {f : gm} {z b : Nat} {r0 x y : va_E} : gm_up (gm_up (gm_up f z r0) b x) z y = gm_up (gm_up f b x) z y := by
  funext q
  unfold gm_up
  by_cases h : q = z <;> by_cases h2 : q = b <;> simp [h, h2]
theorem rpw_ext {cI cN : ClassId} {f : gm} {x : Nat} {nx : Option Rc} {en : Nat → Option En} {n : Nat} {ml : List Nat} {q : Option Nat} {hE hM k : Nat} {g : Nat → Option Nat} {mf : Nat → Int32} {ar : Nat → Nat} (h : rpw cI cN f x nx en n ml q hE hM k g mf ar) {b : Nat} (hb : f b = none) (y : va_E) : rpw cI cN (gm_up f b y) x nx en n ml q hE hM k g mf ar := by
  obtain ⟨a1, a2, a3⟩ := h.1
  refine rpw_upd h (gm_up_of a1 hb) (gm_up_of a2 hb) (gm_up_of a3 hb) (fun c y hc _ => ?_) h.2.2.2.1.2.2.1 h.2.2.2.2.1 h.2.2.2.2.2
  rw [gm_up_ne (fun e => by rw [e, hb] at hc; cases hc)]
theorem vr_le {r : Rc} (h : vr r) (cs : Bool) : rF cs r ≤ rL cs r := by
  cases cs
  · exact h.2.2.1
  · exact h.2.2.2
theorem nI_bI (a : Nat) (b : Bool) : nI a + bI b = nI (a + if b then 1 else 0) := by
  cases b
  · simp [bI]
  · simp [bI, nI_1]
theorem cb_step {χ : En → Bool} {en : Nat → Option En} {i : Nat} {e : En} (h : en i = some e) : nI (cbE χ en (i + 1)) = nI (cbE χ en i) + bI (χ e) := by
  rw [nI_bI]
  congr 1
  show cbE χ en i + cb1 χ (en i) = _
  rw [h]
  rfl
theorem chI_y {sh : Int32} {cs : Bool} {at0 n : Int32} {e : En} (h : rY sh cs e.1) : chI sh cs at0 n e = decide (¬ (insA at0 n (rF cs e.1) = rF cs e.1 ∧ insB cs at0 n (rL cs e.1) = rL cs e.1)) := by unfold chI; rw [decide_eq_true h, Bool.true_and]
theorem chI_n {sh : Int32} {cs : Bool} {at0 n : Int32} {e : En} (h : ¬ rY sh cs e.1) : chI sh cs at0 n e = false := by unfold chI; rw [decide_eq_false h, Bool.false_and]
theorem phI_y {sh : Int32} {cs : Bool} {at0 n : Int32} {e : En} (h : rY sh cs e.1) : phI sh cs at0 n e = plE cs (insA at0 n (rF cs e.1)) (insB cs at0 n (rL cs e.1)) e := if_pos h
theorem phI_n {sh : Int32} {cs : Bool} {at0 n : Int32} {e : En} (h : ¬ rY sh cs e.1) : phI sh cs at0 n e = some e := if_neg h
theorem chX_y {sh : Int32} {cs : Bool} {at0 n : Int32} {e : En} (h : rY sh cs e.1) : chX sh cs at0 n e = decide (¬ (delA at0 n (rF cs e.1) = rF cs e.1 ∧ delB at0 n (rL cs e.1) = rL cs e.1)) := by unfold chX; rw [decide_eq_true h, Bool.true_and]
theorem chX_n {sh : Int32} {cs : Bool} {at0 n : Int32} {e : En} (h : ¬ rY sh cs e.1) : chX sh cs at0 n e = false := by unfold chX; rw [decide_eq_false h, Bool.false_and]
theorem phX_y {sh : Int32} {cs : Bool} {at0 n : Int32} {e : En} (h : rY sh cs e.1) : phX sh cs at0 n e = plE cs (delA at0 n (rF cs e.1)) (delB at0 n (rL cs e.1)) e := if_pos h
theorem phX_n {sh : Int32} {cs : Bool} {at0 n : Int32} {e : En} (h : ¬ rY sh cs e.1) : phX sh cs at0 n e = some e := if_neg h
theorem insA_t {at0 n x : Int32} (h : at0 ≤ x) : insA at0 n x = x + n := if_neg (i_len h)
theorem insA_f {at0 n x : Int32} (h : ¬ at0 ≤ x) : insA at0 n x = x := if_pos (i_nle h)
theorem insB_t {cs : Bool} {at0 n x : Int32} (h : at0 ≤ x) : insB cs at0 n x = if ll cs < x + n then ll cs else x + n := if_neg (i_len h)
theorem insB_f {cs : Bool} {at0 n x : Int32} (h : ¬ at0 ≤ x) : insB cs at0 n x = x := if_pos (i_nle h)
theorem delA_t {at0 n x : Int32} (h : at0 ≤ x) : delA at0 n x = if x - n < at0 then at0 else x - n := if_neg (i_len h)
theorem delA_f {at0 n x : Int32} (h : ¬ at0 ≤ x) : delA at0 n x = x := if_pos (i_nle h)
theorem delB_t {at0 n x : Int32} (h : at0 ≤ x) : delB at0 n x = if x - n < at0 - 1 then at0 - 1 else x - n := if_neg (i_len h)
theorem delB_f {at0 n x : Int32} (h : ¬ at0 ≤ x) : delB at0 n x = x := if_pos (i_nle h)
theorem i_asc (a d : Int32) : a + d - a = d := by
  rw [Int32.add_comm]
  exact Int32.add_sub_cancel d a
theorem sameM_eq {r1 : Rc} {sh dr dc : Int32} (h : sameM r1 (rM sh dr dc r1)) : rM sh dr dc r1 = r1 := by
  obtain ⟨h1, h2, h3⟩ := h
  obtain ⟨a, b, c, d, e⟩ := r1
  simp only [rM] at h1 h2 h3 ⊢
  rw [i_asc] at h2 h3
  subst h1; subst h2; subst h3
  simp
/-- the lowest free number -/
def lowE (en : Nat → Option En) (i : Nat) : Prop := en i = none ∧ ∀ j, j < i → en j ≠ none
theorem low_ex {en : Nat → Option En} : ∀ (n : Nat), cn en n < n → ∃ i, i < n ∧ lowE en i := by
  intro n h
  have h1 : ∃ k, en k = none ∧ k < n := by
    refine Classical.byContradiction (fun hh => ?_)
    have := cn_full n (fun j hj hn => hh ⟨j, hn, hj⟩)
    omega
  obtain ⟨k, hk1, hk2⟩ := pk_least (fun k => en k = none ∧ k < n) h1
  exact ⟨k, hk1.2, hk1.1, fun j hj hn => hk2 j hj ⟨hn, by omega⟩⟩
end
section
/-! RangeReaders: the public methods that may throw. By gen/m24.py. -/
set_option maxRecDepth 100000 in
set_option maxHeartbeats 4000000 in
theorem k_meet (l : Launch) (hl : l.stackTraces = false) (D : va_G) (cI cN cZ cJ : ClassId) (f : gm) (x : Nat) (nx : Option Rc) (en : Nat → Option En) (n : Nat) (ml : List Nat) (hR : Rp cI cN f x nx en n ml) : gkx l yX2_meet (.code yX2_meet cX2_meet 1 (Option.some Jvm.ClassFile.FieldType.int)) (rmk 5 1 1024) D (tyl cI cN cZ cJ) [.ref x] f (fun v u => ∃ r, nx = some r ∧ v = some (.int (nI (mls en r 4096).length)) ∧ Rp cI cN u x nx en n (mls en r 4096)) (fun E u => nx = none ∧ E = xIS ∧ Rp cI cN u x nx en n ml) := by
  refine gkx_of [some (.ref x)] (by decide) rfl (Nat.le_of_ble_eq_true rfl) rfl ?_
  intro p e s m args below meth c A C hV hr hlk hnm hV2 hZ hT
  obtain ⟨q, hE, hM, k, g, mf, ar, hW⟩ := hR
  have hn : n ≤ 1024 := hW.2.2.2.1.2.1
  have hk : k ≤ 1024 := hW.2.2.2.1.2.2.1
  have hd := hW.2.2.2.1.1
  cases nx with
  | none =>
    have hq : q = none := hW.2.1.1
    subst hq
    refine gj_aload_n C dX2_meet_0 rfl ?_
    refine gj_get C dX2_meet_1 hW.1.1 rfl inX2 0 (by decide) w_21 rfl ?_
    refine gj_ifnonnullN C dX2_meet_4 ?_
    exact gj_throwS C hV hV2 hZ hl hT hlk dX2_meet_7 dX2_meet_10 dX2_meet_11 dX2_meet_13 dX2_meet_16 xfit_IS w_188 w_8 (List.mem_of_getElem? (i := 0) rfl) xat1_IS xat2_IS xgd_IS (Nat.le_of_ble_eq_true rfl) (Nat.le_of_ble_eq_true rfl) (Nat.le_of_ble_eq_true rfl) (Nat.le_of_ble_eq_true rfl) (⟨rfl, rfl, ⟨_, hE, hM, k, g, mf, ar, hW⟩⟩)
  | some r =>
    obtain ⟨a, hq, ha⟩ := hW.2.1.1
    subst hq
    refine gj_aload_n C dX2_meet_0 rfl ?_
    refine gj_get C dX2_meet_1 hW.1.1 rfl inX2 0 (by decide) w_21 rfl ?_
    refine gj_ifnonnull (tgt := 17) C dX2_meet_4 (by decide) ?_
    refine gj_aload_n C dX2_meet_17 rfl ?_
    refine gj_aload_n C dX2_meet_18 rfl ?_
    refine gj_get C dX2_meet_19 hW.1.1 rfl inX2 0 (by decide) w_21 rfl ?_
    refine gj_cV (As := [.ref a]) (rest := []) (nc := 0) (ns := 0) C hV (k_findMeeting l D cI cN cZ cJ f x (some r) en n ml a r ⟨_, hE, hM, k, g, mf, ar, hW⟩ ha) dX2_meet_22 rfl w_246 rfl w_243 w_1 w_245 ws_6 hd_X2_findMeeting rfl hW.1.1 rfl ⟨Nat.le_of_ble_eq_true rfl, Nat.le_of_ble_eq_true rfl⟩ (Nat.le_of_ble_eq_true rfl) (by decide) (by decide) (fun v u hp => ?_)
    obtain ⟨hv, hR2⟩ := hp
    subst hv
    refine gj_st (st' := []) rfl ?_
    obtain ⟨q2, hE2, hM2, k2, g2, mf2, ar2, hW2⟩ := id hR2
    refine gj_aload_n C dX2_meet_25 rfl ?_
    refine gj_get C dX2_meet_26 hW2.1.1 rfl inX2 4 (by decide) w_25 rfl ?_
    exact gj_vx (gj_iret C hr hlk dX2_meet_29 (⟨r, rfl, by rw [mls_none hd 4096 (by omega)], by rw [mls_none hd 4096 (by omega)]; exact hR2⟩))
set_option maxRecDepth 100000 in
set_option maxHeartbeats 4000000 in
theorem k_readers (l : Launch) (hl : l.stackTraces = false) (D : va_G) (cI cN cZ cJ : ClassId) (f : gm) (x : Nat) (nx : Option Rc) (en : Nat → Option En) (n : Nat) (ml : List Nat) (sh rw co : Int32) (hR : Rp cI cN f x nx en n ml) : gkx l yX2_readers (.code yX2_readers cX2_readers 4 (Option.some Jvm.ClassFile.FieldType.int)) (rmk 5 2 1030) D (tyl cI cN cZ cJ) [.ref x, .int sh, .int rw, .int co] f (fun v u => vc sh rw co ∧ v = some (.int (nI (mls en (sh, rw, co, rw, co) 4096).length)) ∧ Rp cI cN u x nx en n (mls en (sh, rw, co, rw, co) 4096)) (fun E u => ¬ vc sh rw co ∧ E = xIA ∧ Rp cI cN u x nx en n ml) := by
  refine gkx_of [some (.ref x), some (.int sh), some (.int rw), some (.int co)] (by decide) rfl (Nat.le_of_ble_eq_true rfl) rfl ?_
  intro p e s m args below meth c A C hV hr hlk hnm hV2 hZ hT
  obtain ⟨q, hE, hM, k, g, mf, ar, hW⟩ := hR
  have hn : n ≤ 1024 := hW.2.2.2.1.2.1
  have hk : k ≤ 1024 := hW.2.2.2.1.2.2.1
  have hd := hW.2.2.2.1.1
  refine gj_iload_n C dX2_readers_0 rfl ?_
  refine gj_iload_n C dX2_readers_1 rfl ?_
  refine gj_iload_n C dX2_readers_2 rfl ?_
  refine gj_cS (As := [.int sh, .int rw, .int co]) (rest := []) (nc := 2) (ns := 1030) C hV (k_isCell l D (tyl cI cN cZ cJ) f sh rw co) dX2_readers_3 rfl w_44 rfl w_42 w_1 w_43 hd_X2_isCell rfl ⟨Nat.le_of_ble_eq_true rfl, Nat.le_of_ble_eq_true rfl⟩ (Nat.le_of_ble_eq_true rfl) (by decide) (by decide) (fun v u hp1 => ?_)
  refine gj_rt (st' := [.int (bI (decide (vc sh rw co)))]) hp1.1 hp1.2 rfl ?_
  refine gj_if_ne (tgt := 19) C dX2_readers_6 (by decide) (fun c2 => ?_) (fun c2 => ?_)
  · refine gj_aload_n C dX2_readers_19 rfl ?_
    refine gj_new (ci := 0) (nc := 1) (ns := 1025) C dX2_readers_20 rfl inX0 tyX0_ok w_55 w_56 w_3 dfX0 (by decide) (by decide) (fun q3 hq3 => ?_)
    refine gj_dup C dX2_readers_23 rfl ?_
    refine gj_iload_n C dX2_readers_24 rfl ?_
    refine gj_iload_n C dX2_readers_25 rfl ?_
    refine gj_iload_n C dX2_readers_26 rfl ?_
    refine gj_iload_n C dX2_readers_27 rfl ?_
    refine gj_iload_n C dX2_readers_28 rfl ?_
    refine gj_cIN (As := [.int sh, .int rw, .int co, .int rw, .int co]) (rest := [.ref q3, .ref x]) (nc := 1) (ns := 1025) C hV (k_Area_init l D (tyl cI cN cZ cJ) (gm_up f q3 (.inr (0, [.int 0, .int 0, .int 0, .int 0, .int 0]))) q3 (sh, rw, co, rw, co) 0 0 0 0 0 gm_up_self) dX2_readers_29 rfl w_59 rfl nw_0 w_3 w_58 rfl hd_X0_init rfl ⟨Nat.le_of_ble_eq_true rfl, Nat.le_of_ble_eq_true rfl⟩ (Nat.le_of_ble_eq_true rfl) (by decide) (by decide) (fun v u hp4 => ?_)
    refine gj_rt (f := (gm_up f q3 (cAr (sh, rw, co, rw, co)))) (st' := [.ref q3, .ref x]) hp4.1 (hp4.2.trans gm_up_up) rfl ?_
    refine gj_cV (As := [.ref q3]) (rest := []) (nc := 0) (ns := 1) C hV (k_findMeeting l D cI cN cZ cJ (gm_up f q3 (cAr (sh, rw, co, rw, co))) x nx en n ml q3 (sh, rw, co, rw, co) ⟨_, hE, hM, k, g, mf, ar, rpw_ext hW hq3 _⟩ gm_up_self) dX2_readers_32 rfl w_246 rfl w_243 w_1 w_245 ws_6 hd_X2_findMeeting rfl (gm_up_of hW.1.1 hq3) rfl ⟨Nat.le_of_ble_eq_true rfl, Nat.le_of_ble_eq_true rfl⟩ (Nat.le_of_ble_eq_true rfl) (by decide) (by decide) (fun v u hp => ?_)
    obtain ⟨hv, hR2⟩ := hp
    subst hv
    refine gj_st (st' := []) rfl ?_
    obtain ⟨q2, hE2, hM2, k2, g2, mf2, ar2, hW2⟩ := id hR2
    refine gj_aload_n C dX2_readers_35 rfl ?_
    refine gj_get C dX2_readers_36 hW2.1.1 rfl inX2 4 (by decide) w_25 rfl ?_
    exact gj_vx (gj_iret C hr hlk dX2_readers_39 (⟨bI_p1 c2, by rw [mls_none hd 4096 (by omega)], by rw [mls_none hd 4096 (by omega)]; exact hR2⟩))
  · exact gj_throwS C hV hV2 hZ hl hT hlk dX2_readers_9 dX2_readers_12 dX2_readers_13 dX2_readers_15 dX2_readers_18 xfit_IA w_119 w_7 (List.mem_of_getElem? (i := 3) rfl) xat1_IA xat2_IA xgd_IA (Nat.le_of_ble_eq_true rfl) (Nat.le_of_ble_eq_true rfl) (Nat.le_of_ble_eq_true rfl) (Nat.le_of_ble_eq_true rfl) (⟨bI_p0 c2, rfl, ⟨_, hE, hM, k, g, mf, ar, hW⟩⟩)
set_option maxRecDepth 100000 in
set_option maxHeartbeats 4000000 in
theorem k_add (l : Launch) (hl : l.stackTraces = false) (D : va_G) (cI cN cZ cJ : ClassId) (f : gm) (x : Nat) (nx : Option Rc) (en : Nat → Option En) (n : Nat) (ml : List Nat) (wo : Int32) (hR : Rp cI cN f x nx en n ml) (hb5 : ∀ j, 512 ≤ j → en j = none) : gkx l yX2_add (.code yX2_add cX2_add 3 (Option.some Jvm.ClassFile.FieldType.int)) (rmk 5 3 1031) D (tyl cI cN cZ cJ) [.ref x, .int wo] f (fun v u => ∃ r9 i n2, nx = some r9 ∧ (0 ≤ wo ∧ wo < 16384) ∧ lowE en i ∧ v = some (.int (nI i)) ∧ Rp cI cN u x nx (va_up en i (some (r9, wo))) n2 ml) (fun E u => (nx = none ∨ ¬ (0 ≤ wo ∧ wo < 16384)) ∧ E = xIA ∧ Rp cI cN u x nx en n ml) := by
  refine gkx_of [some (.ref x), some (.int wo), none] (by decide) rfl (Nat.le_of_ble_eq_true rfl) rfl ?_
  intro p e s m args below meth c A C hV hr hlk hnm hV2 hZ hT
  obtain ⟨q, hE, hM, k, g, mf, ar, hW⟩ := hR
  have hn : n ≤ 1024 := hW.2.2.2.1.2.1
  have hk : k ≤ 1024 := hW.2.2.2.1.2.2.1
  have hd := hW.2.2.2.1.1
  cases nx with
  | none =>
    have hq : q = none := hW.2.1.1
    subst hq
    refine gj_aload_n C dX2_add_0 rfl ?_
    refine gj_get C dX2_add_1 hW.1.1 rfl inX2 0 (by decide) w_21 rfl ?_
    refine gj_ifnonnullN C dX2_add_4 ?_
    exact gj_throwS C hV hV2 hZ hl hT hlk dX2_add_7 dX2_add_10 dX2_add_11 dX2_add_13 dX2_add_16 xfit_IA w_119 w_7 (List.mem_of_getElem? (i := 0) rfl) xat1_IA xat2_IA xgd_IA (Nat.le_of_ble_eq_true rfl) (Nat.le_of_ble_eq_true rfl) (Nat.le_of_ble_eq_true rfl) (Nat.le_of_ble_eq_true rfl) (⟨Or.inl rfl, rfl, ⟨_, hE, hM, k, g, mf, ar, hW⟩⟩)
  | some r =>
    obtain ⟨a, hq, ha⟩ := hW.2.1.1
    subst hq
    have rest : (0 ≤ wo ∧ wo < 16384) → ∀ (f1 : gm) (n1 : Nat), Rp cI cN f1 x (some r) en n1 ml → (∃ i, i < n1 ∧ lowE en i) → gj p l e (rmk 5 3 1031) s m args below meth c D vwCl A 3 (vx_MQ below (gk_Q (fun v u => ∃ r9 i n2, (some r) = some r9 ∧ (0 ≤ wo ∧ wo < 16384) ∧ lowE en i ∧ v = some (.int (nI i)) ∧ Rp cI cN u x (some r) (va_up en i (some (r9, wo))) n2 ml) D A) (gkx_X (fun E u => ((some r) = none ∨ ¬ (0 ≤ wo ∧ wo < 16384)) ∧ E = xIA ∧ Rp cI cN u x (some r) en n ml) D A) args s (rmk 5 3 1031).cells (rmk 5 3 1031).slots A) f1 2 7 61 [some (.ref x), some (.int wo), none] [] := by
      intro hok f n hR hex
      obtain ⟨i, hi, hlo⟩ := hex
      obtain ⟨q, hE, hM, k, g, mf, ar, hW⟩ := hR
      obtain ⟨a, hq, ha⟩ := hW.2.1.1
      subst hq
      have hn : n ≤ 1024 := hW.2.2.2.1.2.1
      refine gj_aload_n C dX2_add_61 rfl ?_
      refine gj_cV (As := []) (rest := []) (nc := 2) (ns := 7) C hV (k_lowestFree l D cI cN cZ cJ f x (some a) hE hM _ _ n g i hW.1.1 hW.1.2.1 hn hi (rpw_no hW hi hlo.1) (fun j hj => by
          cases hej : en j with
          | none => exact absurd hej (hlo.2 j hj)
          | some ej => exact ⟨_, (rpw_at hW (by omega) hej).choose_spec.1⟩)) dX2_add_62 rfl w_214 rfl w_211 w_1 w_213 ws_4 hd_X2_lowestFree rfl hW.1.1 rfl ⟨Nat.le_of_ble_eq_true rfl, Nat.le_of_ble_eq_true rfl⟩ (Nat.le_of_ble_eq_true rfl) (by decide) (by decide) (fun v u hp1 => ?_)
      refine gj_rt (st' := [.int (nI i)]) hp1.1 hp1.2 rfl ?_
      refine gj_istore_n (lw' := [some (.ref x), some (.int wo), some (.int (nI i))]) C dX2_add_65 (by decide) rfl rfl ?_
      refine gj_iload_n C dX2_add_66 rfl ?_
      refine gj_aload_n C dX2_add_67 rfl ?_
      refine gj_get C dX2_add_68 hW.1.1 rfl inX2 1 (by decide) w_22 rfl ?_
      refine gj_alen C 1 dX2_add_71 hW.1.2.1 rfl ?_
      refine gj_icmp_geF (tgt := 106) C dX2_add_72 (by decide) (nI_ge hi (by omega)) ?_
      refine gj_aload_n C dX2_add_75 rfl ?_
      refine gj_get C dX2_add_76 hW.1.1 rfl inX2 1 (by decide) w_22 rfl ?_
      refine gj_iload_n C dX2_add_79 rfl ?_
      refine gj_new (ci := 1) (nc := 1) (ns := 5) C dX2_add_80 rfl inX1 tyX1_ok w_19 w_215 w_10 dfX1 (by decide) (by decide) (fun q2 hq2 => ?_)
      refine gj_dup C dX2_add_83 rfl ?_
      refine gj_aload_n C dX2_add_84 rfl ?_
      refine gj_get C dX2_add_85 (gm_up_of hW.1.1 hq2) rfl inX2 0 (by decide) w_21 rfl ?_
      refine gj_cVN (As := []) (rest := [.ref q2, .ref q2, .int (nI i), .ref hE]) (nc := 0) (ns := 0) C hV (k_Area_copy l D (tyl cI cN cZ cJ) (gm_up f q2 (.inr (1, [.null, .int 0]))) a r (gm_up_of ha hq2)) dX2_add_88 rfl w_219 rfl nw_6 w_3 w_218 ws_5 hd_X0_copy rfl (gm_up_of ha hq2) rfl ⟨Nat.le_of_ble_eq_true rfl, Nat.le_of_ble_eq_true rfl⟩ (Nat.le_of_ble_eq_true rfl) (by decide) (by decide) (fun v u hp => ?_)
      obtain ⟨b1, hv, hb1, hu⟩ := hp
      refine gj_rt (st' := [.ref b1, .ref q2, .ref q2, .int (nI i), .ref hE]) hv hu rfl ?_
      have hbz : b1 ≠ q2 := fun h => by rw [h, gm_up_self] at hb1; cases hb1
      have hb0 : f b1 = none := by rw [gm_up_ne hbz] at hb1; exact hb1
      refine gj_iload_n C dX2_add_91 rfl ?_
      have hz0 : gm_up f b1 (cAr r) q2 = none := by rw [gm_up_ne (Ne.symm hbz)]; exact hq2
      refine gj_cIN (As := [.ref b1, .int wo]) (rest := [.ref q2, .int (nI i), .ref hE]) (nc := 0) (ns := 0) C hV (k_Entry_init l D (tyl cI cN cZ cJ) (gm_up (gm_up f q2 (.inr (1, [.null, .int 0]))) b1 (cAr r)) q2 b1 wo 0 ((gm_up_ne (Ne.symm hbz)).trans gm_up_self)) dX2_add_92 rfl w_224 rfl nw_7 w_10 w_223 rfl hd_X1_init rfl ⟨Nat.le_of_ble_eq_true rfl, Nat.le_of_ble_eq_true rfl⟩ (Nat.le_of_ble_eq_true rfl) (by decide) (by decide) (fun v u hp3 => ?_)
      refine gj_rt (f := (gm_up (gm_up f b1 (cAr r)) q2 (cEn b1 wo))) (st' := [.ref q2, .int (nI i), .ref hE]) hp3.1 (hp3.2.trans gm_swap) rfl ?_
      refine gj_aastJ C 1 dX2_add_95 (gm_up_of (gm_up_of hW.1.2.1 hb0) hz0) rfl gm_up_self rfl hi (by omega) ?_
      refine gj_aload_n C dX2_add_96 rfl ?_
      refine gj_dup C dX2_add_97 rfl ?_
      refine gj_get C dX2_add_98 ((gm_up_ne (gm_ne hW.1.1 hW.1.2.1 (by simp))).trans (gm_up_of (gm_up_of hW.1.1 hb0) hz0)) rfl inX2 2 (by decide) w_23 rfl ?_
      refine gj_iconst (v := 1) C dX2_add_101 (by decide) ?_
      refine gj_iadd C dX2_add_102 ?_
      refine gj_put C dX2_add_103 ((gm_up_ne (gm_ne hW.1.1 hW.1.2.1 (by simp))).trans (gm_up_of (gm_up_of hW.1.1 hb0) hz0)) rfl inX2 tyX2_ok nmX2 2 (by decide) w_23 rfl rfl rfl (Nat.le_of_ble_eq_true rfl) ?_
      refine gj_iload_n C dX2_add_106 rfl ?_
      exact gj_vx (gj_iret C hr hlk dX2_add_107 (⟨r, i, n, rfl, hok, hlo, rfl, ⟨_, hE, hM, k, _, mf, _, rpw_add hW hi hlo.1 hb0 hz0⟩⟩))
    refine gj_aload_n C dX2_add_0 rfl ?_
    refine gj_get C dX2_add_1 hW.1.1 rfl inX2 0 (by decide) w_21 rfl ?_
    refine gj_ifnonnull (tgt := 17) C dX2_add_4 (by decide) ?_
    refine gj_iload_n C dX2_add_17 rfl ?_
    refine gj_if_lt (tgt := 28) C dX2_add_18 (by decide) (fun c4 => ?_) (fun c4 => ?_)
    · exact gj_throwS C hV hV2 hZ hl hT hlk dX2_add_28 dX2_add_31 dX2_add_32 dX2_add_34 dX2_add_37 xfit_IA w_119 w_7 (List.mem_of_getElem? (i := 1) rfl) xat1_IA xat2_IA xgd_IA (Nat.le_of_ble_eq_true rfl) (Nat.le_of_ble_eq_true rfl) (Nat.le_of_ble_eq_true rfl) (Nat.le_of_ble_eq_true rfl) (⟨Or.inr (fun h => i_ltn c4 h.1), rfl, ⟨_, hE, hM, k, g, mf, ar, hW⟩⟩)
    · refine gj_iload_n C dX2_add_21 rfl ?_
      refine gj_sipush (v := 16384) C dX2_add_22 (by decide) ?_
      refine gj_icmp_lt (tgt := 38) C dX2_add_25 (by decide) (fun c5 => ?_) (fun c5 => ?_)
      · refine gj_aload_n C dX2_add_38 rfl ?_
        refine gj_get C dX2_add_39 hW.1.1 rfl inX2 2 (by decide) w_23 rfl ?_
        refine gj_ldc (v := 32768) C dX2_add_42 w_187 ?_
        refine gj_icmp_ltT (tgt := 57) C dX2_add_44 (by decide) (by rw [i_lt, t_32768, nI_toInt (by have := cn_le en n; omega)]; have := cn_le en n; omega) ?_
        refine gj_aload_n C dX2_add_57 rfl ?_
        have hok : (0 ≤ wo ∧ wo < 16384) := ⟨i_nlt c4, c5⟩
        rcases Nat.lt_or_ge (cn en n) n with hlt | hge
        · refine gj_cV (As := []) (rest := []) (nc := 2) (ns := 7) C hV (k_makeRoomA l D cI cN cZ cJ f x (some a) hE hM _ _ n g hW.1.1 hW.1.2.1 hn (nI_ge hlt (by omega))) dX2_add_58 rfl w_207 rfl w_204 w_1 w_206 ws_3 hd_X2_makeRoom rfl hW.1.1 rfl ⟨Nat.le_of_ble_eq_true rfl, Nat.le_of_ble_eq_true rfl⟩ (Nat.le_of_ble_eq_true rfl) (by decide) (by decide) (fun v u hp6 => ?_)
          refine gj_rt (st' := []) hp6.1 hp6.2 rfl ?_
          exact rest hok f n ⟨_, hE, hM, k, g, mf, ar, hW⟩ (low_ex n hlt)
        · have hfl : cn en n = n := Nat.le_antisymm (cn_le en n) hge
          have hn5 : n ≤ 512 := by
            rcases Nat.lt_or_ge 512 n with h | h
            · exact absurd (hb5 512 (Nat.le_refl _)) (cn_all n hfl 512 h)
            · exact h
          refine gj_cV (As := []) (rest := []) (nc := 2) (ns := 7) C hV (k_makeRoomB l D cI cN cZ cJ f x (some a) hE hM _ n g (by rw [← hfl]; exact hW.1.1) hW.1.2.1 hn5 (fun j hj => by
              cases hej : en j with
              | none => exact absurd hej (cn_all n hfl j hj)
              | some ej => obtain ⟨z, z1, z2, z3⟩ := rpw_at hW hj hej; exact ⟨z, _, _, z1, z2⟩)) dX2_add_58 rfl w_207 rfl w_204 w_1 w_206 ws_3 hd_X2_makeRoom rfl hW.1.1 rfl ⟨Nat.le_of_ble_eq_true rfl, Nat.le_of_ble_eq_true rfl⟩ (Nat.le_of_ble_eq_true rfl) (by show 2 + 1 ≤ 3; decide) (by show 7 + 2 * n ≤ 1031; omega) (fun v u hp => ?_)
          obtain ⟨b, hv, hb, hu⟩ := hp
          refine gj_rt (st' := []) hv hu rfl ?_
          exact rest hok _ (2 * n) ⟨_, b, hM, k, _, mf, ar, by have h9 := rpw_grow hW hb hn5; rw [hfl] at h9; exact h9⟩ (low_ex (2 * n) (by rw [cn_none hd (2 * n) (by omega), hfl]; have := hW.2.2.2.1.2.2.2; omega))
      · exact gj_throwS C hV hV2 hZ hl hT hlk dX2_add_28 dX2_add_31 dX2_add_32 dX2_add_34 dX2_add_37 xfit_IA w_119 w_7 (List.mem_of_getElem? (i := 1) rfl) xat1_IA xat2_IA xgd_IA (Nat.le_of_ble_eq_true rfl) (Nat.le_of_ble_eq_true rfl) (Nat.le_of_ble_eq_true rfl) (Nat.le_of_ble_eq_true rfl) (⟨Or.inr (fun h => c5 h.2), rfl, ⟨_, hE, hM, k, g, mf, ar, hW⟩⟩)
end
section
/-! RangeReaders: insert, delete, move. By gen/m25.py. -/
set_option maxRecDepth 100000 in
set_option maxHeartbeats 4000000 in
theorem k_insert (l : Launch) (hl : l.stackTraces = false) (D : va_G) (cI cN cZ cJ : ClassId) (f : gm) (x : Nat) (nx : Option Rc) (en : Nat → Option En) (n : Nat) (ml : List Nat) (sh : Int32) (cs : Bool) (at0 num : Int32) (hR : Rp cI cN f x nx en n ml) (hval : ∀ j e, en j = some e → vr e.1) : gkx l yX2_insert (.code yX2_insert cX2_insert 13 (Option.some Jvm.ClassFile.FieldType.int)) (rmk 5 1 6) D (tyl cI cN cZ cJ) [.ref x, .int sh, .int (bI cs), .int at0, .int num] f (fun v u => vn sh cs at0 num ∧ v = some (.int (nI (cbE (chI sh cs at0 num) en 4096))) ∧ Rp cI cN u x nx (mapE (phI sh cs at0 num) en) n ml) (fun E u => ¬ vn sh cs at0 num ∧ E = xIA ∧ Rp cI cN u x nx en n ml) := by
  refine gkx_of [some (.ref x), some (.int sh), some (.int (bI cs)), some (.int at0), some (.int num), none, none, none, none, none, none, none, none] (by decide) rfl (Nat.le_of_ble_eq_true rfl) rfl ?_
  intro p e s m args below meth c A C hV hr hlk hnm hV2 hZ hT
  have hd : ∀ j, n ≤ j → en j = none := hR.bd.1
  have hn : n ≤ 1024 := hR.bd.2.1
  have loop : vn sh cs at0 num → ∀ (d i : Nat) (f : gm), i + d = n → Rp cI cN f x nx (mapI (phI sh cs at0 num) en i) n ml → gj p l e (rmk 5 1 6) s m args below meth c D vwCl A 13 (vx_MQ below (gk_Q (fun v u => vn sh cs at0 num ∧ v = some (.int (nI (cbE (chI sh cs at0 num) en 4096))) ∧ Rp cI cN u x nx (mapE (phI sh cs at0 num) en) n ml) D A) (gkx_X (fun E u => ¬ vn sh cs at0 num ∧ E = xIA ∧ Rp cI cN u x nx en n ml) D A) args s (rmk 5 1 6).cells (rmk 5 1 6).slots A) f 0 0 33 [some (.ref x), some (.int sh), some (.int (bI cs)), some (.int at0), some (.int num), some (.int (ll cs)), some (.int (nI (cbE (chI sh cs at0 num) en i))), some (.int (nI i)), none, none, none, none, none] [] := by
    intro hok d
    induction d with
    | zero =>
      intro i f hid hR
      rw [show mapI (phI sh cs at0 num) en i = mapI (phI sh cs at0 num) en n by rw [show i = n by omega]] at hR
      obtain ⟨q, hE, hM, k, g, mf, ar, hW⟩ := id hR
      refine gj_iload C dX2_insert_33 rfl ?_
      refine gj_aload_n C dX2_insert_35 rfl ?_
      refine gj_get C dX2_insert_36 hW.1.1 rfl inX2 1 (by decide) w_22 rfl ?_
      refine gj_alen C 1 dX2_insert_39 hW.1.2.1 rfl ?_
      refine gj_icmp_geT (tgt := 155) C dX2_insert_40 (by decide) (by rw [show i = n by omega]; exact Int32.le_refl _) ?_
      refine gj_iload C dX2_insert_155 rfl ?_
      exact gj_vx (gj_iret C hr hlk dX2_insert_157 (⟨hok, by rw [cbE_none hd 4096 (by omega), show i = n by omega], by rw [← mapI_end (φ := (phI sh cs at0 num)) hd]; exact hR⟩))
    | succ d ih =>
      intro i f hid hR
      have hj : i < n := by omega
      obtain ⟨q, hE, hM, k, g, mf, ar, hW⟩ := id hR
      cases hei : en i with
      | none =>
        refine gj_iload C dX2_insert_33 rfl ?_
        refine gj_aload_n C dX2_insert_35 rfl ?_
        refine gj_get C dX2_insert_36 hW.1.1 rfl inX2 1 (by decide) w_22 rfl ?_
        refine gj_alen C 1 dX2_insert_39 hW.1.2.1 rfl ?_
        refine gj_icmp_geF (tgt := 155) C dX2_insert_40 (by decide) (nI_ge hj (by omega)) ?_
        refine gj_aload_n C dX2_insert_43 rfl ?_
        refine gj_get C dX2_insert_44 hW.1.1 rfl inX2 1 (by decide) w_22 rfl ?_
        refine gj_iload C dX2_insert_47 rfl ?_
        refine gj_aaldN C 1 dX2_insert_49 hW.1.2.1 rfl hj (by omega) ?_
        refine gj_st (st' := [.null]) (by rw [rpw_no hW hj (mapI_at.trans hei)]; rfl) ?_
        refine gj_astoreN (lw' := [some (.ref x), some (.int sh), some (.int (bI cs)), some (.int at0), some (.int num), some (.int (ll cs)), some (.int (nI (cbE (chI sh cs at0 num) en i))), some (.int (nI i)), some (.null), none, none, none, none]) C dX2_insert_50 (by decide) rfl rfl ?_
        refine gj_aloadN C dX2_insert_52 rfl ?_
        refine gj_ifnullN (tgt := 149) C dX2_insert_54 (by decide) ?_
        refine gj_iinc (v := (nI (i + 1))) (lw' := [some (.ref x), some (.int sh), some (.int (bI cs)), some (.int at0), some (.int num), some (.int (ll cs)), some (.int (nI (cbE (chI sh cs at0 num) en i))), some (.int (nI (i + 1))), some (.null), none, none, none, none]) C dX2_insert_149 rfl (nI_1 i) (by decide) rfl rfl ?_
        refine gj_goto (tgt := 33) C dX2_insert_152 (by decide) ?_
        refine gj_un 8 (lw' := [some (.ref x), some (.int sh), some (.int (bI cs)), some (.int at0), some (.int num), some (.int (ll cs)), some (.int (nI (cbE (chI sh cs at0 num) en i))), some (.int (nI (i + 1))), none, none, none, none, none]) rfl ?_
        have h9 := ih (i + 1) f (by omega) (by rw [mapI_n hei]; exact hR)
        rw [cb_n hei] at h9
        exact h9
      | some e0 =>
        obtain ⟨z, z1, z2, z3⟩ := rpw_at hW hj (mapI_at.trans hei)
        refine gj_iload C dX2_insert_33 rfl ?_
        refine gj_aload_n C dX2_insert_35 rfl ?_
        refine gj_get C dX2_insert_36 hW.1.1 rfl inX2 1 (by decide) w_22 rfl ?_
        refine gj_alen C 1 dX2_insert_39 hW.1.2.1 rfl ?_
        refine gj_icmp_geF (tgt := 155) C dX2_insert_40 (by decide) (nI_ge hj (by omega)) ?_
        refine gj_aload_n C dX2_insert_43 rfl ?_
        refine gj_get C dX2_insert_44 hW.1.1 rfl inX2 1 (by decide) w_22 rfl ?_
        refine gj_iload C dX2_insert_47 rfl ?_
        refine gj_aaldN C 1 dX2_insert_49 hW.1.2.1 rfl hj (by omega) ?_
        refine gj_st (st' := [.ref z]) (by rw [z1]; rfl) ?_
        refine gj_astore (lw' := [some (.ref x), some (.int sh), some (.int (bI cs)), some (.int at0), some (.int num), some (.int (ll cs)), some (.int (nI (cbE (chI sh cs at0 num) en i))), some (.int (nI i)), some (.ref z), none, none, none, none]) C dX2_insert_50 (by decide) rfl rfl ?_
        refine gj_aload C dX2_insert_52 rfl ?_
        refine gj_ifnull C dX2_insert_54 ?_
        refine gj_aload C dX2_insert_57 rfl ?_
        refine gj_getN C dX2_insert_59 z2 rfl inX1 0 (by decide) (hV.2.1 _ nw_8) rfl ?_
        refine gj_iload_n C dX2_insert_62 rfl ?_
        refine gj_iload_n C dX2_insert_63 rfl ?_
        refine gj_cVN (As := [.int sh, .int (bI cs)]) (rest := []) (nc := 0) (ns := 0) C hV (k_Area_yieldsTo l D (tyl cI cN cZ cJ) f (ar i) e0.1 sh cs z3) dX2_insert_64 rfl w_272 rfl nw_11 w_3 w_271 ws_8 hd_X0_yieldsTo rfl z3 rfl ⟨Nat.le_of_ble_eq_true rfl, Nat.le_of_ble_eq_true rfl⟩ (Nat.le_of_ble_eq_true rfl) (by decide) (by decide) (fun v u hp1 => ?_)
        refine gj_rt (st' := [.int (bI (decide (rY sh cs e0.1)))]) hp1.1 hp1.2 rfl ?_
        refine gj_if_eq (tgt := 149) C dX2_insert_67 (by decide) (fun c2 => ?_) (fun c2 => ?_)
        · refine gj_iinc (v := (nI (i + 1))) (lw' := [some (.ref x), some (.int sh), some (.int (bI cs)), some (.int at0), some (.int num), some (.int (ll cs)), some (.int (nI (cbE (chI sh cs at0 num) en i))), some (.int (nI (i + 1))), some (.ref z), none, none, none, none]) C dX2_insert_149 rfl (nI_1 i) (by decide) rfl rfl ?_
          refine gj_goto (tgt := 33) C dX2_insert_152 (by decide) ?_
          refine gj_un 8 (lw' := [some (.ref x), some (.int sh), some (.int (bI cs)), some (.int at0), some (.int num), some (.int (ll cs)), some (.int (nI (cbE (chI sh cs at0 num) en i))), some (.int (nI (i + 1))), none, none, none, none, none]) rfl ?_
          have h9 := ih (i + 1) f (by omega) (by rw [mapI_k hei (phI_n (bI_p0 c2))]; exact hR)
          rw [cb_f hei (chI_n (bI_p0 c2))] at h9
          exact h9
        · refine gj_aload C dX2_insert_70 rfl ?_
          refine gj_getN C dX2_insert_72 z2 rfl inX1 0 (by decide) (hV.2.1 _ nw_8) rfl ?_
          refine gj_iload_n C dX2_insert_75 rfl ?_
          refine gj_cVN (As := [.int (bI cs)]) (rest := []) (nc := 0) (ns := 0) C hV (k_Area_first l D (tyl cI cN cZ cJ) f (ar i) e0.1 cs z3) dX2_insert_76 rfl w_276 rfl nw_13 w_3 w_275 ws_9 hd_X0_first rfl z3 rfl ⟨Nat.le_of_ble_eq_true rfl, Nat.le_of_ble_eq_true rfl⟩ (Nat.le_of_ble_eq_true rfl) (by decide) (by decide) (fun v u hp3 => ?_)
          refine gj_rt (st' := [.int (rF cs e0.1)]) hp3.1 hp3.2 rfl ?_
          refine gj_istore (lw' := [some (.ref x), some (.int sh), some (.int (bI cs)), some (.int at0), some (.int num), some (.int (ll cs)), some (.int (nI (cbE (chI sh cs at0 num) en i))), some (.int (nI i)), some (.ref z), some (.int (rF cs e0.1)), none, none, none]) C dX2_insert_79 (by decide) rfl rfl ?_
          refine gj_aload C dX2_insert_81 rfl ?_
          refine gj_getN C dX2_insert_83 z2 rfl inX1 0 (by decide) (hV.2.1 _ nw_8) rfl ?_
          refine gj_iload_n C dX2_insert_86 rfl ?_
          refine gj_cVN (As := [.int (bI cs)]) (rest := []) (nc := 0) (ns := 0) C hV (k_Area_last l D (tyl cI cN cZ cJ) f (ar i) e0.1 cs z3) dX2_insert_87 rfl w_280 rfl nw_14 w_3 w_279 ws_10 hd_X0_last rfl z3 rfl ⟨Nat.le_of_ble_eq_true rfl, Nat.le_of_ble_eq_true rfl⟩ (Nat.le_of_ble_eq_true rfl) (by decide) (by decide) (fun v u hp4 => ?_)
          refine gj_rt (st' := [.int (rL cs e0.1)]) hp4.1 hp4.2 rfl ?_
          refine gj_istore (lw' := [some (.ref x), some (.int sh), some (.int (bI cs)), some (.int at0), some (.int num), some (.int (ll cs)), some (.int (nI (cbE (chI sh cs at0 num) en i))), some (.int (nI i)), some (.ref z), some (.int (rF cs e0.1)), some (.int (rL cs e0.1)), none, none]) C dX2_insert_90 (by decide) rfl rfl ?_
          refine gj_iload C dX2_insert_92 rfl ?_
          refine gj_iload_n C dX2_insert_94 rfl ?_
          refine gj_icmp_ge (tgt := 103) C dX2_insert_95 (by decide) (fun c5 => ?_) (fun c5 => ?_)
          · refine gj_iload C dX2_insert_103 rfl ?_
            refine gj_iload C dX2_insert_105 rfl ?_
            refine gj_iadd C dX2_insert_107 ?_
            refine gj_istore (lw' := [some (.ref x), some (.int sh), some (.int (bI cs)), some (.int at0), some (.int num), some (.int (ll cs)), some (.int (nI (cbE (chI sh cs at0 num) en i))), some (.int (nI i)), some (.ref z), some (.int (rF cs e0.1)), some (.int (rL cs e0.1)), some (.int ((rF cs e0.1) + num)), none]) C dX2_insert_108 (by decide) rfl rfl ?_
            refine gj_iload C dX2_insert_110 rfl ?_
            refine gj_iload_n C dX2_insert_112 rfl ?_
            refine gj_icmp_ge (tgt := 121) C dX2_insert_113 (by decide) (fun c6 => ?_) (fun c6 => ?_)
            · refine gj_iload C dX2_insert_121 rfl ?_
              refine gj_iload C dX2_insert_123 rfl ?_
              refine gj_iadd C dX2_insert_125 ?_
              refine gj_iload C dX2_insert_126 rfl ?_
              refine gj_mmin C dX2_insert_128 w_208 w_209 w_9 w_210 (Nat.le_of_ble_eq_true rfl) (Nat.le_of_ble_eq_true rfl) ?_
              refine gj_istore (lw' := [some (.ref x), some (.int sh), some (.int (bI cs)), some (.int at0), some (.int num), some (.int (ll cs)), some (.int (nI (cbE (chI sh cs at0 num) en i))), some (.int (nI i)), some (.ref z), some (.int (rF cs e0.1)), some (.int (rL cs e0.1)), some (.int ((rF cs e0.1) + num)), some (.int (if (ll cs) < ((rL cs e0.1) + num) then (ll cs) else ((rL cs e0.1) + num)))]) C dX2_insert_131 (by decide) rfl rfl ?_
              refine gj_iload C dX2_insert_133 rfl ?_
              refine gj_aload_n C dX2_insert_135 rfl ?_
              refine gj_iload C dX2_insert_136 rfl ?_
              refine gj_iload_n C dX2_insert_138 rfl ?_
              refine gj_iload C dX2_insert_139 rfl ?_
              refine gj_iload C dX2_insert_141 rfl ?_
              refine gj_cV (As := [.int (nI i), .int (bI cs), .int ((rF cs e0.1) + num), .int (if (ll cs) < ((rL cs e0.1) + num) then (ll cs) else ((rL cs e0.1) + num))]) (rest := [.int (nI (cbE (chI sh cs at0 num) en i))]) (nc := 0) (ns := 0) C hV (k_putLines l D cI cN cZ cJ f x nx _ n ml i e0 cs ((rF cs e0.1) + num) (if (ll cs) < ((rL cs e0.1) + num) then (ll cs) else ((rL cs e0.1) + num)) hR hj (mapI_at.trans hei) (vr_le (hval i e0 hei) cs)) dX2_insert_143 rfl w_287 rfl w_284 w_1 w_286 ws_11 hd_X2_putLines rfl hW.1.1 rfl ⟨Nat.le_of_ble_eq_true rfl, Nat.le_of_ble_eq_true rfl⟩ (Nat.le_of_ble_eq_true rfl) (by decide) (by decide) (fun v u hp => ?_)
              obtain ⟨hv, hR2⟩ := hp
              refine gj_rt (f := u) (st' := [.int (bI (decide (¬ (((rF cs e0.1) + num) = rF cs e0.1 ∧ (if (ll cs) < ((rL cs e0.1) + num) then (ll cs) else ((rL cs e0.1) + num)) = rL cs e0.1)))), .int (nI (cbE (chI sh cs at0 num) en i))]) hv rfl rfl ?_
              refine gj_iadd C dX2_insert_146 ?_
              refine gj_istore (lw' := [some (.ref x), some (.int sh), some (.int (bI cs)), some (.int at0), some (.int num), some (.int (ll cs)), some (.int ((nI (cbE (chI sh cs at0 num) en i)) + (bI (decide (¬ (((rF cs e0.1) + num) = rF cs e0.1 ∧ (if (ll cs) < ((rL cs e0.1) + num) then (ll cs) else ((rL cs e0.1) + num)) = rL cs e0.1)))))), some (.int (nI i)), some (.ref z), some (.int (rF cs e0.1)), some (.int (rL cs e0.1)), some (.int ((rF cs e0.1) + num)), some (.int (if (ll cs) < ((rL cs e0.1) + num) then (ll cs) else ((rL cs e0.1) + num)))]) C dX2_insert_147 (by decide) rfl rfl ?_
              refine gj_iinc (v := (nI (i + 1))) (lw' := [some (.ref x), some (.int sh), some (.int (bI cs)), some (.int at0), some (.int num), some (.int (ll cs)), some (.int ((nI (cbE (chI sh cs at0 num) en i)) + (bI (decide (¬ (((rF cs e0.1) + num) = rF cs e0.1 ∧ (if (ll cs) < ((rL cs e0.1) + num) then (ll cs) else ((rL cs e0.1) + num)) = rL cs e0.1)))))), some (.int (nI (i + 1))), some (.ref z), some (.int (rF cs e0.1)), some (.int (rL cs e0.1)), some (.int ((rF cs e0.1) + num)), some (.int (if (ll cs) < ((rL cs e0.1) + num) then (ll cs) else ((rL cs e0.1) + num)))]) C dX2_insert_149 rfl (nI_1 i) (by decide) rfl rfl ?_
              refine gj_goto (tgt := 33) C dX2_insert_152 (by decide) ?_
              refine gj_un 8 (lw' := [some (.ref x), some (.int sh), some (.int (bI cs)), some (.int at0), some (.int num), some (.int (ll cs)), some (.int ((nI (cbE (chI sh cs at0 num) en i)) + (bI (decide (¬ (((rF cs e0.1) + num) = rF cs e0.1 ∧ (if (ll cs) < ((rL cs e0.1) + num) then (ll cs) else ((rL cs e0.1) + num)) = rL cs e0.1)))))), some (.int (nI (i + 1))), none, some (.int (rF cs e0.1)), some (.int (rL cs e0.1)), some (.int ((rF cs e0.1) + num)), some (.int (if (ll cs) < ((rL cs e0.1) + num) then (ll cs) else ((rL cs e0.1) + num)))]) rfl ?_
              refine gj_un 9 (lw' := [some (.ref x), some (.int sh), some (.int (bI cs)), some (.int at0), some (.int num), some (.int (ll cs)), some (.int ((nI (cbE (chI sh cs at0 num) en i)) + (bI (decide (¬ (((rF cs e0.1) + num) = rF cs e0.1 ∧ (if (ll cs) < ((rL cs e0.1) + num) then (ll cs) else ((rL cs e0.1) + num)) = rL cs e0.1)))))), some (.int (nI (i + 1))), none, none, some (.int (rL cs e0.1)), some (.int ((rF cs e0.1) + num)), some (.int (if (ll cs) < ((rL cs e0.1) + num) then (ll cs) else ((rL cs e0.1) + num)))]) rfl ?_
              refine gj_un 10 (lw' := [some (.ref x), some (.int sh), some (.int (bI cs)), some (.int at0), some (.int num), some (.int (ll cs)), some (.int ((nI (cbE (chI sh cs at0 num) en i)) + (bI (decide (¬ (((rF cs e0.1) + num) = rF cs e0.1 ∧ (if (ll cs) < ((rL cs e0.1) + num) then (ll cs) else ((rL cs e0.1) + num)) = rL cs e0.1)))))), some (.int (nI (i + 1))), none, none, none, some (.int ((rF cs e0.1) + num)), some (.int (if (ll cs) < ((rL cs e0.1) + num) then (ll cs) else ((rL cs e0.1) + num)))]) rfl ?_
              refine gj_un 11 (lw' := [some (.ref x), some (.int sh), some (.int (bI cs)), some (.int at0), some (.int num), some (.int (ll cs)), some (.int ((nI (cbE (chI sh cs at0 num) en i)) + (bI (decide (¬ (((rF cs e0.1) + num) = rF cs e0.1 ∧ (if (ll cs) < ((rL cs e0.1) + num) then (ll cs) else ((rL cs e0.1) + num)) = rL cs e0.1)))))), some (.int (nI (i + 1))), none, none, none, none, some (.int (if (ll cs) < ((rL cs e0.1) + num) then (ll cs) else ((rL cs e0.1) + num)))]) rfl ?_
              refine gj_un 12 (lw' := [some (.ref x), some (.int sh), some (.int (bI cs)), some (.int at0), some (.int num), some (.int (ll cs)), some (.int ((nI (cbE (chI sh cs at0 num) en i)) + (bI (decide (¬ (((rF cs e0.1) + num) = rF cs e0.1 ∧ (if (ll cs) < ((rL cs e0.1) + num) then (ll cs) else ((rL cs e0.1) + num)) = rL cs e0.1)))))), some (.int (nI (i + 1))), none, none, none, none, none]) rfl ?_
              have h9 := ih (i + 1) u (by omega) (by rw [mapI_s hei, phI_y (bI_p1 c2), insA_t c5, insB_t c6]; exact hR2)
              rw [cb_step hei, chI_y (bI_p1 c2), insA_t c5, insB_t c6] at h9
              exact h9
            · refine gj_iload C dX2_insert_116 rfl ?_
              refine gj_goto (tgt := 131) C dX2_insert_118 (by decide) ?_
              refine gj_istore (lw' := [some (.ref x), some (.int sh), some (.int (bI cs)), some (.int at0), some (.int num), some (.int (ll cs)), some (.int (nI (cbE (chI sh cs at0 num) en i))), some (.int (nI i)), some (.ref z), some (.int (rF cs e0.1)), some (.int (rL cs e0.1)), some (.int ((rF cs e0.1) + num)), some (.int (rL cs e0.1))]) C dX2_insert_131 (by decide) rfl rfl ?_
              refine gj_iload C dX2_insert_133 rfl ?_
              refine gj_aload_n C dX2_insert_135 rfl ?_
              refine gj_iload C dX2_insert_136 rfl ?_
              refine gj_iload_n C dX2_insert_138 rfl ?_
              refine gj_iload C dX2_insert_139 rfl ?_
              refine gj_iload C dX2_insert_141 rfl ?_
              refine gj_cV (As := [.int (nI i), .int (bI cs), .int ((rF cs e0.1) + num), .int (rL cs e0.1)]) (rest := [.int (nI (cbE (chI sh cs at0 num) en i))]) (nc := 0) (ns := 0) C hV (k_putLines l D cI cN cZ cJ f x nx _ n ml i e0 cs ((rF cs e0.1) + num) (rL cs e0.1) hR hj (mapI_at.trans hei) (vr_le (hval i e0 hei) cs)) dX2_insert_143 rfl w_287 rfl w_284 w_1 w_286 ws_11 hd_X2_putLines rfl hW.1.1 rfl ⟨Nat.le_of_ble_eq_true rfl, Nat.le_of_ble_eq_true rfl⟩ (Nat.le_of_ble_eq_true rfl) (by decide) (by decide) (fun v u hp => ?_)
              obtain ⟨hv, hR2⟩ := hp
              refine gj_rt (f := u) (st' := [.int (bI (decide (¬ (((rF cs e0.1) + num) = rF cs e0.1 ∧ (rL cs e0.1) = rL cs e0.1)))), .int (nI (cbE (chI sh cs at0 num) en i))]) hv rfl rfl ?_
              refine gj_iadd C dX2_insert_146 ?_
              refine gj_istore (lw' := [some (.ref x), some (.int sh), some (.int (bI cs)), some (.int at0), some (.int num), some (.int (ll cs)), some (.int ((nI (cbE (chI sh cs at0 num) en i)) + (bI (decide (¬ (((rF cs e0.1) + num) = rF cs e0.1 ∧ (rL cs e0.1) = rL cs e0.1)))))), some (.int (nI i)), some (.ref z), some (.int (rF cs e0.1)), some (.int (rL cs e0.1)), some (.int ((rF cs e0.1) + num)), some (.int (rL cs e0.1))]) C dX2_insert_147 (by decide) rfl rfl ?_
              refine gj_iinc (v := (nI (i + 1))) (lw' := [some (.ref x), some (.int sh), some (.int (bI cs)), some (.int at0), some (.int num), some (.int (ll cs)), some (.int ((nI (cbE (chI sh cs at0 num) en i)) + (bI (decide (¬ (((rF cs e0.1) + num) = rF cs e0.1 ∧ (rL cs e0.1) = rL cs e0.1)))))), some (.int (nI (i + 1))), some (.ref z), some (.int (rF cs e0.1)), some (.int (rL cs e0.1)), some (.int ((rF cs e0.1) + num)), some (.int (rL cs e0.1))]) C dX2_insert_149 rfl (nI_1 i) (by decide) rfl rfl ?_
              refine gj_goto (tgt := 33) C dX2_insert_152 (by decide) ?_
              refine gj_un 8 (lw' := [some (.ref x), some (.int sh), some (.int (bI cs)), some (.int at0), some (.int num), some (.int (ll cs)), some (.int ((nI (cbE (chI sh cs at0 num) en i)) + (bI (decide (¬ (((rF cs e0.1) + num) = rF cs e0.1 ∧ (rL cs e0.1) = rL cs e0.1)))))), some (.int (nI (i + 1))), none, some (.int (rF cs e0.1)), some (.int (rL cs e0.1)), some (.int ((rF cs e0.1) + num)), some (.int (rL cs e0.1))]) rfl ?_
              refine gj_un 9 (lw' := [some (.ref x), some (.int sh), some (.int (bI cs)), some (.int at0), some (.int num), some (.int (ll cs)), some (.int ((nI (cbE (chI sh cs at0 num) en i)) + (bI (decide (¬ (((rF cs e0.1) + num) = rF cs e0.1 ∧ (rL cs e0.1) = rL cs e0.1)))))), some (.int (nI (i + 1))), none, none, some (.int (rL cs e0.1)), some (.int ((rF cs e0.1) + num)), some (.int (rL cs e0.1))]) rfl ?_
              refine gj_un 10 (lw' := [some (.ref x), some (.int sh), some (.int (bI cs)), some (.int at0), some (.int num), some (.int (ll cs)), some (.int ((nI (cbE (chI sh cs at0 num) en i)) + (bI (decide (¬ (((rF cs e0.1) + num) = rF cs e0.1 ∧ (rL cs e0.1) = rL cs e0.1)))))), some (.int (nI (i + 1))), none, none, none, some (.int ((rF cs e0.1) + num)), some (.int (rL cs e0.1))]) rfl ?_
              refine gj_un 11 (lw' := [some (.ref x), some (.int sh), some (.int (bI cs)), some (.int at0), some (.int num), some (.int (ll cs)), some (.int ((nI (cbE (chI sh cs at0 num) en i)) + (bI (decide (¬ (((rF cs e0.1) + num) = rF cs e0.1 ∧ (rL cs e0.1) = rL cs e0.1)))))), some (.int (nI (i + 1))), none, none, none, none, some (.int (rL cs e0.1))]) rfl ?_
              refine gj_un 12 (lw' := [some (.ref x), some (.int sh), some (.int (bI cs)), some (.int at0), some (.int num), some (.int (ll cs)), some (.int ((nI (cbE (chI sh cs at0 num) en i)) + (bI (decide (¬ (((rF cs e0.1) + num) = rF cs e0.1 ∧ (rL cs e0.1) = rL cs e0.1)))))), some (.int (nI (i + 1))), none, none, none, none, none]) rfl ?_
              have h9 := ih (i + 1) u (by omega) (by rw [mapI_s hei, phI_y (bI_p1 c2), insA_t c5, insB_f c6]; exact hR2)
              rw [cb_step hei, chI_y (bI_p1 c2), insA_t c5, insB_f c6] at h9
              exact h9
          · refine gj_iload C dX2_insert_98 rfl ?_
            refine gj_goto (tgt := 108) C dX2_insert_100 (by decide) ?_
            refine gj_istore (lw' := [some (.ref x), some (.int sh), some (.int (bI cs)), some (.int at0), some (.int num), some (.int (ll cs)), some (.int (nI (cbE (chI sh cs at0 num) en i))), some (.int (nI i)), some (.ref z), some (.int (rF cs e0.1)), some (.int (rL cs e0.1)), some (.int (rF cs e0.1)), none]) C dX2_insert_108 (by decide) rfl rfl ?_
            refine gj_iload C dX2_insert_110 rfl ?_
            refine gj_iload_n C dX2_insert_112 rfl ?_
            refine gj_icmp_ge (tgt := 121) C dX2_insert_113 (by decide) (fun c7 => ?_) (fun c7 => ?_)
            · refine gj_iload C dX2_insert_121 rfl ?_
              refine gj_iload C dX2_insert_123 rfl ?_
              refine gj_iadd C dX2_insert_125 ?_
              refine gj_iload C dX2_insert_126 rfl ?_
              refine gj_mmin C dX2_insert_128 w_208 w_209 w_9 w_210 (Nat.le_of_ble_eq_true rfl) (Nat.le_of_ble_eq_true rfl) ?_
              refine gj_istore (lw' := [some (.ref x), some (.int sh), some (.int (bI cs)), some (.int at0), some (.int num), some (.int (ll cs)), some (.int (nI (cbE (chI sh cs at0 num) en i))), some (.int (nI i)), some (.ref z), some (.int (rF cs e0.1)), some (.int (rL cs e0.1)), some (.int (rF cs e0.1)), some (.int (if (ll cs) < ((rL cs e0.1) + num) then (ll cs) else ((rL cs e0.1) + num)))]) C dX2_insert_131 (by decide) rfl rfl ?_
              refine gj_iload C dX2_insert_133 rfl ?_
              refine gj_aload_n C dX2_insert_135 rfl ?_
              refine gj_iload C dX2_insert_136 rfl ?_
              refine gj_iload_n C dX2_insert_138 rfl ?_
              refine gj_iload C dX2_insert_139 rfl ?_
              refine gj_iload C dX2_insert_141 rfl ?_
              refine gj_cV (As := [.int (nI i), .int (bI cs), .int (rF cs e0.1), .int (if (ll cs) < ((rL cs e0.1) + num) then (ll cs) else ((rL cs e0.1) + num))]) (rest := [.int (nI (cbE (chI sh cs at0 num) en i))]) (nc := 0) (ns := 0) C hV (k_putLines l D cI cN cZ cJ f x nx _ n ml i e0 cs (rF cs e0.1) (if (ll cs) < ((rL cs e0.1) + num) then (ll cs) else ((rL cs e0.1) + num)) hR hj (mapI_at.trans hei) (vr_le (hval i e0 hei) cs)) dX2_insert_143 rfl w_287 rfl w_284 w_1 w_286 ws_11 hd_X2_putLines rfl hW.1.1 rfl ⟨Nat.le_of_ble_eq_true rfl, Nat.le_of_ble_eq_true rfl⟩ (Nat.le_of_ble_eq_true rfl) (by decide) (by decide) (fun v u hp => ?_)
              obtain ⟨hv, hR2⟩ := hp
              refine gj_rt (f := u) (st' := [.int (bI (decide (¬ ((rF cs e0.1) = rF cs e0.1 ∧ (if (ll cs) < ((rL cs e0.1) + num) then (ll cs) else ((rL cs e0.1) + num)) = rL cs e0.1)))), .int (nI (cbE (chI sh cs at0 num) en i))]) hv rfl rfl ?_
              refine gj_iadd C dX2_insert_146 ?_
              refine gj_istore (lw' := [some (.ref x), some (.int sh), some (.int (bI cs)), some (.int at0), some (.int num), some (.int (ll cs)), some (.int ((nI (cbE (chI sh cs at0 num) en i)) + (bI (decide (¬ ((rF cs e0.1) = rF cs e0.1 ∧ (if (ll cs) < ((rL cs e0.1) + num) then (ll cs) else ((rL cs e0.1) + num)) = rL cs e0.1)))))), some (.int (nI i)), some (.ref z), some (.int (rF cs e0.1)), some (.int (rL cs e0.1)), some (.int (rF cs e0.1)), some (.int (if (ll cs) < ((rL cs e0.1) + num) then (ll cs) else ((rL cs e0.1) + num)))]) C dX2_insert_147 (by decide) rfl rfl ?_
              refine gj_iinc (v := (nI (i + 1))) (lw' := [some (.ref x), some (.int sh), some (.int (bI cs)), some (.int at0), some (.int num), some (.int (ll cs)), some (.int ((nI (cbE (chI sh cs at0 num) en i)) + (bI (decide (¬ ((rF cs e0.1) = rF cs e0.1 ∧ (if (ll cs) < ((rL cs e0.1) + num) then (ll cs) else ((rL cs e0.1) + num)) = rL cs e0.1)))))), some (.int (nI (i + 1))), some (.ref z), some (.int (rF cs e0.1)), some (.int (rL cs e0.1)), some (.int (rF cs e0.1)), some (.int (if (ll cs) < ((rL cs e0.1) + num) then (ll cs) else ((rL cs e0.1) + num)))]) C dX2_insert_149 rfl (nI_1 i) (by decide) rfl rfl ?_
              refine gj_goto (tgt := 33) C dX2_insert_152 (by decide) ?_
              refine gj_un 8 (lw' := [some (.ref x), some (.int sh), some (.int (bI cs)), some (.int at0), some (.int num), some (.int (ll cs)), some (.int ((nI (cbE (chI sh cs at0 num) en i)) + (bI (decide (¬ ((rF cs e0.1) = rF cs e0.1 ∧ (if (ll cs) < ((rL cs e0.1) + num) then (ll cs) else ((rL cs e0.1) + num)) = rL cs e0.1)))))), some (.int (nI (i + 1))), none, some (.int (rF cs e0.1)), some (.int (rL cs e0.1)), some (.int (rF cs e0.1)), some (.int (if (ll cs) < ((rL cs e0.1) + num) then (ll cs) else ((rL cs e0.1) + num)))]) rfl ?_
              refine gj_un 9 (lw' := [some (.ref x), some (.int sh), some (.int (bI cs)), some (.int at0), some (.int num), some (.int (ll cs)), some (.int ((nI (cbE (chI sh cs at0 num) en i)) + (bI (decide (¬ ((rF cs e0.1) = rF cs e0.1 ∧ (if (ll cs) < ((rL cs e0.1) + num) then (ll cs) else ((rL cs e0.1) + num)) = rL cs e0.1)))))), some (.int (nI (i + 1))), none, none, some (.int (rL cs e0.1)), some (.int (rF cs e0.1)), some (.int (if (ll cs) < ((rL cs e0.1) + num) then (ll cs) else ((rL cs e0.1) + num)))]) rfl ?_
              refine gj_un 10 (lw' := [some (.ref x), some (.int sh), some (.int (bI cs)), some (.int at0), some (.int num), some (.int (ll cs)), some (.int ((nI (cbE (chI sh cs at0 num) en i)) + (bI (decide (¬ ((rF cs e0.1) = rF cs e0.1 ∧ (if (ll cs) < ((rL cs e0.1) + num) then (ll cs) else ((rL cs e0.1) + num)) = rL cs e0.1)))))), some (.int (nI (i + 1))), none, none, none, some (.int (rF cs e0.1)), some (.int (if (ll cs) < ((rL cs e0.1) + num) then (ll cs) else ((rL cs e0.1) + num)))]) rfl ?_
              refine gj_un 11 (lw' := [some (.ref x), some (.int sh), some (.int (bI cs)), some (.int at0), some (.int num), some (.int (ll cs)), some (.int ((nI (cbE (chI sh cs at0 num) en i)) + (bI (decide (¬ ((rF cs e0.1) = rF cs e0.1 ∧ (if (ll cs) < ((rL cs e0.1) + num) then (ll cs) else ((rL cs e0.1) + num)) = rL cs e0.1)))))), some (.int (nI (i + 1))), none, none, none, none, some (.int (if (ll cs) < ((rL cs e0.1) + num) then (ll cs) else ((rL cs e0.1) + num)))]) rfl ?_
              refine gj_un 12 (lw' := [some (.ref x), some (.int sh), some (.int (bI cs)), some (.int at0), some (.int num), some (.int (ll cs)), some (.int ((nI (cbE (chI sh cs at0 num) en i)) + (bI (decide (¬ ((rF cs e0.1) = rF cs e0.1 ∧ (if (ll cs) < ((rL cs e0.1) + num) then (ll cs) else ((rL cs e0.1) + num)) = rL cs e0.1)))))), some (.int (nI (i + 1))), none, none, none, none, none]) rfl ?_
              have h9 := ih (i + 1) u (by omega) (by rw [mapI_s hei, phI_y (bI_p1 c2), insA_f c5, insB_t c7]; exact hR2)
              rw [cb_step hei, chI_y (bI_p1 c2), insA_f c5, insB_t c7] at h9
              exact h9
            · refine gj_iload C dX2_insert_116 rfl ?_
              refine gj_goto (tgt := 131) C dX2_insert_118 (by decide) ?_
              refine gj_istore (lw' := [some (.ref x), some (.int sh), some (.int (bI cs)), some (.int at0), some (.int num), some (.int (ll cs)), some (.int (nI (cbE (chI sh cs at0 num) en i))), some (.int (nI i)), some (.ref z), some (.int (rF cs e0.1)), some (.int (rL cs e0.1)), some (.int (rF cs e0.1)), some (.int (rL cs e0.1))]) C dX2_insert_131 (by decide) rfl rfl ?_
              refine gj_iload C dX2_insert_133 rfl ?_
              refine gj_aload_n C dX2_insert_135 rfl ?_
              refine gj_iload C dX2_insert_136 rfl ?_
              refine gj_iload_n C dX2_insert_138 rfl ?_
              refine gj_iload C dX2_insert_139 rfl ?_
              refine gj_iload C dX2_insert_141 rfl ?_
              refine gj_cV (As := [.int (nI i), .int (bI cs), .int (rF cs e0.1), .int (rL cs e0.1)]) (rest := [.int (nI (cbE (chI sh cs at0 num) en i))]) (nc := 0) (ns := 0) C hV (k_putLines l D cI cN cZ cJ f x nx _ n ml i e0 cs (rF cs e0.1) (rL cs e0.1) hR hj (mapI_at.trans hei) (vr_le (hval i e0 hei) cs)) dX2_insert_143 rfl w_287 rfl w_284 w_1 w_286 ws_11 hd_X2_putLines rfl hW.1.1 rfl ⟨Nat.le_of_ble_eq_true rfl, Nat.le_of_ble_eq_true rfl⟩ (Nat.le_of_ble_eq_true rfl) (by decide) (by decide) (fun v u hp => ?_)
              obtain ⟨hv, hR2⟩ := hp
              refine gj_rt (f := u) (st' := [.int (bI (decide (¬ ((rF cs e0.1) = rF cs e0.1 ∧ (rL cs e0.1) = rL cs e0.1)))), .int (nI (cbE (chI sh cs at0 num) en i))]) hv rfl rfl ?_
              refine gj_iadd C dX2_insert_146 ?_
              refine gj_istore (lw' := [some (.ref x), some (.int sh), some (.int (bI cs)), some (.int at0), some (.int num), some (.int (ll cs)), some (.int ((nI (cbE (chI sh cs at0 num) en i)) + (bI (decide (¬ ((rF cs e0.1) = rF cs e0.1 ∧ (rL cs e0.1) = rL cs e0.1)))))), some (.int (nI i)), some (.ref z), some (.int (rF cs e0.1)), some (.int (rL cs e0.1)), some (.int (rF cs e0.1)), some (.int (rL cs e0.1))]) C dX2_insert_147 (by decide) rfl rfl ?_
              refine gj_iinc (v := (nI (i + 1))) (lw' := [some (.ref x), some (.int sh), some (.int (bI cs)), some (.int at0), some (.int num), some (.int (ll cs)), some (.int ((nI (cbE (chI sh cs at0 num) en i)) + (bI (decide (¬ ((rF cs e0.1) = rF cs e0.1 ∧ (rL cs e0.1) = rL cs e0.1)))))), some (.int (nI (i + 1))), some (.ref z), some (.int (rF cs e0.1)), some (.int (rL cs e0.1)), some (.int (rF cs e0.1)), some (.int (rL cs e0.1))]) C dX2_insert_149 rfl (nI_1 i) (by decide) rfl rfl ?_
              refine gj_goto (tgt := 33) C dX2_insert_152 (by decide) ?_
              refine gj_un 8 (lw' := [some (.ref x), some (.int sh), some (.int (bI cs)), some (.int at0), some (.int num), some (.int (ll cs)), some (.int ((nI (cbE (chI sh cs at0 num) en i)) + (bI (decide (¬ ((rF cs e0.1) = rF cs e0.1 ∧ (rL cs e0.1) = rL cs e0.1)))))), some (.int (nI (i + 1))), none, some (.int (rF cs e0.1)), some (.int (rL cs e0.1)), some (.int (rF cs e0.1)), some (.int (rL cs e0.1))]) rfl ?_
              refine gj_un 9 (lw' := [some (.ref x), some (.int sh), some (.int (bI cs)), some (.int at0), some (.int num), some (.int (ll cs)), some (.int ((nI (cbE (chI sh cs at0 num) en i)) + (bI (decide (¬ ((rF cs e0.1) = rF cs e0.1 ∧ (rL cs e0.1) = rL cs e0.1)))))), some (.int (nI (i + 1))), none, none, some (.int (rL cs e0.1)), some (.int (rF cs e0.1)), some (.int (rL cs e0.1))]) rfl ?_
              refine gj_un 10 (lw' := [some (.ref x), some (.int sh), some (.int (bI cs)), some (.int at0), some (.int num), some (.int (ll cs)), some (.int ((nI (cbE (chI sh cs at0 num) en i)) + (bI (decide (¬ ((rF cs e0.1) = rF cs e0.1 ∧ (rL cs e0.1) = rL cs e0.1)))))), some (.int (nI (i + 1))), none, none, none, some (.int (rF cs e0.1)), some (.int (rL cs e0.1))]) rfl ?_
              refine gj_un 11 (lw' := [some (.ref x), some (.int sh), some (.int (bI cs)), some (.int at0), some (.int num), some (.int (ll cs)), some (.int ((nI (cbE (chI sh cs at0 num) en i)) + (bI (decide (¬ ((rF cs e0.1) = rF cs e0.1 ∧ (rL cs e0.1) = rL cs e0.1)))))), some (.int (nI (i + 1))), none, none, none, none, some (.int (rL cs e0.1))]) rfl ?_
              refine gj_un 12 (lw' := [some (.ref x), some (.int sh), some (.int (bI cs)), some (.int at0), some (.int num), some (.int (ll cs)), some (.int ((nI (cbE (chI sh cs at0 num) en i)) + (bI (decide (¬ ((rF cs e0.1) = rF cs e0.1 ∧ (rL cs e0.1) = rL cs e0.1)))))), some (.int (nI (i + 1))), none, none, none, none, none]) rfl ?_
              have h9 := ih (i + 1) u (by omega) (by rw [mapI_s hei, phI_y (bI_p1 c2), insA_f c5, insB_f c7]; exact hR2)
              rw [cb_step hei, chI_y (bI_p1 c2), insA_f c5, insB_f c7] at h9
              exact h9
  refine gj_iload_n C dX2_insert_0 rfl ?_
  refine gj_iload_n C dX2_insert_1 rfl ?_
  refine gj_iload_n C dX2_insert_2 rfl ?_
  refine gj_iload C dX2_insert_3 rfl ?_
  refine gj_cS (As := [.int sh, .int (bI cs), .int at0, .int num]) (rest := []) (nc := 1) (ns := 6) C hV (k_areLines l D (tyl cI cN cZ cJ) f sh cs at0 num) dX2_insert_5 rfl w_267 rfl w_265 w_1 w_266 hd_X2_areLines rfl ⟨Nat.le_of_ble_eq_true rfl, Nat.le_of_ble_eq_true rfl⟩ (Nat.le_of_ble_eq_true rfl) (by decide) (by decide) (fun v u hp8 => ?_)
  refine gj_rt (st' := [.int (bI (decide (vn sh cs at0 num)))]) hp8.1 hp8.2 rfl ?_
  refine gj_if_ne (tgt := 21) C dX2_insert_8 (by decide) (fun c9 => ?_) (fun c9 => ?_)
  · refine gj_iload_n C dX2_insert_21 rfl ?_
    refine gj_cS (As := [.int (bI cs)]) (rest := []) (nc := 1) (ns := 6) C hV (k_lastLine l D (tyl cI cN cZ cJ) f cs) dX2_insert_22 rfl w_53 rfl w_51 w_1 w_52 hd_X2_lastLine rfl ⟨Nat.le_of_ble_eq_true rfl, Nat.le_of_ble_eq_true rfl⟩ (Nat.le_of_ble_eq_true rfl) (by decide) (by decide) (fun v u hp10 => ?_)
    refine gj_rt (st' := [.int (ll cs)]) hp10.1 hp10.2 rfl ?_
    refine gj_istore (lw' := [some (.ref x), some (.int sh), some (.int (bI cs)), some (.int at0), some (.int num), some (.int (ll cs)), none, none, none, none, none, none, none]) C dX2_insert_25 (by decide) rfl rfl ?_
    refine gj_iconst (v := 0) C dX2_insert_27 (by decide) ?_
    refine gj_istore (lw' := [some (.ref x), some (.int sh), some (.int (bI cs)), some (.int at0), some (.int num), some (.int (ll cs)), some (.int 0), none, none, none, none, none, none]) C dX2_insert_28 (by decide) rfl rfl ?_
    refine gj_iconst (v := 0) C dX2_insert_30 (by decide) ?_
    refine gj_istore (lw' := [some (.ref x), some (.int sh), some (.int (bI cs)), some (.int at0), some (.int num), some (.int (ll cs)), some (.int 0), some (.int 0), none, none, none, none, none]) C dX2_insert_31 (by decide) rfl rfl ?_
    refine gj_nc (Nat.zero_le _) (Nat.zero_le _) ?_
    exact loop (bI_p1 c9) n 0 f (by omega) (by rw [mapI_0]; exact hR)
  · exact gj_throwS C hV hV2 hZ hl hT hlk dX2_insert_11 dX2_insert_14 dX2_insert_15 dX2_insert_17 dX2_insert_20 xfit_IA w_119 w_7 (List.mem_of_getElem? (i := 4) rfl) xat1_IA xat2_IA xgd_IA (Nat.le_of_ble_eq_true rfl) (Nat.le_of_ble_eq_true rfl) (Nat.le_of_ble_eq_true rfl) (Nat.le_of_ble_eq_true rfl) (⟨bI_p0 c9, rfl, hR⟩)
set_option maxRecDepth 100000 in
set_option maxHeartbeats 4000000 in
theorem k_delete (l : Launch) (hl : l.stackTraces = false) (D : va_G) (cI cN cZ cJ : ClassId) (f : gm) (x : Nat) (nx : Option Rc) (en : Nat → Option En) (n : Nat) (ml : List Nat) (sh : Int32) (cs : Bool) (at0 num : Int32) (hR : Rp cI cN f x nx en n ml) (hval : ∀ j e, en j = some e → vr e.1) : gkx l yX2_delete (.code yX2_delete cX2_delete 12 (Option.some Jvm.ClassFile.FieldType.int)) (rmk 5 1 6) D (tyl cI cN cZ cJ) [.ref x, .int sh, .int (bI cs), .int at0, .int num] f (fun v u => vn sh cs at0 num ∧ v = some (.int (nI (cbE (chX sh cs at0 num) en 4096))) ∧ Rp cI cN u x nx (mapE (phX sh cs at0 num) en) n ml) (fun E u => ¬ vn sh cs at0 num ∧ E = xIA ∧ Rp cI cN u x nx en n ml) := by
  refine gkx_of [some (.ref x), some (.int sh), some (.int (bI cs)), some (.int at0), some (.int num), none, none, none, none, none, none, none] (by decide) rfl (Nat.le_of_ble_eq_true rfl) rfl ?_
  intro p e s m args below meth c A C hV hr hlk hnm hV2 hZ hT
  have hd : ∀ j, n ≤ j → en j = none := hR.bd.1
  have hn : n ≤ 1024 := hR.bd.2.1
  have loop : vn sh cs at0 num → ∀ (d i : Nat) (f : gm), i + d = n → Rp cI cN f x nx (mapI (phX sh cs at0 num) en i) n ml → gj p l e (rmk 5 1 6) s m args below meth c D vwCl A 12 (vx_MQ below (gk_Q (fun v u => vn sh cs at0 num ∧ v = some (.int (nI (cbE (chX sh cs at0 num) en 4096))) ∧ Rp cI cN u x nx (mapE (phX sh cs at0 num) en) n ml) D A) (gkx_X (fun E u => ¬ vn sh cs at0 num ∧ E = xIA ∧ Rp cI cN u x nx en n ml) D A) args s (rmk 5 1 6).cells (rmk 5 1 6).slots A) f 0 0 27 [some (.ref x), some (.int sh), some (.int (bI cs)), some (.int at0), some (.int num), some (.int (nI (cbE (chX sh cs at0 num) en i))), some (.int (nI i)), none, none, none, none, none] [] := by
    intro hok d
    induction d with
    | zero =>
      intro i f hid hR
      rw [show mapI (phX sh cs at0 num) en i = mapI (phX sh cs at0 num) en n by rw [show i = n by omega]] at hR
      obtain ⟨q, hE, hM, k, g, mf, ar, hW⟩ := id hR
      refine gj_iload C dX2_delete_27 rfl ?_
      refine gj_aload_n C dX2_delete_29 rfl ?_
      refine gj_get C dX2_delete_30 hW.1.1 rfl inX2 1 (by decide) w_22 rfl ?_
      refine gj_alen C 1 dX2_delete_33 hW.1.2.1 rfl ?_
      refine gj_icmp_geT (tgt := 154) C dX2_delete_34 (by decide) (by rw [show i = n by omega]; exact Int32.le_refl _) ?_
      refine gj_iload C dX2_delete_154 rfl ?_
      exact gj_vx (gj_iret C hr hlk dX2_delete_156 (⟨hok, by rw [cbE_none hd 4096 (by omega), show i = n by omega], by rw [← mapI_end (φ := (phX sh cs at0 num)) hd]; exact hR⟩))
    | succ d ih =>
      intro i f hid hR
      have hj : i < n := by omega
      obtain ⟨q, hE, hM, k, g, mf, ar, hW⟩ := id hR
      cases hei : en i with
      | none =>
        refine gj_iload C dX2_delete_27 rfl ?_
        refine gj_aload_n C dX2_delete_29 rfl ?_
        refine gj_get C dX2_delete_30 hW.1.1 rfl inX2 1 (by decide) w_22 rfl ?_
        refine gj_alen C 1 dX2_delete_33 hW.1.2.1 rfl ?_
        refine gj_icmp_geF (tgt := 154) C dX2_delete_34 (by decide) (nI_ge hj (by omega)) ?_
        refine gj_aload_n C dX2_delete_37 rfl ?_
        refine gj_get C dX2_delete_38 hW.1.1 rfl inX2 1 (by decide) w_22 rfl ?_
        refine gj_iload C dX2_delete_41 rfl ?_
        refine gj_aaldN C 1 dX2_delete_43 hW.1.2.1 rfl hj (by omega) ?_
        refine gj_st (st' := [.null]) (by rw [rpw_no hW hj (mapI_at.trans hei)]; rfl) ?_
        refine gj_astoreN (lw' := [some (.ref x), some (.int sh), some (.int (bI cs)), some (.int at0), some (.int num), some (.int (nI (cbE (chX sh cs at0 num) en i))), some (.int (nI i)), some (.null), none, none, none, none]) C dX2_delete_44 (by decide) rfl rfl ?_
        refine gj_aloadN C dX2_delete_46 rfl ?_
        refine gj_ifnullN (tgt := 148) C dX2_delete_48 (by decide) ?_
        refine gj_iinc (v := (nI (i + 1))) (lw' := [some (.ref x), some (.int sh), some (.int (bI cs)), some (.int at0), some (.int num), some (.int (nI (cbE (chX sh cs at0 num) en i))), some (.int (nI (i + 1))), some (.null), none, none, none, none]) C dX2_delete_148 rfl (nI_1 i) (by decide) rfl rfl ?_
        refine gj_goto (tgt := 27) C dX2_delete_151 (by decide) ?_
        refine gj_un 7 (lw' := [some (.ref x), some (.int sh), some (.int (bI cs)), some (.int at0), some (.int num), some (.int (nI (cbE (chX sh cs at0 num) en i))), some (.int (nI (i + 1))), none, none, none, none, none]) rfl ?_
        have h9 := ih (i + 1) f (by omega) (by rw [mapI_n hei]; exact hR)
        rw [cb_n hei] at h9
        exact h9
      | some e0 =>
        obtain ⟨z, z1, z2, z3⟩ := rpw_at hW hj (mapI_at.trans hei)
        refine gj_iload C dX2_delete_27 rfl ?_
        refine gj_aload_n C dX2_delete_29 rfl ?_
        refine gj_get C dX2_delete_30 hW.1.1 rfl inX2 1 (by decide) w_22 rfl ?_
        refine gj_alen C 1 dX2_delete_33 hW.1.2.1 rfl ?_
        refine gj_icmp_geF (tgt := 154) C dX2_delete_34 (by decide) (nI_ge hj (by omega)) ?_
        refine gj_aload_n C dX2_delete_37 rfl ?_
        refine gj_get C dX2_delete_38 hW.1.1 rfl inX2 1 (by decide) w_22 rfl ?_
        refine gj_iload C dX2_delete_41 rfl ?_
        refine gj_aaldN C 1 dX2_delete_43 hW.1.2.1 rfl hj (by omega) ?_
        refine gj_st (st' := [.ref z]) (by rw [z1]; rfl) ?_
        refine gj_astore (lw' := [some (.ref x), some (.int sh), some (.int (bI cs)), some (.int at0), some (.int num), some (.int (nI (cbE (chX sh cs at0 num) en i))), some (.int (nI i)), some (.ref z), none, none, none, none]) C dX2_delete_44 (by decide) rfl rfl ?_
        refine gj_aload C dX2_delete_46 rfl ?_
        refine gj_ifnull C dX2_delete_48 ?_
        refine gj_aload C dX2_delete_51 rfl ?_
        refine gj_getN C dX2_delete_53 z2 rfl inX1 0 (by decide) (hV.2.1 _ nw_8) rfl ?_
        refine gj_iload_n C dX2_delete_56 rfl ?_
        refine gj_iload_n C dX2_delete_57 rfl ?_
        refine gj_cVN (As := [.int sh, .int (bI cs)]) (rest := []) (nc := 0) (ns := 0) C hV (k_Area_yieldsTo l D (tyl cI cN cZ cJ) f (ar i) e0.1 sh cs z3) dX2_delete_58 rfl w_272 rfl nw_11 w_3 w_271 ws_8 hd_X0_yieldsTo rfl z3 rfl ⟨Nat.le_of_ble_eq_true rfl, Nat.le_of_ble_eq_true rfl⟩ (Nat.le_of_ble_eq_true rfl) (by decide) (by decide) (fun v u hp1 => ?_)
        refine gj_rt (st' := [.int (bI (decide (rY sh cs e0.1)))]) hp1.1 hp1.2 rfl ?_
        refine gj_if_eq (tgt := 148) C dX2_delete_61 (by decide) (fun c2 => ?_) (fun c2 => ?_)
        · refine gj_iinc (v := (nI (i + 1))) (lw' := [some (.ref x), some (.int sh), some (.int (bI cs)), some (.int at0), some (.int num), some (.int (nI (cbE (chX sh cs at0 num) en i))), some (.int (nI (i + 1))), some (.ref z), none, none, none, none]) C dX2_delete_148 rfl (nI_1 i) (by decide) rfl rfl ?_
          refine gj_goto (tgt := 27) C dX2_delete_151 (by decide) ?_
          refine gj_un 7 (lw' := [some (.ref x), some (.int sh), some (.int (bI cs)), some (.int at0), some (.int num), some (.int (nI (cbE (chX sh cs at0 num) en i))), some (.int (nI (i + 1))), none, none, none, none, none]) rfl ?_
          have h9 := ih (i + 1) f (by omega) (by rw [mapI_k hei (phX_n (bI_p0 c2))]; exact hR)
          rw [cb_f hei (chX_n (bI_p0 c2))] at h9
          exact h9
        · refine gj_aload C dX2_delete_64 rfl ?_
          refine gj_getN C dX2_delete_66 z2 rfl inX1 0 (by decide) (hV.2.1 _ nw_8) rfl ?_
          refine gj_iload_n C dX2_delete_69 rfl ?_
          refine gj_cVN (As := [.int (bI cs)]) (rest := []) (nc := 0) (ns := 0) C hV (k_Area_first l D (tyl cI cN cZ cJ) f (ar i) e0.1 cs z3) dX2_delete_70 rfl w_276 rfl nw_13 w_3 w_275 ws_9 hd_X0_first rfl z3 rfl ⟨Nat.le_of_ble_eq_true rfl, Nat.le_of_ble_eq_true rfl⟩ (Nat.le_of_ble_eq_true rfl) (by decide) (by decide) (fun v u hp3 => ?_)
          refine gj_rt (st' := [.int (rF cs e0.1)]) hp3.1 hp3.2 rfl ?_
          refine gj_istore (lw' := [some (.ref x), some (.int sh), some (.int (bI cs)), some (.int at0), some (.int num), some (.int (nI (cbE (chX sh cs at0 num) en i))), some (.int (nI i)), some (.ref z), some (.int (rF cs e0.1)), none, none, none]) C dX2_delete_73 (by decide) rfl rfl ?_
          refine gj_aload C dX2_delete_75 rfl ?_
          refine gj_getN C dX2_delete_77 z2 rfl inX1 0 (by decide) (hV.2.1 _ nw_8) rfl ?_
          refine gj_iload_n C dX2_delete_80 rfl ?_
          refine gj_cVN (As := [.int (bI cs)]) (rest := []) (nc := 0) (ns := 0) C hV (k_Area_last l D (tyl cI cN cZ cJ) f (ar i) e0.1 cs z3) dX2_delete_81 rfl w_280 rfl nw_14 w_3 w_279 ws_10 hd_X0_last rfl z3 rfl ⟨Nat.le_of_ble_eq_true rfl, Nat.le_of_ble_eq_true rfl⟩ (Nat.le_of_ble_eq_true rfl) (by decide) (by decide) (fun v u hp4 => ?_)
          refine gj_rt (st' := [.int (rL cs e0.1)]) hp4.1 hp4.2 rfl ?_
          refine gj_istore (lw' := [some (.ref x), some (.int sh), some (.int (bI cs)), some (.int at0), some (.int num), some (.int (nI (cbE (chX sh cs at0 num) en i))), some (.int (nI i)), some (.ref z), some (.int (rF cs e0.1)), some (.int (rL cs e0.1)), none, none]) C dX2_delete_84 (by decide) rfl rfl ?_
          refine gj_iload C dX2_delete_86 rfl ?_
          refine gj_iload_n C dX2_delete_88 rfl ?_
          refine gj_icmp_ge (tgt := 97) C dX2_delete_89 (by decide) (fun c5 => ?_) (fun c5 => ?_)
          · refine gj_iload C dX2_delete_97 rfl ?_
            refine gj_iload C dX2_delete_99 rfl ?_
            refine gj_isub C dX2_delete_101 ?_
            refine gj_iload_n C dX2_delete_102 rfl ?_
            refine gj_mmax C dX2_delete_103 w_299 w_300 w_9 w_301 (Nat.le_of_ble_eq_true rfl) (Nat.le_of_ble_eq_true rfl) ?_
            refine gj_istore (lw' := [some (.ref x), some (.int sh), some (.int (bI cs)), some (.int at0), some (.int num), some (.int (nI (cbE (chX sh cs at0 num) en i))), some (.int (nI i)), some (.ref z), some (.int (rF cs e0.1)), some (.int (rL cs e0.1)), some (.int (if ((rF cs e0.1) - num) < at0 then at0 else ((rF cs e0.1) - num))), none]) C dX2_delete_106 (by decide) rfl rfl ?_
            refine gj_iload C dX2_delete_108 rfl ?_
            refine gj_iload_n C dX2_delete_110 rfl ?_
            refine gj_icmp_ge (tgt := 119) C dX2_delete_111 (by decide) (fun c6 => ?_) (fun c6 => ?_)
            · refine gj_iload C dX2_delete_119 rfl ?_
              refine gj_iload C dX2_delete_121 rfl ?_
              refine gj_isub C dX2_delete_123 ?_
              refine gj_iload_n C dX2_delete_124 rfl ?_
              refine gj_iconst (v := 1) C dX2_delete_125 (by decide) ?_
              refine gj_isub C dX2_delete_126 ?_
              refine gj_mmax C dX2_delete_127 w_299 w_300 w_9 w_301 (Nat.le_of_ble_eq_true rfl) (Nat.le_of_ble_eq_true rfl) ?_
              refine gj_istore (lw' := [some (.ref x), some (.int sh), some (.int (bI cs)), some (.int at0), some (.int num), some (.int (nI (cbE (chX sh cs at0 num) en i))), some (.int (nI i)), some (.ref z), some (.int (rF cs e0.1)), some (.int (rL cs e0.1)), some (.int (if ((rF cs e0.1) - num) < at0 then at0 else ((rF cs e0.1) - num))), some (.int (if ((rL cs e0.1) - num) < (at0 - 1) then (at0 - 1) else ((rL cs e0.1) - num)))]) C dX2_delete_130 (by decide) rfl rfl ?_
              refine gj_iload C dX2_delete_132 rfl ?_
              refine gj_aload_n C dX2_delete_134 rfl ?_
              refine gj_iload C dX2_delete_135 rfl ?_
              refine gj_iload_n C dX2_delete_137 rfl ?_
              refine gj_iload C dX2_delete_138 rfl ?_
              refine gj_iload C dX2_delete_140 rfl ?_
              refine gj_cV (As := [.int (nI i), .int (bI cs), .int (if ((rF cs e0.1) - num) < at0 then at0 else ((rF cs e0.1) - num)), .int (if ((rL cs e0.1) - num) < (at0 - 1) then (at0 - 1) else ((rL cs e0.1) - num))]) (rest := [.int (nI (cbE (chX sh cs at0 num) en i))]) (nc := 0) (ns := 0) C hV (k_putLines l D cI cN cZ cJ f x nx _ n ml i e0 cs (if ((rF cs e0.1) - num) < at0 then at0 else ((rF cs e0.1) - num)) (if ((rL cs e0.1) - num) < (at0 - 1) then (at0 - 1) else ((rL cs e0.1) - num)) hR hj (mapI_at.trans hei) (vr_le (hval i e0 hei) cs)) dX2_delete_142 rfl w_287 rfl w_284 w_1 w_286 ws_11 hd_X2_putLines rfl hW.1.1 rfl ⟨Nat.le_of_ble_eq_true rfl, Nat.le_of_ble_eq_true rfl⟩ (Nat.le_of_ble_eq_true rfl) (by decide) (by decide) (fun v u hp => ?_)
              obtain ⟨hv, hR2⟩ := hp
              refine gj_rt (f := u) (st' := [.int (bI (decide (¬ ((if ((rF cs e0.1) - num) < at0 then at0 else ((rF cs e0.1) - num)) = rF cs e0.1 ∧ (if ((rL cs e0.1) - num) < (at0 - 1) then (at0 - 1) else ((rL cs e0.1) - num)) = rL cs e0.1)))), .int (nI (cbE (chX sh cs at0 num) en i))]) hv rfl rfl ?_
              refine gj_iadd C dX2_delete_145 ?_
              refine gj_istore (lw' := [some (.ref x), some (.int sh), some (.int (bI cs)), some (.int at0), some (.int num), some (.int ((nI (cbE (chX sh cs at0 num) en i)) + (bI (decide (¬ ((if ((rF cs e0.1) - num) < at0 then at0 else ((rF cs e0.1) - num)) = rF cs e0.1 ∧ (if ((rL cs e0.1) - num) < (at0 - 1) then (at0 - 1) else ((rL cs e0.1) - num)) = rL cs e0.1)))))), some (.int (nI i)), some (.ref z), some (.int (rF cs e0.1)), some (.int (rL cs e0.1)), some (.int (if ((rF cs e0.1) - num) < at0 then at0 else ((rF cs e0.1) - num))), some (.int (if ((rL cs e0.1) - num) < (at0 - 1) then (at0 - 1) else ((rL cs e0.1) - num)))]) C dX2_delete_146 (by decide) rfl rfl ?_
              refine gj_iinc (v := (nI (i + 1))) (lw' := [some (.ref x), some (.int sh), some (.int (bI cs)), some (.int at0), some (.int num), some (.int ((nI (cbE (chX sh cs at0 num) en i)) + (bI (decide (¬ ((if ((rF cs e0.1) - num) < at0 then at0 else ((rF cs e0.1) - num)) = rF cs e0.1 ∧ (if ((rL cs e0.1) - num) < (at0 - 1) then (at0 - 1) else ((rL cs e0.1) - num)) = rL cs e0.1)))))), some (.int (nI (i + 1))), some (.ref z), some (.int (rF cs e0.1)), some (.int (rL cs e0.1)), some (.int (if ((rF cs e0.1) - num) < at0 then at0 else ((rF cs e0.1) - num))), some (.int (if ((rL cs e0.1) - num) < (at0 - 1) then (at0 - 1) else ((rL cs e0.1) - num)))]) C dX2_delete_148 rfl (nI_1 i) (by decide) rfl rfl ?_
              refine gj_goto (tgt := 27) C dX2_delete_151 (by decide) ?_
              refine gj_un 7 (lw' := [some (.ref x), some (.int sh), some (.int (bI cs)), some (.int at0), some (.int num), some (.int ((nI (cbE (chX sh cs at0 num) en i)) + (bI (decide (¬ ((if ((rF cs e0.1) - num) < at0 then at0 else ((rF cs e0.1) - num)) = rF cs e0.1 ∧ (if ((rL cs e0.1) - num) < (at0 - 1) then (at0 - 1) else ((rL cs e0.1) - num)) = rL cs e0.1)))))), some (.int (nI (i + 1))), none, some (.int (rF cs e0.1)), some (.int (rL cs e0.1)), some (.int (if ((rF cs e0.1) - num) < at0 then at0 else ((rF cs e0.1) - num))), some (.int (if ((rL cs e0.1) - num) < (at0 - 1) then (at0 - 1) else ((rL cs e0.1) - num)))]) rfl ?_
              refine gj_un 8 (lw' := [some (.ref x), some (.int sh), some (.int (bI cs)), some (.int at0), some (.int num), some (.int ((nI (cbE (chX sh cs at0 num) en i)) + (bI (decide (¬ ((if ((rF cs e0.1) - num) < at0 then at0 else ((rF cs e0.1) - num)) = rF cs e0.1 ∧ (if ((rL cs e0.1) - num) < (at0 - 1) then (at0 - 1) else ((rL cs e0.1) - num)) = rL cs e0.1)))))), some (.int (nI (i + 1))), none, none, some (.int (rL cs e0.1)), some (.int (if ((rF cs e0.1) - num) < at0 then at0 else ((rF cs e0.1) - num))), some (.int (if ((rL cs e0.1) - num) < (at0 - 1) then (at0 - 1) else ((rL cs e0.1) - num)))]) rfl ?_
              refine gj_un 9 (lw' := [some (.ref x), some (.int sh), some (.int (bI cs)), some (.int at0), some (.int num), some (.int ((nI (cbE (chX sh cs at0 num) en i)) + (bI (decide (¬ ((if ((rF cs e0.1) - num) < at0 then at0 else ((rF cs e0.1) - num)) = rF cs e0.1 ∧ (if ((rL cs e0.1) - num) < (at0 - 1) then (at0 - 1) else ((rL cs e0.1) - num)) = rL cs e0.1)))))), some (.int (nI (i + 1))), none, none, none, some (.int (if ((rF cs e0.1) - num) < at0 then at0 else ((rF cs e0.1) - num))), some (.int (if ((rL cs e0.1) - num) < (at0 - 1) then (at0 - 1) else ((rL cs e0.1) - num)))]) rfl ?_
              refine gj_un 10 (lw' := [some (.ref x), some (.int sh), some (.int (bI cs)), some (.int at0), some (.int num), some (.int ((nI (cbE (chX sh cs at0 num) en i)) + (bI (decide (¬ ((if ((rF cs e0.1) - num) < at0 then at0 else ((rF cs e0.1) - num)) = rF cs e0.1 ∧ (if ((rL cs e0.1) - num) < (at0 - 1) then (at0 - 1) else ((rL cs e0.1) - num)) = rL cs e0.1)))))), some (.int (nI (i + 1))), none, none, none, none, some (.int (if ((rL cs e0.1) - num) < (at0 - 1) then (at0 - 1) else ((rL cs e0.1) - num)))]) rfl ?_
              refine gj_un 11 (lw' := [some (.ref x), some (.int sh), some (.int (bI cs)), some (.int at0), some (.int num), some (.int ((nI (cbE (chX sh cs at0 num) en i)) + (bI (decide (¬ ((if ((rF cs e0.1) - num) < at0 then at0 else ((rF cs e0.1) - num)) = rF cs e0.1 ∧ (if ((rL cs e0.1) - num) < (at0 - 1) then (at0 - 1) else ((rL cs e0.1) - num)) = rL cs e0.1)))))), some (.int (nI (i + 1))), none, none, none, none, none]) rfl ?_
              have h9 := ih (i + 1) u (by omega) (by rw [mapI_s hei, phX_y (bI_p1 c2), delA_t c5, delB_t c6]; exact hR2)
              rw [cb_step hei, chX_y (bI_p1 c2), delA_t c5, delB_t c6] at h9
              exact h9
            · refine gj_iload C dX2_delete_114 rfl ?_
              refine gj_goto (tgt := 130) C dX2_delete_116 (by decide) ?_
              refine gj_istore (lw' := [some (.ref x), some (.int sh), some (.int (bI cs)), some (.int at0), some (.int num), some (.int (nI (cbE (chX sh cs at0 num) en i))), some (.int (nI i)), some (.ref z), some (.int (rF cs e0.1)), some (.int (rL cs e0.1)), some (.int (if ((rF cs e0.1) - num) < at0 then at0 else ((rF cs e0.1) - num))), some (.int (rL cs e0.1))]) C dX2_delete_130 (by decide) rfl rfl ?_
              refine gj_iload C dX2_delete_132 rfl ?_
              refine gj_aload_n C dX2_delete_134 rfl ?_
              refine gj_iload C dX2_delete_135 rfl ?_
              refine gj_iload_n C dX2_delete_137 rfl ?_
              refine gj_iload C dX2_delete_138 rfl ?_
              refine gj_iload C dX2_delete_140 rfl ?_
              refine gj_cV (As := [.int (nI i), .int (bI cs), .int (if ((rF cs e0.1) - num) < at0 then at0 else ((rF cs e0.1) - num)), .int (rL cs e0.1)]) (rest := [.int (nI (cbE (chX sh cs at0 num) en i))]) (nc := 0) (ns := 0) C hV (k_putLines l D cI cN cZ cJ f x nx _ n ml i e0 cs (if ((rF cs e0.1) - num) < at0 then at0 else ((rF cs e0.1) - num)) (rL cs e0.1) hR hj (mapI_at.trans hei) (vr_le (hval i e0 hei) cs)) dX2_delete_142 rfl w_287 rfl w_284 w_1 w_286 ws_11 hd_X2_putLines rfl hW.1.1 rfl ⟨Nat.le_of_ble_eq_true rfl, Nat.le_of_ble_eq_true rfl⟩ (Nat.le_of_ble_eq_true rfl) (by decide) (by decide) (fun v u hp => ?_)
              obtain ⟨hv, hR2⟩ := hp
              refine gj_rt (f := u) (st' := [.int (bI (decide (¬ ((if ((rF cs e0.1) - num) < at0 then at0 else ((rF cs e0.1) - num)) = rF cs e0.1 ∧ (rL cs e0.1) = rL cs e0.1)))), .int (nI (cbE (chX sh cs at0 num) en i))]) hv rfl rfl ?_
              refine gj_iadd C dX2_delete_145 ?_
              refine gj_istore (lw' := [some (.ref x), some (.int sh), some (.int (bI cs)), some (.int at0), some (.int num), some (.int ((nI (cbE (chX sh cs at0 num) en i)) + (bI (decide (¬ ((if ((rF cs e0.1) - num) < at0 then at0 else ((rF cs e0.1) - num)) = rF cs e0.1 ∧ (rL cs e0.1) = rL cs e0.1)))))), some (.int (nI i)), some (.ref z), some (.int (rF cs e0.1)), some (.int (rL cs e0.1)), some (.int (if ((rF cs e0.1) - num) < at0 then at0 else ((rF cs e0.1) - num))), some (.int (rL cs e0.1))]) C dX2_delete_146 (by decide) rfl rfl ?_
              refine gj_iinc (v := (nI (i + 1))) (lw' := [some (.ref x), some (.int sh), some (.int (bI cs)), some (.int at0), some (.int num), some (.int ((nI (cbE (chX sh cs at0 num) en i)) + (bI (decide (¬ ((if ((rF cs e0.1) - num) < at0 then at0 else ((rF cs e0.1) - num)) = rF cs e0.1 ∧ (rL cs e0.1) = rL cs e0.1)))))), some (.int (nI (i + 1))), some (.ref z), some (.int (rF cs e0.1)), some (.int (rL cs e0.1)), some (.int (if ((rF cs e0.1) - num) < at0 then at0 else ((rF cs e0.1) - num))), some (.int (rL cs e0.1))]) C dX2_delete_148 rfl (nI_1 i) (by decide) rfl rfl ?_
              refine gj_goto (tgt := 27) C dX2_delete_151 (by decide) ?_
              refine gj_un 7 (lw' := [some (.ref x), some (.int sh), some (.int (bI cs)), some (.int at0), some (.int num), some (.int ((nI (cbE (chX sh cs at0 num) en i)) + (bI (decide (¬ ((if ((rF cs e0.1) - num) < at0 then at0 else ((rF cs e0.1) - num)) = rF cs e0.1 ∧ (rL cs e0.1) = rL cs e0.1)))))), some (.int (nI (i + 1))), none, some (.int (rF cs e0.1)), some (.int (rL cs e0.1)), some (.int (if ((rF cs e0.1) - num) < at0 then at0 else ((rF cs e0.1) - num))), some (.int (rL cs e0.1))]) rfl ?_
              refine gj_un 8 (lw' := [some (.ref x), some (.int sh), some (.int (bI cs)), some (.int at0), some (.int num), some (.int ((nI (cbE (chX sh cs at0 num) en i)) + (bI (decide (¬ ((if ((rF cs e0.1) - num) < at0 then at0 else ((rF cs e0.1) - num)) = rF cs e0.1 ∧ (rL cs e0.1) = rL cs e0.1)))))), some (.int (nI (i + 1))), none, none, some (.int (rL cs e0.1)), some (.int (if ((rF cs e0.1) - num) < at0 then at0 else ((rF cs e0.1) - num))), some (.int (rL cs e0.1))]) rfl ?_
              refine gj_un 9 (lw' := [some (.ref x), some (.int sh), some (.int (bI cs)), some (.int at0), some (.int num), some (.int ((nI (cbE (chX sh cs at0 num) en i)) + (bI (decide (¬ ((if ((rF cs e0.1) - num) < at0 then at0 else ((rF cs e0.1) - num)) = rF cs e0.1 ∧ (rL cs e0.1) = rL cs e0.1)))))), some (.int (nI (i + 1))), none, none, none, some (.int (if ((rF cs e0.1) - num) < at0 then at0 else ((rF cs e0.1) - num))), some (.int (rL cs e0.1))]) rfl ?_
              refine gj_un 10 (lw' := [some (.ref x), some (.int sh), some (.int (bI cs)), some (.int at0), some (.int num), some (.int ((nI (cbE (chX sh cs at0 num) en i)) + (bI (decide (¬ ((if ((rF cs e0.1) - num) < at0 then at0 else ((rF cs e0.1) - num)) = rF cs e0.1 ∧ (rL cs e0.1) = rL cs e0.1)))))), some (.int (nI (i + 1))), none, none, none, none, some (.int (rL cs e0.1))]) rfl ?_
              refine gj_un 11 (lw' := [some (.ref x), some (.int sh), some (.int (bI cs)), some (.int at0), some (.int num), some (.int ((nI (cbE (chX sh cs at0 num) en i)) + (bI (decide (¬ ((if ((rF cs e0.1) - num) < at0 then at0 else ((rF cs e0.1) - num)) = rF cs e0.1 ∧ (rL cs e0.1) = rL cs e0.1)))))), some (.int (nI (i + 1))), none, none, none, none, none]) rfl ?_
              have h9 := ih (i + 1) u (by omega) (by rw [mapI_s hei, phX_y (bI_p1 c2), delA_t c5, delB_f c6]; exact hR2)
              rw [cb_step hei, chX_y (bI_p1 c2), delA_t c5, delB_f c6] at h9
              exact h9
          · refine gj_iload C dX2_delete_92 rfl ?_
            refine gj_goto (tgt := 106) C dX2_delete_94 (by decide) ?_
            refine gj_istore (lw' := [some (.ref x), some (.int sh), some (.int (bI cs)), some (.int at0), some (.int num), some (.int (nI (cbE (chX sh cs at0 num) en i))), some (.int (nI i)), some (.ref z), some (.int (rF cs e0.1)), some (.int (rL cs e0.1)), some (.int (rF cs e0.1)), none]) C dX2_delete_106 (by decide) rfl rfl ?_
            refine gj_iload C dX2_delete_108 rfl ?_
            refine gj_iload_n C dX2_delete_110 rfl ?_
            refine gj_icmp_ge (tgt := 119) C dX2_delete_111 (by decide) (fun c7 => ?_) (fun c7 => ?_)
            · refine gj_iload C dX2_delete_119 rfl ?_
              refine gj_iload C dX2_delete_121 rfl ?_
              refine gj_isub C dX2_delete_123 ?_
              refine gj_iload_n C dX2_delete_124 rfl ?_
              refine gj_iconst (v := 1) C dX2_delete_125 (by decide) ?_
              refine gj_isub C dX2_delete_126 ?_
              refine gj_mmax C dX2_delete_127 w_299 w_300 w_9 w_301 (Nat.le_of_ble_eq_true rfl) (Nat.le_of_ble_eq_true rfl) ?_
              refine gj_istore (lw' := [some (.ref x), some (.int sh), some (.int (bI cs)), some (.int at0), some (.int num), some (.int (nI (cbE (chX sh cs at0 num) en i))), some (.int (nI i)), some (.ref z), some (.int (rF cs e0.1)), some (.int (rL cs e0.1)), some (.int (rF cs e0.1)), some (.int (if ((rL cs e0.1) - num) < (at0 - 1) then (at0 - 1) else ((rL cs e0.1) - num)))]) C dX2_delete_130 (by decide) rfl rfl ?_
              refine gj_iload C dX2_delete_132 rfl ?_
              refine gj_aload_n C dX2_delete_134 rfl ?_
              refine gj_iload C dX2_delete_135 rfl ?_
              refine gj_iload_n C dX2_delete_137 rfl ?_
              refine gj_iload C dX2_delete_138 rfl ?_
              refine gj_iload C dX2_delete_140 rfl ?_
              refine gj_cV (As := [.int (nI i), .int (bI cs), .int (rF cs e0.1), .int (if ((rL cs e0.1) - num) < (at0 - 1) then (at0 - 1) else ((rL cs e0.1) - num))]) (rest := [.int (nI (cbE (chX sh cs at0 num) en i))]) (nc := 0) (ns := 0) C hV (k_putLines l D cI cN cZ cJ f x nx _ n ml i e0 cs (rF cs e0.1) (if ((rL cs e0.1) - num) < (at0 - 1) then (at0 - 1) else ((rL cs e0.1) - num)) hR hj (mapI_at.trans hei) (vr_le (hval i e0 hei) cs)) dX2_delete_142 rfl w_287 rfl w_284 w_1 w_286 ws_11 hd_X2_putLines rfl hW.1.1 rfl ⟨Nat.le_of_ble_eq_true rfl, Nat.le_of_ble_eq_true rfl⟩ (Nat.le_of_ble_eq_true rfl) (by decide) (by decide) (fun v u hp => ?_)
              obtain ⟨hv, hR2⟩ := hp
              refine gj_rt (f := u) (st' := [.int (bI (decide (¬ ((rF cs e0.1) = rF cs e0.1 ∧ (if ((rL cs e0.1) - num) < (at0 - 1) then (at0 - 1) else ((rL cs e0.1) - num)) = rL cs e0.1)))), .int (nI (cbE (chX sh cs at0 num) en i))]) hv rfl rfl ?_
              refine gj_iadd C dX2_delete_145 ?_
              refine gj_istore (lw' := [some (.ref x), some (.int sh), some (.int (bI cs)), some (.int at0), some (.int num), some (.int ((nI (cbE (chX sh cs at0 num) en i)) + (bI (decide (¬ ((rF cs e0.1) = rF cs e0.1 ∧ (if ((rL cs e0.1) - num) < (at0 - 1) then (at0 - 1) else ((rL cs e0.1) - num)) = rL cs e0.1)))))), some (.int (nI i)), some (.ref z), some (.int (rF cs e0.1)), some (.int (rL cs e0.1)), some (.int (rF cs e0.1)), some (.int (if ((rL cs e0.1) - num) < (at0 - 1) then (at0 - 1) else ((rL cs e0.1) - num)))]) C dX2_delete_146 (by decide) rfl rfl ?_
              refine gj_iinc (v := (nI (i + 1))) (lw' := [some (.ref x), some (.int sh), some (.int (bI cs)), some (.int at0), some (.int num), some (.int ((nI (cbE (chX sh cs at0 num) en i)) + (bI (decide (¬ ((rF cs e0.1) = rF cs e0.1 ∧ (if ((rL cs e0.1) - num) < (at0 - 1) then (at0 - 1) else ((rL cs e0.1) - num)) = rL cs e0.1)))))), some (.int (nI (i + 1))), some (.ref z), some (.int (rF cs e0.1)), some (.int (rL cs e0.1)), some (.int (rF cs e0.1)), some (.int (if ((rL cs e0.1) - num) < (at0 - 1) then (at0 - 1) else ((rL cs e0.1) - num)))]) C dX2_delete_148 rfl (nI_1 i) (by decide) rfl rfl ?_
              refine gj_goto (tgt := 27) C dX2_delete_151 (by decide) ?_
              refine gj_un 7 (lw' := [some (.ref x), some (.int sh), some (.int (bI cs)), some (.int at0), some (.int num), some (.int ((nI (cbE (chX sh cs at0 num) en i)) + (bI (decide (¬ ((rF cs e0.1) = rF cs e0.1 ∧ (if ((rL cs e0.1) - num) < (at0 - 1) then (at0 - 1) else ((rL cs e0.1) - num)) = rL cs e0.1)))))), some (.int (nI (i + 1))), none, some (.int (rF cs e0.1)), some (.int (rL cs e0.1)), some (.int (rF cs e0.1)), some (.int (if ((rL cs e0.1) - num) < (at0 - 1) then (at0 - 1) else ((rL cs e0.1) - num)))]) rfl ?_
              refine gj_un 8 (lw' := [some (.ref x), some (.int sh), some (.int (bI cs)), some (.int at0), some (.int num), some (.int ((nI (cbE (chX sh cs at0 num) en i)) + (bI (decide (¬ ((rF cs e0.1) = rF cs e0.1 ∧ (if ((rL cs e0.1) - num) < (at0 - 1) then (at0 - 1) else ((rL cs e0.1) - num)) = rL cs e0.1)))))), some (.int (nI (i + 1))), none, none, some (.int (rL cs e0.1)), some (.int (rF cs e0.1)), some (.int (if ((rL cs e0.1) - num) < (at0 - 1) then (at0 - 1) else ((rL cs e0.1) - num)))]) rfl ?_
              refine gj_un 9 (lw' := [some (.ref x), some (.int sh), some (.int (bI cs)), some (.int at0), some (.int num), some (.int ((nI (cbE (chX sh cs at0 num) en i)) + (bI (decide (¬ ((rF cs e0.1) = rF cs e0.1 ∧ (if ((rL cs e0.1) - num) < (at0 - 1) then (at0 - 1) else ((rL cs e0.1) - num)) = rL cs e0.1)))))), some (.int (nI (i + 1))), none, none, none, some (.int (rF cs e0.1)), some (.int (if ((rL cs e0.1) - num) < (at0 - 1) then (at0 - 1) else ((rL cs e0.1) - num)))]) rfl ?_
              refine gj_un 10 (lw' := [some (.ref x), some (.int sh), some (.int (bI cs)), some (.int at0), some (.int num), some (.int ((nI (cbE (chX sh cs at0 num) en i)) + (bI (decide (¬ ((rF cs e0.1) = rF cs e0.1 ∧ (if ((rL cs e0.1) - num) < (at0 - 1) then (at0 - 1) else ((rL cs e0.1) - num)) = rL cs e0.1)))))), some (.int (nI (i + 1))), none, none, none, none, some (.int (if ((rL cs e0.1) - num) < (at0 - 1) then (at0 - 1) else ((rL cs e0.1) - num)))]) rfl ?_
              refine gj_un 11 (lw' := [some (.ref x), some (.int sh), some (.int (bI cs)), some (.int at0), some (.int num), some (.int ((nI (cbE (chX sh cs at0 num) en i)) + (bI (decide (¬ ((rF cs e0.1) = rF cs e0.1 ∧ (if ((rL cs e0.1) - num) < (at0 - 1) then (at0 - 1) else ((rL cs e0.1) - num)) = rL cs e0.1)))))), some (.int (nI (i + 1))), none, none, none, none, none]) rfl ?_
              have h9 := ih (i + 1) u (by omega) (by rw [mapI_s hei, phX_y (bI_p1 c2), delA_f c5, delB_t c7]; exact hR2)
              rw [cb_step hei, chX_y (bI_p1 c2), delA_f c5, delB_t c7] at h9
              exact h9
            · refine gj_iload C dX2_delete_114 rfl ?_
              refine gj_goto (tgt := 130) C dX2_delete_116 (by decide) ?_
              refine gj_istore (lw' := [some (.ref x), some (.int sh), some (.int (bI cs)), some (.int at0), some (.int num), some (.int (nI (cbE (chX sh cs at0 num) en i))), some (.int (nI i)), some (.ref z), some (.int (rF cs e0.1)), some (.int (rL cs e0.1)), some (.int (rF cs e0.1)), some (.int (rL cs e0.1))]) C dX2_delete_130 (by decide) rfl rfl ?_
              refine gj_iload C dX2_delete_132 rfl ?_
              refine gj_aload_n C dX2_delete_134 rfl ?_
              refine gj_iload C dX2_delete_135 rfl ?_
              refine gj_iload_n C dX2_delete_137 rfl ?_
              refine gj_iload C dX2_delete_138 rfl ?_
              refine gj_iload C dX2_delete_140 rfl ?_
              refine gj_cV (As := [.int (nI i), .int (bI cs), .int (rF cs e0.1), .int (rL cs e0.1)]) (rest := [.int (nI (cbE (chX sh cs at0 num) en i))]) (nc := 0) (ns := 0) C hV (k_putLines l D cI cN cZ cJ f x nx _ n ml i e0 cs (rF cs e0.1) (rL cs e0.1) hR hj (mapI_at.trans hei) (vr_le (hval i e0 hei) cs)) dX2_delete_142 rfl w_287 rfl w_284 w_1 w_286 ws_11 hd_X2_putLines rfl hW.1.1 rfl ⟨Nat.le_of_ble_eq_true rfl, Nat.le_of_ble_eq_true rfl⟩ (Nat.le_of_ble_eq_true rfl) (by decide) (by decide) (fun v u hp => ?_)
              obtain ⟨hv, hR2⟩ := hp
              refine gj_rt (f := u) (st' := [.int (bI (decide (¬ ((rF cs e0.1) = rF cs e0.1 ∧ (rL cs e0.1) = rL cs e0.1)))), .int (nI (cbE (chX sh cs at0 num) en i))]) hv rfl rfl ?_
              refine gj_iadd C dX2_delete_145 ?_
              refine gj_istore (lw' := [some (.ref x), some (.int sh), some (.int (bI cs)), some (.int at0), some (.int num), some (.int ((nI (cbE (chX sh cs at0 num) en i)) + (bI (decide (¬ ((rF cs e0.1) = rF cs e0.1 ∧ (rL cs e0.1) = rL cs e0.1)))))), some (.int (nI i)), some (.ref z), some (.int (rF cs e0.1)), some (.int (rL cs e0.1)), some (.int (rF cs e0.1)), some (.int (rL cs e0.1))]) C dX2_delete_146 (by decide) rfl rfl ?_
              refine gj_iinc (v := (nI (i + 1))) (lw' := [some (.ref x), some (.int sh), some (.int (bI cs)), some (.int at0), some (.int num), some (.int ((nI (cbE (chX sh cs at0 num) en i)) + (bI (decide (¬ ((rF cs e0.1) = rF cs e0.1 ∧ (rL cs e0.1) = rL cs e0.1)))))), some (.int (nI (i + 1))), some (.ref z), some (.int (rF cs e0.1)), some (.int (rL cs e0.1)), some (.int (rF cs e0.1)), some (.int (rL cs e0.1))]) C dX2_delete_148 rfl (nI_1 i) (by decide) rfl rfl ?_
              refine gj_goto (tgt := 27) C dX2_delete_151 (by decide) ?_
              refine gj_un 7 (lw' := [some (.ref x), some (.int sh), some (.int (bI cs)), some (.int at0), some (.int num), some (.int ((nI (cbE (chX sh cs at0 num) en i)) + (bI (decide (¬ ((rF cs e0.1) = rF cs e0.1 ∧ (rL cs e0.1) = rL cs e0.1)))))), some (.int (nI (i + 1))), none, some (.int (rF cs e0.1)), some (.int (rL cs e0.1)), some (.int (rF cs e0.1)), some (.int (rL cs e0.1))]) rfl ?_
              refine gj_un 8 (lw' := [some (.ref x), some (.int sh), some (.int (bI cs)), some (.int at0), some (.int num), some (.int ((nI (cbE (chX sh cs at0 num) en i)) + (bI (decide (¬ ((rF cs e0.1) = rF cs e0.1 ∧ (rL cs e0.1) = rL cs e0.1)))))), some (.int (nI (i + 1))), none, none, some (.int (rL cs e0.1)), some (.int (rF cs e0.1)), some (.int (rL cs e0.1))]) rfl ?_
              refine gj_un 9 (lw' := [some (.ref x), some (.int sh), some (.int (bI cs)), some (.int at0), some (.int num), some (.int ((nI (cbE (chX sh cs at0 num) en i)) + (bI (decide (¬ ((rF cs e0.1) = rF cs e0.1 ∧ (rL cs e0.1) = rL cs e0.1)))))), some (.int (nI (i + 1))), none, none, none, some (.int (rF cs e0.1)), some (.int (rL cs e0.1))]) rfl ?_
              refine gj_un 10 (lw' := [some (.ref x), some (.int sh), some (.int (bI cs)), some (.int at0), some (.int num), some (.int ((nI (cbE (chX sh cs at0 num) en i)) + (bI (decide (¬ ((rF cs e0.1) = rF cs e0.1 ∧ (rL cs e0.1) = rL cs e0.1)))))), some (.int (nI (i + 1))), none, none, none, none, some (.int (rL cs e0.1))]) rfl ?_
              refine gj_un 11 (lw' := [some (.ref x), some (.int sh), some (.int (bI cs)), some (.int at0), some (.int num), some (.int ((nI (cbE (chX sh cs at0 num) en i)) + (bI (decide (¬ ((rF cs e0.1) = rF cs e0.1 ∧ (rL cs e0.1) = rL cs e0.1)))))), some (.int (nI (i + 1))), none, none, none, none, none]) rfl ?_
              have h9 := ih (i + 1) u (by omega) (by rw [mapI_s hei, phX_y (bI_p1 c2), delA_f c5, delB_f c7]; exact hR2)
              rw [cb_step hei, chX_y (bI_p1 c2), delA_f c5, delB_f c7] at h9
              exact h9
  refine gj_iload_n C dX2_delete_0 rfl ?_
  refine gj_iload_n C dX2_delete_1 rfl ?_
  refine gj_iload_n C dX2_delete_2 rfl ?_
  refine gj_iload C dX2_delete_3 rfl ?_
  refine gj_cS (As := [.int sh, .int (bI cs), .int at0, .int num]) (rest := []) (nc := 1) (ns := 6) C hV (k_areLines l D (tyl cI cN cZ cJ) f sh cs at0 num) dX2_delete_5 rfl w_267 rfl w_265 w_1 w_266 hd_X2_areLines rfl ⟨Nat.le_of_ble_eq_true rfl, Nat.le_of_ble_eq_true rfl⟩ (Nat.le_of_ble_eq_true rfl) (by decide) (by decide) (fun v u hp8 => ?_)
  refine gj_rt (st' := [.int (bI (decide (vn sh cs at0 num)))]) hp8.1 hp8.2 rfl ?_
  refine gj_if_ne (tgt := 21) C dX2_delete_8 (by decide) (fun c9 => ?_) (fun c9 => ?_)
  · refine gj_iconst (v := 0) C dX2_delete_21 (by decide) ?_
    refine gj_istore (lw' := [some (.ref x), some (.int sh), some (.int (bI cs)), some (.int at0), some (.int num), some (.int 0), none, none, none, none, none, none]) C dX2_delete_22 (by decide) rfl rfl ?_
    refine gj_iconst (v := 0) C dX2_delete_24 (by decide) ?_
    refine gj_istore (lw' := [some (.ref x), some (.int sh), some (.int (bI cs)), some (.int at0), some (.int num), some (.int 0), some (.int 0), none, none, none, none, none]) C dX2_delete_25 (by decide) rfl rfl ?_
    refine gj_nc (Nat.zero_le _) (Nat.zero_le _) ?_
    exact loop (bI_p1 c9) n 0 f (by omega) (by rw [mapI_0]; exact hR)
  · exact gj_throwS C hV hV2 hZ hl hT hlk dX2_delete_11 dX2_delete_14 dX2_delete_15 dX2_delete_17 dX2_delete_20 xfit_IA w_119 w_7 (List.mem_of_getElem? (i := 4) rfl) xat1_IA xat2_IA xgd_IA (Nat.le_of_ble_eq_true rfl) (Nat.le_of_ble_eq_true rfl) (Nat.le_of_ble_eq_true rfl) (Nat.le_of_ble_eq_true rfl) (⟨bI_p0 c9, rfl, hR⟩)
set_option maxRecDepth 100000 in
set_option maxHeartbeats 4000000 in
theorem k_move (l : Launch) (hl : l.stackTraces = false) (D : va_G) (cI cN cZ cJ : ClassId) (f : gm) (x : Nat) (nx : Option Rc) (en : Nat → Option En) (n : Nat) (ml : List Nat) (sh rw co : Int32) (hR : Rp cI cN f x nx en n ml) : gkx l yX2_move (.code yX2_move cX2_move 5 (Option.some Jvm.ClassFile.FieldType.int)) (rmk 5 2 11) D (tyl cI cN cZ cJ) [.ref x, .int sh, .int rw, .int co] f (fun v u => ∃ r9, nx = some r9 ∧ vc sh rw co ∧ vc sh (rM sh (rw - r9.2.1) (co - r9.2.2.1) r9).2.2.2.1 (rM sh (rw - r9.2.1) (co - r9.2.2.1) r9).2.2.2.2 ∧ v = some (.int (nI (cbE (chM r9 (rM sh (rw - r9.2.1) (co - r9.2.2.1) r9)) en 4096))) ∧ Rp cI cN u x nx (mapE (phM r9 (rM sh (rw - r9.2.1) (co - r9.2.2.1) r9)) en) n ml) (fun E u => ((¬ vc sh rw co ∧ E = xIA) ∨ (vc sh rw co ∧ nx = none ∧ E = xIS) ∨ (vc sh rw co ∧ (∃ r9, nx = some r9 ∧ ¬ vc sh (rM sh (rw - r9.2.1) (co - r9.2.2.1) r9).2.2.2.1 (rM sh (rw - r9.2.1) (co - r9.2.2.1) r9).2.2.2.2) ∧ E = xIA)) ∧ Rp cI cN u x nx en n ml) := by
  refine gkx_of [some (.ref x), some (.int sh), some (.int rw), some (.int co), none] (by decide) rfl (Nat.le_of_ble_eq_true rfl) rfl ?_
  intro p e s m args below meth c A C hV hr hlk hnm hV2 hZ hT
  obtain ⟨q, hE, hM, k, g, mf, ar, hW⟩ := hR
  have hn : n ≤ 1024 := hW.2.2.2.1.2.1
  have hk : k ≤ 1024 := hW.2.2.2.1.2.2.1
  have hd := hW.2.2.2.1.1
  cases nx with
  | none =>
    have hq : q = none := hW.2.1.1
    subst hq
    refine gj_iload_n C dX2_move_0 rfl ?_
    refine gj_iload_n C dX2_move_1 rfl ?_
    refine gj_iload_n C dX2_move_2 rfl ?_
    refine gj_cS (As := [.int sh, .int rw, .int co]) (rest := []) (nc := 2) (ns := 11) C hV (k_isCell l D (tyl cI cN cZ cJ) f sh rw co) dX2_move_3 rfl w_44 rfl w_42 w_1 w_43 hd_X2_isCell rfl ⟨Nat.le_of_ble_eq_true rfl, Nat.le_of_ble_eq_true rfl⟩ (Nat.le_of_ble_eq_true rfl) (by decide) (by decide) (fun v u hp1 => ?_)
    refine gj_rt (st' := [.int (bI (decide (vc sh rw co)))]) hp1.1 hp1.2 rfl ?_
    refine gj_if_ne (tgt := 19) C dX2_move_6 (by decide) (fun c2 => ?_) (fun c2 => ?_)
    · refine gj_aload_n C dX2_move_19 rfl ?_
      refine gj_get C dX2_move_20 hW.1.1 rfl inX2 0 (by decide) w_21 rfl ?_
      refine gj_ifnonnullN C dX2_move_23 ?_
      exact gj_throwS C hV hV2 hZ hl hT hlk dX2_move_26 dX2_move_29 dX2_move_30 dX2_move_32 dX2_move_35 xfit_IS w_188 w_8 (List.mem_of_getElem? (i := 0) rfl) xat1_IS xat2_IS xgd_IS (Nat.le_of_ble_eq_true rfl) (Nat.le_of_ble_eq_true rfl) (Nat.le_of_ble_eq_true rfl) (Nat.le_of_ble_eq_true rfl) (⟨Or.inr (Or.inl ⟨bI_p1 c2, rfl, rfl⟩), ⟨_, hE, hM, k, g, mf, ar, hW⟩⟩)
    · exact gj_throwS C hV hV2 hZ hl hT hlk dX2_move_9 dX2_move_12 dX2_move_13 dX2_move_15 dX2_move_18 xfit_IA w_119 w_7 (List.mem_of_getElem? (i := 5) rfl) xat1_IA xat2_IA xgd_IA (Nat.le_of_ble_eq_true rfl) (Nat.le_of_ble_eq_true rfl) (Nat.le_of_ble_eq_true rfl) (Nat.le_of_ble_eq_true rfl) (⟨Or.inl ⟨bI_p0 c2, rfl⟩, ⟨_, hE, hM, k, g, mf, ar, hW⟩⟩)
  | some r =>
    obtain ⟨a, hq, ha⟩ := hW.2.1.1
    subst hq
    have hbn : ∀ b, f b = none → ∀ i, i < n → en i ≠ none → ar i ≠ b := by
      intro b hb i hi he h
      cases hei : en i with
      | none => exact he hei
      | some e0 =>
        obtain ⟨z, z1, z2, z3⟩ := rpw_at hW hi hei
        rw [h, hb] at z3
        cases z3
    refine gj_iload_n C dX2_move_0 rfl ?_
    refine gj_iload_n C dX2_move_1 rfl ?_
    refine gj_iload_n C dX2_move_2 rfl ?_
    refine gj_cS (As := [.int sh, .int rw, .int co]) (rest := []) (nc := 2) (ns := 11) C hV (k_isCell l D (tyl cI cN cZ cJ) f sh rw co) dX2_move_3 rfl w_44 rfl w_42 w_1 w_43 hd_X2_isCell rfl ⟨Nat.le_of_ble_eq_true rfl, Nat.le_of_ble_eq_true rfl⟩ (Nat.le_of_ble_eq_true rfl) (by decide) (by decide) (fun v u hp3 => ?_)
    refine gj_rt (st' := [.int (bI (decide (vc sh rw co)))]) hp3.1 hp3.2 rfl ?_
    refine gj_if_ne (tgt := 19) C dX2_move_6 (by decide) (fun c4 => ?_) (fun c4 => ?_)
    · refine gj_aload_n C dX2_move_19 rfl ?_
      refine gj_get C dX2_move_20 hW.1.1 rfl inX2 0 (by decide) w_21 rfl ?_
      refine gj_ifnonnull (tgt := 36) C dX2_move_23 (by decide) ?_
      refine gj_aload_n C dX2_move_36 rfl ?_
      refine gj_get C dX2_move_37 hW.1.1 rfl inX2 0 (by decide) w_21 rfl ?_
      refine gj_cVN (As := []) (rest := []) (nc := 1) (ns := 6) C hV (k_Area_copy l D (tyl cI cN cZ cJ) f a r ha) dX2_move_40 rfl w_219 rfl nw_6 w_3 w_218 ws_5 hd_X0_copy rfl ha rfl ⟨Nat.le_of_ble_eq_true rfl, Nat.le_of_ble_eq_true rfl⟩ (Nat.le_of_ble_eq_true rfl) (by decide) (by decide) (fun v u hp => ?_)
      obtain ⟨b, hv, hb, hu⟩ := hp
      refine gj_rt (st' := [.ref b]) hv hu rfl ?_
      refine gj_astore (lw' := [some (.ref x), some (.int sh), some (.int rw), some (.int co), some (.ref b)]) C dX2_move_43 (by decide) rfl rfl ?_
      refine gj_aload C dX2_move_45 rfl ?_
      refine gj_iload_n C dX2_move_47 rfl ?_
      refine gj_iload_n C dX2_move_48 rfl ?_
      refine gj_aload_n C dX2_move_49 rfl ?_
      refine gj_get C dX2_move_50 (gm_up_of hW.1.1 hb) rfl inX2 0 (by decide) w_21 rfl ?_
      refine gj_getN C dX2_move_53 (gm_up_of ha hb) rfl inX0 1 (by decide) (hV.2.1 _ nw_2) rfl ?_
      refine gj_isub C dX2_move_56 ?_
      refine gj_iload_n C dX2_move_57 rfl ?_
      refine gj_aload_n C dX2_move_58 rfl ?_
      refine gj_get C dX2_move_59 (gm_up_of hW.1.1 hb) rfl inX2 0 (by decide) w_21 rfl ?_
      refine gj_getN C dX2_move_62 (gm_up_of ha hb) rfl inX0 2 (by decide) (hV.2.1 _ nw_3) rfl ?_
      refine gj_isub C dX2_move_65 ?_
      refine gj_cVN (As := [.int sh, .int (rw - r.2.1), .int (co - r.2.2.1)]) (rest := []) (nc := 1) (ns := 6) C hV (k_Area_shift l D (tyl cI cN cZ cJ) (gm_up f b (cAr r)) b r sh (rw - r.2.1) (co - r.2.2.1) gm_up_self) dX2_move_66 rfl w_313 rfl nw_16 w_3 w_312 ws_13 hd_X0_shift rfl gm_up_self rfl ⟨Nat.le_of_ble_eq_true rfl, Nat.le_of_ble_eq_true rfl⟩ (Nat.le_of_ble_eq_true rfl) (by decide) (by decide) (fun v u hp5 => ?_)
      refine gj_rt (f := (gm_up f b (cAr (rM sh (rw - r.2.1) (co - r.2.2.1) r)))) (st' := []) hp5.1 (hp5.2.trans gm_up_up) rfl ?_
      refine gj_iload_n C dX2_move_69 rfl ?_
      refine gj_aload C dX2_move_70 rfl ?_
      refine gj_getN C dX2_move_72 gm_up_self rfl inX0 3 (by decide) (hV.2.1 _ nw_4) rfl ?_
      refine gj_aload C dX2_move_75 rfl ?_
      refine gj_getN C dX2_move_77 gm_up_self rfl inX0 4 (by decide) (hV.2.1 _ nw_5) rfl ?_
      refine gj_cS (As := [.int sh, .int (rM sh (rw - r.2.1) (co - r.2.2.1) r).2.2.2.1, .int (rM sh (rw - r.2.1) (co - r.2.2.1) r).2.2.2.2]) (rest := []) (nc := 1) (ns := 6) C hV (k_isCell l D (tyl cI cN cZ cJ) (gm_up f b (cAr (rM sh (rw - r.2.1) (co - r.2.2.1) r))) sh (rM sh (rw - r.2.1) (co - r.2.2.1) r).2.2.2.1 (rM sh (rw - r.2.1) (co - r.2.2.1) r).2.2.2.2) dX2_move_80 rfl w_44 rfl w_42 w_1 w_43 hd_X2_isCell rfl ⟨Nat.le_of_ble_eq_true rfl, Nat.le_of_ble_eq_true rfl⟩ (Nat.le_of_ble_eq_true rfl) (by decide) (by decide) (fun v u hp6 => ?_)
      refine gj_rt (st' := [.int (bI (decide (vc sh (rM sh (rw - r.2.1) (co - r.2.2.1) r).2.2.2.1 (rM sh (rw - r.2.1) (co - r.2.2.1) r).2.2.2.2)))]) hp6.1 hp6.2 rfl ?_
      refine gj_if_ne (tgt := 96) C dX2_move_83 (by decide) (fun c7 => ?_) (fun c7 => ?_)
      · refine gj_aload_n C dX2_move_96 rfl ?_
        refine gj_aload_n C dX2_move_97 rfl ?_
        refine gj_get C dX2_move_98 (gm_up_of hW.1.1 hb) rfl inX2 0 (by decide) w_21 rfl ?_
        refine gj_aload C dX2_move_101 rfl ?_
        refine gj_cV (As := [.ref a, .ref b]) (rest := []) (nc := 1) (ns := 6) C hV (k_carry l D cI cN cZ cJ (gm_up f b (cAr (rM sh (rw - r.2.1) (co - r.2.2.1) r))) x (some r) en n ml hE hM k g mf ar a b r (rM sh (rw - r.2.1) (co - r.2.2.1) r) (rpw_ext hW hb _) (gm_up_of ha hb) gm_up_self (hbn b hb) sameM_eq) dX2_move_103 rfl w_318 rfl w_315 w_1 w_317 ws_14 hd_X2_carry rfl (gm_up_of hW.1.1 hb) rfl ⟨Nat.le_of_ble_eq_true rfl, Nat.le_of_ble_eq_true rfl⟩ (Nat.le_of_ble_eq_true rfl) (by decide) (by decide) (fun v u hp => ?_)
        obtain ⟨hv, hR2⟩ := hp
        refine gj_rt (f := u) (st' := [.int (nI (cbE (chM r (rM sh (rw - r.2.1) (co - r.2.2.1) r)) en 4096))]) hv rfl rfl ?_
        exact gj_vx (gj_iret C hr hlk dX2_move_106 (⟨r, rfl, bI_p1 c4, bI_p1 c7, rfl, hR2⟩))
      · exact gj_throwS C hV hV2 hZ hl hT hlk dX2_move_86 dX2_move_89 dX2_move_90 dX2_move_92 dX2_move_95 xfit_IA w_119 w_7 (List.mem_of_getElem? (i := 6) rfl) xat1_IA xat2_IA xgd_IA (Nat.le_of_ble_eq_true rfl) (Nat.le_of_ble_eq_true rfl) (Nat.le_of_ble_eq_true rfl) (Nat.le_of_ble_eq_true rfl) (⟨Or.inr (Or.inr ⟨bI_p1 c4, ⟨r, rfl, bI_p0 c7⟩, rfl⟩), ⟨_, hE, hM, k, g, mf, ar, rpw_ext hW hb _⟩⟩)
    · exact gj_throwS C hV hV2 hZ hl hT hlk dX2_move_9 dX2_move_12 dX2_move_13 dX2_move_15 dX2_move_18 xfit_IA w_119 w_7 (List.mem_of_getElem? (i := 5) rfl) xat1_IA xat2_IA xgd_IA (Nat.le_of_ble_eq_true rfl) (Nat.le_of_ble_eq_true rfl) (Nat.le_of_ble_eq_true rfl) (Nat.le_of_ble_eq_true rfl) (⟨Or.inl ⟨bI_p0 c4, rfl⟩, ⟨_, hE, hM, k, g, mf, ar, hW⟩⟩)
end
section
/-! An object of RangeReadersModel in a map: eight rows of 4096 (there, sheets, tops, lefts, bottoms, rights, owners, met), and its own cell. -/
abbrev cMo (cd : Int32) (ad : Nat → Nat) (ent isR : Int32) (r : Rc) (fd : Int32) : va_E := .inr (3, [.int cd, .ref (ad 0), .ref (ad 1), .ref (ad 2), .ref (ad 3), .ref (ad 4), .ref (ad 5), .ref (ad 6), .int ent, .int isR, .int r.1, .int r.2.1, .int r.2.2.1, .int r.2.2.2.1, .int r.2.2.2.2, .int fd, .ref (ad 7)])
abbrev aZ (cZ : ClassId) (g : Nat → Int32) : va_E := .inl (cZ, 4096, .inl g)
def rma (cI cZ : ClassId) (f : gm) (ad : Nat → Nat) (ga : Nat → Nat → Int32) : Prop := f (ad 0) = some (aZ cZ (ga 0)) ∧ ∀ k, 1 ≤ k → k < 8 → f (ad k) = some (aI cI 4096 (ga k))
def rme (ga : Nat → Nat → Int32) (j : Nat) (e : Option En) : Prop := match e with
  | none => ga 0 j = 0
  | some e => ga 0 j = 1 ∧ ga 1 j = e.1.1 ∧ ga 2 j = e.1.2.1 ∧ ga 3 j = e.1.2.2.1 ∧ ga 4 j = e.1.2.2.2.1 ∧ ga 5 j = e.1.2.2.2.2 ∧ ga 6 j = e.2
def rmn (nx : Option Rc) (isR : Int32) (r5 : Rc) : Prop := match nx with
  | none => isR = 0
  | some r => isR = 1 ∧ r5 = r
def rpm (cI cZ : ClassId) (f : gm) (y : Nat) (cd : Int32) (nx : Option Rc) (en : Nat → Option En) (ml : List Nat) (ad : Nat → Nat) (ga : Nat → Nat → Int32) (isR : Int32) (r5 : Rc) (ent : Int32) : Prop :=
  (f y = some (cMo cd ad ent isR r5 (nI ml.length)) ∧ rma cI cZ f ad ga) ∧ (∀ i j, i < 8 → j < 8 → ad i = ad j → i = j) ∧ rmn nx isR r5 ∧ (∀ j, j < 4096 → rme ga j (en j)) ∧ (∀ j, 4096 ≤ j → en j = none) ∧ ml.length ≤ 4096 ∧ ∀ j, j < ml.length → ga 7 j = nI (ml.getD j 0)
def RpM (cI cZ : ClassId) (f : gm) (y : Nat) (cd : Int32) (nx : Option Rc) (en : Nat → Option En) (ml : List Nat) : Prop :=
  ∃ (ad : Nat → Nat) (ga : Nat → Nat → Int32) (isR : Int32) (r5 : Rc), rpm cI cZ f y cd nx en ml ad ga isR r5 (nI (cn en 4096))
section RPM
variable {cI cZ : ClassId} {f : gm} {y : Nat} {cd : Int32} {nx : Option Rc} {en : Nat → Option En} {ml : List Nat} {ad : Nat → Nat} {ga : Nat → Nat → Int32} {isR : Int32} {r5 : Rc} {ent : Int32}
theorem rma_up (h : rma cI cZ f ad ga) (hi : ∀ i j, i < 8 → j < 8 → ad i = ad j → i = j) {k : Nat} (h1 : 1 ≤ k) (h2 : k < 8) (g : Nat → Int32) : rma cI cZ (gm_up f (ad k) (aI cI 4096 g)) ad (va_up ga k g) := by
  refine ⟨?_, fun i a1 a2 => ?_⟩
  · rw [gm_up_ne (fun e => by have := hi 0 k (by omega) h2 e; omega), va_up_ne _ _ (by omega)]; exact h.1
  · by_cases e : i = k
    · subst e; rw [gm_up_self, va_up_self]
    · rw [gm_up_ne (fun e2 => e (hi i k a2 h2 e2)), va_up_ne _ _ e]; exact h.2 i a1 a2
theorem rma_up0 (h : rma cI cZ f ad ga) (hi : ∀ i j, i < 8 → j < 8 → ad i = ad j → i = j) (g : Nat → Int32) : rma cI cZ (gm_up f (ad 0) (aZ cZ g)) ad (va_up ga 0 g) := by
  refine ⟨?_, fun i a1 a2 => ?_⟩
  · rw [gm_up_self, va_up_self]
  · rw [gm_up_ne (fun e => by have := hi i 0 a2 (by omega) e; omega), va_up_ne _ _ (by omega)]; exact h.2 i a1 a2
theorem rma_y (h : rma cI cZ f ad ga) {fs : List Value} (hy : f y = some (.inr (3, fs))) (x : va_E) : rma cI cZ (gm_up f y x) ad ga := by
  refine ⟨?_, fun i a1 a2 => ?_⟩
  · rw [gm_up_ne (gm_ne h.1 hy (by simp))]; exact h.1
  · rw [gm_up_ne (gm_ne (h.2 i a1 a2) hy (by simp))]; exact h.2 i a1 a2
/-- its own cell is written -/
theorem rpm_y (h : rpm cI cZ f y cd nx en ml ad ga isR r5 ent) (cd' : Int32) {nx' : Option Rc} {ml' : List Nat} {isR' : Int32} {r5' : Rc} (ent' : Int32) (hn : rmn nx' isR' r5') (h1 : ml'.length ≤ 4096) (h2 : ∀ j, j < ml'.length → ga 7 j = nI (ml'.getD j 0)) : rpm cI cZ (gm_up f y (cMo cd' ad ent' isR' r5' (nI ml'.length))) y cd' nx' en ml' ad ga isR' r5' ent' := by
  obtain ⟨⟨a1, a2⟩, b, c, d, e, g1, g2⟩ := h
  exact ⟨⟨gm_up_self, rma_y a2 a1 _⟩, b, hn, d, e, h1, h2⟩
theorem rpm_cd (h : rpm cI cZ f y cd nx en ml ad ga isR r5 ent) (cd' ent' : Int32) : rpm cI cZ (gm_up f y (cMo cd' ad ent' isR r5 (nI ml.length))) y cd' nx en ml ad ga isR r5 ent' := rpm_y h cd' ent' h.2.2.1 h.2.2.2.2.2.1 h.2.2.2.2.2.2
theorem rme_ne {ga' : Nat → Nat → Int32} {j : Nat} {e : Option En} (h : rme ga j e) (hk : ∀ k, k < 7 → ga' k j = ga k j) : rme ga' j e := by
  cases e with
  | none => exact (hk 0 (by omega)).trans h
  | some e =>
    obtain ⟨h0, h1, h2, h3, h4, h5, h6⟩ := h
    exact ⟨(hk 0 (by omega)).trans h0, (hk 1 (by omega)).trans h1, (hk 2 (by omega)).trans h2, (hk 3 (by omega)).trans h3, (hk 4 (by omega)).trans h4, (hk 5 (by omega)).trans h5, (hk 6 (by omega)).trans h6⟩
theorem ga_ne {k j i : Nat} {v : Int32} (h : i ≠ j) (m : Nat) : va_up ga k (upd (ga k) j v) m i = ga m i := by
  by_cases e : m = k
  · subst e; rw [va_up_self, pk_un h]
  · rw [va_up_ne _ _ e]
/-- a row of numbers is written, at an entry that is there -/
def setk (k : Nat) (v : Int32) (e : En) : En := if k = 1 then ((v, e.1.2), e.2) else if k = 2 then ((e.1.1, v, e.1.2.2), e.2) else if k = 3 then ((e.1.1, e.1.2.1, v, e.1.2.2.2), e.2) else if k = 4 then ((e.1.1, e.1.2.1, e.1.2.2.1, v, e.1.2.2.2.2), e.2) else if k = 5 then ((e.1.1, e.1.2.1, e.1.2.2.1, e.1.2.2.2.1, v), e.2) else (e.1, v)
theorem rpm_st (h : rpm cI cZ f y cd nx en ml ad ga isR r5 ent) {j : Nat} (hj : j < 4096) {e : En} (he : en j = some e) (k : Nat) (h1 : 1 ≤ k) (h2 : k < 7) (v : Int32) : rpm cI cZ (gm_up f (ad k) (aI cI 4096 (upd (ga k) j v))) y cd nx (va_up en j (some (setk k v e))) ml ad (va_up ga k (upd (ga k) j v)) isR r5 ent := by
  obtain ⟨⟨a1, a2⟩, b, c, d, e1, g1, g2⟩ := h
  refine ⟨⟨?_, rma_up a2 b h1 (by omega) _⟩, b, c, fun i hi => ?_, fun i hi => ?_, g1, fun i hi => ?_⟩
  · rw [gm_up_ne (gm_ne a1 (a2.2 k h1 (by omega)) (by simp))]; exact a1
  · by_cases hij : i = j
    · subst hij
      rw [va_up_self]
      have hd := d i hi
      rw [he] at hd
      obtain ⟨q0, q1, q2, q3, q4, q5, q6⟩ := hd
      rcases (show k = 1 ∨ k = 2 ∨ k = 3 ∨ k = 4 ∨ k = 5 ∨ k = 6 by omega) with rfl | rfl | rfl | rfl | rfl | rfl <;> exact ⟨by simp [va_up, q0], by simp [va_up, setk, upd, q1], by simp [va_up, setk, upd, q2], by simp [va_up, setk, upd, q3], by simp [va_up, setk, upd, q4], by simp [va_up, setk, upd, q5], by simp [va_up, setk, upd, q6]⟩
    · rw [va_up_ne _ _ hij]
      exact rme_ne (d i hi) (fun m _ => ga_ne hij m)
  · rw [va_up_ne _ _ (by omega)]; exact e1 i hi
  · rw [va_up_ne _ _ (by omega)]; exact g2 i hi
/-- an entry comes or goes -/
theorem rpm_t1 (h : rpm cI cZ f y cd nx en ml ad ga isR r5 ent) {j : Nat} (hj : j < 4096) : rpm cI cZ (gm_up f (ad 0) (aZ cZ (upd (ga 0) j 1))) y cd nx (va_up en j (some ((ga 1 j, ga 2 j, ga 3 j, ga 4 j, ga 5 j), ga 6 j))) ml ad (va_up ga 0 (upd (ga 0) j 1)) isR r5 ent := by
  obtain ⟨⟨a1, a2⟩, b, c, d, e1, g1, g2⟩ := h
  refine ⟨⟨?_, rma_up0 a2 b _⟩, b, c, fun i hi => ?_, fun i hi => ?_, g1, fun i hi => ?_⟩
  · rw [gm_up_ne (gm_ne a1 a2.1 (by simp))]; exact a1
  · by_cases hij : i = j
    · subst hij
      rw [va_up_self]
      exact ⟨by simp [va_up, upd], rfl, rfl, rfl, rfl, rfl, rfl⟩
    · rw [va_up_ne _ _ hij]
      exact rme_ne (d i hi) (fun m _ => ga_ne hij m)
  · rw [va_up_ne _ _ (by omega)]; exact e1 i hi
  · rw [va_up_ne _ _ (by omega)]; exact g2 i hi
theorem rpm_t0 (h : rpm cI cZ f y cd nx en ml ad ga isR r5 ent) {j : Nat} (hj : j < 4096) : rpm cI cZ (gm_up f (ad 0) (aZ cZ (upd (ga 0) j 0))) y cd nx (va_up en j none) ml ad (va_up ga 0 (upd (ga 0) j 0)) isR r5 ent := by
  obtain ⟨⟨a1, a2⟩, b, c, d, e1, g1, g2⟩ := h
  refine ⟨⟨?_, rma_up0 a2 b _⟩, b, c, fun i hi => ?_, fun i hi => ?_, g1, fun i hi => ?_⟩
  · rw [gm_up_ne (gm_ne a1 a2.1 (by simp))]; exact a1
  · by_cases hij : i = j
    · subst hij
      rw [va_up_self]
      show va_up ga 0 (upd (ga 0) i 0) 0 i = 0
      simp [va_up, upd]
    · rw [va_up_ne _ _ hij]
      exact rme_ne (d i hi) (fun m _ => ga_ne hij m)
  · rw [va_up_ne _ _ (by omega)]; exact e1 i hi
  · rw [va_up_ne _ _ (by omega)]; exact g2 i hi
/-- the row of those that were met is written, behind its end -/
theorem rpm_m (h : rpm cI cZ f y cd nx en ml ad ga isR r5 ent) {j : Nat} (hj : ml.length ≤ j) (v : Int32) : rpm cI cZ (gm_up f (ad 7) (aI cI 4096 (upd (ga 7) j v))) y cd nx en ml ad (va_up ga 7 (upd (ga 7) j v)) isR r5 ent := by
  obtain ⟨⟨a1, a2⟩, b, c, d, e1, g1, g2⟩ := h
  refine ⟨⟨?_, rma_up a2 b (by omega) (by omega) _⟩, b, c, fun i hi => rme_ne (d i hi) (fun m hm => by rw [va_up_ne _ _ (by omega)]), e1, g1, fun i hi => ?_⟩
  · rw [gm_up_ne (gm_ne a1 (a2.2 7 (by omega) (by omega)) (by simp))]; exact a1
  · rw [va_up_self, pk_un (by omega)]; exact g2 i hi
theorem rpm_at (h : rpm cI cZ f y cd nx en ml ad ga isR r5 ent) {j : Nat} (hj : j < 4096) {e : En} (he : en j = some e) : ga 0 j = 1 ∧ ga 1 j = e.1.1 ∧ ga 2 j = e.1.2.1 ∧ ga 3 j = e.1.2.2.1 ∧ ga 4 j = e.1.2.2.2.1 ∧ ga 5 j = e.1.2.2.2.2 ∧ ga 6 j = e.2 := by
  have := h.2.2.2.1 j hj
  rw [he] at this
  exact this
theorem rpm_no (h : rpm cI cZ f y cd nx en ml ad ga isR r5 ent) {j : Nat} (hj : j < 4096) (he : en j = none) : ga 0 j = 0 := by
  have := h.2.2.2.1 j hj
  rw [he] at this
  exact this
theorem vpn_0 : vp_nar .boolean 0 = 0 := by decide +kernel
theorem vpn_1 : vp_nar .boolean 1 = 1 := by decide +kernel
end RPM
def inb (en : Nat → Option En) (r0 : Rc) (j : Nat) : Bool := match en j with
  | some e => decide (rIn e.1 r0)
  | none => false
def ptb (en : Nat → Option En) (sh : Int32) (cs : Bool) (j : Nat) : Bool := match en j with
  | some e => decide (rY sh cs e.1)
  | none => false
theorem mtb_s {en : Nat → Option En} {r0 : Rc} {j : Nat} {e : En} (h : en j = some e) : mtb en r0 j = decide (rMeet e.1 r0) := by unfold mtb; rw [h]
theorem mtb_n {en : Nat → Option En} {r0 : Rc} {j : Nat} (h : en j = none) : mtb en r0 j = false := by unfold mtb; rw [h]
theorem inb_s {en : Nat → Option En} {r0 : Rc} {j : Nat} {e : En} (h : en j = some e) : inb en r0 j = decide (rIn e.1 r0) := by unfold inb; rw [h]
theorem inb_n {en : Nat → Option En} {r0 : Rc} {j : Nat} (h : en j = none) : inb en r0 j = false := by unfold inb; rw [h]
theorem ptb_s {en : Nat → Option En} {sh : Int32} {cs : Bool} {j : Nat} {e : En} (h : en j = some e) : ptb en sh cs j = decide (rY sh cs e.1) := by unfold ptb; rw [h]
theorem ptb_n {en : Nat → Option En} {sh : Int32} {cs : Bool} {j : Nat} (h : en j = none) : ptb en sh cs j = false := by unfold ptb; rw [h]
abbrev wn (v lo hi : Int32) : Prop := lo ≤ v ∧ v ≤ hi
section DUP2
variable {p : Program} {l : Launch} {e : Env} {R : Room} {s : State} {m : MethodId} {args : Array Value} {below : List Frame} {meth : Method} {c : Code} {D : va_G} {cl : List vw_C} {A : Nat → Prop} {nL : Nat} {Q : State → Prop} {f : gm} {nc ns pc : Nat} {lw : List (Option Value)} {st : List Value} {cc : ByteArray} {Ts : List Cond} {own : String} {tys : List (ClassId × FieldType)}
theorem gj_dup2 (C : gx p m c cc nL s args Ts own D cl tys A) {v w : Value} (d : decode cc pc = .ok (.dup2, 1)) (hv : v.category = 1) (hw : w.category = 1) (kk : gj p l e R s m args below meth c D cl A nL Q f nc ns (pc + 1) lw (v :: w :: v :: w :: st)) : gj p l e R s m args below meth c D cl A nL Q f nc ns pc lw (v :: w :: st) := fun H locs cells slots ls h1 h2 h3 h4 hl => lv_dup2_11 C.1.1 C.1.2.1 d hv hw (kk H locs cells slots ls h1 h2 h3 h4 hl)
end DUP2
theorem thr_ex {en : Nat → Option En} {num : Int32} (h : thr en num = true) (hd : ∀ j, 4096 ≤ j → en j = none) : ∃ j e, j < 4096 ∧ num = nI j ∧ en j = some e := by
  unfold thr at h
  rw [Bool.and_eq_true, decide_eq_true_eq] at h
  have h0 : ¬ num < 0 := i_len h.1
  obtain ⟨j, hj, rfl⟩ := nI_of h0
  rw [nI_clamp hj] at h
  cases hej : en j with
  | none => rw [hej] at h; simp at h
  | some e =>
    refine ⟨j, e, ?_, rfl, hej⟩
    rcases Nat.lt_or_ge j 4096 with h1 | h1
    · exact h1
    · rw [hd j h1] at hej; cases hej
theorem RpM.hd {cI cZ : ClassId} {f : gm} {y : Nat} {cd : Int32} {nx : Option Rc} {en : Nat → Option En} {ml : List Nat} (h : RpM cI cZ f y cd nx en ml) : ∀ j, 4096 ≤ j → en j = none := by
  obtain ⟨ad, ga, isR, r5, hW⟩ := h
  exact hW.2.2.2.2.1
theorem bI_b0 {b : Bool} (h : bI b = 0) : b = false := bI_0.mp h
theorem bI_b1 {b : Bool} (h : ¬ bI b = 0) : b = true := by cases b <;> simp_all [bI]
/-- an entry goes, and one less is counted -/
theorem rpm_go {cI cZ : ClassId} {f : gm} {y : Nat} {cd : Int32} {nx : Option Rc} {en : Nat → Option En} {ml : List Nat} {ad : Nat → Nat} {ga : Nat → Nat → Int32} {isR : Int32} {r5 : Rc} (h : rpm cI cZ f y cd nx en ml ad ga isR r5 (nI (cn en 4096))) {j : Nat} (hj : j < 4096) {e : En} (he : en j = some e) : rpm cI cZ (gm_up (gm_up f (ad 0) (aZ cZ (upd (ga 0) j 0))) y (cMo cd ad (nI (cn en 4096) - 1) isR r5 (nI ml.length))) y cd nx (va_up en j none) ml ad (va_up ga 0 (upd (ga 0) j 0)) isR r5 (nI (cn (va_up en j none) 4096)) := by
  have h1 := rpm_cd (rpm_t0 h hj) cd (nI (cn en 4096) - 1)
  have e1 : nI (cn en 4096) - 1 = nI (cn (va_up en j none) 4096) := by rw [← cn_del he 4096 hj, nI_pred]
  rw [e1] at h1 ⊢
  exact h1
theorem rpm_ms {cI cZ : ClassId} {f : gm} {y : Nat} {cd : Int32} {nx : Option Rc} {en : Nat → Option En} {ml : List Nat} {ad : Nat → Nat} {ga : Nat → Nat → Int32} {isR : Int32} {r5 : Rc} {ent : Int32} (h : rpm cI cZ f y cd nx en ml ad ga isR r5 ent) (hl : ml.length < 4096) (i : Nat) : rpm cI cZ (gm_up (gm_up f (ad 7) (aI cI 4096 (upd (ga 7) ml.length (nI i)))) y (cMo cd ad ent isR r5 (nI ml.length + 1))) y cd nx en (ml ++ [i]) ad (va_up ga 7 (upd (ga 7) ml.length (nI i))) isR r5 ent := by
  have h1 := rpm_m h (Nat.le_refl _) (nI i)
  have h2 := rpm_y (ml' := ml ++ [i]) h1 cd ent h.2.2.1 (by simp; omega) (fun j hj => by
    rw [va_up_self, getD_snoc]
    by_cases h3 : j < ml.length
    · rw [if_pos h3, pk_un (by omega)]; exact h.2.2.2.2.2.2 j h3
    · have h4 : j = ml.length := by simp at hj; omega
      rw [if_neg h3, if_pos h4, h4, pk_us])
  have e : nI (ml ++ [i]).length = nI ml.length + 1 := by simp only [List.length_append, List.length_singleton, nI_1]
  rw [e] at h2
  exact h2
theorem ad_inj {l : List Nat} (h : l.Nodup) (i j : Nat) (hi : i < l.length) (hj : j < l.length) (e : l.getD i 0 = l.getD j 0) : i = j := by
  simp only [List.getD, List.getElem?_eq_getElem hi, List.getElem?_eq_getElem hj, Option.getD_some] at e
  rcases Nat.lt_trichotomy i j with h1 | h1 | h1
  · exact absurd e ((List.pairwise_iff_getElem.mp h) i j hi hj h1)
  · exact h1
  · exact absurd e.symm ((List.pairwise_iff_getElem.mp h) j i hj hi h1)
theorem gm_nn {f : gm} {a b : Nat} {x : va_E} (ha : f a = some x) (hb : f b = none) : a ≠ b := fun e => by rw [e, hb] at ha; cases ha
theorem vr_ll {r : Rc} (h : vr r) (cs : Bool) : rL cs r ≤ ll cs := by
  cases cs
  · exact h.2.1.2.1.2
  · exact h.2.1.2.2.2
end
section
/-! RangeReadersModel: its small methods. By gen/m27.py. -/
set_option maxRecDepth 100000 in
set_option maxHeartbeats 4000000 in
theorem k_within (l : Launch) (D : va_G) (tys : List (ClassId × FieldType)) (f : gm) (x lo hi : Int32) : gk l yX3_within (.code yX3_within cX3_within 3 (Option.some Jvm.ClassFile.FieldType.boolean)) (rmk 0 0 0) D tys [.int x, .int lo, .int hi] f (fun v u => v = some (.int (bI (decide (wn x lo hi)))) ∧ u = f) := by
  refine gk_of [some (.int x), some (.int lo), some (.int hi)] (by decide) rfl (Nat.le_of_ble_eq_true rfl) rfl ?_
  intro p e s m args below meth c A C hV hr hlk hnm
  refine gj_iload_n C dX3_within_0 rfl ?_
  refine gj_iload_n C dX3_within_1 rfl ?_
  refine gj_icmp_lt (tgt := 14) C dX3_within_2 (by decide) (fun c1 => ?_) (fun c1 => ?_)
  · refine gj_iconst (v := 0) C dX3_within_14 (by decide) ?_
    exact gj_zret C hr hlk dX3_within_15 nz_0 (⟨congrArg (fun z => some (Value.int z)) (bI_f (by revert c1; simp only [i_le, i_lt, i_eq, t_0, t_1, t_5, t_7, t_8, t_16383, t_16384, t_32768, t_1048576, vs, vl, vc, vn, ll, rF, rL, rMeet, rIn, rY, if_true, if_false, Bool.false_eq_true, ite_true, ite_false, reduceIte, wn]; (try intros); omega)).symm, rfl⟩)
  · refine gj_iload_n C dX3_within_5 rfl ?_
    refine gj_iload_n C dX3_within_6 rfl ?_
    refine gj_icmp_gt (tgt := 14) C dX3_within_7 (by decide) (fun c2 => ?_) (fun c2 => ?_)
    · refine gj_iconst (v := 0) C dX3_within_14 (by decide) ?_
      exact gj_zret C hr hlk dX3_within_15 nz_0 (⟨congrArg (fun z => some (Value.int z)) (bI_f (by revert c1 c2; simp only [i_le, i_lt, i_eq, t_0, t_1, t_5, t_7, t_8, t_16383, t_16384, t_32768, t_1048576, vs, vl, vc, vn, ll, rF, rL, rMeet, rIn, rY, if_true, if_false, Bool.false_eq_true, ite_true, ite_false, reduceIte, wn]; (try intros); omega)).symm, rfl⟩)
    · refine gj_iconst (v := 1) C dX3_within_10 (by decide) ?_
      refine gj_goto (tgt := 15) C dX3_within_11 (by decide) ?_
      exact gj_zret C hr hlk dX3_within_15 nz_1 (⟨congrArg (fun z => some (Value.int z)) (bI_t (by revert c1 c2; simp only [i_le, i_lt, i_eq, t_0, t_1, t_5, t_7, t_8, t_16383, t_16384, t_32768, t_1048576, vs, vl, vc, vn, ll, rF, rL, rMeet, rIn, rY, if_true, if_false, Bool.false_eq_true, ite_true, ite_false, reduceIte, wn]; (try intros); omega)).symm, rfl⟩)
set_option maxRecDepth 100000 in
set_option maxHeartbeats 4000000 in
theorem k_linesOf (l : Launch) (D : va_G) (tys : List (ClassId × FieldType)) (f : gm) (cs : Bool) : gk l yX3_linesOf (.code yX3_linesOf cX3_linesOf 1 (Option.some Jvm.ClassFile.FieldType.int)) (rmk 0 0 0) D tys [.int (bI cs)] f (fun v u => v = some (.int (ll cs)) ∧ u = f) := by
  refine gk_of [some (.int (bI cs))] (by decide) rfl (Nat.le_of_ble_eq_true rfl) rfl ?_
  intro p e s m args below meth c A C hV hr hlk hnm
  cases cs
  · refine gj_iload_n C dX3_linesOf_0 rfl ?_
    refine gj_if_eqT (tgt := 10) C dX3_linesOf_1 (by decide) rfl ?_
    refine gj_ldc (v := 1048576) C dX3_linesOf_10 w_393 ?_
    exact gj_iret C hr hlk dX3_linesOf_12 (⟨rfl, rfl⟩)
  · refine gj_iload_n C dX3_linesOf_0 rfl ?_
    refine gj_if_eqF (tgt := 10) C dX3_linesOf_1 (by decide) (by decide) ?_
    refine gj_sipush (v := 16384) C dX3_linesOf_4 (by decide) ?_
    refine gj_goto (tgt := 12) C dX3_linesOf_7 (by decide) ?_
    exact gj_iret C hr hlk dX3_linesOf_12 (⟨rfl, rfl⟩)
set_option maxRecDepth 100000 in
set_option maxHeartbeats 4000000 in
theorem k_MisLine (l : Launch) (D : va_G) (cI cN cZ cJ : ClassId) (f : gm) (y : Nat) (sh : Int32) (cs : Bool) (at0 num : Int32) : gk l yX3_isLine (.code yX3_isLine cX3_isLine 5 (Option.some Jvm.ClassFile.FieldType.boolean)) (rmk 1 0 0) D (tyl cI cN cZ cJ) [.ref y, .int sh, .int (bI cs), .int at0, .int num] f (fun v u => v = some (.int (bI (decide (vn sh cs at0 num)))) ∧ u = f) := by
  refine gk_of [some (.ref y), some (.int sh), some (.int (bI cs)), some (.int at0), some (.int num)] (by decide) rfl (Nat.le_of_ble_eq_true rfl) rfl ?_
  intro p e s m args below meth c A C hV hr hlk hnm
  refine gj_iload_n C dX3_isLine_0 rfl ?_
  refine gj_iconst (v := 0) C dX3_isLine_1 (by decide) ?_
  refine gj_bipush (v := 7) C dX3_isLine_2 (by decide) ?_
  refine gj_cS (As := [.int sh, .int 0, .int 7]) (rest := []) (nc := 0) (ns := 0) C hV (k_within l D (tyl cI cN cZ cJ) f sh 0 7) dX3_isLine_4 rfl w_392 rfl w_390 w_2 w_391 hd_X3_within rfl ⟨Nat.le_of_ble_eq_true rfl, Nat.le_of_ble_eq_true rfl⟩ (Nat.le_of_ble_eq_true rfl) (by decide) (by decide) (fun v u hp1 => ?_)
  refine gj_rt (st' := [.int (bI (decide (wn sh 0 7)))]) hp1.1 hp1.2 rfl ?_
  refine gj_if_eq (tgt := 38) C dX3_isLine_7 (by decide) (fun c2 => ?_) (fun c2 => ?_)
  · refine gj_iconst (v := 0) C dX3_isLine_38 (by decide) ?_
    exact gj_zret C hr hlk dX3_isLine_39 nz_0 (⟨congrArg (fun z => some (Value.int z)) (bI_f (by have qc2 := bI_p0 c2; revert qc2; simp only [i_le, i_lt, i_eq, t_0, t_1, t_5, t_7, t_8, t_16383, t_16384, t_32768, t_1048576, vs, vl, vc, vn, ll, rF, rL, rMeet, rIn, rY, if_true, if_false, Bool.false_eq_true, ite_true, ite_false, reduceIte, wn, vr]; (try intros); omega)).symm, rfl⟩)
  · refine gj_iload_n C dX3_isLine_10 rfl ?_
    refine gj_iconst (v := 1) C dX3_isLine_11 (by decide) ?_
    refine gj_iload_n C dX3_isLine_12 rfl ?_
    refine gj_cS (As := [.int (bI cs)]) (rest := [.int 1, .int at0]) (nc := 0) (ns := 0) C hV (k_linesOf l D (tyl cI cN cZ cJ) f cs) dX3_isLine_13 rfl w_452 rfl w_450 w_2 w_451 hd_X3_linesOf rfl ⟨Nat.le_of_ble_eq_true rfl, Nat.le_of_ble_eq_true rfl⟩ (Nat.le_of_ble_eq_true rfl) (by decide) (by decide) (fun v u hp3 => ?_)
    refine gj_rt (st' := [.int (ll cs), .int 1, .int at0]) hp3.1 hp3.2 rfl ?_
    refine gj_cS (As := [.int at0, .int 1, .int (ll cs)]) (rest := []) (nc := 0) (ns := 0) C hV (k_within l D (tyl cI cN cZ cJ) f at0 1 (ll cs)) dX3_isLine_16 rfl w_392 rfl w_390 w_2 w_391 hd_X3_within rfl ⟨Nat.le_of_ble_eq_true rfl, Nat.le_of_ble_eq_true rfl⟩ (Nat.le_of_ble_eq_true rfl) (by decide) (by decide) (fun v u hp4 => ?_)
    refine gj_rt (st' := [.int (bI (decide (wn at0 1 (ll cs))))]) hp4.1 hp4.2 rfl ?_
    refine gj_if_eq (tgt := 38) C dX3_isLine_19 (by decide) (fun c5 => ?_) (fun c5 => ?_)
    · refine gj_iconst (v := 0) C dX3_isLine_38 (by decide) ?_
      exact gj_zret C hr hlk dX3_isLine_39 nz_0 (⟨congrArg (fun z => some (Value.int z)) (bI_f (by have qc2 := bI_p1 c2; have qc5 := bI_p0 c5; revert qc2 qc5; simp only [i_le, i_lt, i_eq, t_0, t_1, t_5, t_7, t_8, t_16383, t_16384, t_32768, t_1048576, vs, vl, vc, vn, ll, rF, rL, rMeet, rIn, rY, if_true, if_false, Bool.false_eq_true, ite_true, ite_false, reduceIte, wn, vr]; (try intros); omega)).symm, rfl⟩)
    · refine gj_iload C dX3_isLine_22 rfl ?_
      refine gj_iconst (v := 1) C dX3_isLine_24 (by decide) ?_
      refine gj_sipush (v := 16384) C dX3_isLine_25 (by decide) ?_
      refine gj_cS (As := [.int num, .int 1, .int 16384]) (rest := []) (nc := 0) (ns := 0) C hV (k_within l D (tyl cI cN cZ cJ) f num 1 16384) dX3_isLine_28 rfl w_392 rfl w_390 w_2 w_391 hd_X3_within rfl ⟨Nat.le_of_ble_eq_true rfl, Nat.le_of_ble_eq_true rfl⟩ (Nat.le_of_ble_eq_true rfl) (by decide) (by decide) (fun v u hp6 => ?_)
      refine gj_rt (st' := [.int (bI (decide (wn num 1 16384)))]) hp6.1 hp6.2 rfl ?_
      refine gj_if_eq (tgt := 38) C dX3_isLine_31 (by decide) (fun c7 => ?_) (fun c7 => ?_)
      · refine gj_iconst (v := 0) C dX3_isLine_38 (by decide) ?_
        exact gj_zret C hr hlk dX3_isLine_39 nz_0 (⟨congrArg (fun z => some (Value.int z)) (bI_f (by have qc2 := bI_p1 c2; have qc5 := bI_p1 c5; have qc7 := bI_p0 c7; revert qc2 qc5 qc7; simp only [i_le, i_lt, i_eq, t_0, t_1, t_5, t_7, t_8, t_16383, t_16384, t_32768, t_1048576, vs, vl, vc, vn, ll, rF, rL, rMeet, rIn, rY, if_true, if_false, Bool.false_eq_true, ite_true, ite_false, reduceIte, wn, vr]; (try intros); omega)).symm, rfl⟩)
      · refine gj_iconst (v := 1) C dX3_isLine_34 (by decide) ?_
        refine gj_goto (tgt := 39) C dX3_isLine_35 (by decide) ?_
        exact gj_zret C hr hlk dX3_isLine_39 nz_1 (⟨congrArg (fun z => some (Value.int z)) (bI_t (by have qc2 := bI_p1 c2; have qc5 := bI_p1 c5; have qc7 := bI_p1 c7; revert qc2 qc5 qc7; simp only [i_le, i_lt, i_eq, t_0, t_1, t_5, t_7, t_8, t_16383, t_16384, t_32768, t_1048576, vs, vl, vc, vn, ll, rF, rL, rMeet, rIn, rY, if_true, if_false, Bool.false_eq_true, ite_true, ite_false, reduceIte, wn, vr]; (try intros); omega)).symm, rfl⟩)
set_option maxRecDepth 100000 in
set_option maxHeartbeats 4000000 in
theorem k_MisThere (l : Launch) (D : va_G) (cI cN cZ cJ : ClassId) (f : gm) (y : Nat) (cd : Int32) (nx : Option Rc) (en : Nat → Option En) (ml : List Nat) (ad : Nat → Nat) (ga : Nat → Nat → Int32) (isR : Int32) (r5 : Rc) (ent : Int32) (num : Int32) (hW : rpm cI cZ f y cd nx en ml ad ga isR r5 ent) : gk l yX3_isThere (.code yX3_isThere cX3_isThere 2 (Option.some Jvm.ClassFile.FieldType.boolean)) (rmk 0 0 0) D (tyl cI cN cZ cJ) [.ref y, .int num] f (fun v u => v = some (.int (bI (thr en num))) ∧ u = f) := by
  refine gk_of [some (.ref y), some (.int num)] (by decide) rfl (Nat.le_of_ble_eq_true rfl) rfl ?_
  intro p e s m args below meth c A C hV hr hlk hnm
  have hd := hW.2.2.2.2.1
  rcases pk_ix num (n := 4096) (by decide) with hh | hh | ⟨j, hj, rfl⟩
  · refine gj_iload_n C dX3_isThere_0 rfl ?_
    refine gj_if_ltT (tgt := 24) C dX3_isThere_1 (by decide) hh ?_
    refine gj_iconst (v := 0) C dX3_isThere_24 (by decide) ?_
    exact gj_zret C hr hlk dX3_isThere_25 nz_0 (⟨by rw [thr_no (by decide) (fun i hi h => by rw [h] at hh; exact nI_pos (by omega) hh) hd] <;> rfl, rfl⟩)
  · refine gj_iload_n C dX3_isThere_0 rfl ?_
    refine gj_if_lt (tgt := 24) C dX3_isThere_1 (by decide) (fun c1 => ?_) (fun c1 => ?_)
    · refine gj_iconst (v := 0) C dX3_isThere_24 (by decide) ?_
      exact gj_zret C hr hlk dX3_isThere_25 nz_0 (⟨by rw [thr_no (by decide) (fun i hi h => by rw [h] at hh; exact nI_ge hi (by decide) hh) hd] <;> rfl, rfl⟩)
    · refine gj_iload_n C dX3_isThere_4 rfl ?_
      refine gj_sipush (v := 4096) C dX3_isThere_5 (by decide) ?_
      refine gj_icmp_geT (tgt := 24) C dX3_isThere_8 (by decide) hh ?_
      refine gj_iconst (v := 0) C dX3_isThere_24 (by decide) ?_
      exact gj_zret C hr hlk dX3_isThere_25 nz_0 (⟨by rw [thr_no (by decide) (fun i hi h => by rw [h] at hh; exact nI_ge hi (by decide) hh) hd] <;> rfl, rfl⟩)
  · cases hei : en j with
    | none =>
      have g0 := rpm_no hW hj hei
      refine gj_iload_n C dX3_isThere_0 rfl ?_
      refine gj_if_ltF (tgt := 24) C dX3_isThere_1 (by decide) (nI_pos (by omega)) ?_
      refine gj_iload_n C dX3_isThere_4 rfl ?_
      refine gj_sipush (v := 4096) C dX3_isThere_5 (by decide) ?_
      refine gj_icmp_geF (tgt := 24) C dX3_isThere_8 (by decide) (nI_ge hj (by decide)) ?_
      refine gj_aload_n C dX3_isThere_11 rfl ?_
      refine gj_get C dX3_isThere_12 hW.1.1 rfl inX3 1 (by decide) w_330 rfl ?_
      refine gj_iload_n C dX3_isThere_15 rfl ?_
      refine gj_zaldN C 2 dX3_isThere_16 hW.1.2.1 rfl hj (by decide) ?_
      refine gj_st (st' := [.int 0]) (by rw [g0]) ?_
      refine gj_if_eqT (tgt := 24) C dX3_isThere_17 (by decide) rfl ?_
      refine gj_iconst (v := 0) C dX3_isThere_24 (by decide) ?_
      exact gj_zret C hr hlk dX3_isThere_25 nz_0 (⟨by rw [thr_nI (by omega), hei] <;> rfl, rfl⟩)
    | some e0 =>
      obtain ⟨g0, g1, g2, g3, g4, g5, g6⟩ := rpm_at hW hj hei
      refine gj_iload_n C dX3_isThere_0 rfl ?_
      refine gj_if_ltF (tgt := 24) C dX3_isThere_1 (by decide) (nI_pos (by omega)) ?_
      refine gj_iload_n C dX3_isThere_4 rfl ?_
      refine gj_sipush (v := 4096) C dX3_isThere_5 (by decide) ?_
      refine gj_icmp_geF (tgt := 24) C dX3_isThere_8 (by decide) (nI_ge hj (by decide)) ?_
      refine gj_aload_n C dX3_isThere_11 rfl ?_
      refine gj_get C dX3_isThere_12 hW.1.1 rfl inX3 1 (by decide) w_330 rfl ?_
      refine gj_iload_n C dX3_isThere_15 rfl ?_
      refine gj_zaldN C 2 dX3_isThere_16 hW.1.2.1 rfl hj (by decide) ?_
      refine gj_st (st' := [.int 1]) (by rw [g0]) ?_
      refine gj_if_eqF (tgt := 24) C dX3_isThere_17 (by decide) (by decide) ?_
      refine gj_iconst (v := 1) C dX3_isThere_20 (by decide) ?_
      refine gj_goto (tgt := 25) C dX3_isThere_21 (by decide) ?_
      exact gj_zret C hr hlk dX3_isThere_25 nz_1 (⟨by rw [thr_nI (by omega), hei] <;> rfl, rfl⟩)
set_option maxRecDepth 100000 in
set_option maxHeartbeats 4000000 in
theorem k_Mgo (l : Launch) (D : va_G) (cI cN cZ cJ : ClassId) (f : gm) (y : Nat) (cd : Int32) (nx : Option Rc) (en : Nat → Option En) (ml : List Nat) (ad : Nat → Nat) (ga : Nat → Nat → Int32) (isR : Int32) (r5 : Rc) (ent : Int32) (j : Nat) (hW : rpm cI cZ f y cd nx en ml ad ga isR r5 ent) (hj : j < 4096) : gk l yX3_go (.code yX3_go cX3_go 2 (Option.none : Option Jvm.ClassFile.FieldType)) (rmk 0 0 0) D (tyl cI cN cZ cJ) [.ref y, .int (nI j)] f (fun v u => v = none ∧ u = gm_up (gm_up f (ad 0) (aZ cZ (upd (ga 0) j 0))) y (cMo cd ad (ent - 1) isR r5 (nI ml.length))) := by
  refine gk_of [some (.ref y), some (.int (nI j))] (by decide) rfl (Nat.le_of_ble_eq_true rfl) rfl ?_
  intro p e s m args below meth c A C hV hr hlk hnm
  refine gj_aload_n C dX3_go_0 rfl ?_
  refine gj_get C dX3_go_1 hW.1.1 rfl inX3 1 (by decide) w_330 rfl ?_
  refine gj_iload_n C dX3_go_4 rfl ?_
  refine gj_iconst (v := 0) C dX3_go_5 (by decide) ?_
  refine gj_zastN C 2 dX3_go_6 hW.1.2.1 rfl hj (by decide) ?_
  refine gj_f (f' := gm_up f (ad 0) (aZ cZ (upd (ga 0) j 0))) (by rw [vpn_0]) ?_
  refine gj_aload_n C dX3_go_7 rfl ?_
  refine gj_dup C dX3_go_8 rfl ?_
  refine gj_get C dX3_go_9 ((gm_up_ne (gm_ne hW.1.1 hW.1.2.1 (by simp))).trans hW.1.1) rfl inX3 8 (by decide) w_337 rfl ?_
  refine gj_iconst (v := 1) C dX3_go_12 (by decide) ?_
  refine gj_isub C dX3_go_13 ?_
  refine gj_put C dX3_go_14 ((gm_up_ne (gm_ne hW.1.1 hW.1.2.1 (by simp))).trans hW.1.1) rfl inX3 tyX3_ok nmX3 8 (by decide) w_337 rfl rfl rfl (Nat.le_of_ble_eq_true rfl) ?_
  exact gj_vret C hr hlk dX3_go_17 (⟨rfl, rfl⟩)
set_option maxRecDepth 100000 in
set_option maxHeartbeats 4000000 in
theorem k_Mmeets (l : Launch) (D : va_G) (cI cN cZ cJ : ClassId) (f : gm) (y : Nat) (cd : Int32) (nx : Option Rc) (en : Nat → Option En) (ml : List Nat) (ad : Nat → Nat) (ga : Nat → Nat → Int32) (isR : Int32) (r5 : Rc) (ent : Int32) (j : Nat) (s1 t1 l1 b1 r1 : Int32) (hW : rpm cI cZ f y cd nx en ml ad ga isR r5 ent) (hj : j < 4096) : gk l yX3_meets (.code yX3_meets cX3_meets 7 (Option.some Jvm.ClassFile.FieldType.boolean)) (rmk 0 0 0) D (tyl cI cN cZ cJ) [.ref y, .int (nI j), .int s1, .int t1, .int l1, .int b1, .int r1] f (fun v u => v = some (.int (bI (mtb en (s1, t1, l1, b1, r1) j))) ∧ u = f) := by
  refine gk_of [some (.ref y), some (.int (nI j)), some (.int s1), some (.int t1), some (.int l1), some (.int b1), some (.int r1)] (by decide) rfl (Nat.le_of_ble_eq_true rfl) rfl ?_
  intro p e s m args below meth c A C hV hr hlk hnm
  cases hei : en j with
  | none =>
    have g0 := rpm_no hW hj hei
    refine gj_aload_n C dX3_meets_0 rfl ?_
    refine gj_get C dX3_meets_1 hW.1.1 rfl inX3 1 (by decide) w_330 rfl ?_
    refine gj_iload_n C dX3_meets_4 rfl ?_
    refine gj_zaldN C 2 dX3_meets_5 hW.1.2.1 rfl hj (by decide) ?_
    refine gj_st (st' := [.int 0]) (by rw [g0]) ?_
    refine gj_if_eqT (tgt := 66) C dX3_meets_6 (by decide) rfl ?_
    refine gj_iconst (v := 0) C dX3_meets_66 (by decide) ?_
    exact gj_zret C hr hlk dX3_meets_67 nz_0 (⟨by rw [mtb_n hei] <;> rfl, rfl⟩)
  | some e0 =>
    obtain ⟨g0, g1, g2, g3, g4, g5, g6⟩ := rpm_at hW hj hei
    refine gj_aload_n C dX3_meets_0 rfl ?_
    refine gj_get C dX3_meets_1 hW.1.1 rfl inX3 1 (by decide) w_330 rfl ?_
    refine gj_iload_n C dX3_meets_4 rfl ?_
    refine gj_zaldN C 2 dX3_meets_5 hW.1.2.1 rfl hj (by decide) ?_
    refine gj_st (st' := [.int 1]) (by rw [g0]) ?_
    refine gj_if_eqF (tgt := 66) C dX3_meets_6 (by decide) (by decide) ?_
    refine gj_aload_n C dX3_meets_9 rfl ?_
    refine gj_get C dX3_meets_10 hW.1.1 rfl inX3 2 (by decide) w_331 rfl ?_
    refine gj_iload_n C dX3_meets_13 rfl ?_
    refine gj_ialdN C 0 dX3_meets_14 (hW.1.2.2 1 (by decide) (by decide)) rfl hj (by decide) ?_
    refine gj_st (st' := [.int e0.1.1]) (by rw [g1]) ?_
    refine gj_iload_n C dX3_meets_15 rfl ?_
    refine gj_icmp_ne (tgt := 66) C dX3_meets_16 (by decide) (fun c1 => ?_) (fun c1 => ?_)
    · refine gj_iconst (v := 0) C dX3_meets_66 (by decide) ?_
      exact gj_zret C hr hlk dX3_meets_67 nz_0 (⟨by rw [mtb_s hei]; exact congrArg (fun z => some (Value.int z)) (bI_f (by revert c1; simp only [i_le, i_lt, i_eq, t_0, t_1, t_5, t_7, t_8, t_16383, t_16384, t_32768, t_1048576, vs, vl, vc, vn, ll, rF, rL, rMeet, rIn, rY, if_true, if_false, Bool.false_eq_true, ite_true, ite_false, reduceIte]; (try intros); omega)).symm, rfl⟩)
    · refine gj_aload_n C dX3_meets_19 rfl ?_
      refine gj_get C dX3_meets_20 hW.1.1 rfl inX3 3 (by decide) w_332 rfl ?_
      refine gj_iload_n C dX3_meets_23 rfl ?_
      refine gj_ialdN C 0 dX3_meets_24 (hW.1.2.2 2 (by decide) (by decide)) rfl hj (by decide) ?_
      refine gj_st (st' := [.int e0.1.2.1]) (by rw [g2]) ?_
      refine gj_iload C dX3_meets_25 rfl ?_
      refine gj_icmp_gt (tgt := 66) C dX3_meets_27 (by decide) (fun c2 => ?_) (fun c2 => ?_)
      · refine gj_iconst (v := 0) C dX3_meets_66 (by decide) ?_
        exact gj_zret C hr hlk dX3_meets_67 nz_0 (⟨by rw [mtb_s hei]; exact congrArg (fun z => some (Value.int z)) (bI_f (by revert c1 c2; simp only [i_le, i_lt, i_eq, t_0, t_1, t_5, t_7, t_8, t_16383, t_16384, t_32768, t_1048576, vs, vl, vc, vn, ll, rF, rL, rMeet, rIn, rY, if_true, if_false, Bool.false_eq_true, ite_true, ite_false, reduceIte]; (try intros); omega)).symm, rfl⟩)
      · refine gj_aload_n C dX3_meets_30 rfl ?_
        refine gj_get C dX3_meets_31 hW.1.1 rfl inX3 5 (by decide) w_334 rfl ?_
        refine gj_iload_n C dX3_meets_34 rfl ?_
        refine gj_ialdN C 0 dX3_meets_35 (hW.1.2.2 4 (by decide) (by decide)) rfl hj (by decide) ?_
        refine gj_st (st' := [.int e0.1.2.2.2.1]) (by rw [g4]) ?_
        refine gj_iload_n C dX3_meets_36 rfl ?_
        refine gj_icmp_lt (tgt := 66) C dX3_meets_37 (by decide) (fun c3 => ?_) (fun c3 => ?_)
        · refine gj_iconst (v := 0) C dX3_meets_66 (by decide) ?_
          exact gj_zret C hr hlk dX3_meets_67 nz_0 (⟨by rw [mtb_s hei]; exact congrArg (fun z => some (Value.int z)) (bI_f (by revert c1 c2 c3; simp only [i_le, i_lt, i_eq, t_0, t_1, t_5, t_7, t_8, t_16383, t_16384, t_32768, t_1048576, vs, vl, vc, vn, ll, rF, rL, rMeet, rIn, rY, if_true, if_false, Bool.false_eq_true, ite_true, ite_false, reduceIte]; (try intros); omega)).symm, rfl⟩)
        · refine gj_aload_n C dX3_meets_40 rfl ?_
          refine gj_get C dX3_meets_41 hW.1.1 rfl inX3 4 (by decide) w_333 rfl ?_
          refine gj_iload_n C dX3_meets_44 rfl ?_
          refine gj_ialdN C 0 dX3_meets_45 (hW.1.2.2 3 (by decide) (by decide)) rfl hj (by decide) ?_
          refine gj_st (st' := [.int e0.1.2.2.1]) (by rw [g3]) ?_
          refine gj_iload C dX3_meets_46 rfl ?_
          refine gj_icmp_gt (tgt := 66) C dX3_meets_48 (by decide) (fun c4 => ?_) (fun c4 => ?_)
          · refine gj_iconst (v := 0) C dX3_meets_66 (by decide) ?_
            exact gj_zret C hr hlk dX3_meets_67 nz_0 (⟨by rw [mtb_s hei]; exact congrArg (fun z => some (Value.int z)) (bI_f (by revert c1 c2 c3 c4; simp only [i_le, i_lt, i_eq, t_0, t_1, t_5, t_7, t_8, t_16383, t_16384, t_32768, t_1048576, vs, vl, vc, vn, ll, rF, rL, rMeet, rIn, rY, if_true, if_false, Bool.false_eq_true, ite_true, ite_false, reduceIte]; (try intros); omega)).symm, rfl⟩)
          · refine gj_aload_n C dX3_meets_51 rfl ?_
            refine gj_get C dX3_meets_52 hW.1.1 rfl inX3 6 (by decide) w_335 rfl ?_
            refine gj_iload_n C dX3_meets_55 rfl ?_
            refine gj_ialdN C 0 dX3_meets_56 (hW.1.2.2 5 (by decide) (by decide)) rfl hj (by decide) ?_
            refine gj_st (st' := [.int e0.1.2.2.2.2]) (by rw [g5]) ?_
            refine gj_iload C dX3_meets_57 rfl ?_
            refine gj_icmp_lt (tgt := 66) C dX3_meets_59 (by decide) (fun c5 => ?_) (fun c5 => ?_)
            · refine gj_iconst (v := 0) C dX3_meets_66 (by decide) ?_
              exact gj_zret C hr hlk dX3_meets_67 nz_0 (⟨by rw [mtb_s hei]; exact congrArg (fun z => some (Value.int z)) (bI_f (by revert c1 c2 c3 c4 c5; simp only [i_le, i_lt, i_eq, t_0, t_1, t_5, t_7, t_8, t_16383, t_16384, t_32768, t_1048576, vs, vl, vc, vn, ll, rF, rL, rMeet, rIn, rY, if_true, if_false, Bool.false_eq_true, ite_true, ite_false, reduceIte]; (try intros); omega)).symm, rfl⟩)
            · refine gj_iconst (v := 1) C dX3_meets_62 (by decide) ?_
              refine gj_goto (tgt := 67) C dX3_meets_63 (by decide) ?_
              exact gj_zret C hr hlk dX3_meets_67 nz_1 (⟨by rw [mtb_s hei]; exact congrArg (fun z => some (Value.int z)) (bI_t (by revert c1 c2 c3 c4 c5; simp only [i_le, i_lt, i_eq, t_0, t_1, t_5, t_7, t_8, t_16383, t_16384, t_32768, t_1048576, vs, vl, vc, vn, ll, rF, rL, rMeet, rIn, rY, if_true, if_false, Bool.false_eq_true, ite_true, ite_false, reduceIte]; (try intros); omega)).symm, rfl⟩)
set_option maxRecDepth 100000 in
set_option maxHeartbeats 4000000 in
theorem k_MisIn (l : Launch) (D : va_G) (cI cN cZ cJ : ClassId) (f : gm) (y : Nat) (cd : Int32) (nx : Option Rc) (en : Nat → Option En) (ml : List Nat) (ad : Nat → Nat) (ga : Nat → Nat → Int32) (isR : Int32) (r5 : Rc) (ent : Int32) (j : Nat) (s1 t1 l1 b1 r1 : Int32) (hW : rpm cI cZ f y cd nx en ml ad ga isR r5 ent) (hj : j < 4096) : gk l yX3_isIn (.code yX3_isIn cX3_isIn 7 (Option.some Jvm.ClassFile.FieldType.boolean)) (rmk 0 0 0) D (tyl cI cN cZ cJ) [.ref y, .int (nI j), .int s1, .int t1, .int l1, .int b1, .int r1] f (fun v u => v = some (.int (bI (inb en (s1, t1, l1, b1, r1) j))) ∧ u = f) := by
  refine gk_of [some (.ref y), some (.int (nI j)), some (.int s1), some (.int t1), some (.int l1), some (.int b1), some (.int r1)] (by decide) rfl (Nat.le_of_ble_eq_true rfl) rfl ?_
  intro p e s m args below meth c A C hV hr hlk hnm
  cases hei : en j with
  | none =>
    have g0 := rpm_no hW hj hei
    refine gj_aload_n C dX3_isIn_0 rfl ?_
    refine gj_get C dX3_isIn_1 hW.1.1 rfl inX3 1 (by decide) w_330 rfl ?_
    refine gj_iload_n C dX3_isIn_4 rfl ?_
    refine gj_zaldN C 2 dX3_isIn_5 hW.1.2.1 rfl hj (by decide) ?_
    refine gj_st (st' := [.int 0]) (by rw [g0]) ?_
    refine gj_if_eqT (tgt := 66) C dX3_isIn_6 (by decide) rfl ?_
    refine gj_iconst (v := 0) C dX3_isIn_66 (by decide) ?_
    exact gj_zret C hr hlk dX3_isIn_67 nz_0 (⟨by rw [inb_n hei] <;> rfl, rfl⟩)
  | some e0 =>
    obtain ⟨g0, g1, g2, g3, g4, g5, g6⟩ := rpm_at hW hj hei
    refine gj_aload_n C dX3_isIn_0 rfl ?_
    refine gj_get C dX3_isIn_1 hW.1.1 rfl inX3 1 (by decide) w_330 rfl ?_
    refine gj_iload_n C dX3_isIn_4 rfl ?_
    refine gj_zaldN C 2 dX3_isIn_5 hW.1.2.1 rfl hj (by decide) ?_
    refine gj_st (st' := [.int 1]) (by rw [g0]) ?_
    refine gj_if_eqF (tgt := 66) C dX3_isIn_6 (by decide) (by decide) ?_
    refine gj_aload_n C dX3_isIn_9 rfl ?_
    refine gj_get C dX3_isIn_10 hW.1.1 rfl inX3 2 (by decide) w_331 rfl ?_
    refine gj_iload_n C dX3_isIn_13 rfl ?_
    refine gj_ialdN C 0 dX3_isIn_14 (hW.1.2.2 1 (by decide) (by decide)) rfl hj (by decide) ?_
    refine gj_st (st' := [.int e0.1.1]) (by rw [g1]) ?_
    refine gj_iload_n C dX3_isIn_15 rfl ?_
    refine gj_icmp_ne (tgt := 66) C dX3_isIn_16 (by decide) (fun c1 => ?_) (fun c1 => ?_)
    · refine gj_iconst (v := 0) C dX3_isIn_66 (by decide) ?_
      exact gj_zret C hr hlk dX3_isIn_67 nz_0 (⟨by rw [inb_s hei]; exact congrArg (fun z => some (Value.int z)) (bI_f (by revert c1; simp only [i_le, i_lt, i_eq, t_0, t_1, t_5, t_7, t_8, t_16383, t_16384, t_32768, t_1048576, vs, vl, vc, vn, ll, rF, rL, rMeet, rIn, rY, if_true, if_false, Bool.false_eq_true, ite_true, ite_false, reduceIte]; (try intros); omega)).symm, rfl⟩)
    · refine gj_aload_n C dX3_isIn_19 rfl ?_
      refine gj_get C dX3_isIn_20 hW.1.1 rfl inX3 3 (by decide) w_332 rfl ?_
      refine gj_iload_n C dX3_isIn_23 rfl ?_
      refine gj_ialdN C 0 dX3_isIn_24 (hW.1.2.2 2 (by decide) (by decide)) rfl hj (by decide) ?_
      refine gj_st (st' := [.int e0.1.2.1]) (by rw [g2]) ?_
      refine gj_iload_n C dX3_isIn_25 rfl ?_
      refine gj_icmp_lt (tgt := 66) C dX3_isIn_26 (by decide) (fun c2 => ?_) (fun c2 => ?_)
      · refine gj_iconst (v := 0) C dX3_isIn_66 (by decide) ?_
        exact gj_zret C hr hlk dX3_isIn_67 nz_0 (⟨by rw [inb_s hei]; exact congrArg (fun z => some (Value.int z)) (bI_f (by revert c1 c2; simp only [i_le, i_lt, i_eq, t_0, t_1, t_5, t_7, t_8, t_16383, t_16384, t_32768, t_1048576, vs, vl, vc, vn, ll, rF, rL, rMeet, rIn, rY, if_true, if_false, Bool.false_eq_true, ite_true, ite_false, reduceIte]; (try intros); omega)).symm, rfl⟩)
      · refine gj_aload_n C dX3_isIn_29 rfl ?_
        refine gj_get C dX3_isIn_30 hW.1.1 rfl inX3 5 (by decide) w_334 rfl ?_
        refine gj_iload_n C dX3_isIn_33 rfl ?_
        refine gj_ialdN C 0 dX3_isIn_34 (hW.1.2.2 4 (by decide) (by decide)) rfl hj (by decide) ?_
        refine gj_st (st' := [.int e0.1.2.2.2.1]) (by rw [g4]) ?_
        refine gj_iload C dX3_isIn_35 rfl ?_
        refine gj_icmp_gt (tgt := 66) C dX3_isIn_37 (by decide) (fun c3 => ?_) (fun c3 => ?_)
        · refine gj_iconst (v := 0) C dX3_isIn_66 (by decide) ?_
          exact gj_zret C hr hlk dX3_isIn_67 nz_0 (⟨by rw [inb_s hei]; exact congrArg (fun z => some (Value.int z)) (bI_f (by revert c1 c2 c3; simp only [i_le, i_lt, i_eq, t_0, t_1, t_5, t_7, t_8, t_16383, t_16384, t_32768, t_1048576, vs, vl, vc, vn, ll, rF, rL, rMeet, rIn, rY, if_true, if_false, Bool.false_eq_true, ite_true, ite_false, reduceIte]; (try intros); omega)).symm, rfl⟩)
        · refine gj_aload_n C dX3_isIn_40 rfl ?_
          refine gj_get C dX3_isIn_41 hW.1.1 rfl inX3 4 (by decide) w_333 rfl ?_
          refine gj_iload_n C dX3_isIn_44 rfl ?_
          refine gj_ialdN C 0 dX3_isIn_45 (hW.1.2.2 3 (by decide) (by decide)) rfl hj (by decide) ?_
          refine gj_st (st' := [.int e0.1.2.2.1]) (by rw [g3]) ?_
          refine gj_iload C dX3_isIn_46 rfl ?_
          refine gj_icmp_lt (tgt := 66) C dX3_isIn_48 (by decide) (fun c4 => ?_) (fun c4 => ?_)
          · refine gj_iconst (v := 0) C dX3_isIn_66 (by decide) ?_
            exact gj_zret C hr hlk dX3_isIn_67 nz_0 (⟨by rw [inb_s hei]; exact congrArg (fun z => some (Value.int z)) (bI_f (by revert c1 c2 c3 c4; simp only [i_le, i_lt, i_eq, t_0, t_1, t_5, t_7, t_8, t_16383, t_16384, t_32768, t_1048576, vs, vl, vc, vn, ll, rF, rL, rMeet, rIn, rY, if_true, if_false, Bool.false_eq_true, ite_true, ite_false, reduceIte]; (try intros); omega)).symm, rfl⟩)
          · refine gj_aload_n C dX3_isIn_51 rfl ?_
            refine gj_get C dX3_isIn_52 hW.1.1 rfl inX3 6 (by decide) w_335 rfl ?_
            refine gj_iload_n C dX3_isIn_55 rfl ?_
            refine gj_ialdN C 0 dX3_isIn_56 (hW.1.2.2 5 (by decide) (by decide)) rfl hj (by decide) ?_
            refine gj_st (st' := [.int e0.1.2.2.2.2]) (by rw [g5]) ?_
            refine gj_iload C dX3_isIn_57 rfl ?_
            refine gj_icmp_gt (tgt := 66) C dX3_isIn_59 (by decide) (fun c5 => ?_) (fun c5 => ?_)
            · refine gj_iconst (v := 0) C dX3_isIn_66 (by decide) ?_
              exact gj_zret C hr hlk dX3_isIn_67 nz_0 (⟨by rw [inb_s hei]; exact congrArg (fun z => some (Value.int z)) (bI_f (by revert c1 c2 c3 c4 c5; simp only [i_le, i_lt, i_eq, t_0, t_1, t_5, t_7, t_8, t_16383, t_16384, t_32768, t_1048576, vs, vl, vc, vn, ll, rF, rL, rMeet, rIn, rY, if_true, if_false, Bool.false_eq_true, ite_true, ite_false, reduceIte]; (try intros); omega)).symm, rfl⟩)
            · refine gj_iconst (v := 1) C dX3_isIn_62 (by decide) ?_
              refine gj_goto (tgt := 67) C dX3_isIn_63 (by decide) ?_
              exact gj_zret C hr hlk dX3_isIn_67 nz_1 (⟨by rw [inb_s hei]; exact congrArg (fun z => some (Value.int z)) (bI_t (by revert c1 c2 c3 c4 c5; simp only [i_le, i_lt, i_eq, t_0, t_1, t_5, t_7, t_8, t_16383, t_16384, t_32768, t_1048576, vs, vl, vc, vn, ll, rF, rL, rMeet, rIn, rY, if_true, if_false, Bool.false_eq_true, ite_true, ite_false, reduceIte]; (try intros); omega)).symm, rfl⟩)
set_option maxRecDepth 100000 in
set_option maxHeartbeats 4000000 in
theorem k_Mfirst (l : Launch) (D : va_G) (cI cN cZ cJ : ClassId) (f : gm) (y : Nat) (cd : Int32) (nx : Option Rc) (en : Nat → Option En) (ml : List Nat) (ad : Nat → Nat) (ga : Nat → Nat → Int32) (isR : Int32) (r5 : Rc) (ent : Int32) (j : Nat) (e0 : En) (cs : Bool) (hW : rpm cI cZ f y cd nx en ml ad ga isR r5 ent) (hj : j < 4096) (hei : en j = some e0) : gk l yX3_first (.code yX3_first cX3_first 3 (Option.some Jvm.ClassFile.FieldType.int)) (rmk 0 0 0) D (tyl cI cN cZ cJ) [.ref y, .int (nI j), .int (bI cs)] f (fun v u => v = some (.int (rF cs e0.1)) ∧ u = f) := by
  refine gk_of [some (.ref y), some (.int (nI j)), some (.int (bI cs))] (by decide) rfl (Nat.le_of_ble_eq_true rfl) rfl ?_
  intro p e s m args below meth c A C hV hr hlk hnm
  obtain ⟨g0, g1, g2, g3, g4, g5, g6⟩ := rpm_at hW hj hei
  cases cs
  · refine gj_iload_n C dX3_first_0 rfl ?_
    refine gj_if_eqT (tgt := 13) C dX3_first_1 (by decide) rfl ?_
    refine gj_aload_n C dX3_first_13 rfl ?_
    refine gj_get C dX3_first_14 hW.1.1 rfl inX3 3 (by decide) w_332 rfl ?_
    refine gj_iload_n C dX3_first_17 rfl ?_
    refine gj_ialdN C 0 dX3_first_18 (hW.1.2.2 2 (by decide) (by decide)) rfl hj (by decide) ?_
    refine gj_st (st' := [.int e0.1.2.1]) (by rw [g2]) ?_
    exact gj_iret C hr hlk dX3_first_19 (⟨rfl, rfl⟩)
  · refine gj_iload_n C dX3_first_0 rfl ?_
    refine gj_if_eqF (tgt := 13) C dX3_first_1 (by decide) (by decide) ?_
    refine gj_aload_n C dX3_first_4 rfl ?_
    refine gj_get C dX3_first_5 hW.1.1 rfl inX3 4 (by decide) w_333 rfl ?_
    refine gj_iload_n C dX3_first_8 rfl ?_
    refine gj_ialdN C 0 dX3_first_9 (hW.1.2.2 3 (by decide) (by decide)) rfl hj (by decide) ?_
    refine gj_st (st' := [.int e0.1.2.2.1]) (by rw [g3]) ?_
    refine gj_goto (tgt := 19) C dX3_first_10 (by decide) ?_
    exact gj_iret C hr hlk dX3_first_19 (⟨rfl, rfl⟩)
set_option maxRecDepth 100000 in
set_option maxHeartbeats 4000000 in
theorem k_Mlast (l : Launch) (D : va_G) (cI cN cZ cJ : ClassId) (f : gm) (y : Nat) (cd : Int32) (nx : Option Rc) (en : Nat → Option En) (ml : List Nat) (ad : Nat → Nat) (ga : Nat → Nat → Int32) (isR : Int32) (r5 : Rc) (ent : Int32) (j : Nat) (e0 : En) (cs : Bool) (hW : rpm cI cZ f y cd nx en ml ad ga isR r5 ent) (hj : j < 4096) (hei : en j = some e0) : gk l yX3_last (.code yX3_last cX3_last 3 (Option.some Jvm.ClassFile.FieldType.int)) (rmk 0 0 0) D (tyl cI cN cZ cJ) [.ref y, .int (nI j), .int (bI cs)] f (fun v u => v = some (.int (rL cs e0.1)) ∧ u = f) := by
  refine gk_of [some (.ref y), some (.int (nI j)), some (.int (bI cs))] (by decide) rfl (Nat.le_of_ble_eq_true rfl) rfl ?_
  intro p e s m args below meth c A C hV hr hlk hnm
  obtain ⟨g0, g1, g2, g3, g4, g5, g6⟩ := rpm_at hW hj hei
  cases cs
  · refine gj_iload_n C dX3_last_0 rfl ?_
    refine gj_if_eqT (tgt := 13) C dX3_last_1 (by decide) rfl ?_
    refine gj_aload_n C dX3_last_13 rfl ?_
    refine gj_get C dX3_last_14 hW.1.1 rfl inX3 5 (by decide) w_334 rfl ?_
    refine gj_iload_n C dX3_last_17 rfl ?_
    refine gj_ialdN C 0 dX3_last_18 (hW.1.2.2 4 (by decide) (by decide)) rfl hj (by decide) ?_
    refine gj_st (st' := [.int e0.1.2.2.2.1]) (by rw [g4]) ?_
    exact gj_iret C hr hlk dX3_last_19 (⟨rfl, rfl⟩)
  · refine gj_iload_n C dX3_last_0 rfl ?_
    refine gj_if_eqF (tgt := 13) C dX3_last_1 (by decide) (by decide) ?_
    refine gj_aload_n C dX3_last_4 rfl ?_
    refine gj_get C dX3_last_5 hW.1.1 rfl inX3 6 (by decide) w_335 rfl ?_
    refine gj_iload_n C dX3_last_8 rfl ?_
    refine gj_ialdN C 0 dX3_last_9 (hW.1.2.2 5 (by decide) (by decide)) rfl hj (by decide) ?_
    refine gj_st (st' := [.int e0.1.2.2.2.2]) (by rw [g5]) ?_
    refine gj_goto (tgt := 19) C dX3_last_10 (by decide) ?_
    exact gj_iret C hr hlk dX3_last_19 (⟨rfl, rfl⟩)
set_option maxRecDepth 100000 in
set_option maxHeartbeats 4000000 in
theorem k_MisPart (l : Launch) (D : va_G) (cI cN cZ cJ : ClassId) (f : gm) (y : Nat) (cd : Int32) (nx : Option Rc) (en : Nat → Option En) (ml : List Nat) (ad : Nat → Nat) (ga : Nat → Nat → Int32) (isR : Int32) (r5 : Rc) (ent : Int32) (j : Nat) (sh : Int32) (cs : Bool) (hW : rpm cI cZ f y cd nx en ml ad ga isR r5 ent) (hj : j < 4096) : gk l yX3_isPart (.code yX3_isPart cX3_isPart 4 (Option.some Jvm.ClassFile.FieldType.boolean)) (rmk 1 0 0) D (tyl cI cN cZ cJ) [.ref y, .int (nI j), .int sh, .int (bI cs)] f (fun v u => v = some (.int (bI (ptb en sh cs j))) ∧ u = f) := by
  refine gk_of [some (.ref y), some (.int (nI j)), some (.int sh), some (.int (bI cs))] (by decide) rfl (Nat.le_of_ble_eq_true rfl) rfl ?_
  intro p e s m args below meth c A C hV hr hlk hnm
  cases hei : en j with
  | none =>
    have g0 := rpm_no hW hj hei
    refine gj_aload_n C dX3_isPart_0 rfl ?_
    refine gj_get C dX3_isPart_1 hW.1.1 rfl inX3 1 (by decide) w_330 rfl ?_
    refine gj_iload_n C dX3_isPart_4 rfl ?_
    refine gj_zaldN C 2 dX3_isPart_5 hW.1.2.1 rfl hj (by decide) ?_
    refine gj_st (st' := [.int 0]) (by rw [g0]) ?_
    refine gj_if_eqT (tgt := 46) C dX3_isPart_6 (by decide) rfl ?_
    refine gj_iconst (v := 0) C dX3_isPart_46 (by decide) ?_
    exact gj_zret C hr hlk dX3_isPart_47 nz_0 (⟨by rw [ptb_n hei] <;> rfl, rfl⟩)
  | some e0 =>
    obtain ⟨g0, g1, g2, g3, g4, g5, g6⟩ := rpm_at hW hj hei
    refine gj_aload_n C dX3_isPart_0 rfl ?_
    refine gj_get C dX3_isPart_1 hW.1.1 rfl inX3 1 (by decide) w_330 rfl ?_
    refine gj_iload_n C dX3_isPart_4 rfl ?_
    refine gj_zaldN C 2 dX3_isPart_5 hW.1.2.1 rfl hj (by decide) ?_
    refine gj_st (st' := [.int 1]) (by rw [g0]) ?_
    refine gj_if_eqF (tgt := 46) C dX3_isPart_6 (by decide) (by decide) ?_
    refine gj_aload_n C dX3_isPart_9 rfl ?_
    refine gj_get C dX3_isPart_10 hW.1.1 rfl inX3 2 (by decide) w_331 rfl ?_
    refine gj_iload_n C dX3_isPart_13 rfl ?_
    refine gj_ialdN C 0 dX3_isPart_14 (hW.1.2.2 1 (by decide) (by decide)) rfl hj (by decide) ?_
    refine gj_st (st' := [.int e0.1.1]) (by rw [g1]) ?_
    refine gj_iload_n C dX3_isPart_15 rfl ?_
    refine gj_icmp_ne (tgt := 46) C dX3_isPart_16 (by decide) (fun c1 => ?_) (fun c1 => ?_)
    · refine gj_iconst (v := 0) C dX3_isPart_46 (by decide) ?_
      exact gj_zret C hr hlk dX3_isPart_47 nz_0 (⟨by rw [ptb_s hei]; exact congrArg (fun z => some (Value.int z)) (bI_f (by simp only [rY]; revert c1; simp only [i_eq, t_1]; (try intros); omega)).symm, rfl⟩)
    · refine gj_aload_n C dX3_isPart_19 rfl ?_
      refine gj_iload_n C dX3_isPart_20 rfl ?_
      refine gj_iload_n C dX3_isPart_21 rfl ?_
      refine gj_cV (As := [.int (nI j), .int (bI cs)]) (rest := []) (nc := 0) (ns := 0) C hV (k_Mfirst l D cI cN cZ cJ f y _ nx en ml ad ga isR r5 _ j e0 cs hW hj hei) dX3_isPart_22 rfl w_460 rfl w_457 w_2 w_459 ws_22 hd_X3_first rfl hW.1.1 rfl ⟨Nat.le_of_ble_eq_true rfl, Nat.le_of_ble_eq_true rfl⟩ (Nat.le_of_ble_eq_true rfl) (by decide) (by decide) (fun v u hp2 => ?_)
      refine gj_rt (st' := [.int (rF cs e0.1)]) hp2.1 hp2.2 rfl ?_
      refine gj_iconst (v := 1) C dX3_isPart_25 (by decide) ?_
      refine gj_icmp_ne (tgt := 42) C dX3_isPart_26 (by decide) (fun c3 => ?_) (fun c3 => ?_)
      · refine gj_iconst (v := 1) C dX3_isPart_42 (by decide) ?_
        refine gj_goto (tgt := 47) C dX3_isPart_43 (by decide) ?_
        exact gj_zret C hr hlk dX3_isPart_47 nz_1 (⟨by rw [ptb_s hei]; exact congrArg (fun z => some (Value.int z)) (bI_t (by simp only [rY]; revert c1 c3; simp only [i_eq, t_1]; (try intros); omega)).symm, rfl⟩)
      · refine gj_aload_n C dX3_isPart_29 rfl ?_
        refine gj_iload_n C dX3_isPart_30 rfl ?_
        refine gj_iload_n C dX3_isPart_31 rfl ?_
        refine gj_cV (As := [.int (nI j), .int (bI cs)]) (rest := []) (nc := 0) (ns := 0) C hV (k_Mlast l D cI cN cZ cJ f y _ nx en ml ad ga isR r5 _ j e0 cs hW hj hei) dX3_isPart_32 rfl w_464 rfl w_461 w_2 w_463 ws_23 hd_X3_last rfl hW.1.1 rfl ⟨Nat.le_of_ble_eq_true rfl, Nat.le_of_ble_eq_true rfl⟩ (Nat.le_of_ble_eq_true rfl) (by decide) (by decide) (fun v u hp4 => ?_)
        refine gj_rt (st' := [.int (rL cs e0.1)]) hp4.1 hp4.2 rfl ?_
        refine gj_iload_n C dX3_isPart_35 rfl ?_
        refine gj_cS (As := [.int (bI cs)]) (rest := [.int (rL cs e0.1)]) (nc := 0) (ns := 0) C hV (k_linesOf l D (tyl cI cN cZ cJ) f cs) dX3_isPart_36 rfl w_452 rfl w_450 w_2 w_451 hd_X3_linesOf rfl ⟨Nat.le_of_ble_eq_true rfl, Nat.le_of_ble_eq_true rfl⟩ (Nat.le_of_ble_eq_true rfl) (by decide) (by decide) (fun v u hp5 => ?_)
        refine gj_rt (st' := [.int (ll cs), .int (rL cs e0.1)]) hp5.1 hp5.2 rfl ?_
        refine gj_icmp_eq (tgt := 46) C dX3_isPart_39 (by decide) (fun c6 => ?_) (fun c6 => ?_)
        · refine gj_iconst (v := 0) C dX3_isPart_46 (by decide) ?_
          exact gj_zret C hr hlk dX3_isPart_47 nz_0 (⟨by rw [ptb_s hei]; exact congrArg (fun z => some (Value.int z)) (bI_f (by simp only [rY]; revert c1 c3 c6; simp only [i_eq, t_1]; (try intros); omega)).symm, rfl⟩)
        · refine gj_iconst (v := 1) C dX3_isPart_42 (by decide) ?_
          refine gj_goto (tgt := 47) C dX3_isPart_43 (by decide) ?_
          exact gj_zret C hr hlk dX3_isPart_47 nz_1 (⟨by rw [ptb_s hei]; exact congrArg (fun z => some (Value.int z)) (bI_t (by simp only [rY]; revert c1 c3 c6; simp only [i_eq, t_1]; (try intros); omega)).symm, rfl⟩)
set_option maxRecDepth 100000 in
set_option maxHeartbeats 4000000 in
theorem k_Mthrown (l : Launch) (D : va_G) (cI cN cZ cJ : ClassId) (f : gm) (y : Nat) (cd : Int32) (nx : Option Rc) (en : Nat → Option En) (ml : List Nat) (ad : Nat → Nat) (ga : Nat → Nat → Int32) (isR : Int32) (r5 : Rc) (ent : Int32) (hW : rpm cI cZ f y cd nx en ml ad ga isR r5 ent) : gk l yX3_thrown (.code yX3_thrown cX3_thrown 1 (Option.some Jvm.ClassFile.FieldType.int)) (rmk 0 0 0) D (tyl cI cN cZ cJ) [.ref y] f (fun v u => v = some (.int cd) ∧ u = f) := by
  refine gk_of [some (.ref y)] (by decide) rfl (Nat.le_of_ble_eq_true rfl) rfl ?_
  intro p e s m args below meth c A C hV hr hlk hnm
  refine gj_aload_n C dX3_thrown_0 rfl ?_
  refine gj_get C dX3_thrown_1 hW.1.1 rfl inX3 0 (by decide) w_329 rfl ?_
  exact gj_iret C hr hlk dX3_thrown_4 (⟨rfl, rfl⟩)
end
section
/-! RangeReadersModel: become, count, remove, rectangle, met, entry, drop. By gen/m28.py. -/
set_option maxRecDepth 100000 in
set_option maxHeartbeats 4000000 in
theorem k_Mbecome (l : Launch) (D : va_G) (cI cN cZ cJ : ClassId) (f : gm) (y : Nat) (cd : Int32) (nx : Option Rc) (en : Nat → Option En) (ml : List Nat) (j : Nat) (e0 : En) (cs : Bool) (a b : Int32) (hR : RpM cI cZ f y cd nx en ml) (hj : j < 4096) (hei : en j = some e0) : gk l yX3_become (.code yX3_become cX3_become 6 (Option.some Jvm.ClassFile.FieldType.int)) (rmk 1 0 0) D (tyl cI cN cZ cJ) [.ref y, .int (nI j), .int (bI cs), .int a, .int b] f (fun v u => v = some (.int (bI (decide (¬ (a = rF cs e0.1 ∧ b = rL cs e0.1))))) ∧ RpM cI cZ u y cd nx (va_up en j (plE cs a b e0)) ml) := by
  refine gk_of [some (.ref y), some (.int (nI j)), some (.int (bI cs)), some (.int a), some (.int b), none] (by decide) rfl (Nat.le_of_ble_eq_true rfl) rfl ?_
  intro p e s m args below meth c A C hV hr hlk hnm
  obtain ⟨ad, ga, isR, r5, hW⟩ := hR
  obtain ⟨g0, g1, g2, g3, g4, g5, g6⟩ := rpm_at hW hj hei
  cases cs
  · refine gj_iload_n C dX3_become_0 rfl ?_
    refine gj_if_eqT (tgt := 33) C dX3_become_1 (by decide) rfl ?_
    refine gj_aload_n C dX3_become_33 rfl ?_
    refine gj_get C dX3_become_34 hW.1.1 rfl inX3 3 (by decide) w_332 rfl ?_
    refine gj_iload_n C dX3_become_37 rfl ?_
    refine gj_ialdN C 0 dX3_become_38 (hW.1.2.2 2 (by decide) (by decide)) rfl hj (by decide) ?_
    refine gj_st (st' := [.int e0.1.2.1]) (by rw [g2]) ?_
    refine gj_iload_n C dX3_become_39 rfl ?_
    refine gj_icmp_ne (tgt := 58) C dX3_become_40 (by decide) (fun c1 => ?_) (fun c1 => ?_)
    · refine gj_iconst (v := 0) C dX3_become_58 (by decide) ?_
      refine gj_istore (lw' := [some (.ref y), some (.int (nI j)), some (.int (bI false)), some (.int a), some (.int b), some (.int 0)]) C dX3_become_59 (by decide) rfl rfl ?_
      refine gj_iload_n C dX3_become_61 rfl ?_
      refine gj_if_eqT (tgt := 83) C dX3_become_62 (by decide) rfl ?_
      refine gj_aload_n C dX3_become_83 rfl ?_
      refine gj_get C dX3_become_84 hW.1.1 rfl inX3 3 (by decide) w_332 rfl ?_
      refine gj_iload_n C dX3_become_87 rfl ?_
      refine gj_iload_n C dX3_become_88 rfl ?_
      refine gj_iastN C 0 dX3_become_89 (hW.1.2.2 2 (by decide) (by decide)) rfl hj (by decide) ?_
      have hW := rpm_st hW hj hei 2 (by decide) (by decide) a
      have hei1 := va_up_self en j (some (setk 2 a e0))
      generalize gm_up f (ad 2) (.inl (cI, 4096, .inl (upd (ga 2) j a))) = f at hW ⊢
      generalize va_up ga 2 (upd (ga 2) j a) = ga at hW
      refine gj_aload_n C dX3_become_90 rfl ?_
      refine gj_get C dX3_become_91 hW.1.1 rfl inX3 5 (by decide) w_334 rfl ?_
      refine gj_iload_n C dX3_become_94 rfl ?_
      refine gj_iload C dX3_become_95 rfl ?_
      refine gj_iastN C 0 dX3_become_97 (hW.1.2.2 4 (by decide) (by decide)) rfl hj (by decide) ?_
      have hW := rpm_st hW hj hei1 4 (by decide) (by decide) b
      have hei1 := va_up_self (va_up en j (some (setk 2 a e0))) j (some (setk 4 b (setk 2 a e0)))
      generalize gm_up f (ad 4) (.inl (cI, 4096, .inl (upd (ga 4) j b))) = f at hW ⊢
      generalize va_up ga 4 (upd (ga 4) j b) = ga at hW
      refine gj_iload_n C dX3_become_98 rfl ?_
      refine gj_iload C dX3_become_99 rfl ?_
      refine gj_icmp_le (tgt := 109) C dX3_become_101 (by decide) (fun c2 => ?_) (fun c2 => ?_)
      · refine gj_iload C dX3_become_109 rfl ?_
        refine gj_if_eqT (tgt := 118) C dX3_become_111 (by decide) rfl ?_
        refine gj_iconst (v := 1) C dX3_become_118 (by decide) ?_
        exact gj_iret C hr hlk dX3_become_119 (⟨congrArg (fun z => some (Value.int z)) (bI_tn (fun h => c1 h.1.symm)).symm, ⟨ad, ga, isR, r5, by rw [plE_s c2, cn_same hei]; rw [bx_uu] at hW; exact hW⟩⟩)
      · refine gj_aload_n C dX3_become_104 rfl ?_
        refine gj_iload_n C dX3_become_105 rfl ?_
        refine gj_cV (As := [.int (nI j)]) (rest := []) (nc := 0) (ns := 0) C hV (k_Mgo l D cI cN cZ cJ f y _ nx _ ml ad _ isR r5 _ j hW hj) dX3_become_106 rfl w_409 rfl w_406 w_2 w_408 ws_17 hd_X3_go rfl hW.1.1 rfl ⟨Nat.le_of_ble_eq_true rfl, Nat.le_of_ble_eq_true rfl⟩ (Nat.le_of_ble_eq_true rfl) (by decide) (by decide) (fun v u hp => ?_)
        refine gj_rt (st' := []) hp.1 hp.2 rfl ?_
        refine gj_iload C dX3_become_109 rfl ?_
        refine gj_if_eqT (tgt := 118) C dX3_become_111 (by decide) rfl ?_
        refine gj_iconst (v := 1) C dX3_become_118 (by decide) ?_
        exact gj_iret C hr hlk dX3_become_119 (⟨congrArg (fun z => some (Value.int z)) (bI_tn (fun h => c1 h.1.symm)).symm, ⟨ad, _, isR, r5, by rw [plE_n c2]; have h9 := rpm_go (by rw [bx_uu, cn_same hei] at *; exact hW) hj hei1; rw [bx_uu, bx_uu] at h9; rw [cn_same hei] at h9; exact h9⟩⟩)
    · refine gj_aload_n C dX3_become_43 rfl ?_
      refine gj_get C dX3_become_44 hW.1.1 rfl inX3 5 (by decide) w_334 rfl ?_
      refine gj_iload_n C dX3_become_47 rfl ?_
      refine gj_ialdN C 0 dX3_become_48 (hW.1.2.2 4 (by decide) (by decide)) rfl hj (by decide) ?_
      refine gj_st (st' := [.int e0.1.2.2.2.1]) (by rw [g4]) ?_
      refine gj_iload C dX3_become_49 rfl ?_
      refine gj_icmp_ne (tgt := 58) C dX3_become_51 (by decide) (fun c3 => ?_) (fun c3 => ?_)
      · refine gj_iconst (v := 0) C dX3_become_58 (by decide) ?_
        refine gj_istore (lw' := [some (.ref y), some (.int (nI j)), some (.int (bI false)), some (.int a), some (.int b), some (.int 0)]) C dX3_become_59 (by decide) rfl rfl ?_
        refine gj_iload_n C dX3_become_61 rfl ?_
        refine gj_if_eqT (tgt := 83) C dX3_become_62 (by decide) rfl ?_
        refine gj_aload_n C dX3_become_83 rfl ?_
        refine gj_get C dX3_become_84 hW.1.1 rfl inX3 3 (by decide) w_332 rfl ?_
        refine gj_iload_n C dX3_become_87 rfl ?_
        refine gj_iload_n C dX3_become_88 rfl ?_
        refine gj_iastN C 0 dX3_become_89 (hW.1.2.2 2 (by decide) (by decide)) rfl hj (by decide) ?_
        have hW := rpm_st hW hj hei 2 (by decide) (by decide) a
        have hei1 := va_up_self en j (some (setk 2 a e0))
        generalize gm_up f (ad 2) (.inl (cI, 4096, .inl (upd (ga 2) j a))) = f at hW ⊢
        generalize va_up ga 2 (upd (ga 2) j a) = ga at hW
        refine gj_aload_n C dX3_become_90 rfl ?_
        refine gj_get C dX3_become_91 hW.1.1 rfl inX3 5 (by decide) w_334 rfl ?_
        refine gj_iload_n C dX3_become_94 rfl ?_
        refine gj_iload C dX3_become_95 rfl ?_
        refine gj_iastN C 0 dX3_become_97 (hW.1.2.2 4 (by decide) (by decide)) rfl hj (by decide) ?_
        have hW := rpm_st hW hj hei1 4 (by decide) (by decide) b
        have hei1 := va_up_self (va_up en j (some (setk 2 a e0))) j (some (setk 4 b (setk 2 a e0)))
        generalize gm_up f (ad 4) (.inl (cI, 4096, .inl (upd (ga 4) j b))) = f at hW ⊢
        generalize va_up ga 4 (upd (ga 4) j b) = ga at hW
        refine gj_iload_n C dX3_become_98 rfl ?_
        refine gj_iload C dX3_become_99 rfl ?_
        refine gj_icmp_le (tgt := 109) C dX3_become_101 (by decide) (fun c4 => ?_) (fun c4 => ?_)
        · refine gj_iload C dX3_become_109 rfl ?_
          refine gj_if_eqT (tgt := 118) C dX3_become_111 (by decide) rfl ?_
          refine gj_iconst (v := 1) C dX3_become_118 (by decide) ?_
          exact gj_iret C hr hlk dX3_become_119 (⟨congrArg (fun z => some (Value.int z)) (bI_tn (fun h => c3 h.2.symm)).symm, ⟨ad, ga, isR, r5, by rw [plE_s c4, cn_same hei]; rw [bx_uu] at hW; exact hW⟩⟩)
        · refine gj_aload_n C dX3_become_104 rfl ?_
          refine gj_iload_n C dX3_become_105 rfl ?_
          refine gj_cV (As := [.int (nI j)]) (rest := []) (nc := 0) (ns := 0) C hV (k_Mgo l D cI cN cZ cJ f y _ nx _ ml ad _ isR r5 _ j hW hj) dX3_become_106 rfl w_409 rfl w_406 w_2 w_408 ws_17 hd_X3_go rfl hW.1.1 rfl ⟨Nat.le_of_ble_eq_true rfl, Nat.le_of_ble_eq_true rfl⟩ (Nat.le_of_ble_eq_true rfl) (by decide) (by decide) (fun v u hp => ?_)
          refine gj_rt (st' := []) hp.1 hp.2 rfl ?_
          refine gj_iload C dX3_become_109 rfl ?_
          refine gj_if_eqT (tgt := 118) C dX3_become_111 (by decide) rfl ?_
          refine gj_iconst (v := 1) C dX3_become_118 (by decide) ?_
          exact gj_iret C hr hlk dX3_become_119 (⟨congrArg (fun z => some (Value.int z)) (bI_tn (fun h => c3 h.2.symm)).symm, ⟨ad, _, isR, r5, by rw [plE_n c4]; have h9 := rpm_go (by rw [bx_uu, cn_same hei] at *; exact hW) hj hei1; rw [bx_uu, bx_uu] at h9; rw [cn_same hei] at h9; exact h9⟩⟩)
      · refine gj_iconst (v := 1) C dX3_become_54 (by decide) ?_
        refine gj_goto (tgt := 59) C dX3_become_55 (by decide) ?_
        refine gj_istore (lw' := [some (.ref y), some (.int (nI j)), some (.int (bI false)), some (.int a), some (.int b), some (.int 1)]) C dX3_become_59 (by decide) rfl rfl ?_
        refine gj_iload_n C dX3_become_61 rfl ?_
        refine gj_if_eqT (tgt := 83) C dX3_become_62 (by decide) rfl ?_
        refine gj_aload_n C dX3_become_83 rfl ?_
        refine gj_get C dX3_become_84 hW.1.1 rfl inX3 3 (by decide) w_332 rfl ?_
        refine gj_iload_n C dX3_become_87 rfl ?_
        refine gj_iload_n C dX3_become_88 rfl ?_
        refine gj_iastN C 0 dX3_become_89 (hW.1.2.2 2 (by decide) (by decide)) rfl hj (by decide) ?_
        have hW := rpm_st hW hj hei 2 (by decide) (by decide) a
        have hei1 := va_up_self en j (some (setk 2 a e0))
        generalize gm_up f (ad 2) (.inl (cI, 4096, .inl (upd (ga 2) j a))) = f at hW ⊢
        generalize va_up ga 2 (upd (ga 2) j a) = ga at hW
        refine gj_aload_n C dX3_become_90 rfl ?_
        refine gj_get C dX3_become_91 hW.1.1 rfl inX3 5 (by decide) w_334 rfl ?_
        refine gj_iload_n C dX3_become_94 rfl ?_
        refine gj_iload C dX3_become_95 rfl ?_
        refine gj_iastN C 0 dX3_become_97 (hW.1.2.2 4 (by decide) (by decide)) rfl hj (by decide) ?_
        have hW := rpm_st hW hj hei1 4 (by decide) (by decide) b
        have hei1 := va_up_self (va_up en j (some (setk 2 a e0))) j (some (setk 4 b (setk 2 a e0)))
        generalize gm_up f (ad 4) (.inl (cI, 4096, .inl (upd (ga 4) j b))) = f at hW ⊢
        generalize va_up ga 4 (upd (ga 4) j b) = ga at hW
        refine gj_iload_n C dX3_become_98 rfl ?_
        refine gj_iload C dX3_become_99 rfl ?_
        refine gj_icmp_le (tgt := 109) C dX3_become_101 (by decide) (fun c5 => ?_) (fun c5 => ?_)
        · refine gj_iload C dX3_become_109 rfl ?_
          refine gj_if_eqF (tgt := 118) C dX3_become_111 (by decide) (by decide) ?_
          refine gj_iconst (v := 0) C dX3_become_114 (by decide) ?_
          refine gj_goto (tgt := 119) C dX3_become_115 (by decide) ?_
          exact gj_iret C hr hlk dX3_become_119 (⟨congrArg (fun z => some (Value.int z)) (bI_fn ⟨c1.symm, c3.symm⟩).symm, ⟨ad, ga, isR, r5, by rw [plE_s c5, cn_same hei]; rw [bx_uu] at hW; exact hW⟩⟩)
        · refine gj_aload_n C dX3_become_104 rfl ?_
          refine gj_iload_n C dX3_become_105 rfl ?_
          refine gj_cV (As := [.int (nI j)]) (rest := []) (nc := 0) (ns := 0) C hV (k_Mgo l D cI cN cZ cJ f y _ nx _ ml ad _ isR r5 _ j hW hj) dX3_become_106 rfl w_409 rfl w_406 w_2 w_408 ws_17 hd_X3_go rfl hW.1.1 rfl ⟨Nat.le_of_ble_eq_true rfl, Nat.le_of_ble_eq_true rfl⟩ (Nat.le_of_ble_eq_true rfl) (by decide) (by decide) (fun v u hp => ?_)
          refine gj_rt (st' := []) hp.1 hp.2 rfl ?_
          refine gj_iload C dX3_become_109 rfl ?_
          refine gj_if_eqF (tgt := 118) C dX3_become_111 (by decide) (by decide) ?_
          refine gj_iconst (v := 0) C dX3_become_114 (by decide) ?_
          refine gj_goto (tgt := 119) C dX3_become_115 (by decide) ?_
          exact gj_iret C hr hlk dX3_become_119 (⟨congrArg (fun z => some (Value.int z)) (bI_fn ⟨c1.symm, c3.symm⟩).symm, ⟨ad, _, isR, r5, by rw [plE_n c5]; have h9 := rpm_go (by rw [bx_uu, cn_same hei] at *; exact hW) hj hei1; rw [bx_uu, bx_uu] at h9; rw [cn_same hei] at h9; exact h9⟩⟩)
  · refine gj_iload_n C dX3_become_0 rfl ?_
    refine gj_if_eqF (tgt := 33) C dX3_become_1 (by decide) (by decide) ?_
    refine gj_aload_n C dX3_become_4 rfl ?_
    refine gj_get C dX3_become_5 hW.1.1 rfl inX3 4 (by decide) w_333 rfl ?_
    refine gj_iload_n C dX3_become_8 rfl ?_
    refine gj_ialdN C 0 dX3_become_9 (hW.1.2.2 3 (by decide) (by decide)) rfl hj (by decide) ?_
    refine gj_st (st' := [.int e0.1.2.2.1]) (by rw [g3]) ?_
    refine gj_iload_n C dX3_become_10 rfl ?_
    refine gj_icmp_ne (tgt := 29) C dX3_become_11 (by decide) (fun c6 => ?_) (fun c6 => ?_)
    · refine gj_iconst (v := 0) C dX3_become_29 (by decide) ?_
      refine gj_goto (tgt := 59) C dX3_become_30 (by decide) ?_
      refine gj_istore (lw' := [some (.ref y), some (.int (nI j)), some (.int (bI true)), some (.int a), some (.int b), some (.int 0)]) C dX3_become_59 (by decide) rfl rfl ?_
      refine gj_iload_n C dX3_become_61 rfl ?_
      refine gj_if_eqF (tgt := 83) C dX3_become_62 (by decide) (by decide) ?_
      refine gj_aload_n C dX3_become_65 rfl ?_
      refine gj_get C dX3_become_66 hW.1.1 rfl inX3 4 (by decide) w_333 rfl ?_
      refine gj_iload_n C dX3_become_69 rfl ?_
      refine gj_iload_n C dX3_become_70 rfl ?_
      refine gj_iastN C 0 dX3_become_71 (hW.1.2.2 3 (by decide) (by decide)) rfl hj (by decide) ?_
      have hW := rpm_st hW hj hei 3 (by decide) (by decide) a
      have hei1 := va_up_self en j (some (setk 3 a e0))
      generalize gm_up f (ad 3) (.inl (cI, 4096, .inl (upd (ga 3) j a))) = f at hW ⊢
      generalize va_up ga 3 (upd (ga 3) j a) = ga at hW
      refine gj_aload_n C dX3_become_72 rfl ?_
      refine gj_get C dX3_become_73 hW.1.1 rfl inX3 6 (by decide) w_335 rfl ?_
      refine gj_iload_n C dX3_become_76 rfl ?_
      refine gj_iload C dX3_become_77 rfl ?_
      refine gj_iastN C 0 dX3_become_79 (hW.1.2.2 5 (by decide) (by decide)) rfl hj (by decide) ?_
      have hW := rpm_st hW hj hei1 5 (by decide) (by decide) b
      have hei1 := va_up_self (va_up en j (some (setk 3 a e0))) j (some (setk 5 b (setk 3 a e0)))
      generalize gm_up f (ad 5) (.inl (cI, 4096, .inl (upd (ga 5) j b))) = f at hW ⊢
      generalize va_up ga 5 (upd (ga 5) j b) = ga at hW
      refine gj_goto (tgt := 98) C dX3_become_80 (by decide) ?_
      refine gj_iload_n C dX3_become_98 rfl ?_
      refine gj_iload C dX3_become_99 rfl ?_
      refine gj_icmp_le (tgt := 109) C dX3_become_101 (by decide) (fun c7 => ?_) (fun c7 => ?_)
      · refine gj_iload C dX3_become_109 rfl ?_
        refine gj_if_eqT (tgt := 118) C dX3_become_111 (by decide) rfl ?_
        refine gj_iconst (v := 1) C dX3_become_118 (by decide) ?_
        exact gj_iret C hr hlk dX3_become_119 (⟨congrArg (fun z => some (Value.int z)) (bI_tn (fun h => c6 h.1.symm)).symm, ⟨ad, ga, isR, r5, by rw [plE_s c7, cn_same hei]; rw [bx_uu] at hW; exact hW⟩⟩)
      · refine gj_aload_n C dX3_become_104 rfl ?_
        refine gj_iload_n C dX3_become_105 rfl ?_
        refine gj_cV (As := [.int (nI j)]) (rest := []) (nc := 0) (ns := 0) C hV (k_Mgo l D cI cN cZ cJ f y _ nx _ ml ad _ isR r5 _ j hW hj) dX3_become_106 rfl w_409 rfl w_406 w_2 w_408 ws_17 hd_X3_go rfl hW.1.1 rfl ⟨Nat.le_of_ble_eq_true rfl, Nat.le_of_ble_eq_true rfl⟩ (Nat.le_of_ble_eq_true rfl) (by decide) (by decide) (fun v u hp => ?_)
        refine gj_rt (st' := []) hp.1 hp.2 rfl ?_
        refine gj_iload C dX3_become_109 rfl ?_
        refine gj_if_eqT (tgt := 118) C dX3_become_111 (by decide) rfl ?_
        refine gj_iconst (v := 1) C dX3_become_118 (by decide) ?_
        exact gj_iret C hr hlk dX3_become_119 (⟨congrArg (fun z => some (Value.int z)) (bI_tn (fun h => c6 h.1.symm)).symm, ⟨ad, _, isR, r5, by rw [plE_n c7]; have h9 := rpm_go (by rw [bx_uu, cn_same hei] at *; exact hW) hj hei1; rw [bx_uu, bx_uu] at h9; rw [cn_same hei] at h9; exact h9⟩⟩)
    · refine gj_aload_n C dX3_become_14 rfl ?_
      refine gj_get C dX3_become_15 hW.1.1 rfl inX3 6 (by decide) w_335 rfl ?_
      refine gj_iload_n C dX3_become_18 rfl ?_
      refine gj_ialdN C 0 dX3_become_19 (hW.1.2.2 5 (by decide) (by decide)) rfl hj (by decide) ?_
      refine gj_st (st' := [.int e0.1.2.2.2.2]) (by rw [g5]) ?_
      refine gj_iload C dX3_become_20 rfl ?_
      refine gj_icmp_ne (tgt := 29) C dX3_become_22 (by decide) (fun c8 => ?_) (fun c8 => ?_)
      · refine gj_iconst (v := 0) C dX3_become_29 (by decide) ?_
        refine gj_goto (tgt := 59) C dX3_become_30 (by decide) ?_
        refine gj_istore (lw' := [some (.ref y), some (.int (nI j)), some (.int (bI true)), some (.int a), some (.int b), some (.int 0)]) C dX3_become_59 (by decide) rfl rfl ?_
        refine gj_iload_n C dX3_become_61 rfl ?_
        refine gj_if_eqF (tgt := 83) C dX3_become_62 (by decide) (by decide) ?_
        refine gj_aload_n C dX3_become_65 rfl ?_
        refine gj_get C dX3_become_66 hW.1.1 rfl inX3 4 (by decide) w_333 rfl ?_
        refine gj_iload_n C dX3_become_69 rfl ?_
        refine gj_iload_n C dX3_become_70 rfl ?_
        refine gj_iastN C 0 dX3_become_71 (hW.1.2.2 3 (by decide) (by decide)) rfl hj (by decide) ?_
        have hW := rpm_st hW hj hei 3 (by decide) (by decide) a
        have hei1 := va_up_self en j (some (setk 3 a e0))
        generalize gm_up f (ad 3) (.inl (cI, 4096, .inl (upd (ga 3) j a))) = f at hW ⊢
        generalize va_up ga 3 (upd (ga 3) j a) = ga at hW
        refine gj_aload_n C dX3_become_72 rfl ?_
        refine gj_get C dX3_become_73 hW.1.1 rfl inX3 6 (by decide) w_335 rfl ?_
        refine gj_iload_n C dX3_become_76 rfl ?_
        refine gj_iload C dX3_become_77 rfl ?_
        refine gj_iastN C 0 dX3_become_79 (hW.1.2.2 5 (by decide) (by decide)) rfl hj (by decide) ?_
        have hW := rpm_st hW hj hei1 5 (by decide) (by decide) b
        have hei1 := va_up_self (va_up en j (some (setk 3 a e0))) j (some (setk 5 b (setk 3 a e0)))
        generalize gm_up f (ad 5) (.inl (cI, 4096, .inl (upd (ga 5) j b))) = f at hW ⊢
        generalize va_up ga 5 (upd (ga 5) j b) = ga at hW
        refine gj_goto (tgt := 98) C dX3_become_80 (by decide) ?_
        refine gj_iload_n C dX3_become_98 rfl ?_
        refine gj_iload C dX3_become_99 rfl ?_
        refine gj_icmp_le (tgt := 109) C dX3_become_101 (by decide) (fun c9 => ?_) (fun c9 => ?_)
        · refine gj_iload C dX3_become_109 rfl ?_
          refine gj_if_eqT (tgt := 118) C dX3_become_111 (by decide) rfl ?_
          refine gj_iconst (v := 1) C dX3_become_118 (by decide) ?_
          exact gj_iret C hr hlk dX3_become_119 (⟨congrArg (fun z => some (Value.int z)) (bI_tn (fun h => c8 h.2.symm)).symm, ⟨ad, ga, isR, r5, by rw [plE_s c9, cn_same hei]; rw [bx_uu] at hW; exact hW⟩⟩)
        · refine gj_aload_n C dX3_become_104 rfl ?_
          refine gj_iload_n C dX3_become_105 rfl ?_
          refine gj_cV (As := [.int (nI j)]) (rest := []) (nc := 0) (ns := 0) C hV (k_Mgo l D cI cN cZ cJ f y _ nx _ ml ad _ isR r5 _ j hW hj) dX3_become_106 rfl w_409 rfl w_406 w_2 w_408 ws_17 hd_X3_go rfl hW.1.1 rfl ⟨Nat.le_of_ble_eq_true rfl, Nat.le_of_ble_eq_true rfl⟩ (Nat.le_of_ble_eq_true rfl) (by decide) (by decide) (fun v u hp => ?_)
          refine gj_rt (st' := []) hp.1 hp.2 rfl ?_
          refine gj_iload C dX3_become_109 rfl ?_
          refine gj_if_eqT (tgt := 118) C dX3_become_111 (by decide) rfl ?_
          refine gj_iconst (v := 1) C dX3_become_118 (by decide) ?_
          exact gj_iret C hr hlk dX3_become_119 (⟨congrArg (fun z => some (Value.int z)) (bI_tn (fun h => c8 h.2.symm)).symm, ⟨ad, _, isR, r5, by rw [plE_n c9]; have h9 := rpm_go (by rw [bx_uu, cn_same hei] at *; exact hW) hj hei1; rw [bx_uu, bx_uu] at h9; rw [cn_same hei] at h9; exact h9⟩⟩)
      · refine gj_iconst (v := 1) C dX3_become_25 (by decide) ?_
        refine gj_goto (tgt := 59) C dX3_become_26 (by decide) ?_
        refine gj_istore (lw' := [some (.ref y), some (.int (nI j)), some (.int (bI true)), some (.int a), some (.int b), some (.int 1)]) C dX3_become_59 (by decide) rfl rfl ?_
        refine gj_iload_n C dX3_become_61 rfl ?_
        refine gj_if_eqF (tgt := 83) C dX3_become_62 (by decide) (by decide) ?_
        refine gj_aload_n C dX3_become_65 rfl ?_
        refine gj_get C dX3_become_66 hW.1.1 rfl inX3 4 (by decide) w_333 rfl ?_
        refine gj_iload_n C dX3_become_69 rfl ?_
        refine gj_iload_n C dX3_become_70 rfl ?_
        refine gj_iastN C 0 dX3_become_71 (hW.1.2.2 3 (by decide) (by decide)) rfl hj (by decide) ?_
        have hW := rpm_st hW hj hei 3 (by decide) (by decide) a
        have hei1 := va_up_self en j (some (setk 3 a e0))
        generalize gm_up f (ad 3) (.inl (cI, 4096, .inl (upd (ga 3) j a))) = f at hW ⊢
        generalize va_up ga 3 (upd (ga 3) j a) = ga at hW
        refine gj_aload_n C dX3_become_72 rfl ?_
        refine gj_get C dX3_become_73 hW.1.1 rfl inX3 6 (by decide) w_335 rfl ?_
        refine gj_iload_n C dX3_become_76 rfl ?_
        refine gj_iload C dX3_become_77 rfl ?_
        refine gj_iastN C 0 dX3_become_79 (hW.1.2.2 5 (by decide) (by decide)) rfl hj (by decide) ?_
        have hW := rpm_st hW hj hei1 5 (by decide) (by decide) b
        have hei1 := va_up_self (va_up en j (some (setk 3 a e0))) j (some (setk 5 b (setk 3 a e0)))
        generalize gm_up f (ad 5) (.inl (cI, 4096, .inl (upd (ga 5) j b))) = f at hW ⊢
        generalize va_up ga 5 (upd (ga 5) j b) = ga at hW
        refine gj_goto (tgt := 98) C dX3_become_80 (by decide) ?_
        refine gj_iload_n C dX3_become_98 rfl ?_
        refine gj_iload C dX3_become_99 rfl ?_
        refine gj_icmp_le (tgt := 109) C dX3_become_101 (by decide) (fun c10 => ?_) (fun c10 => ?_)
        · refine gj_iload C dX3_become_109 rfl ?_
          refine gj_if_eqF (tgt := 118) C dX3_become_111 (by decide) (by decide) ?_
          refine gj_iconst (v := 0) C dX3_become_114 (by decide) ?_
          refine gj_goto (tgt := 119) C dX3_become_115 (by decide) ?_
          exact gj_iret C hr hlk dX3_become_119 (⟨congrArg (fun z => some (Value.int z)) (bI_fn ⟨c6.symm, c8.symm⟩).symm, ⟨ad, ga, isR, r5, by rw [plE_s c10, cn_same hei]; rw [bx_uu] at hW; exact hW⟩⟩)
        · refine gj_aload_n C dX3_become_104 rfl ?_
          refine gj_iload_n C dX3_become_105 rfl ?_
          refine gj_cV (As := [.int (nI j)]) (rest := []) (nc := 0) (ns := 0) C hV (k_Mgo l D cI cN cZ cJ f y _ nx _ ml ad _ isR r5 _ j hW hj) dX3_become_106 rfl w_409 rfl w_406 w_2 w_408 ws_17 hd_X3_go rfl hW.1.1 rfl ⟨Nat.le_of_ble_eq_true rfl, Nat.le_of_ble_eq_true rfl⟩ (Nat.le_of_ble_eq_true rfl) (by decide) (by decide) (fun v u hp => ?_)
          refine gj_rt (st' := []) hp.1 hp.2 rfl ?_
          refine gj_iload C dX3_become_109 rfl ?_
          refine gj_if_eqF (tgt := 118) C dX3_become_111 (by decide) (by decide) ?_
          refine gj_iconst (v := 0) C dX3_become_114 (by decide) ?_
          refine gj_goto (tgt := 119) C dX3_become_115 (by decide) ?_
          exact gj_iret C hr hlk dX3_become_119 (⟨congrArg (fun z => some (Value.int z)) (bI_fn ⟨c6.symm, c8.symm⟩).symm, ⟨ad, _, isR, r5, by rw [plE_n c10]; have h9 := rpm_go (by rw [bx_uu, cn_same hei] at *; exact hW) hj hei1; rw [bx_uu, bx_uu] at h9; rw [cn_same hei] at h9; exact h9⟩⟩)
set_option maxRecDepth 100000 in
set_option maxHeartbeats 4000000 in
theorem k_Mcount (l : Launch) (D : va_G) (cI cN cZ cJ : ClassId) (f : gm) (y : Nat) (cd : Int32) (nx : Option Rc) (en : Nat → Option En) (ml : List Nat) (hR : RpM cI cZ f y cd nx en ml) : gk l yX3_count (.code yX3_count cX3_count 1 (Option.some Jvm.ClassFile.FieldType.int)) (rmk 0 0 0) D (tyl cI cN cZ cJ) [.ref y] f (fun v u => v = some (.int (nI (cn en 4096))) ∧ RpM cI cZ u y 0 nx en ml) := by
  refine gk_of [some (.ref y)] (by decide) rfl (Nat.le_of_ble_eq_true rfl) rfl ?_
  intro p e s m args below meth c A C hV hr hlk hnm
  obtain ⟨ad, ga, isR, r5, hW⟩ := hR
  refine gj_aload_n C dX3_count_0 rfl ?_
  refine gj_iconst (v := 0) C dX3_count_1 (by decide) ?_
  refine gj_put C dX3_count_2 hW.1.1 rfl inX3 tyX3_ok nmX3 0 (by decide) w_329 rfl rfl rfl (Nat.le_of_ble_eq_true rfl) ?_
  refine gj_f (f' := gm_up f y (cMo 0 ad (nI (cn en 4096)) isR r5 (nI ml.length))) rfl ?_
  have hW := rpm_cd hW 0 (nI (cn en 4096))
  generalize gm_up f y (cMo 0 ad (nI (cn en 4096)) isR r5 (nI ml.length)) = f at hW ⊢
  refine gj_aload_n C dX3_count_5 rfl ?_
  refine gj_get C dX3_count_6 hW.1.1 rfl inX3 8 (by decide) w_337 rfl ?_
  exact gj_iret C hr hlk dX3_count_9 (⟨rfl, ⟨ad, ga, isR, r5, hW⟩⟩)
set_option maxRecDepth 100000 in
set_option maxHeartbeats 4000000 in
theorem k_Mremove (l : Launch) (D : va_G) (cI cN cZ cJ : ClassId) (f : gm) (y : Nat) (cd : Int32) (nx : Option Rc) (en : Nat → Option En) (ml : List Nat) (num : Int32) (hR : RpM cI cZ f y cd nx en ml) : gk l yX3_remove (.code yX3_remove cX3_remove 2 (Option.some Jvm.ClassFile.FieldType.boolean)) (rmk 1 0 0) D (tyl cI cN cZ cJ) [.ref y, .int num] f (fun v u => v = some (.int (bI (thr en num))) ∧ RpM cI cZ u y 0 nx (rmE en num) ml) := by
  refine gk_of [some (.ref y), some (.int num)] (by decide) rfl (Nat.le_of_ble_eq_true rfl) rfl ?_
  intro p e s m args below meth c A C hV hr hlk hnm
  obtain ⟨ad, ga, isR, r5, hW⟩ := hR
  refine gj_aload_n C dX3_remove_0 rfl ?_
  refine gj_iconst (v := 0) C dX3_remove_1 (by decide) ?_
  refine gj_put C dX3_remove_2 hW.1.1 rfl inX3 tyX3_ok nmX3 0 (by decide) w_329 rfl rfl rfl (Nat.le_of_ble_eq_true rfl) ?_
  refine gj_f (f' := gm_up f y (cMo 0 ad (nI (cn en 4096)) isR r5 (nI ml.length))) rfl ?_
  have hW := rpm_cd hW 0 (nI (cn en 4096))
  generalize gm_up f y (cMo 0 ad (nI (cn en 4096)) isR r5 (nI ml.length)) = f at hW ⊢
  refine gj_aload_n C dX3_remove_5 rfl ?_
  refine gj_iload_n C dX3_remove_6 rfl ?_
  refine gj_cV (As := [.int num]) (rest := []) (nc := 0) (ns := 0) C hV (k_MisThere l D cI cN cZ cJ f y _ nx en ml ad ga isR r5 _ num hW) dX3_remove_7 rfl w_405 rfl w_402 w_2 w_404 ws_16 hd_X3_isThere rfl hW.1.1 rfl ⟨Nat.le_of_ble_eq_true rfl, Nat.le_of_ble_eq_true rfl⟩ (Nat.le_of_ble_eq_true rfl) (by decide) (by decide) (fun v u hp1 => ?_)
  refine gj_rt (st' := [.int (bI (thr en num))]) hp1.1 hp1.2 rfl ?_
  refine gj_if_ne (tgt := 15) C dX3_remove_10 (by decide) (fun c2 => ?_) (fun c2 => ?_)
  · obtain ⟨j, e0, hj, rfl, hei⟩ := thr_ex (bI_b1 c2) hW.2.2.2.2.1
    refine gj_aload_n C dX3_remove_15 rfl ?_
    refine gj_iload_n C dX3_remove_16 rfl ?_
    refine gj_cV (As := [.int (nI j)]) (rest := []) (nc := 0) (ns := 0) C hV (k_Mgo l D cI cN cZ cJ f y _ nx _ ml ad _ isR r5 _ j hW hj) dX3_remove_17 rfl w_409 rfl w_406 w_2 w_408 ws_17 hd_X3_go rfl hW.1.1 rfl ⟨Nat.le_of_ble_eq_true rfl, Nat.le_of_ble_eq_true rfl⟩ (Nat.le_of_ble_eq_true rfl) (by decide) (by decide) (fun v u hp => ?_)
    refine gj_rt (st' := []) hp.1 hp.2 rfl ?_
    refine gj_iconst (v := 1) C dX3_remove_20 (by decide) ?_
    exact gj_zret C hr hlk dX3_remove_21 nz_1 (⟨by rw [bI_b1 c2] <;> rfl, by rw [rmE_nI (by omega) hei]; exact ⟨ad, _, isR, r5, rpm_go hW hj hei⟩⟩)
  · refine gj_iconst (v := 0) C dX3_remove_13 (by decide) ?_
    exact gj_zret C hr hlk dX3_remove_14 nz_0 (⟨by rw [bI_b0 c2] <;> rfl, by rw [rmE_f (bI_b0 c2)]; exact ⟨ad, ga, isR, r5, hW⟩⟩)
set_option maxRecDepth 100000 in
set_option maxHeartbeats 4000000 in
theorem k_Mentry (l : Launch) (D : va_G) (cI cN cZ cJ : ClassId) (f : gm) (y : Nat) (cd : Int32) (nx : Option Rc) (en : Nat → Option En) (ml : List Nat) (num wh : Int32) (hR : RpM cI cZ f y cd nx en ml) : gk l yX3_entry (.code yX3_entry cX3_entry 3 (Option.some Jvm.ClassFile.FieldType.int)) (rmk 1 0 0) D (tyl cI cN cZ cJ) [.ref y, .int num, .int wh] f (fun v u => v = some (.int (enA en num wh)) ∧ RpM cI cZ u y 0 nx en ml) := by
  refine gk_of [some (.ref y), some (.int num), some (.int wh)] (by decide) rfl (Nat.le_of_ble_eq_true rfl) rfl ?_
  intro p e s m args below meth c A C hV hr hlk hnm
  obtain ⟨ad, ga, isR, r5, hW⟩ := hR
  refine gj_aload_n C dX3_entry_0 rfl ?_
  refine gj_iconst (v := 0) C dX3_entry_1 (by decide) ?_
  refine gj_put C dX3_entry_2 hW.1.1 rfl inX3 tyX3_ok nmX3 0 (by decide) w_329 rfl rfl rfl (Nat.le_of_ble_eq_true rfl) ?_
  refine gj_f (f' := gm_up f y (cMo 0 ad (nI (cn en 4096)) isR r5 (nI ml.length))) rfl ?_
  have hW := rpm_cd hW 0 (nI (cn en 4096))
  generalize gm_up f y (cMo 0 ad (nI (cn en 4096)) isR r5 (nI ml.length)) = f at hW ⊢
  refine gj_aload_n C dX3_entry_5 rfl ?_
  refine gj_iload_n C dX3_entry_6 rfl ?_
  refine gj_cV (As := [.int num]) (rest := []) (nc := 0) (ns := 0) C hV (k_MisThere l D cI cN cZ cJ f y _ nx en ml ad ga isR r5 _ num hW) dX3_entry_7 rfl w_405 rfl w_402 w_2 w_404 ws_16 hd_X3_isThere rfl hW.1.1 rfl ⟨Nat.le_of_ble_eq_true rfl, Nat.le_of_ble_eq_true rfl⟩ (Nat.le_of_ble_eq_true rfl) (by decide) (by decide) (fun v u hp1 => ?_)
  refine gj_rt (st' := [.int (bI (thr en num))]) hp1.1 hp1.2 rfl ?_
  refine gj_if_ne (tgt := 15) C dX3_entry_10 (by decide) (fun c2 => ?_) (fun c2 => ?_)
  · obtain ⟨j, e0, hj, rfl, hei⟩ := thr_ex (bI_b1 c2) hW.2.2.2.2.1
    obtain ⟨g0, g1, g2, g3, g4, g5, g6⟩ := rpm_at hW hj hei
    refine gj_iload_n C dX3_entry_15 rfl ?_
    rcases sw6 wh with rfl | rfl | rfl | rfl | rfl | rfl | hw
    · refine gj_tabIn (off := 40) (tgt := 56) C dX3_entry_16 (by decide) (by decide) (by decide) (by decide) ?_
      refine gj_aload_n C dX3_entry_56 rfl ?_
      refine gj_get C dX3_entry_57 hW.1.1 rfl inX3 2 (by decide) w_331 rfl ?_
      refine gj_iload_n C dX3_entry_60 rfl ?_
      refine gj_ialdN C 0 dX3_entry_61 (hW.1.2.2 1 (by decide) (by decide)) rfl hj (by decide) ?_
      refine gj_st (st' := [.int e0.1.1]) (by rw [g1]) ?_
      exact gj_iret C hr hlk dX3_entry_62 (⟨by rw [enA_nI (by omega) hei]; rfl, ⟨ad, ga, isR, r5, hW⟩⟩)
    · refine gj_tabIn (off := 47) (tgt := 63) C dX3_entry_16 (by decide) (by decide) (by decide) (by decide) ?_
      refine gj_aload_n C dX3_entry_63 rfl ?_
      refine gj_get C dX3_entry_64 hW.1.1 rfl inX3 3 (by decide) w_332 rfl ?_
      refine gj_iload_n C dX3_entry_67 rfl ?_
      refine gj_ialdN C 0 dX3_entry_68 (hW.1.2.2 2 (by decide) (by decide)) rfl hj (by decide) ?_
      refine gj_st (st' := [.int e0.1.2.1]) (by rw [g2]) ?_
      exact gj_iret C hr hlk dX3_entry_69 (⟨by rw [enA_nI (by omega) hei]; rfl, ⟨ad, ga, isR, r5, hW⟩⟩)
    · refine gj_tabIn (off := 54) (tgt := 70) C dX3_entry_16 (by decide) (by decide) (by decide) (by decide) ?_
      refine gj_aload_n C dX3_entry_70 rfl ?_
      refine gj_get C dX3_entry_71 hW.1.1 rfl inX3 4 (by decide) w_333 rfl ?_
      refine gj_iload_n C dX3_entry_74 rfl ?_
      refine gj_ialdN C 0 dX3_entry_75 (hW.1.2.2 3 (by decide) (by decide)) rfl hj (by decide) ?_
      refine gj_st (st' := [.int e0.1.2.2.1]) (by rw [g3]) ?_
      exact gj_iret C hr hlk dX3_entry_76 (⟨by rw [enA_nI (by omega) hei]; rfl, ⟨ad, ga, isR, r5, hW⟩⟩)
    · refine gj_tabIn (off := 61) (tgt := 77) C dX3_entry_16 (by decide) (by decide) (by decide) (by decide) ?_
      refine gj_aload_n C dX3_entry_77 rfl ?_
      refine gj_get C dX3_entry_78 hW.1.1 rfl inX3 5 (by decide) w_334 rfl ?_
      refine gj_iload_n C dX3_entry_81 rfl ?_
      refine gj_ialdN C 0 dX3_entry_82 (hW.1.2.2 4 (by decide) (by decide)) rfl hj (by decide) ?_
      refine gj_st (st' := [.int e0.1.2.2.2.1]) (by rw [g4]) ?_
      exact gj_iret C hr hlk dX3_entry_83 (⟨by rw [enA_nI (by omega) hei]; rfl, ⟨ad, ga, isR, r5, hW⟩⟩)
    · refine gj_tabIn (off := 68) (tgt := 84) C dX3_entry_16 (by decide) (by decide) (by decide) (by decide) ?_
      refine gj_aload_n C dX3_entry_84 rfl ?_
      refine gj_get C dX3_entry_85 hW.1.1 rfl inX3 6 (by decide) w_335 rfl ?_
      refine gj_iload_n C dX3_entry_88 rfl ?_
      refine gj_ialdN C 0 dX3_entry_89 (hW.1.2.2 5 (by decide) (by decide)) rfl hj (by decide) ?_
      refine gj_st (st' := [.int e0.1.2.2.2.2]) (by rw [g5]) ?_
      exact gj_iret C hr hlk dX3_entry_90 (⟨by rw [enA_nI (by omega) hei]; rfl, ⟨ad, ga, isR, r5, hW⟩⟩)
    · refine gj_tabIn (off := 75) (tgt := 91) C dX3_entry_16 (by decide) (by decide) (by decide) (by decide) ?_
      refine gj_aload_n C dX3_entry_91 rfl ?_
      refine gj_get C dX3_entry_92 hW.1.1 rfl inX3 7 (by decide) w_336 rfl ?_
      refine gj_iload_n C dX3_entry_95 rfl ?_
      refine gj_ialdN C 0 dX3_entry_96 (hW.1.2.2 6 (by decide) (by decide)) rfl hj (by decide) ?_
      refine gj_st (st' := [.int e0.2]) (by rw [g6]) ?_
      exact gj_iret C hr hlk dX3_entry_97 (⟨by rw [enA_nI (by omega) hei]; rfl, ⟨ad, ga, isR, r5, hW⟩⟩)
    · refine gj_tabOut (tgt := 98) C dX3_entry_16 hw (by decide) ?_
      refine gj_iconst (v := (-1)) C dX3_entry_98 (by decide) ?_
      exact gj_iret C hr hlk dX3_entry_99 (⟨by rw [enA_nI (by omega) hei, enV_out hw], ⟨ad, ga, isR, r5, hW⟩⟩)
  · refine gj_iconst (v := (-1)) C dX3_entry_13 (by decide) ?_
    exact gj_iret C hr hlk dX3_entry_14 (⟨by rw [enA_no (bI_b0 c2)], ⟨ad, ga, isR, r5, hW⟩⟩)
set_option maxRecDepth 100000 in
set_option maxHeartbeats 4000000 in
theorem k_Mmet (l : Launch) (D : va_G) (cI cN cZ cJ : ClassId) (f : gm) (y : Nat) (cd : Int32) (nx : Option Rc) (en : Nat → Option En) (ml : List Nat) (num : Int32) (hR : RpM cI cZ f y cd nx en ml) : gk l yX3_met (.code yX3_met cX3_met 2 (Option.some Jvm.ClassFile.FieldType.int)) (rmk 0 0 0) D (tyl cI cN cZ cJ) [.ref y, .int num] f (fun v u => v = some (.int (mtA ml num)) ∧ RpM cI cZ u y 0 nx en ml) := by
  refine gk_of [some (.ref y), some (.int num)] (by decide) rfl (Nat.le_of_ble_eq_true rfl) rfl ?_
  intro p e s m args below meth c A C hV hr hlk hnm
  obtain ⟨ad, ga, isR, r5, hW⟩ := hR
  have hl : ml.length ≤ 4096 := hW.2.2.2.2.2.1
  rcases pk_ix num (n := ml.length) (by omega) with hh | hh | ⟨j, hj, rfl⟩
  · refine gj_aload_n C dX3_met_0 rfl ?_
    refine gj_iconst (v := 0) C dX3_met_1 (by decide) ?_
    refine gj_put C dX3_met_2 hW.1.1 rfl inX3 tyX3_ok nmX3 0 (by decide) w_329 rfl rfl rfl (Nat.le_of_ble_eq_true rfl) ?_
    refine gj_f (f' := gm_up f y (cMo 0 ad (nI (cn en 4096)) isR r5 (nI ml.length))) rfl ?_
    have hW := rpm_cd hW 0 (nI (cn en 4096))
    generalize gm_up f y (cMo 0 ad (nI (cn en 4096)) isR r5 (nI ml.length)) = f at hW ⊢
    refine gj_iload_n C dX3_met_5 rfl ?_
    refine gj_if_ltT (tgt := 26) C dX3_met_6 (by decide) hh ?_
    refine gj_iconst (v := (-1)) C dX3_met_26 (by decide) ?_
    exact gj_iret C hr hlk dX3_met_27 (⟨by rw [mtA_neg hh], ⟨ad, ga, isR, r5, hW⟩⟩)
  · refine gj_aload_n C dX3_met_0 rfl ?_
    refine gj_iconst (v := 0) C dX3_met_1 (by decide) ?_
    refine gj_put C dX3_met_2 hW.1.1 rfl inX3 tyX3_ok nmX3 0 (by decide) w_329 rfl rfl rfl (Nat.le_of_ble_eq_true rfl) ?_
    refine gj_f (f' := gm_up f y (cMo 0 ad (nI (cn en 4096)) isR r5 (nI ml.length))) rfl ?_
    have hW := rpm_cd hW 0 (nI (cn en 4096))
    generalize gm_up f y (cMo 0 ad (nI (cn en 4096)) isR r5 (nI ml.length)) = f at hW ⊢
    refine gj_iload_n C dX3_met_5 rfl ?_
    refine gj_if_lt (tgt := 26) C dX3_met_6 (by decide) (fun c1 => ?_) (fun c1 => ?_)
    · refine gj_iconst (v := (-1)) C dX3_met_26 (by decide) ?_
      exact gj_iret C hr hlk dX3_met_27 (⟨by rw [mtA_ge (by omega) hh], ⟨ad, ga, isR, r5, hW⟩⟩)
    · refine gj_iload_n C dX3_met_9 rfl ?_
      refine gj_aload_n C dX3_met_10 rfl ?_
      refine gj_get C dX3_met_11 hW.1.1 rfl inX3 15 (by decide) w_344 rfl ?_
      refine gj_icmp_geT (tgt := 26) C dX3_met_14 (by decide) hh ?_
      refine gj_iconst (v := (-1)) C dX3_met_26 (by decide) ?_
      exact gj_iret C hr hlk dX3_met_27 (⟨by rw [mtA_ge (by omega) hh], ⟨ad, ga, isR, r5, hW⟩⟩)
  · refine gj_aload_n C dX3_met_0 rfl ?_
    refine gj_iconst (v := 0) C dX3_met_1 (by decide) ?_
    refine gj_put C dX3_met_2 hW.1.1 rfl inX3 tyX3_ok nmX3 0 (by decide) w_329 rfl rfl rfl (Nat.le_of_ble_eq_true rfl) ?_
    refine gj_f (f' := gm_up f y (cMo 0 ad (nI (cn en 4096)) isR r5 (nI ml.length))) rfl ?_
    have hW := rpm_cd hW 0 (nI (cn en 4096))
    generalize gm_up f y (cMo 0 ad (nI (cn en 4096)) isR r5 (nI ml.length)) = f at hW ⊢
    refine gj_iload_n C dX3_met_5 rfl ?_
    refine gj_if_ltF (tgt := 26) C dX3_met_6 (by decide) (nI_pos (by omega)) ?_
    refine gj_iload_n C dX3_met_9 rfl ?_
    refine gj_aload_n C dX3_met_10 rfl ?_
    refine gj_get C dX3_met_11 hW.1.1 rfl inX3 15 (by decide) w_344 rfl ?_
    refine gj_icmp_geF (tgt := 26) C dX3_met_14 (by decide) (nI_ge hj (by omega)) ?_
    refine gj_aload_n C dX3_met_17 rfl ?_
    refine gj_get C dX3_met_18 hW.1.1 rfl inX3 16 (by decide) w_345 rfl ?_
    refine gj_iload_n C dX3_met_21 rfl ?_
    refine gj_ialdN C 0 dX3_met_22 (hW.1.2.2 7 (by decide) (by decide)) rfl (by omega) (by decide) ?_
    refine gj_goto (tgt := 27) C dX3_met_23 (by decide) ?_
    exact gj_iret C hr hlk dX3_met_27 (⟨by rw [mtA_nI (by omega) hj, hW.2.2.2.2.2.2 j hj], ⟨ad, ga, isR, r5, hW⟩⟩)
set_option maxRecDepth 100000 in
set_option maxHeartbeats 4000000 in
theorem k_Mrectangle (l : Launch) (D : va_G) (cI cN cZ cJ : ClassId) (f : gm) (y : Nat) (cd : Int32) (nx : Option Rc) (en : Nat → Option En) (ml : List Nat) (sh tp lf bt rt : Int32) (hR : RpM cI cZ f y cd nx en ml) : gk l yX3_rectangle (.code yX3_rectangle cX3_rectangle 6 (Option.some Jvm.ClassFile.FieldType.boolean)) (rmk 1 0 0) D (tyl cI cN cZ cJ) [.ref y, .int sh, .int tp, .int lf, .int bt, .int rt] f (fun v u => v = some (.int (bI (decide (vr (sh, tp, lf, bt, rt))))) ∧ RpM cI cZ u y 0 (if vr (sh, tp, lf, bt, rt) then some (sh, tp, lf, bt, rt) else nx) en ml) := by
  refine gk_of [some (.ref y), some (.int sh), some (.int tp), some (.int lf), some (.int bt), some (.int rt)] (by decide) rfl (Nat.le_of_ble_eq_true rfl) rfl ?_
  intro p e s m args below meth c A C hV hr hlk hnm
  obtain ⟨ad, ga, isR, r5, hW⟩ := hR
  refine gj_aload_n C dX3_rectangle_0 rfl ?_
  refine gj_iconst (v := 0) C dX3_rectangle_1 (by decide) ?_
  refine gj_put C dX3_rectangle_2 hW.1.1 rfl inX3 tyX3_ok nmX3 0 (by decide) w_329 rfl rfl rfl (Nat.le_of_ble_eq_true rfl) ?_
  refine gj_f (f' := gm_up f y (cMo 0 ad (nI (cn en 4096)) isR r5 (nI ml.length))) rfl ?_
  have hW := rpm_cd hW 0 (nI (cn en 4096))
  generalize gm_up f y (cMo 0 ad (nI (cn en 4096)) isR r5 (nI ml.length)) = f at hW ⊢
  refine gj_iload_n C dX3_rectangle_5 rfl ?_
  refine gj_iconst (v := 0) C dX3_rectangle_6 (by decide) ?_
  refine gj_bipush (v := 7) C dX3_rectangle_7 (by decide) ?_
  refine gj_cS (As := [.int sh, .int 0, .int 7]) (rest := []) (nc := 0) (ns := 0) C hV (k_within l D (tyl cI cN cZ cJ) f sh 0 7) dX3_rectangle_9 rfl w_392 rfl w_390 w_2 w_391 hd_X3_within rfl ⟨Nat.le_of_ble_eq_true rfl, Nat.le_of_ble_eq_true rfl⟩ (Nat.le_of_ble_eq_true rfl) (by decide) (by decide) (fun v u hp1 => ?_)
  refine gj_rt (st' := [.int (bI (decide (wn sh 0 7)))]) hp1.1 hp1.2 rfl ?_
  refine gj_if_eq (tgt := 59) C dX3_rectangle_12 (by decide) (fun c2 => ?_) (fun c2 => ?_)
  · refine gj_iconst (v := 0) C dX3_rectangle_59 (by decide) ?_
    exact gj_zret C hr hlk dX3_rectangle_60 nz_0 (⟨by rw [bI_f (show ¬ vr (sh, tp, lf, bt, rt) from (by have qc2 := bI_p0 c2; revert qc2; simp only [i_le, i_lt, i_eq, t_0, t_1, t_5, t_7, t_8, t_16383, t_16384, t_32768, t_1048576, vs, vl, vc, vn, ll, rF, rL, rMeet, rIn, rY, if_true, if_false, Bool.false_eq_true, ite_true, ite_false, reduceIte, wn, vr]; (try intros); omega))], by rw [if_neg (show ¬ vr (sh, tp, lf, bt, rt) from (by have qc2 := bI_p0 c2; revert qc2; simp only [i_le, i_lt, i_eq, t_0, t_1, t_5, t_7, t_8, t_16383, t_16384, t_32768, t_1048576, vs, vl, vc, vn, ll, rF, rL, rMeet, rIn, rY, if_true, if_false, Bool.false_eq_true, ite_true, ite_false, reduceIte, wn, vr]; (try intros); omega))]; exact ⟨ad, ga, isR, r5, hW⟩⟩)
  · refine gj_iload_n C dX3_rectangle_15 rfl ?_
    refine gj_iconst (v := 1) C dX3_rectangle_16 (by decide) ?_
    refine gj_ldc (v := 1048576) C dX3_rectangle_17 w_393 ?_
    refine gj_cS (As := [.int tp, .int 1, .int 1048576]) (rest := []) (nc := 0) (ns := 0) C hV (k_within l D (tyl cI cN cZ cJ) f tp 1 1048576) dX3_rectangle_19 rfl w_392 rfl w_390 w_2 w_391 hd_X3_within rfl ⟨Nat.le_of_ble_eq_true rfl, Nat.le_of_ble_eq_true rfl⟩ (Nat.le_of_ble_eq_true rfl) (by decide) (by decide) (fun v u hp3 => ?_)
    refine gj_rt (st' := [.int (bI (decide (wn tp 1 1048576)))]) hp3.1 hp3.2 rfl ?_
    refine gj_if_eq (tgt := 59) C dX3_rectangle_22 (by decide) (fun c4 => ?_) (fun c4 => ?_)
    · refine gj_iconst (v := 0) C dX3_rectangle_59 (by decide) ?_
      exact gj_zret C hr hlk dX3_rectangle_60 nz_0 (⟨by rw [bI_f (show ¬ vr (sh, tp, lf, bt, rt) from (by have qc2 := bI_p1 c2; have qc4 := bI_p0 c4; revert qc2 qc4; simp only [i_le, i_lt, i_eq, t_0, t_1, t_5, t_7, t_8, t_16383, t_16384, t_32768, t_1048576, vs, vl, vc, vn, ll, rF, rL, rMeet, rIn, rY, if_true, if_false, Bool.false_eq_true, ite_true, ite_false, reduceIte, wn, vr]; (try intros); omega))], by rw [if_neg (show ¬ vr (sh, tp, lf, bt, rt) from (by have qc2 := bI_p1 c2; have qc4 := bI_p0 c4; revert qc2 qc4; simp only [i_le, i_lt, i_eq, t_0, t_1, t_5, t_7, t_8, t_16383, t_16384, t_32768, t_1048576, vs, vl, vc, vn, ll, rF, rL, rMeet, rIn, rY, if_true, if_false, Bool.false_eq_true, ite_true, ite_false, reduceIte, wn, vr]; (try intros); omega))]; exact ⟨ad, ga, isR, r5, hW⟩⟩)
    · refine gj_iload C dX3_rectangle_25 rfl ?_
      refine gj_iload_n C dX3_rectangle_27 rfl ?_
      refine gj_ldc (v := 1048576) C dX3_rectangle_28 w_393 ?_
      refine gj_cS (As := [.int bt, .int tp, .int 1048576]) (rest := []) (nc := 0) (ns := 0) C hV (k_within l D (tyl cI cN cZ cJ) f bt tp 1048576) dX3_rectangle_30 rfl w_392 rfl w_390 w_2 w_391 hd_X3_within rfl ⟨Nat.le_of_ble_eq_true rfl, Nat.le_of_ble_eq_true rfl⟩ (Nat.le_of_ble_eq_true rfl) (by decide) (by decide) (fun v u hp5 => ?_)
      refine gj_rt (st' := [.int (bI (decide (wn bt tp 1048576)))]) hp5.1 hp5.2 rfl ?_
      refine gj_if_eq (tgt := 59) C dX3_rectangle_33 (by decide) (fun c6 => ?_) (fun c6 => ?_)
      · refine gj_iconst (v := 0) C dX3_rectangle_59 (by decide) ?_
        exact gj_zret C hr hlk dX3_rectangle_60 nz_0 (⟨by rw [bI_f (show ¬ vr (sh, tp, lf, bt, rt) from (by have qc2 := bI_p1 c2; have qc4 := bI_p1 c4; have qc6 := bI_p0 c6; revert qc2 qc4 qc6; simp only [i_le, i_lt, i_eq, t_0, t_1, t_5, t_7, t_8, t_16383, t_16384, t_32768, t_1048576, vs, vl, vc, vn, ll, rF, rL, rMeet, rIn, rY, if_true, if_false, Bool.false_eq_true, ite_true, ite_false, reduceIte, wn, vr]; (try intros); omega))], by rw [if_neg (show ¬ vr (sh, tp, lf, bt, rt) from (by have qc2 := bI_p1 c2; have qc4 := bI_p1 c4; have qc6 := bI_p0 c6; revert qc2 qc4 qc6; simp only [i_le, i_lt, i_eq, t_0, t_1, t_5, t_7, t_8, t_16383, t_16384, t_32768, t_1048576, vs, vl, vc, vn, ll, rF, rL, rMeet, rIn, rY, if_true, if_false, Bool.false_eq_true, ite_true, ite_false, reduceIte, wn, vr]; (try intros); omega))]; exact ⟨ad, ga, isR, r5, hW⟩⟩)
      · refine gj_iload_n C dX3_rectangle_36 rfl ?_
        refine gj_iconst (v := 1) C dX3_rectangle_37 (by decide) ?_
        refine gj_sipush (v := 16384) C dX3_rectangle_38 (by decide) ?_
        refine gj_cS (As := [.int lf, .int 1, .int 16384]) (rest := []) (nc := 0) (ns := 0) C hV (k_within l D (tyl cI cN cZ cJ) f lf 1 16384) dX3_rectangle_41 rfl w_392 rfl w_390 w_2 w_391 hd_X3_within rfl ⟨Nat.le_of_ble_eq_true rfl, Nat.le_of_ble_eq_true rfl⟩ (Nat.le_of_ble_eq_true rfl) (by decide) (by decide) (fun v u hp7 => ?_)
        refine gj_rt (st' := [.int (bI (decide (wn lf 1 16384)))]) hp7.1 hp7.2 rfl ?_
        refine gj_if_eq (tgt := 59) C dX3_rectangle_44 (by decide) (fun c8 => ?_) (fun c8 => ?_)
        · refine gj_iconst (v := 0) C dX3_rectangle_59 (by decide) ?_
          exact gj_zret C hr hlk dX3_rectangle_60 nz_0 (⟨by rw [bI_f (show ¬ vr (sh, tp, lf, bt, rt) from (by have qc2 := bI_p1 c2; have qc4 := bI_p1 c4; have qc6 := bI_p1 c6; have qc8 := bI_p0 c8; revert qc2 qc4 qc6 qc8; simp only [i_le, i_lt, i_eq, t_0, t_1, t_5, t_7, t_8, t_16383, t_16384, t_32768, t_1048576, vs, vl, vc, vn, ll, rF, rL, rMeet, rIn, rY, if_true, if_false, Bool.false_eq_true, ite_true, ite_false, reduceIte, wn, vr]; (try intros); omega))], by rw [if_neg (show ¬ vr (sh, tp, lf, bt, rt) from (by have qc2 := bI_p1 c2; have qc4 := bI_p1 c4; have qc6 := bI_p1 c6; have qc8 := bI_p0 c8; revert qc2 qc4 qc6 qc8; simp only [i_le, i_lt, i_eq, t_0, t_1, t_5, t_7, t_8, t_16383, t_16384, t_32768, t_1048576, vs, vl, vc, vn, ll, rF, rL, rMeet, rIn, rY, if_true, if_false, Bool.false_eq_true, ite_true, ite_false, reduceIte, wn, vr]; (try intros); omega))]; exact ⟨ad, ga, isR, r5, hW⟩⟩)
        · refine gj_iload C dX3_rectangle_47 rfl ?_
          refine gj_iload_n C dX3_rectangle_49 rfl ?_
          refine gj_sipush (v := 16384) C dX3_rectangle_50 (by decide) ?_
          refine gj_cS (As := [.int rt, .int lf, .int 16384]) (rest := []) (nc := 0) (ns := 0) C hV (k_within l D (tyl cI cN cZ cJ) f rt lf 16384) dX3_rectangle_53 rfl w_392 rfl w_390 w_2 w_391 hd_X3_within rfl ⟨Nat.le_of_ble_eq_true rfl, Nat.le_of_ble_eq_true rfl⟩ (Nat.le_of_ble_eq_true rfl) (by decide) (by decide) (fun v u hp9 => ?_)
          refine gj_rt (st' := [.int (bI (decide (wn rt lf 16384)))]) hp9.1 hp9.2 rfl ?_
          refine gj_if_ne (tgt := 61) C dX3_rectangle_56 (by decide) (fun c10 => ?_) (fun c10 => ?_)
          · refine gj_aload_n C dX3_rectangle_61 rfl ?_
            refine gj_iload_n C dX3_rectangle_62 rfl ?_
            refine gj_put C dX3_rectangle_63 hW.1.1 rfl inX3 tyX3_ok nmX3 10 (by decide) w_339 rfl rfl rfl (Nat.le_of_ble_eq_true rfl) ?_
            refine gj_f (f' := (gm_up f y (.inr (3, [.int 0, .ref (ad 0), .ref (ad 1), .ref (ad 2), .ref (ad 3), .ref (ad 4), .ref (ad 5), .ref (ad 6), .int (nI (cn en 4096)), .int isR, .int sh, .int r5.2.1, .int r5.2.2.1, .int r5.2.2.2.1, .int r5.2.2.2.2, .int (nI ml.length), .ref (ad 7)])))) rfl ?_
            refine gj_aload_n C dX3_rectangle_66 rfl ?_
            refine gj_iload_n C dX3_rectangle_67 rfl ?_
            refine gj_put C dX3_rectangle_68 gm_up_self rfl inX3 tyX3_ok nmX3 11 (by decide) w_340 rfl rfl rfl (Nat.le_of_ble_eq_true rfl) ?_
            refine gj_f (f' := (gm_up f y (.inr (3, [.int 0, .ref (ad 0), .ref (ad 1), .ref (ad 2), .ref (ad 3), .ref (ad 4), .ref (ad 5), .ref (ad 6), .int (nI (cn en 4096)), .int isR, .int sh, .int tp, .int r5.2.2.1, .int r5.2.2.2.1, .int r5.2.2.2.2, .int (nI ml.length), .ref (ad 7)])))) (by rw [gm_up_up] <;> rfl) ?_
            refine gj_aload_n C dX3_rectangle_71 rfl ?_
            refine gj_iload_n C dX3_rectangle_72 rfl ?_
            refine gj_put C dX3_rectangle_73 gm_up_self rfl inX3 tyX3_ok nmX3 12 (by decide) w_341 rfl rfl rfl (Nat.le_of_ble_eq_true rfl) ?_
            refine gj_f (f' := (gm_up f y (.inr (3, [.int 0, .ref (ad 0), .ref (ad 1), .ref (ad 2), .ref (ad 3), .ref (ad 4), .ref (ad 5), .ref (ad 6), .int (nI (cn en 4096)), .int isR, .int sh, .int tp, .int lf, .int r5.2.2.2.1, .int r5.2.2.2.2, .int (nI ml.length), .ref (ad 7)])))) (by rw [gm_up_up] <;> rfl) ?_
            refine gj_aload_n C dX3_rectangle_76 rfl ?_
            refine gj_iload C dX3_rectangle_77 rfl ?_
            refine gj_put C dX3_rectangle_79 gm_up_self rfl inX3 tyX3_ok nmX3 13 (by decide) w_342 rfl rfl rfl (Nat.le_of_ble_eq_true rfl) ?_
            refine gj_f (f' := (gm_up f y (.inr (3, [.int 0, .ref (ad 0), .ref (ad 1), .ref (ad 2), .ref (ad 3), .ref (ad 4), .ref (ad 5), .ref (ad 6), .int (nI (cn en 4096)), .int isR, .int sh, .int tp, .int lf, .int bt, .int r5.2.2.2.2, .int (nI ml.length), .ref (ad 7)])))) (by rw [gm_up_up] <;> rfl) ?_
            refine gj_aload_n C dX3_rectangle_82 rfl ?_
            refine gj_iload C dX3_rectangle_83 rfl ?_
            refine gj_put C dX3_rectangle_85 gm_up_self rfl inX3 tyX3_ok nmX3 14 (by decide) w_343 rfl rfl rfl (Nat.le_of_ble_eq_true rfl) ?_
            refine gj_f (f' := (gm_up f y (.inr (3, [.int 0, .ref (ad 0), .ref (ad 1), .ref (ad 2), .ref (ad 3), .ref (ad 4), .ref (ad 5), .ref (ad 6), .int (nI (cn en 4096)), .int isR, .int sh, .int tp, .int lf, .int bt, .int rt, .int (nI ml.length), .ref (ad 7)])))) (by rw [gm_up_up] <;> rfl) ?_
            refine gj_aload_n C dX3_rectangle_88 rfl ?_
            refine gj_iconst (v := 1) C dX3_rectangle_89 (by decide) ?_
            refine gj_put C dX3_rectangle_90 gm_up_self rfl inX3 tyX3_ok nmX3 9 (by decide) w_338 rfl (by decide +kernel) rfl (Nat.le_of_ble_eq_true rfl) ?_
            refine gj_f (f' := (gm_up f y (.inr (3, [.int 0, .ref (ad 0), .ref (ad 1), .ref (ad 2), .ref (ad 3), .ref (ad 4), .ref (ad 5), .ref (ad 6), .int (nI (cn en 4096)), .int 1, .int sh, .int tp, .int lf, .int bt, .int rt, .int (nI ml.length), .ref (ad 7)])))) (by rw [gm_up_up] <;> rfl) ?_
            refine gj_iconst (v := 1) C dX3_rectangle_93 (by decide) ?_
            exact gj_zret C hr hlk dX3_rectangle_94 nz_1 (⟨by rw [bI_t (show vr (sh, tp, lf, bt, rt) from (by have qc2 := bI_p1 c2; have qc4 := bI_p1 c4; have qc6 := bI_p1 c6; have qc8 := bI_p1 c8; have qc10 := bI_p1 c10; revert qc2 qc4 qc6 qc8 qc10; simp only [i_le, i_lt, i_eq, t_0, t_1, t_5, t_7, t_8, t_16383, t_16384, t_32768, t_1048576, vs, vl, vc, vn, ll, rF, rL, rMeet, rIn, rY, if_true, if_false, Bool.false_eq_true, ite_true, ite_false, reduceIte, wn, vr]; (try intros); omega))], by rw [if_pos (show vr (sh, tp, lf, bt, rt) from (by have qc2 := bI_p1 c2; have qc4 := bI_p1 c4; have qc6 := bI_p1 c6; have qc8 := bI_p1 c8; have qc10 := bI_p1 c10; revert qc2 qc4 qc6 qc8 qc10; simp only [i_le, i_lt, i_eq, t_0, t_1, t_5, t_7, t_8, t_16383, t_16384, t_32768, t_1048576, vs, vl, vc, vn, ll, rF, rL, rMeet, rIn, rY, if_true, if_false, Bool.false_eq_true, ite_true, ite_false, reduceIte, wn, vr]; (try intros); omega))]; exact ⟨ad, ga, 1, (sh, tp, lf, bt, rt), rpm_y (nx' := some (sh, tp, lf, bt, rt)) (isR' := 1) (r5' := (sh, tp, lf, bt, rt)) hW 0 _ ⟨rfl, rfl⟩ hW.2.2.2.2.2.1 hW.2.2.2.2.2.2⟩⟩)
          · refine gj_iconst (v := 0) C dX3_rectangle_59 (by decide) ?_
            exact gj_zret C hr hlk dX3_rectangle_60 nz_0 (⟨by rw [bI_f (show ¬ vr (sh, tp, lf, bt, rt) from (by have qc2 := bI_p1 c2; have qc4 := bI_p1 c4; have qc6 := bI_p1 c6; have qc8 := bI_p1 c8; have qc10 := bI_p0 c10; revert qc2 qc4 qc6 qc8 qc10; simp only [i_le, i_lt, i_eq, t_0, t_1, t_5, t_7, t_8, t_16383, t_16384, t_32768, t_1048576, vs, vl, vc, vn, ll, rF, rL, rMeet, rIn, rY, if_true, if_false, Bool.false_eq_true, ite_true, ite_false, reduceIte, wn, vr]; (try intros); omega))], by rw [if_neg (show ¬ vr (sh, tp, lf, bt, rt) from (by have qc2 := bI_p1 c2; have qc4 := bI_p1 c4; have qc6 := bI_p1 c6; have qc8 := bI_p1 c8; have qc10 := bI_p0 c10; revert qc2 qc4 qc6 qc8 qc10; simp only [i_le, i_lt, i_eq, t_0, t_1, t_5, t_7, t_8, t_16383, t_16384, t_32768, t_1048576, vs, vl, vc, vn, ll, rF, rL, rMeet, rIn, rY, if_true, if_false, Bool.false_eq_true, ite_true, ite_false, reduceIte, wn, vr]; (try intros); omega))]; exact ⟨ad, ga, isR, r5, hW⟩⟩)
end
section
/-! RangeReadersModel: its constructor, drop, meetAll, readers, meet, add. By gen/m29.py. -/
set_option maxRecDepth 100000 in
set_option maxHeartbeats 4000000 in
theorem k_Minit (l : Launch) (D : va_G) (cI cN cZ cJ : ClassId) (f : gm) (y : Nat) (hy : f y = some (.inr (3, [.int 0, .null, .null, .null, .null, .null, .null, .null, .int 0, .int 0, .int 0, .int 0, .int 0, .int 0, .int 0, .int 0, .null]))) : gk l yX3_init (.code yX3_init cX3_init 1 (Option.none : Option Jvm.ClassFile.FieldType)) (rmk 0 8 32768) D (tyl cI cN cZ cJ) [.ref y] f (fun v u => v = none ∧ RpM cI cZ u y 0 none (fun _ => none) []) := by
  refine gk_of [some (.ref y)] (by decide) rfl (Nat.le_of_ble_eq_true rfl) rfl ?_
  intro p e s m args below meth c A C hV hr hlk hnm
  refine gj_aload_n C dX3_init_0 rfl ?_
  refine gj_objInit C dX3_init_1 w_328 w_17 w_18 (Nat.le_of_ble_eq_true rfl) (Nat.le_of_ble_eq_true rfl) ?_
  refine gj_aload_n C dX3_init_4 rfl ?_
  refine gj_sipush (v := 4096) C dX3_init_5 (by decide) ?_
  refine gj_newa (N := 4096) (a0 := (4096, .inl (fun _ => 0))) (nc := 7) (ns := 28672) C 2 dX3_init_8 rfl rfl w_381 (fun _ => rfl) (by decide) (by decide) (by decide) (by decide) (by decide) (fun b0 hb0 => ?_)
  refine gj_putF C dX3_init_10 (gm_up_of hy hb0) rfl inX3 tyX3_ok nmX3 1 (by decide) w_330 rfl hnm rfl rfl rfl (Nat.le_of_ble_eq_true rfl) ?_
  have ny0 : y ≠ b0 := gm_nn hy hb0
  have h0 : gm_up (gm_up f b0 (aZ cZ (fun _ => 0))) y (.inr (3, [.int 0, .ref b0, .null, .null, .null, .null, .null, .null, .int 0, .int 0, .int 0, .int 0, .int 0, .int 0, .int 0, .int 0, .null])) b0 = some (aZ cZ (fun _ => 0)) := by rw [gm_up_ne (Ne.symm ny0), gm_up_self]
  have hy : gm_up (gm_up f b0 (aZ cZ (fun _ => 0))) y (.inr (3, [.int 0, .ref b0, .null, .null, .null, .null, .null, .null, .int 0, .int 0, .int 0, .int 0, .int 0, .int 0, .int 0, .int 0, .null])) y = _ := gm_up_self
  refine gj_f (f' := gm_up (gm_up f b0 (aZ cZ (fun _ => 0))) y (.inr (3, [.int 0, .ref b0, .null, .null, .null, .null, .null, .null, .int 0, .int 0, .int 0, .int 0, .int 0, .int 0, .int 0, .int 0, .null]))) rfl ?_
  generalize gm_up (gm_up f b0 (aZ cZ (fun _ => 0))) y (.inr (3, [.int 0, .ref b0, .null, .null, .null, .null, .null, .null, .int 0, .int 0, .int 0, .int 0, .int 0, .int 0, .int 0, .int 0, .null])) = f at h0 hy ⊢
  refine gj_aload_n C dX3_init_13 rfl ?_
  refine gj_sipush (v := 4096) C dX3_init_14 (by decide) ?_
  refine gj_newa (N := 4096) (a0 := (4096, .inl (fun _ => 0))) (nc := 6) (ns := 24576) C 0 dX3_init_17 rfl rfl w_37 (fun _ => rfl) (by decide) (by decide) (by decide) (by decide) (by decide) (fun b1 hb1 => ?_)
  have n01 : b0 ≠ b1 := gm_nn h0 hb1
  refine gj_putF C dX3_init_19 (gm_up_of hy hb1) rfl inX3 tyX3_ok nmX3 2 (by decide) w_331 rfl hnm rfl rfl rfl (Nat.le_of_ble_eq_true rfl) ?_
  have ny1 : y ≠ b1 := gm_nn hy hb1
  have h0 : gm_up (gm_up f b1 (aI cI 4096 (fun _ => 0))) y (.inr (3, [.int 0, .ref b0, .ref b1, .null, .null, .null, .null, .null, .int 0, .int 0, .int 0, .int 0, .int 0, .int 0, .int 0, .int 0, .null])) b0 = some (aZ cZ (fun _ => 0)) := by rw [gm_up_ne (Ne.symm ny0), gm_up_ne n01]; exact h0
  have h1 : gm_up (gm_up f b1 (aI cI 4096 (fun _ => 0))) y (.inr (3, [.int 0, .ref b0, .ref b1, .null, .null, .null, .null, .null, .int 0, .int 0, .int 0, .int 0, .int 0, .int 0, .int 0, .int 0, .null])) b1 = some (aI cI 4096 (fun _ => 0)) := by rw [gm_up_ne (Ne.symm ny1), gm_up_self]
  have hy : gm_up (gm_up f b1 (aI cI 4096 (fun _ => 0))) y (.inr (3, [.int 0, .ref b0, .ref b1, .null, .null, .null, .null, .null, .int 0, .int 0, .int 0, .int 0, .int 0, .int 0, .int 0, .int 0, .null])) y = _ := gm_up_self
  refine gj_f (f' := gm_up (gm_up f b1 (aI cI 4096 (fun _ => 0))) y (.inr (3, [.int 0, .ref b0, .ref b1, .null, .null, .null, .null, .null, .int 0, .int 0, .int 0, .int 0, .int 0, .int 0, .int 0, .int 0, .null]))) rfl ?_
  generalize gm_up (gm_up f b1 (aI cI 4096 (fun _ => 0))) y (.inr (3, [.int 0, .ref b0, .ref b1, .null, .null, .null, .null, .null, .int 0, .int 0, .int 0, .int 0, .int 0, .int 0, .int 0, .int 0, .null])) = f at h0 h1 hy ⊢
  refine gj_aload_n C dX3_init_22 rfl ?_
  refine gj_sipush (v := 4096) C dX3_init_23 (by decide) ?_
  refine gj_newa (N := 4096) (a0 := (4096, .inl (fun _ => 0))) (nc := 5) (ns := 20480) C 0 dX3_init_26 rfl rfl w_37 (fun _ => rfl) (by decide) (by decide) (by decide) (by decide) (by decide) (fun b2 hb2 => ?_)
  have n02 : b0 ≠ b2 := gm_nn h0 hb2
  have n12 : b1 ≠ b2 := gm_nn h1 hb2
  refine gj_putF C dX3_init_28 (gm_up_of hy hb2) rfl inX3 tyX3_ok nmX3 3 (by decide) w_332 rfl hnm rfl rfl rfl (Nat.le_of_ble_eq_true rfl) ?_
  have ny2 : y ≠ b2 := gm_nn hy hb2
  have h0 : gm_up (gm_up f b2 (aI cI 4096 (fun _ => 0))) y (.inr (3, [.int 0, .ref b0, .ref b1, .ref b2, .null, .null, .null, .null, .int 0, .int 0, .int 0, .int 0, .int 0, .int 0, .int 0, .int 0, .null])) b0 = some (aZ cZ (fun _ => 0)) := by rw [gm_up_ne (Ne.symm ny0), gm_up_ne n02]; exact h0
  have h1 : gm_up (gm_up f b2 (aI cI 4096 (fun _ => 0))) y (.inr (3, [.int 0, .ref b0, .ref b1, .ref b2, .null, .null, .null, .null, .int 0, .int 0, .int 0, .int 0, .int 0, .int 0, .int 0, .int 0, .null])) b1 = some (aI cI 4096 (fun _ => 0)) := by rw [gm_up_ne (Ne.symm ny1), gm_up_ne n12]; exact h1
  have h2 : gm_up (gm_up f b2 (aI cI 4096 (fun _ => 0))) y (.inr (3, [.int 0, .ref b0, .ref b1, .ref b2, .null, .null, .null, .null, .int 0, .int 0, .int 0, .int 0, .int 0, .int 0, .int 0, .int 0, .null])) b2 = some (aI cI 4096 (fun _ => 0)) := by rw [gm_up_ne (Ne.symm ny2), gm_up_self]
  have hy : gm_up (gm_up f b2 (aI cI 4096 (fun _ => 0))) y (.inr (3, [.int 0, .ref b0, .ref b1, .ref b2, .null, .null, .null, .null, .int 0, .int 0, .int 0, .int 0, .int 0, .int 0, .int 0, .int 0, .null])) y = _ := gm_up_self
  refine gj_f (f' := gm_up (gm_up f b2 (aI cI 4096 (fun _ => 0))) y (.inr (3, [.int 0, .ref b0, .ref b1, .ref b2, .null, .null, .null, .null, .int 0, .int 0, .int 0, .int 0, .int 0, .int 0, .int 0, .int 0, .null]))) rfl ?_
  generalize gm_up (gm_up f b2 (aI cI 4096 (fun _ => 0))) y (.inr (3, [.int 0, .ref b0, .ref b1, .ref b2, .null, .null, .null, .null, .int 0, .int 0, .int 0, .int 0, .int 0, .int 0, .int 0, .int 0, .null])) = f at h0 h1 h2 hy ⊢
  refine gj_aload_n C dX3_init_31 rfl ?_
  refine gj_sipush (v := 4096) C dX3_init_32 (by decide) ?_
  refine gj_newa (N := 4096) (a0 := (4096, .inl (fun _ => 0))) (nc := 4) (ns := 16384) C 0 dX3_init_35 rfl rfl w_37 (fun _ => rfl) (by decide) (by decide) (by decide) (by decide) (by decide) (fun b3 hb3 => ?_)
  have n03 : b0 ≠ b3 := gm_nn h0 hb3
  have n13 : b1 ≠ b3 := gm_nn h1 hb3
  have n23 : b2 ≠ b3 := gm_nn h2 hb3
  refine gj_putF C dX3_init_37 (gm_up_of hy hb3) rfl inX3 tyX3_ok nmX3 4 (by decide) w_333 rfl hnm rfl rfl rfl (Nat.le_of_ble_eq_true rfl) ?_
  have ny3 : y ≠ b3 := gm_nn hy hb3
  have h0 : gm_up (gm_up f b3 (aI cI 4096 (fun _ => 0))) y (.inr (3, [.int 0, .ref b0, .ref b1, .ref b2, .ref b3, .null, .null, .null, .int 0, .int 0, .int 0, .int 0, .int 0, .int 0, .int 0, .int 0, .null])) b0 = some (aZ cZ (fun _ => 0)) := by rw [gm_up_ne (Ne.symm ny0), gm_up_ne n03]; exact h0
  have h1 : gm_up (gm_up f b3 (aI cI 4096 (fun _ => 0))) y (.inr (3, [.int 0, .ref b0, .ref b1, .ref b2, .ref b3, .null, .null, .null, .int 0, .int 0, .int 0, .int 0, .int 0, .int 0, .int 0, .int 0, .null])) b1 = some (aI cI 4096 (fun _ => 0)) := by rw [gm_up_ne (Ne.symm ny1), gm_up_ne n13]; exact h1
  have h2 : gm_up (gm_up f b3 (aI cI 4096 (fun _ => 0))) y (.inr (3, [.int 0, .ref b0, .ref b1, .ref b2, .ref b3, .null, .null, .null, .int 0, .int 0, .int 0, .int 0, .int 0, .int 0, .int 0, .int 0, .null])) b2 = some (aI cI 4096 (fun _ => 0)) := by rw [gm_up_ne (Ne.symm ny2), gm_up_ne n23]; exact h2
  have h3 : gm_up (gm_up f b3 (aI cI 4096 (fun _ => 0))) y (.inr (3, [.int 0, .ref b0, .ref b1, .ref b2, .ref b3, .null, .null, .null, .int 0, .int 0, .int 0, .int 0, .int 0, .int 0, .int 0, .int 0, .null])) b3 = some (aI cI 4096 (fun _ => 0)) := by rw [gm_up_ne (Ne.symm ny3), gm_up_self]
  have hy : gm_up (gm_up f b3 (aI cI 4096 (fun _ => 0))) y (.inr (3, [.int 0, .ref b0, .ref b1, .ref b2, .ref b3, .null, .null, .null, .int 0, .int 0, .int 0, .int 0, .int 0, .int 0, .int 0, .int 0, .null])) y = _ := gm_up_self
  refine gj_f (f' := gm_up (gm_up f b3 (aI cI 4096 (fun _ => 0))) y (.inr (3, [.int 0, .ref b0, .ref b1, .ref b2, .ref b3, .null, .null, .null, .int 0, .int 0, .int 0, .int 0, .int 0, .int 0, .int 0, .int 0, .null]))) rfl ?_
  generalize gm_up (gm_up f b3 (aI cI 4096 (fun _ => 0))) y (.inr (3, [.int 0, .ref b0, .ref b1, .ref b2, .ref b3, .null, .null, .null, .int 0, .int 0, .int 0, .int 0, .int 0, .int 0, .int 0, .int 0, .null])) = f at h0 h1 h2 h3 hy ⊢
  refine gj_aload_n C dX3_init_40 rfl ?_
  refine gj_sipush (v := 4096) C dX3_init_41 (by decide) ?_
  refine gj_newa (N := 4096) (a0 := (4096, .inl (fun _ => 0))) (nc := 3) (ns := 12288) C 0 dX3_init_44 rfl rfl w_37 (fun _ => rfl) (by decide) (by decide) (by decide) (by decide) (by decide) (fun b4 hb4 => ?_)
  have n04 : b0 ≠ b4 := gm_nn h0 hb4
  have n14 : b1 ≠ b4 := gm_nn h1 hb4
  have n24 : b2 ≠ b4 := gm_nn h2 hb4
  have n34 : b3 ≠ b4 := gm_nn h3 hb4
  refine gj_putF C dX3_init_46 (gm_up_of hy hb4) rfl inX3 tyX3_ok nmX3 5 (by decide) w_334 rfl hnm rfl rfl rfl (Nat.le_of_ble_eq_true rfl) ?_
  have ny4 : y ≠ b4 := gm_nn hy hb4
  have h0 : gm_up (gm_up f b4 (aI cI 4096 (fun _ => 0))) y (.inr (3, [.int 0, .ref b0, .ref b1, .ref b2, .ref b3, .ref b4, .null, .null, .int 0, .int 0, .int 0, .int 0, .int 0, .int 0, .int 0, .int 0, .null])) b0 = some (aZ cZ (fun _ => 0)) := by rw [gm_up_ne (Ne.symm ny0), gm_up_ne n04]; exact h0
  have h1 : gm_up (gm_up f b4 (aI cI 4096 (fun _ => 0))) y (.inr (3, [.int 0, .ref b0, .ref b1, .ref b2, .ref b3, .ref b4, .null, .null, .int 0, .int 0, .int 0, .int 0, .int 0, .int 0, .int 0, .int 0, .null])) b1 = some (aI cI 4096 (fun _ => 0)) := by rw [gm_up_ne (Ne.symm ny1), gm_up_ne n14]; exact h1
  have h2 : gm_up (gm_up f b4 (aI cI 4096 (fun _ => 0))) y (.inr (3, [.int 0, .ref b0, .ref b1, .ref b2, .ref b3, .ref b4, .null, .null, .int 0, .int 0, .int 0, .int 0, .int 0, .int 0, .int 0, .int 0, .null])) b2 = some (aI cI 4096 (fun _ => 0)) := by rw [gm_up_ne (Ne.symm ny2), gm_up_ne n24]; exact h2
  have h3 : gm_up (gm_up f b4 (aI cI 4096 (fun _ => 0))) y (.inr (3, [.int 0, .ref b0, .ref b1, .ref b2, .ref b3, .ref b4, .null, .null, .int 0, .int 0, .int 0, .int 0, .int 0, .int 0, .int 0, .int 0, .null])) b3 = some (aI cI 4096 (fun _ => 0)) := by rw [gm_up_ne (Ne.symm ny3), gm_up_ne n34]; exact h3
  have h4 : gm_up (gm_up f b4 (aI cI 4096 (fun _ => 0))) y (.inr (3, [.int 0, .ref b0, .ref b1, .ref b2, .ref b3, .ref b4, .null, .null, .int 0, .int 0, .int 0, .int 0, .int 0, .int 0, .int 0, .int 0, .null])) b4 = some (aI cI 4096 (fun _ => 0)) := by rw [gm_up_ne (Ne.symm ny4), gm_up_self]
  have hy : gm_up (gm_up f b4 (aI cI 4096 (fun _ => 0))) y (.inr (3, [.int 0, .ref b0, .ref b1, .ref b2, .ref b3, .ref b4, .null, .null, .int 0, .int 0, .int 0, .int 0, .int 0, .int 0, .int 0, .int 0, .null])) y = _ := gm_up_self
  refine gj_f (f' := gm_up (gm_up f b4 (aI cI 4096 (fun _ => 0))) y (.inr (3, [.int 0, .ref b0, .ref b1, .ref b2, .ref b3, .ref b4, .null, .null, .int 0, .int 0, .int 0, .int 0, .int 0, .int 0, .int 0, .int 0, .null]))) rfl ?_
  generalize gm_up (gm_up f b4 (aI cI 4096 (fun _ => 0))) y (.inr (3, [.int 0, .ref b0, .ref b1, .ref b2, .ref b3, .ref b4, .null, .null, .int 0, .int 0, .int 0, .int 0, .int 0, .int 0, .int 0, .int 0, .null])) = f at h0 h1 h2 h3 h4 hy ⊢
  refine gj_aload_n C dX3_init_49 rfl ?_
  refine gj_sipush (v := 4096) C dX3_init_50 (by decide) ?_
  refine gj_newa (N := 4096) (a0 := (4096, .inl (fun _ => 0))) (nc := 2) (ns := 8192) C 0 dX3_init_53 rfl rfl w_37 (fun _ => rfl) (by decide) (by decide) (by decide) (by decide) (by decide) (fun b5 hb5 => ?_)
  have n05 : b0 ≠ b5 := gm_nn h0 hb5
  have n15 : b1 ≠ b5 := gm_nn h1 hb5
  have n25 : b2 ≠ b5 := gm_nn h2 hb5
  have n35 : b3 ≠ b5 := gm_nn h3 hb5
  have n45 : b4 ≠ b5 := gm_nn h4 hb5
  refine gj_putF C dX3_init_55 (gm_up_of hy hb5) rfl inX3 tyX3_ok nmX3 6 (by decide) w_335 rfl hnm rfl rfl rfl (Nat.le_of_ble_eq_true rfl) ?_
  have ny5 : y ≠ b5 := gm_nn hy hb5
  have h0 : gm_up (gm_up f b5 (aI cI 4096 (fun _ => 0))) y (.inr (3, [.int 0, .ref b0, .ref b1, .ref b2, .ref b3, .ref b4, .ref b5, .null, .int 0, .int 0, .int 0, .int 0, .int 0, .int 0, .int 0, .int 0, .null])) b0 = some (aZ cZ (fun _ => 0)) := by rw [gm_up_ne (Ne.symm ny0), gm_up_ne n05]; exact h0
  have h1 : gm_up (gm_up f b5 (aI cI 4096 (fun _ => 0))) y (.inr (3, [.int 0, .ref b0, .ref b1, .ref b2, .ref b3, .ref b4, .ref b5, .null, .int 0, .int 0, .int 0, .int 0, .int 0, .int 0, .int 0, .int 0, .null])) b1 = some (aI cI 4096 (fun _ => 0)) := by rw [gm_up_ne (Ne.symm ny1), gm_up_ne n15]; exact h1
  have h2 : gm_up (gm_up f b5 (aI cI 4096 (fun _ => 0))) y (.inr (3, [.int 0, .ref b0, .ref b1, .ref b2, .ref b3, .ref b4, .ref b5, .null, .int 0, .int 0, .int 0, .int 0, .int 0, .int 0, .int 0, .int 0, .null])) b2 = some (aI cI 4096 (fun _ => 0)) := by rw [gm_up_ne (Ne.symm ny2), gm_up_ne n25]; exact h2
  have h3 : gm_up (gm_up f b5 (aI cI 4096 (fun _ => 0))) y (.inr (3, [.int 0, .ref b0, .ref b1, .ref b2, .ref b3, .ref b4, .ref b5, .null, .int 0, .int 0, .int 0, .int 0, .int 0, .int 0, .int 0, .int 0, .null])) b3 = some (aI cI 4096 (fun _ => 0)) := by rw [gm_up_ne (Ne.symm ny3), gm_up_ne n35]; exact h3
  have h4 : gm_up (gm_up f b5 (aI cI 4096 (fun _ => 0))) y (.inr (3, [.int 0, .ref b0, .ref b1, .ref b2, .ref b3, .ref b4, .ref b5, .null, .int 0, .int 0, .int 0, .int 0, .int 0, .int 0, .int 0, .int 0, .null])) b4 = some (aI cI 4096 (fun _ => 0)) := by rw [gm_up_ne (Ne.symm ny4), gm_up_ne n45]; exact h4
  have h5 : gm_up (gm_up f b5 (aI cI 4096 (fun _ => 0))) y (.inr (3, [.int 0, .ref b0, .ref b1, .ref b2, .ref b3, .ref b4, .ref b5, .null, .int 0, .int 0, .int 0, .int 0, .int 0, .int 0, .int 0, .int 0, .null])) b5 = some (aI cI 4096 (fun _ => 0)) := by rw [gm_up_ne (Ne.symm ny5), gm_up_self]
  have hy : gm_up (gm_up f b5 (aI cI 4096 (fun _ => 0))) y (.inr (3, [.int 0, .ref b0, .ref b1, .ref b2, .ref b3, .ref b4, .ref b5, .null, .int 0, .int 0, .int 0, .int 0, .int 0, .int 0, .int 0, .int 0, .null])) y = _ := gm_up_self
  refine gj_f (f' := gm_up (gm_up f b5 (aI cI 4096 (fun _ => 0))) y (.inr (3, [.int 0, .ref b0, .ref b1, .ref b2, .ref b3, .ref b4, .ref b5, .null, .int 0, .int 0, .int 0, .int 0, .int 0, .int 0, .int 0, .int 0, .null]))) rfl ?_
  generalize gm_up (gm_up f b5 (aI cI 4096 (fun _ => 0))) y (.inr (3, [.int 0, .ref b0, .ref b1, .ref b2, .ref b3, .ref b4, .ref b5, .null, .int 0, .int 0, .int 0, .int 0, .int 0, .int 0, .int 0, .int 0, .null])) = f at h0 h1 h2 h3 h4 h5 hy ⊢
  refine gj_aload_n C dX3_init_58 rfl ?_
  refine gj_sipush (v := 4096) C dX3_init_59 (by decide) ?_
  refine gj_newa (N := 4096) (a0 := (4096, .inl (fun _ => 0))) (nc := 1) (ns := 4096) C 0 dX3_init_62 rfl rfl w_37 (fun _ => rfl) (by decide) (by decide) (by decide) (by decide) (by decide) (fun b6 hb6 => ?_)
  have n06 : b0 ≠ b6 := gm_nn h0 hb6
  have n16 : b1 ≠ b6 := gm_nn h1 hb6
  have n26 : b2 ≠ b6 := gm_nn h2 hb6
  have n36 : b3 ≠ b6 := gm_nn h3 hb6
  have n46 : b4 ≠ b6 := gm_nn h4 hb6
  have n56 : b5 ≠ b6 := gm_nn h5 hb6
  refine gj_putF C dX3_init_64 (gm_up_of hy hb6) rfl inX3 tyX3_ok nmX3 7 (by decide) w_336 rfl hnm rfl rfl rfl (Nat.le_of_ble_eq_true rfl) ?_
  have ny6 : y ≠ b6 := gm_nn hy hb6
  have h0 : gm_up (gm_up f b6 (aI cI 4096 (fun _ => 0))) y (.inr (3, [.int 0, .ref b0, .ref b1, .ref b2, .ref b3, .ref b4, .ref b5, .ref b6, .int 0, .int 0, .int 0, .int 0, .int 0, .int 0, .int 0, .int 0, .null])) b0 = some (aZ cZ (fun _ => 0)) := by rw [gm_up_ne (Ne.symm ny0), gm_up_ne n06]; exact h0
  have h1 : gm_up (gm_up f b6 (aI cI 4096 (fun _ => 0))) y (.inr (3, [.int 0, .ref b0, .ref b1, .ref b2, .ref b3, .ref b4, .ref b5, .ref b6, .int 0, .int 0, .int 0, .int 0, .int 0, .int 0, .int 0, .int 0, .null])) b1 = some (aI cI 4096 (fun _ => 0)) := by rw [gm_up_ne (Ne.symm ny1), gm_up_ne n16]; exact h1
  have h2 : gm_up (gm_up f b6 (aI cI 4096 (fun _ => 0))) y (.inr (3, [.int 0, .ref b0, .ref b1, .ref b2, .ref b3, .ref b4, .ref b5, .ref b6, .int 0, .int 0, .int 0, .int 0, .int 0, .int 0, .int 0, .int 0, .null])) b2 = some (aI cI 4096 (fun _ => 0)) := by rw [gm_up_ne (Ne.symm ny2), gm_up_ne n26]; exact h2
  have h3 : gm_up (gm_up f b6 (aI cI 4096 (fun _ => 0))) y (.inr (3, [.int 0, .ref b0, .ref b1, .ref b2, .ref b3, .ref b4, .ref b5, .ref b6, .int 0, .int 0, .int 0, .int 0, .int 0, .int 0, .int 0, .int 0, .null])) b3 = some (aI cI 4096 (fun _ => 0)) := by rw [gm_up_ne (Ne.symm ny3), gm_up_ne n36]; exact h3
  have h4 : gm_up (gm_up f b6 (aI cI 4096 (fun _ => 0))) y (.inr (3, [.int 0, .ref b0, .ref b1, .ref b2, .ref b3, .ref b4, .ref b5, .ref b6, .int 0, .int 0, .int 0, .int 0, .int 0, .int 0, .int 0, .int 0, .null])) b4 = some (aI cI 4096 (fun _ => 0)) := by rw [gm_up_ne (Ne.symm ny4), gm_up_ne n46]; exact h4
  have h5 : gm_up (gm_up f b6 (aI cI 4096 (fun _ => 0))) y (.inr (3, [.int 0, .ref b0, .ref b1, .ref b2, .ref b3, .ref b4, .ref b5, .ref b6, .int 0, .int 0, .int 0, .int 0, .int 0, .int 0, .int 0, .int 0, .null])) b5 = some (aI cI 4096 (fun _ => 0)) := by rw [gm_up_ne (Ne.symm ny5), gm_up_ne n56]; exact h5
  have h6 : gm_up (gm_up f b6 (aI cI 4096 (fun _ => 0))) y (.inr (3, [.int 0, .ref b0, .ref b1, .ref b2, .ref b3, .ref b4, .ref b5, .ref b6, .int 0, .int 0, .int 0, .int 0, .int 0, .int 0, .int 0, .int 0, .null])) b6 = some (aI cI 4096 (fun _ => 0)) := by rw [gm_up_ne (Ne.symm ny6), gm_up_self]
  have hy : gm_up (gm_up f b6 (aI cI 4096 (fun _ => 0))) y (.inr (3, [.int 0, .ref b0, .ref b1, .ref b2, .ref b3, .ref b4, .ref b5, .ref b6, .int 0, .int 0, .int 0, .int 0, .int 0, .int 0, .int 0, .int 0, .null])) y = _ := gm_up_self
  refine gj_f (f' := gm_up (gm_up f b6 (aI cI 4096 (fun _ => 0))) y (.inr (3, [.int 0, .ref b0, .ref b1, .ref b2, .ref b3, .ref b4, .ref b5, .ref b6, .int 0, .int 0, .int 0, .int 0, .int 0, .int 0, .int 0, .int 0, .null]))) rfl ?_
  generalize gm_up (gm_up f b6 (aI cI 4096 (fun _ => 0))) y (.inr (3, [.int 0, .ref b0, .ref b1, .ref b2, .ref b3, .ref b4, .ref b5, .ref b6, .int 0, .int 0, .int 0, .int 0, .int 0, .int 0, .int 0, .int 0, .null])) = f at h0 h1 h2 h3 h4 h5 h6 hy ⊢
  refine gj_aload_n C dX3_init_67 rfl ?_
  refine gj_sipush (v := 4096) C dX3_init_68 (by decide) ?_
  refine gj_newa (N := 4096) (a0 := (4096, .inl (fun _ => 0))) (nc := 0) (ns := 0) C 0 dX3_init_71 rfl rfl w_37 (fun _ => rfl) (by decide) (by decide) (by decide) (by decide) (by decide) (fun b7 hb7 => ?_)
  have n07 : b0 ≠ b7 := gm_nn h0 hb7
  have n17 : b1 ≠ b7 := gm_nn h1 hb7
  have n27 : b2 ≠ b7 := gm_nn h2 hb7
  have n37 : b3 ≠ b7 := gm_nn h3 hb7
  have n47 : b4 ≠ b7 := gm_nn h4 hb7
  have n57 : b5 ≠ b7 := gm_nn h5 hb7
  have n67 : b6 ≠ b7 := gm_nn h6 hb7
  refine gj_putF C dX3_init_73 (gm_up_of hy hb7) rfl inX3 tyX3_ok nmX3 16 (by decide) w_345 rfl hnm rfl rfl rfl (Nat.le_of_ble_eq_true rfl) ?_
  have ny7 : y ≠ b7 := gm_nn hy hb7
  have h0 : gm_up (gm_up f b7 (aI cI 4096 (fun _ => 0))) y (.inr (3, [.int 0, .ref b0, .ref b1, .ref b2, .ref b3, .ref b4, .ref b5, .ref b6, .int 0, .int 0, .int 0, .int 0, .int 0, .int 0, .int 0, .int 0, .ref b7])) b0 = some (aZ cZ (fun _ => 0)) := by rw [gm_up_ne (Ne.symm ny0), gm_up_ne n07]; exact h0
  have h1 : gm_up (gm_up f b7 (aI cI 4096 (fun _ => 0))) y (.inr (3, [.int 0, .ref b0, .ref b1, .ref b2, .ref b3, .ref b4, .ref b5, .ref b6, .int 0, .int 0, .int 0, .int 0, .int 0, .int 0, .int 0, .int 0, .ref b7])) b1 = some (aI cI 4096 (fun _ => 0)) := by rw [gm_up_ne (Ne.symm ny1), gm_up_ne n17]; exact h1
  have h2 : gm_up (gm_up f b7 (aI cI 4096 (fun _ => 0))) y (.inr (3, [.int 0, .ref b0, .ref b1, .ref b2, .ref b3, .ref b4, .ref b5, .ref b6, .int 0, .int 0, .int 0, .int 0, .int 0, .int 0, .int 0, .int 0, .ref b7])) b2 = some (aI cI 4096 (fun _ => 0)) := by rw [gm_up_ne (Ne.symm ny2), gm_up_ne n27]; exact h2
  have h3 : gm_up (gm_up f b7 (aI cI 4096 (fun _ => 0))) y (.inr (3, [.int 0, .ref b0, .ref b1, .ref b2, .ref b3, .ref b4, .ref b5, .ref b6, .int 0, .int 0, .int 0, .int 0, .int 0, .int 0, .int 0, .int 0, .ref b7])) b3 = some (aI cI 4096 (fun _ => 0)) := by rw [gm_up_ne (Ne.symm ny3), gm_up_ne n37]; exact h3
  have h4 : gm_up (gm_up f b7 (aI cI 4096 (fun _ => 0))) y (.inr (3, [.int 0, .ref b0, .ref b1, .ref b2, .ref b3, .ref b4, .ref b5, .ref b6, .int 0, .int 0, .int 0, .int 0, .int 0, .int 0, .int 0, .int 0, .ref b7])) b4 = some (aI cI 4096 (fun _ => 0)) := by rw [gm_up_ne (Ne.symm ny4), gm_up_ne n47]; exact h4
  have h5 : gm_up (gm_up f b7 (aI cI 4096 (fun _ => 0))) y (.inr (3, [.int 0, .ref b0, .ref b1, .ref b2, .ref b3, .ref b4, .ref b5, .ref b6, .int 0, .int 0, .int 0, .int 0, .int 0, .int 0, .int 0, .int 0, .ref b7])) b5 = some (aI cI 4096 (fun _ => 0)) := by rw [gm_up_ne (Ne.symm ny5), gm_up_ne n57]; exact h5
  have h6 : gm_up (gm_up f b7 (aI cI 4096 (fun _ => 0))) y (.inr (3, [.int 0, .ref b0, .ref b1, .ref b2, .ref b3, .ref b4, .ref b5, .ref b6, .int 0, .int 0, .int 0, .int 0, .int 0, .int 0, .int 0, .int 0, .ref b7])) b6 = some (aI cI 4096 (fun _ => 0)) := by rw [gm_up_ne (Ne.symm ny6), gm_up_ne n67]; exact h6
  have h7 : gm_up (gm_up f b7 (aI cI 4096 (fun _ => 0))) y (.inr (3, [.int 0, .ref b0, .ref b1, .ref b2, .ref b3, .ref b4, .ref b5, .ref b6, .int 0, .int 0, .int 0, .int 0, .int 0, .int 0, .int 0, .int 0, .ref b7])) b7 = some (aI cI 4096 (fun _ => 0)) := by rw [gm_up_ne (Ne.symm ny7), gm_up_self]
  have hy : gm_up (gm_up f b7 (aI cI 4096 (fun _ => 0))) y (.inr (3, [.int 0, .ref b0, .ref b1, .ref b2, .ref b3, .ref b4, .ref b5, .ref b6, .int 0, .int 0, .int 0, .int 0, .int 0, .int 0, .int 0, .int 0, .ref b7])) y = _ := gm_up_self
  refine gj_f (f' := gm_up (gm_up f b7 (aI cI 4096 (fun _ => 0))) y (.inr (3, [.int 0, .ref b0, .ref b1, .ref b2, .ref b3, .ref b4, .ref b5, .ref b6, .int 0, .int 0, .int 0, .int 0, .int 0, .int 0, .int 0, .int 0, .ref b7]))) rfl ?_
  generalize gm_up (gm_up f b7 (aI cI 4096 (fun _ => 0))) y (.inr (3, [.int 0, .ref b0, .ref b1, .ref b2, .ref b3, .ref b4, .ref b5, .ref b6, .int 0, .int 0, .int 0, .int 0, .int 0, .int 0, .int 0, .int 0, .ref b7])) = f at h0 h1 h2 h3 h4 h5 h6 h7 hy ⊢
  have hnd : ([b0, b1, b2, b3, b4, b5, b6, b7] : List Nat).Nodup := by simp [n01, n02, n12, n03, n13, n23, n04, n14, n24, n34, n05, n15, n25, n35, n45, n06, n16, n26, n36, n46, n56, n07, n17, n27, n37, n47, n57, n67]
  have hrm : rma cI cZ f (fun k => ([b0, b1, b2, b3, b4, b5, b6, b7] : List Nat).getD k 0) (fun _ _ => 0) := ⟨h0, fun k k1 k2 => by
    rcases (show k = 1 ∨ k = 2 ∨ k = 3 ∨ k = 4 ∨ k = 5 ∨ k = 6 ∨ k = 7 by omega) with rfl | rfl | rfl | rfl | rfl | rfl | rfl
    · exact h1
    · exact h2
    · exact h3
    · exact h4
    · exact h5
    · exact h6
    · exact h7⟩
  have ecn : cn (fun _ => none) 4096 = 0 := by
    have := cn_none (en := fun _ => none) (n := 0) (fun _ _ => rfl) 4096 (by omega)
    rw [this]
    rfl
  exact gj_vret C hr hlk dX3_init_76 (⟨rfl, (fun k => ([b0, b1, b2, b3, b4, b5, b6, b7] : List Nat).getD k 0), (fun _ _ => 0), 0, (0, 0, 0, 0, 0), by rw [ecn]; exact ⟨⟨hy, hrm⟩, fun i j hi hj e => ad_inj hnd i j hi hj e, rfl, fun j _ => rfl, fun _ _ => rfl, Nat.zero_le _, fun j hj => absurd hj (Nat.not_lt_zero _)⟩⟩)
set_option maxRecDepth 100000 in
set_option maxHeartbeats 4000000 in
theorem k_Mdrop (l : Launch) (D : va_G) (cI cN cZ cJ : ClassId) (f : gm) (y : Nat) (cd : Int32) (nx : Option Rc) (en : Nat → Option En) (ml : List Nat) (wo : Int32) (hR : RpM cI cZ f y cd nx en ml) : gk l yX3_drop (.code yX3_drop cX3_drop 4 (Option.some Jvm.ClassFile.FieldType.int)) (rmk 1 0 0) D (tyl cI cN cZ cJ) [.ref y, .int wo] f (fun v u => v = some (.int (nI (cbE (chD wo) en 4096))) ∧ RpM cI cZ u y 0 nx (mapE (phD wo) en) ml) := by
  refine gk_of [some (.ref y), some (.int wo), none, none] (by decide) rfl (Nat.le_of_ble_eq_true rfl) rfl ?_
  intro p e s m args below meth c A C hV hr hlk hnm
  have hd : ∀ j, 4096 ≤ j → en j = none := hR.hd
  have loop : ∀ (d i : Nat) (f : gm), i + d = 4096 → RpM cI cZ f y 0 nx (mapI (phD wo) en i) ml → gj p l e (rmk 1 0 0) s m args below meth c D vwCl A 4 (MQ below (gk_Q (fun v u => v = some (.int (nI (cbE (chD wo) en 4096))) ∧ RpM cI cZ u y 0 nx (mapE (phD wo) en) ml) D A) args s (rmk 1 0 0).cells (rmk 1 0 0).slots A) f 0 0 9 [some (.ref y), some (.int wo), some (.int (nI (cbE (chD wo) en i))), some (.int (nI i))] [] := by
    intro d
    induction d with
    | zero =>
      intro i f hid hR
      rw [show mapI (phD wo) en i = mapI (phD wo) en 4096 by rw [show i = 4096 by omega]] at hR
      obtain ⟨ad, ga, isR, r5, hW⟩ := hR
      refine gj_iload_n C dX3_drop_9 rfl ?_
      refine gj_sipush (v := 4096) C dX3_drop_10 (by decide) ?_
      refine gj_icmp_geT (tgt := 52) C dX3_drop_13 (by decide) (by rw [show i = 4096 by omega]; decide) ?_
      refine gj_iload_n C dX3_drop_52 rfl ?_
      exact gj_iret C hr hlk dX3_drop_53 (⟨by rw [show i = 4096 by omega], by rw [← mapI_end (φ := (phD wo)) hd]; exact ⟨ad, ga, isR, r5, hW⟩⟩)
    | succ d ih =>
      intro i f hid hR
      have hj : i < 4096 := by omega
      obtain ⟨ad, ga, isR, r5, hW⟩ := hR
      cases hei : en i with
      | none =>
        have g0 := rpm_no hW hj (mapI_at.trans hei)
        refine gj_iload_n C dX3_drop_9 rfl ?_
        refine gj_sipush (v := 4096) C dX3_drop_10 (by decide) ?_
        refine gj_icmp_geF (tgt := 52) C dX3_drop_13 (by decide) (nI_ge hj (by decide)) ?_
        refine gj_aload_n C dX3_drop_16 rfl ?_
        refine gj_get C dX3_drop_17 hW.1.1 rfl inX3 1 (by decide) w_330 rfl ?_
        refine gj_iload_n C dX3_drop_20 rfl ?_
        refine gj_zaldN C 2 dX3_drop_21 hW.1.2.1 rfl hj (by decide) ?_
        refine gj_st (st' := [.int 0]) (by rw [g0]) ?_
        refine gj_if_eqT (tgt := 46) C dX3_drop_22 (by decide) rfl ?_
        refine gj_iinc (v := (nI (i + 1))) (lw' := [some (.ref y), some (.int wo), some (.int (nI (cbE (chD wo) en i))), some (.int (nI (i + 1)))]) C dX3_drop_46 rfl (nI_1 i) (by decide) rfl rfl ?_
        refine gj_goto (tgt := 9) C dX3_drop_49 (by decide) ?_
        have h9 := ih (i + 1) f (by omega) (by rw [mapI_n hei]; exact ⟨ad, ga, isR, r5, hW⟩)
        rw [cb_n hei] at h9
        exact h9
      | some e0 =>
        obtain ⟨g0, g1, g2, g3, g4, g5, g6⟩ := rpm_at hW hj (mapI_at.trans hei)
        refine gj_iload_n C dX3_drop_9 rfl ?_
        refine gj_sipush (v := 4096) C dX3_drop_10 (by decide) ?_
        refine gj_icmp_geF (tgt := 52) C dX3_drop_13 (by decide) (nI_ge hj (by decide)) ?_
        refine gj_aload_n C dX3_drop_16 rfl ?_
        refine gj_get C dX3_drop_17 hW.1.1 rfl inX3 1 (by decide) w_330 rfl ?_
        refine gj_iload_n C dX3_drop_20 rfl ?_
        refine gj_zaldN C 2 dX3_drop_21 hW.1.2.1 rfl hj (by decide) ?_
        refine gj_st (st' := [.int 1]) (by rw [g0]) ?_
        refine gj_if_eqF (tgt := 46) C dX3_drop_22 (by decide) (by decide) ?_
        refine gj_aload_n C dX3_drop_25 rfl ?_
        refine gj_get C dX3_drop_26 hW.1.1 rfl inX3 7 (by decide) w_336 rfl ?_
        refine gj_iload_n C dX3_drop_29 rfl ?_
        refine gj_ialdN C 0 dX3_drop_30 (hW.1.2.2 6 (by decide) (by decide)) rfl hj (by decide) ?_
        refine gj_st (st' := [.int e0.2]) (by rw [g6]) ?_
        refine gj_iload_n C dX3_drop_31 rfl ?_
        refine gj_icmp_eq (tgt := 38) C dX3_drop_32 (by decide) (fun c1 => ?_) (fun c1 => ?_)
        · refine gj_aload_n C dX3_drop_38 rfl ?_
          refine gj_iload_n C dX3_drop_39 rfl ?_
          refine gj_cV (As := [.int (nI i)]) (rest := []) (nc := 0) (ns := 0) C hV (k_Mgo l D cI cN cZ cJ f y _ nx _ ml ad _ isR r5 _ i hW hj) dX3_drop_40 rfl w_409 rfl w_406 w_2 w_408 ws_17 hd_X3_go rfl hW.1.1 rfl ⟨Nat.le_of_ble_eq_true rfl, Nat.le_of_ble_eq_true rfl⟩ (Nat.le_of_ble_eq_true rfl) (by decide) (by decide) (fun v u hp => ?_)
          refine gj_rt (st' := []) hp.1 hp.2 rfl ?_
          refine gj_iinc (v := (nI ((cbE (chD wo) en i) + 1))) (lw' := [some (.ref y), some (.int wo), some (.int (nI ((cbE (chD wo) en i) + 1))), some (.int (nI i))]) C dX3_drop_43 rfl (nI_1 (cbE (chD wo) en i)) (by decide) rfl rfl ?_
          refine gj_iinc (v := (nI (i + 1))) (lw' := [some (.ref y), some (.int wo), some (.int (nI ((cbE (chD wo) en i) + 1))), some (.int (nI (i + 1)))]) C dX3_drop_46 rfl (nI_1 i) (by decide) rfl rfl ?_
          refine gj_goto (tgt := 9) C dX3_drop_49 (by decide) ?_
          have h9 := ih (i + 1) _ (by omega) (by rw [mapI_s hei, phD_t c1]; exact ⟨ad, _, isR, r5, rpm_go hW hj (mapI_at.trans hei)⟩)
          rw [cb_t hei (decide_eq_true c1)] at h9
          exact h9
        · refine gj_goto (tgt := 46) C dX3_drop_35 (by decide) ?_
          refine gj_iinc (v := (nI (i + 1))) (lw' := [some (.ref y), some (.int wo), some (.int (nI (cbE (chD wo) en i))), some (.int (nI (i + 1)))]) C dX3_drop_46 rfl (nI_1 i) (by decide) rfl rfl ?_
          refine gj_goto (tgt := 9) C dX3_drop_49 (by decide) ?_
          have h9 := ih (i + 1) f (by omega) (by rw [mapI_k hei (phD_f c1)]; exact ⟨ad, ga, isR, r5, hW⟩)
          rw [cb_f hei (decide_eq_false c1)] at h9
          exact h9
  obtain ⟨ad, ga, isR, r5, hW⟩ := hR
  refine gj_aload_n C dX3_drop_0 rfl ?_
  refine gj_iconst (v := 0) C dX3_drop_1 (by decide) ?_
  refine gj_put C dX3_drop_2 hW.1.1 rfl inX3 tyX3_ok nmX3 0 (by decide) w_329 rfl rfl rfl (Nat.le_of_ble_eq_true rfl) ?_
  refine gj_f (f' := gm_up f y (cMo 0 ad (nI (cn en 4096)) isR r5 (nI ml.length))) rfl ?_
  have hW := rpm_cd hW 0 (nI (cn en 4096))
  generalize gm_up f y (cMo 0 ad (nI (cn en 4096)) isR r5 (nI ml.length)) = f at hW ⊢
  refine gj_iconst (v := 0) C dX3_drop_5 (by decide) ?_
  refine gj_istore_n (lw' := [some (.ref y), some (.int wo), some (.int 0), none]) C dX3_drop_6 (by decide) rfl rfl ?_
  refine gj_iconst (v := 0) C dX3_drop_7 (by decide) ?_
  refine gj_istore_n (lw' := [some (.ref y), some (.int wo), some (.int 0), some (.int 0)]) C dX3_drop_8 (by decide) rfl rfl ?_
  exact loop 4096 0 f (by omega) (by rw [mapI_0]; exact ⟨ad, ga, isR, r5, hW⟩)
set_option maxRecDepth 100000 in
set_option maxHeartbeats 4000000 in
theorem k_MmeetAll (l : Launch) (D : va_G) (cI cN cZ cJ : ClassId) (f : gm) (y : Nat) (cd : Int32) (nx : Option Rc) (en : Nat → Option En) (ml : List Nat) (s1 t1 l1 b1 r1 : Int32) (hR : RpM cI cZ f y cd nx en ml) : gk l yX3_meetAll (.code yX3_meetAll cX3_meetAll 7 (Option.some Jvm.ClassFile.FieldType.int)) (rmk 1 0 0) D (tyl cI cN cZ cJ) [.ref y, .int s1, .int t1, .int l1, .int b1, .int r1] f (fun v u => v = some (.int (nI (mls en (s1, t1, l1, b1, r1) 4096).length)) ∧ RpM cI cZ u y cd nx en (mls en (s1, t1, l1, b1, r1) 4096)) := by
  refine gk_of [some (.ref y), some (.int s1), some (.int t1), some (.int l1), some (.int b1), some (.int r1), none] (by decide) rfl (Nat.le_of_ble_eq_true rfl) rfl ?_
  intro p e s m args below meth c A C hV hr hlk hnm
  have loop : ∀ (d i : Nat) (f : gm), i + d = 4096 → RpM cI cZ f y cd nx en (mls en (s1, t1, l1, b1, r1) i) → gj p l e (rmk 1 0 0) s m args below meth c D vwCl A 7 (MQ below (gk_Q (fun v u => v = some (.int (nI (mls en (s1, t1, l1, b1, r1) 4096).length)) ∧ RpM cI cZ u y cd nx en (mls en (s1, t1, l1, b1, r1) 4096)) D A) args s (rmk 1 0 0).cells (rmk 1 0 0).slots A) f 0 0 8 [some (.ref y), some (.int s1), some (.int t1), some (.int l1), some (.int b1), some (.int r1), some (.int (nI i))] [] := by
    intro d
    induction d with
    | zero =>
      intro i f hid hR
      obtain ⟨ad, ga, isR, r5, hW⟩ := hR
      refine gj_iload C dX3_meetAll_8 rfl ?_
      refine gj_sipush (v := 4096) C dX3_meetAll_10 (by decide) ?_
      refine gj_icmp_geT (tgt := 62) C dX3_meetAll_13 (by decide) (by rw [show i = 4096 by omega]; decide) ?_
      refine gj_aload_n C dX3_meetAll_62 rfl ?_
      refine gj_get C dX3_meetAll_63 hW.1.1 rfl inX3 15 (by decide) w_344 rfl ?_
      exact gj_iret C hr hlk dX3_meetAll_66 (⟨by rw [show i = 4096 by omega], by rw [← show i = 4096 by omega]; exact ⟨ad, ga, isR, r5, hW⟩⟩)
    | succ d ih =>
      intro i f hid hR
      have hj : i < 4096 := by omega
      have hlen : (mls en (s1, t1, l1, b1, r1) i).length < 4096 := by have := mls_len en (s1, t1, l1, b1, r1) i; omega
      obtain ⟨ad, ga, isR, r5, hW⟩ := hR
      refine gj_iload C dX3_meetAll_8 rfl ?_
      refine gj_sipush (v := 4096) C dX3_meetAll_10 (by decide) ?_
      refine gj_icmp_geF (tgt := 62) C dX3_meetAll_13 (by decide) (nI_ge hj (by decide)) ?_
      refine gj_aload_n C dX3_meetAll_16 rfl ?_
      refine gj_iload C dX3_meetAll_17 rfl ?_
      refine gj_iload_n C dX3_meetAll_19 rfl ?_
      refine gj_iload_n C dX3_meetAll_20 rfl ?_
      refine gj_iload_n C dX3_meetAll_21 rfl ?_
      refine gj_iload C dX3_meetAll_22 rfl ?_
      refine gj_iload C dX3_meetAll_24 rfl ?_
      refine gj_cV (As := [.int (nI i), .int s1, .int t1, .int l1, .int b1, .int r1]) (rest := []) (nc := 0) (ns := 0) C hV (k_Mmeets l D cI cN cZ cJ f y _ nx en _ ad ga isR r5 _ i s1 t1 l1 b1 r1 hW hj) dX3_meetAll_26 rfl w_425 rfl w_422 w_2 w_424 ws_19 hd_X3_meets rfl hW.1.1 rfl ⟨Nat.le_of_ble_eq_true rfl, Nat.le_of_ble_eq_true rfl⟩ (Nat.le_of_ble_eq_true rfl) (by decide) (by decide) (fun v u hp1 => ?_)
      refine gj_rt (st' := [.int (bI (mtb en (s1, t1, l1, b1, r1) i))]) hp1.1 hp1.2 rfl ?_
      refine gj_if_ne (tgt := 35) C dX3_meetAll_29 (by decide) (fun c2 => ?_) (fun c2 => ?_)
      · refine gj_aload_n C dX3_meetAll_35 rfl ?_
        refine gj_get C dX3_meetAll_36 hW.1.1 rfl inX3 16 (by decide) w_345 rfl ?_
        refine gj_aload_n C dX3_meetAll_39 rfl ?_
        refine gj_get C dX3_meetAll_40 hW.1.1 rfl inX3 15 (by decide) w_344 rfl ?_
        refine gj_iload C dX3_meetAll_43 rfl ?_
        refine gj_iastN C 0 dX3_meetAll_45 (hW.1.2.2 7 (by decide) (by decide)) rfl hlen (by decide) ?_
        refine gj_aload_n C dX3_meetAll_46 rfl ?_
        refine gj_dup C dX3_meetAll_47 rfl ?_
        refine gj_get C dX3_meetAll_48 ((gm_up_ne (gm_ne hW.1.1 (hW.1.2.2 7 (by decide) (by decide)) (by simp))).trans hW.1.1) rfl inX3 15 (by decide) w_344 rfl ?_
        refine gj_iconst (v := 1) C dX3_meetAll_51 (by decide) ?_
        refine gj_iadd C dX3_meetAll_52 ?_
        refine gj_put C dX3_meetAll_53 ((gm_up_ne (gm_ne hW.1.1 (hW.1.2.2 7 (by decide) (by decide)) (by simp))).trans hW.1.1) rfl inX3 tyX3_ok nmX3 15 (by decide) w_344 rfl rfl rfl (Nat.le_of_ble_eq_true rfl) ?_
        refine gj_iinc (v := (nI (i + 1))) (lw' := [some (.ref y), some (.int s1), some (.int t1), some (.int l1), some (.int b1), some (.int r1), some (.int (nI (i + 1)))]) C dX3_meetAll_56 rfl (nI_1 i) (by decide) rfl rfl ?_
        refine gj_goto (tgt := 8) C dX3_meetAll_59 (by decide) ?_
        exact ih (i + 1) _ (by omega) (by rw [mls_t (bI_b1 c2)]; exact ⟨ad, _, isR, r5, rpm_ms hW hlen i⟩)
      · refine gj_goto (tgt := 56) C dX3_meetAll_32 (by decide) ?_
        refine gj_iinc (v := (nI (i + 1))) (lw' := [some (.ref y), some (.int s1), some (.int t1), some (.int l1), some (.int b1), some (.int r1), some (.int (nI (i + 1)))]) C dX3_meetAll_56 rfl (nI_1 i) (by decide) rfl rfl ?_
        refine gj_goto (tgt := 8) C dX3_meetAll_59 (by decide) ?_
        exact ih (i + 1) f (by omega) (by rw [mls_f (bI_b0 c2)]; exact ⟨ad, ga, isR, r5, hW⟩)
  obtain ⟨ad, ga, isR, r5, hW⟩ := hR
  refine gj_aload_n C dX3_meetAll_0 rfl ?_
  refine gj_iconst (v := 0) C dX3_meetAll_1 (by decide) ?_
  refine gj_put C dX3_meetAll_2 hW.1.1 rfl inX3 tyX3_ok nmX3 15 (by decide) w_344 rfl rfl rfl (Nat.le_of_ble_eq_true rfl) ?_
  refine gj_f (f' := gm_up f y (cMo cd ad (nI (cn en 4096)) isR r5 (nI ([] : List Nat).length))) rfl ?_
  have hW := rpm_y (ml' := []) hW cd (nI (cn en 4096)) hW.2.2.1 (Nat.zero_le _) (fun j hj => absurd hj (Nat.not_lt_zero _))
  generalize gm_up f y (cMo cd ad (nI (cn en 4096)) isR r5 (nI ([] : List Nat).length)) = f at hW ⊢
  refine gj_iconst (v := 0) C dX3_meetAll_5 (by decide) ?_
  refine gj_istore (lw' := [some (.ref y), some (.int s1), some (.int t1), some (.int l1), some (.int b1), some (.int r1), some (.int 0)]) C dX3_meetAll_6 (by decide) rfl rfl ?_
  exact loop 4096 0 f (by omega) ⟨ad, ga, isR, r5, hW⟩
set_option maxRecDepth 100000 in
set_option maxHeartbeats 4000000 in
theorem k_Mreaders (l : Launch) (D : va_G) (cI cN cZ cJ : ClassId) (f : gm) (y : Nat) (cd : Int32) (nx : Option Rc) (en : Nat → Option En) (ml : List Nat) (sh rw co : Int32) (hR : RpM cI cZ f y cd nx en ml) : gk l yX3_readers (.code yX3_readers cX3_readers 4 (Option.some Jvm.ClassFile.FieldType.int)) (rmk 2 0 0) D (tyl cI cN cZ cJ) [.ref y, .int sh, .int rw, .int co] f (fun v u => ∃ b, v = some (.int b) ∧ ((vc sh rw co ∧ b = nI (mls en (sh, rw, co, rw, co) 4096).length ∧ RpM cI cZ u y 0 nx en (mls en (sh, rw, co, rw, co) 4096)) ∨ (¬ vc sh rw co ∧ RpM cI cZ u y 1 nx en ml))) := by
  refine gk_of [some (.ref y), some (.int sh), some (.int rw), some (.int co)] (by decide) rfl (Nat.le_of_ble_eq_true rfl) rfl ?_
  intro p e s m args below meth c A C hV hr hlk hnm
  obtain ⟨ad, ga, isR, r5, hW⟩ := hR
  refine gj_aload_n C dX3_readers_0 rfl ?_
  refine gj_iload_n C dX3_readers_1 rfl ?_
  refine gj_iconst (v := 0) C dX3_readers_2 (by decide) ?_
  refine gj_bipush (v := 7) C dX3_readers_3 (by decide) ?_
  refine gj_cS (As := [.int sh, .int 0, .int 7]) (rest := [.ref y]) (nc := 0) (ns := 0) C hV (k_within l D (tyl cI cN cZ cJ) f sh 0 7) dX3_readers_5 rfl w_392 rfl w_390 w_2 w_391 hd_X3_within rfl ⟨Nat.le_of_ble_eq_true rfl, Nat.le_of_ble_eq_true rfl⟩ (Nat.le_of_ble_eq_true rfl) (by decide) (by decide) (fun v u hp1 => ?_)
  refine gj_rt (st' := [.int (bI (decide (wn sh 0 7))), .ref y]) hp1.1 hp1.2 rfl ?_
  refine gj_if_eq (tgt := 36) C dX3_readers_8 (by decide) (fun c2 => ?_) (fun c2 => ?_)
  · refine gj_iconst (v := 1) C dX3_readers_36 (by decide) ?_
    refine gj_put C dX3_readers_37 hW.1.1 rfl inX3 tyX3_ok nmX3 0 (by decide) w_329 rfl rfl rfl (Nat.le_of_ble_eq_true rfl) ?_
    refine gj_f (f' := gm_up f y (cMo 1 ad (nI (cn en 4096)) isR r5 (nI ml.length))) rfl ?_
    have hW := rpm_cd hW 1 (nI (cn en 4096))
    generalize gm_up f y (cMo 1 ad (nI (cn en 4096)) isR r5 (nI ml.length)) = f at hW ⊢
    refine gj_aload_n C dX3_readers_40 rfl ?_
    refine gj_get C dX3_readers_41 hW.1.1 rfl inX3 0 (by decide) w_329 rfl ?_
    refine gj_if_neT (tgt := 59) C dX3_readers_44 (by decide) (by decide) ?_
    refine gj_iconst (v := 0) C dX3_readers_59 (by decide) ?_
    exact gj_iret C hr hlk dX3_readers_60 (⟨_, rfl, Or.inr ⟨(by have qc2 := bI_p0 c2; revert qc2; simp only [i_le, i_lt, i_eq, t_0, t_1, t_5, t_7, t_8, t_16383, t_16384, t_32768, t_1048576, vs, vl, vc, vn, ll, rF, rL, rMeet, rIn, rY, if_true, if_false, Bool.false_eq_true, ite_true, ite_false, reduceIte, wn, vr]; (try intros); omega), ⟨ad, ga, isR, r5, hW⟩⟩⟩)
  · refine gj_iload_n C dX3_readers_11 rfl ?_
    refine gj_iconst (v := 1) C dX3_readers_12 (by decide) ?_
    refine gj_ldc (v := 1048576) C dX3_readers_13 w_393 ?_
    refine gj_cS (As := [.int rw, .int 1, .int 1048576]) (rest := [.ref y]) (nc := 0) (ns := 0) C hV (k_within l D (tyl cI cN cZ cJ) f rw 1 1048576) dX3_readers_15 rfl w_392 rfl w_390 w_2 w_391 hd_X3_within rfl ⟨Nat.le_of_ble_eq_true rfl, Nat.le_of_ble_eq_true rfl⟩ (Nat.le_of_ble_eq_true rfl) (by decide) (by decide) (fun v u hp3 => ?_)
    refine gj_rt (st' := [.int (bI (decide (wn rw 1 1048576))), .ref y]) hp3.1 hp3.2 rfl ?_
    refine gj_if_eq (tgt := 36) C dX3_readers_18 (by decide) (fun c4 => ?_) (fun c4 => ?_)
    · refine gj_iconst (v := 1) C dX3_readers_36 (by decide) ?_
      refine gj_put C dX3_readers_37 hW.1.1 rfl inX3 tyX3_ok nmX3 0 (by decide) w_329 rfl rfl rfl (Nat.le_of_ble_eq_true rfl) ?_
      refine gj_f (f' := gm_up f y (cMo 1 ad (nI (cn en 4096)) isR r5 (nI ml.length))) rfl ?_
      have hW := rpm_cd hW 1 (nI (cn en 4096))
      generalize gm_up f y (cMo 1 ad (nI (cn en 4096)) isR r5 (nI ml.length)) = f at hW ⊢
      refine gj_aload_n C dX3_readers_40 rfl ?_
      refine gj_get C dX3_readers_41 hW.1.1 rfl inX3 0 (by decide) w_329 rfl ?_
      refine gj_if_neT (tgt := 59) C dX3_readers_44 (by decide) (by decide) ?_
      refine gj_iconst (v := 0) C dX3_readers_59 (by decide) ?_
      exact gj_iret C hr hlk dX3_readers_60 (⟨_, rfl, Or.inr ⟨(by have qc2 := bI_p1 c2; have qc4 := bI_p0 c4; revert qc2 qc4; simp only [i_le, i_lt, i_eq, t_0, t_1, t_5, t_7, t_8, t_16383, t_16384, t_32768, t_1048576, vs, vl, vc, vn, ll, rF, rL, rMeet, rIn, rY, if_true, if_false, Bool.false_eq_true, ite_true, ite_false, reduceIte, wn, vr]; (try intros); omega), ⟨ad, ga, isR, r5, hW⟩⟩⟩)
    · refine gj_iload_n C dX3_readers_21 rfl ?_
      refine gj_iconst (v := 1) C dX3_readers_22 (by decide) ?_
      refine gj_sipush (v := 16384) C dX3_readers_23 (by decide) ?_
      refine gj_cS (As := [.int co, .int 1, .int 16384]) (rest := [.ref y]) (nc := 0) (ns := 0) C hV (k_within l D (tyl cI cN cZ cJ) f co 1 16384) dX3_readers_26 rfl w_392 rfl w_390 w_2 w_391 hd_X3_within rfl ⟨Nat.le_of_ble_eq_true rfl, Nat.le_of_ble_eq_true rfl⟩ (Nat.le_of_ble_eq_true rfl) (by decide) (by decide) (fun v u hp5 => ?_)
      refine gj_rt (st' := [.int (bI (decide (wn co 1 16384))), .ref y]) hp5.1 hp5.2 rfl ?_
      refine gj_if_eq (tgt := 36) C dX3_readers_29 (by decide) (fun c6 => ?_) (fun c6 => ?_)
      · refine gj_iconst (v := 1) C dX3_readers_36 (by decide) ?_
        refine gj_put C dX3_readers_37 hW.1.1 rfl inX3 tyX3_ok nmX3 0 (by decide) w_329 rfl rfl rfl (Nat.le_of_ble_eq_true rfl) ?_
        refine gj_f (f' := gm_up f y (cMo 1 ad (nI (cn en 4096)) isR r5 (nI ml.length))) rfl ?_
        have hW := rpm_cd hW 1 (nI (cn en 4096))
        generalize gm_up f y (cMo 1 ad (nI (cn en 4096)) isR r5 (nI ml.length)) = f at hW ⊢
        refine gj_aload_n C dX3_readers_40 rfl ?_
        refine gj_get C dX3_readers_41 hW.1.1 rfl inX3 0 (by decide) w_329 rfl ?_
        refine gj_if_neT (tgt := 59) C dX3_readers_44 (by decide) (by decide) ?_
        refine gj_iconst (v := 0) C dX3_readers_59 (by decide) ?_
        exact gj_iret C hr hlk dX3_readers_60 (⟨_, rfl, Or.inr ⟨(by have qc2 := bI_p1 c2; have qc4 := bI_p1 c4; have qc6 := bI_p0 c6; revert qc2 qc4 qc6; simp only [i_le, i_lt, i_eq, t_0, t_1, t_5, t_7, t_8, t_16383, t_16384, t_32768, t_1048576, vs, vl, vc, vn, ll, rF, rL, rMeet, rIn, rY, if_true, if_false, Bool.false_eq_true, ite_true, ite_false, reduceIte, wn, vr]; (try intros); omega), ⟨ad, ga, isR, r5, hW⟩⟩⟩)
      · refine gj_iconst (v := 0) C dX3_readers_32 (by decide) ?_
        refine gj_goto (tgt := 37) C dX3_readers_33 (by decide) ?_
        refine gj_put C dX3_readers_37 hW.1.1 rfl inX3 tyX3_ok nmX3 0 (by decide) w_329 rfl rfl rfl (Nat.le_of_ble_eq_true rfl) ?_
        refine gj_f (f' := gm_up f y (cMo 0 ad (nI (cn en 4096)) isR r5 (nI ml.length))) rfl ?_
        have hW := rpm_cd hW 0 (nI (cn en 4096))
        generalize gm_up f y (cMo 0 ad (nI (cn en 4096)) isR r5 (nI ml.length)) = f at hW ⊢
        refine gj_aload_n C dX3_readers_40 rfl ?_
        refine gj_get C dX3_readers_41 hW.1.1 rfl inX3 0 (by decide) w_329 rfl ?_
        refine gj_if_neF (tgt := 59) C dX3_readers_44 (by decide) rfl ?_
        refine gj_aload_n C dX3_readers_47 rfl ?_
        refine gj_iload_n C dX3_readers_48 rfl ?_
        refine gj_iload_n C dX3_readers_49 rfl ?_
        refine gj_iload_n C dX3_readers_50 rfl ?_
        refine gj_iload_n C dX3_readers_51 rfl ?_
        refine gj_iload_n C dX3_readers_52 rfl ?_
        refine gj_cV (As := [.int sh, .int rw, .int co, .int rw, .int co]) (rest := []) (nc := 0) (ns := 0) C hV (k_MmeetAll l D cI cN cZ cJ f y _ nx en ml sh rw co rw co ⟨ad, ga, isR, r5, hW⟩) dX3_readers_53 rfl w_421 rfl w_418 w_2 w_420 ws_18 hd_X3_meetAll rfl hW.1.1 rfl ⟨Nat.le_of_ble_eq_true rfl, Nat.le_of_ble_eq_true rfl⟩ (Nat.le_of_ble_eq_true rfl) (by decide) (by decide) (fun v u hp => ?_)
        refine gj_rt (f := u) (st' := [.int (nI (mls en (sh, rw, co, rw, co) 4096).length)]) hp.1 rfl rfl ?_
        refine gj_goto (tgt := 60) C dX3_readers_56 (by decide) ?_
        exact gj_iret C hr hlk dX3_readers_60 (⟨_, rfl, Or.inl ⟨(by have qc2 := bI_p1 c2; have qc4 := bI_p1 c4; have qc6 := bI_p1 c6; revert qc2 qc4 qc6; simp only [i_le, i_lt, i_eq, t_0, t_1, t_5, t_7, t_8, t_16383, t_16384, t_32768, t_1048576, vs, vl, vc, vn, ll, rF, rL, rMeet, rIn, rY, if_true, if_false, Bool.false_eq_true, ite_true, ite_false, reduceIte, wn, vr]; (try intros); omega), rfl, hp.2⟩⟩)
set_option maxRecDepth 100000 in
set_option maxHeartbeats 4000000 in
theorem k_Mmeet (l : Launch) (D : va_G) (cI cN cZ cJ : ClassId) (f : gm) (y : Nat) (cd : Int32) (nx : Option Rc) (en : Nat → Option En) (ml : List Nat) (hR : RpM cI cZ f y cd nx en ml) : gk l yX3_meet (.code yX3_meet cX3_meet 1 (Option.some Jvm.ClassFile.FieldType.int)) (rmk 2 0 0) D (tyl cI cN cZ cJ) [.ref y] f (fun v u => ∃ b, v = some (.int b) ∧ ((∃ r9, nx = some r9 ∧ b = nI (mls en r9 4096).length ∧ RpM cI cZ u y 0 nx en (mls en r9 4096)) ∨ (nx = none ∧ RpM cI cZ u y 1 nx en ml))) := by
  refine gk_of [some (.ref y)] (by decide) rfl (Nat.le_of_ble_eq_true rfl) rfl ?_
  intro p e s m args below meth c A C hV hr hlk hnm
  obtain ⟨ad, ga, isR, r5, hW⟩ := hR
  cases nx with
  | none =>
    have hq : isR = 0 := hW.2.2.1
    subst hq
    refine gj_aload_n C dX3_meet_0 rfl ?_
    refine gj_aload_n C dX3_meet_1 rfl ?_
    refine gj_get C dX3_meet_2 hW.1.1 rfl inX3 9 (by decide) w_338 rfl ?_
    refine gj_if_eqT (tgt := 12) C dX3_meet_5 (by decide) rfl ?_
    refine gj_iconst (v := 1) C dX3_meet_12 (by decide) ?_
    refine gj_put C dX3_meet_13 hW.1.1 rfl inX3 tyX3_ok nmX3 0 (by decide) w_329 rfl rfl rfl (Nat.le_of_ble_eq_true rfl) ?_
    refine gj_f (f' := gm_up f y (cMo 1 ad (nI (cn en 4096)) 0 r5 (nI ml.length))) rfl ?_
    have hW := rpm_cd hW 1 (nI (cn en 4096))
    generalize gm_up f y (cMo 1 ad (nI (cn en 4096)) 0 r5 (nI ml.length)) = f at hW ⊢
    refine gj_aload_n C dX3_meet_16 rfl ?_
    refine gj_get C dX3_meet_17 hW.1.1 rfl inX3 0 (by decide) w_329 rfl ?_
    refine gj_if_neT (tgt := 50) C dX3_meet_20 (by decide) (by decide) ?_
    refine gj_iconst (v := 0) C dX3_meet_50 (by decide) ?_
    exact gj_iret C hr hlk dX3_meet_51 (⟨_, rfl, Or.inr ⟨rfl, ⟨ad, ga, _, r5, hW⟩⟩⟩)
  | some r =>
    obtain ⟨hq, hr5⟩ : isR = 1 ∧ r5 = r := hW.2.2.1
    subst hq
    subst hr5
    refine gj_aload_n C dX3_meet_0 rfl ?_
    refine gj_aload_n C dX3_meet_1 rfl ?_
    refine gj_get C dX3_meet_2 hW.1.1 rfl inX3 9 (by decide) w_338 rfl ?_
    refine gj_if_eqF (tgt := 12) C dX3_meet_5 (by decide) (by decide) ?_
    refine gj_iconst (v := 0) C dX3_meet_8 (by decide) ?_
    refine gj_goto (tgt := 13) C dX3_meet_9 (by decide) ?_
    refine gj_put C dX3_meet_13 hW.1.1 rfl inX3 tyX3_ok nmX3 0 (by decide) w_329 rfl rfl rfl (Nat.le_of_ble_eq_true rfl) ?_
    refine gj_f (f' := gm_up f y (cMo 0 ad (nI (cn en 4096)) 1 r5 (nI ml.length))) rfl ?_
    have hW := rpm_cd hW 0 (nI (cn en 4096))
    generalize gm_up f y (cMo 0 ad (nI (cn en 4096)) 1 r5 (nI ml.length)) = f at hW ⊢
    refine gj_aload_n C dX3_meet_16 rfl ?_
    refine gj_get C dX3_meet_17 hW.1.1 rfl inX3 0 (by decide) w_329 rfl ?_
    refine gj_if_neF (tgt := 50) C dX3_meet_20 (by decide) rfl ?_
    refine gj_aload_n C dX3_meet_23 rfl ?_
    refine gj_aload_n C dX3_meet_24 rfl ?_
    refine gj_get C dX3_meet_25 hW.1.1 rfl inX3 10 (by decide) w_339 rfl ?_
    refine gj_aload_n C dX3_meet_28 rfl ?_
    refine gj_get C dX3_meet_29 hW.1.1 rfl inX3 11 (by decide) w_340 rfl ?_
    refine gj_aload_n C dX3_meet_32 rfl ?_
    refine gj_get C dX3_meet_33 hW.1.1 rfl inX3 12 (by decide) w_341 rfl ?_
    refine gj_aload_n C dX3_meet_36 rfl ?_
    refine gj_get C dX3_meet_37 hW.1.1 rfl inX3 13 (by decide) w_342 rfl ?_
    refine gj_aload_n C dX3_meet_40 rfl ?_
    refine gj_get C dX3_meet_41 hW.1.1 rfl inX3 14 (by decide) w_343 rfl ?_
    refine gj_cV (As := [.int r5.1, .int r5.2.1, .int r5.2.2.1, .int r5.2.2.2.1, .int r5.2.2.2.2]) (rest := []) (nc := 0) (ns := 0) C hV (k_MmeetAll l D cI cN cZ cJ f y _ _ en ml r5.1 r5.2.1 r5.2.2.1 r5.2.2.2.1 r5.2.2.2.2 ⟨ad, ga, _, r5, hW⟩) dX3_meet_44 rfl w_421 rfl w_418 w_2 w_420 ws_18 hd_X3_meetAll rfl hW.1.1 rfl ⟨Nat.le_of_ble_eq_true rfl, Nat.le_of_ble_eq_true rfl⟩ (Nat.le_of_ble_eq_true rfl) (by decide) (by decide) (fun v u hp => ?_)
    refine gj_rt (f := u) (st' := [.int (nI (mls en r5 4096).length)]) hp.1 rfl rfl ?_
    refine gj_goto (tgt := 51) C dX3_meet_47 (by decide) ?_
    exact gj_iret C hr hlk dX3_meet_51 (⟨_, rfl, Or.inl ⟨r5, rfl, rfl, hp.2⟩⟩)
set_option maxRecDepth 100000 in
set_option maxHeartbeats 4000000 in
theorem k_Madd (l : Launch) (D : va_G) (cI cN cZ cJ : ClassId) (f : gm) (y : Nat) (cd : Int32) (nx : Option Rc) (en : Nat → Option En) (ml : List Nat) (wo : Int32) (hR : RpM cI cZ f y cd nx en ml) (hex : ∃ i, i < 4096 ∧ lowE en i) : gk l yX3_add (.code yX3_add cX3_add 3 (Option.some Jvm.ClassFile.FieldType.int)) (rmk 1 0 0) D (tyl cI cN cZ cJ) [.ref y, .int wo] f (fun v u => ∃ b, v = some (.int b) ∧ ((∃ r9 i, nx = some r9 ∧ (0 ≤ wo ∧ wo < 16384) ∧ lowE en i ∧ b = nI i ∧ RpM cI cZ u y 0 nx (va_up en i (some (r9, wo))) ml) ∨ ((nx = none ∨ ¬ (0 ≤ wo ∧ wo < 16384)) ∧ RpM cI cZ u y 1 nx en ml))) := by
  refine gk_of [some (.ref y), some (.int wo), none] (by decide) rfl (Nat.le_of_ble_eq_true rfl) rfl ?_
  intro p e s m args below meth c A C hV hr hlk hnm
  obtain ⟨ad, ga, isR, r5, hW⟩ := hR
  cases nx with
  | none =>
    have hq : isR = 0 := hW.2.2.1
    subst hq
    refine gj_aload_n C dX3_add_0 rfl ?_
    refine gj_aload_n C dX3_add_1 rfl ?_
    refine gj_get C dX3_add_2 hW.1.1 rfl inX3 9 (by decide) w_338 rfl ?_
    refine gj_if_eqT (tgt := 19) C dX3_add_5 (by decide) rfl ?_
    refine gj_iconst (v := 1) C dX3_add_19 (by decide) ?_
    refine gj_goto (tgt := 24) C dX3_add_20 (by decide) ?_
    refine gj_put C dX3_add_24 hW.1.1 rfl inX3 tyX3_ok nmX3 0 (by decide) w_329 rfl rfl rfl (Nat.le_of_ble_eq_true rfl) ?_
    refine gj_f (f' := gm_up f y (cMo 1 ad (nI (cn en 4096)) 0 r5 (nI ml.length))) rfl ?_
    have hW := rpm_cd hW 1 (nI (cn en 4096))
    generalize gm_up f y (cMo 1 ad (nI (cn en 4096)) 0 r5 (nI ml.length)) = f at hW ⊢
    refine gj_aload_n C dX3_add_27 rfl ?_
    refine gj_get C dX3_add_28 hW.1.1 rfl inX3 0 (by decide) w_329 rfl ?_
    refine gj_if_eqF (tgt := 36) C dX3_add_31 (by decide) (by decide) ?_
    refine gj_iconst (v := 0) C dX3_add_34 (by decide) ?_
    exact gj_iret C hr hlk dX3_add_35 (⟨_, rfl, Or.inr ⟨Or.inl rfl, ⟨ad, ga, _, r5, hW⟩⟩⟩)
  | some r =>
    obtain ⟨hq, hr5⟩ : isR = 1 ∧ r5 = r := hW.2.2.1
    subst hq
    subst hr5
    refine gj_aload_n C dX3_add_0 rfl ?_
    refine gj_aload_n C dX3_add_1 rfl ?_
    refine gj_get C dX3_add_2 hW.1.1 rfl inX3 9 (by decide) w_338 rfl ?_
    refine gj_if_eqF (tgt := 19) C dX3_add_5 (by decide) (by decide) ?_
    refine gj_iload_n C dX3_add_8 rfl ?_
    refine gj_iconst (v := 0) C dX3_add_9 (by decide) ?_
    refine gj_sipush (v := 16383) C dX3_add_10 (by decide) ?_
    refine gj_cS (As := [.int wo, .int 0, .int 16383]) (rest := [.ref y]) (nc := 0) (ns := 0) C hV (k_within l D (tyl cI cN cZ cJ) f wo 0 16383) dX3_add_13 rfl w_392 rfl w_390 w_2 w_391 hd_X3_within rfl ⟨Nat.le_of_ble_eq_true rfl, Nat.le_of_ble_eq_true rfl⟩ (Nat.le_of_ble_eq_true rfl) (by decide) (by decide) (fun v u hp1 => ?_)
    refine gj_rt (st' := [.int (bI (decide (wn wo 0 16383))), .ref y]) hp1.1 hp1.2 rfl ?_
    refine gj_if_ne (tgt := 23) C dX3_add_16 (by decide) (fun c2 => ?_) (fun c2 => ?_)
    · refine gj_iconst (v := 0) C dX3_add_23 (by decide) ?_
      refine gj_put C dX3_add_24 hW.1.1 rfl inX3 tyX3_ok nmX3 0 (by decide) w_329 rfl rfl rfl (Nat.le_of_ble_eq_true rfl) ?_
      refine gj_f (f' := gm_up f y (cMo 0 ad (nI (cn en 4096)) 1 r5 (nI ml.length))) rfl ?_
      have hW := rpm_cd hW 0 (nI (cn en 4096))
      generalize gm_up f y (cMo 0 ad (nI (cn en 4096)) 1 r5 (nI ml.length)) = f at hW ⊢
      refine gj_aload_n C dX3_add_27 rfl ?_
      refine gj_get C dX3_add_28 hW.1.1 rfl inX3 0 (by decide) w_329 rfl ?_
      refine gj_if_eqT (tgt := 36) C dX3_add_31 (by decide) rfl ?_
      have hok : (0 ≤ wo ∧ wo < 16384) := (by have qc2 := bI_p1 c2; revert qc2; simp only [i_le, i_lt, i_eq, t_0, t_1, t_5, t_7, t_8, t_16383, t_16384, t_32768, t_1048576, vs, vl, vc, vn, ll, rF, rL, rMeet, rIn, rY, if_true, if_false, Bool.false_eq_true, ite_true, ite_false, reduceIte, wn, vr]; (try intros); omega)
      obtain ⟨i, hi, hlo⟩ := hex
      have loop : ∀ (d k : Nat), k + d = i → gj p l e (rmk 1 0 0) s m args below meth c D vwCl A 3 (MQ below (gk_Q (fun v u => ∃ b, v = some (.int b) ∧ ((∃ r9 i, (some r5) = some r9 ∧ (0 ≤ wo ∧ wo < 16384) ∧ lowE en i ∧ b = nI i ∧ RpM cI cZ u y 0 (some r5) (va_up en i (some (r9, wo))) ml) ∨ (((some r5) = none ∨ ¬ (0 ≤ wo ∧ wo < 16384)) ∧ RpM cI cZ u y 1 (some r5) en ml))) D A) args s (rmk 1 0 0).cells (rmk 1 0 0).slots A) f 0 0 38 [some (.ref y), some (.int wo), some (.int (nI k))] [] := by
        intro d
        induction d with
        | zero =>
          intro k hki
          have hki : i = k := by omega
          subst hki
          have g0 := rpm_no hW hi hlo.1
          refine gj_aload_n C dX3_add_38 rfl ?_
          refine gj_get C dX3_add_39 hW.1.1 rfl inX3 1 (by decide) w_330 rfl ?_
          refine gj_iload_n C dX3_add_42 rfl ?_
          refine gj_zaldN C 2 dX3_add_43 hW.1.2.1 rfl hi (by decide) ?_
          refine gj_st (st' := [.int 0]) (by rw [g0]) ?_
          refine gj_if_eqT (tgt := 53) C dX3_add_44 (by decide) rfl ?_
          refine gj_aload_n C dX3_add_53 rfl ?_
          refine gj_get C dX3_add_54 hW.1.1 rfl inX3 1 (by decide) w_330 rfl ?_
          refine gj_iload_n C dX3_add_57 rfl ?_
          refine gj_iconst (v := 1) C dX3_add_58 (by decide) ?_
          refine gj_zastN C 2 dX3_add_59 hW.1.2.1 rfl hi (by decide) ?_
          refine gj_f (f' := gm_up f (ad 0) (aZ cZ (upd (ga 0) i 1))) (by rw [vpn_1]) ?_
          have hei1 := va_up_self en i (some ((ga 1 i, ga 2 i, ga 3 i, ga 4 i, ga 5 i), ga 6 i))
          have hW := rpm_t1 hW hi
          generalize ((ga 1 i, ga 2 i, ga 3 i, ga 4 i, ga 5 i), ga 6 i) = e0 at hW hei1
          generalize gm_up f (ad 0) (aZ cZ (upd (ga 0) i 1)) = f at hW ⊢
          generalize va_up ga 0 (upd (ga 0) i 1) = ga at hW
          refine gj_aload_n C dX3_add_60 rfl ?_
          refine gj_get C dX3_add_61 hW.1.1 rfl inX3 2 (by decide) w_331 rfl ?_
          refine gj_iload_n C dX3_add_64 rfl ?_
          refine gj_aload_n C dX3_add_65 rfl ?_
          refine gj_get C dX3_add_66 hW.1.1 rfl inX3 10 (by decide) w_339 rfl ?_
          refine gj_iastN C 0 dX3_add_69 (hW.1.2.2 1 (by decide) (by decide)) rfl hi (by decide) ?_
          have hW := rpm_st hW hi hei1 1 (by decide) (by decide) r5.1
          have hei1 := va_up_self (va_up en i (some e0)) i (some (setk 1 r5.1 e0))
          generalize gm_up f (ad 1) (.inl (cI, 4096, .inl (upd (ga 1) i r5.1))) = f at hW ⊢
          generalize va_up ga 1 (upd (ga 1) i r5.1) = ga at hW
          refine gj_aload_n C dX3_add_70 rfl ?_
          refine gj_get C dX3_add_71 hW.1.1 rfl inX3 3 (by decide) w_332 rfl ?_
          refine gj_iload_n C dX3_add_74 rfl ?_
          refine gj_aload_n C dX3_add_75 rfl ?_
          refine gj_get C dX3_add_76 hW.1.1 rfl inX3 11 (by decide) w_340 rfl ?_
          refine gj_iastN C 0 dX3_add_79 (hW.1.2.2 2 (by decide) (by decide)) rfl hi (by decide) ?_
          have hW := rpm_st hW hi hei1 2 (by decide) (by decide) r5.2.1
          have hei1 := va_up_self (va_up (va_up en i (some e0)) i (some (setk 1 r5.1 e0))) i (some (setk 2 r5.2.1 (setk 1 r5.1 e0)))
          generalize gm_up f (ad 2) (.inl (cI, 4096, .inl (upd (ga 2) i r5.2.1))) = f at hW ⊢
          generalize va_up ga 2 (upd (ga 2) i r5.2.1) = ga at hW
          refine gj_aload_n C dX3_add_80 rfl ?_
          refine gj_get C dX3_add_81 hW.1.1 rfl inX3 4 (by decide) w_333 rfl ?_
          refine gj_iload_n C dX3_add_84 rfl ?_
          refine gj_aload_n C dX3_add_85 rfl ?_
          refine gj_get C dX3_add_86 hW.1.1 rfl inX3 12 (by decide) w_341 rfl ?_
          refine gj_iastN C 0 dX3_add_89 (hW.1.2.2 3 (by decide) (by decide)) rfl hi (by decide) ?_
          have hW := rpm_st hW hi hei1 3 (by decide) (by decide) r5.2.2.1
          have hei1 := va_up_self (va_up (va_up (va_up en i (some e0)) i (some (setk 1 r5.1 e0))) i (some (setk 2 r5.2.1 (setk 1 r5.1 e0)))) i (some (setk 3 r5.2.2.1 (setk 2 r5.2.1 (setk 1 r5.1 e0))))
          generalize gm_up f (ad 3) (.inl (cI, 4096, .inl (upd (ga 3) i r5.2.2.1))) = f at hW ⊢
          generalize va_up ga 3 (upd (ga 3) i r5.2.2.1) = ga at hW
          refine gj_aload_n C dX3_add_90 rfl ?_
          refine gj_get C dX3_add_91 hW.1.1 rfl inX3 5 (by decide) w_334 rfl ?_
          refine gj_iload_n C dX3_add_94 rfl ?_
          refine gj_aload_n C dX3_add_95 rfl ?_
          refine gj_get C dX3_add_96 hW.1.1 rfl inX3 13 (by decide) w_342 rfl ?_
          refine gj_iastN C 0 dX3_add_99 (hW.1.2.2 4 (by decide) (by decide)) rfl hi (by decide) ?_
          have hW := rpm_st hW hi hei1 4 (by decide) (by decide) r5.2.2.2.1
          have hei1 := va_up_self (va_up (va_up (va_up (va_up en i (some e0)) i (some (setk 1 r5.1 e0))) i (some (setk 2 r5.2.1 (setk 1 r5.1 e0)))) i (some (setk 3 r5.2.2.1 (setk 2 r5.2.1 (setk 1 r5.1 e0))))) i (some (setk 4 r5.2.2.2.1 (setk 3 r5.2.2.1 (setk 2 r5.2.1 (setk 1 r5.1 e0)))))
          generalize gm_up f (ad 4) (.inl (cI, 4096, .inl (upd (ga 4) i r5.2.2.2.1))) = f at hW ⊢
          generalize va_up ga 4 (upd (ga 4) i r5.2.2.2.1) = ga at hW
          refine gj_aload_n C dX3_add_100 rfl ?_
          refine gj_get C dX3_add_101 hW.1.1 rfl inX3 6 (by decide) w_335 rfl ?_
          refine gj_iload_n C dX3_add_104 rfl ?_
          refine gj_aload_n C dX3_add_105 rfl ?_
          refine gj_get C dX3_add_106 hW.1.1 rfl inX3 14 (by decide) w_343 rfl ?_
          refine gj_iastN C 0 dX3_add_109 (hW.1.2.2 5 (by decide) (by decide)) rfl hi (by decide) ?_
          have hW := rpm_st hW hi hei1 5 (by decide) (by decide) r5.2.2.2.2
          have hei1 := va_up_self (va_up (va_up (va_up (va_up (va_up en i (some e0)) i (some (setk 1 r5.1 e0))) i (some (setk 2 r5.2.1 (setk 1 r5.1 e0)))) i (some (setk 3 r5.2.2.1 (setk 2 r5.2.1 (setk 1 r5.1 e0))))) i (some (setk 4 r5.2.2.2.1 (setk 3 r5.2.2.1 (setk 2 r5.2.1 (setk 1 r5.1 e0)))))) i (some (setk 5 r5.2.2.2.2 (setk 4 r5.2.2.2.1 (setk 3 r5.2.2.1 (setk 2 r5.2.1 (setk 1 r5.1 e0))))))
          generalize gm_up f (ad 5) (.inl (cI, 4096, .inl (upd (ga 5) i r5.2.2.2.2))) = f at hW ⊢
          generalize va_up ga 5 (upd (ga 5) i r5.2.2.2.2) = ga at hW
          refine gj_aload_n C dX3_add_110 rfl ?_
          refine gj_get C dX3_add_111 hW.1.1 rfl inX3 7 (by decide) w_336 rfl ?_
          refine gj_iload_n C dX3_add_114 rfl ?_
          refine gj_iload_n C dX3_add_115 rfl ?_
          refine gj_iastN C 0 dX3_add_116 (hW.1.2.2 6 (by decide) (by decide)) rfl hi (by decide) ?_
          have hW := rpm_st hW hi hei1 6 (by decide) (by decide) wo
          have hei1 := va_up_self (va_up (va_up (va_up (va_up (va_up (va_up en i (some e0)) i (some (setk 1 r5.1 e0))) i (some (setk 2 r5.2.1 (setk 1 r5.1 e0)))) i (some (setk 3 r5.2.2.1 (setk 2 r5.2.1 (setk 1 r5.1 e0))))) i (some (setk 4 r5.2.2.2.1 (setk 3 r5.2.2.1 (setk 2 r5.2.1 (setk 1 r5.1 e0)))))) i (some (setk 5 r5.2.2.2.2 (setk 4 r5.2.2.2.1 (setk 3 r5.2.2.1 (setk 2 r5.2.1 (setk 1 r5.1 e0))))))) i (some (setk 6 wo (setk 5 r5.2.2.2.2 (setk 4 r5.2.2.2.1 (setk 3 r5.2.2.1 (setk 2 r5.2.1 (setk 1 r5.1 e0)))))))
          generalize gm_up f (ad 6) (.inl (cI, 4096, .inl (upd (ga 6) i wo))) = f at hW ⊢
          generalize va_up ga 6 (upd (ga 6) i wo) = ga at hW
          refine gj_aload_n C dX3_add_117 rfl ?_
          refine gj_dup C dX3_add_118 rfl ?_
          refine gj_get C dX3_add_119 hW.1.1 rfl inX3 8 (by decide) w_337 rfl ?_
          refine gj_iconst (v := 1) C dX3_add_122 (by decide) ?_
          refine gj_iadd C dX3_add_123 ?_
          refine gj_put C dX3_add_124 hW.1.1 rfl inX3 tyX3_ok nmX3 8 (by decide) w_337 rfl rfl rfl (Nat.le_of_ble_eq_true rfl) ?_
          refine gj_f (f' := gm_up f y (cMo 0 ad ((nI (cn en 4096)) + 1) 1 r5 (nI ml.length))) rfl ?_
          have hW := rpm_cd hW 0 ((nI (cn en 4096)) + 1)
          refine gj_iload_n C dX3_add_127 rfl ?_
          exact gj_iret C hr hlk dX3_add_128 (⟨_, rfl, Or.inl ⟨r5, i, rfl, hok, hlo, rfl, ⟨ad, ga, _, r5, by rw [cn_add hlo.1 4096 hi, ← nI_1]; rw [bx_uu, bx_uu, bx_uu, bx_uu, bx_uu, bx_uu] at hW; exact hW⟩⟩⟩)
        | succ d ih =>
          intro k hki
          have g0 : ga 0 k = 1 := by
            cases hek : en k with
            | none => exact absurd hek (hlo.2 k (by omega))
            | some ek => exact (rpm_at hW (by omega) hek).1
          refine gj_aload_n C dX3_add_38 rfl ?_
          refine gj_get C dX3_add_39 hW.1.1 rfl inX3 1 (by decide) w_330 rfl ?_
          refine gj_iload_n C dX3_add_42 rfl ?_
          refine gj_zaldN C 2 dX3_add_43 hW.1.2.1 rfl (by omega) (by decide) ?_
          refine gj_st (st' := [.int 1]) (by rw [g0]) ?_
          refine gj_if_eqF (tgt := 53) C dX3_add_44 (by decide) (by decide) ?_
          refine gj_iinc (v := (nI (k + 1))) (lw' := [some (.ref y), some (.int wo), some (.int (nI (k + 1)))]) C dX3_add_47 rfl (nI_1 k) (by decide) rfl rfl ?_
          refine gj_goto (tgt := 38) C dX3_add_50 (by decide) ?_
          exact ih (k + 1) (by omega)
      refine gj_iconst (v := 0) C dX3_add_36 (by decide) ?_
      refine gj_istore_n (lw' := [some (.ref y), some (.int wo), some (.int 0)]) C dX3_add_37 (by decide) rfl rfl ?_
      exact loop i 0 (by omega)
    · refine gj_iconst (v := 1) C dX3_add_19 (by decide) ?_
      refine gj_goto (tgt := 24) C dX3_add_20 (by decide) ?_
      refine gj_put C dX3_add_24 hW.1.1 rfl inX3 tyX3_ok nmX3 0 (by decide) w_329 rfl rfl rfl (Nat.le_of_ble_eq_true rfl) ?_
      refine gj_f (f' := gm_up f y (cMo 1 ad (nI (cn en 4096)) 1 r5 (nI ml.length))) rfl ?_
      have hW := rpm_cd hW 1 (nI (cn en 4096))
      generalize gm_up f y (cMo 1 ad (nI (cn en 4096)) 1 r5 (nI ml.length)) = f at hW ⊢
      refine gj_aload_n C dX3_add_27 rfl ?_
      refine gj_get C dX3_add_28 hW.1.1 rfl inX3 0 (by decide) w_329 rfl ?_
      refine gj_if_eqF (tgt := 36) C dX3_add_31 (by decide) (by decide) ?_
      refine gj_iconst (v := 0) C dX3_add_34 (by decide) ?_
      exact gj_iret C hr hlk dX3_add_35 (⟨_, rfl, Or.inr ⟨Or.inr (by have qc2 := bI_p0 c2; revert qc2; simp only [i_le, i_lt, i_eq, t_0, t_1, t_5, t_7, t_8, t_16383, t_16384, t_32768, t_1048576, vs, vl, vc, vn, ll, rF, rL, rMeet, rIn, rY, if_true, if_false, Bool.false_eq_true, ite_true, ite_false, reduceIte, wn, vr]; (try intros); omega), ⟨ad, ga, _, r5, hW⟩⟩⟩)
end
section
/-! Sums and differences that don't wrap. -/
theorem i_add {x y : Int32} (h1 : -2147483648 ≤ x.toInt + y.toInt) (h2 : x.toInt + y.toInt < 2147483648) : (x + y).toInt = x.toInt + y.toInt := by
  rw [Int32.toInt_add]
  exact Int.bmod_eq_of_le (by omega) (by omega)
theorem i_sub {x y : Int32} (h1 : -2147483648 ≤ x.toInt - y.toInt) (h2 : x.toInt - y.toInt < 2147483648) : (x - y).toInt = x.toInt - y.toInt := by
  rw [Int32.toInt_sub]
  exact Int.bmod_eq_of_le (by omega) (by omega)
theorem ll_le (cs : Bool) : (ll cs).toInt ≤ 1048576 := by cases cs <;> decide +kernel
/-- a line of a sheet, and a number of lines -/
theorem ln_bd {cs : Bool} {x : Int32} (h : vl cs x) : 1 ≤ x.toInt ∧ x.toInt ≤ 1048576 := by
  obtain ⟨h1, h2⟩ := h
  have := ll_le cs
  rw [i_le, t_1] at h1
  rw [i_le] at h2
  omega
theorem nm_bd {n : Int32} (h : 1 ≤ n ∧ n ≤ 16384) : 1 ≤ n.toInt ∧ n.toInt ≤ 16384 := by
  rw [i_le, i_le, t_1, t_16384] at h
  exact h
theorem vr_F {r : Rc} (h : vr r) (cs : Bool) : vl cs (rF cs r) := by
  cases cs
  · exact h.1.2.1
  · exact h.1.2.2
theorem vr_L {r : Rc} (h : vr r) (cs : Bool) : vl cs (rL cs r) := by
  cases cs
  · exact h.2.1.2.1
  · exact h.2.1.2.2
section DEL
variable {sh : Int32} {cs : Bool} {at0 n x : Int32}
theorem del_cmp (hv : vn sh cs at0 n) (hx : vl cs x) : (at0 + n ≤ x ↔ ¬ x - n < at0) ∧ (at0 + n ≤ x ↔ ¬ x - n < at0 - 1 ∧ at0 + n ≤ x) ∧ (¬ at0 + n ≤ x → ¬ (at0 - 1 ≤ x - n ∧ at0 - 1 ≠ x - n)) := by
  have h1 := ln_bd hv.2.1
  have h2 := nm_bd hv.2.2
  have h3 := ln_bd hx
  have e1 : (at0 + n).toInt = at0.toInt + n.toInt := i_add (by omega) (by omega)
  have e2 : (x - n).toInt = x.toInt - n.toInt := i_sub (by omega) (by omega)
  have e3 : (at0 - 1).toInt = at0.toInt - 1 := by rw [i_sub (by rw [t_1]; omega) (by rw [t_1]; omega), t_1]
  refine ⟨?_, ?_, ?_⟩
  · rw [i_le, i_lt, e1, e2]; omega
  · rw [i_le, i_lt, e1, e2, e3]; omega
  · rw [i_le, i_le, e1, e2, e3]
    intro h ⟨h4, h5⟩
    have h6 : (at0 - 1).toInt ≠ (x - n).toInt := fun e => h5 (Int32.toInt_inj.mp e)
    rw [e2, e3] at h6
    omega
theorem delA_1 (hv : vn sh cs at0 n) (hx : vl cs x) (h1 : at0 ≤ x) (h2 : at0 + n ≤ x) : delA at0 n x = x - n := by
  rw [delA_t h1, if_neg ((del_cmp hv hx).1.mp h2)]
theorem delA_2 (hv : vn sh cs at0 n) (hx : vl cs x) (h1 : at0 ≤ x) (h2 : ¬ at0 + n ≤ x) : delA at0 n x = at0 := by
  rw [delA_t h1, if_pos (Classical.byContradiction (fun h => h2 ((del_cmp hv hx).1.mpr h)))]
theorem delB_1 (hv : vn sh cs at0 n) (hx : vl cs x) (h1 : at0 ≤ x) (h2 : at0 + n ≤ x) : delB at0 n x = x - n := by
  rw [delB_t h1, if_neg ((del_cmp hv hx).2.1.mp h2).1]
theorem delB_2 (hv : vn sh cs at0 n) (hx : vl cs x) (h1 : at0 ≤ x) (h2 : ¬ at0 + n ≤ x) : delB at0 n x = at0 - 1 := by
  rw [delB_t h1]
  by_cases h : x - n < at0 - 1
  · rw [if_pos h]
  · rw [if_neg h]
    have h3 := (del_cmp hv hx).2.2 h2
    have h4 : at0 - 1 ≤ x - n := i_nlt h
    exact Classical.byContradiction (fun h5 => h3 ⟨h4, fun e => h5 e.symm⟩)
end DEL
theorem insB_1 {cs : Bool} {at0 n x : Int32} (h : ¬ x < at0) (h2 : x + n ≤ ll cs) : insB cs at0 n x = x + n := by unfold insB; rw [if_neg h, if_neg (i_len h2)]
theorem insB_2 {cs : Bool} {at0 n x : Int32} (h : ¬ x < at0) (h2 : ¬ x + n ≤ ll cs) : insB cs at0 n x = ll cs := by unfold insB; rw [if_neg h, if_pos (i_nle h2)]
theorem insB_3 {cs : Bool} {at0 n x : Int32} (h : x < at0) : insB cs at0 n x = x := if_pos h
theorem insA_1 {at0 n x : Int32} (h : ¬ x < at0) : insA at0 n x = x + n := if_neg h
theorem insA_2 {at0 n x : Int32} (h : x < at0) : insA at0 n x = x := if_pos h
theorem i_aas (a b : Int32) : a + (b - a) = b := by
  rw [Int32.add_comm]
  exact Int32.sub_add_cancel b a
/-- where a rectangle is put down: it lies on the sheet -/
theorem mv_lies {r : Rc} {sh rw co : Int32} (hr : vr r) (hc : vc sh rw co) : vc sh (rM sh (rw - r.2.1) (co - r.2.2.1) r).2.2.2.1 (rM sh (rw - r.2.1) (co - r.2.2.1) r).2.2.2.2 ↔ (r.2.2.2.1 + (rw - r.2.1) ≤ 1048576 ∧ r.2.2.2.2 + (co - r.2.2.1) ≤ 16384) := by
  obtain ⟨⟨s1, t1, l1⟩, ⟨s2, b1, q1⟩, tb, lr⟩ := hr
  have a1 := ln_bd t1
  have a2 := ln_bd l1
  have a3 := ln_bd b1
  have a4 := ln_bd q1
  have a5 := ln_bd hc.2.1
  have a6 := ln_bd hc.2.2
  rw [i_le] at tb lr
  have e1 : (rw - r.2.1).toInt = rw.toInt - r.2.1.toInt := i_sub (by omega) (by omega)
  have e2 : (co - r.2.2.1).toInt = co.toInt - r.2.2.1.toInt := i_sub (by omega) (by omega)
  have e3 : (r.2.2.2.1 + (rw - r.2.1)).toInt = r.2.2.2.1.toInt + (rw.toInt - r.2.1.toInt) := by rw [← e1]; exact i_add (by omega) (by omega)
  have e4 : (r.2.2.2.2 + (co - r.2.2.1)).toInt = r.2.2.2.2.toInt + (co.toInt - r.2.2.1.toInt) := by rw [← e2]; exact i_add (by omega) (by omega)
  constructor
  · intro h
    exact ⟨h.2.1.2, h.2.2.2⟩
  · intro h
    refine ⟨hc.1, ⟨?_, h.1⟩, ⟨?_, h.2⟩⟩
    · show (1 : Int32) ≤ r.2.2.2.1 + (rw - r.2.1)
      rw [i_le, t_1, e3]; omega
    · show (1 : Int32) ≤ r.2.2.2.2 + (co - r.2.2.1)
      rw [i_le, t_1, e4]; omega
end
