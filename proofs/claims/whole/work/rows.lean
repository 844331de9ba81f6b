section
-- ===== PART A: goes FIRST, ahead of the names: the tables' words, and 'selects' of the private methods out of them =====
/-- a private method of a class that the tables say can be made, by its rows of tables_1 -/
def lw_okq (q : MethodName × Nat) : Prop := (q.1.cls ≠ "java/lang/invoke/MethodHandle" ∧ q.1.cls ≠ "java/lang/invoke/VarHandle") ∧ Cond.instantiable q.1.cls q.2 ∈ tables_1 ∧ Cond.privateMethod q.1 ∈ tables_1 ∧ Cond.instanceMethod q.1 ∈ tables_1
theorem lw_p0 : lw_okq (⟨"KeyGraph", "addKey", "(LKeyGraph$Key;)I"⟩, 6) := ⟨⟨by decide +kernel, by decide +kernel⟩, List.mem_of_getElem? (i := 13) (by decide +kernel), List.mem_of_getElem? (i := 164) (by decide +kernel), List.mem_of_getElem? (i := 165) (by decide +kernel)⟩
theorem lw_p1 : lw_okq (⟨"KeyGraph", "keyWithFunction", "(I)LKeyGraph$Key;"⟩, 6) := ⟨⟨by decide +kernel, by decide +kernel⟩, List.mem_of_getElem? (i := 13) (by decide +kernel), List.mem_of_getElem? (i := 176) (by decide +kernel), List.mem_of_getElem? (i := 177) (by decide +kernel)⟩
theorem lw_p2 : lw_okq (⟨"KeyGraph", "keyAt", "(I)LKeyGraph$Key;"⟩, 6) := ⟨⟨by decide +kernel, by decide +kernel⟩, List.mem_of_getElem? (i := 13) (by decide +kernel), List.mem_of_getElem? (i := 180) (by decide +kernel), List.mem_of_getElem? (i := 181) (by decide +kernel)⟩
theorem lw_p3 : lw_okq (⟨"KeyGraph", "noteRing", "(LKeyGraph$Key;LKeyGraph$Key;)V"⟩, 6) := ⟨⟨by decide +kernel, by decide +kernel⟩, List.mem_of_getElem? (i := 13) (by decide +kernel), List.mem_of_getElem? (i := 192) (by decide +kernel), List.mem_of_getElem? (i := 193) (by decide +kernel)⟩
theorem lw_p4 : lw_okq (⟨"KeyGraph", "spreadReach", "(LKeyGraph$Key;LKeyGraph$Key;)V"⟩, 6) := ⟨⟨by decide +kernel, by decide +kernel⟩, List.mem_of_getElem? (i := 13) (by decide +kernel), List.mem_of_getElem? (i := 205) (by decide +kernel), List.mem_of_getElem? (i := 206) (by decide +kernel)⟩
theorem lw_p5 : lw_okq (⟨"KeyGraph", "goToNextVersion", "()V"⟩, 6) := ⟨⟨by decide +kernel, by decide +kernel⟩, List.mem_of_getElem? (i := 13) (by decide +kernel), List.mem_of_getElem? (i := 209) (by decide +kernel), List.mem_of_getElem? (i := 210) (by decide +kernel)⟩
theorem lw_p6 : lw_okq (⟨"KeyGraph", "emptyPiles", "()I"⟩, 6) := ⟨⟨by decide +kernel, by decide +kernel⟩, List.mem_of_getElem? (i := 13) (by decide +kernel), List.mem_of_getElem? (i := 213) (by decide +kernel), List.mem_of_getElem? (i := 214) (by decide +kernel)⟩
theorem lw_p7 : lw_okq (⟨"KeyGraph", "isSure", "(LKeyGraph$Key;)Z"⟩, 6) := ⟨⟨by decide +kernel, by decide +kernel⟩, List.mem_of_getElem? (i := 13) (by decide +kernel), List.mem_of_getElem? (i := 248) (by decide +kernel), List.mem_of_getElem? (i := 249) (by decide +kernel)⟩
theorem lw_p8 : lw_okq (⟨"KeyGraph", "goOn", "(LKeyGraph$Pile;)I"⟩, 6) := ⟨⟨by decide +kernel, by decide +kernel⟩, List.mem_of_getElem? (i := 13) (by decide +kernel), List.mem_of_getElem? (i := 268) (by decide +kernel), List.mem_of_getElem? (i := 269) (by decide +kernel)⟩
theorem lw_p9 : lw_okq (⟨"KeyGraph", "goOnChecking", "(LKeyGraph$Key;LKeyGraph$Pile;)I"⟩, 6) := ⟨⟨by decide +kernel, by decide +kernel⟩, List.mem_of_getElem? (i := 13) (by decide +kernel), List.mem_of_getElem? (i := 273) (by decide +kernel), List.mem_of_getElem? (i := 274) (by decide +kernel)⟩
theorem lw_p10 : lw_okq (⟨"KeyGraph", "makeSure", "(LKeyGraph$Key;LKeyGraph$Pile;)V"⟩, 6) := ⟨⟨by decide +kernel, by decide +kernel⟩, List.mem_of_getElem? (i := 13) (by decide +kernel), List.mem_of_getElem? (i := 282) (by decide +kernel), List.mem_of_getElem? (i := 283) (by decide +kernel)⟩
theorem lw_p11 : lw_okq (⟨"KeyGraph", "goOnWorking", "(LKeyGraph$Key;LKeyGraph$Pile;)I"⟩, 6) := ⟨⟨by decide +kernel, by decide +kernel⟩, List.mem_of_getElem? (i := 13) (by decide +kernel), List.mem_of_getElem? (i := 291) (by decide +kernel), List.mem_of_getElem? (i := 292) (by decide +kernel)⟩
theorem lw_p12 : lw_okq (⟨"KeyGraph$Work", "nextPick", "(I)I"⟩, 5) := ⟨⟨by decide +kernel, by decide +kernel⟩, List.mem_of_getElem? (i := 69) (by decide +kernel), List.mem_of_getElem? (i := 299) (by decide +kernel), List.mem_of_getElem? (i := 300) (by decide +kernel)⟩
theorem lw_p13 : lw_okq (⟨"KeyGraph", "endWork", "(LKeyGraph$Key;LKeyGraph$Pile;I)V"⟩, 6) := ⟨⟨by decide +kernel, by decide +kernel⟩, List.mem_of_getElem? (i := 13) (by decide +kernel), List.mem_of_getElem? (i := 306) (by decide +kernel), List.mem_of_getElem? (i := 307) (by decide +kernel)⟩
theorem lw_p14 : lw_okq (⟨"KeyGraph$Work", "divide", "(J)V"⟩, 5) := ⟨⟨by decide +kernel, by decide +kernel⟩, List.mem_of_getElem? (i := 69) (by decide +kernel), List.mem_of_getElem? (i := 326) (by decide +kernel), List.mem_of_getElem? (i := 327) (by decide +kernel)⟩
theorem lw_p15 : lw_okq (⟨"KeyGraph", "runOnOwnPile", "(LKeyGraph$Key;)I"⟩, 6) := ⟨⟨by decide +kernel, by decide +kernel⟩, List.mem_of_getElem? (i := 13) (by decide +kernel), List.mem_of_getElem? (i := 341) (by decide +kernel), List.mem_of_getElem? (i := 342) (by decide +kernel)⟩
def lw_privs_1 : List (MethodName × Nat) := [(⟨"KeyGraph", "addKey", "(LKeyGraph$Key;)I"⟩, 6), (⟨"KeyGraph", "keyWithFunction", "(I)LKeyGraph$Key;"⟩, 6), (⟨"KeyGraph", "keyAt", "(I)LKeyGraph$Key;"⟩, 6), (⟨"KeyGraph", "noteRing", "(LKeyGraph$Key;LKeyGraph$Key;)V"⟩, 6), (⟨"KeyGraph", "spreadReach", "(LKeyGraph$Key;LKeyGraph$Key;)V"⟩, 6), (⟨"KeyGraph", "goToNextVersion", "()V"⟩, 6), (⟨"KeyGraph", "emptyPiles", "()I"⟩, 6), (⟨"KeyGraph", "isSure", "(LKeyGraph$Key;)Z"⟩, 6), (⟨"KeyGraph", "goOn", "(LKeyGraph$Pile;)I"⟩, 6), (⟨"KeyGraph", "goOnChecking", "(LKeyGraph$Key;LKeyGraph$Pile;)I"⟩, 6), (⟨"KeyGraph", "makeSure", "(LKeyGraph$Key;LKeyGraph$Pile;)V"⟩, 6), (⟨"KeyGraph", "goOnWorking", "(LKeyGraph$Key;LKeyGraph$Pile;)I"⟩, 6), (⟨"KeyGraph$Work", "nextPick", "(I)I"⟩, 5), (⟨"KeyGraph", "endWork", "(LKeyGraph$Key;LKeyGraph$Pile;I)V"⟩, 6), (⟨"KeyGraph$Work", "divide", "(J)V"⟩, 5), (⟨"KeyGraph", "runOnOwnPile", "(LKeyGraph$Key;)I"⟩, 6)]
theorem lw_r1 : ∀ q ∈ lw_privs_1, lw_okq q := List.forall_mem_cons.mpr ⟨lw_p0, List.forall_mem_cons.mpr ⟨lw_p1, List.forall_mem_cons.mpr ⟨lw_p2, List.forall_mem_cons.mpr ⟨lw_p3, List.forall_mem_cons.mpr ⟨lw_p4, List.forall_mem_cons.mpr ⟨lw_p5, List.forall_mem_cons.mpr ⟨lw_p6, List.forall_mem_cons.mpr ⟨lw_p7, List.forall_mem_cons.mpr ⟨lw_p8, List.forall_mem_cons.mpr ⟨lw_p9, List.forall_mem_cons.mpr ⟨lw_p10, List.forall_mem_cons.mpr ⟨lw_p11, List.forall_mem_cons.mpr ⟨lw_p12, List.forall_mem_cons.mpr ⟨lw_p13, List.forall_mem_cons.mpr ⟨lw_p14, List.forall_mem_cons.mpr ⟨lw_p15, fun _ h => absurd h List.not_mem_nil⟩⟩⟩⟩⟩⟩⟩⟩⟩⟩⟩⟩⟩⟩⟩⟩
theorem lw_p16 : lw_okq (⟨"java/lang/Throwable", "fillInStackTrace", "(I)Ljava/lang/Throwable;"⟩, 6) := ⟨⟨by decide +kernel, by decide +kernel⟩, List.mem_of_getElem? (i := 420) (by decide +kernel), List.mem_of_getElem? (i := 418) (by decide +kernel), List.mem_of_getElem? (i := 419) (by decide +kernel)⟩
theorem lw_p17 : lw_okq (⟨"KeyGraphModel", "make", "(I)I"⟩, 25) := ⟨⟨by decide +kernel, by decide +kernel⟩, List.mem_of_getElem? (i := 466) (by decide +kernel), List.mem_of_getElem? (i := 558) (by decide +kernel), List.mem_of_getElem? (i := 559) (by decide +kernel)⟩
theorem lw_p18 : lw_okq (⟨"KeyGraphModel", "isKey", "(I)Z"⟩, 25) := ⟨⟨by decide +kernel, by decide +kernel⟩, List.mem_of_getElem? (i := 466) (by decide +kernel), List.mem_of_getElem? (i := 570) (by decide +kernel), List.mem_of_getElem? (i := 571) (by decide +kernel)⟩
theorem lw_p19 : lw_okq (⟨"KeyGraphModel", "isLeaf", "(I)Z"⟩, 25) := ⟨⟨by decide +kernel, by decide +kernel⟩, List.mem_of_getElem? (i := 466) (by decide +kernel), List.mem_of_getElem? (i := 574) (by decide +kernel), List.mem_of_getElem? (i := 575) (by decide +kernel)⟩
theorem lw_p20 : lw_okq (⟨"KeyGraphModel", "fillLeads", "(I)V"⟩, 25) := ⟨⟨by decide +kernel, by decide +kernel⟩, List.mem_of_getElem? (i := 466) (by decide +kernel), List.mem_of_getElem? (i := 578) (by decide +kernel), List.mem_of_getElem? (i := 579) (by decide +kernel)⟩
theorem lw_p21 : lw_okq (⟨"KeyGraphModel", "rowKey", "(II)I"⟩, 25) := ⟨⟨by decide +kernel, by decide +kernel⟩, List.mem_of_getElem? (i := 466) (by decide +kernel), List.mem_of_getElem? (i := 582) (by decide +kernel), List.mem_of_getElem? (i := 583) (by decide +kernel)⟩
theorem lw_p22 : lw_okq (⟨"KeyGraphModel", "firstBack", "(I)I"⟩, 25) := ⟨⟨by decide +kernel, by decide +kernel⟩, List.mem_of_getElem? (i := 466) (by decide +kernel), List.mem_of_getElem? (i := 586) (by decide +kernel), List.mem_of_getElem? (i := 587) (by decide +kernel)⟩
theorem lw_p23 : lw_okq (⟨"KeyGraphModel", "next", "()I"⟩, 25) := ⟨⟨by decide +kernel, by decide +kernel⟩, List.mem_of_getElem? (i := 466) (by decide +kernel), List.mem_of_getElem? (i := 590) (by decide +kernel), List.mem_of_getElem? (i := 591) (by decide +kernel)⟩
theorem lw_p24 : lw_okq (⟨"KeyGraphModel", "empty", "()I"⟩, 25) := ⟨⟨by decide +kernel, by decide +kernel⟩, List.mem_of_getElem? (i := 466) (by decide +kernel), List.mem_of_getElem? (i := 594) (by decide +kernel), List.mem_of_getElem? (i := 595) (by decide +kernel)⟩
theorem lw_p25 : lw_okq (⟨"KeyGraphModel", "pileOf", "(I)I"⟩, 25) := ⟨⟨by decide +kernel, by decide +kernel⟩, List.mem_of_getElem? (i := 466) (by decide +kernel), List.mem_of_getElem? (i := 617) (by decide +kernel), List.mem_of_getElem? (i := 618) (by decide +kernel)⟩
theorem lw_p26 : lw_okq (⟨"KeyGraphModel", "isSure", "(I)Z"⟩, 25) := ⟨⟨by decide +kernel, by decide +kernel⟩, List.mem_of_getElem? (i := 466) (by decide +kernel), List.mem_of_getElem? (i := 621) (by decide +kernel), List.mem_of_getElem? (i := 622) (by decide +kernel)⟩
theorem lw_p27 : lw_okq (⟨"KeyGraphModel", "lay", "(II)V"⟩, 25) := ⟨⟨by decide +kernel, by decide +kernel⟩, List.mem_of_getElem? (i := 466) (by decide +kernel), List.mem_of_getElem? (i := 625) (by decide +kernel), List.mem_of_getElem? (i := 626) (by decide +kernel)⟩
theorem lw_p28 : lw_okq (⟨"KeyGraphModel", "go", "(I)I"⟩, 25) := ⟨⟨by decide +kernel, by decide +kernel⟩, List.mem_of_getElem? (i := 466) (by decide +kernel), List.mem_of_getElem? (i := 637) (by decide +kernel), List.mem_of_getElem? (i := 638) (by decide +kernel)⟩
theorem lw_p29 : lw_okq (⟨"KeyGraphModel", "check", "(II)I"⟩, 25) := ⟨⟨by decide +kernel, by decide +kernel⟩, List.mem_of_getElem? (i := 466) (by decide +kernel), List.mem_of_getElem? (i := 641) (by decide +kernel), List.mem_of_getElem? (i := 642) (by decide +kernel)⟩
theorem lw_p30 : lw_okq (⟨"KeyGraphModel", "await", "(II)I"⟩, 25) := ⟨⟨by decide +kernel, by decide +kernel⟩, List.mem_of_getElem? (i := 466) (by decide +kernel), List.mem_of_getElem? (i := 645) (by decide +kernel), List.mem_of_getElem? (i := 646) (by decide +kernel)⟩
theorem lw_p31 : lw_okq (⟨"KeyGraphModel", "comes", "(I)I"⟩, 25) := ⟨⟨by decide +kernel, by decide +kernel⟩, List.mem_of_getElem? (i := 466) (by decide +kernel), List.mem_of_getElem? (i := 649) (by decide +kernel), List.mem_of_getElem? (i := 650) (by decide +kernel)⟩
def lw_privs_2 : List (MethodName × Nat) := [(⟨"java/lang/Throwable", "fillInStackTrace", "(I)Ljava/lang/Throwable;"⟩, 6), (⟨"KeyGraphModel", "make", "(I)I"⟩, 25), (⟨"KeyGraphModel", "isKey", "(I)Z"⟩, 25), (⟨"KeyGraphModel", "isLeaf", "(I)Z"⟩, 25), (⟨"KeyGraphModel", "fillLeads", "(I)V"⟩, 25), (⟨"KeyGraphModel", "rowKey", "(II)I"⟩, 25), (⟨"KeyGraphModel", "firstBack", "(I)I"⟩, 25), (⟨"KeyGraphModel", "next", "()I"⟩, 25), (⟨"KeyGraphModel", "empty", "()I"⟩, 25), (⟨"KeyGraphModel", "pileOf", "(I)I"⟩, 25), (⟨"KeyGraphModel", "isSure", "(I)Z"⟩, 25), (⟨"KeyGraphModel", "lay", "(II)V"⟩, 25), (⟨"KeyGraphModel", "go", "(I)I"⟩, 25), (⟨"KeyGraphModel", "check", "(II)I"⟩, 25), (⟨"KeyGraphModel", "await", "(II)I"⟩, 25), (⟨"KeyGraphModel", "comes", "(I)I"⟩, 25)]
theorem lw_r2 : ∀ q ∈ lw_privs_2, lw_okq q := List.forall_mem_cons.mpr ⟨lw_p16, List.forall_mem_cons.mpr ⟨lw_p17, List.forall_mem_cons.mpr ⟨lw_p18, List.forall_mem_cons.mpr ⟨lw_p19, List.forall_mem_cons.mpr ⟨lw_p20, List.forall_mem_cons.mpr ⟨lw_p21, List.forall_mem_cons.mpr ⟨lw_p22, List.forall_mem_cons.mpr ⟨lw_p23, List.forall_mem_cons.mpr ⟨lw_p24, List.forall_mem_cons.mpr ⟨lw_p25, List.forall_mem_cons.mpr ⟨lw_p26, List.forall_mem_cons.mpr ⟨lw_p27, List.forall_mem_cons.mpr ⟨lw_p28, List.forall_mem_cons.mpr ⟨lw_p29, List.forall_mem_cons.mpr ⟨lw_p30, List.forall_mem_cons.mpr ⟨lw_p31, fun _ h => absurd h List.not_mem_nil⟩⟩⟩⟩⟩⟩⟩⟩⟩⟩⟩⟩⟩⟩⟩⟩
theorem lw_p32 : lw_okq (⟨"KeyGraphModel", "taken", "(II)J"⟩, 25) := ⟨⟨by decide +kernel, by decide +kernel⟩, List.mem_of_getElem? (i := 466) (by decide +kernel), List.mem_of_getElem? (i := 653) (by decide +kernel), List.mem_of_getElem? (i := 654) (by decide +kernel)⟩
theorem lw_p33 : lw_okq (⟨"KeyGraphModel", "end", "(IIJ)I"⟩, 25) := ⟨⟨by decide +kernel, by decide +kernel⟩, List.mem_of_getElem? (i := 466) (by decide +kernel), List.mem_of_getElem? (i := 660) (by decide +kernel), List.mem_of_getElem? (i := 661) (by decide +kernel)⟩
theorem lw_p34 : lw_okq (⟨"KeyGraphModel", "outcome", "(I)J"⟩, 25) := ⟨⟨by decide +kernel, by decide +kernel⟩, List.mem_of_getElem? (i := 466) (by decide +kernel), List.mem_of_getElem? (i := 664) (by decide +kernel), List.mem_of_getElem? (i := 665) (by decide +kernel)⟩
def lw_privs_3 : List (MethodName × Nat) := [(⟨"KeyGraphModel", "taken", "(II)J"⟩, 25), (⟨"KeyGraphModel", "end", "(IIJ)I"⟩, 25), (⟨"KeyGraphModel", "outcome", "(I)J"⟩, 25)]
theorem lw_r3 : ∀ q ∈ lw_privs_3, lw_okq q := List.forall_mem_cons.mpr ⟨lw_p32, List.forall_mem_cons.mpr ⟨lw_p33, List.forall_mem_cons.mpr ⟨lw_p34, fun _ h => absurd h List.not_mem_nil⟩⟩⟩
def lw_privs : List (MethodName × Nat) := lw_privs_1 ++ (lw_privs_2 ++ (lw_privs_3))
def lw_tbl : List Cond := k2_sels lw_privs ++ tables_1
theorem lw_privs_ok : ∀ q ∈ lw_privs, lw_okq q := by
  show ∀ q ∈ lw_privs_1 ++ (lw_privs_2 ++ (lw_privs_3)), lw_okq q
  exact List.forall_mem_append.mpr ⟨lw_r1, List.forall_mem_append.mpr ⟨lw_r2, lw_r3⟩⟩
end
section
def RX0 : String := "KeyGraph$Key"
def TX0 : u_T := fun k => match k with
  | 0 => ("KeyGraph$Key", "number", "I", true)
  | 1 => ("KeyGraph$Key", "function", "I", true)
  | 2 => ("KeyGraph$Key", "row", "[LKeyGraph$Key;", true)
  | 3 => ("KeyGraph$Key", "rowSize", "I", false)
  | 4 => ("KeyGraph$Key", "reach", "J", false)
  | 5 => ("KeyGraph$Key", "spoilt", "Z", false)
  | 6 => ("KeyGraph$Key", "alteredIn", "I", false)
  | 7 => ("KeyGraph$Key", "has", "I", false)
  | 8 => ("KeyGraph$Key", "value", "J", false)
  | 9 => ("KeyGraph$Key", "changedIn", "I", false)
  | 10 => ("KeyGraph$Key", "isKept", "Z", false)
  | 11 => ("KeyGraph$Key", "sureIn", "I", false)
  | 12 => ("KeyGraph$Key", "askedPlaces", "[I", true)
  | 13 => ("KeyGraph$Key", "askedCount", "I", false)
  | 14 => ("KeyGraph$Key", "timesWorked", "I", false)
  | 15 => ("KeyGraph$Key", "timesKept", "I", false)
  | 16 => ("KeyGraph$Key", "inPile", "Z", false)
  | _ => ("KeyGraph$Key", "work", "LKeyGraph$Work;", true)
def tyX0 : Nat → FieldType := fun k => match k with
  | 0 => .int
  | 1 => .int
  | 2 => .array (.object "KeyGraph$Key")
  | 3 => .int
  | 4 => .long
  | 5 => .boolean
  | 6 => .int
  | 7 => .int
  | 8 => .long
  | 9 => .int
  | 10 => .boolean
  | 11 => .int
  | 12 => .array .int
  | 13 => .int
  | 14 => .int
  | 15 => .int
  | 16 => .boolean
  | _ => .object "KeyGraph$Work"
abbrev wsX00 : List Cond := u_ws RX0 TX0 18
theorem nmX0 : ∀ a, a < 18 → ∀ b, b < 18 → a ≠ b → (TX0 a).2.1 ≠ (TX0 b).2.1 := by decide +kernel
theorem tyX0_ok : ∀ k, k < 18 → parseFieldDescriptor (TX0 k).2.2.1 = some (tyX0 k) := by decide +kernel
abbrev cX0_init : ByteArray := prog_2_method_1_code
def yX0_init : MethodName := ⟨RX0, "<init>", "(II)V"⟩
abbrev cX0_isLeaf : ByteArray := prog_2_method_2_code
def yX0_isLeaf : MethodName := ⟨RX0, "isLeaf", "()Z"⟩
abbrev cX0_reaches : ByteArray := prog_2_method_3_code
def yX0_reaches : MethodName := ⟨RX0, "reaches", "(LKeyGraph$Key;)Z"⟩
abbrev cX0_firstThatReaches : ByteArray := prog_2_method_4_code
def yX0_firstThatReaches : MethodName := ⟨RX0, "firstThatReaches", "(LKeyGraph$Key;)LKeyGraph$Key;"⟩
abbrev cX0_rowKey : ByteArray := prog_2_method_5_code
def yX0_rowKey : MethodName := ⟨RX0, "rowKey", "(I)LKeyGraph$Key;"⟩
abbrev cX0_askedPlace : ByteArray := prog_2_method_6_code
def yX0_askedPlace : MethodName := ⟨RX0, "askedPlace", "(I)I"⟩
abbrev cX0_keepAskedPlaces : ByteArray := prog_2_method_7_code
def yX0_keepAskedPlaces : MethodName := ⟨RX0, "keepAskedPlaces", "()V"⟩
def RX1 : String := "KeyGraph$Pile"
def TX1 : u_T := fun k => match k with
  | 0 => ("KeyGraph$Pile", "keys", "[LKeyGraph$Key;", true)
  | _ => ("KeyGraph$Pile", "size", "I", false)
def tyX1 : Nat → FieldType := fun k => match k with
  | 0 => .array (.object "KeyGraph$Key")
  | _ => .int
abbrev wsX10 : List Cond := u_ws RX1 TX1 2
theorem nmX1 : ∀ a, a < 2 → ∀ b, b < 2 → a ≠ b → (TX1 a).2.1 ≠ (TX1 b).2.1 := by decide +kernel
theorem tyX1_ok : ∀ k, k < 2 → parseFieldDescriptor (TX1 k).2.2.1 = some (tyX1 k) := by decide +kernel
abbrev cX1_init : ByteArray := prog_3_method_1_code
def yX1_init : MethodName := ⟨RX1, "<init>", "()V"⟩
abbrev cX1_topmost : ByteArray := prog_3_method_2_code
def yX1_topmost : MethodName := ⟨RX1, "topmost", "()LKeyGraph$Key;"⟩
abbrev cX1_put : ByteArray := prog_3_method_3_code
def yX1_put : MethodName := ⟨RX1, "put", "(LKeyGraph$Key;)V"⟩
abbrev cX1_takeTopmost : ByteArray := prog_3_method_4_code
def yX1_takeTopmost : MethodName := ⟨RX1, "takeTopmost", "()V"⟩
abbrev cX1_takeAll : ByteArray := prog_3_method_5_code
def yX1_takeAll : MethodName := ⟨RX1, "takeAll", "()I"⟩
def RX2 : String := "KeyGraph$Work"
def TX2 : u_T := fun k => match k with
  | 0 => ("KeyGraph$Work", "checking", "Z", false)
  | 1 => ("KeyGraph$Work", "count", "I", false)
  | 2 => ("KeyGraph$Work", "places", "[I", true)
  | 3 => ("KeyGraph$Work", "gathered", "J", false)
  | _ => ("KeyGraph$Work", "failed", "Z", false)
def tyX2 : Nat → FieldType := fun k => match k with
  | 0 => .boolean
  | 1 => .int
  | 2 => .array .int
  | 3 => .long
  | _ => .boolean
abbrev wsX20 : List Cond := u_ws RX2 TX2 5
theorem nmX2 : ∀ a, a < 5 → ∀ b, b < 5 → a ≠ b → (TX2 a).2.1 ≠ (TX2 b).2.1 := by decide +kernel
theorem tyX2_ok : ∀ k, k < 5 → parseFieldDescriptor (TX2 k).2.2.1 = some (tyX2 k) := by decide +kernel
abbrev cX2_init : ByteArray := prog_4_method_1_code
def yX2_init : MethodName := ⟨RX2, "<init>", "()V"⟩
abbrev cX2_start : ByteArray := prog_4_method_2_code
def yX2_start : MethodName := ⟨RX2, "start", "(LKeyGraph$Key;)V"⟩
abbrev cX2_startWorking : ByteArray := prog_4_method_3_code
def yX2_startWorking : MethodName := ⟨RX2, "startWorking", "(LKeyGraph$Key;)V"⟩
abbrev cX2_nextPlace : ByteArray := prog_4_method_4_code
def yX2_nextPlace : MethodName := ⟨RX2, "nextPlace", "(LKeyGraph$Key;)I"⟩
abbrev cX2_nextPick : ByteArray := prog_4_method_5_code
def yX2_nextPick : MethodName := ⟨RX2, "nextPick", "(I)I"⟩
abbrev cX2_take : ByteArray := prog_4_method_6_code
def yX2_take : MethodName := ⟨RX2, "take", "(LKeyGraph$Key;J)V"⟩
abbrev cX2_divide : ByteArray := prog_4_method_7_code
def yX2_divide : MethodName := ⟨RX2, "divide", "(J)V"⟩
abbrev cX2_notePlace : ByteArray := prog_4_method_8_code
def yX2_notePlace : MethodName := ⟨RX2, "notePlace", "(I)V"⟩
abbrev cX2_result : ByteArray := prog_4_method_9_code
def yX2_result : MethodName := ⟨RX2, "result", "(LKeyGraph$Key;)J"⟩
def RX3 : String := "KeyGraph"
def TX3 : u_T := fun k => match k with
  | 0 => ("KeyGraph", "keys", "[LKeyGraph$Key;", true)
  | 1 => ("KeyGraph", "keyCount", "I", false)
  | 2 => ("KeyGraph", "version", "I", false)
  | 3 => ("KeyGraph", "piles", "[LKeyGraph$Pile;", true)
  | 4 => ("KeyGraph", "ringKeys", "[I", true)
  | _ => ("KeyGraph", "ringSize", "I", false)
def tyX3 : Nat → FieldType := fun k => match k with
  | 0 => .array (.object "KeyGraph$Key")
  | 1 => .int
  | 2 => .int
  | 3 => .array (.object "KeyGraph$Pile")
  | 4 => .array .int
  | _ => .int
abbrev wsX30 : List Cond := u_ws RX3 TX3 6
theorem nmX3 : ∀ a, a < 6 → ∀ b, b < 6 → a ≠ b → (TX3 a).2.1 ≠ (TX3 b).2.1 := by decide +kernel
theorem tyX3_ok : ∀ k, k < 6 → parseFieldDescriptor (TX3 k).2.2.1 = some (tyX3 k) := by decide +kernel
abbrev cX3_init : ByteArray := prog_1_method_1_code
def yX3_init : MethodName := ⟨RX3, "<init>", "()V"⟩
abbrev cX3_leaf : ByteArray := prog_1_method_2_code
def yX3_leaf : MethodName := ⟨RX3, "leaf", "(J)I"⟩
abbrev cX3_key : ByteArray := prog_1_method_3_code
def yX3_key : MethodName := ⟨RX3, "key", "(I)I"⟩
abbrev cX3_asks : ByteArray := prog_1_method_4_code
def yX3_asks : MethodName := ⟨RX3, "asks", "(II)I"⟩
abbrev cX3_ring : ByteArray := prog_1_method_5_code
def yX3_ring : MethodName := ⟨RX3, "ring", "(I)I"⟩
abbrev cX3_change : ByteArray := prog_1_method_6_code
def yX3_change : MethodName := ⟨RX3, "change", "(IJ)I"⟩
abbrev cX3_spoil : ByteArray := prog_1_method_7_code
def yX3_spoil : MethodName := ⟨RX3, "spoil", "(IZ)I"⟩
abbrev cX3_begin : ByteArray := prog_1_method_8_code
def yX3_begin : MethodName := ⟨RX3, "begin", "(II)I"⟩
abbrev cX3_step : ByteArray := prog_1_method_9_code
def yX3_step : MethodName := ⟨RX3, "step", "(I)I"⟩
abbrev cX3_cancel : ByteArray := prog_1_method_10_code
def yX3_cancel : MethodName := ⟨RX3, "cancel", "()I"⟩
abbrev cX3_run : ByteArray := prog_1_method_11_code
def yX3_run : MethodName := ⟨RX3, "run", "(I)I"⟩
abbrev cX3_state : ByteArray := prog_1_method_12_code
def yX3_state : MethodName := ⟨RX3, "state", "(I)I"⟩
abbrev cX3_value : ByteArray := prog_1_method_13_code
def yX3_value : MethodName := ⟨RX3, "value", "(I)J"⟩
abbrev cX3_worked : ByteArray := prog_1_method_14_code
def yX3_worked : MethodName := ⟨RX3, "worked", "(I)I"⟩
abbrev cX3_kept : ByteArray := prog_1_method_15_code
def yX3_kept : MethodName := ⟨RX3, "kept", "(I)I"⟩
abbrev cX3_changed : ByteArray := prog_1_method_16_code
def yX3_changed : MethodName := ⟨RX3, "changed", "(I)I"⟩
abbrev cX3_asked : ByteArray := prog_1_method_17_code
def yX3_asked : MethodName := ⟨RX3, "asked", "(II)I"⟩
abbrev cX3_drop : ByteArray := prog_1_method_18_code
def yX3_drop : MethodName := ⟨RX3, "drop", "(I)Z"⟩
abbrev cX3_version : ByteArray := prog_1_method_19_code
def yX3_version : MethodName := ⟨RX3, "version", "()I"⟩
abbrev cX3_addKey : ByteArray := prog_1_method_20_code
def yX3_addKey : MethodName := ⟨RX3, "addKey", "(LKeyGraph$Key;)I"⟩
abbrev cX3_keyAt : ByteArray := prog_1_method_21_code
def yX3_keyAt : MethodName := ⟨RX3, "keyAt", "(I)LKeyGraph$Key;"⟩
abbrev cX3_keyWithFunction : ByteArray := prog_1_method_22_code
def yX3_keyWithFunction : MethodName := ⟨RX3, "keyWithFunction", "(I)LKeyGraph$Key;"⟩
abbrev cX3_isWorker : ByteArray := prog_1_method_23_code
def yX3_isWorker : MethodName := ⟨RX3, "isWorker", "(I)Z"⟩
abbrev cX3_isSure : ByteArray := prog_1_method_24_code
def yX3_isSure : MethodName := ⟨RX3, "isSure", "(LKeyGraph$Key;)Z"⟩
abbrev cX3_goToNextVersion : ByteArray := prog_1_method_25_code
def yX3_goToNextVersion : MethodName := ⟨RX3, "goToNextVersion", "()V"⟩
abbrev cX3_emptyPiles : ByteArray := prog_1_method_26_code
def yX3_emptyPiles : MethodName := ⟨RX3, "emptyPiles", "()I"⟩
abbrev cX3_noteRing : ByteArray := prog_1_method_27_code
def yX3_noteRing : MethodName := ⟨RX3, "noteRing", "(LKeyGraph$Key;LKeyGraph$Key;)V"⟩
abbrev cX3_spreadReach : ByteArray := prog_1_method_28_code
def yX3_spreadReach : MethodName := ⟨RX3, "spreadReach", "(LKeyGraph$Key;LKeyGraph$Key;)V"⟩
abbrev cX3_runOnOwnPile : ByteArray := prog_1_method_29_code
def yX3_runOnOwnPile : MethodName := ⟨RX3, "runOnOwnPile", "(LKeyGraph$Key;)I"⟩
abbrev cX3_goOn : ByteArray := prog_1_method_30_code
def yX3_goOn : MethodName := ⟨RX3, "goOn", "(LKeyGraph$Pile;)I"⟩
abbrev cX3_goOnChecking : ByteArray := prog_1_method_31_code
def yX3_goOnChecking : MethodName := ⟨RX3, "goOnChecking", "(LKeyGraph$Key;LKeyGraph$Pile;)I"⟩
abbrev cX3_goOnWorking : ByteArray := prog_1_method_32_code
def yX3_goOnWorking : MethodName := ⟨RX3, "goOnWorking", "(LKeyGraph$Key;LKeyGraph$Pile;)I"⟩
abbrev cX3_findFirst : ByteArray := prog_1_method_33_code
def yX3_findFirst : MethodName := ⟨RX3, "findFirst", "(LKeyGraph$Key;LKeyGraph$Pile;)I"⟩
abbrev cX3_endWork : ByteArray := prog_1_method_34_code
def yX3_endWork : MethodName := ⟨RX3, "endWork", "(LKeyGraph$Key;LKeyGraph$Pile;I)V"⟩
abbrev cX3_makeSure : ByteArray := prog_1_method_35_code
def yX3_makeSure : MethodName := ⟨RX3, "makeSure", "(LKeyGraph$Key;LKeyGraph$Pile;)V"⟩
def RX4 : String := "KeyGraphModel"
def TX4 : u_T := fun k => match k with
  | 0 => ("KeyGraphModel", "code", "I", false)
  | 1 => ("KeyGraphModel", "version", "I", false)
  | 2 => ("KeyGraphModel", "keys", "I", false)
  | 3 => ("KeyGraphModel", "function", "[I", true)
  | 4 => ("KeyGraphModel", "rowMany", "[I", true)
  | 5 => ("KeyGraphModel", "row", "[I", true)
  | 6 => ("KeyGraphModel", "state", "[I", true)
  | 7 => ("KeyGraphModel", "sureAt", "[I", true)
  | 8 => ("KeyGraphModel", "changedAt", "[I", true)
  | 9 => ("KeyGraphModel", "ownAt", "[I", true)
  | 10 => ("KeyGraphModel", "askedMany", "[I", true)
  | 11 => ("KeyGraphModel", "asked", "[I", true)
  | 12 => ("KeyGraphModel", "worked", "[I", true)
  | 13 => ("KeyGraphModel", "checked", "[I", true)
  | 14 => ("KeyGraphModel", "value", "[J", true)
  | 15 => ("KeyGraphModel", "spoilt", "[Z", true)
  | 16 => ("KeyGraphModel", "isKept", "[Z", true)
  | 17 => ("KeyGraphModel", "high", "[I", true)
  | 18 => ("KeyGraphModel", "on", "[I", true)
  | 19 => ("KeyGraphModel", "far", "[I", true)
  | 20 => ("KeyGraphModel", "took", "[I", true)
  | 21 => ("KeyGraphModel", "works", "[Z", true)
  | 22 => ("KeyGraphModel", "ring", "[I", true)
  | 23 => ("KeyGraphModel", "ringMany", "I", false)
  | _ => ("KeyGraphModel", "leads", "[Z", true)
def tyX4 : Nat → FieldType := fun k => match k with
  | 0 => .int
  | 1 => .int
  | 2 => .int
  | 3 => .array .int
  | 4 => .array .int
  | 5 => .array .int
  | 6 => .array .int
  | 7 => .array .int
  | 8 => .array .int
  | 9 => .array .int
  | 10 => .array .int
  | 11 => .array .int
  | 12 => .array .int
  | 13 => .array .int
  | 14 => .array .long
  | 15 => .array .boolean
  | 16 => .array .boolean
  | 17 => .array .int
  | 18 => .array .int
  | 19 => .array .int
  | 20 => .array .int
  | 21 => .array .boolean
  | 22 => .array .int
  | 23 => .int
  | _ => .array .boolean
abbrev wsX40 : List Cond := u_ws RX4 TX4 25
theorem nmX4 : ∀ a, a < 25 → ∀ b, b < 25 → a ≠ b → (TX4 a).2.1 ≠ (TX4 b).2.1 := by decide +kernel
theorem tyX4_ok : ∀ k, k < 25 → parseFieldDescriptor (TX4 k).2.2.1 = some (tyX4 k) := by decide +kernel
abbrev cX4_init : ByteArray := prog_6_method_1_code
def yX4_init : MethodName := ⟨RX4, "<init>", "()V"⟩
abbrev cX4_thrown : ByteArray := prog_6_method_2_code
def yX4_thrown : MethodName := ⟨RX4, "thrown", "()I"⟩
abbrev cX4_isKey : ByteArray := prog_6_method_3_code
def yX4_isKey : MethodName := ⟨RX4, "isKey", "(I)Z"⟩
abbrev cX4_isLeaf : ByteArray := prog_6_method_4_code
def yX4_isLeaf : MethodName := ⟨RX4, "isLeaf", "(I)Z"⟩
abbrev cX4_make : ByteArray := prog_6_method_5_code
def yX4_make : MethodName := ⟨RX4, "make", "(I)I"⟩
abbrev cX4_leaf : ByteArray := prog_6_method_6_code
def yX4_leaf : MethodName := ⟨RX4, "leaf", "(J)I"⟩
abbrev cX4_key : ByteArray := prog_6_method_7_code
def yX4_key : MethodName := ⟨RX4, "key", "(I)I"⟩
abbrev cX4_empty : ByteArray := prog_6_method_8_code
def yX4_empty : MethodName := ⟨RX4, "empty", "()I"⟩
abbrev cX4_next : ByteArray := prog_6_method_9_code
def yX4_next : MethodName := ⟨RX4, "next", "()I"⟩
abbrev cX4_rowKey : ByteArray := prog_6_method_10_code
def yX4_rowKey : MethodName := ⟨RX4, "rowKey", "(II)I"⟩
abbrev cX4_fillLeads : ByteArray := prog_6_method_11_code
def yX4_fillLeads : MethodName := ⟨RX4, "fillLeads", "(I)V"⟩
abbrev cX4_asks : ByteArray := prog_6_method_12_code
def yX4_asks : MethodName := ⟨RX4, "asks", "(II)I"⟩
abbrev cX4_firstBack : ByteArray := prog_6_method_13_code
def yX4_firstBack : MethodName := ⟨RX4, "firstBack", "(I)I"⟩
abbrev cX4_ring : ByteArray := prog_6_method_14_code
def yX4_ring : MethodName := ⟨RX4, "ring", "(I)I"⟩
abbrev cX4_change : ByteArray := prog_6_method_15_code
def yX4_change : MethodName := ⟨RX4, "change", "(IJ)I"⟩
abbrev cX4_spoil : ByteArray := prog_6_method_16_code
def yX4_spoil : MethodName := ⟨RX4, "spoil", "(IZ)I"⟩
abbrev cX4_isSure : ByteArray := prog_6_method_17_code
def yX4_isSure : MethodName := ⟨RX4, "isSure", "(I)Z"⟩
abbrev cX4_pileOf : ByteArray := prog_6_method_18_code
def yX4_pileOf : MethodName := ⟨RX4, "pileOf", "(I)I"⟩
abbrev cX4_lay : ByteArray := prog_6_method_19_code
def yX4_lay : MethodName := ⟨RX4, "lay", "(II)V"⟩
abbrev cX4_isWorker : ByteArray := prog_6_method_20_code
def yX4_isWorker : MethodName := ⟨RX4, "isWorker", "(I)Z"⟩
abbrev cX4_begin : ByteArray := prog_6_method_21_code
def yX4_begin : MethodName := ⟨RX4, "begin", "(II)I"⟩
abbrev cX4_cancel : ByteArray := prog_6_method_22_code
def yX4_cancel : MethodName := ⟨RX4, "cancel", "()I"⟩
abbrev cX4_taken : ByteArray := prog_6_method_23_code
def yX4_taken : MethodName := ⟨RX4, "taken", "(II)J"⟩
abbrev cX4_comes : ByteArray := prog_6_method_24_code
def yX4_comes : MethodName := ⟨RX4, "comes", "(I)I"⟩
abbrev cX4_remainder : ByteArray := prog_6_method_25_code
def yX4_remainder : MethodName := ⟨RX4, "remainder", "(JI)I"⟩
abbrev cX4_outcome : ByteArray := prog_6_method_26_code
def yX4_outcome : MethodName := ⟨RX4, "outcome", "(I)J"⟩
abbrev cX4_end : ByteArray := prog_6_method_27_code
def yX4_end : MethodName := ⟨RX4, "end", "(IIJ)I"⟩
abbrev cX4_await : ByteArray := prog_6_method_28_code
def yX4_await : MethodName := ⟨RX4, "await", "(II)I"⟩
abbrev cX4_check : ByteArray := prog_6_method_29_code
def yX4_check : MethodName := ⟨RX4, "check", "(II)I"⟩
abbrev cX4_go : ByteArray := prog_6_method_30_code
def yX4_go : MethodName := ⟨RX4, "go", "(I)I"⟩
abbrev cX4_step : ByteArray := prog_6_method_31_code
def yX4_step : MethodName := ⟨RX4, "step", "(I)I"⟩
abbrev cX4_run : ByteArray := prog_6_method_32_code
def yX4_run : MethodName := ⟨RX4, "run", "(I)I"⟩
abbrev cX4_state : ByteArray := prog_6_method_33_code
def yX4_state : MethodName := ⟨RX4, "state", "(I)I"⟩
abbrev cX4_value : ByteArray := prog_6_method_34_code
def yX4_value : MethodName := ⟨RX4, "value", "(I)J"⟩
abbrev cX4_worked : ByteArray := prog_6_method_35_code
def yX4_worked : MethodName := ⟨RX4, "worked", "(I)I"⟩
abbrev cX4_kept : ByteArray := prog_6_method_36_code
def yX4_kept : MethodName := ⟨RX4, "kept", "(I)I"⟩
abbrev cX4_changed : ByteArray := prog_6_method_37_code
def yX4_changed : MethodName := ⟨RX4, "changed", "(I)I"⟩
abbrev cX4_asked : ByteArray := prog_6_method_38_code
def yX4_asked : MethodName := ⟨RX4, "asked", "(II)I"⟩
abbrev cX4_drop : ByteArray := prog_6_method_39_code
def yX4_drop : MethodName := ⟨RX4, "drop", "(I)Z"⟩
abbrev cX4_version : ByteArray := prog_6_method_40_code
def yX4_version : MethodName := ⟨RX4, "version", "()I"⟩
def RJ9 : String := "java/lang/Math"
abbrev cJ9_floorMod_f86c9 : ByteArray := prog_10_method_52_code
def yJ9_floorMod_f86c9 : MethodName := ⟨RJ9, "floorMod", "(JJ)J"⟩
abbrev cJ9_max_f86c9 : ByteArray := prog_10_method_66_code
def yJ9_max_f86c9 : MethodName := ⟨RJ9, "max", "(JJ)J"⟩
def RL : String := "KeyGraphLaw"
abbrev cL_value : ByteArray := method_3_code
def yL_value : MethodName := ⟨RL, "value", "(LKeyGraph;I[J)I"⟩
abbrev cL_law : ByteArray := code
def yL_law : MethodName := ⟨RL, "law", "([I)Z"⟩
abbrev vwCl : List vw_C := [(RX0, TX0, 18), (RX1, TX1, 2), (RX2, TX2, 5), (RX3, TX3, 6), (RX4, TX4, 25)]
end
section
theorem dJ9_floorMod_f86c9_0 : decode cJ9_floorMod_f86c9 0 = .ok (.lload_n 0, 1) := by decide +kernel
theorem dJ9_floorMod_f86c9_1 : decode cJ9_floorMod_f86c9 1 = .ok (.lload_n 2, 1) := by decide +kernel
theorem dJ9_floorMod_f86c9_2 : decode cJ9_floorMod_f86c9 2 = .ok (.lrem, 1) := by decide +kernel
theorem dJ9_floorMod_f86c9_3 : decode cJ9_floorMod_f86c9 3 = .ok (.lstore 4, 2) := by decide +kernel
theorem dJ9_floorMod_f86c9_5 : decode cJ9_floorMod_f86c9 5 = .ok (.lload_n 0, 1) := by decide +kernel
theorem dJ9_floorMod_f86c9_6 : decode cJ9_floorMod_f86c9 6 = .ok (.lload_n 2, 1) := by decide +kernel
theorem dJ9_floorMod_f86c9_7 : decode cJ9_floorMod_f86c9 7 = .ok (.lxor, 1) := by decide +kernel
theorem dJ9_floorMod_f86c9_8 : decode cJ9_floorMod_f86c9 8 = .ok (.lconst 0, 1) := by decide +kernel
theorem dJ9_floorMod_f86c9_9 : decode cJ9_floorMod_f86c9 9 = .ok (.lcmp, 1) := by decide +kernel
theorem dJ9_floorMod_f86c9_10 : decode cJ9_floorMod_f86c9 10 = .ok (.ifCond .ge 15, 3) := by decide +kernel
theorem dJ9_floorMod_f86c9_13 : decode cJ9_floorMod_f86c9 13 = .ok (.lload 4, 2) := by decide +kernel
theorem dJ9_floorMod_f86c9_15 : decode cJ9_floorMod_f86c9 15 = .ok (.lconst 0, 1) := by decide +kernel
theorem dJ9_floorMod_f86c9_16 : decode cJ9_floorMod_f86c9 16 = .ok (.lcmp, 1) := by decide +kernel
theorem dJ9_floorMod_f86c9_17 : decode cJ9_floorMod_f86c9 17 = .ok (.ifCond .eq 8, 3) := by decide +kernel
theorem dJ9_floorMod_f86c9_20 : decode cJ9_floorMod_f86c9 20 = .ok (.lload 4, 2) := by decide +kernel
theorem dJ9_floorMod_f86c9_22 : decode cJ9_floorMod_f86c9 22 = .ok (.lload_n 2, 1) := by decide +kernel
theorem dJ9_floorMod_f86c9_23 : decode cJ9_floorMod_f86c9 23 = .ok (.ladd, 1) := by decide +kernel
theorem dJ9_floorMod_f86c9_24 : decode cJ9_floorMod_f86c9 24 = .ok (.lreturn, 1) := by decide +kernel
theorem dJ9_floorMod_f86c9_25 : decode cJ9_floorMod_f86c9 25 = .ok (.lload 4, 2) := by decide +kernel
theorem dJ9_floorMod_f86c9_27 : decode cJ9_floorMod_f86c9 27 = .ok (.lreturn, 1) := by decide +kernel
theorem dJ9_max_f86c9_0 : decode cJ9_max_f86c9 0 = .ok (.lload_n 0, 1) := by decide +kernel
theorem dJ9_max_f86c9_1 : decode cJ9_max_f86c9 1 = .ok (.lload_n 2, 1) := by decide +kernel
theorem dJ9_max_f86c9_2 : decode cJ9_max_f86c9 2 = .ok (.lcmp, 1) := by decide +kernel
theorem dJ9_max_f86c9_3 : decode cJ9_max_f86c9 3 = .ok (.ifCond .lt 7, 3) := by decide +kernel
theorem dJ9_max_f86c9_6 : decode cJ9_max_f86c9 6 = .ok (.lload_n 0, 1) := by decide +kernel
theorem dJ9_max_f86c9_7 : decode cJ9_max_f86c9 7 = .ok (.goto 4, 3) := by decide +kernel
theorem dJ9_max_f86c9_10 : decode cJ9_max_f86c9 10 = .ok (.lload_n 2, 1) := by decide +kernel
theorem dJ9_max_f86c9_11 : decode cJ9_max_f86c9 11 = .ok (.lreturn, 1) := by decide +kernel
end
section
theorem dL_value_0 : decode cL_value 0 = .ok (.aload_n 2, 1) := by decide +kernel
theorem dL_value_1 : decode cL_value 1 = .ok (.iconst 0, 1) := by decide +kernel
theorem dL_value_2 : decode cL_value 2 = .ok (.aload_n 0, 1) := by decide +kernel
theorem dL_value_3 : decode cL_value 3 = .ok (.iload_n 1, 1) := by decide +kernel
theorem dL_value_4 : decode cL_value 4 = .ok (.invokevirtual 7, 3) := by decide +kernel
theorem dL_value_7 : decode cL_value 7 = .ok (.lastore, 1) := by decide +kernel
theorem dL_value_8 : decode cL_value 8 = .ok (.goto 9, 3) := by decide +kernel
theorem dL_value_11 : decode cL_value 11 = .ok (.astore_n 3, 1) := by decide +kernel
theorem dL_value_12 : decode cL_value 12 = .ok (.iconst 1, 1) := by decide +kernel
theorem dL_value_13 : decode cL_value 13 = .ok (.ireturn, 1) := by decide +kernel
theorem dL_value_14 : decode cL_value 14 = .ok (.astore_n 3, 1) := by decide +kernel
theorem dL_value_15 : decode cL_value 15 = .ok (.iconst 2, 1) := by decide +kernel
theorem dL_value_16 : decode cL_value 16 = .ok (.ireturn, 1) := by decide +kernel
theorem dL_value_17 : decode cL_value 17 = .ok (.iconst 0, 1) := by decide +kernel
theorem dL_value_18 : decode cL_value 18 = .ok (.ireturn, 1) := by decide +kernel
theorem dL_law_0 : decode cL_law 0 = .ok (.new 8, 3) := by decide +kernel
theorem dL_law_3 : decode cL_law 3 = .ok (.dup, 1) := by decide +kernel
theorem dL_law_4 : decode cL_law 4 = .ok (.invokespecial 17, 3) := by decide +kernel
theorem dL_law_7 : decode cL_law 7 = .ok (.astore_n 1, 1) := by decide +kernel
theorem dL_law_8 : decode cL_law 8 = .ok (.new 18, 3) := by decide +kernel
theorem dL_law_11 : decode cL_law 11 = .ok (.dup, 1) := by decide +kernel
theorem dL_law_12 : decode cL_law 12 = .ok (.invokespecial 20, 3) := by decide +kernel
theorem dL_law_15 : decode cL_law 15 = .ok (.astore_n 2, 1) := by decide +kernel
theorem dL_law_16 : decode cL_law 16 = .ok (.iconst 1, 1) := by decide +kernel
theorem dL_law_17 : decode cL_law 17 = .ok (.newarray .long, 2) := by decide +kernel
theorem dL_law_19 : decode cL_law 19 = .ok (.astore_n 3, 1) := by decide +kernel
theorem dL_law_20 : decode cL_law 20 = .ok (.iconst 0, 1) := by decide +kernel
theorem dL_law_21 : decode cL_law 21 = .ok (.istore 4, 2) := by decide +kernel
theorem dL_law_23 : decode cL_law 23 = .ok (.iload 4, 2) := by decide +kernel
theorem dL_law_25 : decode cL_law 25 = .ok (.aload_n 0, 1) := by decide +kernel
theorem dL_law_26 : decode cL_law 26 = .ok (.arraylength, 1) := by decide +kernel
theorem dL_law_27 : decode cL_law 27 = .ok (.iconst 4, 1) := by decide +kernel
theorem dL_law_28 : decode cL_law 28 = .ok (.isub, 1) := by decide +kernel
theorem dL_law_29 : decode cL_law 29 = .ok (.if_icmp .gt 697, 3) := by decide +kernel
theorem dL_law_32 : decode cL_law 32 = .ok (.aload_n 0, 1) := by decide +kernel
theorem dL_law_33 : decode cL_law 33 = .ok (.iload 4, 2) := by decide +kernel
theorem dL_law_35 : decode cL_law 35 = .ok (.iaload, 1) := by decide +kernel
theorem dL_law_36 : decode cL_law 36 = .ok (.bipush 31, 2) := by decide +kernel
theorem dL_law_38 : decode cL_law 38 = .ok (.iand, 1) := by decide +kernel
theorem dL_law_39 : decode cL_law 39 = .ok (.tableswitch 681 0 17 #[85, 142, 167, 204, 229, 298, 351, 388, 413, 426, 451, 476, 531, 556, 581, 606, 643, 668], 85) := by decide +kernel
theorem dL_law_124 : decode cL_law 124 = .ok (.aload_n 1, 1) := by decide +kernel
theorem dL_law_125 : decode cL_law 125 = .ok (.aload_n 0, 1) := by decide +kernel
theorem dL_law_126 : decode cL_law 126 = .ok (.iload 4, 2) := by decide +kernel
theorem dL_law_128 : decode cL_law 128 = .ok (.iconst 1, 1) := by decide +kernel
theorem dL_law_129 : decode cL_law 129 = .ok (.iadd, 1) := by decide +kernel
theorem dL_law_130 : decode cL_law 130 = .ok (.iaload, 1) := by decide +kernel
theorem dL_law_131 : decode cL_law 131 = .ok (.i2l, 1) := by decide +kernel
theorem dL_law_132 : decode cL_law 132 = .ok (.bipush 32, 2) := by decide +kernel
theorem dL_law_134 : decode cL_law 134 = .ok (.lshl, 1) := by decide +kernel
theorem dL_law_135 : decode cL_law 135 = .ok (.aload_n 0, 1) := by decide +kernel
theorem dL_law_136 : decode cL_law 136 = .ok (.iload 4, 2) := by decide +kernel
theorem dL_law_138 : decode cL_law 138 = .ok (.iconst 2, 1) := by decide +kernel
theorem dL_law_139 : decode cL_law 139 = .ok (.iadd, 1) := by decide +kernel
theorem dL_law_140 : decode cL_law 140 = .ok (.iaload, 1) := by decide +kernel
theorem dL_law_141 : decode cL_law 141 = .ok (.i2l, 1) := by decide +kernel
theorem dL_law_142 : decode cL_law 142 = .ok (.ldc2_w 21, 3) := by decide +kernel
theorem dL_law_145 : decode cL_law 145 = .ok (.land, 1) := by decide +kernel
theorem dL_law_146 : decode cL_law 146 = .ok (.lor, 1) := by decide +kernel
theorem dL_law_147 : decode cL_law 147 = .ok (.invokevirtual 23, 3) := by decide +kernel
theorem dL_law_150 : decode cL_law 150 = .ok (.aload_n 2, 1) := by decide +kernel
theorem dL_law_151 : decode cL_law 151 = .ok (.aload_n 0, 1) := by decide +kernel
theorem dL_law_152 : decode cL_law 152 = .ok (.iload 4, 2) := by decide +kernel
theorem dL_law_154 : decode cL_law 154 = .ok (.iconst 1, 1) := by decide +kernel
theorem dL_law_155 : decode cL_law 155 = .ok (.iadd, 1) := by decide +kernel
theorem dL_law_156 : decode cL_law 156 = .ok (.iaload, 1) := by decide +kernel
theorem dL_law_157 : decode cL_law 157 = .ok (.i2l, 1) := by decide +kernel
theorem dL_law_158 : decode cL_law 158 = .ok (.bipush 32, 2) := by decide +kernel
theorem dL_law_160 : decode cL_law 160 = .ok (.lshl, 1) := by decide +kernel
theorem dL_law_161 : decode cL_law 161 = .ok (.aload_n 0, 1) := by decide +kernel
theorem dL_law_162 : decode cL_law 162 = .ok (.iload 4, 2) := by decide +kernel
theorem dL_law_164 : decode cL_law 164 = .ok (.iconst 2, 1) := by decide +kernel
theorem dL_law_165 : decode cL_law 165 = .ok (.iadd, 1) := by decide +kernel
theorem dL_law_166 : decode cL_law 166 = .ok (.iaload, 1) := by decide +kernel
theorem dL_law_167 : decode cL_law 167 = .ok (.i2l, 1) := by decide +kernel
theorem dL_law_168 : decode cL_law 168 = .ok (.ldc2_w 21, 3) := by decide +kernel
theorem dL_law_171 : decode cL_law 171 = .ok (.land, 1) := by decide +kernel
theorem dL_law_172 : decode cL_law 172 = .ok (.lor, 1) := by decide +kernel
theorem dL_law_173 : decode cL_law 173 = .ok (.invokevirtual 27, 3) := by decide +kernel
theorem dL_law_176 : decode cL_law 176 = .ok (.if_icmp .eq 544, 3) := by decide +kernel
theorem dL_law_179 : decode cL_law 179 = .ok (.iconst 0, 1) := by decide +kernel
theorem dL_law_180 : decode cL_law 180 = .ok (.ireturn, 1) := by decide +kernel
theorem dL_law_181 : decode cL_law 181 = .ok (.aload_n 1, 1) := by decide +kernel
theorem dL_law_182 : decode cL_law 182 = .ok (.aload_n 0, 1) := by decide +kernel
theorem dL_law_183 : decode cL_law 183 = .ok (.iload 4, 2) := by decide +kernel
theorem dL_law_185 : decode cL_law 185 = .ok (.iconst 1, 1) := by decide +kernel
theorem dL_law_186 : decode cL_law 186 = .ok (.iadd, 1) := by decide +kernel
theorem dL_law_187 : decode cL_law 187 = .ok (.iaload, 1) := by decide +kernel
theorem dL_law_188 : decode cL_law 188 = .ok (.invokevirtual 28, 3) := by decide +kernel
theorem dL_law_191 : decode cL_law 191 = .ok (.aload_n 2, 1) := by decide +kernel
theorem dL_law_192 : decode cL_law 192 = .ok (.aload_n 0, 1) := by decide +kernel
theorem dL_law_193 : decode cL_law 193 = .ok (.iload 4, 2) := by decide +kernel
theorem dL_law_195 : decode cL_law 195 = .ok (.iconst 1, 1) := by decide +kernel
theorem dL_law_196 : decode cL_law 196 = .ok (.iadd, 1) := by decide +kernel
theorem dL_law_197 : decode cL_law 197 = .ok (.iaload, 1) := by decide +kernel
theorem dL_law_198 : decode cL_law 198 = .ok (.invokevirtual 32, 3) := by decide +kernel
theorem dL_law_201 : decode cL_law 201 = .ok (.if_icmp .eq 519, 3) := by decide +kernel
theorem dL_law_204 : decode cL_law 204 = .ok (.iconst 0, 1) := by decide +kernel
theorem dL_law_205 : decode cL_law 205 = .ok (.ireturn, 1) := by decide +kernel
theorem dL_law_206 : decode cL_law 206 = .ok (.aload_n 1, 1) := by decide +kernel
theorem dL_law_207 : decode cL_law 207 = .ok (.aload_n 0, 1) := by decide +kernel
theorem dL_law_208 : decode cL_law 208 = .ok (.iload 4, 2) := by decide +kernel
theorem dL_law_210 : decode cL_law 210 = .ok (.iconst 1, 1) := by decide +kernel
theorem dL_law_211 : decode cL_law 211 = .ok (.iadd, 1) := by decide +kernel
theorem dL_law_212 : decode cL_law 212 = .ok (.iaload, 1) := by decide +kernel
theorem dL_law_213 : decode cL_law 213 = .ok (.aload_n 0, 1) := by decide +kernel
theorem dL_law_214 : decode cL_law 214 = .ok (.iload 4, 2) := by decide +kernel
theorem dL_law_216 : decode cL_law 216 = .ok (.iconst 2, 1) := by decide +kernel
theorem dL_law_217 : decode cL_law 217 = .ok (.iadd, 1) := by decide +kernel
theorem dL_law_218 : decode cL_law 218 = .ok (.iaload, 1) := by decide +kernel
theorem dL_law_219 : decode cL_law 219 = .ok (.invokevirtual 33, 3) := by decide +kernel
theorem dL_law_222 : decode cL_law 222 = .ok (.aload_n 2, 1) := by decide +kernel
theorem dL_law_223 : decode cL_law 223 = .ok (.aload_n 0, 1) := by decide +kernel
theorem dL_law_224 : decode cL_law 224 = .ok (.iload 4, 2) := by decide +kernel
theorem dL_law_226 : decode cL_law 226 = .ok (.iconst 1, 1) := by decide +kernel
theorem dL_law_227 : decode cL_law 227 = .ok (.iadd, 1) := by decide +kernel
theorem dL_law_228 : decode cL_law 228 = .ok (.iaload, 1) := by decide +kernel
theorem dL_law_229 : decode cL_law 229 = .ok (.aload_n 0, 1) := by decide +kernel
theorem dL_law_230 : decode cL_law 230 = .ok (.iload 4, 2) := by decide +kernel
theorem dL_law_232 : decode cL_law 232 = .ok (.iconst 2, 1) := by decide +kernel
theorem dL_law_233 : decode cL_law 233 = .ok (.iadd, 1) := by decide +kernel
theorem dL_law_234 : decode cL_law 234 = .ok (.iaload, 1) := by decide +kernel
theorem dL_law_235 : decode cL_law 235 = .ok (.invokevirtual 37, 3) := by decide +kernel
theorem dL_law_238 : decode cL_law 238 = .ok (.if_icmp .eq 482, 3) := by decide +kernel
theorem dL_law_241 : decode cL_law 241 = .ok (.iconst 0, 1) := by decide +kernel
theorem dL_law_242 : decode cL_law 242 = .ok (.ireturn, 1) := by decide +kernel
theorem dL_law_243 : decode cL_law 243 = .ok (.aload_n 1, 1) := by decide +kernel
theorem dL_law_244 : decode cL_law 244 = .ok (.aload_n 0, 1) := by decide +kernel
theorem dL_law_245 : decode cL_law 245 = .ok (.iload 4, 2) := by decide +kernel
theorem dL_law_247 : decode cL_law 247 = .ok (.iconst 1, 1) := by decide +kernel
theorem dL_law_248 : decode cL_law 248 = .ok (.iadd, 1) := by decide +kernel
theorem dL_law_249 : decode cL_law 249 = .ok (.iaload, 1) := by decide +kernel
theorem dL_law_250 : decode cL_law 250 = .ok (.invokevirtual 38, 3) := by decide +kernel
theorem dL_law_253 : decode cL_law 253 = .ok (.aload_n 2, 1) := by decide +kernel
theorem dL_law_254 : decode cL_law 254 = .ok (.aload_n 0, 1) := by decide +kernel
theorem dL_law_255 : decode cL_law 255 = .ok (.iload 4, 2) := by decide +kernel
theorem dL_law_257 : decode cL_law 257 = .ok (.iconst 1, 1) := by decide +kernel
theorem dL_law_258 : decode cL_law 258 = .ok (.iadd, 1) := by decide +kernel
theorem dL_law_259 : decode cL_law 259 = .ok (.iaload, 1) := by decide +kernel
theorem dL_law_260 : decode cL_law 260 = .ok (.invokevirtual 41, 3) := by decide +kernel
theorem dL_law_263 : decode cL_law 263 = .ok (.if_icmp .eq 457, 3) := by decide +kernel
theorem dL_law_266 : decode cL_law 266 = .ok (.iconst 0, 1) := by decide +kernel
theorem dL_law_267 : decode cL_law 267 = .ok (.ireturn, 1) := by decide +kernel
theorem dL_law_268 : decode cL_law 268 = .ok (.aload_n 1, 1) := by decide +kernel
theorem dL_law_269 : decode cL_law 269 = .ok (.aload_n 0, 1) := by decide +kernel
theorem dL_law_270 : decode cL_law 270 = .ok (.iload 4, 2) := by decide +kernel
theorem dL_law_272 : decode cL_law 272 = .ok (.iconst 1, 1) := by decide +kernel
theorem dL_law_273 : decode cL_law 273 = .ok (.iadd, 1) := by decide +kernel
theorem dL_law_274 : decode cL_law 274 = .ok (.iaload, 1) := by decide +kernel
theorem dL_law_275 : decode cL_law 275 = .ok (.aload_n 0, 1) := by decide +kernel
theorem dL_law_276 : decode cL_law 276 = .ok (.iload 4, 2) := by decide +kernel
theorem dL_law_278 : decode cL_law 278 = .ok (.iconst 2, 1) := by decide +kernel
theorem dL_law_279 : decode cL_law 279 = .ok (.iadd, 1) := by decide +kernel
theorem dL_law_280 : decode cL_law 280 = .ok (.iaload, 1) := by decide +kernel
theorem dL_law_281 : decode cL_law 281 = .ok (.i2l, 1) := by decide +kernel
theorem dL_law_282 : decode cL_law 282 = .ok (.bipush 32, 2) := by decide +kernel
theorem dL_law_284 : decode cL_law 284 = .ok (.lshl, 1) := by decide +kernel
theorem dL_law_285 : decode cL_law 285 = .ok (.aload_n 0, 1) := by decide +kernel
theorem dL_law_286 : decode cL_law 286 = .ok (.iload 4, 2) := by decide +kernel
theorem dL_law_288 : decode cL_law 288 = .ok (.iconst 3, 1) := by decide +kernel
theorem dL_law_289 : decode cL_law 289 = .ok (.iadd, 1) := by decide +kernel
theorem dL_law_290 : decode cL_law 290 = .ok (.iaload, 1) := by decide +kernel
theorem dL_law_291 : decode cL_law 291 = .ok (.i2l, 1) := by decide +kernel
theorem dL_law_292 : decode cL_law 292 = .ok (.ldc2_w 21, 3) := by decide +kernel
theorem dL_law_295 : decode cL_law 295 = .ok (.land, 1) := by decide +kernel
theorem dL_law_296 : decode cL_law 296 = .ok (.lor, 1) := by decide +kernel
theorem dL_law_297 : decode cL_law 297 = .ok (.invokevirtual 42, 3) := by decide +kernel
theorem dL_law_300 : decode cL_law 300 = .ok (.aload_n 2, 1) := by decide +kernel
theorem dL_law_301 : decode cL_law 301 = .ok (.aload_n 0, 1) := by decide +kernel
theorem dL_law_302 : decode cL_law 302 = .ok (.iload 4, 2) := by decide +kernel
theorem dL_law_304 : decode cL_law 304 = .ok (.iconst 1, 1) := by decide +kernel
theorem dL_law_305 : decode cL_law 305 = .ok (.iadd, 1) := by decide +kernel
theorem dL_law_306 : decode cL_law 306 = .ok (.iaload, 1) := by decide +kernel
theorem dL_law_307 : decode cL_law 307 = .ok (.aload_n 0, 1) := by decide +kernel
theorem dL_law_308 : decode cL_law 308 = .ok (.iload 4, 2) := by decide +kernel
theorem dL_law_310 : decode cL_law 310 = .ok (.iconst 2, 1) := by decide +kernel
theorem dL_law_311 : decode cL_law 311 = .ok (.iadd, 1) := by decide +kernel
theorem dL_law_312 : decode cL_law 312 = .ok (.iaload, 1) := by decide +kernel
theorem dL_law_313 : decode cL_law 313 = .ok (.i2l, 1) := by decide +kernel
theorem dL_law_314 : decode cL_law 314 = .ok (.bipush 32, 2) := by decide +kernel
theorem dL_law_316 : decode cL_law 316 = .ok (.lshl, 1) := by decide +kernel
theorem dL_law_317 : decode cL_law 317 = .ok (.aload_n 0, 1) := by decide +kernel
theorem dL_law_318 : decode cL_law 318 = .ok (.iload 4, 2) := by decide +kernel
theorem dL_law_320 : decode cL_law 320 = .ok (.iconst 3, 1) := by decide +kernel
theorem dL_law_321 : decode cL_law 321 = .ok (.iadd, 1) := by decide +kernel
theorem dL_law_322 : decode cL_law 322 = .ok (.iaload, 1) := by decide +kernel
theorem dL_law_323 : decode cL_law 323 = .ok (.i2l, 1) := by decide +kernel
theorem dL_law_324 : decode cL_law 324 = .ok (.ldc2_w 21, 3) := by decide +kernel
theorem dL_law_327 : decode cL_law 327 = .ok (.land, 1) := by decide +kernel
theorem dL_law_328 : decode cL_law 328 = .ok (.lor, 1) := by decide +kernel
theorem dL_law_329 : decode cL_law 329 = .ok (.invokevirtual 46, 3) := by decide +kernel
theorem dL_law_332 : decode cL_law 332 = .ok (.if_icmp .eq 388, 3) := by decide +kernel
theorem dL_law_335 : decode cL_law 335 = .ok (.iconst 0, 1) := by decide +kernel
theorem dL_law_336 : decode cL_law 336 = .ok (.ireturn, 1) := by decide +kernel
theorem dL_law_337 : decode cL_law 337 = .ok (.aload_n 1, 1) := by decide +kernel
theorem dL_law_338 : decode cL_law 338 = .ok (.aload_n 0, 1) := by decide +kernel
theorem dL_law_339 : decode cL_law 339 = .ok (.iload 4, 2) := by decide +kernel
theorem dL_law_341 : decode cL_law 341 = .ok (.iconst 1, 1) := by decide +kernel
theorem dL_law_342 : decode cL_law 342 = .ok (.iadd, 1) := by decide +kernel
theorem dL_law_343 : decode cL_law 343 = .ok (.iaload, 1) := by decide +kernel
theorem dL_law_344 : decode cL_law 344 = .ok (.aload_n 0, 1) := by decide +kernel
theorem dL_law_345 : decode cL_law 345 = .ok (.iload 4, 2) := by decide +kernel
theorem dL_law_347 : decode cL_law 347 = .ok (.iconst 2, 1) := by decide +kernel
theorem dL_law_348 : decode cL_law 348 = .ok (.iadd, 1) := by decide +kernel
theorem dL_law_349 : decode cL_law 349 = .ok (.iaload, 1) := by decide +kernel
theorem dL_law_350 : decode cL_law 350 = .ok (.ifCond .eq 7, 3) := by decide +kernel
theorem dL_law_353 : decode cL_law 353 = .ok (.iconst 1, 1) := by decide +kernel
theorem dL_law_354 : decode cL_law 354 = .ok (.goto 4, 3) := by decide +kernel
theorem dL_law_357 : decode cL_law 357 = .ok (.iconst 0, 1) := by decide +kernel
theorem dL_law_358 : decode cL_law 358 = .ok (.invokevirtual 47, 3) := by decide +kernel
theorem dL_law_361 : decode cL_law 361 = .ok (.aload_n 2, 1) := by decide +kernel
theorem dL_law_362 : decode cL_law 362 = .ok (.aload_n 0, 1) := by decide +kernel
theorem dL_law_363 : decode cL_law 363 = .ok (.iload 4, 2) := by decide +kernel
theorem dL_law_365 : decode cL_law 365 = .ok (.iconst 1, 1) := by decide +kernel
theorem dL_law_366 : decode cL_law 366 = .ok (.iadd, 1) := by decide +kernel
theorem dL_law_367 : decode cL_law 367 = .ok (.iaload, 1) := by decide +kernel
theorem dL_law_368 : decode cL_law 368 = .ok (.aload_n 0, 1) := by decide +kernel
theorem dL_law_369 : decode cL_law 369 = .ok (.iload 4, 2) := by decide +kernel
theorem dL_law_371 : decode cL_law 371 = .ok (.iconst 2, 1) := by decide +kernel
theorem dL_law_372 : decode cL_law 372 = .ok (.iadd, 1) := by decide +kernel
theorem dL_law_373 : decode cL_law 373 = .ok (.iaload, 1) := by decide +kernel
theorem dL_law_374 : decode cL_law 374 = .ok (.ifCond .eq 7, 3) := by decide +kernel
theorem dL_law_377 : decode cL_law 377 = .ok (.iconst 1, 1) := by decide +kernel
theorem dL_law_378 : decode cL_law 378 = .ok (.goto 4, 3) := by decide +kernel
theorem dL_law_381 : decode cL_law 381 = .ok (.iconst 0, 1) := by decide +kernel
theorem dL_law_382 : decode cL_law 382 = .ok (.invokevirtual 51, 3) := by decide +kernel
theorem dL_law_385 : decode cL_law 385 = .ok (.if_icmp .eq 335, 3) := by decide +kernel
theorem dL_law_388 : decode cL_law 388 = .ok (.iconst 0, 1) := by decide +kernel
theorem dL_law_389 : decode cL_law 389 = .ok (.ireturn, 1) := by decide +kernel
theorem dL_law_390 : decode cL_law 390 = .ok (.aload_n 1, 1) := by decide +kernel
theorem dL_law_391 : decode cL_law 391 = .ok (.aload_n 0, 1) := by decide +kernel
theorem dL_law_392 : decode cL_law 392 = .ok (.iload 4, 2) := by decide +kernel
theorem dL_law_394 : decode cL_law 394 = .ok (.iconst 1, 1) := by decide +kernel
theorem dL_law_395 : decode cL_law 395 = .ok (.iadd, 1) := by decide +kernel
theorem dL_law_396 : decode cL_law 396 = .ok (.iaload, 1) := by decide +kernel
theorem dL_law_397 : decode cL_law 397 = .ok (.aload_n 0, 1) := by decide +kernel
theorem dL_law_398 : decode cL_law 398 = .ok (.iload 4, 2) := by decide +kernel
theorem dL_law_400 : decode cL_law 400 = .ok (.iconst 2, 1) := by decide +kernel
theorem dL_law_401 : decode cL_law 401 = .ok (.iadd, 1) := by decide +kernel
theorem dL_law_402 : decode cL_law 402 = .ok (.iaload, 1) := by decide +kernel
theorem dL_law_403 : decode cL_law 403 = .ok (.invokevirtual 52, 3) := by decide +kernel
theorem dL_law_406 : decode cL_law 406 = .ok (.aload_n 2, 1) := by decide +kernel
theorem dL_law_407 : decode cL_law 407 = .ok (.aload_n 0, 1) := by decide +kernel
theorem dL_law_408 : decode cL_law 408 = .ok (.iload 4, 2) := by decide +kernel
theorem dL_law_410 : decode cL_law 410 = .ok (.iconst 1, 1) := by decide +kernel
theorem dL_law_411 : decode cL_law 411 = .ok (.iadd, 1) := by decide +kernel
theorem dL_law_412 : decode cL_law 412 = .ok (.iaload, 1) := by decide +kernel
theorem dL_law_413 : decode cL_law 413 = .ok (.aload_n 0, 1) := by decide +kernel
theorem dL_law_414 : decode cL_law 414 = .ok (.iload 4, 2) := by decide +kernel
theorem dL_law_416 : decode cL_law 416 = .ok (.iconst 2, 1) := by decide +kernel
theorem dL_law_417 : decode cL_law 417 = .ok (.iadd, 1) := by decide +kernel
theorem dL_law_418 : decode cL_law 418 = .ok (.iaload, 1) := by decide +kernel
theorem dL_law_419 : decode cL_law 419 = .ok (.invokevirtual 55, 3) := by decide +kernel
theorem dL_law_422 : decode cL_law 422 = .ok (.if_icmp .eq 298, 3) := by decide +kernel
theorem dL_law_425 : decode cL_law 425 = .ok (.iconst 0, 1) := by decide +kernel
theorem dL_law_426 : decode cL_law 426 = .ok (.ireturn, 1) := by decide +kernel
theorem dL_law_427 : decode cL_law 427 = .ok (.aload_n 1, 1) := by decide +kernel
theorem dL_law_428 : decode cL_law 428 = .ok (.aload_n 0, 1) := by decide +kernel
theorem dL_law_429 : decode cL_law 429 = .ok (.iload 4, 2) := by decide +kernel
theorem dL_law_431 : decode cL_law 431 = .ok (.iconst 1, 1) := by decide +kernel
theorem dL_law_432 : decode cL_law 432 = .ok (.iadd, 1) := by decide +kernel
theorem dL_law_433 : decode cL_law 433 = .ok (.iaload, 1) := by decide +kernel
theorem dL_law_434 : decode cL_law 434 = .ok (.invokevirtual 56, 3) := by decide +kernel
theorem dL_law_437 : decode cL_law 437 = .ok (.aload_n 2, 1) := by decide +kernel
theorem dL_law_438 : decode cL_law 438 = .ok (.aload_n 0, 1) := by decide +kernel
theorem dL_law_439 : decode cL_law 439 = .ok (.iload 4, 2) := by decide +kernel
theorem dL_law_441 : decode cL_law 441 = .ok (.iconst 1, 1) := by decide +kernel
theorem dL_law_442 : decode cL_law 442 = .ok (.iadd, 1) := by decide +kernel
theorem dL_law_443 : decode cL_law 443 = .ok (.iaload, 1) := by decide +kernel
theorem dL_law_444 : decode cL_law 444 = .ok (.invokevirtual 59, 3) := by decide +kernel
theorem dL_law_447 : decode cL_law 447 = .ok (.if_icmp .eq 273, 3) := by decide +kernel
theorem dL_law_450 : decode cL_law 450 = .ok (.iconst 0, 1) := by decide +kernel
theorem dL_law_451 : decode cL_law 451 = .ok (.ireturn, 1) := by decide +kernel
theorem dL_law_452 : decode cL_law 452 = .ok (.aload_n 1, 1) := by decide +kernel
theorem dL_law_453 : decode cL_law 453 = .ok (.invokevirtual 60, 3) := by decide +kernel
theorem dL_law_456 : decode cL_law 456 = .ok (.aload_n 2, 1) := by decide +kernel
theorem dL_law_457 : decode cL_law 457 = .ok (.invokevirtual 64, 3) := by decide +kernel
theorem dL_law_460 : decode cL_law 460 = .ok (.if_icmp .eq 260, 3) := by decide +kernel
theorem dL_law_463 : decode cL_law 463 = .ok (.iconst 0, 1) := by decide +kernel
theorem dL_law_464 : decode cL_law 464 = .ok (.ireturn, 1) := by decide +kernel
theorem dL_law_465 : decode cL_law 465 = .ok (.aload_n 1, 1) := by decide +kernel
theorem dL_law_466 : decode cL_law 466 = .ok (.aload_n 0, 1) := by decide +kernel
theorem dL_law_467 : decode cL_law 467 = .ok (.iload 4, 2) := by decide +kernel
theorem dL_law_469 : decode cL_law 469 = .ok (.iconst 1, 1) := by decide +kernel
theorem dL_law_470 : decode cL_law 470 = .ok (.iadd, 1) := by decide +kernel
theorem dL_law_471 : decode cL_law 471 = .ok (.iaload, 1) := by decide +kernel
theorem dL_law_472 : decode cL_law 472 = .ok (.invokevirtual 65, 3) := by decide +kernel
theorem dL_law_475 : decode cL_law 475 = .ok (.aload_n 2, 1) := by decide +kernel
theorem dL_law_476 : decode cL_law 476 = .ok (.aload_n 0, 1) := by decide +kernel
theorem dL_law_477 : decode cL_law 477 = .ok (.iload 4, 2) := by decide +kernel
theorem dL_law_479 : decode cL_law 479 = .ok (.iconst 1, 1) := by decide +kernel
theorem dL_law_480 : decode cL_law 480 = .ok (.iadd, 1) := by decide +kernel
theorem dL_law_481 : decode cL_law 481 = .ok (.iaload, 1) := by decide +kernel
theorem dL_law_482 : decode cL_law 482 = .ok (.invokevirtual 68, 3) := by decide +kernel
theorem dL_law_485 : decode cL_law 485 = .ok (.if_icmp .eq 235, 3) := by decide +kernel
theorem dL_law_488 : decode cL_law 488 = .ok (.iconst 0, 1) := by decide +kernel
theorem dL_law_489 : decode cL_law 489 = .ok (.ireturn, 1) := by decide +kernel
theorem dL_law_490 : decode cL_law 490 = .ok (.aload_n 1, 1) := by decide +kernel
theorem dL_law_491 : decode cL_law 491 = .ok (.aload_n 0, 1) := by decide +kernel
theorem dL_law_492 : decode cL_law 492 = .ok (.iload 4, 2) := by decide +kernel
theorem dL_law_494 : decode cL_law 494 = .ok (.iconst 1, 1) := by decide +kernel
theorem dL_law_495 : decode cL_law 495 = .ok (.iadd, 1) := by decide +kernel
theorem dL_law_496 : decode cL_law 496 = .ok (.iaload, 1) := by decide +kernel
theorem dL_law_497 : decode cL_law 497 = .ok (.invokevirtual 69, 3) := by decide +kernel
theorem dL_law_500 : decode cL_law 500 = .ok (.aload_n 2, 1) := by decide +kernel
theorem dL_law_501 : decode cL_law 501 = .ok (.aload_n 0, 1) := by decide +kernel
theorem dL_law_502 : decode cL_law 502 = .ok (.iload 4, 2) := by decide +kernel
theorem dL_law_504 : decode cL_law 504 = .ok (.iconst 1, 1) := by decide +kernel
theorem dL_law_505 : decode cL_law 505 = .ok (.iadd, 1) := by decide +kernel
theorem dL_law_506 : decode cL_law 506 = .ok (.iaload, 1) := by decide +kernel
theorem dL_law_507 : decode cL_law 507 = .ok (.invokevirtual 72, 3) := by decide +kernel
theorem dL_law_510 : decode cL_law 510 = .ok (.if_icmp .eq 210, 3) := by decide +kernel
theorem dL_law_513 : decode cL_law 513 = .ok (.iconst 0, 1) := by decide +kernel
theorem dL_law_514 : decode cL_law 514 = .ok (.ireturn, 1) := by decide +kernel
theorem dL_law_515 : decode cL_law 515 = .ok (.aload_n 1, 1) := by decide +kernel
theorem dL_law_516 : decode cL_law 516 = .ok (.aload_n 0, 1) := by decide +kernel
theorem dL_law_517 : decode cL_law 517 = .ok (.iload 4, 2) := by decide +kernel
theorem dL_law_519 : decode cL_law 519 = .ok (.iconst 1, 1) := by decide +kernel
theorem dL_law_520 : decode cL_law 520 = .ok (.iadd, 1) := by decide +kernel
theorem dL_law_521 : decode cL_law 521 = .ok (.iaload, 1) := by decide +kernel
theorem dL_law_522 : decode cL_law 522 = .ok (.aload_n 3, 1) := by decide +kernel
theorem dL_law_523 : decode cL_law 523 = .ok (.invokestatic 73, 3) := by decide +kernel
theorem dL_law_526 : decode cL_law 526 = .ok (.istore 5, 2) := by decide +kernel
theorem dL_law_528 : decode cL_law 528 = .ok (.aload_n 2, 1) := by decide +kernel
theorem dL_law_529 : decode cL_law 529 = .ok (.aload_n 0, 1) := by decide +kernel
theorem dL_law_530 : decode cL_law 530 = .ok (.iload 4, 2) := by decide +kernel
theorem dL_law_532 : decode cL_law 532 = .ok (.iconst 1, 1) := by decide +kernel
theorem dL_law_533 : decode cL_law 533 = .ok (.iadd, 1) := by decide +kernel
theorem dL_law_534 : decode cL_law 534 = .ok (.iaload, 1) := by decide +kernel
theorem dL_law_535 : decode cL_law 535 = .ok (.invokevirtual 78, 3) := by decide +kernel
theorem dL_law_538 : decode cL_law 538 = .ok (.lstore 6, 2) := by decide +kernel
theorem dL_law_540 : decode cL_law 540 = .ok (.aload_n 2, 1) := by decide +kernel
theorem dL_law_541 : decode cL_law 541 = .ok (.invokevirtual 79, 3) := by decide +kernel
theorem dL_law_544 : decode cL_law 544 = .ok (.iload 5, 2) := by decide +kernel
theorem dL_law_546 : decode cL_law 546 = .ok (.if_icmp .eq 5, 3) := by decide +kernel
theorem dL_law_549 : decode cL_law 549 = .ok (.iconst 0, 1) := by decide +kernel
theorem dL_law_550 : decode cL_law 550 = .ok (.ireturn, 1) := by decide +kernel
theorem dL_law_551 : decode cL_law 551 = .ok (.iload 5, 2) := by decide +kernel
theorem dL_law_553 : decode cL_law 553 = .ok (.ifCond .ne 14, 3) := by decide +kernel
theorem dL_law_556 : decode cL_law 556 = .ok (.aload_n 3, 1) := by decide +kernel
theorem dL_law_557 : decode cL_law 557 = .ok (.iconst 0, 1) := by decide +kernel
theorem dL_law_558 : decode cL_law 558 = .ok (.laload, 1) := by decide +kernel
theorem dL_law_559 : decode cL_law 559 = .ok (.lload 6, 2) := by decide +kernel
theorem dL_law_561 : decode cL_law 561 = .ok (.lcmp, 1) := by decide +kernel
theorem dL_law_562 : decode cL_law 562 = .ok (.ifCond .eq 5, 3) := by decide +kernel
theorem dL_law_565 : decode cL_law 565 = .ok (.iconst 0, 1) := by decide +kernel
theorem dL_law_566 : decode cL_law 566 = .ok (.ireturn, 1) := by decide +kernel
theorem dL_law_567 : decode cL_law 567 = .ok (.goto 153, 3) := by decide +kernel
theorem dL_law_570 : decode cL_law 570 = .ok (.aload_n 1, 1) := by decide +kernel
theorem dL_law_571 : decode cL_law 571 = .ok (.aload_n 0, 1) := by decide +kernel
theorem dL_law_572 : decode cL_law 572 = .ok (.iload 4, 2) := by decide +kernel
theorem dL_law_574 : decode cL_law 574 = .ok (.iconst 1, 1) := by decide +kernel
theorem dL_law_575 : decode cL_law 575 = .ok (.iadd, 1) := by decide +kernel
theorem dL_law_576 : decode cL_law 576 = .ok (.iaload, 1) := by decide +kernel
theorem dL_law_577 : decode cL_law 577 = .ok (.invokevirtual 82, 3) := by decide +kernel
theorem dL_law_580 : decode cL_law 580 = .ok (.aload_n 2, 1) := by decide +kernel
theorem dL_law_581 : decode cL_law 581 = .ok (.aload_n 0, 1) := by decide +kernel
theorem dL_law_582 : decode cL_law 582 = .ok (.iload 4, 2) := by decide +kernel
theorem dL_law_584 : decode cL_law 584 = .ok (.iconst 1, 1) := by decide +kernel
theorem dL_law_585 : decode cL_law 585 = .ok (.iadd, 1) := by decide +kernel
theorem dL_law_586 : decode cL_law 586 = .ok (.iaload, 1) := by decide +kernel
theorem dL_law_587 : decode cL_law 587 = .ok (.invokevirtual 85, 3) := by decide +kernel
theorem dL_law_590 : decode cL_law 590 = .ok (.if_icmp .eq 130, 3) := by decide +kernel
theorem dL_law_593 : decode cL_law 593 = .ok (.iconst 0, 1) := by decide +kernel
theorem dL_law_594 : decode cL_law 594 = .ok (.ireturn, 1) := by decide +kernel
theorem dL_law_595 : decode cL_law 595 = .ok (.aload_n 1, 1) := by decide +kernel
theorem dL_law_596 : decode cL_law 596 = .ok (.aload_n 0, 1) := by decide +kernel
theorem dL_law_597 : decode cL_law 597 = .ok (.iload 4, 2) := by decide +kernel
theorem dL_law_599 : decode cL_law 599 = .ok (.iconst 1, 1) := by decide +kernel
theorem dL_law_600 : decode cL_law 600 = .ok (.iadd, 1) := by decide +kernel
theorem dL_law_601 : decode cL_law 601 = .ok (.iaload, 1) := by decide +kernel
theorem dL_law_602 : decode cL_law 602 = .ok (.invokevirtual 86, 3) := by decide +kernel
theorem dL_law_605 : decode cL_law 605 = .ok (.aload_n 2, 1) := by decide +kernel
theorem dL_law_606 : decode cL_law 606 = .ok (.aload_n 0, 1) := by decide +kernel
theorem dL_law_607 : decode cL_law 607 = .ok (.iload 4, 2) := by decide +kernel
theorem dL_law_609 : decode cL_law 609 = .ok (.iconst 1, 1) := by decide +kernel
theorem dL_law_610 : decode cL_law 610 = .ok (.iadd, 1) := by decide +kernel
theorem dL_law_611 : decode cL_law 611 = .ok (.iaload, 1) := by decide +kernel
theorem dL_law_612 : decode cL_law 612 = .ok (.invokevirtual 89, 3) := by decide +kernel
theorem dL_law_615 : decode cL_law 615 = .ok (.if_icmp .eq 105, 3) := by decide +kernel
theorem dL_law_618 : decode cL_law 618 = .ok (.iconst 0, 1) := by decide +kernel
theorem dL_law_619 : decode cL_law 619 = .ok (.ireturn, 1) := by decide +kernel
theorem dL_law_620 : decode cL_law 620 = .ok (.aload_n 1, 1) := by decide +kernel
theorem dL_law_621 : decode cL_law 621 = .ok (.aload_n 0, 1) := by decide +kernel
theorem dL_law_622 : decode cL_law 622 = .ok (.iload 4, 2) := by decide +kernel
theorem dL_law_624 : decode cL_law 624 = .ok (.iconst 1, 1) := by decide +kernel
theorem dL_law_625 : decode cL_law 625 = .ok (.iadd, 1) := by decide +kernel
theorem dL_law_626 : decode cL_law 626 = .ok (.iaload, 1) := by decide +kernel
theorem dL_law_627 : decode cL_law 627 = .ok (.invokevirtual 90, 3) := by decide +kernel
theorem dL_law_630 : decode cL_law 630 = .ok (.aload_n 2, 1) := by decide +kernel
theorem dL_law_631 : decode cL_law 631 = .ok (.aload_n 0, 1) := by decide +kernel
theorem dL_law_632 : decode cL_law 632 = .ok (.iload 4, 2) := by decide +kernel
theorem dL_law_634 : decode cL_law 634 = .ok (.iconst 1, 1) := by decide +kernel
theorem dL_law_635 : decode cL_law 635 = .ok (.iadd, 1) := by decide +kernel
theorem dL_law_636 : decode cL_law 636 = .ok (.iaload, 1) := by decide +kernel
theorem dL_law_637 : decode cL_law 637 = .ok (.invokevirtual 93, 3) := by decide +kernel
theorem dL_law_640 : decode cL_law 640 = .ok (.if_icmp .eq 80, 3) := by decide +kernel
theorem dL_law_643 : decode cL_law 643 = .ok (.iconst 0, 1) := by decide +kernel
theorem dL_law_644 : decode cL_law 644 = .ok (.ireturn, 1) := by decide +kernel
theorem dL_law_645 : decode cL_law 645 = .ok (.aload_n 1, 1) := by decide +kernel
theorem dL_law_646 : decode cL_law 646 = .ok (.aload_n 0, 1) := by decide +kernel
end
section
theorem dL_law_647 : decode cL_law 647 = .ok (.iload 4, 2) := by decide +kernel
theorem dL_law_649 : decode cL_law 649 = .ok (.iconst 1, 1) := by decide +kernel
theorem dL_law_650 : decode cL_law 650 = .ok (.iadd, 1) := by decide +kernel
theorem dL_law_651 : decode cL_law 651 = .ok (.iaload, 1) := by decide +kernel
theorem dL_law_652 : decode cL_law 652 = .ok (.aload_n 0, 1) := by decide +kernel
theorem dL_law_653 : decode cL_law 653 = .ok (.iload 4, 2) := by decide +kernel
theorem dL_law_655 : decode cL_law 655 = .ok (.iconst 2, 1) := by decide +kernel
theorem dL_law_656 : decode cL_law 656 = .ok (.iadd, 1) := by decide +kernel
theorem dL_law_657 : decode cL_law 657 = .ok (.iaload, 1) := by decide +kernel
theorem dL_law_658 : decode cL_law 658 = .ok (.invokevirtual 94, 3) := by decide +kernel
theorem dL_law_661 : decode cL_law 661 = .ok (.aload_n 2, 1) := by decide +kernel
theorem dL_law_662 : decode cL_law 662 = .ok (.aload_n 0, 1) := by decide +kernel
theorem dL_law_663 : decode cL_law 663 = .ok (.iload 4, 2) := by decide +kernel
theorem dL_law_665 : decode cL_law 665 = .ok (.iconst 1, 1) := by decide +kernel
theorem dL_law_666 : decode cL_law 666 = .ok (.iadd, 1) := by decide +kernel
theorem dL_law_667 : decode cL_law 667 = .ok (.iaload, 1) := by decide +kernel
theorem dL_law_668 : decode cL_law 668 = .ok (.aload_n 0, 1) := by decide +kernel
theorem dL_law_669 : decode cL_law 669 = .ok (.iload 4, 2) := by decide +kernel
theorem dL_law_671 : decode cL_law 671 = .ok (.iconst 2, 1) := by decide +kernel
theorem dL_law_672 : decode cL_law 672 = .ok (.iadd, 1) := by decide +kernel
theorem dL_law_673 : decode cL_law 673 = .ok (.iaload, 1) := by decide +kernel
theorem dL_law_674 : decode cL_law 674 = .ok (.invokevirtual 97, 3) := by decide +kernel
theorem dL_law_677 : decode cL_law 677 = .ok (.if_icmp .eq 43, 3) := by decide +kernel
theorem dL_law_680 : decode cL_law 680 = .ok (.iconst 0, 1) := by decide +kernel
theorem dL_law_681 : decode cL_law 681 = .ok (.ireturn, 1) := by decide +kernel
theorem dL_law_682 : decode cL_law 682 = .ok (.aload_n 1, 1) := by decide +kernel
theorem dL_law_683 : decode cL_law 683 = .ok (.aload_n 0, 1) := by decide +kernel
theorem dL_law_684 : decode cL_law 684 = .ok (.iload 4, 2) := by decide +kernel
theorem dL_law_686 : decode cL_law 686 = .ok (.iconst 1, 1) := by decide +kernel
theorem dL_law_687 : decode cL_law 687 = .ok (.iadd, 1) := by decide +kernel
theorem dL_law_688 : decode cL_law 688 = .ok (.iaload, 1) := by decide +kernel
theorem dL_law_689 : decode cL_law 689 = .ok (.invokevirtual 98, 3) := by decide +kernel
theorem dL_law_692 : decode cL_law 692 = .ok (.aload_n 2, 1) := by decide +kernel
theorem dL_law_693 : decode cL_law 693 = .ok (.aload_n 0, 1) := by decide +kernel
theorem dL_law_694 : decode cL_law 694 = .ok (.iload 4, 2) := by decide +kernel
theorem dL_law_696 : decode cL_law 696 = .ok (.iconst 1, 1) := by decide +kernel
theorem dL_law_697 : decode cL_law 697 = .ok (.iadd, 1) := by decide +kernel
theorem dL_law_698 : decode cL_law 698 = .ok (.iaload, 1) := by decide +kernel
theorem dL_law_699 : decode cL_law 699 = .ok (.invokevirtual 102, 3) := by decide +kernel
theorem dL_law_702 : decode cL_law 702 = .ok (.if_icmp .eq 18, 3) := by decide +kernel
theorem dL_law_705 : decode cL_law 705 = .ok (.iconst 0, 1) := by decide +kernel
theorem dL_law_706 : decode cL_law 706 = .ok (.ireturn, 1) := by decide +kernel
theorem dL_law_707 : decode cL_law 707 = .ok (.aload_n 1, 1) := by decide +kernel
theorem dL_law_708 : decode cL_law 708 = .ok (.invokevirtual 103, 3) := by decide +kernel
theorem dL_law_711 : decode cL_law 711 = .ok (.aload_n 2, 1) := by decide +kernel
theorem dL_law_712 : decode cL_law 712 = .ok (.invokevirtual 106, 3) := by decide +kernel
theorem dL_law_715 : decode cL_law 715 = .ok (.if_icmp .eq 5, 3) := by decide +kernel
theorem dL_law_718 : decode cL_law 718 = .ok (.iconst 0, 1) := by decide +kernel
theorem dL_law_719 : decode cL_law 719 = .ok (.ireturn, 1) := by decide +kernel
theorem dL_law_720 : decode cL_law 720 = .ok (.iinc 4 4, 3) := by decide +kernel
theorem dL_law_723 : decode cL_law 723 = .ok (.goto (-700), 3) := by decide +kernel
theorem dL_law_726 : decode cL_law 726 = .ok (.iconst 1, 1) := by decide +kernel
theorem dL_law_727 : decode cL_law 727 = .ok (.ireturn, 1) := by decide +kernel
end
section
theorem dX0_init_0 : decode cX0_init 0 = .ok (.aload_n 0, 1) := by decide +kernel
theorem dX0_init_1 : decode cX0_init 1 = .ok (.invokespecial 3, 3) := by decide +kernel
theorem dX0_init_4 : decode cX0_init 4 = .ok (.aload_n 0, 1) := by decide +kernel
theorem dX0_init_5 : decode cX0_init 5 = .ok (.bipush 8, 2) := by decide +kernel
theorem dX0_init_7 : decode cX0_init 7 = .ok (.anewarray 9, 3) := by decide +kernel
theorem dX0_init_10 : decode cX0_init 10 = .ok (.putfield 11, 3) := by decide +kernel
theorem dX0_init_13 : decode cX0_init 13 = .ok (.aload_n 0, 1) := by decide +kernel
theorem dX0_init_14 : decode cX0_init 14 = .ok (.bipush 8, 2) := by decide +kernel
theorem dX0_init_16 : decode cX0_init 16 = .ok (.newarray .int, 2) := by decide +kernel
theorem dX0_init_18 : decode cX0_init 18 = .ok (.putfield 15, 3) := by decide +kernel
theorem dX0_init_21 : decode cX0_init 21 = .ok (.aload_n 0, 1) := by decide +kernel
theorem dX0_init_22 : decode cX0_init 22 = .ok (.new 19, 3) := by decide +kernel
theorem dX0_init_25 : decode cX0_init 25 = .ok (.dup, 1) := by decide +kernel
theorem dX0_init_26 : decode cX0_init 26 = .ok (.invokespecial 21, 3) := by decide +kernel
theorem dX0_init_29 : decode cX0_init 29 = .ok (.putfield 22, 3) := by decide +kernel
theorem dX0_init_32 : decode cX0_init 32 = .ok (.aload_n 0, 1) := by decide +kernel
theorem dX0_init_33 : decode cX0_init 33 = .ok (.iload_n 1, 1) := by decide +kernel
theorem dX0_init_34 : decode cX0_init 34 = .ok (.putfield 26, 3) := by decide +kernel
theorem dX0_init_37 : decode cX0_init 37 = .ok (.aload_n 0, 1) := by decide +kernel
theorem dX0_init_38 : decode cX0_init 38 = .ok (.iload_n 2, 1) := by decide +kernel
theorem dX0_init_39 : decode cX0_init 39 = .ok (.putfield 30, 3) := by decide +kernel
theorem dX0_init_42 : decode cX0_init 42 = .ok (.aload_n 0, 1) := by decide +kernel
theorem dX0_init_43 : decode cX0_init 43 = .ok (.lconst 1, 1) := by decide +kernel
theorem dX0_init_44 : decode cX0_init 44 = .ok (.iload_n 1, 1) := by decide +kernel
theorem dX0_init_45 : decode cX0_init 45 = .ok (.lshl, 1) := by decide +kernel
theorem dX0_init_46 : decode cX0_init 46 = .ok (.putfield 33, 3) := by decide +kernel
theorem dX0_init_49 : decode cX0_init 49 = .ok (.return_, 1) := by decide +kernel
theorem dX0_isLeaf_0 : decode cX0_isLeaf 0 = .ok (.aload_n 0, 1) := by decide +kernel
theorem dX0_isLeaf_1 : decode cX0_isLeaf 1 = .ok (.getfield 30, 3) := by decide +kernel
theorem dX0_isLeaf_4 : decode cX0_isLeaf 4 = .ok (.iconst (-1), 1) := by decide +kernel
theorem dX0_isLeaf_5 : decode cX0_isLeaf 5 = .ok (.if_icmp .ne 7, 3) := by decide +kernel
theorem dX0_isLeaf_8 : decode cX0_isLeaf 8 = .ok (.iconst 1, 1) := by decide +kernel
theorem dX0_isLeaf_9 : decode cX0_isLeaf 9 = .ok (.goto 4, 3) := by decide +kernel
theorem dX0_isLeaf_12 : decode cX0_isLeaf 12 = .ok (.iconst 0, 1) := by decide +kernel
theorem dX0_isLeaf_13 : decode cX0_isLeaf 13 = .ok (.ireturn, 1) := by decide +kernel
theorem dX0_reaches_0 : decode cX0_reaches 0 = .ok (.aload_n 0, 1) := by decide +kernel
theorem dX0_reaches_1 : decode cX0_reaches 1 = .ok (.getfield 33, 3) := by decide +kernel
theorem dX0_reaches_4 : decode cX0_reaches 4 = .ok (.lconst 1, 1) := by decide +kernel
theorem dX0_reaches_5 : decode cX0_reaches 5 = .ok (.aload_n 1, 1) := by decide +kernel
theorem dX0_reaches_6 : decode cX0_reaches 6 = .ok (.getfield 26, 3) := by decide +kernel
theorem dX0_reaches_9 : decode cX0_reaches 9 = .ok (.lshl, 1) := by decide +kernel
theorem dX0_reaches_10 : decode cX0_reaches 10 = .ok (.land, 1) := by decide +kernel
theorem dX0_reaches_11 : decode cX0_reaches 11 = .ok (.lconst 0, 1) := by decide +kernel
theorem dX0_reaches_12 : decode cX0_reaches 12 = .ok (.lcmp, 1) := by decide +kernel
theorem dX0_reaches_13 : decode cX0_reaches 13 = .ok (.ifCond .eq 7, 3) := by decide +kernel
theorem dX0_reaches_16 : decode cX0_reaches 16 = .ok (.iconst 1, 1) := by decide +kernel
theorem dX0_reaches_17 : decode cX0_reaches 17 = .ok (.goto 4, 3) := by decide +kernel
theorem dX0_reaches_20 : decode cX0_reaches 20 = .ok (.iconst 0, 1) := by decide +kernel
theorem dX0_reaches_21 : decode cX0_reaches 21 = .ok (.ireturn, 1) := by decide +kernel
theorem dX0_firstThatReaches_0 : decode cX0_firstThatReaches 0 = .ok (.iconst 0, 1) := by decide +kernel
theorem dX0_firstThatReaches_1 : decode cX0_firstThatReaches 1 = .ok (.istore_n 2, 1) := by decide +kernel
theorem dX0_firstThatReaches_2 : decode cX0_firstThatReaches 2 = .ok (.iload_n 2, 1) := by decide +kernel
theorem dX0_firstThatReaches_3 : decode cX0_firstThatReaches 3 = .ok (.aload_n 0, 1) := by decide +kernel
theorem dX0_firstThatReaches_4 : decode cX0_firstThatReaches 4 = .ok (.getfield 37, 3) := by decide +kernel
theorem dX0_firstThatReaches_7 : decode cX0_firstThatReaches 7 = .ok (.if_icmp .ge 29, 3) := by decide +kernel
theorem dX0_firstThatReaches_10 : decode cX0_firstThatReaches 10 = .ok (.aload_n 0, 1) := by decide +kernel
theorem dX0_firstThatReaches_11 : decode cX0_firstThatReaches 11 = .ok (.iload_n 2, 1) := by decide +kernel
theorem dX0_firstThatReaches_12 : decode cX0_firstThatReaches 12 = .ok (.invokevirtual 40, 3) := by decide +kernel
theorem dX0_firstThatReaches_15 : decode cX0_firstThatReaches 15 = .ok (.astore_n 3, 1) := by decide +kernel
theorem dX0_firstThatReaches_16 : decode cX0_firstThatReaches 16 = .ok (.aload_n 3, 1) := by decide +kernel
theorem dX0_firstThatReaches_17 : decode cX0_firstThatReaches 17 = .ok (.ifnull 13, 3) := by decide +kernel
theorem dX0_firstThatReaches_20 : decode cX0_firstThatReaches 20 = .ok (.aload_n 3, 1) := by decide +kernel
theorem dX0_firstThatReaches_21 : decode cX0_firstThatReaches 21 = .ok (.aload_n 1, 1) := by decide +kernel
theorem dX0_firstThatReaches_22 : decode cX0_firstThatReaches 22 = .ok (.invokevirtual 44, 3) := by decide +kernel
theorem dX0_firstThatReaches_25 : decode cX0_firstThatReaches 25 = .ok (.ifCond .eq 5, 3) := by decide +kernel
theorem dX0_firstThatReaches_28 : decode cX0_firstThatReaches 28 = .ok (.aload_n 3, 1) := by decide +kernel
theorem dX0_firstThatReaches_29 : decode cX0_firstThatReaches 29 = .ok (.areturn, 1) := by decide +kernel
theorem dX0_firstThatReaches_30 : decode cX0_firstThatReaches 30 = .ok (.iinc 2 1, 3) := by decide +kernel
theorem dX0_firstThatReaches_33 : decode cX0_firstThatReaches 33 = .ok (.goto (-31), 3) := by decide +kernel
theorem dX0_firstThatReaches_36 : decode cX0_firstThatReaches 36 = .ok (.aconst_null, 1) := by decide +kernel
theorem dX0_firstThatReaches_37 : decode cX0_firstThatReaches 37 = .ok (.areturn, 1) := by decide +kernel
theorem dX0_rowKey_0 : decode cX0_rowKey 0 = .ok (.iload_n 1, 1) := by decide +kernel
theorem dX0_rowKey_1 : decode cX0_rowKey 1 = .ok (.ifCond .lt 11, 3) := by decide +kernel
theorem dX0_rowKey_4 : decode cX0_rowKey 4 = .ok (.iload_n 1, 1) := by decide +kernel
theorem dX0_rowKey_5 : decode cX0_rowKey 5 = .ok (.aload_n 0, 1) := by decide +kernel
theorem dX0_rowKey_6 : decode cX0_rowKey 6 = .ok (.getfield 37, 3) := by decide +kernel
theorem dX0_rowKey_9 : decode cX0_rowKey 9 = .ok (.if_icmp .lt 7, 3) := by decide +kernel
theorem dX0_rowKey_12 : decode cX0_rowKey 12 = .ok (.aconst_null, 1) := by decide +kernel
theorem dX0_rowKey_13 : decode cX0_rowKey 13 = .ok (.goto 9, 3) := by decide +kernel
theorem dX0_rowKey_16 : decode cX0_rowKey 16 = .ok (.aload_n 0, 1) := by decide +kernel
theorem dX0_rowKey_17 : decode cX0_rowKey 17 = .ok (.getfield 11, 3) := by decide +kernel
theorem dX0_rowKey_20 : decode cX0_rowKey 20 = .ok (.iload_n 1, 1) := by decide +kernel
theorem dX0_rowKey_21 : decode cX0_rowKey 21 = .ok (.aaload, 1) := by decide +kernel
theorem dX0_rowKey_22 : decode cX0_rowKey 22 = .ok (.areturn, 1) := by decide +kernel
theorem dX0_askedPlace_0 : decode cX0_askedPlace 0 = .ok (.iload_n 1, 1) := by decide +kernel
theorem dX0_askedPlace_1 : decode cX0_askedPlace 1 = .ok (.ifCond .lt 11, 3) := by decide +kernel
theorem dX0_askedPlace_4 : decode cX0_askedPlace 4 = .ok (.iload_n 1, 1) := by decide +kernel
theorem dX0_askedPlace_5 : decode cX0_askedPlace 5 = .ok (.aload_n 0, 1) := by decide +kernel
theorem dX0_askedPlace_6 : decode cX0_askedPlace 6 = .ok (.getfield 48, 3) := by decide +kernel
theorem dX0_askedPlace_9 : decode cX0_askedPlace 9 = .ok (.if_icmp .lt 7, 3) := by decide +kernel
theorem dX0_askedPlace_12 : decode cX0_askedPlace 12 = .ok (.iconst (-1), 1) := by decide +kernel
theorem dX0_askedPlace_13 : decode cX0_askedPlace 13 = .ok (.goto 9, 3) := by decide +kernel
theorem dX0_askedPlace_16 : decode cX0_askedPlace 16 = .ok (.aload_n 0, 1) := by decide +kernel
theorem dX0_askedPlace_17 : decode cX0_askedPlace 17 = .ok (.getfield 15, 3) := by decide +kernel
theorem dX0_askedPlace_20 : decode cX0_askedPlace 20 = .ok (.iload_n 1, 1) := by decide +kernel
theorem dX0_askedPlace_21 : decode cX0_askedPlace 21 = .ok (.iaload, 1) := by decide +kernel
theorem dX0_askedPlace_22 : decode cX0_askedPlace 22 = .ok (.ireturn, 1) := by decide +kernel
theorem dX0_keepAskedPlaces_0 : decode cX0_keepAskedPlaces 0 = .ok (.aload_n 0, 1) := by decide +kernel
theorem dX0_keepAskedPlaces_1 : decode cX0_keepAskedPlaces 1 = .ok (.aload_n 0, 1) := by decide +kernel
theorem dX0_keepAskedPlaces_2 : decode cX0_keepAskedPlaces 2 = .ok (.getfield 22, 3) := by decide +kernel
theorem dX0_keepAskedPlaces_5 : decode cX0_keepAskedPlaces 5 = .ok (.getfield 51, 3) := by decide +kernel
theorem dX0_keepAskedPlaces_8 : decode cX0_keepAskedPlaces 8 = .ok (.putfield 48, 3) := by decide +kernel
theorem dX0_keepAskedPlaces_11 : decode cX0_keepAskedPlaces 11 = .ok (.iconst 0, 1) := by decide +kernel
theorem dX0_keepAskedPlaces_12 : decode cX0_keepAskedPlaces 12 = .ok (.istore_n 1, 1) := by decide +kernel
theorem dX0_keepAskedPlaces_13 : decode cX0_keepAskedPlaces 13 = .ok (.iload_n 1, 1) := by decide +kernel
theorem dX0_keepAskedPlaces_14 : decode cX0_keepAskedPlaces 14 = .ok (.aload_n 0, 1) := by decide +kernel
theorem dX0_keepAskedPlaces_15 : decode cX0_keepAskedPlaces 15 = .ok (.getfield 48, 3) := by decide +kernel
theorem dX0_keepAskedPlaces_18 : decode cX0_keepAskedPlaces 18 = .ok (.if_icmp .ge 24, 3) := by decide +kernel
theorem dX0_keepAskedPlaces_21 : decode cX0_keepAskedPlaces 21 = .ok (.aload_n 0, 1) := by decide +kernel
theorem dX0_keepAskedPlaces_22 : decode cX0_keepAskedPlaces 22 = .ok (.getfield 15, 3) := by decide +kernel
theorem dX0_keepAskedPlaces_25 : decode cX0_keepAskedPlaces 25 = .ok (.iload_n 1, 1) := by decide +kernel
theorem dX0_keepAskedPlaces_26 : decode cX0_keepAskedPlaces 26 = .ok (.aload_n 0, 1) := by decide +kernel
theorem dX0_keepAskedPlaces_27 : decode cX0_keepAskedPlaces 27 = .ok (.getfield 22, 3) := by decide +kernel
theorem dX0_keepAskedPlaces_30 : decode cX0_keepAskedPlaces 30 = .ok (.getfield 54, 3) := by decide +kernel
theorem dX0_keepAskedPlaces_33 : decode cX0_keepAskedPlaces 33 = .ok (.iload_n 1, 1) := by decide +kernel
theorem dX0_keepAskedPlaces_34 : decode cX0_keepAskedPlaces 34 = .ok (.iaload, 1) := by decide +kernel
theorem dX0_keepAskedPlaces_35 : decode cX0_keepAskedPlaces 35 = .ok (.iastore, 1) := by decide +kernel
theorem dX0_keepAskedPlaces_36 : decode cX0_keepAskedPlaces 36 = .ok (.iinc 1 1, 3) := by decide +kernel
theorem dX0_keepAskedPlaces_39 : decode cX0_keepAskedPlaces 39 = .ok (.goto (-26), 3) := by decide +kernel
theorem dX0_keepAskedPlaces_42 : decode cX0_keepAskedPlaces 42 = .ok (.return_, 1) := by decide +kernel
end
section
theorem dX1_init_0 : decode cX1_init 0 = .ok (.aload_n 0, 1) := by decide +kernel
theorem dX1_init_1 : decode cX1_init 1 = .ok (.invokespecial 3, 3) := by decide +kernel
theorem dX1_init_4 : decode cX1_init 4 = .ok (.aload_n 0, 1) := by decide +kernel
theorem dX1_init_5 : decode cX1_init 5 = .ok (.bipush 40, 2) := by decide +kernel
theorem dX1_init_7 : decode cX1_init 7 = .ok (.anewarray 9, 3) := by decide +kernel
theorem dX1_init_10 : decode cX1_init 10 = .ok (.putfield 11, 3) := by decide +kernel
theorem dX1_init_13 : decode cX1_init 13 = .ok (.return_, 1) := by decide +kernel
theorem dX1_topmost_0 : decode cX1_topmost 0 = .ok (.aload_n 0, 1) := by decide +kernel
theorem dX1_topmost_1 : decode cX1_topmost 1 = .ok (.getfield 17, 3) := by decide +kernel
theorem dX1_topmost_4 : decode cX1_topmost 4 = .ok (.ifCond .gt 7, 3) := by decide +kernel
theorem dX1_topmost_7 : decode cX1_topmost 7 = .ok (.aconst_null, 1) := by decide +kernel
theorem dX1_topmost_8 : decode cX1_topmost 8 = .ok (.goto 14, 3) := by decide +kernel
theorem dX1_topmost_11 : decode cX1_topmost 11 = .ok (.aload_n 0, 1) := by decide +kernel
theorem dX1_topmost_12 : decode cX1_topmost 12 = .ok (.getfield 11, 3) := by decide +kernel
theorem dX1_topmost_15 : decode cX1_topmost 15 = .ok (.aload_n 0, 1) := by decide +kernel
theorem dX1_topmost_16 : decode cX1_topmost 16 = .ok (.getfield 17, 3) := by decide +kernel
theorem dX1_topmost_19 : decode cX1_topmost 19 = .ok (.iconst 1, 1) := by decide +kernel
theorem dX1_topmost_20 : decode cX1_topmost 20 = .ok (.isub, 1) := by decide +kernel
theorem dX1_topmost_21 : decode cX1_topmost 21 = .ok (.aaload, 1) := by decide +kernel
theorem dX1_topmost_22 : decode cX1_topmost 22 = .ok (.areturn, 1) := by decide +kernel
theorem dX1_put_0 : decode cX1_put 0 = .ok (.aload_n 0, 1) := by decide +kernel
theorem dX1_put_1 : decode cX1_put 1 = .ok (.getfield 17, 3) := by decide +kernel
theorem dX1_put_4 : decode cX1_put 4 = .ok (.aload_n 0, 1) := by decide +kernel
theorem dX1_put_5 : decode cX1_put 5 = .ok (.getfield 11, 3) := by decide +kernel
theorem dX1_put_8 : decode cX1_put 8 = .ok (.arraylength, 1) := by decide +kernel
theorem dX1_put_9 : decode cX1_put 9 = .ok (.if_icmp .ge 36, 3) := by decide +kernel
theorem dX1_put_12 : decode cX1_put 12 = .ok (.aload_n 1, 1) := by decide +kernel
theorem dX1_put_13 : decode cX1_put 13 = .ok (.getfield 21, 3) := by decide +kernel
theorem dX1_put_16 : decode cX1_put 16 = .ok (.aload_n 1, 1) := by decide +kernel
theorem dX1_put_17 : decode cX1_put 17 = .ok (.invokevirtual 25, 3) := by decide +kernel
theorem dX1_put_20 : decode cX1_put 20 = .ok (.aload_n 1, 1) := by decide +kernel
theorem dX1_put_21 : decode cX1_put 21 = .ok (.iconst 1, 1) := by decide +kernel
theorem dX1_put_22 : decode cX1_put 22 = .ok (.putfield 31, 3) := by decide +kernel
theorem dX1_put_25 : decode cX1_put 25 = .ok (.aload_n 0, 1) := by decide +kernel
theorem dX1_put_26 : decode cX1_put 26 = .ok (.getfield 11, 3) := by decide +kernel
theorem dX1_put_29 : decode cX1_put 29 = .ok (.aload_n 0, 1) := by decide +kernel
theorem dX1_put_30 : decode cX1_put 30 = .ok (.getfield 17, 3) := by decide +kernel
theorem dX1_put_33 : decode cX1_put 33 = .ok (.aload_n 1, 1) := by decide +kernel
theorem dX1_put_34 : decode cX1_put 34 = .ok (.aastore, 1) := by decide +kernel
theorem dX1_put_35 : decode cX1_put 35 = .ok (.aload_n 0, 1) := by decide +kernel
theorem dX1_put_36 : decode cX1_put 36 = .ok (.dup, 1) := by decide +kernel
theorem dX1_put_37 : decode cX1_put 37 = .ok (.getfield 17, 3) := by decide +kernel
theorem dX1_put_40 : decode cX1_put 40 = .ok (.iconst 1, 1) := by decide +kernel
theorem dX1_put_41 : decode cX1_put 41 = .ok (.iadd, 1) := by decide +kernel
theorem dX1_put_42 : decode cX1_put 42 = .ok (.putfield 17, 3) := by decide +kernel
theorem dX1_put_45 : decode cX1_put 45 = .ok (.return_, 1) := by decide +kernel
theorem dX1_takeTopmost_0 : decode cX1_takeTopmost 0 = .ok (.aload_n 0, 1) := by decide +kernel
theorem dX1_takeTopmost_1 : decode cX1_takeTopmost 1 = .ok (.invokevirtual 35, 3) := by decide +kernel
theorem dX1_takeTopmost_4 : decode cX1_takeTopmost 4 = .ok (.astore_n 1, 1) := by decide +kernel
theorem dX1_takeTopmost_5 : decode cX1_takeTopmost 5 = .ok (.aload_n 1, 1) := by decide +kernel
theorem dX1_takeTopmost_6 : decode cX1_takeTopmost 6 = .ok (.ifnull 18, 3) := by decide +kernel
theorem dX1_takeTopmost_9 : decode cX1_takeTopmost 9 = .ok (.aload_n 1, 1) := by decide +kernel
theorem dX1_takeTopmost_10 : decode cX1_takeTopmost 10 = .ok (.iconst 0, 1) := by decide +kernel
theorem dX1_takeTopmost_11 : decode cX1_takeTopmost 11 = .ok (.putfield 31, 3) := by decide +kernel
theorem dX1_takeTopmost_14 : decode cX1_takeTopmost 14 = .ok (.aload_n 0, 1) := by decide +kernel
theorem dX1_takeTopmost_15 : decode cX1_takeTopmost 15 = .ok (.dup, 1) := by decide +kernel
theorem dX1_takeTopmost_16 : decode cX1_takeTopmost 16 = .ok (.getfield 17, 3) := by decide +kernel
theorem dX1_takeTopmost_19 : decode cX1_takeTopmost 19 = .ok (.iconst 1, 1) := by decide +kernel
theorem dX1_takeTopmost_20 : decode cX1_takeTopmost 20 = .ok (.isub, 1) := by decide +kernel
theorem dX1_takeTopmost_21 : decode cX1_takeTopmost 21 = .ok (.putfield 17, 3) := by decide +kernel
theorem dX1_takeTopmost_24 : decode cX1_takeTopmost 24 = .ok (.return_, 1) := by decide +kernel
theorem dX1_takeAll_0 : decode cX1_takeAll 0 = .ok (.aload_n 0, 1) := by decide +kernel
theorem dX1_takeAll_1 : decode cX1_takeAll 1 = .ok (.getfield 17, 3) := by decide +kernel
theorem dX1_takeAll_4 : decode cX1_takeAll 4 = .ok (.istore_n 1, 1) := by decide +kernel
theorem dX1_takeAll_5 : decode cX1_takeAll 5 = .ok (.iconst 0, 1) := by decide +kernel
theorem dX1_takeAll_6 : decode cX1_takeAll 6 = .ok (.istore_n 2, 1) := by decide +kernel
theorem dX1_takeAll_7 : decode cX1_takeAll 7 = .ok (.iload_n 2, 1) := by decide +kernel
theorem dX1_takeAll_8 : decode cX1_takeAll 8 = .ok (.iload_n 1, 1) := by decide +kernel
theorem dX1_takeAll_9 : decode cX1_takeAll 9 = .ok (.if_icmp .ge 13, 3) := by decide +kernel
theorem dX1_takeAll_12 : decode cX1_takeAll 12 = .ok (.aload_n 0, 1) := by decide +kernel
theorem dX1_takeAll_13 : decode cX1_takeAll 13 = .ok (.invokevirtual 39, 3) := by decide +kernel
theorem dX1_takeAll_16 : decode cX1_takeAll 16 = .ok (.iinc 2 1, 3) := by decide +kernel
theorem dX1_takeAll_19 : decode cX1_takeAll 19 = .ok (.goto (-12), 3) := by decide +kernel
theorem dX1_takeAll_22 : decode cX1_takeAll 22 = .ok (.iload_n 1, 1) := by decide +kernel
theorem dX1_takeAll_23 : decode cX1_takeAll 23 = .ok (.ireturn, 1) := by decide +kernel
end
section
theorem dX2_init_0 : decode cX2_init 0 = .ok (.aload_n 0, 1) := by decide +kernel
theorem dX2_init_1 : decode cX2_init 1 = .ok (.invokespecial 3, 3) := by decide +kernel
theorem dX2_init_4 : decode cX2_init 4 = .ok (.aload_n 0, 1) := by decide +kernel
theorem dX2_init_5 : decode cX2_init 5 = .ok (.bipush 8, 2) := by decide +kernel
theorem dX2_init_7 : decode cX2_init 7 = .ok (.newarray .int, 2) := by decide +kernel
theorem dX2_init_9 : decode cX2_init 9 = .ok (.putfield 9, 3) := by decide +kernel
theorem dX2_init_12 : decode cX2_init 12 = .ok (.return_, 1) := by decide +kernel
theorem dX2_start_0 : decode cX2_start 0 = .ok (.aload_n 0, 1) := by decide +kernel
theorem dX2_start_1 : decode cX2_start 1 = .ok (.aload_n 1, 1) := by decide +kernel
theorem dX2_start_2 : decode cX2_start 2 = .ok (.invokevirtual 15, 3) := by decide +kernel
theorem dX2_start_5 : decode cX2_start 5 = .ok (.aload_n 0, 1) := by decide +kernel
theorem dX2_start_6 : decode cX2_start 6 = .ok (.aload_n 1, 1) := by decide +kernel
theorem dX2_start_7 : decode cX2_start 7 = .ok (.getfield 19, 3) := by decide +kernel
theorem dX2_start_10 : decode cX2_start 10 = .ok (.ifCond .eq 18, 3) := by decide +kernel
theorem dX2_start_13 : decode cX2_start 13 = .ok (.aload_n 1, 1) := by decide +kernel
theorem dX2_start_14 : decode cX2_start 14 = .ok (.getfield 25, 3) := by decide +kernel
theorem dX2_start_17 : decode cX2_start 17 = .ok (.aload_n 1, 1) := by decide +kernel
theorem dX2_start_18 : decode cX2_start 18 = .ok (.getfield 29, 3) := by decide +kernel
theorem dX2_start_21 : decode cX2_start 21 = .ok (.if_icmp .gt 7, 3) := by decide +kernel
theorem dX2_start_24 : decode cX2_start 24 = .ok (.iconst 1, 1) := by decide +kernel
theorem dX2_start_25 : decode cX2_start 25 = .ok (.goto 4, 3) := by decide +kernel
theorem dX2_start_28 : decode cX2_start 28 = .ok (.iconst 0, 1) := by decide +kernel
theorem dX2_start_29 : decode cX2_start 29 = .ok (.putfield 32, 3) := by decide +kernel
theorem dX2_start_32 : decode cX2_start 32 = .ok (.return_, 1) := by decide +kernel
theorem dX2_startWorking_0 : decode cX2_startWorking 0 = .ok (.aload_n 0, 1) := by decide +kernel
theorem dX2_startWorking_1 : decode cX2_startWorking 1 = .ok (.iconst 0, 1) := by decide +kernel
theorem dX2_startWorking_2 : decode cX2_startWorking 2 = .ok (.putfield 32, 3) := by decide +kernel
theorem dX2_startWorking_5 : decode cX2_startWorking 5 = .ok (.aload_n 0, 1) := by decide +kernel
theorem dX2_startWorking_6 : decode cX2_startWorking 6 = .ok (.iconst 0, 1) := by decide +kernel
theorem dX2_startWorking_7 : decode cX2_startWorking 7 = .ok (.putfield 35, 3) := by decide +kernel
theorem dX2_startWorking_10 : decode cX2_startWorking 10 = .ok (.aload_n 0, 1) := by decide +kernel
theorem dX2_startWorking_11 : decode cX2_startWorking 11 = .ok (.lconst 0, 1) := by decide +kernel
theorem dX2_startWorking_12 : decode cX2_startWorking 12 = .ok (.putfield 38, 3) := by decide +kernel
theorem dX2_startWorking_15 : decode cX2_startWorking 15 = .ok (.aload_n 0, 1) := by decide +kernel
theorem dX2_startWorking_16 : decode cX2_startWorking 16 = .ok (.aload_n 1, 1) := by decide +kernel
theorem dX2_startWorking_17 : decode cX2_startWorking 17 = .ok (.getfield 42, 3) := by decide +kernel
theorem dX2_startWorking_20 : decode cX2_startWorking 20 = .ok (.ifCond .ne 18, 3) := by decide +kernel
theorem dX2_startWorking_23 : decode cX2_startWorking 23 = .ok (.aload_n 1, 1) := by decide +kernel
theorem dX2_startWorking_24 : decode cX2_startWorking 24 = .ok (.getfield 45, 3) := by decide +kernel
theorem dX2_startWorking_27 : decode cX2_startWorking 27 = .ok (.iconst 5, 1) := by decide +kernel
theorem dX2_startWorking_28 : decode cX2_startWorking 28 = .ok (.if_icmp .ne 14, 3) := by decide +kernel
theorem dX2_startWorking_31 : decode cX2_startWorking 31 = .ok (.aload_n 1, 1) := by decide +kernel
theorem dX2_startWorking_32 : decode cX2_startWorking 32 = .ok (.getfield 48, 3) := by decide +kernel
theorem dX2_startWorking_35 : decode cX2_startWorking 35 = .ok (.ifCond .ne 7, 3) := by decide +kernel
theorem dX2_startWorking_38 : decode cX2_startWorking 38 = .ok (.iconst 1, 1) := by decide +kernel
theorem dX2_startWorking_39 : decode cX2_startWorking 39 = .ok (.goto 4, 3) := by decide +kernel
theorem dX2_startWorking_42 : decode cX2_startWorking 42 = .ok (.iconst 0, 1) := by decide +kernel
theorem dX2_startWorking_43 : decode cX2_startWorking 43 = .ok (.putfield 51, 3) := by decide +kernel
theorem dX2_startWorking_46 : decode cX2_startWorking 46 = .ok (.return_, 1) := by decide +kernel
theorem dX2_nextPlace_0 : decode cX2_nextPlace 0 = .ok (.aload_n 0, 1) := by decide +kernel
theorem dX2_nextPlace_1 : decode cX2_nextPlace 1 = .ok (.getfield 51, 3) := by decide +kernel
theorem dX2_nextPlace_4 : decode cX2_nextPlace 4 = .ok (.ifCond .ne 14, 3) := by decide +kernel
theorem dX2_nextPlace_7 : decode cX2_nextPlace 7 = .ok (.aload_n 0, 1) := by decide +kernel
theorem dX2_nextPlace_8 : decode cX2_nextPlace 8 = .ok (.getfield 35, 3) := by decide +kernel
theorem dX2_nextPlace_11 : decode cX2_nextPlace 11 = .ok (.aload_n 1, 1) := by decide +kernel
theorem dX2_nextPlace_12 : decode cX2_nextPlace 12 = .ok (.getfield 48, 3) := by decide +kernel
theorem dX2_nextPlace_15 : decode cX2_nextPlace 15 = .ok (.if_icmp .lt 5, 3) := by decide +kernel
theorem dX2_nextPlace_18 : decode cX2_nextPlace 18 = .ok (.iconst (-1), 1) := by decide +kernel
theorem dX2_nextPlace_19 : decode cX2_nextPlace 19 = .ok (.ireturn, 1) := by decide +kernel
theorem dX2_nextPlace_20 : decode cX2_nextPlace 20 = .ok (.aload_n 1, 1) := by decide +kernel
theorem dX2_nextPlace_21 : decode cX2_nextPlace 21 = .ok (.getfield 45, 3) := by decide +kernel
theorem dX2_nextPlace_24 : decode cX2_nextPlace 24 = .ok (.lookupswitch 57 #[(1, 28), (2, 46)], 28) := by decide +kernel
theorem dX2_nextPlace_52 : decode cX2_nextPlace 52 = .ok (.aload_n 0, 1) := by decide +kernel
theorem dX2_nextPlace_53 : decode cX2_nextPlace 53 = .ok (.getfield 38, 3) := by decide +kernel
theorem dX2_nextPlace_56 : decode cX2_nextPlace 56 = .ok (.lconst 0, 1) := by decide +kernel
theorem dX2_nextPlace_57 : decode cX2_nextPlace 57 = .ok (.lcmp, 1) := by decide +kernel
theorem dX2_nextPlace_58 : decode cX2_nextPlace 58 = .ok (.ifCond .ne 10, 3) := by decide +kernel
theorem dX2_nextPlace_61 : decode cX2_nextPlace 61 = .ok (.aload_n 0, 1) := by decide +kernel
theorem dX2_nextPlace_62 : decode cX2_nextPlace 62 = .ok (.getfield 35, 3) := by decide +kernel
theorem dX2_nextPlace_65 : decode cX2_nextPlace 65 = .ok (.goto 4, 3) := by decide +kernel
theorem dX2_nextPlace_68 : decode cX2_nextPlace 68 = .ok (.iconst (-1), 1) := by decide +kernel
theorem dX2_nextPlace_69 : decode cX2_nextPlace 69 = .ok (.ireturn, 1) := by decide +kernel
theorem dX2_nextPlace_70 : decode cX2_nextPlace 70 = .ok (.aload_n 0, 1) := by decide +kernel
theorem dX2_nextPlace_71 : decode cX2_nextPlace 71 = .ok (.aload_n 1, 1) := by decide +kernel
theorem dX2_nextPlace_72 : decode cX2_nextPlace 72 = .ok (.getfield 48, 3) := by decide +kernel
theorem dX2_nextPlace_75 : decode cX2_nextPlace 75 = .ok (.iconst 1, 1) := by decide +kernel
theorem dX2_nextPlace_76 : decode cX2_nextPlace 76 = .ok (.isub, 1) := by decide +kernel
theorem dX2_nextPlace_77 : decode cX2_nextPlace 77 = .ok (.invokevirtual 54, 3) := by decide +kernel
theorem dX2_nextPlace_80 : decode cX2_nextPlace 80 = .ok (.ireturn, 1) := by decide +kernel
theorem dX2_nextPlace_81 : decode cX2_nextPlace 81 = .ok (.aload_n 0, 1) := by decide +kernel
theorem dX2_nextPlace_82 : decode cX2_nextPlace 82 = .ok (.getfield 35, 3) := by decide +kernel
theorem dX2_nextPlace_85 : decode cX2_nextPlace 85 = .ok (.ireturn, 1) := by decide +kernel
theorem dX2_nextPick_0 : decode cX2_nextPick 0 = .ok (.aload_n 0, 1) := by decide +kernel
theorem dX2_nextPick_1 : decode cX2_nextPick 1 = .ok (.getfield 35, 3) := by decide +kernel
theorem dX2_nextPick_4 : decode cX2_nextPick 4 = .ok (.ifCond .ne 5, 3) := by decide +kernel
theorem dX2_nextPick_7 : decode cX2_nextPick 7 = .ok (.iconst 0, 1) := by decide +kernel
theorem dX2_nextPick_8 : decode cX2_nextPick 8 = .ok (.ireturn, 1) := by decide +kernel
theorem dX2_nextPick_9 : decode cX2_nextPick 9 = .ok (.aload_n 0, 1) := by decide +kernel
theorem dX2_nextPick_10 : decode cX2_nextPick 10 = .ok (.getfield 35, 3) := by decide +kernel
theorem dX2_nextPick_13 : decode cX2_nextPick 13 = .ok (.iconst 1, 1) := by decide +kernel
theorem dX2_nextPick_14 : decode cX2_nextPick 14 = .ok (.if_icmp .gt 7, 3) := by decide +kernel
theorem dX2_nextPick_17 : decode cX2_nextPick 17 = .ok (.iload_n 1, 1) := by decide +kernel
theorem dX2_nextPick_18 : decode cX2_nextPick 18 = .ok (.ifCond .gt 5, 3) := by decide +kernel
theorem dX2_nextPick_21 : decode cX2_nextPick 21 = .ok (.iconst (-1), 1) := by decide +kernel
theorem dX2_nextPick_22 : decode cX2_nextPick 22 = .ok (.ireturn, 1) := by decide +kernel
theorem dX2_nextPick_23 : decode cX2_nextPick 23 = .ok (.iconst 1, 1) := by decide +kernel
theorem dX2_nextPick_24 : decode cX2_nextPick 24 = .ok (.aload_n 0, 1) := by decide +kernel
theorem dX2_nextPick_25 : decode cX2_nextPick 25 = .ok (.getfield 38, 3) := by decide +kernel
theorem dX2_nextPick_28 : decode cX2_nextPick 28 = .ok (.iload_n 1, 1) := by decide +kernel
theorem dX2_nextPick_29 : decode cX2_nextPick 29 = .ok (.i2l, 1) := by decide +kernel
theorem dX2_nextPick_30 : decode cX2_nextPick 30 = .ok (.invokestatic 58, 3) := by decide +kernel
theorem dX2_nextPick_33 : decode cX2_nextPick 33 = .ok (.l2i, 1) := by decide +kernel
theorem dX2_nextPick_34 : decode cX2_nextPick 34 = .ok (.iadd, 1) := by decide +kernel
theorem dX2_nextPick_35 : decode cX2_nextPick 35 = .ok (.ireturn, 1) := by decide +kernel
theorem dX2_take_0 : decode cX2_take 0 = .ok (.aload_n 1, 1) := by decide +kernel
theorem dX2_take_1 : decode cX2_take 1 = .ok (.getfield 45, 3) := by decide +kernel
theorem dX2_take_4 : decode cX2_take 4 = .ok (.tableswitch 78 1 5 #[36, 36, 44, 78, 52], 36) := by decide +kernel
theorem dX2_take_40 : decode cX2_take 40 = .ok (.aload_n 0, 1) := by decide +kernel
theorem dX2_take_41 : decode cX2_take 41 = .ok (.lload_n 2, 1) := by decide +kernel
theorem dX2_take_42 : decode cX2_take 42 = .ok (.putfield 38, 3) := by decide +kernel
theorem dX2_take_45 : decode cX2_take 45 = .ok (.goto 47, 3) := by decide +kernel
theorem dX2_take_48 : decode cX2_take 48 = .ok (.aload_n 0, 1) := by decide +kernel
theorem dX2_take_49 : decode cX2_take 49 = .ok (.lload_n 2, 1) := by decide +kernel
theorem dX2_take_50 : decode cX2_take 50 = .ok (.invokevirtual 64, 3) := by decide +kernel
theorem dX2_take_53 : decode cX2_take 53 = .ok (.goto 39, 3) := by decide +kernel
theorem dX2_take_56 : decode cX2_take 56 = .ok (.aload_n 0, 1) := by decide +kernel
theorem dX2_take_57 : decode cX2_take 57 = .ok (.aload_n 0, 1) := by decide +kernel
theorem dX2_take_58 : decode cX2_take 58 = .ok (.getfield 35, 3) := by decide +kernel
theorem dX2_take_61 : decode cX2_take 61 = .ok (.ifCond .ne 7, 3) := by decide +kernel
theorem dX2_take_64 : decode cX2_take 64 = .ok (.lload_n 2, 1) := by decide +kernel
theorem dX2_take_65 : decode cX2_take 65 = .ok (.goto 11, 3) := by decide +kernel
theorem dX2_take_68 : decode cX2_take 68 = .ok (.aload_n 0, 1) := by decide +kernel
theorem dX2_take_69 : decode cX2_take 69 = .ok (.getfield 38, 3) := by decide +kernel
theorem dX2_take_72 : decode cX2_take 72 = .ok (.lload_n 2, 1) := by decide +kernel
theorem dX2_take_73 : decode cX2_take 73 = .ok (.invokestatic 68, 3) := by decide +kernel
theorem dX2_take_76 : decode cX2_take 76 = .ok (.putfield 38, 3) := by decide +kernel
theorem dX2_take_79 : decode cX2_take 79 = .ok (.goto 13, 3) := by decide +kernel
theorem dX2_take_82 : decode cX2_take 82 = .ok (.aload_n 0, 1) := by decide +kernel
theorem dX2_take_83 : decode cX2_take 83 = .ok (.dup, 1) := by decide +kernel
theorem dX2_take_84 : decode cX2_take 84 = .ok (.getfield 38, 3) := by decide +kernel
theorem dX2_take_87 : decode cX2_take 87 = .ok (.lload_n 2, 1) := by decide +kernel
theorem dX2_take_88 : decode cX2_take 88 = .ok (.ladd, 1) := by decide +kernel
theorem dX2_take_89 : decode cX2_take 89 = .ok (.putfield 38, 3) := by decide +kernel
theorem dX2_take_92 : decode cX2_take 92 = .ok (.return_, 1) := by decide +kernel
theorem dX2_divide_0 : decode cX2_divide 0 = .ok (.aload_n 0, 1) := by decide +kernel
theorem dX2_divide_1 : decode cX2_divide 1 = .ok (.getfield 35, 3) := by decide +kernel
theorem dX2_divide_4 : decode cX2_divide 4 = .ok (.ifCond .ne 11, 3) := by decide +kernel
theorem dX2_divide_7 : decode cX2_divide 7 = .ok (.aload_n 0, 1) := by decide +kernel
theorem dX2_divide_8 : decode cX2_divide 8 = .ok (.lload_n 1, 1) := by decide +kernel
theorem dX2_divide_9 : decode cX2_divide 9 = .ok (.putfield 38, 3) := by decide +kernel
theorem dX2_divide_12 : decode cX2_divide 12 = .ok (.goto 27, 3) := by decide +kernel
theorem dX2_divide_15 : decode cX2_divide 15 = .ok (.lload_n 1, 1) := by decide +kernel
theorem dX2_divide_16 : decode cX2_divide 16 = .ok (.lconst 0, 1) := by decide +kernel
theorem dX2_divide_17 : decode cX2_divide 17 = .ok (.lcmp, 1) := by decide +kernel
theorem dX2_divide_18 : decode cX2_divide 18 = .ok (.ifCond .ne 11, 3) := by decide +kernel
theorem dX2_divide_21 : decode cX2_divide 21 = .ok (.aload_n 0, 1) := by decide +kernel
theorem dX2_divide_22 : decode cX2_divide 22 = .ok (.iconst 1, 1) := by decide +kernel
theorem dX2_divide_23 : decode cX2_divide 23 = .ok (.putfield 51, 3) := by decide +kernel
theorem dX2_divide_26 : decode cX2_divide 26 = .ok (.goto 13, 3) := by decide +kernel
theorem dX2_divide_29 : decode cX2_divide 29 = .ok (.aload_n 0, 1) := by decide +kernel
theorem dX2_divide_30 : decode cX2_divide 30 = .ok (.dup, 1) := by decide +kernel
theorem dX2_divide_31 : decode cX2_divide 31 = .ok (.getfield 38, 3) := by decide +kernel
theorem dX2_divide_34 : decode cX2_divide 34 = .ok (.lload_n 1, 1) := by decide +kernel
theorem dX2_divide_35 : decode cX2_divide 35 = .ok (.ldiv, 1) := by decide +kernel
theorem dX2_divide_36 : decode cX2_divide 36 = .ok (.putfield 38, 3) := by decide +kernel
theorem dX2_divide_39 : decode cX2_divide 39 = .ok (.return_, 1) := by decide +kernel
theorem dX2_notePlace_0 : decode cX2_notePlace 0 = .ok (.aload_n 0, 1) := by decide +kernel
theorem dX2_notePlace_1 : decode cX2_notePlace 1 = .ok (.getfield 35, 3) := by decide +kernel
theorem dX2_notePlace_4 : decode cX2_notePlace 4 = .ok (.aload_n 0, 1) := by decide +kernel
theorem dX2_notePlace_5 : decode cX2_notePlace 5 = .ok (.getfield 9, 3) := by decide +kernel
theorem dX2_notePlace_8 : decode cX2_notePlace 8 = .ok (.arraylength, 1) := by decide +kernel
theorem dX2_notePlace_9 : decode cX2_notePlace 9 = .ok (.if_icmp .ge 23, 3) := by decide +kernel
theorem dX2_notePlace_12 : decode cX2_notePlace 12 = .ok (.aload_n 0, 1) := by decide +kernel
theorem dX2_notePlace_13 : decode cX2_notePlace 13 = .ok (.getfield 9, 3) := by decide +kernel
theorem dX2_notePlace_16 : decode cX2_notePlace 16 = .ok (.aload_n 0, 1) := by decide +kernel
theorem dX2_notePlace_17 : decode cX2_notePlace 17 = .ok (.getfield 35, 3) := by decide +kernel
theorem dX2_notePlace_20 : decode cX2_notePlace 20 = .ok (.iload_n 1, 1) := by decide +kernel
theorem dX2_notePlace_21 : decode cX2_notePlace 21 = .ok (.iastore, 1) := by decide +kernel
theorem dX2_notePlace_22 : decode cX2_notePlace 22 = .ok (.aload_n 0, 1) := by decide +kernel
theorem dX2_notePlace_23 : decode cX2_notePlace 23 = .ok (.dup, 1) := by decide +kernel
theorem dX2_notePlace_24 : decode cX2_notePlace 24 = .ok (.getfield 35, 3) := by decide +kernel
theorem dX2_notePlace_27 : decode cX2_notePlace 27 = .ok (.iconst 1, 1) := by decide +kernel
theorem dX2_notePlace_28 : decode cX2_notePlace 28 = .ok (.iadd, 1) := by decide +kernel
theorem dX2_notePlace_29 : decode cX2_notePlace 29 = .ok (.putfield 35, 3) := by decide +kernel
theorem dX2_notePlace_32 : decode cX2_notePlace 32 = .ok (.return_, 1) := by decide +kernel
theorem dX2_result_0 : decode cX2_result 0 = .ok (.aload_n 1, 1) := by decide +kernel
theorem dX2_result_1 : decode cX2_result 1 = .ok (.getfield 45, 3) := by decide +kernel
theorem dX2_result_4 : decode cX2_result 4 = .ok (.iconst 4, 1) := by decide +kernel
theorem dX2_result_5 : decode cX2_result 5 = .ok (.if_icmp .ne 12, 3) := by decide +kernel
theorem dX2_result_8 : decode cX2_result 8 = .ok (.aload_n 0, 1) := by decide +kernel
theorem dX2_result_9 : decode cX2_result 9 = .ok (.getfield 38, 3) := by decide +kernel
theorem dX2_result_12 : decode cX2_result 12 = .ok (.lconst 1, 1) := by decide +kernel
theorem dX2_result_13 : decode cX2_result 13 = .ok (.land, 1) := by decide +kernel
theorem dX2_result_14 : decode cX2_result 14 = .ok (.goto 7, 3) := by decide +kernel
theorem dX2_result_17 : decode cX2_result 17 = .ok (.aload_n 0, 1) := by decide +kernel
theorem dX2_result_18 : decode cX2_result 18 = .ok (.getfield 38, 3) := by decide +kernel
theorem dX2_result_21 : decode cX2_result 21 = .ok (.lreturn, 1) := by decide +kernel
end
section
theorem dX3_init_0 : decode cX3_init 0 = .ok (.aload_n 0, 1) := by decide +kernel
theorem dX3_init_1 : decode cX3_init 1 = .ok (.invokespecial 3, 3) := by decide +kernel
theorem dX3_init_4 : decode cX3_init 4 = .ok (.aload_n 0, 1) := by decide +kernel
theorem dX3_init_5 : decode cX3_init 5 = .ok (.bipush 40, 2) := by decide +kernel
theorem dX3_init_7 : decode cX3_init 7 = .ok (.anewarray 9, 3) := by decide +kernel
theorem dX3_init_10 : decode cX3_init 10 = .ok (.putfield 11, 3) := by decide +kernel
theorem dX3_init_13 : decode cX3_init 13 = .ok (.aload_n 0, 1) := by decide +kernel
theorem dX3_init_14 : decode cX3_init 14 = .ok (.iconst 5, 1) := by decide +kernel
theorem dX3_init_15 : decode cX3_init 15 = .ok (.anewarray 15, 3) := by decide +kernel
theorem dX3_init_18 : decode cX3_init 18 = .ok (.putfield 17, 3) := by decide +kernel
theorem dX3_init_21 : decode cX3_init 21 = .ok (.iconst 0, 1) := by decide +kernel
theorem dX3_init_22 : decode cX3_init 22 = .ok (.istore_n 1, 1) := by decide +kernel
theorem dX3_init_23 : decode cX3_init 23 = .ok (.iload_n 1, 1) := by decide +kernel
theorem dX3_init_24 : decode cX3_init 24 = .ok (.aload_n 0, 1) := by decide +kernel
theorem dX3_init_25 : decode cX3_init 25 = .ok (.getfield 17, 3) := by decide +kernel
theorem dX3_init_28 : decode cX3_init 28 = .ok (.arraylength, 1) := by decide +kernel
theorem dX3_init_29 : decode cX3_init 29 = .ok (.if_icmp .ge 22, 3) := by decide +kernel
theorem dX3_init_32 : decode cX3_init 32 = .ok (.aload_n 0, 1) := by decide +kernel
theorem dX3_init_33 : decode cX3_init 33 = .ok (.getfield 17, 3) := by decide +kernel
theorem dX3_init_36 : decode cX3_init 36 = .ok (.iload_n 1, 1) := by decide +kernel
theorem dX3_init_37 : decode cX3_init 37 = .ok (.new 15, 3) := by decide +kernel
theorem dX3_init_40 : decode cX3_init 40 = .ok (.dup, 1) := by decide +kernel
theorem dX3_init_41 : decode cX3_init 41 = .ok (.invokespecial 21, 3) := by decide +kernel
theorem dX3_init_44 : decode cX3_init 44 = .ok (.aastore, 1) := by decide +kernel
theorem dX3_init_45 : decode cX3_init 45 = .ok (.iinc 1 1, 3) := by decide +kernel
theorem dX3_init_48 : decode cX3_init 48 = .ok (.goto (-25), 3) := by decide +kernel
theorem dX3_init_51 : decode cX3_init 51 = .ok (.aload_n 0, 1) := by decide +kernel
theorem dX3_init_52 : decode cX3_init 52 = .ok (.bipush 40, 2) := by decide +kernel
theorem dX3_init_54 : decode cX3_init 54 = .ok (.newarray .int, 2) := by decide +kernel
theorem dX3_init_56 : decode cX3_init 56 = .ok (.putfield 22, 3) := by decide +kernel
theorem dX3_init_59 : decode cX3_init 59 = .ok (.return_, 1) := by decide +kernel
theorem dX3_leaf_0 : decode cX3_leaf 0 = .ok (.aload_n 0, 1) := by decide +kernel
theorem dX3_leaf_1 : decode cX3_leaf 1 = .ok (.getfield 26, 3) := by decide +kernel
theorem dX3_leaf_4 : decode cX3_leaf 4 = .ok (.bipush 40, 2) := by decide +kernel
theorem dX3_leaf_6 : decode cX3_leaf 6 = .ok (.if_icmp .lt 5, 3) := by decide +kernel
theorem dX3_leaf_9 : decode cX3_leaf 9 = .ok (.iconst (-1), 1) := by decide +kernel
theorem dX3_leaf_10 : decode cX3_leaf 10 = .ok (.ireturn, 1) := by decide +kernel
theorem dX3_leaf_11 : decode cX3_leaf 11 = .ok (.new 9, 3) := by decide +kernel
theorem dX3_leaf_14 : decode cX3_leaf 14 = .ok (.dup, 1) := by decide +kernel
theorem dX3_leaf_15 : decode cX3_leaf 15 = .ok (.aload_n 0, 1) := by decide +kernel
theorem dX3_leaf_16 : decode cX3_leaf 16 = .ok (.getfield 26, 3) := by decide +kernel
theorem dX3_leaf_19 : decode cX3_leaf 19 = .ok (.iconst (-1), 1) := by decide +kernel
theorem dX3_leaf_20 : decode cX3_leaf 20 = .ok (.invokespecial 32, 3) := by decide +kernel
theorem dX3_leaf_23 : decode cX3_leaf 23 = .ok (.astore_n 3, 1) := by decide +kernel
theorem dX3_leaf_24 : decode cX3_leaf 24 = .ok (.aload_n 3, 1) := by decide +kernel
theorem dX3_leaf_25 : decode cX3_leaf 25 = .ok (.iconst 1, 1) := by decide +kernel
theorem dX3_leaf_26 : decode cX3_leaf 26 = .ok (.putfield 35, 3) := by decide +kernel
theorem dX3_leaf_29 : decode cX3_leaf 29 = .ok (.aload_n 3, 1) := by decide +kernel
theorem dX3_leaf_30 : decode cX3_leaf 30 = .ok (.lload_n 1, 1) := by decide +kernel
theorem dX3_leaf_31 : decode cX3_leaf 31 = .ok (.putfield 38, 3) := by decide +kernel
theorem dX3_leaf_34 : decode cX3_leaf 34 = .ok (.aload_n 3, 1) := by decide +kernel
theorem dX3_leaf_35 : decode cX3_leaf 35 = .ok (.aload_n 0, 1) := by decide +kernel
theorem dX3_leaf_36 : decode cX3_leaf 36 = .ok (.getfield 42, 3) := by decide +kernel
theorem dX3_leaf_39 : decode cX3_leaf 39 = .ok (.putfield 45, 3) := by decide +kernel
theorem dX3_leaf_42 : decode cX3_leaf 42 = .ok (.aload_n 0, 1) := by decide +kernel
theorem dX3_leaf_43 : decode cX3_leaf 43 = .ok (.aload_n 3, 1) := by decide +kernel
theorem dX3_leaf_44 : decode cX3_leaf 44 = .ok (.invokevirtual 48, 3) := by decide +kernel
theorem dX3_leaf_47 : decode cX3_leaf 47 = .ok (.ireturn, 1) := by decide +kernel
theorem dX3_key_0 : decode cX3_key 0 = .ok (.aload_n 0, 1) := by decide +kernel
theorem dX3_key_1 : decode cX3_key 1 = .ok (.getfield 26, 3) := by decide +kernel
theorem dX3_key_4 : decode cX3_key 4 = .ok (.bipush 40, 2) := by decide +kernel
theorem dX3_key_6 : decode cX3_key 6 = .ok (.if_icmp .ge 13, 3) := by decide +kernel
theorem dX3_key_9 : decode cX3_key 9 = .ok (.iload_n 1, 1) := by decide +kernel
theorem dX3_key_10 : decode cX3_key 10 = .ok (.ifCond .lt 9, 3) := by decide +kernel
theorem dX3_key_13 : decode cX3_key 13 = .ok (.iload_n 1, 1) := by decide +kernel
theorem dX3_key_14 : decode cX3_key 14 = .ok (.bipush 6, 2) := by decide +kernel
theorem dX3_key_16 : decode cX3_key 16 = .ok (.if_icmp .lt 5, 3) := by decide +kernel
theorem dX3_key_19 : decode cX3_key 19 = .ok (.iconst (-1), 1) := by decide +kernel
theorem dX3_key_20 : decode cX3_key 20 = .ok (.ireturn, 1) := by decide +kernel
theorem dX3_key_21 : decode cX3_key 21 = .ok (.aload_n 0, 1) := by decide +kernel
theorem dX3_key_22 : decode cX3_key 22 = .ok (.new 9, 3) := by decide +kernel
theorem dX3_key_25 : decode cX3_key 25 = .ok (.dup, 1) := by decide +kernel
theorem dX3_key_26 : decode cX3_key 26 = .ok (.aload_n 0, 1) := by decide +kernel
theorem dX3_key_27 : decode cX3_key 27 = .ok (.getfield 26, 3) := by decide +kernel
theorem dX3_key_30 : decode cX3_key 30 = .ok (.iload_n 1, 1) := by decide +kernel
theorem dX3_key_31 : decode cX3_key 31 = .ok (.invokespecial 32, 3) := by decide +kernel
theorem dX3_key_34 : decode cX3_key 34 = .ok (.invokevirtual 48, 3) := by decide +kernel
theorem dX3_key_37 : decode cX3_key 37 = .ok (.ireturn, 1) := by decide +kernel
theorem dX3_asks_0 : decode cX3_asks 0 = .ok (.aload_n 0, 1) := by decide +kernel
theorem dX3_asks_1 : decode cX3_asks 1 = .ok (.iload_n 1, 1) := by decide +kernel
theorem dX3_asks_2 : decode cX3_asks 2 = .ok (.invokevirtual 52, 3) := by decide +kernel
theorem dX3_asks_5 : decode cX3_asks 5 = .ok (.astore_n 3, 1) := by decide +kernel
theorem dX3_asks_6 : decode cX3_asks 6 = .ok (.aload_n 0, 1) := by decide +kernel
theorem dX3_asks_7 : decode cX3_asks 7 = .ok (.iload_n 2, 1) := by decide +kernel
theorem dX3_asks_8 : decode cX3_asks 8 = .ok (.invokevirtual 56, 3) := by decide +kernel
theorem dX3_asks_11 : decode cX3_asks 11 = .ok (.astore 4, 2) := by decide +kernel
theorem dX3_asks_13 : decode cX3_asks 13 = .ok (.aload_n 3, 1) := by decide +kernel
theorem dX3_asks_14 : decode cX3_asks 14 = .ok (.ifnull 17, 3) := by decide +kernel
theorem dX3_asks_17 : decode cX3_asks 17 = .ok (.aload 4, 2) := by decide +kernel
theorem dX3_asks_19 : decode cX3_asks 19 = .ok (.ifnull 12, 3) := by decide +kernel
theorem dX3_asks_22 : decode cX3_asks 22 = .ok (.aload_n 3, 1) := by decide +kernel
theorem dX3_asks_23 : decode cX3_asks 23 = .ok (.getfield 59, 3) := by decide +kernel
theorem dX3_asks_26 : decode cX3_asks 26 = .ok (.bipush 8, 2) := by decide +kernel
theorem dX3_asks_28 : decode cX3_asks 28 = .ok (.if_icmp .lt 5, 3) := by decide +kernel
theorem dX3_asks_31 : decode cX3_asks 31 = .ok (.iconst (-1), 1) := by decide +kernel
theorem dX3_asks_32 : decode cX3_asks 32 = .ok (.ireturn, 1) := by decide +kernel
theorem dX3_asks_33 : decode cX3_asks 33 = .ok (.aload 4, 2) := by decide +kernel
theorem dX3_asks_35 : decode cX3_asks 35 = .ok (.aload_n 3, 1) := by decide +kernel
theorem dX3_asks_36 : decode cX3_asks 36 = .ok (.invokevirtual 62, 3) := by decide +kernel
theorem dX3_asks_39 : decode cX3_asks 39 = .ok (.ifCond .eq 13, 3) := by decide +kernel
theorem dX3_asks_42 : decode cX3_asks 42 = .ok (.aload_n 0, 1) := by decide +kernel
theorem dX3_asks_43 : decode cX3_asks 43 = .ok (.aload_n 3, 1) := by decide +kernel
theorem dX3_asks_44 : decode cX3_asks 44 = .ok (.aload 4, 2) := by decide +kernel
theorem dX3_asks_46 : decode cX3_asks 46 = .ok (.invokevirtual 66, 3) := by decide +kernel
theorem dX3_asks_49 : decode cX3_asks 49 = .ok (.bipush (-2), 2) := by decide +kernel
theorem dX3_asks_51 : decode cX3_asks 51 = .ok (.ireturn, 1) := by decide +kernel
theorem dX3_asks_52 : decode cX3_asks 52 = .ok (.aload_n 3, 1) := by decide +kernel
theorem dX3_asks_53 : decode cX3_asks 53 = .ok (.getfield 70, 3) := by decide +kernel
theorem dX3_asks_56 : decode cX3_asks 56 = .ok (.aload_n 3, 1) := by decide +kernel
theorem dX3_asks_57 : decode cX3_asks 57 = .ok (.getfield 59, 3) := by decide +kernel
theorem dX3_asks_60 : decode cX3_asks 60 = .ok (.aload 4, 2) := by decide +kernel
theorem dX3_asks_62 : decode cX3_asks 62 = .ok (.aastore, 1) := by decide +kernel
theorem dX3_asks_63 : decode cX3_asks 63 = .ok (.aload_n 3, 1) := by decide +kernel
theorem dX3_asks_64 : decode cX3_asks 64 = .ok (.dup, 1) := by decide +kernel
theorem dX3_asks_65 : decode cX3_asks 65 = .ok (.getfield 59, 3) := by decide +kernel
theorem dX3_asks_68 : decode cX3_asks 68 = .ok (.iconst 1, 1) := by decide +kernel
theorem dX3_asks_69 : decode cX3_asks 69 = .ok (.iadd, 1) := by decide +kernel
theorem dX3_asks_70 : decode cX3_asks 70 = .ok (.putfield 59, 3) := by decide +kernel
theorem dX3_asks_73 : decode cX3_asks 73 = .ok (.aload_n 0, 1) := by decide +kernel
theorem dX3_asks_74 : decode cX3_asks 74 = .ok (.aload_n 3, 1) := by decide +kernel
theorem dX3_asks_75 : decode cX3_asks 75 = .ok (.aload 4, 2) := by decide +kernel
theorem dX3_asks_77 : decode cX3_asks 77 = .ok (.invokevirtual 73, 3) := by decide +kernel
theorem dX3_asks_80 : decode cX3_asks 80 = .ok (.aload_n 0, 1) := by decide +kernel
theorem dX3_asks_81 : decode cX3_asks 81 = .ok (.invokevirtual 76, 3) := by decide +kernel
theorem dX3_asks_84 : decode cX3_asks 84 = .ok (.aload_n 3, 1) := by decide +kernel
theorem dX3_asks_85 : decode cX3_asks 85 = .ok (.aload_n 0, 1) := by decide +kernel
theorem dX3_asks_86 : decode cX3_asks 86 = .ok (.getfield 42, 3) := by decide +kernel
theorem dX3_asks_89 : decode cX3_asks 89 = .ok (.putfield 79, 3) := by decide +kernel
theorem dX3_asks_92 : decode cX3_asks 92 = .ok (.iconst 1, 1) := by decide +kernel
theorem dX3_asks_93 : decode cX3_asks 93 = .ok (.ireturn, 1) := by decide +kernel
theorem dX3_ring_0 : decode cX3_ring 0 = .ok (.iload_n 1, 1) := by decide +kernel
theorem dX3_ring_1 : decode cX3_ring 1 = .ok (.ifCond .lt 11, 3) := by decide +kernel
theorem dX3_ring_4 : decode cX3_ring 4 = .ok (.iload_n 1, 1) := by decide +kernel
theorem dX3_ring_5 : decode cX3_ring 5 = .ok (.aload_n 0, 1) := by decide +kernel
theorem dX3_ring_6 : decode cX3_ring 6 = .ok (.getfield 82, 3) := by decide +kernel
theorem dX3_ring_9 : decode cX3_ring 9 = .ok (.if_icmp .lt 7, 3) := by decide +kernel
theorem dX3_ring_12 : decode cX3_ring 12 = .ok (.iconst (-1), 1) := by decide +kernel
theorem dX3_ring_13 : decode cX3_ring 13 = .ok (.goto 9, 3) := by decide +kernel
theorem dX3_ring_16 : decode cX3_ring 16 = .ok (.aload_n 0, 1) := by decide +kernel
theorem dX3_ring_17 : decode cX3_ring 17 = .ok (.getfield 22, 3) := by decide +kernel
theorem dX3_ring_20 : decode cX3_ring 20 = .ok (.iload_n 1, 1) := by decide +kernel
theorem dX3_ring_21 : decode cX3_ring 21 = .ok (.iaload, 1) := by decide +kernel
theorem dX3_ring_22 : decode cX3_ring 22 = .ok (.ireturn, 1) := by decide +kernel
theorem dX3_change_0 : decode cX3_change 0 = .ok (.aload_n 0, 1) := by decide +kernel
theorem dX3_change_1 : decode cX3_change 1 = .ok (.iload_n 1, 1) := by decide +kernel
theorem dX3_change_2 : decode cX3_change 2 = .ok (.invokevirtual 56, 3) := by decide +kernel
theorem dX3_change_5 : decode cX3_change 5 = .ok (.astore 4, 2) := by decide +kernel
theorem dX3_change_7 : decode cX3_change 7 = .ok (.aload 4, 2) := by decide +kernel
theorem dX3_change_9 : decode cX3_change 9 = .ok (.ifnull 11, 3) := by decide +kernel
theorem dX3_change_12 : decode cX3_change 12 = .ok (.aload 4, 2) := by decide +kernel
theorem dX3_change_14 : decode cX3_change 14 = .ok (.invokevirtual 85, 3) := by decide +kernel
theorem dX3_change_17 : decode cX3_change 17 = .ok (.ifCond .ne 5, 3) := by decide +kernel
theorem dX3_change_20 : decode cX3_change 20 = .ok (.iconst (-1), 1) := by decide +kernel
theorem dX3_change_21 : decode cX3_change 21 = .ok (.ireturn, 1) := by decide +kernel
theorem dX3_change_22 : decode cX3_change 22 = .ok (.aload 4, 2) := by decide +kernel
theorem dX3_change_24 : decode cX3_change 24 = .ok (.getfield 38, 3) := by decide +kernel
theorem dX3_change_27 : decode cX3_change 27 = .ok (.lload_n 2, 1) := by decide +kernel
theorem dX3_change_28 : decode cX3_change 28 = .ok (.lcmp, 1) := by decide +kernel
theorem dX3_change_29 : decode cX3_change 29 = .ok (.ifCond .eq 22, 3) := by decide +kernel
theorem dX3_change_32 : decode cX3_change 32 = .ok (.aload_n 0, 1) := by decide +kernel
theorem dX3_change_33 : decode cX3_change 33 = .ok (.invokevirtual 76, 3) := by decide +kernel
theorem dX3_change_36 : decode cX3_change 36 = .ok (.aload 4, 2) := by decide +kernel
theorem dX3_change_38 : decode cX3_change 38 = .ok (.lload_n 2, 1) := by decide +kernel
theorem dX3_change_39 : decode cX3_change 39 = .ok (.putfield 38, 3) := by decide +kernel
theorem dX3_change_42 : decode cX3_change 42 = .ok (.aload 4, 2) := by decide +kernel
theorem dX3_change_44 : decode cX3_change 44 = .ok (.aload_n 0, 1) := by decide +kernel
theorem dX3_change_45 : decode cX3_change 45 = .ok (.getfield 42, 3) := by decide +kernel
theorem dX3_change_48 : decode cX3_change 48 = .ok (.putfield 45, 3) := by decide +kernel
theorem dX3_change_51 : decode cX3_change 51 = .ok (.aload_n 0, 1) := by decide +kernel
theorem dX3_change_52 : decode cX3_change 52 = .ok (.getfield 42, 3) := by decide +kernel
theorem dX3_change_55 : decode cX3_change 55 = .ok (.ireturn, 1) := by decide +kernel
theorem dX3_spoil_0 : decode cX3_spoil 0 = .ok (.aload_n 0, 1) := by decide +kernel
theorem dX3_spoil_1 : decode cX3_spoil 1 = .ok (.iload_n 1, 1) := by decide +kernel
theorem dX3_spoil_2 : decode cX3_spoil 2 = .ok (.invokevirtual 52, 3) := by decide +kernel
theorem dX3_spoil_5 : decode cX3_spoil 5 = .ok (.astore_n 3, 1) := by decide +kernel
theorem dX3_spoil_6 : decode cX3_spoil 6 = .ok (.aload_n 3, 1) := by decide +kernel
theorem dX3_spoil_7 : decode cX3_spoil 7 = .ok (.ifnonnull 5, 3) := by decide +kernel
theorem dX3_spoil_10 : decode cX3_spoil 10 = .ok (.iconst (-1), 1) := by decide +kernel
theorem dX3_spoil_11 : decode cX3_spoil 11 = .ok (.ireturn, 1) := by decide +kernel
theorem dX3_spoil_12 : decode cX3_spoil 12 = .ok (.aload_n 3, 1) := by decide +kernel
theorem dX3_spoil_13 : decode cX3_spoil 13 = .ok (.getfield 89, 3) := by decide +kernel
theorem dX3_spoil_16 : decode cX3_spoil 16 = .ok (.iload_n 2, 1) := by decide +kernel
theorem dX3_spoil_17 : decode cX3_spoil 17 = .ok (.if_icmp .eq 20, 3) := by decide +kernel
theorem dX3_spoil_20 : decode cX3_spoil 20 = .ok (.aload_n 0, 1) := by decide +kernel
theorem dX3_spoil_21 : decode cX3_spoil 21 = .ok (.invokevirtual 76, 3) := by decide +kernel
theorem dX3_spoil_24 : decode cX3_spoil 24 = .ok (.aload_n 3, 1) := by decide +kernel
theorem dX3_spoil_25 : decode cX3_spoil 25 = .ok (.iload_n 2, 1) := by decide +kernel
theorem dX3_spoil_26 : decode cX3_spoil 26 = .ok (.putfield 89, 3) := by decide +kernel
theorem dX3_spoil_29 : decode cX3_spoil 29 = .ok (.aload_n 3, 1) := by decide +kernel
theorem dX3_spoil_30 : decode cX3_spoil 30 = .ok (.aload_n 0, 1) := by decide +kernel
theorem dX3_spoil_31 : decode cX3_spoil 31 = .ok (.getfield 42, 3) := by decide +kernel
theorem dX3_spoil_34 : decode cX3_spoil 34 = .ok (.putfield 79, 3) := by decide +kernel
theorem dX3_spoil_37 : decode cX3_spoil 37 = .ok (.aload_n 0, 1) := by decide +kernel
theorem dX3_spoil_38 : decode cX3_spoil 38 = .ok (.getfield 42, 3) := by decide +kernel
theorem dX3_spoil_41 : decode cX3_spoil 41 = .ok (.ireturn, 1) := by decide +kernel
theorem dX3_begin_0 : decode cX3_begin 0 = .ok (.aload_n 0, 1) := by decide +kernel
theorem dX3_begin_1 : decode cX3_begin 1 = .ok (.iload_n 2, 1) := by decide +kernel
theorem dX3_begin_2 : decode cX3_begin 2 = .ok (.invokevirtual 56, 3) := by decide +kernel
theorem dX3_begin_5 : decode cX3_begin 5 = .ok (.astore_n 3, 1) := by decide +kernel
theorem dX3_begin_6 : decode cX3_begin 6 = .ok (.iload_n 1, 1) := by decide +kernel
theorem dX3_begin_7 : decode cX3_begin 7 = .ok (.invokestatic 93, 3) := by decide +kernel
theorem dX3_begin_10 : decode cX3_begin 10 = .ok (.ifCond .eq 19, 3) := by decide +kernel
theorem dX3_begin_13 : decode cX3_begin 13 = .ok (.aload_n 3, 1) := by decide +kernel
theorem dX3_begin_14 : decode cX3_begin 14 = .ok (.ifnull 15, 3) := by decide +kernel
theorem dX3_begin_17 : decode cX3_begin 17 = .ok (.aload_n 0, 1) := by decide +kernel
theorem dX3_begin_18 : decode cX3_begin 18 = .ok (.getfield 17, 3) := by decide +kernel
theorem dX3_begin_21 : decode cX3_begin 21 = .ok (.iload_n 1, 1) := by decide +kernel
theorem dX3_begin_22 : decode cX3_begin 22 = .ok (.aaload, 1) := by decide +kernel
theorem dX3_begin_23 : decode cX3_begin 23 = .ok (.getfield 97, 3) := by decide +kernel
theorem dX3_begin_26 : decode cX3_begin 26 = .ok (.ifCond .le 5, 3) := by decide +kernel
theorem dX3_begin_29 : decode cX3_begin 29 = .ok (.iconst (-1), 1) := by decide +kernel
theorem dX3_begin_30 : decode cX3_begin 30 = .ok (.ireturn, 1) := by decide +kernel
theorem dX3_begin_31 : decode cX3_begin 31 = .ok (.aload_n 0, 1) := by decide +kernel
theorem dX3_begin_32 : decode cX3_begin 32 = .ok (.aload_n 3, 1) := by decide +kernel
theorem dX3_begin_33 : decode cX3_begin 33 = .ok (.invokevirtual 100, 3) := by decide +kernel
theorem dX3_begin_36 : decode cX3_begin 36 = .ok (.ifCond .eq 5, 3) := by decide +kernel
theorem dX3_begin_39 : decode cX3_begin 39 = .ok (.iconst 0, 1) := by decide +kernel
theorem dX3_begin_40 : decode cX3_begin 40 = .ok (.ireturn, 1) := by decide +kernel
theorem dX3_begin_41 : decode cX3_begin 41 = .ok (.aload_n 3, 1) := by decide +kernel
theorem dX3_begin_42 : decode cX3_begin 42 = .ok (.getfield 103, 3) := by decide +kernel
theorem dX3_begin_45 : decode cX3_begin 45 = .ok (.ifCond .eq 6, 3) := by decide +kernel
theorem dX3_begin_48 : decode cX3_begin 48 = .ok (.bipush (-2), 2) := by decide +kernel
theorem dX3_begin_50 : decode cX3_begin 50 = .ok (.ireturn, 1) := by decide +kernel
theorem dX3_begin_51 : decode cX3_begin 51 = .ok (.aload_n 0, 1) := by decide +kernel
theorem dX3_begin_52 : decode cX3_begin 52 = .ok (.getfield 17, 3) := by decide +kernel
theorem dX3_begin_55 : decode cX3_begin 55 = .ok (.iload_n 1, 1) := by decide +kernel
theorem dX3_begin_56 : decode cX3_begin 56 = .ok (.aaload, 1) := by decide +kernel
theorem dX3_begin_57 : decode cX3_begin 57 = .ok (.aload_n 3, 1) := by decide +kernel
theorem dX3_begin_58 : decode cX3_begin 58 = .ok (.invokevirtual 106, 3) := by decide +kernel
theorem dX3_begin_61 : decode cX3_begin 61 = .ok (.iconst 1, 1) := by decide +kernel
theorem dX3_begin_62 : decode cX3_begin 62 = .ok (.ireturn, 1) := by decide +kernel
theorem dX3_step_0 : decode cX3_step 0 = .ok (.iload_n 1, 1) := by decide +kernel
theorem dX3_step_1 : decode cX3_step 1 = .ok (.invokestatic 93, 3) := by decide +kernel
theorem dX3_step_4 : decode cX3_step 4 = .ok (.ifCond .eq 16, 3) := by decide +kernel
theorem dX3_step_7 : decode cX3_step 7 = .ok (.aload_n 0, 1) := by decide +kernel
theorem dX3_step_8 : decode cX3_step 8 = .ok (.aload_n 0, 1) := by decide +kernel
theorem dX3_step_9 : decode cX3_step 9 = .ok (.getfield 17, 3) := by decide +kernel
theorem dX3_step_12 : decode cX3_step 12 = .ok (.iload_n 1, 1) := by decide +kernel
theorem dX3_step_13 : decode cX3_step 13 = .ok (.aaload, 1) := by decide +kernel
theorem dX3_step_14 : decode cX3_step 14 = .ok (.invokevirtual 110, 3) := by decide +kernel
theorem dX3_step_17 : decode cX3_step 17 = .ok (.goto 4, 3) := by decide +kernel
theorem dX3_step_20 : decode cX3_step 20 = .ok (.iconst (-1), 1) := by decide +kernel
theorem dX3_step_21 : decode cX3_step 21 = .ok (.ireturn, 1) := by decide +kernel
theorem dX3_cancel_0 : decode cX3_cancel 0 = .ok (.aload_n 0, 1) := by decide +kernel
theorem dX3_cancel_1 : decode cX3_cancel 1 = .ok (.invokevirtual 114, 3) := by decide +kernel
theorem dX3_cancel_4 : decode cX3_cancel 4 = .ok (.ireturn, 1) := by decide +kernel
theorem dX3_run_0 : decode cX3_run 0 = .ok (.aload_n 0, 1) := by decide +kernel
theorem dX3_run_1 : decode cX3_run 1 = .ok (.iload_n 1, 1) := by decide +kernel
theorem dX3_run_2 : decode cX3_run 2 = .ok (.invokevirtual 56, 3) := by decide +kernel
theorem dX3_run_5 : decode cX3_run 5 = .ok (.astore_n 2, 1) := by decide +kernel
theorem dX3_run_6 : decode cX3_run 6 = .ok (.aload_n 2, 1) := by decide +kernel
theorem dX3_run_7 : decode cX3_run 7 = .ok (.ifnonnull 5, 3) := by decide +kernel
theorem dX3_run_10 : decode cX3_run 10 = .ok (.iconst (-1), 1) := by decide +kernel
theorem dX3_run_11 : decode cX3_run 11 = .ok (.ireturn, 1) := by decide +kernel
theorem dX3_run_12 : decode cX3_run 12 = .ok (.aload_n 0, 1) := by decide +kernel
theorem dX3_run_13 : decode cX3_run 13 = .ok (.aload_n 2, 1) := by decide +kernel
theorem dX3_run_14 : decode cX3_run 14 = .ok (.invokevirtual 100, 3) := by decide +kernel
theorem dX3_run_17 : decode cX3_run 17 = .ok (.ifCond .eq 8, 3) := by decide +kernel
theorem dX3_run_20 : decode cX3_run 20 = .ok (.aload_n 2, 1) := by decide +kernel
theorem dX3_run_21 : decode cX3_run 21 = .ok (.getfield 35, 3) := by decide +kernel
theorem dX3_run_24 : decode cX3_run 24 = .ok (.ireturn, 1) := by decide +kernel
theorem dX3_run_25 : decode cX3_run 25 = .ok (.aload_n 2, 1) := by decide +kernel
theorem dX3_run_26 : decode cX3_run 26 = .ok (.getfield 103, 3) := by decide +kernel
theorem dX3_run_29 : decode cX3_run 29 = .ok (.ifCond .eq 6, 3) := by decide +kernel
theorem dX3_run_32 : decode cX3_run 32 = .ok (.bipush (-2), 2) := by decide +kernel
theorem dX3_run_34 : decode cX3_run 34 = .ok (.ireturn, 1) := by decide +kernel
theorem dX3_run_35 : decode cX3_run 35 = .ok (.aload_n 0, 1) := by decide +kernel
theorem dX3_run_36 : decode cX3_run 36 = .ok (.aload_n 2, 1) := by decide +kernel
theorem dX3_run_37 : decode cX3_run 37 = .ok (.invokevirtual 118, 3) := by decide +kernel
theorem dX3_run_40 : decode cX3_run 40 = .ok (.ireturn, 1) := by decide +kernel
theorem dX3_state_0 : decode cX3_state 0 = .ok (.aload_n 0, 1) := by decide +kernel
theorem dX3_state_1 : decode cX3_state 1 = .ok (.iload_n 1, 1) := by decide +kernel
theorem dX3_state_2 : decode cX3_state 2 = .ok (.invokevirtual 56, 3) := by decide +kernel
theorem dX3_state_5 : decode cX3_state 5 = .ok (.astore_n 2, 1) := by decide +kernel
theorem dX3_state_6 : decode cX3_state 6 = .ok (.aload_n 2, 1) := by decide +kernel
theorem dX3_state_7 : decode cX3_state 7 = .ok (.ifnull 11, 3) := by decide +kernel
theorem dX3_state_10 : decode cX3_state 10 = .ok (.aload_n 0, 1) := by decide +kernel
theorem dX3_state_11 : decode cX3_state 11 = .ok (.aload_n 2, 1) := by decide +kernel
theorem dX3_state_12 : decode cX3_state 12 = .ok (.invokevirtual 100, 3) := by decide +kernel
theorem dX3_state_15 : decode cX3_state 15 = .ok (.ifCond .ne 7, 3) := by decide +kernel
theorem dX3_state_18 : decode cX3_state 18 = .ok (.iconst 0, 1) := by decide +kernel
theorem dX3_state_19 : decode cX3_state 19 = .ok (.goto 7, 3) := by decide +kernel
theorem dX3_state_22 : decode cX3_state 22 = .ok (.aload_n 2, 1) := by decide +kernel
theorem dX3_state_23 : decode cX3_state 23 = .ok (.getfield 35, 3) := by decide +kernel
theorem dX3_state_26 : decode cX3_state 26 = .ok (.ireturn, 1) := by decide +kernel
theorem dX3_value_0 : decode cX3_value 0 = .ok (.aload_n 0, 1) := by decide +kernel
theorem dX3_value_1 : decode cX3_value 1 = .ok (.iload_n 1, 1) := by decide +kernel
theorem dX3_value_2 : decode cX3_value 2 = .ok (.invokevirtual 56, 3) := by decide +kernel
theorem dX3_value_5 : decode cX3_value 5 = .ok (.astore_n 2, 1) := by decide +kernel
theorem dX3_value_6 : decode cX3_value 6 = .ok (.aload_n 2, 1) := by decide +kernel
theorem dX3_value_7 : decode cX3_value 7 = .ok (.ifnonnull 13, 3) := by decide +kernel
theorem dX3_value_10 : decode cX3_value 10 = .ok (.new 121, 3) := by decide +kernel
theorem dX3_value_13 : decode cX3_value 13 = .ok (.dup, 1) := by decide +kernel
theorem dX3_value_14 : decode cX3_value 14 = .ok (.ldc 123, 2) := by decide +kernel
theorem dX3_value_16 : decode cX3_value 16 = .ok (.invokespecial 125, 3) := by decide +kernel
theorem dX3_value_19 : decode cX3_value 19 = .ok (.athrow, 1) := by decide +kernel
theorem dX3_value_20 : decode cX3_value 20 = .ok (.aload_n 0, 1) := by decide +kernel
theorem dX3_value_21 : decode cX3_value 21 = .ok (.aload_n 2, 1) := by decide +kernel
theorem dX3_value_22 : decode cX3_value 22 = .ok (.invokevirtual 100, 3) := by decide +kernel
theorem dX3_value_25 : decode cX3_value 25 = .ok (.ifCond .eq 11, 3) := by decide +kernel
theorem dX3_value_28 : decode cX3_value 28 = .ok (.aload_n 2, 1) := by decide +kernel
theorem dX3_value_29 : decode cX3_value 29 = .ok (.getfield 35, 3) := by decide +kernel
theorem dX3_value_32 : decode cX3_value 32 = .ok (.iconst 1, 1) := by decide +kernel
theorem dX3_value_33 : decode cX3_value 33 = .ok (.if_icmp .eq 13, 3) := by decide +kernel
theorem dX3_value_36 : decode cX3_value 36 = .ok (.new 128, 3) := by decide +kernel
theorem dX3_value_39 : decode cX3_value 39 = .ok (.dup, 1) := by decide +kernel
theorem dX3_value_40 : decode cX3_value 40 = .ok (.ldc 130, 2) := by decide +kernel
theorem dX3_value_42 : decode cX3_value 42 = .ok (.invokespecial 132, 3) := by decide +kernel
theorem dX3_value_45 : decode cX3_value 45 = .ok (.athrow, 1) := by decide +kernel
theorem dX3_value_46 : decode cX3_value 46 = .ok (.aload_n 2, 1) := by decide +kernel
theorem dX3_value_47 : decode cX3_value 47 = .ok (.getfield 38, 3) := by decide +kernel
theorem dX3_value_50 : decode cX3_value 50 = .ok (.lreturn, 1) := by decide +kernel
theorem dX3_worked_0 : decode cX3_worked 0 = .ok (.aload_n 0, 1) := by decide +kernel
theorem dX3_worked_1 : decode cX3_worked 1 = .ok (.iload_n 1, 1) := by decide +kernel
theorem dX3_worked_2 : decode cX3_worked 2 = .ok (.invokevirtual 56, 3) := by decide +kernel
theorem dX3_worked_5 : decode cX3_worked 5 = .ok (.astore_n 2, 1) := by decide +kernel
theorem dX3_worked_6 : decode cX3_worked 6 = .ok (.aload_n 2, 1) := by decide +kernel
theorem dX3_worked_7 : decode cX3_worked 7 = .ok (.ifnonnull 7, 3) := by decide +kernel
theorem dX3_worked_10 : decode cX3_worked 10 = .ok (.iconst 0, 1) := by decide +kernel
theorem dX3_worked_11 : decode cX3_worked 11 = .ok (.goto 7, 3) := by decide +kernel
theorem dX3_worked_14 : decode cX3_worked 14 = .ok (.aload_n 2, 1) := by decide +kernel
theorem dX3_worked_15 : decode cX3_worked 15 = .ok (.getfield 133, 3) := by decide +kernel
theorem dX3_worked_18 : decode cX3_worked 18 = .ok (.ireturn, 1) := by decide +kernel
theorem dX3_kept_0 : decode cX3_kept 0 = .ok (.aload_n 0, 1) := by decide +kernel
theorem dX3_kept_1 : decode cX3_kept 1 = .ok (.iload_n 1, 1) := by decide +kernel
theorem dX3_kept_2 : decode cX3_kept 2 = .ok (.invokevirtual 56, 3) := by decide +kernel
theorem dX3_kept_5 : decode cX3_kept 5 = .ok (.astore_n 2, 1) := by decide +kernel
theorem dX3_kept_6 : decode cX3_kept 6 = .ok (.aload_n 2, 1) := by decide +kernel
theorem dX3_kept_7 : decode cX3_kept 7 = .ok (.ifnonnull 7, 3) := by decide +kernel
theorem dX3_kept_10 : decode cX3_kept 10 = .ok (.iconst 0, 1) := by decide +kernel
theorem dX3_kept_11 : decode cX3_kept 11 = .ok (.goto 7, 3) := by decide +kernel
theorem dX3_kept_14 : decode cX3_kept 14 = .ok (.aload_n 2, 1) := by decide +kernel
theorem dX3_kept_15 : decode cX3_kept 15 = .ok (.getfield 136, 3) := by decide +kernel
theorem dX3_kept_18 : decode cX3_kept 18 = .ok (.ireturn, 1) := by decide +kernel
theorem dX3_changed_0 : decode cX3_changed 0 = .ok (.aload_n 0, 1) := by decide +kernel
theorem dX3_changed_1 : decode cX3_changed 1 = .ok (.iload_n 1, 1) := by decide +kernel
theorem dX3_changed_2 : decode cX3_changed 2 = .ok (.invokevirtual 56, 3) := by decide +kernel
theorem dX3_changed_5 : decode cX3_changed 5 = .ok (.astore_n 2, 1) := by decide +kernel
theorem dX3_changed_6 : decode cX3_changed 6 = .ok (.aload_n 2, 1) := by decide +kernel
theorem dX3_changed_7 : decode cX3_changed 7 = .ok (.ifnull 17, 3) := by decide +kernel
theorem dX3_changed_10 : decode cX3_changed 10 = .ok (.aload_n 2, 1) := by decide +kernel
theorem dX3_changed_11 : decode cX3_changed 11 = .ok (.invokevirtual 85, 3) := by decide +kernel
theorem dX3_changed_14 : decode cX3_changed 14 = .ok (.ifCond .ne 14, 3) := by decide +kernel
theorem dX3_changed_17 : decode cX3_changed 17 = .ok (.aload_n 2, 1) := by decide +kernel
theorem dX3_changed_18 : decode cX3_changed 18 = .ok (.getfield 139, 3) := by decide +kernel
theorem dX3_changed_21 : decode cX3_changed 21 = .ok (.ifCond .ne 7, 3) := by decide +kernel
theorem dX3_changed_24 : decode cX3_changed 24 = .ok (.iconst (-1), 1) := by decide +kernel
theorem dX3_changed_25 : decode cX3_changed 25 = .ok (.goto 7, 3) := by decide +kernel
theorem dX3_changed_28 : decode cX3_changed 28 = .ok (.aload_n 2, 1) := by decide +kernel
theorem dX3_changed_29 : decode cX3_changed 29 = .ok (.getfield 45, 3) := by decide +kernel
theorem dX3_changed_32 : decode cX3_changed 32 = .ok (.ireturn, 1) := by decide +kernel
theorem dX3_asked_0 : decode cX3_asked 0 = .ok (.aload_n 0, 1) := by decide +kernel
theorem dX3_asked_1 : decode cX3_asked 1 = .ok (.iload_n 1, 1) := by decide +kernel
theorem dX3_asked_2 : decode cX3_asked 2 = .ok (.invokevirtual 56, 3) := by decide +kernel
theorem dX3_asked_5 : decode cX3_asked 5 = .ok (.astore_n 3, 1) := by decide +kernel
theorem dX3_asked_6 : decode cX3_asked 6 = .ok (.aload_n 3, 1) := by decide +kernel
theorem dX3_asked_7 : decode cX3_asked 7 = .ok (.ifnull 10, 3) := by decide +kernel
theorem dX3_asked_10 : decode cX3_asked 10 = .ok (.aload_n 3, 1) := by decide +kernel
theorem dX3_asked_11 : decode cX3_asked 11 = .ok (.getfield 139, 3) := by decide +kernel
theorem dX3_asked_14 : decode cX3_asked 14 = .ok (.ifCond .ne 7, 3) := by decide +kernel
theorem dX3_asked_17 : decode cX3_asked 17 = .ok (.iconst (-1), 1) := by decide +kernel
theorem dX3_asked_18 : decode cX3_asked 18 = .ok (.goto 8, 3) := by decide +kernel
theorem dX3_asked_21 : decode cX3_asked 21 = .ok (.aload_n 3, 1) := by decide +kernel
theorem dX3_asked_22 : decode cX3_asked 22 = .ok (.iload_n 2, 1) := by decide +kernel
theorem dX3_asked_23 : decode cX3_asked 23 = .ok (.invokevirtual 142, 3) := by decide +kernel
theorem dX3_asked_26 : decode cX3_asked 26 = .ok (.ireturn, 1) := by decide +kernel
theorem dX3_drop_0 : decode cX3_drop 0 = .ok (.aload_n 0, 1) := by decide +kernel
theorem dX3_drop_1 : decode cX3_drop 1 = .ok (.iload_n 1, 1) := by decide +kernel
theorem dX3_drop_2 : decode cX3_drop 2 = .ok (.invokevirtual 56, 3) := by decide +kernel
theorem dX3_drop_5 : decode cX3_drop 5 = .ok (.astore_n 2, 1) := by decide +kernel
theorem dX3_drop_6 : decode cX3_drop 6 = .ok (.aload_n 2, 1) := by decide +kernel
theorem dX3_drop_7 : decode cX3_drop 7 = .ok (.ifnull 10, 3) := by decide +kernel
theorem dX3_drop_10 : decode cX3_drop 10 = .ok (.aload_n 2, 1) := by decide +kernel
theorem dX3_drop_11 : decode cX3_drop 11 = .ok (.getfield 139, 3) := by decide +kernel
theorem dX3_drop_14 : decode cX3_drop 14 = .ok (.ifCond .ne 5, 3) := by decide +kernel
theorem dX3_drop_17 : decode cX3_drop 17 = .ok (.iconst 0, 1) := by decide +kernel
theorem dX3_drop_18 : decode cX3_drop 18 = .ok (.ireturn, 1) := by decide +kernel
theorem dX3_drop_19 : decode cX3_drop 19 = .ok (.aload_n 2, 1) := by decide +kernel
theorem dX3_drop_20 : decode cX3_drop 20 = .ok (.iconst 0, 1) := by decide +kernel
theorem dX3_drop_21 : decode cX3_drop 21 = .ok (.putfield 139, 3) := by decide +kernel
theorem dX3_drop_24 : decode cX3_drop 24 = .ok (.aload_n 0, 1) := by decide +kernel
theorem dX3_drop_25 : decode cX3_drop 25 = .ok (.invokevirtual 114, 3) := by decide +kernel
theorem dX3_drop_28 : decode cX3_drop 28 = .ok (.pop, 1) := by decide +kernel
theorem dX3_drop_29 : decode cX3_drop 29 = .ok (.iconst 1, 1) := by decide +kernel
theorem dX3_drop_30 : decode cX3_drop 30 = .ok (.ireturn, 1) := by decide +kernel
theorem dX3_version_0 : decode cX3_version 0 = .ok (.aload_n 0, 1) := by decide +kernel
theorem dX3_version_1 : decode cX3_version 1 = .ok (.getfield 42, 3) := by decide +kernel
theorem dX3_version_4 : decode cX3_version 4 = .ok (.ireturn, 1) := by decide +kernel
theorem dX3_addKey_0 : decode cX3_addKey 0 = .ok (.aload_n 0, 1) := by decide +kernel
theorem dX3_addKey_1 : decode cX3_addKey 1 = .ok (.getfield 11, 3) := by decide +kernel
theorem dX3_addKey_4 : decode cX3_addKey 4 = .ok (.aload_n 0, 1) := by decide +kernel
theorem dX3_addKey_5 : decode cX3_addKey 5 = .ok (.getfield 26, 3) := by decide +kernel
theorem dX3_addKey_8 : decode cX3_addKey 8 = .ok (.aload_n 1, 1) := by decide +kernel
theorem dX3_addKey_9 : decode cX3_addKey 9 = .ok (.aastore, 1) := by decide +kernel
theorem dX3_addKey_10 : decode cX3_addKey 10 = .ok (.aload_n 0, 1) := by decide +kernel
theorem dX3_addKey_11 : decode cX3_addKey 11 = .ok (.dup, 1) := by decide +kernel
theorem dX3_addKey_12 : decode cX3_addKey 12 = .ok (.getfield 26, 3) := by decide +kernel
theorem dX3_addKey_15 : decode cX3_addKey 15 = .ok (.iconst 1, 1) := by decide +kernel
theorem dX3_addKey_16 : decode cX3_addKey 16 = .ok (.iadd, 1) := by decide +kernel
theorem dX3_addKey_17 : decode cX3_addKey 17 = .ok (.putfield 26, 3) := by decide +kernel
end
section
theorem dX3_addKey_20 : decode cX3_addKey 20 = .ok (.aload_n 1, 1) := by decide +kernel
theorem dX3_addKey_21 : decode cX3_addKey 21 = .ok (.getfield 146, 3) := by decide +kernel
theorem dX3_addKey_24 : decode cX3_addKey 24 = .ok (.ireturn, 1) := by decide +kernel
theorem dX3_keyAt_0 : decode cX3_keyAt 0 = .ok (.iload_n 1, 1) := by decide +kernel
theorem dX3_keyAt_1 : decode cX3_keyAt 1 = .ok (.ifCond .lt 11, 3) := by decide +kernel
theorem dX3_keyAt_4 : decode cX3_keyAt 4 = .ok (.iload_n 1, 1) := by decide +kernel
theorem dX3_keyAt_5 : decode cX3_keyAt 5 = .ok (.aload_n 0, 1) := by decide +kernel
theorem dX3_keyAt_6 : decode cX3_keyAt 6 = .ok (.getfield 26, 3) := by decide +kernel
theorem dX3_keyAt_9 : decode cX3_keyAt 9 = .ok (.if_icmp .lt 7, 3) := by decide +kernel
theorem dX3_keyAt_12 : decode cX3_keyAt 12 = .ok (.aconst_null, 1) := by decide +kernel
theorem dX3_keyAt_13 : decode cX3_keyAt 13 = .ok (.goto 9, 3) := by decide +kernel
theorem dX3_keyAt_16 : decode cX3_keyAt 16 = .ok (.aload_n 0, 1) := by decide +kernel
theorem dX3_keyAt_17 : decode cX3_keyAt 17 = .ok (.getfield 11, 3) := by decide +kernel
theorem dX3_keyAt_20 : decode cX3_keyAt 20 = .ok (.iload_n 1, 1) := by decide +kernel
theorem dX3_keyAt_21 : decode cX3_keyAt 21 = .ok (.aaload, 1) := by decide +kernel
theorem dX3_keyAt_22 : decode cX3_keyAt 22 = .ok (.areturn, 1) := by decide +kernel
theorem dX3_keyWithFunction_0 : decode cX3_keyWithFunction 0 = .ok (.aload_n 0, 1) := by decide +kernel
theorem dX3_keyWithFunction_1 : decode cX3_keyWithFunction 1 = .ok (.iload_n 1, 1) := by decide +kernel
theorem dX3_keyWithFunction_2 : decode cX3_keyWithFunction 2 = .ok (.invokevirtual 56, 3) := by decide +kernel
theorem dX3_keyWithFunction_5 : decode cX3_keyWithFunction 5 = .ok (.astore_n 2, 1) := by decide +kernel
theorem dX3_keyWithFunction_6 : decode cX3_keyWithFunction 6 = .ok (.aload_n 2, 1) := by decide +kernel
theorem dX3_keyWithFunction_7 : decode cX3_keyWithFunction 7 = .ok (.ifnull 10, 3) := by decide +kernel
theorem dX3_keyWithFunction_10 : decode cX3_keyWithFunction 10 = .ok (.aload_n 2, 1) := by decide +kernel
theorem dX3_keyWithFunction_11 : decode cX3_keyWithFunction 11 = .ok (.invokevirtual 85, 3) := by decide +kernel
theorem dX3_keyWithFunction_14 : decode cX3_keyWithFunction 14 = .ok (.ifCond .eq 7, 3) := by decide +kernel
theorem dX3_keyWithFunction_17 : decode cX3_keyWithFunction 17 = .ok (.aconst_null, 1) := by decide +kernel
theorem dX3_keyWithFunction_18 : decode cX3_keyWithFunction 18 = .ok (.goto 4, 3) := by decide +kernel
theorem dX3_keyWithFunction_21 : decode cX3_keyWithFunction 21 = .ok (.aload_n 2, 1) := by decide +kernel
theorem dX3_keyWithFunction_22 : decode cX3_keyWithFunction 22 = .ok (.areturn, 1) := by decide +kernel
theorem dX3_isWorker_0 : decode cX3_isWorker 0 = .ok (.iload_n 0, 1) := by decide +kernel
theorem dX3_isWorker_1 : decode cX3_isWorker 1 = .ok (.ifCond .lt 12, 3) := by decide +kernel
theorem dX3_isWorker_4 : decode cX3_isWorker 4 = .ok (.iload_n 0, 1) := by decide +kernel
theorem dX3_isWorker_5 : decode cX3_isWorker 5 = .ok (.iconst 4, 1) := by decide +kernel
theorem dX3_isWorker_6 : decode cX3_isWorker 6 = .ok (.if_icmp .ge 7, 3) := by decide +kernel
theorem dX3_isWorker_9 : decode cX3_isWorker 9 = .ok (.iconst 1, 1) := by decide +kernel
theorem dX3_isWorker_10 : decode cX3_isWorker 10 = .ok (.goto 4, 3) := by decide +kernel
theorem dX3_isWorker_13 : decode cX3_isWorker 13 = .ok (.iconst 0, 1) := by decide +kernel
theorem dX3_isWorker_14 : decode cX3_isWorker 14 = .ok (.ireturn, 1) := by decide +kernel
theorem dX3_isSure_0 : decode cX3_isSure 0 = .ok (.aload_n 1, 1) := by decide +kernel
theorem dX3_isSure_1 : decode cX3_isSure 1 = .ok (.invokevirtual 85, 3) := by decide +kernel
theorem dX3_isSure_4 : decode cX3_isSure 4 = .ok (.ifCond .ne 21, 3) := by decide +kernel
theorem dX3_isSure_7 : decode cX3_isSure 7 = .ok (.aload_n 1, 1) := by decide +kernel
theorem dX3_isSure_8 : decode cX3_isSure 8 = .ok (.getfield 139, 3) := by decide +kernel
theorem dX3_isSure_11 : decode cX3_isSure 11 = .ok (.ifCond .eq 18, 3) := by decide +kernel
theorem dX3_isSure_14 : decode cX3_isSure 14 = .ok (.aload_n 1, 1) := by decide +kernel
theorem dX3_isSure_15 : decode cX3_isSure 15 = .ok (.getfield 149, 3) := by decide +kernel
theorem dX3_isSure_18 : decode cX3_isSure 18 = .ok (.aload_n 0, 1) := by decide +kernel
theorem dX3_isSure_19 : decode cX3_isSure 19 = .ok (.getfield 42, 3) := by decide +kernel
theorem dX3_isSure_22 : decode cX3_isSure 22 = .ok (.if_icmp .ne 7, 3) := by decide +kernel
theorem dX3_isSure_25 : decode cX3_isSure 25 = .ok (.iconst 1, 1) := by decide +kernel
theorem dX3_isSure_26 : decode cX3_isSure 26 = .ok (.goto 4, 3) := by decide +kernel
theorem dX3_isSure_29 : decode cX3_isSure 29 = .ok (.iconst 0, 1) := by decide +kernel
theorem dX3_isSure_30 : decode cX3_isSure 30 = .ok (.ireturn, 1) := by decide +kernel
theorem dX3_goToNextVersion_0 : decode cX3_goToNextVersion 0 = .ok (.aload_n 0, 1) := by decide +kernel
theorem dX3_goToNextVersion_1 : decode cX3_goToNextVersion 1 = .ok (.dup, 1) := by decide +kernel
theorem dX3_goToNextVersion_2 : decode cX3_goToNextVersion 2 = .ok (.getfield 42, 3) := by decide +kernel
theorem dX3_goToNextVersion_5 : decode cX3_goToNextVersion 5 = .ok (.iconst 1, 1) := by decide +kernel
theorem dX3_goToNextVersion_6 : decode cX3_goToNextVersion 6 = .ok (.iadd, 1) := by decide +kernel
theorem dX3_goToNextVersion_7 : decode cX3_goToNextVersion 7 = .ok (.putfield 42, 3) := by decide +kernel
theorem dX3_goToNextVersion_10 : decode cX3_goToNextVersion 10 = .ok (.aload_n 0, 1) := by decide +kernel
theorem dX3_goToNextVersion_11 : decode cX3_goToNextVersion 11 = .ok (.invokevirtual 114, 3) := by decide +kernel
theorem dX3_goToNextVersion_14 : decode cX3_goToNextVersion 14 = .ok (.pop, 1) := by decide +kernel
theorem dX3_goToNextVersion_15 : decode cX3_goToNextVersion 15 = .ok (.return_, 1) := by decide +kernel
theorem dX3_emptyPiles_0 : decode cX3_emptyPiles 0 = .ok (.iconst 0, 1) := by decide +kernel
theorem dX3_emptyPiles_1 : decode cX3_emptyPiles 1 = .ok (.istore_n 1, 1) := by decide +kernel
theorem dX3_emptyPiles_2 : decode cX3_emptyPiles 2 = .ok (.iconst 0, 1) := by decide +kernel
theorem dX3_emptyPiles_3 : decode cX3_emptyPiles 3 = .ok (.istore_n 2, 1) := by decide +kernel
theorem dX3_emptyPiles_4 : decode cX3_emptyPiles 4 = .ok (.iload_n 2, 1) := by decide +kernel
theorem dX3_emptyPiles_5 : decode cX3_emptyPiles 5 = .ok (.aload_n 0, 1) := by decide +kernel
theorem dX3_emptyPiles_6 : decode cX3_emptyPiles 6 = .ok (.getfield 17, 3) := by decide +kernel
theorem dX3_emptyPiles_9 : decode cX3_emptyPiles 9 = .ok (.arraylength, 1) := by decide +kernel
theorem dX3_emptyPiles_10 : decode cX3_emptyPiles 10 = .ok (.if_icmp .ge 21, 3) := by decide +kernel
theorem dX3_emptyPiles_13 : decode cX3_emptyPiles 13 = .ok (.iload_n 1, 1) := by decide +kernel
theorem dX3_emptyPiles_14 : decode cX3_emptyPiles 14 = .ok (.aload_n 0, 1) := by decide +kernel
theorem dX3_emptyPiles_15 : decode cX3_emptyPiles 15 = .ok (.getfield 17, 3) := by decide +kernel
theorem dX3_emptyPiles_18 : decode cX3_emptyPiles 18 = .ok (.iload_n 2, 1) := by decide +kernel
theorem dX3_emptyPiles_19 : decode cX3_emptyPiles 19 = .ok (.aaload, 1) := by decide +kernel
theorem dX3_emptyPiles_20 : decode cX3_emptyPiles 20 = .ok (.invokevirtual 152, 3) := by decide +kernel
theorem dX3_emptyPiles_23 : decode cX3_emptyPiles 23 = .ok (.iadd, 1) := by decide +kernel
theorem dX3_emptyPiles_24 : decode cX3_emptyPiles 24 = .ok (.istore_n 1, 1) := by decide +kernel
theorem dX3_emptyPiles_25 : decode cX3_emptyPiles 25 = .ok (.iinc 2 1, 3) := by decide +kernel
theorem dX3_emptyPiles_28 : decode cX3_emptyPiles 28 = .ok (.goto (-24), 3) := by decide +kernel
theorem dX3_emptyPiles_31 : decode cX3_emptyPiles 31 = .ok (.iload_n 1, 1) := by decide +kernel
theorem dX3_emptyPiles_32 : decode cX3_emptyPiles 32 = .ok (.ireturn, 1) := by decide +kernel
theorem dX3_noteRing_0 : decode cX3_noteRing 0 = .ok (.aload_n 0, 1) := by decide +kernel
theorem dX3_noteRing_1 : decode cX3_noteRing 1 = .ok (.getfield 22, 3) := by decide +kernel
theorem dX3_noteRing_4 : decode cX3_noteRing 4 = .ok (.iconst 0, 1) := by decide +kernel
theorem dX3_noteRing_5 : decode cX3_noteRing 5 = .ok (.aload_n 1, 1) := by decide +kernel
theorem dX3_noteRing_6 : decode cX3_noteRing 6 = .ok (.getfield 146, 3) := by decide +kernel
theorem dX3_noteRing_9 : decode cX3_noteRing 9 = .ok (.iastore, 1) := by decide +kernel
theorem dX3_noteRing_10 : decode cX3_noteRing 10 = .ok (.aload_n 0, 1) := by decide +kernel
theorem dX3_noteRing_11 : decode cX3_noteRing 11 = .ok (.iconst 1, 1) := by decide +kernel
theorem dX3_noteRing_12 : decode cX3_noteRing 12 = .ok (.putfield 82, 3) := by decide +kernel
theorem dX3_noteRing_15 : decode cX3_noteRing 15 = .ok (.aload_n 2, 1) := by decide +kernel
theorem dX3_noteRing_16 : decode cX3_noteRing 16 = .ok (.astore_n 3, 1) := by decide +kernel
theorem dX3_noteRing_17 : decode cX3_noteRing 17 = .ok (.aload_n 3, 1) := by decide +kernel
theorem dX3_noteRing_18 : decode cX3_noteRing 18 = .ok (.ifnull 49, 3) := by decide +kernel
theorem dX3_noteRing_21 : decode cX3_noteRing 21 = .ok (.aload_n 3, 1) := by decide +kernel
theorem dX3_noteRing_22 : decode cX3_noteRing 22 = .ok (.aload_n 1, 1) := by decide +kernel
theorem dX3_noteRing_23 : decode cX3_noteRing 23 = .ok (.if_acmp .eq 44, 3) := by decide +kernel
theorem dX3_noteRing_26 : decode cX3_noteRing 26 = .ok (.aload_n 0, 1) := by decide +kernel
theorem dX3_noteRing_27 : decode cX3_noteRing 27 = .ok (.getfield 82, 3) := by decide +kernel
theorem dX3_noteRing_30 : decode cX3_noteRing 30 = .ok (.bipush 40, 2) := by decide +kernel
theorem dX3_noteRing_32 : decode cX3_noteRing 32 = .ok (.if_icmp .ge 35, 3) := by decide +kernel
theorem dX3_noteRing_35 : decode cX3_noteRing 35 = .ok (.aload_n 0, 1) := by decide +kernel
theorem dX3_noteRing_36 : decode cX3_noteRing 36 = .ok (.getfield 22, 3) := by decide +kernel
theorem dX3_noteRing_39 : decode cX3_noteRing 39 = .ok (.aload_n 0, 1) := by decide +kernel
theorem dX3_noteRing_40 : decode cX3_noteRing 40 = .ok (.getfield 82, 3) := by decide +kernel
theorem dX3_noteRing_43 : decode cX3_noteRing 43 = .ok (.aload_n 3, 1) := by decide +kernel
theorem dX3_noteRing_44 : decode cX3_noteRing 44 = .ok (.getfield 146, 3) := by decide +kernel
theorem dX3_noteRing_47 : decode cX3_noteRing 47 = .ok (.iastore, 1) := by decide +kernel
theorem dX3_noteRing_48 : decode cX3_noteRing 48 = .ok (.aload_n 0, 1) := by decide +kernel
theorem dX3_noteRing_49 : decode cX3_noteRing 49 = .ok (.dup, 1) := by decide +kernel
theorem dX3_noteRing_50 : decode cX3_noteRing 50 = .ok (.getfield 82, 3) := by decide +kernel
theorem dX3_noteRing_53 : decode cX3_noteRing 53 = .ok (.iconst 1, 1) := by decide +kernel
theorem dX3_noteRing_54 : decode cX3_noteRing 54 = .ok (.iadd, 1) := by decide +kernel
theorem dX3_noteRing_55 : decode cX3_noteRing 55 = .ok (.putfield 82, 3) := by decide +kernel
theorem dX3_noteRing_58 : decode cX3_noteRing 58 = .ok (.aload_n 3, 1) := by decide +kernel
theorem dX3_noteRing_59 : decode cX3_noteRing 59 = .ok (.aload_n 1, 1) := by decide +kernel
theorem dX3_noteRing_60 : decode cX3_noteRing 60 = .ok (.invokevirtual 155, 3) := by decide +kernel
theorem dX3_noteRing_63 : decode cX3_noteRing 63 = .ok (.astore_n 3, 1) := by decide +kernel
theorem dX3_noteRing_64 : decode cX3_noteRing 64 = .ok (.goto (-47), 3) := by decide +kernel
theorem dX3_noteRing_67 : decode cX3_noteRing 67 = .ok (.return_, 1) := by decide +kernel
theorem dX3_spreadReach_0 : decode cX3_spreadReach 0 = .ok (.iconst 0, 1) := by decide +kernel
theorem dX3_spreadReach_1 : decode cX3_spreadReach 1 = .ok (.istore_n 3, 1) := by decide +kernel
theorem dX3_spreadReach_2 : decode cX3_spreadReach 2 = .ok (.iload_n 3, 1) := by decide +kernel
theorem dX3_spreadReach_3 : decode cX3_spreadReach 3 = .ok (.aload_n 0, 1) := by decide +kernel
theorem dX3_spreadReach_4 : decode cX3_spreadReach 4 = .ok (.getfield 26, 3) := by decide +kernel
theorem dX3_spreadReach_7 : decode cX3_spreadReach 7 = .ok (.if_icmp .ge 44, 3) := by decide +kernel
theorem dX3_spreadReach_10 : decode cX3_spreadReach 10 = .ok (.aload_n 0, 1) := by decide +kernel
theorem dX3_spreadReach_11 : decode cX3_spreadReach 11 = .ok (.iload_n 3, 1) := by decide +kernel
theorem dX3_spreadReach_12 : decode cX3_spreadReach 12 = .ok (.invokevirtual 56, 3) := by decide +kernel
theorem dX3_spreadReach_15 : decode cX3_spreadReach 15 = .ok (.astore 4, 2) := by decide +kernel
theorem dX3_spreadReach_17 : decode cX3_spreadReach 17 = .ok (.aload 4, 2) := by decide +kernel
theorem dX3_spreadReach_19 : decode cX3_spreadReach 19 = .ok (.ifnull 26, 3) := by decide +kernel
theorem dX3_spreadReach_22 : decode cX3_spreadReach 22 = .ok (.aload 4, 2) := by decide +kernel
theorem dX3_spreadReach_24 : decode cX3_spreadReach 24 = .ok (.aload_n 1, 1) := by decide +kernel
theorem dX3_spreadReach_25 : decode cX3_spreadReach 25 = .ok (.invokevirtual 62, 3) := by decide +kernel
theorem dX3_spreadReach_28 : decode cX3_spreadReach 28 = .ok (.ifCond .eq 17, 3) := by decide +kernel
theorem dX3_spreadReach_31 : decode cX3_spreadReach 31 = .ok (.aload 4, 2) := by decide +kernel
theorem dX3_spreadReach_33 : decode cX3_spreadReach 33 = .ok (.dup, 1) := by decide +kernel
theorem dX3_spreadReach_34 : decode cX3_spreadReach 34 = .ok (.getfield 159, 3) := by decide +kernel
theorem dX3_spreadReach_37 : decode cX3_spreadReach 37 = .ok (.aload_n 2, 1) := by decide +kernel
theorem dX3_spreadReach_38 : decode cX3_spreadReach 38 = .ok (.getfield 159, 3) := by decide +kernel
theorem dX3_spreadReach_41 : decode cX3_spreadReach 41 = .ok (.lor, 1) := by decide +kernel
theorem dX3_spreadReach_42 : decode cX3_spreadReach 42 = .ok (.putfield 159, 3) := by decide +kernel
theorem dX3_spreadReach_45 : decode cX3_spreadReach 45 = .ok (.iinc 3 1, 3) := by decide +kernel
theorem dX3_spreadReach_48 : decode cX3_spreadReach 48 = .ok (.goto (-46), 3) := by decide +kernel
theorem dX3_spreadReach_51 : decode cX3_spreadReach 51 = .ok (.return_, 1) := by decide +kernel
theorem dX3_runOnOwnPile_0 : decode cX3_runOnOwnPile 0 = .ok (.aload_n 0, 1) := by decide +kernel
theorem dX3_runOnOwnPile_1 : decode cX3_runOnOwnPile 1 = .ok (.getfield 17, 3) := by decide +kernel
theorem dX3_runOnOwnPile_4 : decode cX3_runOnOwnPile 4 = .ok (.iconst 4, 1) := by decide +kernel
theorem dX3_runOnOwnPile_5 : decode cX3_runOnOwnPile 5 = .ok (.aaload, 1) := by decide +kernel
theorem dX3_runOnOwnPile_6 : decode cX3_runOnOwnPile 6 = .ok (.astore_n 2, 1) := by decide +kernel
theorem dX3_runOnOwnPile_7 : decode cX3_runOnOwnPile 7 = .ok (.aload_n 2, 1) := by decide +kernel
theorem dX3_runOnOwnPile_8 : decode cX3_runOnOwnPile 8 = .ok (.aload_n 1, 1) := by decide +kernel
theorem dX3_runOnOwnPile_9 : decode cX3_runOnOwnPile 9 = .ok (.invokevirtual 106, 3) := by decide +kernel
theorem dX3_runOnOwnPile_12 : decode cX3_runOnOwnPile 12 = .ok (.iconst 0, 1) := by decide +kernel
theorem dX3_runOnOwnPile_13 : decode cX3_runOnOwnPile 13 = .ok (.istore_n 3, 1) := by decide +kernel
theorem dX3_runOnOwnPile_14 : decode cX3_runOnOwnPile 14 = .ok (.aload_n 2, 1) := by decide +kernel
theorem dX3_runOnOwnPile_15 : decode cX3_runOnOwnPile 15 = .ok (.getfield 97, 3) := by decide +kernel
theorem dX3_runOnOwnPile_18 : decode cX3_runOnOwnPile 18 = .ok (.ifCond .le 32, 3) := by decide +kernel
theorem dX3_runOnOwnPile_21 : decode cX3_runOnOwnPile 21 = .ok (.iload_n 3, 1) := by decide +kernel
theorem dX3_runOnOwnPile_22 : decode cX3_runOnOwnPile 22 = .ok (.ldc 162, 2) := by decide +kernel
theorem dX3_runOnOwnPile_24 : decode cX3_runOnOwnPile 24 = .ok (.if_icmp .ge 26, 3) := by decide +kernel
theorem dX3_runOnOwnPile_27 : decode cX3_runOnOwnPile 27 = .ok (.aload_n 0, 1) := by decide +kernel
theorem dX3_runOnOwnPile_28 : decode cX3_runOnOwnPile 28 = .ok (.aload_n 2, 1) := by decide +kernel
theorem dX3_runOnOwnPile_29 : decode cX3_runOnOwnPile 29 = .ok (.invokevirtual 110, 3) := by decide +kernel
theorem dX3_runOnOwnPile_32 : decode cX3_runOnOwnPile 32 = .ok (.iconst 3, 1) := by decide +kernel
theorem dX3_runOnOwnPile_33 : decode cX3_runOnOwnPile 33 = .ok (.if_icmp .ne 11, 3) := by decide +kernel
theorem dX3_runOnOwnPile_36 : decode cX3_runOnOwnPile 36 = .ok (.aload_n 2, 1) := by decide +kernel
theorem dX3_runOnOwnPile_37 : decode cX3_runOnOwnPile 37 = .ok (.invokevirtual 152, 3) := by decide +kernel
theorem dX3_runOnOwnPile_40 : decode cX3_runOnOwnPile 40 = .ok (.pop, 1) := by decide +kernel
theorem dX3_runOnOwnPile_41 : decode cX3_runOnOwnPile 41 = .ok (.bipush (-2), 2) := by decide +kernel
theorem dX3_runOnOwnPile_43 : decode cX3_runOnOwnPile 43 = .ok (.ireturn, 1) := by decide +kernel
theorem dX3_runOnOwnPile_44 : decode cX3_runOnOwnPile 44 = .ok (.iinc 3 1, 3) := by decide +kernel
theorem dX3_runOnOwnPile_47 : decode cX3_runOnOwnPile 47 = .ok (.goto (-33), 3) := by decide +kernel
theorem dX3_runOnOwnPile_50 : decode cX3_runOnOwnPile 50 = .ok (.aload_n 1, 1) := by decide +kernel
theorem dX3_runOnOwnPile_51 : decode cX3_runOnOwnPile 51 = .ok (.getfield 35, 3) := by decide +kernel
theorem dX3_runOnOwnPile_54 : decode cX3_runOnOwnPile 54 = .ok (.ireturn, 1) := by decide +kernel
theorem dX3_goOn_0 : decode cX3_goOn 0 = .ok (.aload_n 1, 1) := by decide +kernel
theorem dX3_goOn_1 : decode cX3_goOn 1 = .ok (.invokevirtual 163, 3) := by decide +kernel
theorem dX3_goOn_4 : decode cX3_goOn 4 = .ok (.astore_n 2, 1) := by decide +kernel
theorem dX3_goOn_5 : decode cX3_goOn 5 = .ok (.aload_n 2, 1) := by decide +kernel
theorem dX3_goOn_6 : decode cX3_goOn 6 = .ok (.ifnonnull 5, 3) := by decide +kernel
theorem dX3_goOn_9 : decode cX3_goOn 9 = .ok (.iconst 0, 1) := by decide +kernel
theorem dX3_goOn_10 : decode cX3_goOn 10 = .ok (.ireturn, 1) := by decide +kernel
theorem dX3_goOn_11 : decode cX3_goOn 11 = .ok (.aload_n 2, 1) := by decide +kernel
theorem dX3_goOn_12 : decode cX3_goOn 12 = .ok (.getfield 167, 3) := by decide +kernel
theorem dX3_goOn_15 : decode cX3_goOn 15 = .ok (.getfield 171, 3) := by decide +kernel
theorem dX3_goOn_18 : decode cX3_goOn 18 = .ok (.ifCond .eq 12, 3) := by decide +kernel
theorem dX3_goOn_21 : decode cX3_goOn 21 = .ok (.aload_n 0, 1) := by decide +kernel
theorem dX3_goOn_22 : decode cX3_goOn 22 = .ok (.aload_n 2, 1) := by decide +kernel
theorem dX3_goOn_23 : decode cX3_goOn 23 = .ok (.aload_n 1, 1) := by decide +kernel
theorem dX3_goOn_24 : decode cX3_goOn 24 = .ok (.invokevirtual 174, 3) := by decide +kernel
theorem dX3_goOn_27 : decode cX3_goOn 27 = .ok (.goto 9, 3) := by decide +kernel
theorem dX3_goOn_30 : decode cX3_goOn 30 = .ok (.aload_n 0, 1) := by decide +kernel
theorem dX3_goOn_31 : decode cX3_goOn 31 = .ok (.aload_n 2, 1) := by decide +kernel
theorem dX3_goOn_32 : decode cX3_goOn 32 = .ok (.aload_n 1, 1) := by decide +kernel
theorem dX3_goOn_33 : decode cX3_goOn 33 = .ok (.invokevirtual 178, 3) := by decide +kernel
theorem dX3_goOn_36 : decode cX3_goOn 36 = .ok (.ireturn, 1) := by decide +kernel
theorem dX3_goOnChecking_0 : decode cX3_goOnChecking 0 = .ok (.aload_n 1, 1) := by decide +kernel
theorem dX3_goOnChecking_1 : decode cX3_goOnChecking 1 = .ok (.aload_n 1, 1) := by decide +kernel
theorem dX3_goOnChecking_2 : decode cX3_goOnChecking 2 = .ok (.aload_n 1, 1) := by decide +kernel
theorem dX3_goOnChecking_3 : decode cX3_goOnChecking 3 = .ok (.getfield 167, 3) := by decide +kernel
theorem dX3_goOnChecking_6 : decode cX3_goOnChecking 6 = .ok (.getfield 181, 3) := by decide +kernel
theorem dX3_goOnChecking_9 : decode cX3_goOnChecking 9 = .ok (.invokevirtual 142, 3) := by decide +kernel
theorem dX3_goOnChecking_12 : decode cX3_goOnChecking 12 = .ok (.invokevirtual 184, 3) := by decide +kernel
theorem dX3_goOnChecking_15 : decode cX3_goOnChecking 15 = .ok (.astore_n 3, 1) := by decide +kernel
theorem dX3_goOnChecking_16 : decode cX3_goOnChecking 16 = .ok (.aload_n 3, 1) := by decide +kernel
theorem dX3_goOnChecking_17 : decode cX3_goOnChecking 17 = .ok (.ifnonnull 21, 3) := by decide +kernel
theorem dX3_goOnChecking_20 : decode cX3_goOnChecking 20 = .ok (.aload_n 1, 1) := by decide +kernel
theorem dX3_goOnChecking_21 : decode cX3_goOnChecking 21 = .ok (.dup, 1) := by decide +kernel
theorem dX3_goOnChecking_22 : decode cX3_goOnChecking 22 = .ok (.getfield 136, 3) := by decide +kernel
theorem dX3_goOnChecking_25 : decode cX3_goOnChecking 25 = .ok (.iconst 1, 1) := by decide +kernel
theorem dX3_goOnChecking_26 : decode cX3_goOnChecking 26 = .ok (.iadd, 1) := by decide +kernel
theorem dX3_goOnChecking_27 : decode cX3_goOnChecking 27 = .ok (.putfield 136, 3) := by decide +kernel
theorem dX3_goOnChecking_30 : decode cX3_goOnChecking 30 = .ok (.aload_n 0, 1) := by decide +kernel
theorem dX3_goOnChecking_31 : decode cX3_goOnChecking 31 = .ok (.aload_n 1, 1) := by decide +kernel
theorem dX3_goOnChecking_32 : decode cX3_goOnChecking 32 = .ok (.aload_n 2, 1) := by decide +kernel
theorem dX3_goOnChecking_33 : decode cX3_goOnChecking 33 = .ok (.invokevirtual 187, 3) := by decide +kernel
theorem dX3_goOnChecking_36 : decode cX3_goOnChecking 36 = .ok (.iconst 2, 1) := by decide +kernel
theorem dX3_goOnChecking_37 : decode cX3_goOnChecking 37 = .ok (.ireturn, 1) := by decide +kernel
theorem dX3_goOnChecking_38 : decode cX3_goOnChecking 38 = .ok (.aload_n 0, 1) := by decide +kernel
theorem dX3_goOnChecking_39 : decode cX3_goOnChecking 39 = .ok (.aload_n 3, 1) := by decide +kernel
theorem dX3_goOnChecking_40 : decode cX3_goOnChecking 40 = .ok (.invokevirtual 100, 3) := by decide +kernel
theorem dX3_goOnChecking_43 : decode cX3_goOnChecking 43 = .ok (.ifCond .ne 9, 3) := by decide +kernel
theorem dX3_goOnChecking_46 : decode cX3_goOnChecking 46 = .ok (.aload_n 3, 1) := by decide +kernel
theorem dX3_goOnChecking_47 : decode cX3_goOnChecking 47 = .ok (.aload_n 2, 1) := by decide +kernel
theorem dX3_goOnChecking_48 : decode cX3_goOnChecking 48 = .ok (.invokestatic 191, 3) := by decide +kernel
theorem dX3_goOnChecking_51 : decode cX3_goOnChecking 51 = .ok (.ireturn, 1) := by decide +kernel
theorem dX3_goOnChecking_52 : decode cX3_goOnChecking 52 = .ok (.aload_n 3, 1) := by decide +kernel
theorem dX3_goOnChecking_53 : decode cX3_goOnChecking 53 = .ok (.getfield 45, 3) := by decide +kernel
theorem dX3_goOnChecking_56 : decode cX3_goOnChecking 56 = .ok (.aload_n 1, 1) := by decide +kernel
theorem dX3_goOnChecking_57 : decode cX3_goOnChecking 57 = .ok (.getfield 149, 3) := by decide +kernel
theorem dX3_goOnChecking_60 : decode cX3_goOnChecking 60 = .ok (.if_icmp .le 13, 3) := by decide +kernel
theorem dX3_goOnChecking_63 : decode cX3_goOnChecking 63 = .ok (.aload_n 1, 1) := by decide +kernel
theorem dX3_goOnChecking_64 : decode cX3_goOnChecking 64 = .ok (.getfield 167, 3) := by decide +kernel
theorem dX3_goOnChecking_67 : decode cX3_goOnChecking 67 = .ok (.aload_n 1, 1) := by decide +kernel
theorem dX3_goOnChecking_68 : decode cX3_goOnChecking 68 = .ok (.invokevirtual 194, 3) := by decide +kernel
theorem dX3_goOnChecking_71 : decode cX3_goOnChecking 71 = .ok (.iconst 5, 1) := by decide +kernel
theorem dX3_goOnChecking_72 : decode cX3_goOnChecking 72 = .ok (.ireturn, 1) := by decide +kernel
theorem dX3_goOnChecking_73 : decode cX3_goOnChecking 73 = .ok (.aload_n 1, 1) := by decide +kernel
theorem dX3_goOnChecking_74 : decode cX3_goOnChecking 74 = .ok (.getfield 167, 3) := by decide +kernel
theorem dX3_goOnChecking_77 : decode cX3_goOnChecking 77 = .ok (.dup, 1) := by decide +kernel
theorem dX3_goOnChecking_78 : decode cX3_goOnChecking 78 = .ok (.getfield 181, 3) := by decide +kernel
theorem dX3_goOnChecking_81 : decode cX3_goOnChecking 81 = .ok (.iconst 1, 1) := by decide +kernel
theorem dX3_goOnChecking_82 : decode cX3_goOnChecking 82 = .ok (.iadd, 1) := by decide +kernel
theorem dX3_goOnChecking_83 : decode cX3_goOnChecking 83 = .ok (.putfield 181, 3) := by decide +kernel
theorem dX3_goOnChecking_86 : decode cX3_goOnChecking 86 = .ok (.iconst 4, 1) := by decide +kernel
theorem dX3_goOnChecking_87 : decode cX3_goOnChecking 87 = .ok (.ireturn, 1) := by decide +kernel
theorem dX3_goOnWorking_0 : decode cX3_goOnWorking 0 = .ok (.aload_n 1, 1) := by decide +kernel
theorem dX3_goOnWorking_1 : decode cX3_goOnWorking 1 = .ok (.getfield 167, 3) := by decide +kernel
theorem dX3_goOnWorking_4 : decode cX3_goOnWorking 4 = .ok (.aload_n 1, 1) := by decide +kernel
theorem dX3_goOnWorking_5 : decode cX3_goOnWorking 5 = .ok (.invokevirtual 197, 3) := by decide +kernel
theorem dX3_goOnWorking_8 : decode cX3_goOnWorking 8 = .ok (.istore_n 3, 1) := by decide +kernel
theorem dX3_goOnWorking_9 : decode cX3_goOnWorking 9 = .ok (.aload_n 1, 1) := by decide +kernel
theorem dX3_goOnWorking_10 : decode cX3_goOnWorking 10 = .ok (.iload_n 3, 1) := by decide +kernel
theorem dX3_goOnWorking_11 : decode cX3_goOnWorking 11 = .ok (.invokevirtual 184, 3) := by decide +kernel
theorem dX3_goOnWorking_14 : decode cX3_goOnWorking 14 = .ok (.astore 4, 2) := by decide +kernel
theorem dX3_goOnWorking_16 : decode cX3_goOnWorking 16 = .ok (.aload 4, 2) := by decide +kernel
theorem dX3_goOnWorking_18 : decode cX3_goOnWorking 18 = .ok (.ifnonnull 26, 3) := by decide +kernel
theorem dX3_goOnWorking_21 : decode cX3_goOnWorking 21 = .ok (.aload_n 0, 1) := by decide +kernel
theorem dX3_goOnWorking_22 : decode cX3_goOnWorking 22 = .ok (.aload_n 1, 1) := by decide +kernel
theorem dX3_goOnWorking_23 : decode cX3_goOnWorking 23 = .ok (.aload_n 2, 1) := by decide +kernel
theorem dX3_goOnWorking_24 : decode cX3_goOnWorking 24 = .ok (.aload_n 1, 1) := by decide +kernel
theorem dX3_goOnWorking_25 : decode cX3_goOnWorking 25 = .ok (.getfield 167, 3) := by decide +kernel
theorem dX3_goOnWorking_28 : decode cX3_goOnWorking 28 = .ok (.getfield 200, 3) := by decide +kernel
theorem dX3_goOnWorking_31 : decode cX3_goOnWorking 31 = .ok (.ifCond .eq 7, 3) := by decide +kernel
theorem dX3_goOnWorking_34 : decode cX3_goOnWorking 34 = .ok (.iconst 2, 1) := by decide +kernel
theorem dX3_goOnWorking_35 : decode cX3_goOnWorking 35 = .ok (.goto 4, 3) := by decide +kernel
theorem dX3_goOnWorking_38 : decode cX3_goOnWorking 38 = .ok (.iconst 1, 1) := by decide +kernel
theorem dX3_goOnWorking_39 : decode cX3_goOnWorking 39 = .ok (.invokevirtual 203, 3) := by decide +kernel
theorem dX3_goOnWorking_42 : decode cX3_goOnWorking 42 = .ok (.iconst 2, 1) := by decide +kernel
theorem dX3_goOnWorking_43 : decode cX3_goOnWorking 43 = .ok (.ireturn, 1) := by decide +kernel
theorem dX3_goOnWorking_44 : decode cX3_goOnWorking 44 = .ok (.aload_n 0, 1) := by decide +kernel
theorem dX3_goOnWorking_45 : decode cX3_goOnWorking 45 = .ok (.aload 4, 2) := by decide +kernel
theorem dX3_goOnWorking_47 : decode cX3_goOnWorking 47 = .ok (.invokevirtual 100, 3) := by decide +kernel
theorem dX3_goOnWorking_50 : decode cX3_goOnWorking 50 = .ok (.ifCond .ne 10, 3) := by decide +kernel
theorem dX3_goOnWorking_53 : decode cX3_goOnWorking 53 = .ok (.aload 4, 2) := by decide +kernel
theorem dX3_goOnWorking_55 : decode cX3_goOnWorking 55 = .ok (.aload_n 2, 1) := by decide +kernel
theorem dX3_goOnWorking_56 : decode cX3_goOnWorking 56 = .ok (.invokestatic 191, 3) := by decide +kernel
theorem dX3_goOnWorking_59 : decode cX3_goOnWorking 59 = .ok (.ireturn, 1) := by decide +kernel
theorem dX3_goOnWorking_60 : decode cX3_goOnWorking 60 = .ok (.aload 4, 2) := by decide +kernel
theorem dX3_goOnWorking_62 : decode cX3_goOnWorking 62 = .ok (.getfield 35, 3) := by decide +kernel
theorem dX3_goOnWorking_65 : decode cX3_goOnWorking 65 = .ok (.iconst 1, 1) := by decide +kernel
theorem dX3_goOnWorking_66 : decode cX3_goOnWorking 66 = .ok (.if_icmp .eq 20, 3) := by decide +kernel
theorem dX3_goOnWorking_69 : decode cX3_goOnWorking 69 = .ok (.aload_n 1, 1) := by decide +kernel
theorem dX3_goOnWorking_70 : decode cX3_goOnWorking 70 = .ok (.getfield 167, 3) := by decide +kernel
theorem dX3_goOnWorking_73 : decode cX3_goOnWorking 73 = .ok (.iload_n 3, 1) := by decide +kernel
theorem dX3_goOnWorking_74 : decode cX3_goOnWorking 74 = .ok (.invokevirtual 207, 3) := by decide +kernel
theorem dX3_goOnWorking_77 : decode cX3_goOnWorking 77 = .ok (.aload_n 0, 1) := by decide +kernel
theorem dX3_goOnWorking_78 : decode cX3_goOnWorking 78 = .ok (.aload_n 1, 1) := by decide +kernel
theorem dX3_goOnWorking_79 : decode cX3_goOnWorking 79 = .ok (.aload_n 2, 1) := by decide +kernel
theorem dX3_goOnWorking_80 : decode cX3_goOnWorking 80 = .ok (.iconst 3, 1) := by decide +kernel
theorem dX3_goOnWorking_81 : decode cX3_goOnWorking 81 = .ok (.invokevirtual 203, 3) := by decide +kernel
theorem dX3_goOnWorking_84 : decode cX3_goOnWorking 84 = .ok (.iconst 2, 1) := by decide +kernel
theorem dX3_goOnWorking_85 : decode cX3_goOnWorking 85 = .ok (.ireturn, 1) := by decide +kernel
theorem dX3_goOnWorking_86 : decode cX3_goOnWorking 86 = .ok (.aload_n 1, 1) := by decide +kernel
theorem dX3_goOnWorking_87 : decode cX3_goOnWorking 87 = .ok (.getfield 167, 3) := by decide +kernel
theorem dX3_goOnWorking_90 : decode cX3_goOnWorking 90 = .ok (.aload_n 1, 1) := by decide +kernel
theorem dX3_goOnWorking_91 : decode cX3_goOnWorking 91 = .ok (.aload 4, 2) := by decide +kernel
theorem dX3_goOnWorking_93 : decode cX3_goOnWorking 93 = .ok (.getfield 38, 3) := by decide +kernel
theorem dX3_goOnWorking_96 : decode cX3_goOnWorking 96 = .ok (.invokevirtual 211, 3) := by decide +kernel
theorem dX3_goOnWorking_99 : decode cX3_goOnWorking 99 = .ok (.aload_n 1, 1) := by decide +kernel
theorem dX3_goOnWorking_100 : decode cX3_goOnWorking 100 = .ok (.getfield 167, 3) := by decide +kernel
theorem dX3_goOnWorking_103 : decode cX3_goOnWorking 103 = .ok (.iload_n 3, 1) := by decide +kernel
theorem dX3_goOnWorking_104 : decode cX3_goOnWorking 104 = .ok (.invokevirtual 207, 3) := by decide +kernel
theorem dX3_goOnWorking_107 : decode cX3_goOnWorking 107 = .ok (.bipush 6, 2) := by decide +kernel
theorem dX3_goOnWorking_109 : decode cX3_goOnWorking 109 = .ok (.ireturn, 1) := by decide +kernel
theorem dX3_findFirst_0 : decode cX3_findFirst 0 = .ok (.aload_n 0, 1) := by decide +kernel
theorem dX3_findFirst_1 : decode cX3_findFirst 1 = .ok (.getfield 103, 3) := by decide +kernel
theorem dX3_findFirst_4 : decode cX3_findFirst 4 = .ok (.ifCond .eq 5, 3) := by decide +kernel
theorem dX3_findFirst_7 : decode cX3_findFirst 7 = .ok (.iconst 3, 1) := by decide +kernel
theorem dX3_findFirst_8 : decode cX3_findFirst 8 = .ok (.ireturn, 1) := by decide +kernel
theorem dX3_findFirst_9 : decode cX3_findFirst 9 = .ok (.aload_n 1, 1) := by decide +kernel
theorem dX3_findFirst_10 : decode cX3_findFirst 10 = .ok (.aload_n 0, 1) := by decide +kernel
theorem dX3_findFirst_11 : decode cX3_findFirst 11 = .ok (.invokevirtual 106, 3) := by decide +kernel
theorem dX3_findFirst_14 : decode cX3_findFirst 14 = .ok (.iconst 1, 1) := by decide +kernel
theorem dX3_findFirst_15 : decode cX3_findFirst 15 = .ok (.ireturn, 1) := by decide +kernel
theorem dX3_endWork_0 : decode cX3_endWork 0 = .ok (.iload_n 3, 1) := by decide +kernel
theorem dX3_endWork_1 : decode cX3_endWork 1 = .ok (.iconst 1, 1) := by decide +kernel
theorem dX3_endWork_2 : decode cX3_endWork 2 = .ok (.if_icmp .ne 14, 3) := by decide +kernel
theorem dX3_endWork_5 : decode cX3_endWork 5 = .ok (.aload_n 1, 1) := by decide +kernel
theorem dX3_endWork_6 : decode cX3_endWork 6 = .ok (.getfield 167, 3) := by decide +kernel
theorem dX3_endWork_9 : decode cX3_endWork 9 = .ok (.aload_n 1, 1) := by decide +kernel
theorem dX3_endWork_10 : decode cX3_endWork 10 = .ok (.invokevirtual 215, 3) := by decide +kernel
theorem dX3_endWork_13 : decode cX3_endWork 13 = .ok (.goto 4, 3) := by decide +kernel
theorem dX3_endWork_16 : decode cX3_endWork 16 = .ok (.lconst 0, 1) := by decide +kernel
theorem dX3_endWork_17 : decode cX3_endWork 17 = .ok (.lstore 4, 2) := by decide +kernel
theorem dX3_endWork_19 : decode cX3_endWork 19 = .ok (.aload_n 1, 1) := by decide +kernel
theorem dX3_endWork_20 : decode cX3_endWork 20 = .ok (.getfield 139, 3) := by decide +kernel
theorem dX3_endWork_23 : decode cX3_endWork 23 = .ok (.ifCond .eq 21, 3) := by decide +kernel
theorem dX3_endWork_26 : decode cX3_endWork 26 = .ok (.aload_n 1, 1) := by decide +kernel
theorem dX3_endWork_27 : decode cX3_endWork 27 = .ok (.getfield 35, 3) := by decide +kernel
theorem dX3_endWork_30 : decode cX3_endWork 30 = .ok (.iload_n 3, 1) := by decide +kernel
theorem dX3_endWork_31 : decode cX3_endWork 31 = .ok (.if_icmp .ne 13, 3) := by decide +kernel
theorem dX3_endWork_34 : decode cX3_endWork 34 = .ok (.aload_n 1, 1) := by decide +kernel
theorem dX3_endWork_35 : decode cX3_endWork 35 = .ok (.getfield 38, 3) := by decide +kernel
theorem dX3_endWork_38 : decode cX3_endWork 38 = .ok (.lload 4, 2) := by decide +kernel
theorem dX3_endWork_40 : decode cX3_endWork 40 = .ok (.lcmp, 1) := by decide +kernel
theorem dX3_endWork_41 : decode cX3_endWork 41 = .ok (.ifCond .eq 11, 3) := by decide +kernel
theorem dX3_endWork_44 : decode cX3_endWork 44 = .ok (.aload_n 1, 1) := by decide +kernel
theorem dX3_endWork_45 : decode cX3_endWork 45 = .ok (.aload_n 0, 1) := by decide +kernel
theorem dX3_endWork_46 : decode cX3_endWork 46 = .ok (.getfield 42, 3) := by decide +kernel
theorem dX3_endWork_49 : decode cX3_endWork 49 = .ok (.putfield 45, 3) := by decide +kernel
theorem dX3_endWork_52 : decode cX3_endWork 52 = .ok (.aload_n 1, 1) := by decide +kernel
theorem dX3_endWork_53 : decode cX3_endWork 53 = .ok (.iload_n 3, 1) := by decide +kernel
theorem dX3_endWork_54 : decode cX3_endWork 54 = .ok (.putfield 35, 3) := by decide +kernel
theorem dX3_endWork_57 : decode cX3_endWork 57 = .ok (.aload_n 1, 1) := by decide +kernel
theorem dX3_endWork_58 : decode cX3_endWork 58 = .ok (.lload 4, 2) := by decide +kernel
theorem dX3_endWork_60 : decode cX3_endWork 60 = .ok (.putfield 38, 3) := by decide +kernel
theorem dX3_endWork_63 : decode cX3_endWork 63 = .ok (.aload_n 1, 1) := by decide +kernel
theorem dX3_endWork_64 : decode cX3_endWork 64 = .ok (.iconst 1, 1) := by decide +kernel
theorem dX3_endWork_65 : decode cX3_endWork 65 = .ok (.putfield 139, 3) := by decide +kernel
theorem dX3_endWork_68 : decode cX3_endWork 68 = .ok (.aload_n 1, 1) := by decide +kernel
theorem dX3_endWork_69 : decode cX3_endWork 69 = .ok (.dup, 1) := by decide +kernel
theorem dX3_endWork_70 : decode cX3_endWork 70 = .ok (.getfield 133, 3) := by decide +kernel
theorem dX3_endWork_73 : decode cX3_endWork 73 = .ok (.iconst 1, 1) := by decide +kernel
theorem dX3_endWork_74 : decode cX3_endWork 74 = .ok (.iadd, 1) := by decide +kernel
theorem dX3_endWork_75 : decode cX3_endWork 75 = .ok (.putfield 133, 3) := by decide +kernel
theorem dX3_endWork_78 : decode cX3_endWork 78 = .ok (.aload_n 1, 1) := by decide +kernel
theorem dX3_endWork_79 : decode cX3_endWork 79 = .ok (.invokevirtual 219, 3) := by decide +kernel
theorem dX3_endWork_82 : decode cX3_endWork 82 = .ok (.aload_n 0, 1) := by decide +kernel
theorem dX3_endWork_83 : decode cX3_endWork 83 = .ok (.aload_n 1, 1) := by decide +kernel
theorem dX3_endWork_84 : decode cX3_endWork 84 = .ok (.aload_n 2, 1) := by decide +kernel
theorem dX3_endWork_85 : decode cX3_endWork 85 = .ok (.invokevirtual 187, 3) := by decide +kernel
theorem dX3_endWork_88 : decode cX3_endWork 88 = .ok (.return_, 1) := by decide +kernel
theorem dX3_makeSure_0 : decode cX3_makeSure 0 = .ok (.aload_n 1, 1) := by decide +kernel
theorem dX3_makeSure_1 : decode cX3_makeSure 1 = .ok (.aload_n 0, 1) := by decide +kernel
theorem dX3_makeSure_2 : decode cX3_makeSure 2 = .ok (.getfield 42, 3) := by decide +kernel
theorem dX3_makeSure_5 : decode cX3_makeSure 5 = .ok (.putfield 149, 3) := by decide +kernel
theorem dX3_makeSure_8 : decode cX3_makeSure 8 = .ok (.aload_n 2, 1) := by decide +kernel
theorem dX3_makeSure_9 : decode cX3_makeSure 9 = .ok (.invokevirtual 222, 3) := by decide +kernel
theorem dX3_makeSure_12 : decode cX3_makeSure 12 = .ok (.return_, 1) := by decide +kernel
end
section
theorem dX4_init_0 : decode cX4_init 0 = .ok (.aload_n 0, 1) := by decide +kernel
theorem dX4_init_1 : decode cX4_init 1 = .ok (.invokespecial 1, 3) := by decide +kernel
theorem dX4_init_4 : decode cX4_init 4 = .ok (.aload_n 0, 1) := by decide +kernel
theorem dX4_init_5 : decode cX4_init 5 = .ok (.bipush 40, 2) := by decide +kernel
theorem dX4_init_7 : decode cX4_init 7 = .ok (.newarray .int, 2) := by decide +kernel
theorem dX4_init_9 : decode cX4_init 9 = .ok (.putfield 7, 3) := by decide +kernel
theorem dX4_init_12 : decode cX4_init 12 = .ok (.aload_n 0, 1) := by decide +kernel
theorem dX4_init_13 : decode cX4_init 13 = .ok (.bipush 40, 2) := by decide +kernel
theorem dX4_init_15 : decode cX4_init 15 = .ok (.newarray .int, 2) := by decide +kernel
theorem dX4_init_17 : decode cX4_init 17 = .ok (.putfield 13, 3) := by decide +kernel
theorem dX4_init_20 : decode cX4_init 20 = .ok (.aload_n 0, 1) := by decide +kernel
theorem dX4_init_21 : decode cX4_init 21 = .ok (.sipush 320, 3) := by decide +kernel
theorem dX4_init_24 : decode cX4_init 24 = .ok (.newarray .int, 2) := by decide +kernel
theorem dX4_init_26 : decode cX4_init 26 = .ok (.putfield 16, 3) := by decide +kernel
theorem dX4_init_29 : decode cX4_init 29 = .ok (.aload_n 0, 1) := by decide +kernel
theorem dX4_init_30 : decode cX4_init 30 = .ok (.bipush 40, 2) := by decide +kernel
theorem dX4_init_32 : decode cX4_init 32 = .ok (.newarray .int, 2) := by decide +kernel
theorem dX4_init_34 : decode cX4_init 34 = .ok (.putfield 19, 3) := by decide +kernel
theorem dX4_init_37 : decode cX4_init 37 = .ok (.aload_n 0, 1) := by decide +kernel
theorem dX4_init_38 : decode cX4_init 38 = .ok (.bipush 40, 2) := by decide +kernel
theorem dX4_init_40 : decode cX4_init 40 = .ok (.newarray .int, 2) := by decide +kernel
theorem dX4_init_42 : decode cX4_init 42 = .ok (.putfield 22, 3) := by decide +kernel
theorem dX4_init_45 : decode cX4_init 45 = .ok (.aload_n 0, 1) := by decide +kernel
theorem dX4_init_46 : decode cX4_init 46 = .ok (.bipush 40, 2) := by decide +kernel
theorem dX4_init_48 : decode cX4_init 48 = .ok (.newarray .int, 2) := by decide +kernel
theorem dX4_init_50 : decode cX4_init 50 = .ok (.putfield 25, 3) := by decide +kernel
theorem dX4_init_53 : decode cX4_init 53 = .ok (.aload_n 0, 1) := by decide +kernel
theorem dX4_init_54 : decode cX4_init 54 = .ok (.bipush 40, 2) := by decide +kernel
theorem dX4_init_56 : decode cX4_init 56 = .ok (.newarray .int, 2) := by decide +kernel
theorem dX4_init_58 : decode cX4_init 58 = .ok (.putfield 28, 3) := by decide +kernel
theorem dX4_init_61 : decode cX4_init 61 = .ok (.aload_n 0, 1) := by decide +kernel
theorem dX4_init_62 : decode cX4_init 62 = .ok (.bipush 40, 2) := by decide +kernel
theorem dX4_init_64 : decode cX4_init 64 = .ok (.newarray .int, 2) := by decide +kernel
theorem dX4_init_66 : decode cX4_init 66 = .ok (.putfield 31, 3) := by decide +kernel
theorem dX4_init_69 : decode cX4_init 69 = .ok (.aload_n 0, 1) := by decide +kernel
theorem dX4_init_70 : decode cX4_init 70 = .ok (.sipush 320, 3) := by decide +kernel
theorem dX4_init_73 : decode cX4_init 73 = .ok (.newarray .int, 2) := by decide +kernel
theorem dX4_init_75 : decode cX4_init 75 = .ok (.putfield 34, 3) := by decide +kernel
theorem dX4_init_78 : decode cX4_init 78 = .ok (.aload_n 0, 1) := by decide +kernel
theorem dX4_init_79 : decode cX4_init 79 = .ok (.bipush 40, 2) := by decide +kernel
theorem dX4_init_81 : decode cX4_init 81 = .ok (.newarray .int, 2) := by decide +kernel
theorem dX4_init_83 : decode cX4_init 83 = .ok (.putfield 37, 3) := by decide +kernel
theorem dX4_init_86 : decode cX4_init 86 = .ok (.aload_n 0, 1) := by decide +kernel
theorem dX4_init_87 : decode cX4_init 87 = .ok (.bipush 40, 2) := by decide +kernel
theorem dX4_init_89 : decode cX4_init 89 = .ok (.newarray .int, 2) := by decide +kernel
theorem dX4_init_91 : decode cX4_init 91 = .ok (.putfield 40, 3) := by decide +kernel
theorem dX4_init_94 : decode cX4_init 94 = .ok (.aload_n 0, 1) := by decide +kernel
theorem dX4_init_95 : decode cX4_init 95 = .ok (.bipush 40, 2) := by decide +kernel
theorem dX4_init_97 : decode cX4_init 97 = .ok (.newarray .long, 2) := by decide +kernel
theorem dX4_init_99 : decode cX4_init 99 = .ok (.putfield 43, 3) := by decide +kernel
theorem dX4_init_102 : decode cX4_init 102 = .ok (.aload_n 0, 1) := by decide +kernel
theorem dX4_init_103 : decode cX4_init 103 = .ok (.bipush 40, 2) := by decide +kernel
theorem dX4_init_105 : decode cX4_init 105 = .ok (.newarray .boolean, 2) := by decide +kernel
theorem dX4_init_107 : decode cX4_init 107 = .ok (.putfield 47, 3) := by decide +kernel
theorem dX4_init_110 : decode cX4_init 110 = .ok (.aload_n 0, 1) := by decide +kernel
theorem dX4_init_111 : decode cX4_init 111 = .ok (.bipush 40, 2) := by decide +kernel
theorem dX4_init_113 : decode cX4_init 113 = .ok (.newarray .boolean, 2) := by decide +kernel
theorem dX4_init_115 : decode cX4_init 115 = .ok (.putfield 51, 3) := by decide +kernel
theorem dX4_init_118 : decode cX4_init 118 = .ok (.aload_n 0, 1) := by decide +kernel
theorem dX4_init_119 : decode cX4_init 119 = .ok (.iconst 5, 1) := by decide +kernel
theorem dX4_init_120 : decode cX4_init 120 = .ok (.newarray .int, 2) := by decide +kernel
theorem dX4_init_122 : decode cX4_init 122 = .ok (.putfield 54, 3) := by decide +kernel
theorem dX4_init_125 : decode cX4_init 125 = .ok (.aload_n 0, 1) := by decide +kernel
theorem dX4_init_126 : decode cX4_init 126 = .ok (.sipush 200, 3) := by decide +kernel
theorem dX4_init_129 : decode cX4_init 129 = .ok (.newarray .int, 2) := by decide +kernel
theorem dX4_init_131 : decode cX4_init 131 = .ok (.putfield 57, 3) := by decide +kernel
theorem dX4_init_134 : decode cX4_init 134 = .ok (.aload_n 0, 1) := by decide +kernel
theorem dX4_init_135 : decode cX4_init 135 = .ok (.sipush 200, 3) := by decide +kernel
theorem dX4_init_138 : decode cX4_init 138 = .ok (.newarray .int, 2) := by decide +kernel
theorem dX4_init_140 : decode cX4_init 140 = .ok (.putfield 60, 3) := by decide +kernel
theorem dX4_init_143 : decode cX4_init 143 = .ok (.aload_n 0, 1) := by decide +kernel
theorem dX4_init_144 : decode cX4_init 144 = .ok (.sipush 1600, 3) := by decide +kernel
theorem dX4_init_147 : decode cX4_init 147 = .ok (.newarray .int, 2) := by decide +kernel
theorem dX4_init_149 : decode cX4_init 149 = .ok (.putfield 63, 3) := by decide +kernel
theorem dX4_init_152 : decode cX4_init 152 = .ok (.aload_n 0, 1) := by decide +kernel
theorem dX4_init_153 : decode cX4_init 153 = .ok (.sipush 200, 3) := by decide +kernel
theorem dX4_init_156 : decode cX4_init 156 = .ok (.newarray .boolean, 2) := by decide +kernel
theorem dX4_init_158 : decode cX4_init 158 = .ok (.putfield 66, 3) := by decide +kernel
theorem dX4_init_161 : decode cX4_init 161 = .ok (.aload_n 0, 1) := by decide +kernel
theorem dX4_init_162 : decode cX4_init 162 = .ok (.bipush 40, 2) := by decide +kernel
theorem dX4_init_164 : decode cX4_init 164 = .ok (.newarray .int, 2) := by decide +kernel
theorem dX4_init_166 : decode cX4_init 166 = .ok (.putfield 69, 3) := by decide +kernel
theorem dX4_init_169 : decode cX4_init 169 = .ok (.aload_n 0, 1) := by decide +kernel
theorem dX4_init_170 : decode cX4_init 170 = .ok (.bipush 40, 2) := by decide +kernel
theorem dX4_init_172 : decode cX4_init 172 = .ok (.newarray .boolean, 2) := by decide +kernel
theorem dX4_init_174 : decode cX4_init 174 = .ok (.putfield 72, 3) := by decide +kernel
theorem dX4_init_177 : decode cX4_init 177 = .ok (.return_, 1) := by decide +kernel
theorem dX4_thrown_0 : decode cX4_thrown 0 = .ok (.aload_n 0, 1) := by decide +kernel
theorem dX4_thrown_1 : decode cX4_thrown 1 = .ok (.getfield 75, 3) := by decide +kernel
theorem dX4_thrown_4 : decode cX4_thrown 4 = .ok (.ireturn, 1) := by decide +kernel
theorem dX4_isKey_0 : decode cX4_isKey 0 = .ok (.iload_n 1, 1) := by decide +kernel
theorem dX4_isKey_1 : decode cX4_isKey 1 = .ok (.ifCond .lt 15, 3) := by decide +kernel
theorem dX4_isKey_4 : decode cX4_isKey 4 = .ok (.iload_n 1, 1) := by decide +kernel
theorem dX4_isKey_5 : decode cX4_isKey 5 = .ok (.aload_n 0, 1) := by decide +kernel
theorem dX4_isKey_6 : decode cX4_isKey 6 = .ok (.getfield 79, 3) := by decide +kernel
theorem dX4_isKey_9 : decode cX4_isKey 9 = .ok (.if_icmp .ge 7, 3) := by decide +kernel
theorem dX4_isKey_12 : decode cX4_isKey 12 = .ok (.iconst 1, 1) := by decide +kernel
theorem dX4_isKey_13 : decode cX4_isKey 13 = .ok (.goto 4, 3) := by decide +kernel
theorem dX4_isKey_16 : decode cX4_isKey 16 = .ok (.iconst 0, 1) := by decide +kernel
theorem dX4_isKey_17 : decode cX4_isKey 17 = .ok (.ireturn, 1) := by decide +kernel
theorem dX4_isLeaf_0 : decode cX4_isLeaf 0 = .ok (.aload_n 0, 1) := by decide +kernel
theorem dX4_isLeaf_1 : decode cX4_isLeaf 1 = .ok (.iload_n 1, 1) := by decide +kernel
theorem dX4_isLeaf_2 : decode cX4_isLeaf 2 = .ok (.invokevirtual 82, 3) := by decide +kernel
theorem dX4_isLeaf_5 : decode cX4_isLeaf 5 = .ok (.ifCond .eq 17, 3) := by decide +kernel
theorem dX4_isLeaf_8 : decode cX4_isLeaf 8 = .ok (.aload_n 0, 1) := by decide +kernel
theorem dX4_isLeaf_9 : decode cX4_isLeaf 9 = .ok (.getfield 7, 3) := by decide +kernel
theorem dX4_isLeaf_12 : decode cX4_isLeaf 12 = .ok (.iload_n 1, 1) := by decide +kernel
theorem dX4_isLeaf_13 : decode cX4_isLeaf 13 = .ok (.iaload, 1) := by decide +kernel
theorem dX4_isLeaf_14 : decode cX4_isLeaf 14 = .ok (.iconst (-1), 1) := by decide +kernel
theorem dX4_isLeaf_15 : decode cX4_isLeaf 15 = .ok (.if_icmp .ne 7, 3) := by decide +kernel
theorem dX4_isLeaf_18 : decode cX4_isLeaf 18 = .ok (.iconst 1, 1) := by decide +kernel
theorem dX4_isLeaf_19 : decode cX4_isLeaf 19 = .ok (.goto 4, 3) := by decide +kernel
theorem dX4_isLeaf_22 : decode cX4_isLeaf 22 = .ok (.iconst 0, 1) := by decide +kernel
theorem dX4_isLeaf_23 : decode cX4_isLeaf 23 = .ok (.ireturn, 1) := by decide +kernel
theorem dX4_make_0 : decode cX4_make 0 = .ok (.aload_n 0, 1) := by decide +kernel
theorem dX4_make_1 : decode cX4_make 1 = .ok (.getfield 7, 3) := by decide +kernel
theorem dX4_make_4 : decode cX4_make 4 = .ok (.aload_n 0, 1) := by decide +kernel
theorem dX4_make_5 : decode cX4_make 5 = .ok (.getfield 79, 3) := by decide +kernel
theorem dX4_make_8 : decode cX4_make 8 = .ok (.iload_n 1, 1) := by decide +kernel
theorem dX4_make_9 : decode cX4_make 9 = .ok (.iastore, 1) := by decide +kernel
theorem dX4_make_10 : decode cX4_make 10 = .ok (.aload_n 0, 1) := by decide +kernel
theorem dX4_make_11 : decode cX4_make 11 = .ok (.getfield 22, 3) := by decide +kernel
theorem dX4_make_14 : decode cX4_make 14 = .ok (.aload_n 0, 1) := by decide +kernel
theorem dX4_make_15 : decode cX4_make 15 = .ok (.getfield 79, 3) := by decide +kernel
theorem dX4_make_18 : decode cX4_make 18 = .ok (.iconst (-1), 1) := by decide +kernel
theorem dX4_make_19 : decode cX4_make 19 = .ok (.iastore, 1) := by decide +kernel
theorem dX4_make_20 : decode cX4_make 20 = .ok (.aload_n 0, 1) := by decide +kernel
theorem dX4_make_21 : decode cX4_make 21 = .ok (.getfield 25, 3) := by decide +kernel
theorem dX4_make_24 : decode cX4_make 24 = .ok (.aload_n 0, 1) := by decide +kernel
theorem dX4_make_25 : decode cX4_make 25 = .ok (.getfield 79, 3) := by decide +kernel
theorem dX4_make_28 : decode cX4_make 28 = .ok (.aload_n 0, 1) := by decide +kernel
theorem dX4_make_29 : decode cX4_make 29 = .ok (.getfield 86, 3) := by decide +kernel
theorem dX4_make_32 : decode cX4_make 32 = .ok (.iastore, 1) := by decide +kernel
theorem dX4_make_33 : decode cX4_make 33 = .ok (.aload_n 0, 1) := by decide +kernel
theorem dX4_make_34 : decode cX4_make 34 = .ok (.getfield 28, 3) := by decide +kernel
theorem dX4_make_37 : decode cX4_make 37 = .ok (.aload_n 0, 1) := by decide +kernel
theorem dX4_make_38 : decode cX4_make 38 = .ok (.getfield 79, 3) := by decide +kernel
theorem dX4_make_41 : decode cX4_make 41 = .ok (.iconst (-1), 1) := by decide +kernel
theorem dX4_make_42 : decode cX4_make 42 = .ok (.iastore, 1) := by decide +kernel
theorem dX4_make_43 : decode cX4_make 43 = .ok (.aload_n 0, 1) := by decide +kernel
theorem dX4_make_44 : decode cX4_make 44 = .ok (.dup, 1) := by decide +kernel
theorem dX4_make_45 : decode cX4_make 45 = .ok (.getfield 79, 3) := by decide +kernel
theorem dX4_make_48 : decode cX4_make 48 = .ok (.iconst 1, 1) := by decide +kernel
theorem dX4_make_49 : decode cX4_make 49 = .ok (.iadd, 1) := by decide +kernel
theorem dX4_make_50 : decode cX4_make 50 = .ok (.putfield 79, 3) := by decide +kernel
theorem dX4_make_53 : decode cX4_make 53 = .ok (.aload_n 0, 1) := by decide +kernel
theorem dX4_make_54 : decode cX4_make 54 = .ok (.getfield 79, 3) := by decide +kernel
theorem dX4_make_57 : decode cX4_make 57 = .ok (.iconst 1, 1) := by decide +kernel
theorem dX4_make_58 : decode cX4_make 58 = .ok (.isub, 1) := by decide +kernel
theorem dX4_make_59 : decode cX4_make 59 = .ok (.ireturn, 1) := by decide +kernel
theorem dX4_leaf_0 : decode cX4_leaf 0 = .ok (.aload_n 0, 1) := by decide +kernel
theorem dX4_leaf_1 : decode cX4_leaf 1 = .ok (.iconst 0, 1) := by decide +kernel
theorem dX4_leaf_2 : decode cX4_leaf 2 = .ok (.putfield 75, 3) := by decide +kernel
theorem dX4_leaf_5 : decode cX4_leaf 5 = .ok (.aload_n 0, 1) := by decide +kernel
theorem dX4_leaf_6 : decode cX4_leaf 6 = .ok (.getfield 79, 3) := by decide +kernel
theorem dX4_leaf_9 : decode cX4_leaf 9 = .ok (.bipush 40, 2) := by decide +kernel
theorem dX4_leaf_11 : decode cX4_leaf 11 = .ok (.if_icmp .ne 5, 3) := by decide +kernel
theorem dX4_leaf_14 : decode cX4_leaf 14 = .ok (.iconst (-1), 1) := by decide +kernel
theorem dX4_leaf_15 : decode cX4_leaf 15 = .ok (.ireturn, 1) := by decide +kernel
theorem dX4_leaf_16 : decode cX4_leaf 16 = .ok (.aload_n 0, 1) := by decide +kernel
theorem dX4_leaf_17 : decode cX4_leaf 17 = .ok (.getfield 43, 3) := by decide +kernel
theorem dX4_leaf_20 : decode cX4_leaf 20 = .ok (.aload_n 0, 1) := by decide +kernel
theorem dX4_leaf_21 : decode cX4_leaf 21 = .ok (.getfield 79, 3) := by decide +kernel
theorem dX4_leaf_24 : decode cX4_leaf 24 = .ok (.lload_n 1, 1) := by decide +kernel
theorem dX4_leaf_25 : decode cX4_leaf 25 = .ok (.lastore, 1) := by decide +kernel
theorem dX4_leaf_26 : decode cX4_leaf 26 = .ok (.aload_n 0, 1) := by decide +kernel
theorem dX4_leaf_27 : decode cX4_leaf 27 = .ok (.getfield 19, 3) := by decide +kernel
theorem dX4_leaf_30 : decode cX4_leaf 30 = .ok (.aload_n 0, 1) := by decide +kernel
theorem dX4_leaf_31 : decode cX4_leaf 31 = .ok (.getfield 79, 3) := by decide +kernel
theorem dX4_leaf_34 : decode cX4_leaf 34 = .ok (.iconst 1, 1) := by decide +kernel
theorem dX4_leaf_35 : decode cX4_leaf 35 = .ok (.iastore, 1) := by decide +kernel
theorem dX4_leaf_36 : decode cX4_leaf 36 = .ok (.aload_n 0, 1) := by decide +kernel
theorem dX4_leaf_37 : decode cX4_leaf 37 = .ok (.iconst (-1), 1) := by decide +kernel
theorem dX4_leaf_38 : decode cX4_leaf 38 = .ok (.invokevirtual 89, 3) := by decide +kernel
theorem dX4_leaf_41 : decode cX4_leaf 41 = .ok (.ireturn, 1) := by decide +kernel
theorem dX4_key_0 : decode cX4_key 0 = .ok (.aload_n 0, 1) := by decide +kernel
theorem dX4_key_1 : decode cX4_key 1 = .ok (.iconst 0, 1) := by decide +kernel
theorem dX4_key_2 : decode cX4_key 2 = .ok (.putfield 75, 3) := by decide +kernel
theorem dX4_key_5 : decode cX4_key 5 = .ok (.aload_n 0, 1) := by decide +kernel
theorem dX4_key_6 : decode cX4_key 6 = .ok (.getfield 79, 3) := by decide +kernel
theorem dX4_key_9 : decode cX4_key 9 = .ok (.bipush 40, 2) := by decide +kernel
theorem dX4_key_11 : decode cX4_key 11 = .ok (.if_icmp .eq 13, 3) := by decide +kernel
theorem dX4_key_14 : decode cX4_key 14 = .ok (.iload_n 1, 1) := by decide +kernel
theorem dX4_key_15 : decode cX4_key 15 = .ok (.ifCond .lt 9, 3) := by decide +kernel
theorem dX4_key_18 : decode cX4_key 18 = .ok (.iload_n 1, 1) := by decide +kernel
theorem dX4_key_19 : decode cX4_key 19 = .ok (.bipush 6, 2) := by decide +kernel
theorem dX4_key_21 : decode cX4_key 21 = .ok (.if_icmp .lt 7, 3) := by decide +kernel
theorem dX4_key_24 : decode cX4_key 24 = .ok (.iconst (-1), 1) := by decide +kernel
theorem dX4_key_25 : decode cX4_key 25 = .ok (.goto 8, 3) := by decide +kernel
theorem dX4_key_28 : decode cX4_key 28 = .ok (.aload_n 0, 1) := by decide +kernel
theorem dX4_key_29 : decode cX4_key 29 = .ok (.iload_n 1, 1) := by decide +kernel
theorem dX4_key_30 : decode cX4_key 30 = .ok (.invokevirtual 89, 3) := by decide +kernel
theorem dX4_key_33 : decode cX4_key 33 = .ok (.ireturn, 1) := by decide +kernel
theorem dX4_empty_0 : decode cX4_empty 0 = .ok (.iconst 0, 1) := by decide +kernel
theorem dX4_empty_1 : decode cX4_empty 1 = .ok (.istore_n 1, 1) := by decide +kernel
theorem dX4_empty_2 : decode cX4_empty 2 = .ok (.iconst 0, 1) := by decide +kernel
theorem dX4_empty_3 : decode cX4_empty 3 = .ok (.istore_n 2, 1) := by decide +kernel
theorem dX4_empty_4 : decode cX4_empty 4 = .ok (.iload_n 2, 1) := by decide +kernel
theorem dX4_empty_5 : decode cX4_empty 5 = .ok (.iconst 5, 1) := by decide +kernel
theorem dX4_empty_6 : decode cX4_empty 6 = .ok (.if_icmp .ge 25, 3) := by decide +kernel
theorem dX4_empty_9 : decode cX4_empty 9 = .ok (.iload_n 1, 1) := by decide +kernel
theorem dX4_empty_10 : decode cX4_empty 10 = .ok (.aload_n 0, 1) := by decide +kernel
theorem dX4_empty_11 : decode cX4_empty 11 = .ok (.getfield 54, 3) := by decide +kernel
theorem dX4_empty_14 : decode cX4_empty 14 = .ok (.iload_n 2, 1) := by decide +kernel
theorem dX4_empty_15 : decode cX4_empty 15 = .ok (.iaload, 1) := by decide +kernel
theorem dX4_empty_16 : decode cX4_empty 16 = .ok (.iadd, 1) := by decide +kernel
theorem dX4_empty_17 : decode cX4_empty 17 = .ok (.istore_n 1, 1) := by decide +kernel
theorem dX4_empty_18 : decode cX4_empty 18 = .ok (.aload_n 0, 1) := by decide +kernel
theorem dX4_empty_19 : decode cX4_empty 19 = .ok (.getfield 54, 3) := by decide +kernel
theorem dX4_empty_22 : decode cX4_empty 22 = .ok (.iload_n 2, 1) := by decide +kernel
theorem dX4_empty_23 : decode cX4_empty 23 = .ok (.iconst 0, 1) := by decide +kernel
theorem dX4_empty_24 : decode cX4_empty 24 = .ok (.iastore, 1) := by decide +kernel
theorem dX4_empty_25 : decode cX4_empty 25 = .ok (.iinc 2 1, 3) := by decide +kernel
theorem dX4_empty_28 : decode cX4_empty 28 = .ok (.goto (-24), 3) := by decide +kernel
theorem dX4_empty_31 : decode cX4_empty 31 = .ok (.iload_n 1, 1) := by decide +kernel
theorem dX4_empty_32 : decode cX4_empty 32 = .ok (.ireturn, 1) := by decide +kernel
theorem dX4_next_0 : decode cX4_next 0 = .ok (.aload_n 0, 1) := by decide +kernel
theorem dX4_next_1 : decode cX4_next 1 = .ok (.invokevirtual 93, 3) := by decide +kernel
theorem dX4_next_4 : decode cX4_next 4 = .ok (.pop, 1) := by decide +kernel
theorem dX4_next_5 : decode cX4_next 5 = .ok (.aload_n 0, 1) := by decide +kernel
theorem dX4_next_6 : decode cX4_next 6 = .ok (.dup, 1) := by decide +kernel
theorem dX4_next_7 : decode cX4_next 7 = .ok (.getfield 86, 3) := by decide +kernel
theorem dX4_next_10 : decode cX4_next 10 = .ok (.iconst 1, 1) := by decide +kernel
theorem dX4_next_11 : decode cX4_next 11 = .ok (.iadd, 1) := by decide +kernel
theorem dX4_next_12 : decode cX4_next 12 = .ok (.putfield 86, 3) := by decide +kernel
theorem dX4_next_15 : decode cX4_next 15 = .ok (.aload_n 0, 1) := by decide +kernel
theorem dX4_next_16 : decode cX4_next 16 = .ok (.getfield 86, 3) := by decide +kernel
theorem dX4_next_19 : decode cX4_next 19 = .ok (.ireturn, 1) := by decide +kernel
theorem dX4_rowKey_0 : decode cX4_rowKey 0 = .ok (.aload_n 0, 1) := by decide +kernel
theorem dX4_rowKey_1 : decode cX4_rowKey 1 = .ok (.getfield 16, 3) := by decide +kernel
theorem dX4_rowKey_4 : decode cX4_rowKey 4 = .ok (.bipush 8, 2) := by decide +kernel
theorem dX4_rowKey_6 : decode cX4_rowKey 6 = .ok (.iload_n 1, 1) := by decide +kernel
theorem dX4_rowKey_7 : decode cX4_rowKey 7 = .ok (.imul, 1) := by decide +kernel
theorem dX4_rowKey_8 : decode cX4_rowKey 8 = .ok (.iload_n 2, 1) := by decide +kernel
theorem dX4_rowKey_9 : decode cX4_rowKey 9 = .ok (.iadd, 1) := by decide +kernel
theorem dX4_rowKey_10 : decode cX4_rowKey 10 = .ok (.iaload, 1) := by decide +kernel
theorem dX4_rowKey_11 : decode cX4_rowKey 11 = .ok (.ireturn, 1) := by decide +kernel
theorem dX4_fillLeads_0 : decode cX4_fillLeads 0 = .ok (.iconst 0, 1) := by decide +kernel
theorem dX4_fillLeads_1 : decode cX4_fillLeads 1 = .ok (.istore_n 2, 1) := by decide +kernel
theorem dX4_fillLeads_2 : decode cX4_fillLeads 2 = .ok (.iload_n 2, 1) := by decide +kernel
theorem dX4_fillLeads_3 : decode cX4_fillLeads 3 = .ok (.aload_n 0, 1) := by decide +kernel
theorem dX4_fillLeads_4 : decode cX4_fillLeads 4 = .ok (.getfield 79, 3) := by decide +kernel
theorem dX4_fillLeads_7 : decode cX4_fillLeads 7 = .ok (.if_icmp .ge 25, 3) := by decide +kernel
theorem dX4_fillLeads_10 : decode cX4_fillLeads 10 = .ok (.aload_n 0, 1) := by decide +kernel
theorem dX4_fillLeads_11 : decode cX4_fillLeads 11 = .ok (.getfield 72, 3) := by decide +kernel
theorem dX4_fillLeads_14 : decode cX4_fillLeads 14 = .ok (.iload_n 2, 1) := by decide +kernel
theorem dX4_fillLeads_15 : decode cX4_fillLeads 15 = .ok (.iload_n 2, 1) := by decide +kernel
theorem dX4_fillLeads_16 : decode cX4_fillLeads 16 = .ok (.iload_n 1, 1) := by decide +kernel
theorem dX4_fillLeads_17 : decode cX4_fillLeads 17 = .ok (.if_icmp .ne 7, 3) := by decide +kernel
theorem dX4_fillLeads_20 : decode cX4_fillLeads 20 = .ok (.iconst 1, 1) := by decide +kernel
theorem dX4_fillLeads_21 : decode cX4_fillLeads 21 = .ok (.goto 4, 3) := by decide +kernel
theorem dX4_fillLeads_24 : decode cX4_fillLeads 24 = .ok (.iconst 0, 1) := by decide +kernel
theorem dX4_fillLeads_25 : decode cX4_fillLeads 25 = .ok (.bastore, 1) := by decide +kernel
theorem dX4_fillLeads_26 : decode cX4_fillLeads 26 = .ok (.iinc 2 1, 3) := by decide +kernel
theorem dX4_fillLeads_29 : decode cX4_fillLeads 29 = .ok (.goto (-27), 3) := by decide +kernel
theorem dX4_fillLeads_32 : decode cX4_fillLeads 32 = .ok (.iconst 1, 1) := by decide +kernel
theorem dX4_fillLeads_33 : decode cX4_fillLeads 33 = .ok (.istore_n 2, 1) := by decide +kernel
theorem dX4_fillLeads_34 : decode cX4_fillLeads 34 = .ok (.iload_n 2, 1) := by decide +kernel
theorem dX4_fillLeads_35 : decode cX4_fillLeads 35 = .ok (.ifCond .eq 80, 3) := by decide +kernel
theorem dX4_fillLeads_38 : decode cX4_fillLeads 38 = .ok (.iconst 0, 1) := by decide +kernel
theorem dX4_fillLeads_39 : decode cX4_fillLeads 39 = .ok (.istore_n 2, 1) := by decide +kernel
theorem dX4_fillLeads_40 : decode cX4_fillLeads 40 = .ok (.iconst 0, 1) := by decide +kernel
theorem dX4_fillLeads_41 : decode cX4_fillLeads 41 = .ok (.istore_n 3, 1) := by decide +kernel
theorem dX4_fillLeads_42 : decode cX4_fillLeads 42 = .ok (.iload_n 3, 1) := by decide +kernel
theorem dX4_fillLeads_43 : decode cX4_fillLeads 43 = .ok (.aload_n 0, 1) := by decide +kernel
theorem dX4_fillLeads_44 : decode cX4_fillLeads 44 = .ok (.getfield 79, 3) := by decide +kernel
theorem dX4_fillLeads_47 : decode cX4_fillLeads 47 = .ok (.if_icmp .ge 65, 3) := by decide +kernel
theorem dX4_fillLeads_50 : decode cX4_fillLeads 50 = .ok (.iconst 0, 1) := by decide +kernel
theorem dX4_fillLeads_51 : decode cX4_fillLeads 51 = .ok (.istore 4, 2) := by decide +kernel
theorem dX4_fillLeads_53 : decode cX4_fillLeads 53 = .ok (.iload 4, 2) := by decide +kernel
theorem dX4_fillLeads_55 : decode cX4_fillLeads 55 = .ok (.aload_n 0, 1) := by decide +kernel
theorem dX4_fillLeads_56 : decode cX4_fillLeads 56 = .ok (.getfield 13, 3) := by decide +kernel
theorem dX4_fillLeads_59 : decode cX4_fillLeads 59 = .ok (.iload_n 3, 1) := by decide +kernel
theorem dX4_fillLeads_60 : decode cX4_fillLeads 60 = .ok (.iaload, 1) := by decide +kernel
theorem dX4_fillLeads_61 : decode cX4_fillLeads 61 = .ok (.if_icmp .ge 45, 3) := by decide +kernel
theorem dX4_fillLeads_64 : decode cX4_fillLeads 64 = .ok (.aload_n 0, 1) := by decide +kernel
theorem dX4_fillLeads_65 : decode cX4_fillLeads 65 = .ok (.getfield 72, 3) := by decide +kernel
theorem dX4_fillLeads_68 : decode cX4_fillLeads 68 = .ok (.iload_n 3, 1) := by decide +kernel
theorem dX4_fillLeads_69 : decode cX4_fillLeads 69 = .ok (.baload, 1) := by decide +kernel
theorem dX4_fillLeads_70 : decode cX4_fillLeads 70 = .ok (.ifCond .ne 30, 3) := by decide +kernel
theorem dX4_fillLeads_73 : decode cX4_fillLeads 73 = .ok (.aload_n 0, 1) := by decide +kernel
theorem dX4_fillLeads_74 : decode cX4_fillLeads 74 = .ok (.getfield 72, 3) := by decide +kernel
theorem dX4_fillLeads_77 : decode cX4_fillLeads 77 = .ok (.aload_n 0, 1) := by decide +kernel
theorem dX4_fillLeads_78 : decode cX4_fillLeads 78 = .ok (.iload_n 3, 1) := by decide +kernel
theorem dX4_fillLeads_79 : decode cX4_fillLeads 79 = .ok (.iload 4, 2) := by decide +kernel
theorem dX4_fillLeads_81 : decode cX4_fillLeads 81 = .ok (.invokevirtual 97, 3) := by decide +kernel
theorem dX4_fillLeads_84 : decode cX4_fillLeads 84 = .ok (.baload, 1) := by decide +kernel
theorem dX4_fillLeads_85 : decode cX4_fillLeads 85 = .ok (.ifCond .ne 6, 3) := by decide +kernel
theorem dX4_fillLeads_88 : decode cX4_fillLeads 88 = .ok (.goto 12, 3) := by decide +kernel
theorem dX4_fillLeads_91 : decode cX4_fillLeads 91 = .ok (.aload_n 0, 1) := by decide +kernel
theorem dX4_fillLeads_92 : decode cX4_fillLeads 92 = .ok (.getfield 72, 3) := by decide +kernel
theorem dX4_fillLeads_95 : decode cX4_fillLeads 95 = .ok (.iload_n 3, 1) := by decide +kernel
theorem dX4_fillLeads_96 : decode cX4_fillLeads 96 = .ok (.iconst 1, 1) := by decide +kernel
theorem dX4_fillLeads_97 : decode cX4_fillLeads 97 = .ok (.bastore, 1) := by decide +kernel
theorem dX4_fillLeads_98 : decode cX4_fillLeads 98 = .ok (.iconst 1, 1) := by decide +kernel
theorem dX4_fillLeads_99 : decode cX4_fillLeads 99 = .ok (.istore_n 2, 1) := by decide +kernel
theorem dX4_fillLeads_100 : decode cX4_fillLeads 100 = .ok (.iinc 4 1, 3) := by decide +kernel
theorem dX4_fillLeads_103 : decode cX4_fillLeads 103 = .ok (.goto (-50), 3) := by decide +kernel
theorem dX4_fillLeads_106 : decode cX4_fillLeads 106 = .ok (.iinc 3 1, 3) := by decide +kernel
theorem dX4_fillLeads_109 : decode cX4_fillLeads 109 = .ok (.goto (-67), 3) := by decide +kernel
theorem dX4_fillLeads_112 : decode cX4_fillLeads 112 = .ok (.goto (-78), 3) := by decide +kernel
theorem dX4_fillLeads_115 : decode cX4_fillLeads 115 = .ok (.return_, 1) := by decide +kernel
theorem dX4_asks_0 : decode cX4_asks 0 = .ok (.aload_n 0, 1) := by decide +kernel
theorem dX4_asks_1 : decode cX4_asks 1 = .ok (.iconst 0, 1) := by decide +kernel
theorem dX4_asks_2 : decode cX4_asks 2 = .ok (.putfield 75, 3) := by decide +kernel
theorem dX4_asks_5 : decode cX4_asks 5 = .ok (.aload_n 0, 1) := by decide +kernel
theorem dX4_asks_6 : decode cX4_asks 6 = .ok (.iload_n 1, 1) := by decide +kernel
theorem dX4_asks_7 : decode cX4_asks 7 = .ok (.invokevirtual 82, 3) := by decide +kernel
theorem dX4_asks_10 : decode cX4_asks 10 = .ok (.ifCond .eq 30, 3) := by decide +kernel
theorem dX4_asks_13 : decode cX4_asks 13 = .ok (.aload_n 0, 1) := by decide +kernel
theorem dX4_asks_14 : decode cX4_asks 14 = .ok (.iload_n 2, 1) := by decide +kernel
theorem dX4_asks_15 : decode cX4_asks 15 = .ok (.invokevirtual 82, 3) := by decide +kernel
theorem dX4_asks_18 : decode cX4_asks 18 = .ok (.ifCond .eq 22, 3) := by decide +kernel
theorem dX4_asks_21 : decode cX4_asks 21 = .ok (.aload_n 0, 1) := by decide +kernel
theorem dX4_asks_22 : decode cX4_asks 22 = .ok (.iload_n 1, 1) := by decide +kernel
theorem dX4_asks_23 : decode cX4_asks 23 = .ok (.invokevirtual 101, 3) := by decide +kernel
theorem dX4_asks_26 : decode cX4_asks 26 = .ok (.ifCond .ne 14, 3) := by decide +kernel
theorem dX4_asks_29 : decode cX4_asks 29 = .ok (.aload_n 0, 1) := by decide +kernel
theorem dX4_asks_30 : decode cX4_asks 30 = .ok (.getfield 13, 3) := by decide +kernel
theorem dX4_asks_33 : decode cX4_asks 33 = .ok (.iload_n 1, 1) := by decide +kernel
theorem dX4_asks_34 : decode cX4_asks 34 = .ok (.iaload, 1) := by decide +kernel
theorem dX4_asks_35 : decode cX4_asks 35 = .ok (.bipush 8, 2) := by decide +kernel
theorem dX4_asks_37 : decode cX4_asks 37 = .ok (.if_icmp .ne 5, 3) := by decide +kernel
theorem dX4_asks_40 : decode cX4_asks 40 = .ok (.iconst (-1), 1) := by decide +kernel
theorem dX4_asks_41 : decode cX4_asks 41 = .ok (.ireturn, 1) := by decide +kernel
theorem dX4_asks_42 : decode cX4_asks 42 = .ok (.aload_n 0, 1) := by decide +kernel
theorem dX4_asks_43 : decode cX4_asks 43 = .ok (.iload_n 1, 1) := by decide +kernel
theorem dX4_asks_44 : decode cX4_asks 44 = .ok (.invokevirtual 104, 3) := by decide +kernel
theorem dX4_asks_47 : decode cX4_asks 47 = .ok (.aload_n 0, 1) := by decide +kernel
theorem dX4_asks_48 : decode cX4_asks 48 = .ok (.getfield 72, 3) := by decide +kernel
theorem dX4_asks_51 : decode cX4_asks 51 = .ok (.iload_n 2, 1) := by decide +kernel
theorem dX4_asks_52 : decode cX4_asks 52 = .ok (.baload, 1) := by decide +kernel
theorem dX4_asks_53 : decode cX4_asks 53 = .ok (.ifCond .eq 54, 3) := by decide +kernel
theorem dX4_asks_56 : decode cX4_asks 56 = .ok (.aload_n 0, 1) := by decide +kernel
theorem dX4_asks_57 : decode cX4_asks 57 = .ok (.getfield 69, 3) := by decide +kernel
theorem dX4_asks_60 : decode cX4_asks 60 = .ok (.iconst 0, 1) := by decide +kernel
theorem dX4_asks_61 : decode cX4_asks 61 = .ok (.iload_n 1, 1) := by decide +kernel
theorem dX4_asks_62 : decode cX4_asks 62 = .ok (.iastore, 1) := by decide +kernel
theorem dX4_asks_63 : decode cX4_asks 63 = .ok (.aload_n 0, 1) := by decide +kernel
theorem dX4_asks_64 : decode cX4_asks 64 = .ok (.iconst 1, 1) := by decide +kernel
theorem dX4_asks_65 : decode cX4_asks 65 = .ok (.putfield 108, 3) := by decide +kernel
theorem dX4_asks_68 : decode cX4_asks 68 = .ok (.iload_n 2, 1) := by decide +kernel
theorem dX4_asks_69 : decode cX4_asks 69 = .ok (.istore_n 3, 1) := by decide +kernel
theorem dX4_asks_70 : decode cX4_asks 70 = .ok (.iload_n 3, 1) := by decide +kernel
theorem dX4_asks_71 : decode cX4_asks 71 = .ok (.iload_n 1, 1) := by decide +kernel
theorem dX4_asks_72 : decode cX4_asks 72 = .ok (.if_icmp .eq 32, 3) := by decide +kernel
theorem dX4_asks_75 : decode cX4_asks 75 = .ok (.aload_n 0, 1) := by decide +kernel
theorem dX4_asks_76 : decode cX4_asks 76 = .ok (.getfield 69, 3) := by decide +kernel
theorem dX4_asks_79 : decode cX4_asks 79 = .ok (.aload_n 0, 1) := by decide +kernel
theorem dX4_asks_80 : decode cX4_asks 80 = .ok (.getfield 108, 3) := by decide +kernel
theorem dX4_asks_83 : decode cX4_asks 83 = .ok (.iload_n 3, 1) := by decide +kernel
theorem dX4_asks_84 : decode cX4_asks 84 = .ok (.iastore, 1) := by decide +kernel
theorem dX4_asks_85 : decode cX4_asks 85 = .ok (.aload_n 0, 1) := by decide +kernel
theorem dX4_asks_86 : decode cX4_asks 86 = .ok (.dup, 1) := by decide +kernel
theorem dX4_asks_87 : decode cX4_asks 87 = .ok (.getfield 108, 3) := by decide +kernel
theorem dX4_asks_90 : decode cX4_asks 90 = .ok (.iconst 1, 1) := by decide +kernel
theorem dX4_asks_91 : decode cX4_asks 91 = .ok (.iadd, 1) := by decide +kernel
theorem dX4_asks_92 : decode cX4_asks 92 = .ok (.putfield 108, 3) := by decide +kernel
theorem dX4_asks_95 : decode cX4_asks 95 = .ok (.aload_n 0, 1) := by decide +kernel
theorem dX4_asks_96 : decode cX4_asks 96 = .ok (.iload_n 3, 1) := by decide +kernel
theorem dX4_asks_97 : decode cX4_asks 97 = .ok (.invokevirtual 111, 3) := by decide +kernel
theorem dX4_asks_100 : decode cX4_asks 100 = .ok (.istore_n 3, 1) := by decide +kernel
theorem dX4_asks_101 : decode cX4_asks 101 = .ok (.goto (-31), 3) := by decide +kernel
theorem dX4_asks_104 : decode cX4_asks 104 = .ok (.bipush (-2), 2) := by decide +kernel
theorem dX4_asks_106 : decode cX4_asks 106 = .ok (.ireturn, 1) := by decide +kernel
theorem dX4_asks_107 : decode cX4_asks 107 = .ok (.aload_n 0, 1) := by decide +kernel
theorem dX4_asks_108 : decode cX4_asks 108 = .ok (.getfield 16, 3) := by decide +kernel
theorem dX4_asks_111 : decode cX4_asks 111 = .ok (.bipush 8, 2) := by decide +kernel
theorem dX4_asks_113 : decode cX4_asks 113 = .ok (.iload_n 1, 1) := by decide +kernel
theorem dX4_asks_114 : decode cX4_asks 114 = .ok (.imul, 1) := by decide +kernel
theorem dX4_asks_115 : decode cX4_asks 115 = .ok (.aload_n 0, 1) := by decide +kernel
theorem dX4_asks_116 : decode cX4_asks 116 = .ok (.getfield 13, 3) := by decide +kernel
theorem dX4_asks_119 : decode cX4_asks 119 = .ok (.iload_n 1, 1) := by decide +kernel
theorem dX4_asks_120 : decode cX4_asks 120 = .ok (.iaload, 1) := by decide +kernel
theorem dX4_asks_121 : decode cX4_asks 121 = .ok (.iadd, 1) := by decide +kernel
theorem dX4_asks_122 : decode cX4_asks 122 = .ok (.iload_n 2, 1) := by decide +kernel
theorem dX4_asks_123 : decode cX4_asks 123 = .ok (.iastore, 1) := by decide +kernel
theorem dX4_asks_124 : decode cX4_asks 124 = .ok (.aload_n 0, 1) := by decide +kernel
theorem dX4_asks_125 : decode cX4_asks 125 = .ok (.getfield 13, 3) := by decide +kernel
theorem dX4_asks_128 : decode cX4_asks 128 = .ok (.iload_n 1, 1) := by decide +kernel
theorem dX4_asks_129 : decode cX4_asks 129 = .ok (.dup2, 1) := by decide +kernel
theorem dX4_asks_130 : decode cX4_asks 130 = .ok (.iaload, 1) := by decide +kernel
theorem dX4_asks_131 : decode cX4_asks 131 = .ok (.iconst 1, 1) := by decide +kernel
theorem dX4_asks_132 : decode cX4_asks 132 = .ok (.iadd, 1) := by decide +kernel
theorem dX4_asks_133 : decode cX4_asks 133 = .ok (.iastore, 1) := by decide +kernel
theorem dX4_asks_134 : decode cX4_asks 134 = .ok (.aload_n 0, 1) := by decide +kernel
theorem dX4_asks_135 : decode cX4_asks 135 = .ok (.getfield 28, 3) := by decide +kernel
theorem dX4_asks_138 : decode cX4_asks 138 = .ok (.iload_n 1, 1) := by decide +kernel
theorem dX4_asks_139 : decode cX4_asks 139 = .ok (.aload_n 0, 1) := by decide +kernel
theorem dX4_asks_140 : decode cX4_asks 140 = .ok (.invokevirtual 114, 3) := by decide +kernel
theorem dX4_asks_143 : decode cX4_asks 143 = .ok (.iastore, 1) := by decide +kernel
theorem dX4_asks_144 : decode cX4_asks 144 = .ok (.iconst 1, 1) := by decide +kernel
theorem dX4_asks_145 : decode cX4_asks 145 = .ok (.ireturn, 1) := by decide +kernel
theorem dX4_firstBack_0 : decode cX4_firstBack 0 = .ok (.iconst 0, 1) := by decide +kernel
theorem dX4_firstBack_1 : decode cX4_firstBack 1 = .ok (.istore_n 2, 1) := by decide +kernel
theorem dX4_firstBack_2 : decode cX4_firstBack 2 = .ok (.aload_n 0, 1) := by decide +kernel
theorem dX4_firstBack_3 : decode cX4_firstBack 3 = .ok (.getfield 72, 3) := by decide +kernel
theorem dX4_firstBack_6 : decode cX4_firstBack 6 = .ok (.aload_n 0, 1) := by decide +kernel
theorem dX4_firstBack_7 : decode cX4_firstBack 7 = .ok (.iload_n 1, 1) := by decide +kernel
theorem dX4_firstBack_8 : decode cX4_firstBack 8 = .ok (.iload_n 2, 1) := by decide +kernel
end
section
theorem dX4_firstBack_9 : decode cX4_firstBack 9 = .ok (.invokevirtual 97, 3) := by decide +kernel
theorem dX4_firstBack_12 : decode cX4_firstBack 12 = .ok (.baload, 1) := by decide +kernel
theorem dX4_firstBack_13 : decode cX4_firstBack 13 = .ok (.ifCond .ne 9, 3) := by decide +kernel
theorem dX4_firstBack_16 : decode cX4_firstBack 16 = .ok (.iinc 2 1, 3) := by decide +kernel
theorem dX4_firstBack_19 : decode cX4_firstBack 19 = .ok (.goto (-17), 3) := by decide +kernel
theorem dX4_firstBack_22 : decode cX4_firstBack 22 = .ok (.aload_n 0, 1) := by decide +kernel
theorem dX4_firstBack_23 : decode cX4_firstBack 23 = .ok (.iload_n 1, 1) := by decide +kernel
theorem dX4_firstBack_24 : decode cX4_firstBack 24 = .ok (.iload_n 2, 1) := by decide +kernel
theorem dX4_firstBack_25 : decode cX4_firstBack 25 = .ok (.invokevirtual 97, 3) := by decide +kernel
theorem dX4_firstBack_28 : decode cX4_firstBack 28 = .ok (.ireturn, 1) := by decide +kernel
theorem dX4_ring_0 : decode cX4_ring 0 = .ok (.aload_n 0, 1) := by decide +kernel
theorem dX4_ring_1 : decode cX4_ring 1 = .ok (.iconst 0, 1) := by decide +kernel
theorem dX4_ring_2 : decode cX4_ring 2 = .ok (.putfield 75, 3) := by decide +kernel
theorem dX4_ring_5 : decode cX4_ring 5 = .ok (.iload_n 1, 1) := by decide +kernel
theorem dX4_ring_6 : decode cX4_ring 6 = .ok (.ifCond .lt 11, 3) := by decide +kernel
theorem dX4_ring_9 : decode cX4_ring 9 = .ok (.iload_n 1, 1) := by decide +kernel
theorem dX4_ring_10 : decode cX4_ring 10 = .ok (.aload_n 0, 1) := by decide +kernel
theorem dX4_ring_11 : decode cX4_ring 11 = .ok (.getfield 108, 3) := by decide +kernel
theorem dX4_ring_14 : decode cX4_ring 14 = .ok (.if_icmp .lt 7, 3) := by decide +kernel
theorem dX4_ring_17 : decode cX4_ring 17 = .ok (.iconst (-1), 1) := by decide +kernel
theorem dX4_ring_18 : decode cX4_ring 18 = .ok (.goto 9, 3) := by decide +kernel
theorem dX4_ring_21 : decode cX4_ring 21 = .ok (.aload_n 0, 1) := by decide +kernel
theorem dX4_ring_22 : decode cX4_ring 22 = .ok (.getfield 69, 3) := by decide +kernel
theorem dX4_ring_25 : decode cX4_ring 25 = .ok (.iload_n 1, 1) := by decide +kernel
theorem dX4_ring_26 : decode cX4_ring 26 = .ok (.iaload, 1) := by decide +kernel
theorem dX4_ring_27 : decode cX4_ring 27 = .ok (.ireturn, 1) := by decide +kernel
theorem dX4_change_0 : decode cX4_change 0 = .ok (.aload_n 0, 1) := by decide +kernel
theorem dX4_change_1 : decode cX4_change 1 = .ok (.iconst 0, 1) := by decide +kernel
theorem dX4_change_2 : decode cX4_change 2 = .ok (.putfield 75, 3) := by decide +kernel
theorem dX4_change_5 : decode cX4_change 5 = .ok (.aload_n 0, 1) := by decide +kernel
theorem dX4_change_6 : decode cX4_change 6 = .ok (.iload_n 1, 1) := by decide +kernel
theorem dX4_change_7 : decode cX4_change 7 = .ok (.invokevirtual 101, 3) := by decide +kernel
theorem dX4_change_10 : decode cX4_change 10 = .ok (.ifCond .ne 5, 3) := by decide +kernel
theorem dX4_change_13 : decode cX4_change 13 = .ok (.iconst (-1), 1) := by decide +kernel
theorem dX4_change_14 : decode cX4_change 14 = .ok (.ireturn, 1) := by decide +kernel
theorem dX4_change_15 : decode cX4_change 15 = .ok (.aload_n 0, 1) := by decide +kernel
theorem dX4_change_16 : decode cX4_change 16 = .ok (.getfield 43, 3) := by decide +kernel
theorem dX4_change_19 : decode cX4_change 19 = .ok (.iload_n 1, 1) := by decide +kernel
theorem dX4_change_20 : decode cX4_change 20 = .ok (.laload, 1) := by decide +kernel
theorem dX4_change_21 : decode cX4_change 21 = .ok (.lload_n 2, 1) := by decide +kernel
theorem dX4_change_22 : decode cX4_change 22 = .ok (.lcmp, 1) := by decide +kernel
theorem dX4_change_23 : decode cX4_change 23 = .ok (.ifCond .eq 20, 3) := by decide +kernel
theorem dX4_change_26 : decode cX4_change 26 = .ok (.aload_n 0, 1) := by decide +kernel
theorem dX4_change_27 : decode cX4_change 27 = .ok (.getfield 43, 3) := by decide +kernel
theorem dX4_change_30 : decode cX4_change 30 = .ok (.iload_n 1, 1) := by decide +kernel
theorem dX4_change_31 : decode cX4_change 31 = .ok (.lload_n 2, 1) := by decide +kernel
theorem dX4_change_32 : decode cX4_change 32 = .ok (.lastore, 1) := by decide +kernel
theorem dX4_change_33 : decode cX4_change 33 = .ok (.aload_n 0, 1) := by decide +kernel
theorem dX4_change_34 : decode cX4_change 34 = .ok (.getfield 25, 3) := by decide +kernel
theorem dX4_change_37 : decode cX4_change 37 = .ok (.iload_n 1, 1) := by decide +kernel
theorem dX4_change_38 : decode cX4_change 38 = .ok (.aload_n 0, 1) := by decide +kernel
theorem dX4_change_39 : decode cX4_change 39 = .ok (.invokevirtual 114, 3) := by decide +kernel
theorem dX4_change_42 : decode cX4_change 42 = .ok (.iastore, 1) := by decide +kernel
theorem dX4_change_43 : decode cX4_change 43 = .ok (.aload_n 0, 1) := by decide +kernel
theorem dX4_change_44 : decode cX4_change 44 = .ok (.getfield 86, 3) := by decide +kernel
theorem dX4_change_47 : decode cX4_change 47 = .ok (.ireturn, 1) := by decide +kernel
theorem dX4_spoil_0 : decode cX4_spoil 0 = .ok (.aload_n 0, 1) := by decide +kernel
theorem dX4_spoil_1 : decode cX4_spoil 1 = .ok (.iconst 0, 1) := by decide +kernel
theorem dX4_spoil_2 : decode cX4_spoil 2 = .ok (.putfield 75, 3) := by decide +kernel
theorem dX4_spoil_5 : decode cX4_spoil 5 = .ok (.aload_n 0, 1) := by decide +kernel
theorem dX4_spoil_6 : decode cX4_spoil 6 = .ok (.iload_n 1, 1) := by decide +kernel
theorem dX4_spoil_7 : decode cX4_spoil 7 = .ok (.invokevirtual 82, 3) := by decide +kernel
theorem dX4_spoil_10 : decode cX4_spoil 10 = .ok (.ifCond .eq 11, 3) := by decide +kernel
theorem dX4_spoil_13 : decode cX4_spoil 13 = .ok (.aload_n 0, 1) := by decide +kernel
theorem dX4_spoil_14 : decode cX4_spoil 14 = .ok (.iload_n 1, 1) := by decide +kernel
theorem dX4_spoil_15 : decode cX4_spoil 15 = .ok (.invokevirtual 101, 3) := by decide +kernel
theorem dX4_spoil_18 : decode cX4_spoil 18 = .ok (.ifCond .eq 5, 3) := by decide +kernel
theorem dX4_spoil_21 : decode cX4_spoil 21 = .ok (.iconst (-1), 1) := by decide +kernel
theorem dX4_spoil_22 : decode cX4_spoil 22 = .ok (.ireturn, 1) := by decide +kernel
theorem dX4_spoil_23 : decode cX4_spoil 23 = .ok (.aload_n 0, 1) := by decide +kernel
theorem dX4_spoil_24 : decode cX4_spoil 24 = .ok (.getfield 47, 3) := by decide +kernel
theorem dX4_spoil_27 : decode cX4_spoil 27 = .ok (.iload_n 1, 1) := by decide +kernel
theorem dX4_spoil_28 : decode cX4_spoil 28 = .ok (.baload, 1) := by decide +kernel
theorem dX4_spoil_29 : decode cX4_spoil 29 = .ok (.iload_n 2, 1) := by decide +kernel
theorem dX4_spoil_30 : decode cX4_spoil 30 = .ok (.if_icmp .eq 20, 3) := by decide +kernel
theorem dX4_spoil_33 : decode cX4_spoil 33 = .ok (.aload_n 0, 1) := by decide +kernel
theorem dX4_spoil_34 : decode cX4_spoil 34 = .ok (.getfield 47, 3) := by decide +kernel
theorem dX4_spoil_37 : decode cX4_spoil 37 = .ok (.iload_n 1, 1) := by decide +kernel
theorem dX4_spoil_38 : decode cX4_spoil 38 = .ok (.iload_n 2, 1) := by decide +kernel
theorem dX4_spoil_39 : decode cX4_spoil 39 = .ok (.bastore, 1) := by decide +kernel
theorem dX4_spoil_40 : decode cX4_spoil 40 = .ok (.aload_n 0, 1) := by decide +kernel
theorem dX4_spoil_41 : decode cX4_spoil 41 = .ok (.getfield 28, 3) := by decide +kernel
theorem dX4_spoil_44 : decode cX4_spoil 44 = .ok (.iload_n 1, 1) := by decide +kernel
theorem dX4_spoil_45 : decode cX4_spoil 45 = .ok (.aload_n 0, 1) := by decide +kernel
theorem dX4_spoil_46 : decode cX4_spoil 46 = .ok (.invokevirtual 114, 3) := by decide +kernel
theorem dX4_spoil_49 : decode cX4_spoil 49 = .ok (.iastore, 1) := by decide +kernel
theorem dX4_spoil_50 : decode cX4_spoil 50 = .ok (.aload_n 0, 1) := by decide +kernel
theorem dX4_spoil_51 : decode cX4_spoil 51 = .ok (.getfield 86, 3) := by decide +kernel
theorem dX4_spoil_54 : decode cX4_spoil 54 = .ok (.ireturn, 1) := by decide +kernel
theorem dX4_isSure_0 : decode cX4_isSure 0 = .ok (.aload_n 0, 1) := by decide +kernel
theorem dX4_isSure_1 : decode cX4_isSure 1 = .ok (.getfield 7, 3) := by decide +kernel
theorem dX4_isSure_4 : decode cX4_isSure 4 = .ok (.iload_n 1, 1) := by decide +kernel
theorem dX4_isSure_5 : decode cX4_isSure 5 = .ok (.iaload, 1) := by decide +kernel
theorem dX4_isSure_6 : decode cX4_isSure 6 = .ok (.iconst (-1), 1) := by decide +kernel
theorem dX4_isSure_7 : decode cX4_isSure 7 = .ok (.if_icmp .eq 25, 3) := by decide +kernel
theorem dX4_isSure_10 : decode cX4_isSure 10 = .ok (.aload_n 0, 1) := by decide +kernel
theorem dX4_isSure_11 : decode cX4_isSure 11 = .ok (.getfield 51, 3) := by decide +kernel
theorem dX4_isSure_14 : decode cX4_isSure 14 = .ok (.iload_n 1, 1) := by decide +kernel
theorem dX4_isSure_15 : decode cX4_isSure 15 = .ok (.baload, 1) := by decide +kernel
theorem dX4_isSure_16 : decode cX4_isSure 16 = .ok (.ifCond .eq 20, 3) := by decide +kernel
theorem dX4_isSure_19 : decode cX4_isSure 19 = .ok (.aload_n 0, 1) := by decide +kernel
theorem dX4_isSure_20 : decode cX4_isSure 20 = .ok (.getfield 22, 3) := by decide +kernel
theorem dX4_isSure_23 : decode cX4_isSure 23 = .ok (.iload_n 1, 1) := by decide +kernel
theorem dX4_isSure_24 : decode cX4_isSure 24 = .ok (.iaload, 1) := by decide +kernel
theorem dX4_isSure_25 : decode cX4_isSure 25 = .ok (.aload_n 0, 1) := by decide +kernel
theorem dX4_isSure_26 : decode cX4_isSure 26 = .ok (.getfield 86, 3) := by decide +kernel
theorem dX4_isSure_29 : decode cX4_isSure 29 = .ok (.if_icmp .ne 7, 3) := by decide +kernel
theorem dX4_isSure_32 : decode cX4_isSure 32 = .ok (.iconst 1, 1) := by decide +kernel
theorem dX4_isSure_33 : decode cX4_isSure 33 = .ok (.goto 4, 3) := by decide +kernel
theorem dX4_isSure_36 : decode cX4_isSure 36 = .ok (.iconst 0, 1) := by decide +kernel
theorem dX4_isSure_37 : decode cX4_isSure 37 = .ok (.ireturn, 1) := by decide +kernel
theorem dX4_pileOf_0 : decode cX4_pileOf 0 = .ok (.iconst (-1), 1) := by decide +kernel
theorem dX4_pileOf_1 : decode cX4_pileOf 1 = .ok (.istore_n 2, 1) := by decide +kernel
theorem dX4_pileOf_2 : decode cX4_pileOf 2 = .ok (.iconst 0, 1) := by decide +kernel
theorem dX4_pileOf_3 : decode cX4_pileOf 3 = .ok (.istore_n 3, 1) := by decide +kernel
theorem dX4_pileOf_4 : decode cX4_pileOf 4 = .ok (.iload_n 3, 1) := by decide +kernel
theorem dX4_pileOf_5 : decode cX4_pileOf 5 = .ok (.iconst 5, 1) := by decide +kernel
theorem dX4_pileOf_6 : decode cX4_pileOf 6 = .ok (.if_icmp .ge 51, 3) := by decide +kernel
theorem dX4_pileOf_9 : decode cX4_pileOf 9 = .ok (.iconst 0, 1) := by decide +kernel
theorem dX4_pileOf_10 : decode cX4_pileOf 10 = .ok (.istore 4, 2) := by decide +kernel
theorem dX4_pileOf_12 : decode cX4_pileOf 12 = .ok (.iload 4, 2) := by decide +kernel
theorem dX4_pileOf_14 : decode cX4_pileOf 14 = .ok (.aload_n 0, 1) := by decide +kernel
theorem dX4_pileOf_15 : decode cX4_pileOf 15 = .ok (.getfield 54, 3) := by decide +kernel
theorem dX4_pileOf_18 : decode cX4_pileOf 18 = .ok (.iload_n 3, 1) := by decide +kernel
theorem dX4_pileOf_19 : decode cX4_pileOf 19 = .ok (.iaload, 1) := by decide +kernel
theorem dX4_pileOf_20 : decode cX4_pileOf 20 = .ok (.if_icmp .ge 31, 3) := by decide +kernel
theorem dX4_pileOf_23 : decode cX4_pileOf 23 = .ok (.aload_n 0, 1) := by decide +kernel
theorem dX4_pileOf_24 : decode cX4_pileOf 24 = .ok (.getfield 57, 3) := by decide +kernel
theorem dX4_pileOf_27 : decode cX4_pileOf 27 = .ok (.bipush 40, 2) := by decide +kernel
theorem dX4_pileOf_29 : decode cX4_pileOf 29 = .ok (.iload_n 3, 1) := by decide +kernel
theorem dX4_pileOf_30 : decode cX4_pileOf 30 = .ok (.imul, 1) := by decide +kernel
theorem dX4_pileOf_31 : decode cX4_pileOf 31 = .ok (.iload 4, 2) := by decide +kernel
theorem dX4_pileOf_33 : decode cX4_pileOf 33 = .ok (.iadd, 1) := by decide +kernel
theorem dX4_pileOf_34 : decode cX4_pileOf 34 = .ok (.iaload, 1) := by decide +kernel
theorem dX4_pileOf_35 : decode cX4_pileOf 35 = .ok (.iload_n 1, 1) := by decide +kernel
theorem dX4_pileOf_36 : decode cX4_pileOf 36 = .ok (.if_icmp .ne 7, 3) := by decide +kernel
theorem dX4_pileOf_39 : decode cX4_pileOf 39 = .ok (.iload_n 3, 1) := by decide +kernel
theorem dX4_pileOf_40 : decode cX4_pileOf 40 = .ok (.goto 4, 3) := by decide +kernel
theorem dX4_pileOf_43 : decode cX4_pileOf 43 = .ok (.iload_n 2, 1) := by decide +kernel
theorem dX4_pileOf_44 : decode cX4_pileOf 44 = .ok (.istore_n 2, 1) := by decide +kernel
theorem dX4_pileOf_45 : decode cX4_pileOf 45 = .ok (.iinc 4 1, 3) := by decide +kernel
theorem dX4_pileOf_48 : decode cX4_pileOf 48 = .ok (.goto (-36), 3) := by decide +kernel
theorem dX4_pileOf_51 : decode cX4_pileOf 51 = .ok (.iinc 3 1, 3) := by decide +kernel
theorem dX4_pileOf_54 : decode cX4_pileOf 54 = .ok (.goto (-50), 3) := by decide +kernel
theorem dX4_pileOf_57 : decode cX4_pileOf 57 = .ok (.iload_n 2, 1) := by decide +kernel
theorem dX4_pileOf_58 : decode cX4_pileOf 58 = .ok (.ireturn, 1) := by decide +kernel
theorem dX4_lay_0 : decode cX4_lay 0 = .ok (.bipush 40, 2) := by decide +kernel
theorem dX4_lay_2 : decode cX4_lay 2 = .ok (.iload_n 1, 1) := by decide +kernel
theorem dX4_lay_3 : decode cX4_lay 3 = .ok (.imul, 1) := by decide +kernel
theorem dX4_lay_4 : decode cX4_lay 4 = .ok (.aload_n 0, 1) := by decide +kernel
theorem dX4_lay_5 : decode cX4_lay 5 = .ok (.getfield 54, 3) := by decide +kernel
theorem dX4_lay_8 : decode cX4_lay 8 = .ok (.iload_n 1, 1) := by decide +kernel
theorem dX4_lay_9 : decode cX4_lay 9 = .ok (.iaload, 1) := by decide +kernel
theorem dX4_lay_10 : decode cX4_lay 10 = .ok (.iadd, 1) := by decide +kernel
theorem dX4_lay_11 : decode cX4_lay 11 = .ok (.istore_n 3, 1) := by decide +kernel
theorem dX4_lay_12 : decode cX4_lay 12 = .ok (.aload_n 0, 1) := by decide +kernel
theorem dX4_lay_13 : decode cX4_lay 13 = .ok (.getfield 57, 3) := by decide +kernel
theorem dX4_lay_16 : decode cX4_lay 16 = .ok (.iload_n 3, 1) := by decide +kernel
theorem dX4_lay_17 : decode cX4_lay 17 = .ok (.iload_n 2, 1) := by decide +kernel
theorem dX4_lay_18 : decode cX4_lay 18 = .ok (.iastore, 1) := by decide +kernel
theorem dX4_lay_19 : decode cX4_lay 19 = .ok (.aload_n 0, 1) := by decide +kernel
theorem dX4_lay_20 : decode cX4_lay 20 = .ok (.getfield 66, 3) := by decide +kernel
theorem dX4_lay_23 : decode cX4_lay 23 = .ok (.iload_n 3, 1) := by decide +kernel
theorem dX4_lay_24 : decode cX4_lay 24 = .ok (.aload_n 0, 1) := by decide +kernel
theorem dX4_lay_25 : decode cX4_lay 25 = .ok (.getfield 51, 3) := by decide +kernel
theorem dX4_lay_28 : decode cX4_lay 28 = .ok (.iload_n 2, 1) := by decide +kernel
theorem dX4_lay_29 : decode cX4_lay 29 = .ok (.baload, 1) := by decide +kernel
theorem dX4_lay_30 : decode cX4_lay 30 = .ok (.ifCond .eq 18, 3) := by decide +kernel
theorem dX4_lay_33 : decode cX4_lay 33 = .ok (.aload_n 0, 1) := by decide +kernel
theorem dX4_lay_34 : decode cX4_lay 34 = .ok (.getfield 28, 3) := by decide +kernel
theorem dX4_lay_37 : decode cX4_lay 37 = .ok (.iload_n 2, 1) := by decide +kernel
theorem dX4_lay_38 : decode cX4_lay 38 = .ok (.iaload, 1) := by decide +kernel
theorem dX4_lay_39 : decode cX4_lay 39 = .ok (.aload_n 0, 1) := by decide +kernel
theorem dX4_lay_40 : decode cX4_lay 40 = .ok (.getfield 22, 3) := by decide +kernel
theorem dX4_lay_43 : decode cX4_lay 43 = .ok (.iload_n 2, 1) := by decide +kernel
theorem dX4_lay_44 : decode cX4_lay 44 = .ok (.iaload, 1) := by decide +kernel
theorem dX4_lay_45 : decode cX4_lay 45 = .ok (.if_icmp .le 7, 3) := by decide +kernel
theorem dX4_lay_48 : decode cX4_lay 48 = .ok (.iconst 1, 1) := by decide +kernel
theorem dX4_lay_49 : decode cX4_lay 49 = .ok (.goto 4, 3) := by decide +kernel
theorem dX4_lay_52 : decode cX4_lay 52 = .ok (.iconst 0, 1) := by decide +kernel
theorem dX4_lay_53 : decode cX4_lay 53 = .ok (.bastore, 1) := by decide +kernel
theorem dX4_lay_54 : decode cX4_lay 54 = .ok (.aload_n 0, 1) := by decide +kernel
theorem dX4_lay_55 : decode cX4_lay 55 = .ok (.getfield 60, 3) := by decide +kernel
theorem dX4_lay_58 : decode cX4_lay 58 = .ok (.iload_n 3, 1) := by decide +kernel
theorem dX4_lay_59 : decode cX4_lay 59 = .ok (.iconst 0, 1) := by decide +kernel
theorem dX4_lay_60 : decode cX4_lay 60 = .ok (.iastore, 1) := by decide +kernel
theorem dX4_lay_61 : decode cX4_lay 61 = .ok (.aload_n 0, 1) := by decide +kernel
theorem dX4_lay_62 : decode cX4_lay 62 = .ok (.getfield 54, 3) := by decide +kernel
theorem dX4_lay_65 : decode cX4_lay 65 = .ok (.iload_n 1, 1) := by decide +kernel
theorem dX4_lay_66 : decode cX4_lay 66 = .ok (.dup2, 1) := by decide +kernel
theorem dX4_lay_67 : decode cX4_lay 67 = .ok (.iaload, 1) := by decide +kernel
theorem dX4_lay_68 : decode cX4_lay 68 = .ok (.iconst 1, 1) := by decide +kernel
theorem dX4_lay_69 : decode cX4_lay 69 = .ok (.iadd, 1) := by decide +kernel
theorem dX4_lay_70 : decode cX4_lay 70 = .ok (.iastore, 1) := by decide +kernel
theorem dX4_lay_71 : decode cX4_lay 71 = .ok (.return_, 1) := by decide +kernel
theorem dX4_isWorker_0 : decode cX4_isWorker 0 = .ok (.iload_n 0, 1) := by decide +kernel
theorem dX4_isWorker_1 : decode cX4_isWorker 1 = .ok (.ifCond .lt 12, 3) := by decide +kernel
theorem dX4_isWorker_4 : decode cX4_isWorker 4 = .ok (.iload_n 0, 1) := by decide +kernel
theorem dX4_isWorker_5 : decode cX4_isWorker 5 = .ok (.iconst 4, 1) := by decide +kernel
theorem dX4_isWorker_6 : decode cX4_isWorker 6 = .ok (.if_icmp .ge 7, 3) := by decide +kernel
theorem dX4_isWorker_9 : decode cX4_isWorker 9 = .ok (.iconst 1, 1) := by decide +kernel
theorem dX4_isWorker_10 : decode cX4_isWorker 10 = .ok (.goto 4, 3) := by decide +kernel
theorem dX4_isWorker_13 : decode cX4_isWorker 13 = .ok (.iconst 0, 1) := by decide +kernel
theorem dX4_isWorker_14 : decode cX4_isWorker 14 = .ok (.ireturn, 1) := by decide +kernel
theorem dX4_begin_0 : decode cX4_begin 0 = .ok (.aload_n 0, 1) := by decide +kernel
theorem dX4_begin_1 : decode cX4_begin 1 = .ok (.iconst 0, 1) := by decide +kernel
theorem dX4_begin_2 : decode cX4_begin 2 = .ok (.putfield 75, 3) := by decide +kernel
theorem dX4_begin_5 : decode cX4_begin 5 = .ok (.iload_n 1, 1) := by decide +kernel
theorem dX4_begin_6 : decode cX4_begin 6 = .ok (.invokestatic 117, 3) := by decide +kernel
theorem dX4_begin_9 : decode cX4_begin 9 = .ok (.ifCond .eq 20, 3) := by decide +kernel
theorem dX4_begin_12 : decode cX4_begin 12 = .ok (.aload_n 0, 1) := by decide +kernel
theorem dX4_begin_13 : decode cX4_begin 13 = .ok (.iload_n 2, 1) := by decide +kernel
theorem dX4_begin_14 : decode cX4_begin 14 = .ok (.invokevirtual 82, 3) := by decide +kernel
theorem dX4_begin_17 : decode cX4_begin 17 = .ok (.ifCond .eq 12, 3) := by decide +kernel
theorem dX4_begin_20 : decode cX4_begin 20 = .ok (.aload_n 0, 1) := by decide +kernel
theorem dX4_begin_21 : decode cX4_begin 21 = .ok (.getfield 54, 3) := by decide +kernel
theorem dX4_begin_24 : decode cX4_begin 24 = .ok (.iload_n 1, 1) := by decide +kernel
theorem dX4_begin_25 : decode cX4_begin 25 = .ok (.iaload, 1) := by decide +kernel
theorem dX4_begin_26 : decode cX4_begin 26 = .ok (.ifCond .le 5, 3) := by decide +kernel
theorem dX4_begin_29 : decode cX4_begin 29 = .ok (.iconst (-1), 1) := by decide +kernel
theorem dX4_begin_30 : decode cX4_begin 30 = .ok (.ireturn, 1) := by decide +kernel
theorem dX4_begin_31 : decode cX4_begin 31 = .ok (.aload_n 0, 1) := by decide +kernel
theorem dX4_begin_32 : decode cX4_begin 32 = .ok (.iload_n 2, 1) := by decide +kernel
theorem dX4_begin_33 : decode cX4_begin 33 = .ok (.invokevirtual 120, 3) := by decide +kernel
theorem dX4_begin_36 : decode cX4_begin 36 = .ok (.iconst (-1), 1) := by decide +kernel
theorem dX4_begin_37 : decode cX4_begin 37 = .ok (.if_icmp .eq 6, 3) := by decide +kernel
theorem dX4_begin_40 : decode cX4_begin 40 = .ok (.bipush (-2), 2) := by decide +kernel
theorem dX4_begin_42 : decode cX4_begin 42 = .ok (.ireturn, 1) := by decide +kernel
theorem dX4_begin_43 : decode cX4_begin 43 = .ok (.aload_n 0, 1) := by decide +kernel
theorem dX4_begin_44 : decode cX4_begin 44 = .ok (.iload_n 2, 1) := by decide +kernel
theorem dX4_begin_45 : decode cX4_begin 45 = .ok (.invokevirtual 123, 3) := by decide +kernel
theorem dX4_begin_48 : decode cX4_begin 48 = .ok (.ifCond .eq 5, 3) := by decide +kernel
theorem dX4_begin_51 : decode cX4_begin 51 = .ok (.iconst 0, 1) := by decide +kernel
theorem dX4_begin_52 : decode cX4_begin 52 = .ok (.ireturn, 1) := by decide +kernel
theorem dX4_begin_53 : decode cX4_begin 53 = .ok (.aload_n 0, 1) := by decide +kernel
theorem dX4_begin_54 : decode cX4_begin 54 = .ok (.iload_n 1, 1) := by decide +kernel
theorem dX4_begin_55 : decode cX4_begin 55 = .ok (.iload_n 2, 1) := by decide +kernel
theorem dX4_begin_56 : decode cX4_begin 56 = .ok (.invokevirtual 126, 3) := by decide +kernel
theorem dX4_begin_59 : decode cX4_begin 59 = .ok (.iconst 1, 1) := by decide +kernel
theorem dX4_begin_60 : decode cX4_begin 60 = .ok (.ireturn, 1) := by decide +kernel
theorem dX4_cancel_0 : decode cX4_cancel 0 = .ok (.aload_n 0, 1) := by decide +kernel
theorem dX4_cancel_1 : decode cX4_cancel 1 = .ok (.iconst 0, 1) := by decide +kernel
theorem dX4_cancel_2 : decode cX4_cancel 2 = .ok (.putfield 75, 3) := by decide +kernel
theorem dX4_cancel_5 : decode cX4_cancel 5 = .ok (.aload_n 0, 1) := by decide +kernel
theorem dX4_cancel_6 : decode cX4_cancel 6 = .ok (.invokevirtual 93, 3) := by decide +kernel
theorem dX4_cancel_9 : decode cX4_cancel 9 = .ok (.ireturn, 1) := by decide +kernel
theorem dX4_taken_0 : decode cX4_taken 0 = .ok (.aload_n 0, 1) := by decide +kernel
theorem dX4_taken_1 : decode cX4_taken 1 = .ok (.getfield 43, 3) := by decide +kernel
theorem dX4_taken_4 : decode cX4_taken 4 = .ok (.aload_n 0, 1) := by decide +kernel
theorem dX4_taken_5 : decode cX4_taken 5 = .ok (.aload_n 0, 1) := by decide +kernel
theorem dX4_taken_6 : decode cX4_taken 6 = .ok (.getfield 57, 3) := by decide +kernel
theorem dX4_taken_9 : decode cX4_taken 9 = .ok (.iload_n 1, 1) := by decide +kernel
theorem dX4_taken_10 : decode cX4_taken 10 = .ok (.iaload, 1) := by decide +kernel
theorem dX4_taken_11 : decode cX4_taken 11 = .ok (.aload_n 0, 1) := by decide +kernel
theorem dX4_taken_12 : decode cX4_taken 12 = .ok (.getfield 63, 3) := by decide +kernel
theorem dX4_taken_15 : decode cX4_taken 15 = .ok (.bipush 8, 2) := by decide +kernel
theorem dX4_taken_17 : decode cX4_taken 17 = .ok (.iload_n 1, 1) := by decide +kernel
theorem dX4_taken_18 : decode cX4_taken 18 = .ok (.imul, 1) := by decide +kernel
theorem dX4_taken_19 : decode cX4_taken 19 = .ok (.iload_n 2, 1) := by decide +kernel
theorem dX4_taken_20 : decode cX4_taken 20 = .ok (.iadd, 1) := by decide +kernel
theorem dX4_taken_21 : decode cX4_taken 21 = .ok (.iaload, 1) := by decide +kernel
theorem dX4_taken_22 : decode cX4_taken 22 = .ok (.invokevirtual 97, 3) := by decide +kernel
theorem dX4_taken_25 : decode cX4_taken 25 = .ok (.laload, 1) := by decide +kernel
theorem dX4_taken_26 : decode cX4_taken 26 = .ok (.lreturn, 1) := by decide +kernel
theorem dX4_comes_0 : decode cX4_comes 0 = .ok (.aload_n 0, 1) := by decide +kernel
theorem dX4_comes_1 : decode cX4_comes 1 = .ok (.getfield 57, 3) := by decide +kernel
theorem dX4_comes_4 : decode cX4_comes 4 = .ok (.iload_n 1, 1) := by decide +kernel
theorem dX4_comes_5 : decode cX4_comes 5 = .ok (.iaload, 1) := by decide +kernel
theorem dX4_comes_6 : decode cX4_comes 6 = .ok (.istore_n 2, 1) := by decide +kernel
theorem dX4_comes_7 : decode cX4_comes 7 = .ok (.aload_n 0, 1) := by decide +kernel
theorem dX4_comes_8 : decode cX4_comes 8 = .ok (.getfield 60, 3) := by decide +kernel
theorem dX4_comes_11 : decode cX4_comes 11 = .ok (.iload_n 1, 1) := by decide +kernel
theorem dX4_comes_12 : decode cX4_comes 12 = .ok (.iaload, 1) := by decide +kernel
theorem dX4_comes_13 : decode cX4_comes 13 = .ok (.istore_n 3, 1) := by decide +kernel
theorem dX4_comes_14 : decode cX4_comes 14 = .ok (.aload_n 0, 1) := by decide +kernel
theorem dX4_comes_15 : decode cX4_comes 15 = .ok (.getfield 13, 3) := by decide +kernel
theorem dX4_comes_18 : decode cX4_comes 18 = .ok (.iload_n 2, 1) := by decide +kernel
theorem dX4_comes_19 : decode cX4_comes 19 = .ok (.iaload, 1) := by decide +kernel
theorem dX4_comes_20 : decode cX4_comes 20 = .ok (.istore 4, 2) := by decide +kernel
theorem dX4_comes_22 : decode cX4_comes 22 = .ok (.aload_n 0, 1) := by decide +kernel
theorem dX4_comes_23 : decode cX4_comes 23 = .ok (.getfield 47, 3) := by decide +kernel
theorem dX4_comes_26 : decode cX4_comes 26 = .ok (.iload_n 2, 1) := by decide +kernel
theorem dX4_comes_27 : decode cX4_comes 27 = .ok (.baload, 1) := by decide +kernel
theorem dX4_comes_28 : decode cX4_comes 28 = .ok (.ifCond .ne 18, 3) := by decide +kernel
theorem dX4_comes_31 : decode cX4_comes 31 = .ok (.aload_n 0, 1) := by decide +kernel
theorem dX4_comes_32 : decode cX4_comes 32 = .ok (.getfield 7, 3) := by decide +kernel
theorem dX4_comes_35 : decode cX4_comes 35 = .ok (.iload_n 2, 1) := by decide +kernel
theorem dX4_comes_36 : decode cX4_comes 36 = .ok (.iaload, 1) := by decide +kernel
theorem dX4_comes_37 : decode cX4_comes 37 = .ok (.iconst 5, 1) := by decide +kernel
theorem dX4_comes_38 : decode cX4_comes 38 = .ok (.if_icmp .ne 11, 3) := by decide +kernel
theorem dX4_comes_41 : decode cX4_comes 41 = .ok (.iload 4, 2) := by decide +kernel
theorem dX4_comes_43 : decode cX4_comes 43 = .ok (.ifCond .ne 6, 3) := by decide +kernel
theorem dX4_comes_46 : decode cX4_comes 46 = .ok (.bipush (-2), 2) := by decide +kernel
theorem dX4_comes_48 : decode cX4_comes 48 = .ok (.ireturn, 1) := by decide +kernel
theorem dX4_comes_49 : decode cX4_comes 49 = .ok (.aload_n 0, 1) := by decide +kernel
theorem dX4_comes_50 : decode cX4_comes 50 = .ok (.getfield 7, 3) := by decide +kernel
theorem dX4_comes_53 : decode cX4_comes 53 = .ok (.iload_n 2, 1) := by decide +kernel
theorem dX4_comes_54 : decode cX4_comes 54 = .ok (.iaload, 1) := by decide +kernel
theorem dX4_comes_55 : decode cX4_comes 55 = .ok (.iconst 1, 1) := by decide +kernel
theorem dX4_comes_56 : decode cX4_comes 56 = .ok (.if_icmp .ne 22, 3) := by decide +kernel
theorem dX4_comes_59 : decode cX4_comes 59 = .ok (.iload_n 3, 1) := by decide +kernel
theorem dX4_comes_60 : decode cX4_comes 60 = .ok (.ifCond .le 18, 3) := by decide +kernel
theorem dX4_comes_63 : decode cX4_comes 63 = .ok (.aload_n 0, 1) := by decide +kernel
theorem dX4_comes_64 : decode cX4_comes 64 = .ok (.iload_n 1, 1) := by decide +kernel
theorem dX4_comes_65 : decode cX4_comes 65 = .ok (.iload_n 3, 1) := by decide +kernel
theorem dX4_comes_66 : decode cX4_comes 66 = .ok (.iconst 1, 1) := by decide +kernel
theorem dX4_comes_67 : decode cX4_comes 67 = .ok (.isub, 1) := by decide +kernel
theorem dX4_comes_68 : decode cX4_comes 68 = .ok (.invokevirtual 130, 3) := by decide +kernel
theorem dX4_comes_71 : decode cX4_comes 71 = .ok (.lconst 0, 1) := by decide +kernel
theorem dX4_comes_72 : decode cX4_comes 72 = .ok (.lcmp, 1) := by decide +kernel
theorem dX4_comes_73 : decode cX4_comes 73 = .ok (.ifCond .eq 5, 3) := by decide +kernel
theorem dX4_comes_76 : decode cX4_comes 76 = .ok (.iconst (-1), 1) := by decide +kernel
theorem dX4_comes_77 : decode cX4_comes 77 = .ok (.ireturn, 1) := by decide +kernel
theorem dX4_comes_78 : decode cX4_comes 78 = .ok (.aload_n 0, 1) := by decide +kernel
theorem dX4_comes_79 : decode cX4_comes 79 = .ok (.getfield 7, 3) := by decide +kernel
theorem dX4_comes_82 : decode cX4_comes 82 = .ok (.iload_n 2, 1) := by decide +kernel
theorem dX4_comes_83 : decode cX4_comes 83 = .ok (.iaload, 1) := by decide +kernel
theorem dX4_comes_84 : decode cX4_comes 84 = .ok (.iconst 3, 1) := by decide +kernel
theorem dX4_comes_85 : decode cX4_comes 85 = .ok (.if_icmp .ne 24, 3) := by decide +kernel
theorem dX4_comes_88 : decode cX4_comes 88 = .ok (.iload_n 3, 1) := by decide +kernel
theorem dX4_comes_89 : decode cX4_comes 89 = .ok (.iconst 1, 1) := by decide +kernel
theorem dX4_comes_90 : decode cX4_comes 90 = .ok (.if_icmp .le 19, 3) := by decide +kernel
theorem dX4_comes_93 : decode cX4_comes 93 = .ok (.aload_n 0, 1) := by decide +kernel
theorem dX4_comes_94 : decode cX4_comes 94 = .ok (.iload_n 1, 1) := by decide +kernel
theorem dX4_comes_95 : decode cX4_comes 95 = .ok (.iload_n 3, 1) := by decide +kernel
theorem dX4_comes_96 : decode cX4_comes 96 = .ok (.iconst 1, 1) := by decide +kernel
theorem dX4_comes_97 : decode cX4_comes 97 = .ok (.isub, 1) := by decide +kernel
theorem dX4_comes_98 : decode cX4_comes 98 = .ok (.invokevirtual 130, 3) := by decide +kernel
theorem dX4_comes_101 : decode cX4_comes 101 = .ok (.lconst 0, 1) := by decide +kernel
theorem dX4_comes_102 : decode cX4_comes 102 = .ok (.lcmp, 1) := by decide +kernel
theorem dX4_comes_103 : decode cX4_comes 103 = .ok (.ifCond .ne 6, 3) := by decide +kernel
theorem dX4_comes_106 : decode cX4_comes 106 = .ok (.bipush (-2), 2) := by decide +kernel
theorem dX4_comes_108 : decode cX4_comes 108 = .ok (.ireturn, 1) := by decide +kernel
theorem dX4_comes_109 : decode cX4_comes 109 = .ok (.aload_n 0, 1) := by decide +kernel
theorem dX4_comes_110 : decode cX4_comes 110 = .ok (.getfield 7, 3) := by decide +kernel
theorem dX4_comes_113 : decode cX4_comes 113 = .ok (.iload_n 2, 1) := by decide +kernel
theorem dX4_comes_114 : decode cX4_comes 114 = .ok (.iaload, 1) := by decide +kernel
theorem dX4_comes_115 : decode cX4_comes 115 = .ok (.iconst 2, 1) := by decide +kernel
theorem dX4_comes_116 : decode cX4_comes 116 = .ok (.if_icmp .ne 7, 3) := by decide +kernel
theorem dX4_comes_119 : decode cX4_comes 119 = .ok (.iload_n 3, 1) := by decide +kernel
theorem dX4_comes_120 : decode cX4_comes 120 = .ok (.ifCond .ne 15, 3) := by decide +kernel
theorem dX4_comes_123 : decode cX4_comes 123 = .ok (.iload_n 3, 1) := by decide +kernel
theorem dX4_comes_124 : decode cX4_comes 124 = .ok (.iload 4, 2) := by decide +kernel
theorem dX4_comes_126 : decode cX4_comes 126 = .ok (.if_icmp .ge 7, 3) := by decide +kernel
theorem dX4_comes_129 : decode cX4_comes 129 = .ok (.iload_n 3, 1) := by decide +kernel
theorem dX4_comes_130 : decode cX4_comes 130 = .ok (.goto 4, 3) := by decide +kernel
theorem dX4_comes_133 : decode cX4_comes 133 = .ok (.iconst (-1), 1) := by decide +kernel
theorem dX4_comes_134 : decode cX4_comes 134 = .ok (.ireturn, 1) := by decide +kernel
theorem dX4_comes_135 : decode cX4_comes 135 = .ok (.iload_n 3, 1) := by decide +kernel
theorem dX4_comes_136 : decode cX4_comes 136 = .ok (.iconst 1, 1) := by decide +kernel
theorem dX4_comes_137 : decode cX4_comes 137 = .ok (.if_icmp .ne 27, 3) := by decide +kernel
theorem dX4_comes_140 : decode cX4_comes 140 = .ok (.iload 4, 2) := by decide +kernel
theorem dX4_comes_142 : decode cX4_comes 142 = .ok (.iconst 1, 1) := by decide +kernel
theorem dX4_comes_143 : decode cX4_comes 143 = .ok (.if_icmp .le 21, 3) := by decide +kernel
theorem dX4_comes_146 : decode cX4_comes 146 = .ok (.iconst 1, 1) := by decide +kernel
theorem dX4_comes_147 : decode cX4_comes 147 = .ok (.aload_n 0, 1) := by decide +kernel
theorem dX4_comes_148 : decode cX4_comes 148 = .ok (.iload_n 1, 1) := by decide +kernel
theorem dX4_comes_149 : decode cX4_comes 149 = .ok (.iconst 0, 1) := by decide +kernel
theorem dX4_comes_150 : decode cX4_comes 150 = .ok (.invokevirtual 130, 3) := by decide +kernel
theorem dX4_comes_153 : decode cX4_comes 153 = .ok (.iload 4, 2) := by decide +kernel
theorem dX4_comes_155 : decode cX4_comes 155 = .ok (.iconst 1, 1) := by decide +kernel
theorem dX4_comes_156 : decode cX4_comes 156 = .ok (.isub, 1) := by decide +kernel
theorem dX4_comes_157 : decode cX4_comes 157 = .ok (.invokestatic 134, 3) := by decide +kernel
theorem dX4_comes_160 : decode cX4_comes 160 = .ok (.iadd, 1) := by decide +kernel
theorem dX4_comes_161 : decode cX4_comes 161 = .ok (.goto 4, 3) := by decide +kernel
theorem dX4_comes_164 : decode cX4_comes 164 = .ok (.iconst (-1), 1) := by decide +kernel
theorem dX4_comes_165 : decode cX4_comes 165 = .ok (.ireturn, 1) := by decide +kernel
theorem dX4_remainder_0 : decode cX4_remainder 0 = .ok (.lload_n 0, 1) := by decide +kernel
theorem dX4_remainder_1 : decode cX4_remainder 1 = .ok (.iload_n 2, 1) := by decide +kernel
theorem dX4_remainder_2 : decode cX4_remainder 2 = .ok (.i2l, 1) := by decide +kernel
theorem dX4_remainder_3 : decode cX4_remainder 3 = .ok (.lrem, 1) := by decide +kernel
theorem dX4_remainder_4 : decode cX4_remainder 4 = .ok (.l2i, 1) := by decide +kernel
theorem dX4_remainder_5 : decode cX4_remainder 5 = .ok (.istore_n 3, 1) := by decide +kernel
theorem dX4_remainder_6 : decode cX4_remainder 6 = .ok (.iload_n 3, 1) := by decide +kernel
theorem dX4_remainder_7 : decode cX4_remainder 7 = .ok (.ifCond .ge 9, 3) := by decide +kernel
theorem dX4_remainder_10 : decode cX4_remainder 10 = .ok (.iload_n 3, 1) := by decide +kernel
theorem dX4_remainder_11 : decode cX4_remainder 11 = .ok (.iload_n 2, 1) := by decide +kernel
theorem dX4_remainder_12 : decode cX4_remainder 12 = .ok (.iadd, 1) := by decide +kernel
theorem dX4_remainder_13 : decode cX4_remainder 13 = .ok (.goto 4, 3) := by decide +kernel
theorem dX4_remainder_16 : decode cX4_remainder 16 = .ok (.iload_n 3, 1) := by decide +kernel
theorem dX4_remainder_17 : decode cX4_remainder 17 = .ok (.ireturn, 1) := by decide +kernel
theorem dX4_outcome_0 : decode cX4_outcome 0 = .ok (.aload_n 0, 1) := by decide +kernel
theorem dX4_outcome_1 : decode cX4_outcome 1 = .ok (.getfield 7, 3) := by decide +kernel
theorem dX4_outcome_4 : decode cX4_outcome 4 = .ok (.aload_n 0, 1) := by decide +kernel
theorem dX4_outcome_5 : decode cX4_outcome 5 = .ok (.getfield 57, 3) := by decide +kernel
theorem dX4_outcome_8 : decode cX4_outcome 8 = .ok (.iload_n 1, 1) := by decide +kernel
theorem dX4_outcome_9 : decode cX4_outcome 9 = .ok (.iaload, 1) := by decide +kernel
theorem dX4_outcome_10 : decode cX4_outcome 10 = .ok (.iaload, 1) := by decide +kernel
theorem dX4_outcome_11 : decode cX4_outcome 11 = .ok (.istore_n 2, 1) := by decide +kernel
theorem dX4_outcome_12 : decode cX4_outcome 12 = .ok (.aload_n 0, 1) := by decide +kernel
theorem dX4_outcome_13 : decode cX4_outcome 13 = .ok (.getfield 60, 3) := by decide +kernel
theorem dX4_outcome_16 : decode cX4_outcome 16 = .ok (.iload_n 1, 1) := by decide +kernel
theorem dX4_outcome_17 : decode cX4_outcome 17 = .ok (.iaload, 1) := by decide +kernel
theorem dX4_outcome_18 : decode cX4_outcome 18 = .ok (.istore_n 3, 1) := by decide +kernel
theorem dX4_outcome_19 : decode cX4_outcome 19 = .ok (.iload_n 3, 1) := by decide +kernel
theorem dX4_outcome_20 : decode cX4_outcome 20 = .ok (.ifCond .ne 7, 3) := by decide +kernel
theorem dX4_outcome_23 : decode cX4_outcome 23 = .ok (.lconst 0, 1) := by decide +kernel
theorem dX4_outcome_24 : decode cX4_outcome 24 = .ok (.goto 30, 3) := by decide +kernel
theorem dX4_outcome_27 : decode cX4_outcome 27 = .ok (.iload_n 2, 1) := by decide +kernel
theorem dX4_outcome_28 : decode cX4_outcome 28 = .ok (.iconst 1, 1) := by decide +kernel
end
section
theorem dX4_outcome_29 : decode cX4_outcome 29 = .ok (.if_icmp .eq 8, 3) := by decide +kernel
theorem dX4_outcome_32 : decode cX4_outcome 32 = .ok (.iload_n 2, 1) := by decide +kernel
theorem dX4_outcome_33 : decode cX4_outcome 33 = .ok (.iconst 2, 1) := by decide +kernel
theorem dX4_outcome_34 : decode cX4_outcome 34 = .ok (.if_icmp .ne 14, 3) := by decide +kernel
theorem dX4_outcome_37 : decode cX4_outcome 37 = .ok (.aload_n 0, 1) := by decide +kernel
theorem dX4_outcome_38 : decode cX4_outcome 38 = .ok (.iload_n 1, 1) := by decide +kernel
theorem dX4_outcome_39 : decode cX4_outcome 39 = .ok (.iload_n 3, 1) := by decide +kernel
theorem dX4_outcome_40 : decode cX4_outcome 40 = .ok (.iconst 1, 1) := by decide +kernel
theorem dX4_outcome_41 : decode cX4_outcome 41 = .ok (.isub, 1) := by decide +kernel
theorem dX4_outcome_42 : decode cX4_outcome 42 = .ok (.invokevirtual 130, 3) := by decide +kernel
theorem dX4_outcome_45 : decode cX4_outcome 45 = .ok (.goto 9, 3) := by decide +kernel
theorem dX4_outcome_48 : decode cX4_outcome 48 = .ok (.aload_n 0, 1) := by decide +kernel
theorem dX4_outcome_49 : decode cX4_outcome 49 = .ok (.iload_n 1, 1) := by decide +kernel
theorem dX4_outcome_50 : decode cX4_outcome 50 = .ok (.iconst 0, 1) := by decide +kernel
theorem dX4_outcome_51 : decode cX4_outcome 51 = .ok (.invokevirtual 130, 3) := by decide +kernel
theorem dX4_outcome_54 : decode cX4_outcome 54 = .ok (.lstore 4, 2) := by decide +kernel
theorem dX4_outcome_56 : decode cX4_outcome 56 = .ok (.iconst 1, 1) := by decide +kernel
theorem dX4_outcome_57 : decode cX4_outcome 57 = .ok (.istore 6, 2) := by decide +kernel
theorem dX4_outcome_59 : decode cX4_outcome 59 = .ok (.iload 6, 2) := by decide +kernel
theorem dX4_outcome_61 : decode cX4_outcome 61 = .ok (.iload_n 3, 1) := by decide +kernel
theorem dX4_outcome_62 : decode cX4_outcome 62 = .ok (.if_icmp .ge 89, 3) := by decide +kernel
theorem dX4_outcome_65 : decode cX4_outcome 65 = .ok (.aload_n 0, 1) := by decide +kernel
theorem dX4_outcome_66 : decode cX4_outcome 66 = .ok (.iload_n 1, 1) := by decide +kernel
theorem dX4_outcome_67 : decode cX4_outcome 67 = .ok (.iload 6, 2) := by decide +kernel
theorem dX4_outcome_69 : decode cX4_outcome 69 = .ok (.invokevirtual 130, 3) := by decide +kernel
theorem dX4_outcome_72 : decode cX4_outcome 72 = .ok (.lstore 7, 2) := by decide +kernel
theorem dX4_outcome_74 : decode cX4_outcome 74 = .ok (.iload_n 2, 1) := by decide +kernel
theorem dX4_outcome_75 : decode cX4_outcome 75 = .ok (.ifCond .eq 8, 3) := by decide +kernel
theorem dX4_outcome_78 : decode cX4_outcome 78 = .ok (.iload_n 2, 1) := by decide +kernel
theorem dX4_outcome_79 : decode cX4_outcome 79 = .ok (.iconst 4, 1) := by decide +kernel
theorem dX4_outcome_80 : decode cX4_outcome 80 = .ok (.if_icmp .ne 13, 3) := by decide +kernel
theorem dX4_outcome_83 : decode cX4_outcome 83 = .ok (.lload 4, 2) := by decide +kernel
theorem dX4_outcome_85 : decode cX4_outcome 85 = .ok (.lload 7, 2) := by decide +kernel
theorem dX4_outcome_87 : decode cX4_outcome 87 = .ok (.ladd, 1) := by decide +kernel
theorem dX4_outcome_88 : decode cX4_outcome 88 = .ok (.lstore 4, 2) := by decide +kernel
theorem dX4_outcome_90 : decode cX4_outcome 90 = .ok (.goto 55, 3) := by decide +kernel
theorem dX4_outcome_93 : decode cX4_outcome 93 = .ok (.iload_n 2, 1) := by decide +kernel
theorem dX4_outcome_94 : decode cX4_outcome 94 = .ok (.iconst 3, 1) := by decide +kernel
theorem dX4_outcome_95 : decode cX4_outcome 95 = .ok (.if_icmp .ne 28, 3) := by decide +kernel
theorem dX4_outcome_98 : decode cX4_outcome 98 = .ok (.lload 7, 2) := by decide +kernel
theorem dX4_outcome_100 : decode cX4_outcome 100 = .ok (.ldc2_w 138, 3) := by decide +kernel
theorem dX4_outcome_103 : decode cX4_outcome 103 = .ok (.lcmp, 1) := by decide +kernel
theorem dX4_outcome_104 : decode cX4_outcome 104 = .ok (.ifCond .ne 9, 3) := by decide +kernel
theorem dX4_outcome_107 : decode cX4_outcome 107 = .ok (.lload 4, 2) := by decide +kernel
theorem dX4_outcome_109 : decode cX4_outcome 109 = .ok (.lneg, 1) := by decide +kernel
theorem dX4_outcome_110 : decode cX4_outcome 110 = .ok (.goto 8, 3) := by decide +kernel
theorem dX4_outcome_113 : decode cX4_outcome 113 = .ok (.lload 4, 2) := by decide +kernel
theorem dX4_outcome_115 : decode cX4_outcome 115 = .ok (.lload 7, 2) := by decide +kernel
theorem dX4_outcome_117 : decode cX4_outcome 117 = .ok (.ldiv, 1) := by decide +kernel
theorem dX4_outcome_118 : decode cX4_outcome 118 = .ok (.lstore 4, 2) := by decide +kernel
theorem dX4_outcome_120 : decode cX4_outcome 120 = .ok (.goto 25, 3) := by decide +kernel
theorem dX4_outcome_123 : decode cX4_outcome 123 = .ok (.iload_n 2, 1) := by decide +kernel
theorem dX4_outcome_124 : decode cX4_outcome 124 = .ok (.iconst 5, 1) := by decide +kernel
theorem dX4_outcome_125 : decode cX4_outcome 125 = .ok (.if_icmp .ne 20, 3) := by decide +kernel
theorem dX4_outcome_128 : decode cX4_outcome 128 = .ok (.lload 7, 2) := by decide +kernel
theorem dX4_outcome_130 : decode cX4_outcome 130 = .ok (.lload 4, 2) := by decide +kernel
theorem dX4_outcome_132 : decode cX4_outcome 132 = .ok (.lcmp, 1) := by decide +kernel
theorem dX4_outcome_133 : decode cX4_outcome 133 = .ok (.ifCond .le 8, 3) := by decide +kernel
theorem dX4_outcome_136 : decode cX4_outcome 136 = .ok (.lload 7, 2) := by decide +kernel
theorem dX4_outcome_138 : decode cX4_outcome 138 = .ok (.goto 5, 3) := by decide +kernel
theorem dX4_outcome_141 : decode cX4_outcome 141 = .ok (.lload 4, 2) := by decide +kernel
theorem dX4_outcome_143 : decode cX4_outcome 143 = .ok (.lstore 4, 2) := by decide +kernel
theorem dX4_outcome_145 : decode cX4_outcome 145 = .ok (.iinc 6 1, 3) := by decide +kernel
theorem dX4_outcome_148 : decode cX4_outcome 148 = .ok (.goto (-89), 3) := by decide +kernel
theorem dX4_outcome_151 : decode cX4_outcome 151 = .ok (.iload_n 2, 1) := by decide +kernel
theorem dX4_outcome_152 : decode cX4_outcome 152 = .ok (.iconst 4, 1) := by decide +kernel
theorem dX4_outcome_153 : decode cX4_outcome 153 = .ok (.if_icmp .ne 10, 3) := by decide +kernel
theorem dX4_outcome_156 : decode cX4_outcome 156 = .ok (.lload 4, 2) := by decide +kernel
theorem dX4_outcome_158 : decode cX4_outcome 158 = .ok (.lconst 1, 1) := by decide +kernel
theorem dX4_outcome_159 : decode cX4_outcome 159 = .ok (.land, 1) := by decide +kernel
theorem dX4_outcome_160 : decode cX4_outcome 160 = .ok (.goto 5, 3) := by decide +kernel
theorem dX4_outcome_163 : decode cX4_outcome 163 = .ok (.lload 4, 2) := by decide +kernel
theorem dX4_outcome_165 : decode cX4_outcome 165 = .ok (.lreturn, 1) := by decide +kernel
theorem dX4_end_0 : decode cX4_end 0 = .ok (.bipush 40, 2) := by decide +kernel
theorem dX4_end_2 : decode cX4_end 2 = .ok (.iload_n 1, 1) := by decide +kernel
theorem dX4_end_3 : decode cX4_end 3 = .ok (.imul, 1) := by decide +kernel
theorem dX4_end_4 : decode cX4_end 4 = .ok (.aload_n 0, 1) := by decide +kernel
theorem dX4_end_5 : decode cX4_end 5 = .ok (.getfield 54, 3) := by decide +kernel
theorem dX4_end_8 : decode cX4_end 8 = .ok (.iload_n 1, 1) := by decide +kernel
theorem dX4_end_9 : decode cX4_end 9 = .ok (.iaload, 1) := by decide +kernel
theorem dX4_end_10 : decode cX4_end 10 = .ok (.iadd, 1) := by decide +kernel
theorem dX4_end_11 : decode cX4_end 11 = .ok (.iconst 1, 1) := by decide +kernel
theorem dX4_end_12 : decode cX4_end 12 = .ok (.isub, 1) := by decide +kernel
theorem dX4_end_13 : decode cX4_end 13 = .ok (.istore 5, 2) := by decide +kernel
theorem dX4_end_15 : decode cX4_end 15 = .ok (.aload_n 0, 1) := by decide +kernel
theorem dX4_end_16 : decode cX4_end 16 = .ok (.getfield 57, 3) := by decide +kernel
theorem dX4_end_19 : decode cX4_end 19 = .ok (.iload 5, 2) := by decide +kernel
theorem dX4_end_21 : decode cX4_end 21 = .ok (.iaload, 1) := by decide +kernel
theorem dX4_end_22 : decode cX4_end 22 = .ok (.istore 6, 2) := by decide +kernel
theorem dX4_end_24 : decode cX4_end 24 = .ok (.aload_n 0, 1) := by decide +kernel
theorem dX4_end_25 : decode cX4_end 25 = .ok (.getfield 51, 3) := by decide +kernel
theorem dX4_end_28 : decode cX4_end 28 = .ok (.iload 6, 2) := by decide +kernel
theorem dX4_end_30 : decode cX4_end 30 = .ok (.baload, 1) := by decide +kernel
theorem dX4_end_31 : decode cX4_end 31 = .ok (.ifCond .eq 35, 3) := by decide +kernel
theorem dX4_end_34 : decode cX4_end 34 = .ok (.aload_n 0, 1) := by decide +kernel
theorem dX4_end_35 : decode cX4_end 35 = .ok (.getfield 19, 3) := by decide +kernel
theorem dX4_end_38 : decode cX4_end 38 = .ok (.iload 6, 2) := by decide +kernel
theorem dX4_end_40 : decode cX4_end 40 = .ok (.iaload, 1) := by decide +kernel
theorem dX4_end_41 : decode cX4_end 41 = .ok (.iload_n 2, 1) := by decide +kernel
theorem dX4_end_42 : decode cX4_end 42 = .ok (.if_icmp .ne 24, 3) := by decide +kernel
theorem dX4_end_45 : decode cX4_end 45 = .ok (.iload_n 2, 1) := by decide +kernel
theorem dX4_end_46 : decode cX4_end 46 = .ok (.iconst 1, 1) := by decide +kernel
theorem dX4_end_47 : decode cX4_end 47 = .ok (.if_icmp .ne 15, 3) := by decide +kernel
theorem dX4_end_50 : decode cX4_end 50 = .ok (.aload_n 0, 1) := by decide +kernel
theorem dX4_end_51 : decode cX4_end 51 = .ok (.getfield 43, 3) := by decide +kernel
theorem dX4_end_54 : decode cX4_end 54 = .ok (.iload 6, 2) := by decide +kernel
theorem dX4_end_56 : decode cX4_end 56 = .ok (.laload, 1) := by decide +kernel
theorem dX4_end_57 : decode cX4_end 57 = .ok (.lload_n 3, 1) := by decide +kernel
theorem dX4_end_58 : decode cX4_end 58 = .ok (.lcmp, 1) := by decide +kernel
theorem dX4_end_59 : decode cX4_end 59 = .ok (.ifCond .ne 7, 3) := by decide +kernel
theorem dX4_end_62 : decode cX4_end 62 = .ok (.iconst 1, 1) := by decide +kernel
theorem dX4_end_63 : decode cX4_end 63 = .ok (.goto 4, 3) := by decide +kernel
theorem dX4_end_66 : decode cX4_end 66 = .ok (.iconst 0, 1) := by decide +kernel
theorem dX4_end_67 : decode cX4_end 67 = .ok (.istore 7, 2) := by decide +kernel
theorem dX4_end_69 : decode cX4_end 69 = .ok (.aload_n 0, 1) := by decide +kernel
theorem dX4_end_70 : decode cX4_end 70 = .ok (.getfield 25, 3) := by decide +kernel
theorem dX4_end_73 : decode cX4_end 73 = .ok (.iload 6, 2) := by decide +kernel
theorem dX4_end_75 : decode cX4_end 75 = .ok (.iload 7, 2) := by decide +kernel
theorem dX4_end_77 : decode cX4_end 77 = .ok (.ifCond .eq 13, 3) := by decide +kernel
theorem dX4_end_80 : decode cX4_end 80 = .ok (.aload_n 0, 1) := by decide +kernel
theorem dX4_end_81 : decode cX4_end 81 = .ok (.getfield 25, 3) := by decide +kernel
theorem dX4_end_84 : decode cX4_end 84 = .ok (.iload 6, 2) := by decide +kernel
theorem dX4_end_86 : decode cX4_end 86 = .ok (.iaload, 1) := by decide +kernel
theorem dX4_end_87 : decode cX4_end 87 = .ok (.goto 7, 3) := by decide +kernel
theorem dX4_end_90 : decode cX4_end 90 = .ok (.aload_n 0, 1) := by decide +kernel
theorem dX4_end_91 : decode cX4_end 91 = .ok (.getfield 86, 3) := by decide +kernel
theorem dX4_end_94 : decode cX4_end 94 = .ok (.iastore, 1) := by decide +kernel
theorem dX4_end_95 : decode cX4_end 95 = .ok (.aload_n 0, 1) := by decide +kernel
theorem dX4_end_96 : decode cX4_end 96 = .ok (.getfield 19, 3) := by decide +kernel
theorem dX4_end_99 : decode cX4_end 99 = .ok (.iload 6, 2) := by decide +kernel
theorem dX4_end_101 : decode cX4_end 101 = .ok (.iload_n 2, 1) := by decide +kernel
theorem dX4_end_102 : decode cX4_end 102 = .ok (.iastore, 1) := by decide +kernel
theorem dX4_end_103 : decode cX4_end 103 = .ok (.aload_n 0, 1) := by decide +kernel
theorem dX4_end_104 : decode cX4_end 104 = .ok (.getfield 43, 3) := by decide +kernel
theorem dX4_end_107 : decode cX4_end 107 = .ok (.iload 6, 2) := by decide +kernel
theorem dX4_end_109 : decode cX4_end 109 = .ok (.lload_n 3, 1) := by decide +kernel
theorem dX4_end_110 : decode cX4_end 110 = .ok (.lastore, 1) := by decide +kernel
theorem dX4_end_111 : decode cX4_end 111 = .ok (.aload_n 0, 1) := by decide +kernel
theorem dX4_end_112 : decode cX4_end 112 = .ok (.getfield 51, 3) := by decide +kernel
theorem dX4_end_115 : decode cX4_end 115 = .ok (.iload 6, 2) := by decide +kernel
theorem dX4_end_117 : decode cX4_end 117 = .ok (.iconst 1, 1) := by decide +kernel
theorem dX4_end_118 : decode cX4_end 118 = .ok (.bastore, 1) := by decide +kernel
theorem dX4_end_119 : decode cX4_end 119 = .ok (.aload_n 0, 1) := by decide +kernel
theorem dX4_end_120 : decode cX4_end 120 = .ok (.getfield 22, 3) := by decide +kernel
theorem dX4_end_123 : decode cX4_end 123 = .ok (.iload 6, 2) := by decide +kernel
theorem dX4_end_125 : decode cX4_end 125 = .ok (.aload_n 0, 1) := by decide +kernel
theorem dX4_end_126 : decode cX4_end 126 = .ok (.getfield 86, 3) := by decide +kernel
theorem dX4_end_129 : decode cX4_end 129 = .ok (.iastore, 1) := by decide +kernel
theorem dX4_end_130 : decode cX4_end 130 = .ok (.aload_n 0, 1) := by decide +kernel
theorem dX4_end_131 : decode cX4_end 131 = .ok (.getfield 31, 3) := by decide +kernel
theorem dX4_end_134 : decode cX4_end 134 = .ok (.iload 6, 2) := by decide +kernel
theorem dX4_end_136 : decode cX4_end 136 = .ok (.aload_n 0, 1) := by decide +kernel
theorem dX4_end_137 : decode cX4_end 137 = .ok (.getfield 60, 3) := by decide +kernel
theorem dX4_end_140 : decode cX4_end 140 = .ok (.iload 5, 2) := by decide +kernel
theorem dX4_end_142 : decode cX4_end 142 = .ok (.iaload, 1) := by decide +kernel
theorem dX4_end_143 : decode cX4_end 143 = .ok (.iastore, 1) := by decide +kernel
theorem dX4_end_144 : decode cX4_end 144 = .ok (.iconst 0, 1) := by decide +kernel
theorem dX4_end_145 : decode cX4_end 145 = .ok (.istore 8, 2) := by decide +kernel
theorem dX4_end_147 : decode cX4_end 147 = .ok (.iload 8, 2) := by decide +kernel
theorem dX4_end_149 : decode cX4_end 149 = .ok (.aload_n 0, 1) := by decide +kernel
theorem dX4_end_150 : decode cX4_end 150 = .ok (.getfield 60, 3) := by decide +kernel
theorem dX4_end_153 : decode cX4_end 153 = .ok (.iload 5, 2) := by decide +kernel
theorem dX4_end_155 : decode cX4_end 155 = .ok (.iaload, 1) := by decide +kernel
theorem dX4_end_156 : decode cX4_end 156 = .ok (.if_icmp .ge 35, 3) := by decide +kernel
theorem dX4_end_159 : decode cX4_end 159 = .ok (.aload_n 0, 1) := by decide +kernel
theorem dX4_end_160 : decode cX4_end 160 = .ok (.getfield 34, 3) := by decide +kernel
theorem dX4_end_163 : decode cX4_end 163 = .ok (.bipush 8, 2) := by decide +kernel
theorem dX4_end_165 : decode cX4_end 165 = .ok (.iload 6, 2) := by decide +kernel
theorem dX4_end_167 : decode cX4_end 167 = .ok (.imul, 1) := by decide +kernel
theorem dX4_end_168 : decode cX4_end 168 = .ok (.iload 8, 2) := by decide +kernel
theorem dX4_end_170 : decode cX4_end 170 = .ok (.iadd, 1) := by decide +kernel
theorem dX4_end_171 : decode cX4_end 171 = .ok (.aload_n 0, 1) := by decide +kernel
theorem dX4_end_172 : decode cX4_end 172 = .ok (.getfield 63, 3) := by decide +kernel
theorem dX4_end_175 : decode cX4_end 175 = .ok (.bipush 8, 2) := by decide +kernel
theorem dX4_end_177 : decode cX4_end 177 = .ok (.iload 5, 2) := by decide +kernel
theorem dX4_end_179 : decode cX4_end 179 = .ok (.imul, 1) := by decide +kernel
theorem dX4_end_180 : decode cX4_end 180 = .ok (.iload 8, 2) := by decide +kernel
theorem dX4_end_182 : decode cX4_end 182 = .ok (.iadd, 1) := by decide +kernel
theorem dX4_end_183 : decode cX4_end 183 = .ok (.iaload, 1) := by decide +kernel
theorem dX4_end_184 : decode cX4_end 184 = .ok (.iastore, 1) := by decide +kernel
theorem dX4_end_185 : decode cX4_end 185 = .ok (.iinc 8 1, 3) := by decide +kernel
theorem dX4_end_188 : decode cX4_end 188 = .ok (.goto (-41), 3) := by decide +kernel
theorem dX4_end_191 : decode cX4_end 191 = .ok (.aload_n 0, 1) := by decide +kernel
theorem dX4_end_192 : decode cX4_end 192 = .ok (.getfield 37, 3) := by decide +kernel
theorem dX4_end_195 : decode cX4_end 195 = .ok (.iload 6, 2) := by decide +kernel
theorem dX4_end_197 : decode cX4_end 197 = .ok (.dup2, 1) := by decide +kernel
theorem dX4_end_198 : decode cX4_end 198 = .ok (.iaload, 1) := by decide +kernel
theorem dX4_end_199 : decode cX4_end 199 = .ok (.iconst 1, 1) := by decide +kernel
theorem dX4_end_200 : decode cX4_end 200 = .ok (.iadd, 1) := by decide +kernel
theorem dX4_end_201 : decode cX4_end 201 = .ok (.iastore, 1) := by decide +kernel
theorem dX4_end_202 : decode cX4_end 202 = .ok (.aload_n 0, 1) := by decide +kernel
theorem dX4_end_203 : decode cX4_end 203 = .ok (.getfield 54, 3) := by decide +kernel
theorem dX4_end_206 : decode cX4_end 206 = .ok (.iload_n 1, 1) := by decide +kernel
theorem dX4_end_207 : decode cX4_end 207 = .ok (.dup2, 1) := by decide +kernel
theorem dX4_end_208 : decode cX4_end 208 = .ok (.iaload, 1) := by decide +kernel
theorem dX4_end_209 : decode cX4_end 209 = .ok (.iconst 1, 1) := by decide +kernel
theorem dX4_end_210 : decode cX4_end 210 = .ok (.isub, 1) := by decide +kernel
theorem dX4_end_211 : decode cX4_end 211 = .ok (.iastore, 1) := by decide +kernel
theorem dX4_end_212 : decode cX4_end 212 = .ok (.iconst 2, 1) := by decide +kernel
theorem dX4_end_213 : decode cX4_end 213 = .ok (.ireturn, 1) := by decide +kernel
theorem dX4_await_0 : decode cX4_await 0 = .ok (.aload_n 0, 1) := by decide +kernel
theorem dX4_await_1 : decode cX4_await 1 = .ok (.iload_n 2, 1) := by decide +kernel
theorem dX4_await_2 : decode cX4_await 2 = .ok (.invokevirtual 120, 3) := by decide +kernel
theorem dX4_await_5 : decode cX4_await 5 = .ok (.iconst (-1), 1) := by decide +kernel
theorem dX4_await_6 : decode cX4_await 6 = .ok (.if_icmp .eq 5, 3) := by decide +kernel
theorem dX4_await_9 : decode cX4_await 9 = .ok (.iconst 3, 1) := by decide +kernel
theorem dX4_await_10 : decode cX4_await 10 = .ok (.ireturn, 1) := by decide +kernel
theorem dX4_await_11 : decode cX4_await 11 = .ok (.aload_n 0, 1) := by decide +kernel
theorem dX4_await_12 : decode cX4_await 12 = .ok (.iload_n 1, 1) := by decide +kernel
theorem dX4_await_13 : decode cX4_await 13 = .ok (.iload_n 2, 1) := by decide +kernel
theorem dX4_await_14 : decode cX4_await 14 = .ok (.invokevirtual 126, 3) := by decide +kernel
theorem dX4_await_17 : decode cX4_await 17 = .ok (.iconst 1, 1) := by decide +kernel
theorem dX4_await_18 : decode cX4_await 18 = .ok (.ireturn, 1) := by decide +kernel
theorem dX4_check_0 : decode cX4_check 0 = .ok (.aload_n 0, 1) := by decide +kernel
theorem dX4_check_1 : decode cX4_check 1 = .ok (.getfield 57, 3) := by decide +kernel
theorem dX4_check_4 : decode cX4_check 4 = .ok (.iload_n 2, 1) := by decide +kernel
theorem dX4_check_5 : decode cX4_check 5 = .ok (.iaload, 1) := by decide +kernel
theorem dX4_check_6 : decode cX4_check 6 = .ok (.istore_n 3, 1) := by decide +kernel
theorem dX4_check_7 : decode cX4_check 7 = .ok (.aload_n 0, 1) := by decide +kernel
theorem dX4_check_8 : decode cX4_check 8 = .ok (.getfield 60, 3) := by decide +kernel
theorem dX4_check_11 : decode cX4_check 11 = .ok (.iload_n 2, 1) := by decide +kernel
theorem dX4_check_12 : decode cX4_check 12 = .ok (.iaload, 1) := by decide +kernel
theorem dX4_check_13 : decode cX4_check 13 = .ok (.aload_n 0, 1) := by decide +kernel
theorem dX4_check_14 : decode cX4_check 14 = .ok (.getfield 31, 3) := by decide +kernel
theorem dX4_check_17 : decode cX4_check 17 = .ok (.iload_n 3, 1) := by decide +kernel
theorem dX4_check_18 : decode cX4_check 18 = .ok (.iaload, 1) := by decide +kernel
theorem dX4_check_19 : decode cX4_check 19 = .ok (.if_icmp .ne 35, 3) := by decide +kernel
theorem dX4_check_22 : decode cX4_check 22 = .ok (.aload_n 0, 1) := by decide +kernel
theorem dX4_check_23 : decode cX4_check 23 = .ok (.getfield 22, 3) := by decide +kernel
theorem dX4_check_26 : decode cX4_check 26 = .ok (.iload_n 3, 1) := by decide +kernel
theorem dX4_check_27 : decode cX4_check 27 = .ok (.aload_n 0, 1) := by decide +kernel
theorem dX4_check_28 : decode cX4_check 28 = .ok (.getfield 86, 3) := by decide +kernel
theorem dX4_check_31 : decode cX4_check 31 = .ok (.iastore, 1) := by decide +kernel
theorem dX4_check_32 : decode cX4_check 32 = .ok (.aload_n 0, 1) := by decide +kernel
theorem dX4_check_33 : decode cX4_check 33 = .ok (.getfield 40, 3) := by decide +kernel
theorem dX4_check_36 : decode cX4_check 36 = .ok (.iload_n 3, 1) := by decide +kernel
theorem dX4_check_37 : decode cX4_check 37 = .ok (.dup2, 1) := by decide +kernel
theorem dX4_check_38 : decode cX4_check 38 = .ok (.iaload, 1) := by decide +kernel
theorem dX4_check_39 : decode cX4_check 39 = .ok (.iconst 1, 1) := by decide +kernel
theorem dX4_check_40 : decode cX4_check 40 = .ok (.iadd, 1) := by decide +kernel
theorem dX4_check_41 : decode cX4_check 41 = .ok (.iastore, 1) := by decide +kernel
theorem dX4_check_42 : decode cX4_check 42 = .ok (.aload_n 0, 1) := by decide +kernel
theorem dX4_check_43 : decode cX4_check 43 = .ok (.getfield 54, 3) := by decide +kernel
theorem dX4_check_46 : decode cX4_check 46 = .ok (.iload_n 1, 1) := by decide +kernel
theorem dX4_check_47 : decode cX4_check 47 = .ok (.dup2, 1) := by decide +kernel
theorem dX4_check_48 : decode cX4_check 48 = .ok (.iaload, 1) := by decide +kernel
theorem dX4_check_49 : decode cX4_check 49 = .ok (.iconst 1, 1) := by decide +kernel
theorem dX4_check_50 : decode cX4_check 50 = .ok (.isub, 1) := by decide +kernel
theorem dX4_check_51 : decode cX4_check 51 = .ok (.iastore, 1) := by decide +kernel
theorem dX4_check_52 : decode cX4_check 52 = .ok (.iconst 2, 1) := by decide +kernel
theorem dX4_check_53 : decode cX4_check 53 = .ok (.ireturn, 1) := by decide +kernel
theorem dX4_check_54 : decode cX4_check 54 = .ok (.aload_n 0, 1) := by decide +kernel
theorem dX4_check_55 : decode cX4_check 55 = .ok (.iload_n 3, 1) := by decide +kernel
theorem dX4_check_56 : decode cX4_check 56 = .ok (.aload_n 0, 1) := by decide +kernel
theorem dX4_check_57 : decode cX4_check 57 = .ok (.getfield 34, 3) := by decide +kernel
theorem dX4_check_60 : decode cX4_check 60 = .ok (.bipush 8, 2) := by decide +kernel
theorem dX4_check_62 : decode cX4_check 62 = .ok (.iload_n 3, 1) := by decide +kernel
theorem dX4_check_63 : decode cX4_check 63 = .ok (.imul, 1) := by decide +kernel
theorem dX4_check_64 : decode cX4_check 64 = .ok (.aload_n 0, 1) := by decide +kernel
theorem dX4_check_65 : decode cX4_check 65 = .ok (.getfield 60, 3) := by decide +kernel
theorem dX4_check_68 : decode cX4_check 68 = .ok (.iload_n 2, 1) := by decide +kernel
theorem dX4_check_69 : decode cX4_check 69 = .ok (.iaload, 1) := by decide +kernel
theorem dX4_check_70 : decode cX4_check 70 = .ok (.iadd, 1) := by decide +kernel
theorem dX4_check_71 : decode cX4_check 71 = .ok (.iaload, 1) := by decide +kernel
theorem dX4_check_72 : decode cX4_check 72 = .ok (.invokevirtual 97, 3) := by decide +kernel
theorem dX4_check_75 : decode cX4_check 75 = .ok (.istore 4, 2) := by decide +kernel
theorem dX4_check_77 : decode cX4_check 77 = .ok (.aload_n 0, 1) := by decide +kernel
theorem dX4_check_78 : decode cX4_check 78 = .ok (.iload 4, 2) := by decide +kernel
theorem dX4_check_80 : decode cX4_check 80 = .ok (.invokevirtual 123, 3) := by decide +kernel
theorem dX4_check_83 : decode cX4_check 83 = .ok (.ifCond .ne 11, 3) := by decide +kernel
theorem dX4_check_86 : decode cX4_check 86 = .ok (.aload_n 0, 1) := by decide +kernel
theorem dX4_check_87 : decode cX4_check 87 = .ok (.iload_n 1, 1) := by decide +kernel
theorem dX4_check_88 : decode cX4_check 88 = .ok (.iload 4, 2) := by decide +kernel
theorem dX4_check_90 : decode cX4_check 90 = .ok (.invokevirtual 140, 3) := by decide +kernel
theorem dX4_check_93 : decode cX4_check 93 = .ok (.ireturn, 1) := by decide +kernel
theorem dX4_check_94 : decode cX4_check 94 = .ok (.aload_n 0, 1) := by decide +kernel
theorem dX4_check_95 : decode cX4_check 95 = .ok (.getfield 25, 3) := by decide +kernel
theorem dX4_check_98 : decode cX4_check 98 = .ok (.iload 4, 2) := by decide +kernel
theorem dX4_check_100 : decode cX4_check 100 = .ok (.iaload, 1) := by decide +kernel
theorem dX4_check_101 : decode cX4_check 101 = .ok (.aload_n 0, 1) := by decide +kernel
theorem dX4_check_102 : decode cX4_check 102 = .ok (.getfield 22, 3) := by decide +kernel
theorem dX4_check_105 : decode cX4_check 105 = .ok (.iload_n 3, 1) := by decide +kernel
theorem dX4_check_106 : decode cX4_check 106 = .ok (.iaload, 1) := by decide +kernel
theorem dX4_check_107 : decode cX4_check 107 = .ok (.if_icmp .le 19, 3) := by decide +kernel
theorem dX4_check_110 : decode cX4_check 110 = .ok (.aload_n 0, 1) := by decide +kernel
theorem dX4_check_111 : decode cX4_check 111 = .ok (.getfield 66, 3) := by decide +kernel
theorem dX4_check_114 : decode cX4_check 114 = .ok (.iload_n 2, 1) := by decide +kernel
theorem dX4_check_115 : decode cX4_check 115 = .ok (.iconst 1, 1) := by decide +kernel
theorem dX4_check_116 : decode cX4_check 116 = .ok (.bastore, 1) := by decide +kernel
theorem dX4_check_117 : decode cX4_check 117 = .ok (.aload_n 0, 1) := by decide +kernel
theorem dX4_check_118 : decode cX4_check 118 = .ok (.getfield 60, 3) := by decide +kernel
theorem dX4_check_121 : decode cX4_check 121 = .ok (.iload_n 2, 1) := by decide +kernel
theorem dX4_check_122 : decode cX4_check 122 = .ok (.iconst 0, 1) := by decide +kernel
theorem dX4_check_123 : decode cX4_check 123 = .ok (.iastore, 1) := by decide +kernel
theorem dX4_check_124 : decode cX4_check 124 = .ok (.iconst 5, 1) := by decide +kernel
theorem dX4_check_125 : decode cX4_check 125 = .ok (.ireturn, 1) := by decide +kernel
theorem dX4_check_126 : decode cX4_check 126 = .ok (.aload_n 0, 1) := by decide +kernel
theorem dX4_check_127 : decode cX4_check 127 = .ok (.getfield 60, 3) := by decide +kernel
theorem dX4_check_130 : decode cX4_check 130 = .ok (.iload_n 2, 1) := by decide +kernel
theorem dX4_check_131 : decode cX4_check 131 = .ok (.dup2, 1) := by decide +kernel
theorem dX4_check_132 : decode cX4_check 132 = .ok (.iaload, 1) := by decide +kernel
theorem dX4_check_133 : decode cX4_check 133 = .ok (.iconst 1, 1) := by decide +kernel
theorem dX4_check_134 : decode cX4_check 134 = .ok (.iadd, 1) := by decide +kernel
theorem dX4_check_135 : decode cX4_check 135 = .ok (.iastore, 1) := by decide +kernel
theorem dX4_check_136 : decode cX4_check 136 = .ok (.iconst 4, 1) := by decide +kernel
theorem dX4_check_137 : decode cX4_check 137 = .ok (.ireturn, 1) := by decide +kernel
theorem dX4_go_0 : decode cX4_go 0 = .ok (.aload_n 0, 1) := by decide +kernel
theorem dX4_go_1 : decode cX4_go 1 = .ok (.getfield 54, 3) := by decide +kernel
theorem dX4_go_4 : decode cX4_go 4 = .ok (.iload_n 1, 1) := by decide +kernel
theorem dX4_go_5 : decode cX4_go 5 = .ok (.iaload, 1) := by decide +kernel
theorem dX4_go_6 : decode cX4_go 6 = .ok (.ifCond .ne 5, 3) := by decide +kernel
theorem dX4_go_9 : decode cX4_go 9 = .ok (.iconst 0, 1) := by decide +kernel
theorem dX4_go_10 : decode cX4_go 10 = .ok (.ireturn, 1) := by decide +kernel
theorem dX4_go_11 : decode cX4_go 11 = .ok (.bipush 40, 2) := by decide +kernel
theorem dX4_go_13 : decode cX4_go 13 = .ok (.iload_n 1, 1) := by decide +kernel
theorem dX4_go_14 : decode cX4_go 14 = .ok (.imul, 1) := by decide +kernel
theorem dX4_go_15 : decode cX4_go 15 = .ok (.aload_n 0, 1) := by decide +kernel
theorem dX4_go_16 : decode cX4_go 16 = .ok (.getfield 54, 3) := by decide +kernel
theorem dX4_go_19 : decode cX4_go 19 = .ok (.iload_n 1, 1) := by decide +kernel
theorem dX4_go_20 : decode cX4_go 20 = .ok (.iaload, 1) := by decide +kernel
theorem dX4_go_21 : decode cX4_go 21 = .ok (.iadd, 1) := by decide +kernel
theorem dX4_go_22 : decode cX4_go 22 = .ok (.iconst 1, 1) := by decide +kernel
theorem dX4_go_23 : decode cX4_go 23 = .ok (.isub, 1) := by decide +kernel
theorem dX4_go_24 : decode cX4_go 24 = .ok (.istore_n 2, 1) := by decide +kernel
theorem dX4_go_25 : decode cX4_go 25 = .ok (.aload_n 0, 1) := by decide +kernel
theorem dX4_go_26 : decode cX4_go 26 = .ok (.getfield 66, 3) := by decide +kernel
theorem dX4_go_29 : decode cX4_go 29 = .ok (.iload_n 2, 1) := by decide +kernel
theorem dX4_go_30 : decode cX4_go 30 = .ok (.baload, 1) := by decide +kernel
theorem dX4_go_31 : decode cX4_go 31 = .ok (.ifCond .ne 10, 3) := by decide +kernel
theorem dX4_go_34 : decode cX4_go 34 = .ok (.aload_n 0, 1) := by decide +kernel
theorem dX4_go_35 : decode cX4_go 35 = .ok (.iload_n 1, 1) := by decide +kernel
theorem dX4_go_36 : decode cX4_go 36 = .ok (.iload_n 2, 1) := by decide +kernel
theorem dX4_go_37 : decode cX4_go 37 = .ok (.invokevirtual 143, 3) := by decide +kernel
theorem dX4_go_40 : decode cX4_go 40 = .ok (.ireturn, 1) := by decide +kernel
theorem dX4_go_41 : decode cX4_go 41 = .ok (.aload_n 0, 1) := by decide +kernel
theorem dX4_go_42 : decode cX4_go 42 = .ok (.iload_n 2, 1) := by decide +kernel
theorem dX4_go_43 : decode cX4_go 43 = .ok (.invokevirtual 146, 3) := by decide +kernel
theorem dX4_go_46 : decode cX4_go 46 = .ok (.istore_n 3, 1) := by decide +kernel
theorem dX4_go_47 : decode cX4_go 47 = .ok (.iload_n 3, 1) := by decide +kernel
theorem dX4_go_48 : decode cX4_go 48 = .ok (.bipush (-2), 2) := by decide +kernel
theorem dX4_go_50 : decode cX4_go 50 = .ok (.if_icmp .ne 11, 3) := by decide +kernel
theorem dX4_go_53 : decode cX4_go 53 = .ok (.aload_n 0, 1) := by decide +kernel
theorem dX4_go_54 : decode cX4_go 54 = .ok (.iload_n 1, 1) := by decide +kernel
theorem dX4_go_55 : decode cX4_go 55 = .ok (.iconst 2, 1) := by decide +kernel
theorem dX4_go_56 : decode cX4_go 56 = .ok (.lconst 0, 1) := by decide +kernel
theorem dX4_go_57 : decode cX4_go 57 = .ok (.invokevirtual 149, 3) := by decide +kernel
theorem dX4_go_60 : decode cX4_go 60 = .ok (.ireturn, 1) := by decide +kernel
theorem dX4_go_61 : decode cX4_go 61 = .ok (.iload_n 3, 1) := by decide +kernel
theorem dX4_go_62 : decode cX4_go 62 = .ok (.iconst (-1), 1) := by decide +kernel
theorem dX4_go_63 : decode cX4_go 63 = .ok (.if_icmp .ne 15, 3) := by decide +kernel
theorem dX4_go_66 : decode cX4_go 66 = .ok (.aload_n 0, 1) := by decide +kernel
theorem dX4_go_67 : decode cX4_go 67 = .ok (.iload_n 1, 1) := by decide +kernel
theorem dX4_go_68 : decode cX4_go 68 = .ok (.iconst 1, 1) := by decide +kernel
theorem dX4_go_69 : decode cX4_go 69 = .ok (.aload_n 0, 1) := by decide +kernel
theorem dX4_go_70 : decode cX4_go 70 = .ok (.iload_n 2, 1) := by decide +kernel
theorem dX4_go_71 : decode cX4_go 71 = .ok (.invokevirtual 153, 3) := by decide +kernel
theorem dX4_go_74 : decode cX4_go 74 = .ok (.invokevirtual 149, 3) := by decide +kernel
theorem dX4_go_77 : decode cX4_go 77 = .ok (.ireturn, 1) := by decide +kernel
theorem dX4_go_78 : decode cX4_go 78 = .ok (.aload_n 0, 1) := by decide +kernel
theorem dX4_go_79 : decode cX4_go 79 = .ok (.aload_n 0, 1) := by decide +kernel
theorem dX4_go_80 : decode cX4_go 80 = .ok (.getfield 57, 3) := by decide +kernel
theorem dX4_go_83 : decode cX4_go 83 = .ok (.iload_n 2, 1) := by decide +kernel
theorem dX4_go_84 : decode cX4_go 84 = .ok (.iaload, 1) := by decide +kernel
theorem dX4_go_85 : decode cX4_go 85 = .ok (.iload_n 3, 1) := by decide +kernel
theorem dX4_go_86 : decode cX4_go 86 = .ok (.invokevirtual 97, 3) := by decide +kernel
theorem dX4_go_89 : decode cX4_go 89 = .ok (.istore 4, 2) := by decide +kernel
theorem dX4_go_91 : decode cX4_go 91 = .ok (.aload_n 0, 1) := by decide +kernel
theorem dX4_go_92 : decode cX4_go 92 = .ok (.iload 4, 2) := by decide +kernel
theorem dX4_go_94 : decode cX4_go 94 = .ok (.invokevirtual 123, 3) := by decide +kernel
theorem dX4_go_97 : decode cX4_go 97 = .ok (.ifCond .ne 11, 3) := by decide +kernel
theorem dX4_go_100 : decode cX4_go 100 = .ok (.aload_n 0, 1) := by decide +kernel
theorem dX4_go_101 : decode cX4_go 101 = .ok (.iload_n 1, 1) := by decide +kernel
theorem dX4_go_102 : decode cX4_go 102 = .ok (.iload 4, 2) := by decide +kernel
theorem dX4_go_104 : decode cX4_go 104 = .ok (.invokevirtual 140, 3) := by decide +kernel
theorem dX4_go_107 : decode cX4_go 107 = .ok (.ireturn, 1) := by decide +kernel
theorem dX4_go_108 : decode cX4_go 108 = .ok (.aload_n 0, 1) := by decide +kernel
theorem dX4_go_109 : decode cX4_go 109 = .ok (.getfield 63, 3) := by decide +kernel
theorem dX4_go_112 : decode cX4_go 112 = .ok (.bipush 8, 2) := by decide +kernel
theorem dX4_go_114 : decode cX4_go 114 = .ok (.iload_n 2, 1) := by decide +kernel
theorem dX4_go_115 : decode cX4_go 115 = .ok (.imul, 1) := by decide +kernel
theorem dX4_go_116 : decode cX4_go 116 = .ok (.aload_n 0, 1) := by decide +kernel
theorem dX4_go_117 : decode cX4_go 117 = .ok (.getfield 60, 3) := by decide +kernel
theorem dX4_go_120 : decode cX4_go 120 = .ok (.iload_n 2, 1) := by decide +kernel
theorem dX4_go_121 : decode cX4_go 121 = .ok (.iaload, 1) := by decide +kernel
theorem dX4_go_122 : decode cX4_go 122 = .ok (.iadd, 1) := by decide +kernel
theorem dX4_go_123 : decode cX4_go 123 = .ok (.iload_n 3, 1) := by decide +kernel
theorem dX4_go_124 : decode cX4_go 124 = .ok (.iastore, 1) := by decide +kernel
theorem dX4_go_125 : decode cX4_go 125 = .ok (.aload_n 0, 1) := by decide +kernel
theorem dX4_go_126 : decode cX4_go 126 = .ok (.getfield 60, 3) := by decide +kernel
theorem dX4_go_129 : decode cX4_go 129 = .ok (.iload_n 2, 1) := by decide +kernel
theorem dX4_go_130 : decode cX4_go 130 = .ok (.dup2, 1) := by decide +kernel
theorem dX4_go_131 : decode cX4_go 131 = .ok (.iaload, 1) := by decide +kernel
theorem dX4_go_132 : decode cX4_go 132 = .ok (.iconst 1, 1) := by decide +kernel
theorem dX4_go_133 : decode cX4_go 133 = .ok (.iadd, 1) := by decide +kernel
theorem dX4_go_134 : decode cX4_go 134 = .ok (.iastore, 1) := by decide +kernel
theorem dX4_go_135 : decode cX4_go 135 = .ok (.aload_n 0, 1) := by decide +kernel
theorem dX4_go_136 : decode cX4_go 136 = .ok (.getfield 19, 3) := by decide +kernel
theorem dX4_go_139 : decode cX4_go 139 = .ok (.iload 4, 2) := by decide +kernel
theorem dX4_go_141 : decode cX4_go 141 = .ok (.iaload, 1) := by decide +kernel
theorem dX4_go_142 : decode cX4_go 142 = .ok (.iconst 1, 1) := by decide +kernel
end
section
theorem dX4_go_143 : decode cX4_go 143 = .ok (.if_icmp .ne 8, 3) := by decide +kernel
theorem dX4_go_146 : decode cX4_go 146 = .ok (.bipush 6, 2) := by decide +kernel
theorem dX4_go_148 : decode cX4_go 148 = .ok (.goto 10, 3) := by decide +kernel
theorem dX4_go_151 : decode cX4_go 151 = .ok (.aload_n 0, 1) := by decide +kernel
theorem dX4_go_152 : decode cX4_go 152 = .ok (.iload_n 1, 1) := by decide +kernel
theorem dX4_go_153 : decode cX4_go 153 = .ok (.iconst 3, 1) := by decide +kernel
theorem dX4_go_154 : decode cX4_go 154 = .ok (.lconst 0, 1) := by decide +kernel
theorem dX4_go_155 : decode cX4_go 155 = .ok (.invokevirtual 149, 3) := by decide +kernel
theorem dX4_go_158 : decode cX4_go 158 = .ok (.ireturn, 1) := by decide +kernel
theorem dX4_step_0 : decode cX4_step 0 = .ok (.aload_n 0, 1) := by decide +kernel
theorem dX4_step_1 : decode cX4_step 1 = .ok (.iconst 0, 1) := by decide +kernel
theorem dX4_step_2 : decode cX4_step 2 = .ok (.putfield 75, 3) := by decide +kernel
theorem dX4_step_5 : decode cX4_step 5 = .ok (.iload_n 1, 1) := by decide +kernel
theorem dX4_step_6 : decode cX4_step 6 = .ok (.invokestatic 117, 3) := by decide +kernel
theorem dX4_step_9 : decode cX4_step 9 = .ok (.ifCond .eq 11, 3) := by decide +kernel
theorem dX4_step_12 : decode cX4_step 12 = .ok (.aload_n 0, 1) := by decide +kernel
theorem dX4_step_13 : decode cX4_step 13 = .ok (.iload_n 1, 1) := by decide +kernel
theorem dX4_step_14 : decode cX4_step 14 = .ok (.invokevirtual 157, 3) := by decide +kernel
theorem dX4_step_17 : decode cX4_step 17 = .ok (.goto 4, 3) := by decide +kernel
theorem dX4_step_20 : decode cX4_step 20 = .ok (.iconst (-1), 1) := by decide +kernel
theorem dX4_step_21 : decode cX4_step 21 = .ok (.ireturn, 1) := by decide +kernel
theorem dX4_run_0 : decode cX4_run 0 = .ok (.aload_n 0, 1) := by decide +kernel
theorem dX4_run_1 : decode cX4_run 1 = .ok (.iconst 0, 1) := by decide +kernel
theorem dX4_run_2 : decode cX4_run 2 = .ok (.putfield 75, 3) := by decide +kernel
theorem dX4_run_5 : decode cX4_run 5 = .ok (.aload_n 0, 1) := by decide +kernel
theorem dX4_run_6 : decode cX4_run 6 = .ok (.iload_n 1, 1) := by decide +kernel
theorem dX4_run_7 : decode cX4_run 7 = .ok (.invokevirtual 82, 3) := by decide +kernel
theorem dX4_run_10 : decode cX4_run 10 = .ok (.ifCond .ne 5, 3) := by decide +kernel
theorem dX4_run_13 : decode cX4_run 13 = .ok (.iconst (-1), 1) := by decide +kernel
theorem dX4_run_14 : decode cX4_run 14 = .ok (.ireturn, 1) := by decide +kernel
theorem dX4_run_15 : decode cX4_run 15 = .ok (.aload_n 0, 1) := by decide +kernel
theorem dX4_run_16 : decode cX4_run 16 = .ok (.iload_n 1, 1) := by decide +kernel
theorem dX4_run_17 : decode cX4_run 17 = .ok (.invokevirtual 123, 3) := by decide +kernel
theorem dX4_run_20 : decode cX4_run 20 = .ok (.ifCond .eq 10, 3) := by decide +kernel
theorem dX4_run_23 : decode cX4_run 23 = .ok (.aload_n 0, 1) := by decide +kernel
theorem dX4_run_24 : decode cX4_run 24 = .ok (.getfield 19, 3) := by decide +kernel
theorem dX4_run_27 : decode cX4_run 27 = .ok (.iload_n 1, 1) := by decide +kernel
theorem dX4_run_28 : decode cX4_run 28 = .ok (.iaload, 1) := by decide +kernel
theorem dX4_run_29 : decode cX4_run 29 = .ok (.ireturn, 1) := by decide +kernel
theorem dX4_run_30 : decode cX4_run 30 = .ok (.aload_n 0, 1) := by decide +kernel
theorem dX4_run_31 : decode cX4_run 31 = .ok (.iload_n 1, 1) := by decide +kernel
theorem dX4_run_32 : decode cX4_run 32 = .ok (.invokevirtual 120, 3) := by decide +kernel
theorem dX4_run_35 : decode cX4_run 35 = .ok (.iconst (-1), 1) := by decide +kernel
theorem dX4_run_36 : decode cX4_run 36 = .ok (.if_icmp .eq 6, 3) := by decide +kernel
theorem dX4_run_39 : decode cX4_run 39 = .ok (.bipush (-2), 2) := by decide +kernel
theorem dX4_run_41 : decode cX4_run 41 = .ok (.ireturn, 1) := by decide +kernel
theorem dX4_run_42 : decode cX4_run 42 = .ok (.aload_n 0, 1) := by decide +kernel
theorem dX4_run_43 : decode cX4_run 43 = .ok (.iconst 4, 1) := by decide +kernel
theorem dX4_run_44 : decode cX4_run 44 = .ok (.iload_n 1, 1) := by decide +kernel
theorem dX4_run_45 : decode cX4_run 45 = .ok (.invokevirtual 126, 3) := by decide +kernel
theorem dX4_run_48 : decode cX4_run 48 = .ok (.iconst 1, 1) := by decide +kernel
theorem dX4_run_49 : decode cX4_run 49 = .ok (.istore_n 2, 1) := by decide +kernel
theorem dX4_run_50 : decode cX4_run 50 = .ok (.iload_n 2, 1) := by decide +kernel
theorem dX4_run_51 : decode cX4_run 51 = .ok (.iconst 3, 1) := by decide +kernel
theorem dX4_run_52 : decode cX4_run 52 = .ok (.if_icmp .eq 21, 3) := by decide +kernel
theorem dX4_run_55 : decode cX4_run 55 = .ok (.aload_n 0, 1) := by decide +kernel
theorem dX4_run_56 : decode cX4_run 56 = .ok (.getfield 54, 3) := by decide +kernel
theorem dX4_run_59 : decode cX4_run 59 = .ok (.iconst 4, 1) := by decide +kernel
theorem dX4_run_60 : decode cX4_run 60 = .ok (.iaload, 1) := by decide +kernel
theorem dX4_run_61 : decode cX4_run 61 = .ok (.ifCond .le 12, 3) := by decide +kernel
theorem dX4_run_64 : decode cX4_run 64 = .ok (.aload_n 0, 1) := by decide +kernel
theorem dX4_run_65 : decode cX4_run 65 = .ok (.iconst 4, 1) := by decide +kernel
theorem dX4_run_66 : decode cX4_run 66 = .ok (.invokevirtual 157, 3) := by decide +kernel
theorem dX4_run_69 : decode cX4_run 69 = .ok (.istore_n 2, 1) := by decide +kernel
theorem dX4_run_70 : decode cX4_run 70 = .ok (.goto (-20), 3) := by decide +kernel
theorem dX4_run_73 : decode cX4_run 73 = .ok (.aload_n 0, 1) := by decide +kernel
theorem dX4_run_74 : decode cX4_run 74 = .ok (.getfield 54, 3) := by decide +kernel
theorem dX4_run_77 : decode cX4_run 77 = .ok (.iconst 4, 1) := by decide +kernel
theorem dX4_run_78 : decode cX4_run 78 = .ok (.iconst 0, 1) := by decide +kernel
theorem dX4_run_79 : decode cX4_run 79 = .ok (.iastore, 1) := by decide +kernel
theorem dX4_run_80 : decode cX4_run 80 = .ok (.iload_n 2, 1) := by decide +kernel
theorem dX4_run_81 : decode cX4_run 81 = .ok (.iconst 3, 1) := by decide +kernel
theorem dX4_run_82 : decode cX4_run 82 = .ok (.if_icmp .ne 8, 3) := by decide +kernel
theorem dX4_run_85 : decode cX4_run 85 = .ok (.bipush (-2), 2) := by decide +kernel
theorem dX4_run_87 : decode cX4_run 87 = .ok (.goto 9, 3) := by decide +kernel
theorem dX4_run_90 : decode cX4_run 90 = .ok (.aload_n 0, 1) := by decide +kernel
theorem dX4_run_91 : decode cX4_run 91 = .ok (.getfield 19, 3) := by decide +kernel
theorem dX4_run_94 : decode cX4_run 94 = .ok (.iload_n 1, 1) := by decide +kernel
theorem dX4_run_95 : decode cX4_run 95 = .ok (.iaload, 1) := by decide +kernel
theorem dX4_run_96 : decode cX4_run 96 = .ok (.ireturn, 1) := by decide +kernel
theorem dX4_state_0 : decode cX4_state 0 = .ok (.aload_n 0, 1) := by decide +kernel
theorem dX4_state_1 : decode cX4_state 1 = .ok (.iconst 0, 1) := by decide +kernel
theorem dX4_state_2 : decode cX4_state 2 = .ok (.putfield 75, 3) := by decide +kernel
theorem dX4_state_5 : decode cX4_state 5 = .ok (.aload_n 0, 1) := by decide +kernel
theorem dX4_state_6 : decode cX4_state 6 = .ok (.iload_n 1, 1) := by decide +kernel
theorem dX4_state_7 : decode cX4_state 7 = .ok (.invokevirtual 82, 3) := by decide +kernel
theorem dX4_state_10 : decode cX4_state 10 = .ok (.ifCond .eq 20, 3) := by decide +kernel
theorem dX4_state_13 : decode cX4_state 13 = .ok (.aload_n 0, 1) := by decide +kernel
theorem dX4_state_14 : decode cX4_state 14 = .ok (.iload_n 1, 1) := by decide +kernel
theorem dX4_state_15 : decode cX4_state 15 = .ok (.invokevirtual 123, 3) := by decide +kernel
theorem dX4_state_18 : decode cX4_state 18 = .ok (.ifCond .eq 12, 3) := by decide +kernel
theorem dX4_state_21 : decode cX4_state 21 = .ok (.aload_n 0, 1) := by decide +kernel
theorem dX4_state_22 : decode cX4_state 22 = .ok (.getfield 19, 3) := by decide +kernel
theorem dX4_state_25 : decode cX4_state 25 = .ok (.iload_n 1, 1) := by decide +kernel
theorem dX4_state_26 : decode cX4_state 26 = .ok (.iaload, 1) := by decide +kernel
theorem dX4_state_27 : decode cX4_state 27 = .ok (.goto 4, 3) := by decide +kernel
theorem dX4_state_30 : decode cX4_state 30 = .ok (.iconst 0, 1) := by decide +kernel
theorem dX4_state_31 : decode cX4_state 31 = .ok (.ireturn, 1) := by decide +kernel
theorem dX4_value_0 : decode cX4_value 0 = .ok (.aload_n 0, 1) := by decide +kernel
theorem dX4_value_1 : decode cX4_value 1 = .ok (.aload_n 0, 1) := by decide +kernel
theorem dX4_value_2 : decode cX4_value 2 = .ok (.iload_n 1, 1) := by decide +kernel
theorem dX4_value_3 : decode cX4_value 3 = .ok (.invokevirtual 82, 3) := by decide +kernel
theorem dX4_value_6 : decode cX4_value 6 = .ok (.ifCond .ne 7, 3) := by decide +kernel
theorem dX4_value_9 : decode cX4_value 9 = .ok (.iconst 1, 1) := by decide +kernel
theorem dX4_value_10 : decode cX4_value 10 = .ok (.goto 26, 3) := by decide +kernel
theorem dX4_value_13 : decode cX4_value 13 = .ok (.aload_n 0, 1) := by decide +kernel
theorem dX4_value_14 : decode cX4_value 14 = .ok (.iload_n 1, 1) := by decide +kernel
theorem dX4_value_15 : decode cX4_value 15 = .ok (.invokevirtual 123, 3) := by decide +kernel
theorem dX4_value_18 : decode cX4_value 18 = .ok (.ifCond .eq 13, 3) := by decide +kernel
theorem dX4_value_21 : decode cX4_value 21 = .ok (.aload_n 0, 1) := by decide +kernel
theorem dX4_value_22 : decode cX4_value 22 = .ok (.getfield 19, 3) := by decide +kernel
theorem dX4_value_25 : decode cX4_value 25 = .ok (.iload_n 1, 1) := by decide +kernel
theorem dX4_value_26 : decode cX4_value 26 = .ok (.iaload, 1) := by decide +kernel
theorem dX4_value_27 : decode cX4_value 27 = .ok (.iconst 1, 1) := by decide +kernel
theorem dX4_value_28 : decode cX4_value 28 = .ok (.if_icmp .eq 7, 3) := by decide +kernel
theorem dX4_value_31 : decode cX4_value 31 = .ok (.iconst 2, 1) := by decide +kernel
theorem dX4_value_32 : decode cX4_value 32 = .ok (.goto 4, 3) := by decide +kernel
theorem dX4_value_35 : decode cX4_value 35 = .ok (.iconst 0, 1) := by decide +kernel
theorem dX4_value_36 : decode cX4_value 36 = .ok (.putfield 75, 3) := by decide +kernel
theorem dX4_value_39 : decode cX4_value 39 = .ok (.aload_n 0, 1) := by decide +kernel
theorem dX4_value_40 : decode cX4_value 40 = .ok (.getfield 75, 3) := by decide +kernel
theorem dX4_value_43 : decode cX4_value 43 = .ok (.ifCond .le 7, 3) := by decide +kernel
theorem dX4_value_46 : decode cX4_value 46 = .ok (.lconst 0, 1) := by decide +kernel
theorem dX4_value_47 : decode cX4_value 47 = .ok (.goto 9, 3) := by decide +kernel
theorem dX4_value_50 : decode cX4_value 50 = .ok (.aload_n 0, 1) := by decide +kernel
theorem dX4_value_51 : decode cX4_value 51 = .ok (.getfield 43, 3) := by decide +kernel
theorem dX4_value_54 : decode cX4_value 54 = .ok (.iload_n 1, 1) := by decide +kernel
theorem dX4_value_55 : decode cX4_value 55 = .ok (.laload, 1) := by decide +kernel
theorem dX4_value_56 : decode cX4_value 56 = .ok (.lreturn, 1) := by decide +kernel
theorem dX4_worked_0 : decode cX4_worked 0 = .ok (.aload_n 0, 1) := by decide +kernel
theorem dX4_worked_1 : decode cX4_worked 1 = .ok (.iconst 0, 1) := by decide +kernel
theorem dX4_worked_2 : decode cX4_worked 2 = .ok (.putfield 75, 3) := by decide +kernel
theorem dX4_worked_5 : decode cX4_worked 5 = .ok (.aload_n 0, 1) := by decide +kernel
theorem dX4_worked_6 : decode cX4_worked 6 = .ok (.iload_n 1, 1) := by decide +kernel
theorem dX4_worked_7 : decode cX4_worked 7 = .ok (.invokevirtual 82, 3) := by decide +kernel
theorem dX4_worked_10 : decode cX4_worked 10 = .ok (.ifCond .eq 12, 3) := by decide +kernel
theorem dX4_worked_13 : decode cX4_worked 13 = .ok (.aload_n 0, 1) := by decide +kernel
theorem dX4_worked_14 : decode cX4_worked 14 = .ok (.getfield 37, 3) := by decide +kernel
theorem dX4_worked_17 : decode cX4_worked 17 = .ok (.iload_n 1, 1) := by decide +kernel
theorem dX4_worked_18 : decode cX4_worked 18 = .ok (.iaload, 1) := by decide +kernel
theorem dX4_worked_19 : decode cX4_worked 19 = .ok (.goto 4, 3) := by decide +kernel
theorem dX4_worked_22 : decode cX4_worked 22 = .ok (.iconst 0, 1) := by decide +kernel
theorem dX4_worked_23 : decode cX4_worked 23 = .ok (.ireturn, 1) := by decide +kernel
theorem dX4_kept_0 : decode cX4_kept 0 = .ok (.aload_n 0, 1) := by decide +kernel
theorem dX4_kept_1 : decode cX4_kept 1 = .ok (.iconst 0, 1) := by decide +kernel
theorem dX4_kept_2 : decode cX4_kept 2 = .ok (.putfield 75, 3) := by decide +kernel
theorem dX4_kept_5 : decode cX4_kept 5 = .ok (.aload_n 0, 1) := by decide +kernel
theorem dX4_kept_6 : decode cX4_kept 6 = .ok (.iload_n 1, 1) := by decide +kernel
theorem dX4_kept_7 : decode cX4_kept 7 = .ok (.invokevirtual 82, 3) := by decide +kernel
theorem dX4_kept_10 : decode cX4_kept 10 = .ok (.ifCond .eq 12, 3) := by decide +kernel
theorem dX4_kept_13 : decode cX4_kept 13 = .ok (.aload_n 0, 1) := by decide +kernel
theorem dX4_kept_14 : decode cX4_kept 14 = .ok (.getfield 40, 3) := by decide +kernel
theorem dX4_kept_17 : decode cX4_kept 17 = .ok (.iload_n 1, 1) := by decide +kernel
theorem dX4_kept_18 : decode cX4_kept 18 = .ok (.iaload, 1) := by decide +kernel
theorem dX4_kept_19 : decode cX4_kept 19 = .ok (.goto 4, 3) := by decide +kernel
theorem dX4_kept_22 : decode cX4_kept 22 = .ok (.iconst 0, 1) := by decide +kernel
theorem dX4_kept_23 : decode cX4_kept 23 = .ok (.ireturn, 1) := by decide +kernel
theorem dX4_changed_0 : decode cX4_changed 0 = .ok (.aload_n 0, 1) := by decide +kernel
theorem dX4_changed_1 : decode cX4_changed 1 = .ok (.iconst 0, 1) := by decide +kernel
theorem dX4_changed_2 : decode cX4_changed 2 = .ok (.putfield 75, 3) := by decide +kernel
theorem dX4_changed_5 : decode cX4_changed 5 = .ok (.aload_n 0, 1) := by decide +kernel
theorem dX4_changed_6 : decode cX4_changed 6 = .ok (.iload_n 1, 1) := by decide +kernel
theorem dX4_changed_7 : decode cX4_changed 7 = .ok (.invokevirtual 82, 3) := by decide +kernel
theorem dX4_changed_10 : decode cX4_changed 10 = .ok (.ifCond .eq 31, 3) := by decide +kernel
theorem dX4_changed_13 : decode cX4_changed 13 = .ok (.aload_n 0, 1) := by decide +kernel
theorem dX4_changed_14 : decode cX4_changed 14 = .ok (.getfield 7, 3) := by decide +kernel
theorem dX4_changed_17 : decode cX4_changed 17 = .ok (.iload_n 1, 1) := by decide +kernel
theorem dX4_changed_18 : decode cX4_changed 18 = .ok (.iaload, 1) := by decide +kernel
theorem dX4_changed_19 : decode cX4_changed 19 = .ok (.iconst (-1), 1) := by decide +kernel
theorem dX4_changed_20 : decode cX4_changed 20 = .ok (.if_icmp .eq 12, 3) := by decide +kernel
theorem dX4_changed_23 : decode cX4_changed 23 = .ok (.aload_n 0, 1) := by decide +kernel
theorem dX4_changed_24 : decode cX4_changed 24 = .ok (.getfield 51, 3) := by decide +kernel
theorem dX4_changed_27 : decode cX4_changed 27 = .ok (.iload_n 1, 1) := by decide +kernel
theorem dX4_changed_28 : decode cX4_changed 28 = .ok (.baload, 1) := by decide +kernel
theorem dX4_changed_29 : decode cX4_changed 29 = .ok (.ifCond .eq 12, 3) := by decide +kernel
theorem dX4_changed_32 : decode cX4_changed 32 = .ok (.aload_n 0, 1) := by decide +kernel
theorem dX4_changed_33 : decode cX4_changed 33 = .ok (.getfield 25, 3) := by decide +kernel
theorem dX4_changed_36 : decode cX4_changed 36 = .ok (.iload_n 1, 1) := by decide +kernel
theorem dX4_changed_37 : decode cX4_changed 37 = .ok (.iaload, 1) := by decide +kernel
theorem dX4_changed_38 : decode cX4_changed 38 = .ok (.goto 4, 3) := by decide +kernel
theorem dX4_changed_41 : decode cX4_changed 41 = .ok (.iconst (-1), 1) := by decide +kernel
theorem dX4_changed_42 : decode cX4_changed 42 = .ok (.ireturn, 1) := by decide +kernel
theorem dX4_asked_0 : decode cX4_asked 0 = .ok (.aload_n 0, 1) := by decide +kernel
theorem dX4_asked_1 : decode cX4_asked 1 = .ok (.iconst 0, 1) := by decide +kernel
theorem dX4_asked_2 : decode cX4_asked 2 = .ok (.putfield 75, 3) := by decide +kernel
theorem dX4_asked_5 : decode cX4_asked 5 = .ok (.aload_n 0, 1) := by decide +kernel
theorem dX4_asked_6 : decode cX4_asked 6 = .ok (.iload_n 1, 1) := by decide +kernel
theorem dX4_asked_7 : decode cX4_asked 7 = .ok (.invokevirtual 82, 3) := by decide +kernel
theorem dX4_asked_10 : decode cX4_asked 10 = .ok (.ifCond .eq 40, 3) := by decide +kernel
theorem dX4_asked_13 : decode cX4_asked 13 = .ok (.aload_n 0, 1) := by decide +kernel
theorem dX4_asked_14 : decode cX4_asked 14 = .ok (.getfield 51, 3) := by decide +kernel
theorem dX4_asked_17 : decode cX4_asked 17 = .ok (.iload_n 1, 1) := by decide +kernel
theorem dX4_asked_18 : decode cX4_asked 18 = .ok (.baload, 1) := by decide +kernel
theorem dX4_asked_19 : decode cX4_asked 19 = .ok (.ifCond .eq 31, 3) := by decide +kernel
theorem dX4_asked_22 : decode cX4_asked 22 = .ok (.iload_n 2, 1) := by decide +kernel
theorem dX4_asked_23 : decode cX4_asked 23 = .ok (.ifCond .lt 27, 3) := by decide +kernel
theorem dX4_asked_26 : decode cX4_asked 26 = .ok (.iload_n 2, 1) := by decide +kernel
theorem dX4_asked_27 : decode cX4_asked 27 = .ok (.aload_n 0, 1) := by decide +kernel
theorem dX4_asked_28 : decode cX4_asked 28 = .ok (.getfield 31, 3) := by decide +kernel
theorem dX4_asked_31 : decode cX4_asked 31 = .ok (.iload_n 1, 1) := by decide +kernel
theorem dX4_asked_32 : decode cX4_asked 32 = .ok (.iaload, 1) := by decide +kernel
theorem dX4_asked_33 : decode cX4_asked 33 = .ok (.if_icmp .ge 17, 3) := by decide +kernel
theorem dX4_asked_36 : decode cX4_asked 36 = .ok (.aload_n 0, 1) := by decide +kernel
theorem dX4_asked_37 : decode cX4_asked 37 = .ok (.getfield 34, 3) := by decide +kernel
theorem dX4_asked_40 : decode cX4_asked 40 = .ok (.bipush 8, 2) := by decide +kernel
theorem dX4_asked_42 : decode cX4_asked 42 = .ok (.iload_n 1, 1) := by decide +kernel
theorem dX4_asked_43 : decode cX4_asked 43 = .ok (.imul, 1) := by decide +kernel
theorem dX4_asked_44 : decode cX4_asked 44 = .ok (.iload_n 2, 1) := by decide +kernel
theorem dX4_asked_45 : decode cX4_asked 45 = .ok (.iadd, 1) := by decide +kernel
theorem dX4_asked_46 : decode cX4_asked 46 = .ok (.iaload, 1) := by decide +kernel
theorem dX4_asked_47 : decode cX4_asked 47 = .ok (.goto 4, 3) := by decide +kernel
theorem dX4_asked_50 : decode cX4_asked 50 = .ok (.iconst (-1), 1) := by decide +kernel
theorem dX4_asked_51 : decode cX4_asked 51 = .ok (.ireturn, 1) := by decide +kernel
theorem dX4_drop_0 : decode cX4_drop 0 = .ok (.aload_n 0, 1) := by decide +kernel
theorem dX4_drop_1 : decode cX4_drop 1 = .ok (.iconst 0, 1) := by decide +kernel
theorem dX4_drop_2 : decode cX4_drop 2 = .ok (.putfield 75, 3) := by decide +kernel
theorem dX4_drop_5 : decode cX4_drop 5 = .ok (.aload_n 0, 1) := by decide +kernel
theorem dX4_drop_6 : decode cX4_drop 6 = .ok (.iload_n 1, 1) := by decide +kernel
theorem dX4_drop_7 : decode cX4_drop 7 = .ok (.invokevirtual 82, 3) := by decide +kernel
theorem dX4_drop_10 : decode cX4_drop 10 = .ok (.ifCond .eq 12, 3) := by decide +kernel
theorem dX4_drop_13 : decode cX4_drop 13 = .ok (.aload_n 0, 1) := by decide +kernel
theorem dX4_drop_14 : decode cX4_drop 14 = .ok (.getfield 51, 3) := by decide +kernel
theorem dX4_drop_17 : decode cX4_drop 17 = .ok (.iload_n 1, 1) := by decide +kernel
theorem dX4_drop_18 : decode cX4_drop 18 = .ok (.baload, 1) := by decide +kernel
theorem dX4_drop_19 : decode cX4_drop 19 = .ok (.ifCond .ne 5, 3) := by decide +kernel
theorem dX4_drop_22 : decode cX4_drop 22 = .ok (.iconst 0, 1) := by decide +kernel
theorem dX4_drop_23 : decode cX4_drop 23 = .ok (.ireturn, 1) := by decide +kernel
theorem dX4_drop_24 : decode cX4_drop 24 = .ok (.aload_n 0, 1) := by decide +kernel
theorem dX4_drop_25 : decode cX4_drop 25 = .ok (.getfield 51, 3) := by decide +kernel
theorem dX4_drop_28 : decode cX4_drop 28 = .ok (.iload_n 1, 1) := by decide +kernel
theorem dX4_drop_29 : decode cX4_drop 29 = .ok (.iconst 0, 1) := by decide +kernel
theorem dX4_drop_30 : decode cX4_drop 30 = .ok (.bastore, 1) := by decide +kernel
theorem dX4_drop_31 : decode cX4_drop 31 = .ok (.aload_n 0, 1) := by decide +kernel
theorem dX4_drop_32 : decode cX4_drop 32 = .ok (.invokevirtual 93, 3) := by decide +kernel
theorem dX4_drop_35 : decode cX4_drop 35 = .ok (.pop, 1) := by decide +kernel
theorem dX4_drop_36 : decode cX4_drop 36 = .ok (.iconst 1, 1) := by decide +kernel
theorem dX4_drop_37 : decode cX4_drop 37 = .ok (.ireturn, 1) := by decide +kernel
theorem dX4_version_0 : decode cX4_version 0 = .ok (.aload_n 0, 1) := by decide +kernel
theorem dX4_version_1 : decode cX4_version 1 = .ok (.iconst 0, 1) := by decide +kernel
theorem dX4_version_2 : decode cX4_version 2 = .ok (.putfield 75, 3) := by decide +kernel
theorem dX4_version_5 : decode cX4_version 5 = .ok (.aload_n 0, 1) := by decide +kernel
theorem dX4_version_6 : decode cX4_version 6 = .ok (.getfield 86, 3) := by decide +kernel
theorem dX4_version_9 : decode cX4_version 9 = .ok (.ireturn, 1) := by decide +kernel
end
section
/-! THE STORE: every cell of ours has a kind c and a number i; what it holds is told by three functions (numbers, longs, references by the number of the cell that is meant, whose kind the place says) -/
/-- (0, class, fields) an object; (1, type, length) an array -/
def kd (c : Nat) : Nat × Nat × Nat := match c with
  | 0 => (0, 3, 6)
  | 1 => (1, 3, 40)
  | 2 => (1, 4, 5)
  | 3 => (1, 0, 40)
  | 4 => (0, 0, 18)
  | 5 => (1, 3, 8)
  | 6 => (1, 0, 8)
  | 7 => (0, 2, 5)
  | 8 => (1, 0, 8)
  | 9 => (0, 1, 2)
  | 10 => (1, 3, 40)
  | 11 => (0, 4, 25)
  | 12 => (1, 1, 1)
  | 25 => (1, 0, 320)
  | 31 => (1, 0, 320)
  | 34 => (1, 1, 40)
  | 35 => (1, 2, 40)
  | 36 => (1, 2, 40)
  | 37 => (1, 0, 5)
  | 38 => (1, 0, 200)
  | 39 => (1, 0, 200)
  | 40 => (1, 0, 1600)
  | 41 => (1, 2, 200)
  | 44 => (1, 2, 40)
  | _ => (1, 0, 40)
/-- what a place holds: 0 a number, 1 a long, t + 2 a cell of kind t or null -/
def sty (c k : Nat) : Nat := match c with
  | 0 => (match k with | 0 => 3 | 3 => 4 | 4 => 5 | _ => 0)
  | 1 => 6
  | 2 => 11
  | 4 => (match k with | 2 => 7 | 4 => 1 | 8 => 1 | 12 => 8 | 17 => 9 | _ => 0)
  | 5 => 6
  | 7 => (match k with | 2 => 10 | 3 => 1 | _ => 0)
  | 9 => (match k with | 0 => 12 | _ => 0)
  | 10 => 6
  | 11 => (match k with | 0 => 0 | 1 => 0 | 2 => 0 | 23 => 0 | _ => k + 22)
  | 12 => 1
  | 34 => 1
  | _ => 0
abbrev Fi : Type := Nat → Nat → Nat → Int32
abbrev Fj : Type := Nat → Nat → Nat → Int64
abbrev Fr : Type := Nat → Nat → Nat → Option Nat
abbrev Fa : Type := Nat → Nat → Nat
def sv (ad : Fa) (I : Fi) (J : Fj) (R : Fr) (c i k : Nat) : Value := match sty c k with
  | 0 => .int (I c i k)
  | 1 => .long (J c i k)
  | t + 2 => (match R c i k with | none => .null | some j => .ref (ad t j))
def up3 {α : Type} (f : Nat → Nat → Nat → α) (c i k : Nat) (v : α) : Nat → Nat → Nat → α := fun a b d => if a = c ∧ b = i ∧ d = k then v else f a b d
theorem up3_s {α : Type} (f : Nat → Nat → Nat → α) (c i k : Nat) (v : α) : up3 f c i k v c i k = v := by simp [up3]
theorem up3_n {α : Type} (f : Nat → Nat → Nat → α) (c i k : Nat) (v : α) {a b d : Nat} (h : ¬ (a = c ∧ b = i ∧ d = k)) : up3 f c i k v a b d = f a b d := by simp only [up3, if_neg h]
abbrev aty (t : Nat) : FieldType := match t with
  | 0 => .int
  | 1 => .long
  | 2 => .boolean
  | 3 => .object RX0
  | _ => .object RX1
abbrev tysX (dA : Nat → ClassId) : List (ClassId × FieldType) := [(dA 0, .int), (dA 1, .long), (dA 2, .boolean), (dA 3, .object RX0), (dA 4, .object RX1)]
def cellAt (D : va_G) (dA : Nat → ClassId) (H : Heap) (a c : Nat) (V : Nat → Value) : Prop := match kd c with
  | (0, ci, n) => t_OB a (D.1 ci) n (D.2 ci) H V
  | (_, t, n) => H[a]? = some (arrV (dA t) n V)
theorem cellAt_kept {D : va_G} {dA : Nat → ClassId} {H H1 : Heap} {a c : Nat} {V : Nat → Value} (h : cellAt D dA H a c V) (hq : H1[a]? = H[a]?) : cellAt D dA H1 a c V := by
  unfold cellAt at h ⊢
  split at h
  · exact h.kept hq
  · exact hq.trans h
theorem cellAt_lt {D : va_G} {dA : Nat → ClassId} {H : Heap} {a c : Nat} {V : Nat → Value} (h : cellAt D dA H a c V) : a < H.size := by
  unfold cellAt at h
  split at h
  · obtain ⟨cell, h2, -⟩ := h
    exact (Array.getElem?_eq_some_iff.mp h2).1
  · exact (Array.getElem?_eq_some_iff.mp h).1
def HR (D : va_G) (dA : Nat → ClassId) (base : Nat) (ad : Fa) (N : Nat → Nat) (I : Fi) (J : Fj) (R : Fr) (H : Heap) : Prop :=
  (∀ c i, i < N c → cellAt D dA H (ad c i) c (sv ad I J R c i)) ∧ (∀ c i c' i', i < N c → i' < N c' → ad c i = ad c' i' → c = c' ∧ i = i') ∧ ∀ c i, i < N c → base ≤ ad c i
theorem HR.set {D : va_G} {dA : Nat → ClassId} {base : Nat} {ad : Fa} {N : Nat → Nat} {I I' : Fi} {J J' : Fj} {R R' : Fr} {H H1 : Heap} (h : HR D dA base ad N I J R H) {c i : Nat} (hi : i < N c)
    (h1 : cellAt D dA H1 (ad c i) c (sv ad I' J' R' c i)) (oq : ∀ q : Nat, q ≠ ad c i → H1[q]? = H[q]?) (hv : ∀ c' i', ¬ (c' = c ∧ i' = i) → sv ad I' J' R' c' i' = sv ad I J R c' i') : HR D dA base ad N I' J' R' H1 := by
  refine ⟨fun c' i' hi' => ?_, h.2.1, h.2.2⟩
  by_cases hc : c' = c ∧ i' = i
  · obtain ⟨rfl, rfl⟩ := hc
    exact h1
  · rw [hv c' i' hc]
    exact cellAt_kept (h.1 c' i' hi') (oq _ (fun e => hc (h.2.1 c' i' c i hi' hi e)))
theorem sv_I {ad : Fa} {I : Fi} {J : Fj} {R : Fr} {c k : Nat} (i : Nat) (h : sty c k = 0) : sv ad I J R c i k = .int (I c i k) := by simp only [sv, h]
theorem sv_J {ad : Fa} {I : Fi} {J : Fj} {R : Fr} {c k : Nat} (i : Nat) (h : sty c k = 1) : sv ad I J R c i k = .long (J c i k) := by simp only [sv, h]
theorem sv_Rs {ad : Fa} {I : Fi} {J : Fj} {R : Fr} {c k t j : Nat} (i : Nat) (h : sty c k = t + 2) (hr : R c i k = some j) : sv ad I J R c i k = .ref (ad t j) := by simp only [sv, h, hr]
theorem sv_Rn {ad : Fa} {I : Fi} {J : Fj} {R : Fr} {c k t : Nat} (i : Nat) (h : sty c k = t + 2) (hr : R c i k = none) : sv ad I J R c i k = .null := by simp only [sv, h, hr]
theorem sv_upI {ad : Fa} {I : Fi} {J : Fj} {R : Fr} {c k : Nat} (i : Nat) (h : sty c k = 0) (v : Int32) : sv ad (up3 I c i k v) J R c i = updV (sv ad I J R c i) k (.int v) := by
  funext q
  by_cases hq : q = k
  · subst hq; simp only [sv, h, updV, up3_s, if_true]
  · simp only [sv, updV, if_neg hq, up3_n I c i k v (fun z => hq z.2.2)]
theorem sv_upI' {ad : Fa} {I : Fi} {J : Fj} {R : Fr} {c k i : Nat} (v : Int32) (c' i' : Nat) (h : ¬ (c' = c ∧ i' = i)) : sv ad (up3 I c i k v) J R c' i' = sv ad I J R c' i' := by
  funext q
  simp only [sv, up3_n I c i k v (fun z => h ⟨z.1, z.2.1⟩)]
theorem sv_upJ {ad : Fa} {I : Fi} {J : Fj} {R : Fr} {c k : Nat} (i : Nat) (h : sty c k = 1) (v : Int64) : sv ad I (up3 J c i k v) R c i = updV (sv ad I J R c i) k (.long v) := by
  funext q
  by_cases hq : q = k
  · subst hq; simp only [sv, h, updV, up3_s, if_true]
  · simp only [sv, updV, if_neg hq, up3_n J c i k v (fun z => hq z.2.2)]
theorem sv_upJ' {ad : Fa} {I : Fi} {J : Fj} {R : Fr} {c k i : Nat} (v : Int64) (c' i' : Nat) (h : ¬ (c' = c ∧ i' = i)) : sv ad I (up3 J c i k v) R c' i' = sv ad I J R c' i' := by
  funext q
  simp only [sv, up3_n J c i k v (fun z => h ⟨z.1, z.2.1⟩)]
theorem sv_upR {ad : Fa} {I : Fi} {J : Fj} {R : Fr} {c k t : Nat} (i : Nat) (h : sty c k = t + 2) (j : Nat) : sv ad I J (up3 R c i k (some j)) c i = updV (sv ad I J R c i) k (.ref (ad t j)) := by
  funext q
  by_cases hq : q = k
  · subst hq; simp only [sv, h, updV, up3_s, if_true]
  · simp only [sv, updV, if_neg hq, up3_n R c i k (some j) (fun z => hq z.2.2)]
theorem sv_upR' {ad : Fa} {I : Fi} {J : Fj} {R : Fr} {c k i : Nat} (v : Option Nat) (c' i' : Nat) (h : ¬ (c' = c ∧ i' = i)) : sv ad I J (up3 R c i k v) c' i' = sv ad I J R c' i' := by
  funext q
  simp only [sv, up3_n R c i k v (fun z => h ⟨z.1, z.2.1⟩)]
theorem HR.obj {D : va_G} {dA : Nat → ClassId} {base : Nat} {ad : Fa} {N : Nat → Nat} {I : Fi} {J : Fj} {R : Fr} {H : Heap} (h : HR D dA base ad N I J R H) {c i ci n : Nat} (hi : i < N c) (hk : kd c = (0, ci, n)) : t_OB (ad c i) (D.1 ci) n (D.2 ci) H (sv ad I J R c i) := by
  have h1 := h.1 c i hi
  unfold cellAt at h1
  rw [hk] at h1
  exact h1
theorem HR.arr {D : va_G} {dA : Nat → ClassId} {base : Nat} {ad : Fa} {N : Nat → Nat} {I : Fi} {J : Fj} {R : Fr} {H : Heap} (h : HR D dA base ad N I J R H) {c i t n : Nat} (hi : i < N c) (hk : kd c = (1, t, n)) : H[ad c i]? = some (arrV (dA t) n (sv ad I J R c i)) := by
  have h1 := h.1 c i hi
  unfold cellAt at h1
  rw [hk] at h1
  exact h1
/-! LOCALS by their places -/
def LVx (nL : Nat) (L : List (Option Value)) (ls : Array Slot) : Prop := ls.size = nL ∧ lv_wf ls ∧ ∀ (j : Nat) (v : Value), L[j]? = some (some v) → ls[j]? = some (.val v)
def prs : Nat → List (Option Value) → List (Nat × Value)
  | _, [] => []
  | i, none :: t => prs (i + 1) t
  | i, some v :: t => (i, v) :: prs (i + 1) t
theorem prs_mem : ∀ (L : List (Option Value)) (a : Nat) (q : Nat × Value), q ∈ prs a L → ∃ k, q.1 = a + k ∧ L[k]? = some (some q.2)
  | [], _, _, h => by simp [prs] at h
  | none :: t, a, q, h => by
    obtain ⟨k, h1, h2⟩ := prs_mem t (a + 1) q h
    exact ⟨k + 1, by omega, by simpa using h2⟩
  | some v :: t, a, q, h => by
    rcases List.mem_cons.mp h with rfl | h
    · exact ⟨0, rfl, rfl⟩
    · obtain ⟨k, h1, h2⟩ := prs_mem t (a + 1) q h
      exact ⟨k + 1, by omega, by simpa using h2⟩
theorem prs_in : ∀ (L : List (Option Value)) (a k : Nat) (v : Value), L[k]? = some (some v) → (a + k, v) ∈ prs a L
  | [], _, _, _, h => by simp at h
  | none :: t, a, 0, v, h => by simp at h
  | none :: t, a, k + 1, v, h => by
    have h1 := prs_in t (a + 1) k v (by simpa using h)
    rw [show a + (k + 1) = a + 1 + k by omega]
    exact h1
  | some w :: t, a, 0, v, h => by
    have e : w = v := by simpa using h
    subst e
    exact List.mem_cons_self
  | some w :: t, a, k + 1, v, h => by
    have h1 := prs_in t (a + 1) k v (by simpa using h)
    rw [show a + (k + 1) = a + 1 + k by omega]
    exact List.mem_cons_of_mem _ h1
theorem LVx.has {nL : Nat} {L : List (Option Value)} {ls : Array Slot} (h : LVx nL L ls) : lv_has ls nL (prs 0 L) := ⟨h.1, h.2.1, fun q hq => by
  obtain ⟨k, h1, h2⟩ := prs_mem L 0 q hq
  rw [h1, Nat.zero_add]
  exact h.2.2 k _ h2⟩
/-- no long begins just ahead of the place i -/
def okc (L : List (Option Value)) (i : Nat) : Bool := match i with
  | 0 => true
  | j + 1 => match L[j]? with
    | some (some v) => v.category == 1
    | _ => true
theorem LVx.st1 {nL i : Nat} {L : List (Option Value)} {ls ls' : Array Slot} {v : Value} (hc : okc L i = true) (h : lv_has ls' nL ((i, v) :: (prs 0 L).filter (fun q => !(q.1 == i) && !(q.1 + 1 == i && q.2.category == 2)))) : LVx nL (L.set i (some v)) ls' := by
  refine ⟨h.1, h.2.1, fun j w hj => ?_⟩
  by_cases hij : j = i
  · subst hij
    have hl : j < L.length := by
      have := (List.getElem?_eq_some_iff.mp hj).1
      simpa using this
    rw [List.getElem?_set_self hl] at hj
    cases hj
    exact h.2.2 (j, v) List.mem_cons_self
  · rw [List.getElem?_set_ne (Ne.symm hij)] at hj
    refine h.2.2 (j, w) (List.mem_cons_of_mem _ (List.mem_filter.mpr ⟨by simpa using prs_in L 0 j w hj, ?_⟩))
    have h1 : (j == i) = false := by simpa using hij
    simp only [h1, Bool.not_false, Bool.true_and]
    by_cases h2 : j + 1 = i
    · subst h2
      simp only [okc, hj] at hc
      have : w.category = 1 := by simpa using hc
      simp [this]
    · simp [h2]
theorem LVx.st2 {nL i : Nat} {L : List (Option Value)} {ls ls' : Array Slot} {v : Value} (hc : okc L i = true) (h : lv_has ls' nL ((i, v) :: (prs 0 L).filter (fun q => !(q.1 == i) && (!(q.1 == i + 1) && !(q.1 + 1 == i && q.2.category == 2))))) : LVx nL ((L.set i (some v)).set (i + 1) none) ls' := by
  refine ⟨h.1, h.2.1, fun j w hj => ?_⟩
  by_cases hj1 : j = i + 1
  · subst hj1
    rw [List.getElem?_set] at hj
    simp only [if_true] at hj
    split at hj <;> simp at hj
  · rw [List.getElem?_set_ne (Ne.symm hj1)] at hj
    by_cases hij : j = i
    · subst hij
      have hl : j < L.length := by
        have := (List.getElem?_eq_some_iff.mp hj).1
        simpa using this
      rw [List.getElem?_set_self hl] at hj
      cases hj
      exact h.2.2 (j, v) List.mem_cons_self
    · rw [List.getElem?_set_ne (Ne.symm hij)] at hj
      refine h.2.2 (j, w) (List.mem_cons_of_mem _ (List.mem_filter.mpr ⟨by simpa using prs_in L 0 j w hj, ?_⟩))
      have h1 : (j == i) = false := by simpa using hij
      have h3 : (j == i + 1) = false := by simpa using hj1
      simp only [h1, h3, Bool.not_false, Bool.true_and]
      by_cases h2 : j + 1 = i
      · subst h2
        simp only [okc, hj] at hc
        have : w.category = 1 := by simpa using hc
        simp [this]
      · simp [h2]
def argL (vs : List Value) : List (Option Value) := vs.flatMap fun v => if v.category = 2 then [some v, none] else [some v]
theorem argL_in : ∀ (vs : List Value) (a j : Nat) (v : Value) (t : Nat), (argL vs ++ List.replicate t none)[j]? = some (some v) → (a + j, v) ∈ lv_args a vs
  | [], a, j, v, t, h => by
    simp only [argL, List.flatMap_nil, List.nil_append] at h
    have := List.eq_of_mem_replicate (List.mem_of_getElem? h)
    cases this
  | w :: vs, a, j, v, t, h => by
    by_cases hc : w.category = 2
    · simp only [lv_args, hc, if_true]
      have e : argL (w :: vs) = some w :: none :: argL vs := by simp [argL, hc]
      rw [e] at h
      match j, h with
      | 0, h =>
        have e2 : w = v := by simpa using h
        subst e2
        exact List.mem_cons_self
      | 1, h => simp at h
      | j + 2, h =>
        have h1 := argL_in vs (a + 2) j v t (by simpa using h)
        rw [show a + (j + 2) = a + 2 + j by omega]
        exact List.mem_cons_of_mem _ h1
    · simp only [lv_args, hc, if_false]
      have e : argL (w :: vs) = some w :: argL vs := by simp [argL, hc]
      rw [e] at h
      match j, h with
      | 0, h =>
        have e2 : w = v := by simpa using h
        subst e2
        exact List.mem_cons_self
      | j + 1, h =>
        have h1 := argL_in vs (a + 1) j v t (by simpa using h)
        rw [show a + (j + 1) = a + 1 + j by omega]
        exact List.mem_cons_of_mem _ h1
theorem LVx.entry (vs : List Value) {n : Nat} (t : Nat) (h : (lg_sl vs).length ≤ n) : LVx n (argL vs ++ List.replicate t none) ((lg_sl vs ++ List.replicate (n - (lg_sl vs).length) Slot.unset).toArray) := by
  obtain ⟨h1, h2, h3⟩ := lv_entry vs h
  exact ⟨h1, h2, fun j v hj => h3 (j, v) (by simpa using argL_in vs 0 j v t hj)⟩
end
section
/-! THE JUDGEMENT over the store: a frame at pc with locals L and stack st, in any heap that holds the store -/
def lw_gd : List Cond := lw_tbl.filter goodWord
theorem gd_in {w : Cond} (h : w ∈ lw_tbl) (hg : goodWord w = true) : w ∈ lw_gd := List.mem_filter.mpr ⟨h, hg⟩
theorem gd_good {w : Cond} (h : w ∈ lw_gd) : goodWord w = true := (List.mem_filter.mp h).2
def CX (p : Program) (s : State) (m : MethodId) (args : Array Value) (meth : Method) (c : Code) (cc : ByteArray) (nL : Nat) (own : String) (ret : Option FieldType) (D : va_G) (dA : Nat → ClassId) (base : Nat) : Prop :=
  p.tables.exec = Jvm.exec ∧ c.code = cc ∧ c.maxLocals = nL ∧ s.vm.findClass own = some m.cls ∧ (∀ w ∈ lw_gd, w.before args s = true) ∧ va_K D vwCl (tysX dA) s ∧ base ≤ s.heap.size ∧ meth.sig.returnType = ret ∧ meth.locks = false
def GX (p : Program) (l : Launch) (e : Env) (Rm : Room) (s : State) (m : MethodId) (args : Array Value) (below : List Frame) (meth : Method) (c : Code) (Q : State → Prop) (D : va_G) (dA : Nat → ClassId) (base nL : Nat) (ad : Fa) (N : Nat → Nat) (I : Fi) (J : Fj) (R : Fr) (nc ns pc : Nat) (L : List (Option Value)) (st : List Value) : Prop :=
  ∀ (H : Heap) (locs : List Loc) (ls : Array Slot), HR D dA base ad N I J R H → va_S (fun q => base ≤ q) s.heap H locs → LVx nL L ls → W p l e Rm s m args below meth c H locs nc ns Q (F0 m pc ls st)
section GXR
variable {p : Program} {l : Launch} {e : Env} {Rm : Room} {s : State} {m : MethodId} {args : Array Value} {below : List Frame} {meth : Method} {c : Code} {Q : State → Prop} {cc : ByteArray} {own : String} {ret : Option FieldType} {D : va_G} {dA : Nat → ClassId} {base nL : Nat} {ad : Fa} {N : Nat → Nat} {I : Fi} {J : Fj} {R : Fr} {nc ns pc : Nat} {L : List (Option Value)} {st : List Value}
theorem x_iconst (C : CX p s m args meth c cc nL own ret D dA base) {n : Int} (v : Int32) (hv : Int32.ofInt n = v) (d : decode cc pc = .ok (.iconst n, 1)) (k : GX p l e Rm s m args below meth c Q D dA base nL ad N I J R nc ns (pc + 1) L (.int v :: st)) : GX p l e Rm s m args below meth c Q D dA base nL ad N I J R nc ns (pc) L st := fun H locs ls hH hS hl => lv_iconst C.1 C.2.1 d hv (k H locs ls hH hS hl)
theorem x_bipush (C : CX p s m args meth c cc nL own ret D dA base) {n : Int} (v : Int32) (hv : (Int8.ofInt n).toInt32 = v) (d : decode cc pc = .ok (.bipush n, 2)) (k : GX p l e Rm s m args below meth c Q D dA base nL ad N I J R nc ns (pc + 2) L (.int v :: st)) : GX p l e Rm s m args below meth c Q D dA base nL ad N I J R nc ns (pc) L st := fun H locs ls hH hS hl => lv_bipush C.1 C.2.1 d hv (k H locs ls hH hS hl)
theorem x_sipush (C : CX p s m args meth c cc nL own ret D dA base) {n : Int} (v : Int32) (hv : (Int16.ofInt n).toInt32 = v) (d : decode cc pc = .ok (.sipush n, 3)) (k : GX p l e Rm s m args below meth c Q D dA base nL ad N I J R nc ns (pc + 3) L (.int v :: st)) : GX p l e Rm s m args below meth c Q D dA base nL ad N I J R nc ns (pc) L st := fun H locs ls hH hS hl => lv_sipush C.1 C.2.1 d hv (k H locs ls hH hS hl)
theorem x_lconst (C : CX p s m args meth c cc nL own ret D dA base) {n : Fin 2} (v : Int64) (hv : Int64.ofNat (n : Nat) = v) (d : decode cc pc = .ok (.lconst n, 1)) (k : GX p l e Rm s m args below meth c Q D dA base nL ad N I J R nc ns (pc + 1) L (.long v :: st)) : GX p l e Rm s m args below meth c Q D dA base nL ad N I J R nc ns (pc) L st := fun H locs ls hH hS hl => lv_lconst C.1 C.2.1 d hv (k H locs ls hH hS hl)
theorem x_null (C : CX p s m args meth c cc nL own ret D dA base)  (d : decode cc pc = .ok (.aconst_null, 1)) (k : GX p l e Rm s m args below meth c Q D dA base nL ad N I J R nc ns (pc + 1) L (.null :: st)) : GX p l e Rm s m args below meth c Q D dA base nL ad N I J R nc ns (pc) L st := fun H locs ls hH hS hl => lv_null C.1 C.2.1 d (k H locs ls hH hS hl)
theorem x_iload_n (C : CX p s m args meth c cc nL own ret D dA base) {k : Fin 4} {x : Int32} (d : decode cc pc = .ok (.iload_n k, 1)) (h : L[(k : Nat)]? = some (some (.int x))) (kk : GX p l e Rm s m args below meth c Q D dA base nL ad N I J R nc ns (pc + 1) L (.int x :: st)) : GX p l e Rm s m args below meth c Q D dA base nL ad N I J R nc ns (pc) L st := fun H locs ls hH hS hl => lv_iload_n C.1 C.2.1 d rfl (hl.2.2 _ _ h) (kk H locs ls hH hS hl)
theorem x_iload (C : CX p s m args meth c cc nL own ret D dA base) {i : Nat} {x : Int32} (d : decode cc pc = .ok (.iload i, 2)) (h : L[i]? = some (some (.int x))) (kk : GX p l e Rm s m args below meth c Q D dA base nL ad N I J R nc ns (pc + 2) L (.int x :: st)) : GX p l e Rm s m args below meth c Q D dA base nL ad N I J R nc ns (pc) L st := fun H locs ls hH hS hl => lv_iload C.1 C.2.1 d (hl.2.2 _ _ h) (kk H locs ls hH hS hl)
theorem x_lload_n (C : CX p s m args meth c cc nL own ret D dA base) {k : Fin 4} {x : Int64} (d : decode cc pc = .ok (.lload_n k, 1)) (h : L[(k : Nat)]? = some (some (.long x))) (kk : GX p l e Rm s m args below meth c Q D dA base nL ad N I J R nc ns (pc + 1) L (.long x :: st)) : GX p l e Rm s m args below meth c Q D dA base nL ad N I J R nc ns (pc) L st := fun H locs ls hH hS hl => lv_lload_n C.1 C.2.1 d rfl (hl.2.2 _ _ h) (kk H locs ls hH hS hl)
theorem x_lload (C : CX p s m args meth c cc nL own ret D dA base) {i : Nat} {x : Int64} (d : decode cc pc = .ok (.lload i, 2)) (h : L[i]? = some (some (.long x))) (kk : GX p l e Rm s m args below meth c Q D dA base nL ad N I J R nc ns (pc + 2) L (.long x :: st)) : GX p l e Rm s m args below meth c Q D dA base nL ad N I J R nc ns (pc) L st := fun H locs ls hH hS hl => lv_lload C.1 C.2.1 d (hl.2.2 _ _ h) (kk H locs ls hH hS hl)
theorem x_aload_n (C : CX p s m args meth c cc nL own ret D dA base) {k : Fin 4} {x : Nat} (d : decode cc pc = .ok (.aload_n k, 1)) (h : L[(k : Nat)]? = some (some (.ref x))) (kk : GX p l e Rm s m args below meth c Q D dA base nL ad N I J R nc ns (pc + 1) L (.ref x :: st)) : GX p l e Rm s m args below meth c Q D dA base nL ad N I J R nc ns (pc) L st := fun H locs ls hH hS hl => lv_aload_n C.1 C.2.1 d rfl (hl.2.2 _ _ h) (kk H locs ls hH hS hl)
theorem x_aload (C : CX p s m args meth c cc nL own ret D dA base) {i : Nat} {x : Nat} (d : decode cc pc = .ok (.aload i, 2)) (h : L[i]? = some (some (.ref x))) (kk : GX p l e Rm s m args below meth c Q D dA base nL ad N I J R nc ns (pc + 2) L (.ref x :: st)) : GX p l e Rm s m args below meth c Q D dA base nL ad N I J R nc ns (pc) L st := fun H locs ls hH hS hl => lv_aload C.1 C.2.1 d (hl.2.2 _ _ h) (kk H locs ls hH hS hl)
theorem x_aload_nN (C : CX p s m args meth c cc nL own ret D dA base) {k : Fin 4} (d : decode cc pc = .ok (.aload_n k, 1)) (h : L[(k : Nat)]? = some (some .null)) (kk : GX p l e Rm s m args below meth c Q D dA base nL ad N I J R nc ns (pc + 1) L (.null :: st)) : GX p l e Rm s m args below meth c Q D dA base nL ad N I J R nc ns (pc) L st := fun H locs ls hH hS hl => lv_aload_nN C.1 C.2.1 d rfl (hl.2.2 _ _ h) (kk H locs ls hH hS hl)
theorem x_aloadN (C : CX p s m args meth c cc nL own ret D dA base) {i : Nat} (d : decode cc pc = .ok (.aload i, 2)) (h : L[i]? = some (some .null)) (kk : GX p l e Rm s m args below meth c Q D dA base nL ad N I J R nc ns (pc + 2) L (.null :: st)) : GX p l e Rm s m args below meth c Q D dA base nL ad N I J R nc ns (pc) L st := fun H locs ls hH hS hl => lv_aloadN C.1 C.2.1 d (hl.2.2 _ _ h) (kk H locs ls hH hS hl)
theorem x_istore_n (C : CX p s m args meth c cc nL own ret D dA base) {k : Fin 4} {x : Int32} {L1 : List (Option Value)} (d : decode cc pc = .ok (.istore_n k, 1)) (hn : (k : Nat) < nL) (hc : okc L k = true) (e1 : L.set (k : Nat) (some (.int x)) = L1) (kk : GX p l e Rm s m args below meth c Q D dA base nL ad N I J R nc ns (pc + 1) L1 st) : GX p l e Rm s m args below meth c Q D dA base nL ad N I J R nc ns (pc) L (.int x :: st) := fun H locs ls hH hS hl => lv_istore_n C.1 C.2.1 d rfl hl.has hn rfl (fun ls2 h2 => kk H locs ls2 hH hS (e1 ▸ LVx.st1 (ls := ls) hc h2))
theorem x_istore (C : CX p s m args meth c cc nL own ret D dA base) {i : Nat} {x : Int32} {L1 : List (Option Value)} (d : decode cc pc = .ok (.istore i, 2)) (hn : i < nL) (hc : okc L i = true) (e1 : L.set i (some (.int x)) = L1) (kk : GX p l e Rm s m args below meth c Q D dA base nL ad N I J R nc ns (pc + 2) L1 st) : GX p l e Rm s m args below meth c Q D dA base nL ad N I J R nc ns (pc) L (.int x :: st) := fun H locs ls hH hS hl => lv_istore C.1 C.2.1 d hl.has hn rfl (fun ls2 h2 => kk H locs ls2 hH hS (e1 ▸ LVx.st1 (ls := ls) hc h2))
theorem x_astore_n (C : CX p s m args meth c cc nL own ret D dA base) {k : Fin 4} {x : Nat} {L1 : List (Option Value)} (d : decode cc pc = .ok (.astore_n k, 1)) (hn : (k : Nat) < nL) (hc : okc L k = true) (e1 : L.set (k : Nat) (some (.ref x)) = L1) (kk : GX p l e Rm s m args below meth c Q D dA base nL ad N I J R nc ns (pc + 1) L1 st) : GX p l e Rm s m args below meth c Q D dA base nL ad N I J R nc ns (pc) L (.ref x :: st) := fun H locs ls hH hS hl => lv_astore_n C.1 C.2.1 d rfl hl.has hn rfl (fun ls2 h2 => kk H locs ls2 hH hS (e1 ▸ LVx.st1 (ls := ls) hc h2))
theorem x_astore (C : CX p s m args meth c cc nL own ret D dA base) {i : Nat} {x : Nat} {L1 : List (Option Value)} (d : decode cc pc = .ok (.astore i, 2)) (hn : i < nL) (hc : okc L i = true) (e1 : L.set i (some (.ref x)) = L1) (kk : GX p l e Rm s m args below meth c Q D dA base nL ad N I J R nc ns (pc + 2) L1 st) : GX p l e Rm s m args below meth c Q D dA base nL ad N I J R nc ns (pc) L (.ref x :: st) := fun H locs ls hH hS hl => lv_astore C.1 C.2.1 d hl.has hn rfl (fun ls2 h2 => kk H locs ls2 hH hS (e1 ▸ LVx.st1 (ls := ls) hc h2))
theorem x_astore_nN (C : CX p s m args meth c cc nL own ret D dA base) {k : Fin 4} {L1 : List (Option Value)} (d : decode cc pc = .ok (.astore_n k, 1)) (hn : (k : Nat) < nL) (hc : okc L k = true) (e1 : L.set (k : Nat) (some (.null)) = L1) (kk : GX p l e Rm s m args below meth c Q D dA base nL ad N I J R nc ns (pc + 1) L1 st) : GX p l e Rm s m args below meth c Q D dA base nL ad N I J R nc ns (pc) L (.null :: st) := fun H locs ls hH hS hl => lv_astore_nN C.1 C.2.1 d rfl hl.has hn rfl (fun ls2 h2 => kk H locs ls2 hH hS (e1 ▸ LVx.st1 (ls := ls) hc h2))
theorem x_astoreN (C : CX p s m args meth c cc nL own ret D dA base) {i : Nat} {L1 : List (Option Value)} (d : decode cc pc = .ok (.astore i, 2)) (hn : i < nL) (hc : okc L i = true) (e1 : L.set i (some (.null)) = L1) (kk : GX p l e Rm s m args below meth c Q D dA base nL ad N I J R nc ns (pc + 2) L1 st) : GX p l e Rm s m args below meth c Q D dA base nL ad N I J R nc ns (pc) L (.null :: st) := fun H locs ls hH hS hl => lv_astoreN C.1 C.2.1 d hl.has hn rfl (fun ls2 h2 => kk H locs ls2 hH hS (e1 ▸ LVx.st1 (ls := ls) hc h2))
theorem x_lstore_n (C : CX p s m args meth c cc nL own ret D dA base) {k : Fin 4} {x : Int64} {L1 : List (Option Value)} (d : decode cc pc = .ok (.lstore_n k, 1)) (hn : (k : Nat) + 1 < nL) (hc : okc L k = true) (e1 : (L.set (k : Nat) (some (.long x))).set ((k : Nat) + 1) none = L1) (kk : GX p l e Rm s m args below meth c Q D dA base nL ad N I J R nc ns (pc + 1) L1 st) : GX p l e Rm s m args below meth c Q D dA base nL ad N I J R nc ns (pc) L (.long x :: st) := fun H locs ls hH hS hl => lv_lstore_n C.1 C.2.1 d rfl hl.has hn rfl (fun ls2 h2 => kk H locs ls2 hH hS (e1 ▸ LVx.st2 (ls := ls) hc h2))
theorem x_lstore (C : CX p s m args meth c cc nL own ret D dA base) {i : Nat} {x : Int64} {L1 : List (Option Value)} (d : decode cc pc = .ok (.lstore i, 2)) (hn : i + 1 < nL) (hc : okc L i = true) (e1 : (L.set i (some (.long x))).set (i + 1) none = L1) (kk : GX p l e Rm s m args below meth c Q D dA base nL ad N I J R nc ns (pc + 2) L1 st) : GX p l e Rm s m args below meth c Q D dA base nL ad N I J R nc ns (pc) L (.long x :: st) := fun H locs ls hH hS hl => lv_lstore C.1 C.2.1 d hl.has hn rfl (fun ls2 h2 => kk H locs ls2 hH hS (e1 ▸ LVx.st2 (ls := ls) hc h2))
theorem prs_at {L : List (Option Value)} {i : Nat} {v : Value} (h : L[i]? = some (some v)) : ∃ k : Nat, (prs 0 L)[k]? = some (i, v) := by
  have h1 := prs_in L 0 i v h
  rw [Nat.zero_add] at h1
  exact List.getElem?_of_mem h1
theorem x_iinc (C : CX p s m args meth c cc nL own ret D dA base) {i : Nat} {n : Int} {x : Int32} (v : Int32) {L1 : List (Option Value)} (d : decode cc pc = .ok (.iinc i n, 3)) (h : L[i]? = some (some (.int x))) (hv : x + Int32.ofInt n = v) (hn : i < nL) (hc : okc L i = true) (e1 : L.set i (some (.int v)) = L1) (kk : GX p l e Rm s m args below meth c Q D dA base nL ad N I J R nc ns (pc + 3) L1 st) : GX p l e Rm s m args below meth c Q D dA base nL ad N I J R nc ns (pc) L st := fun H locs ls hH hS hl => by
  obtain ⟨k, hk⟩ := prs_at h
  exact lv_iinc C.1 C.2.1 d hl.has hk hv hn rfl (fun ls2 h2 => kk H locs ls2 hH hS (e1 ▸ LVx.st1 (ls := ls) hc h2))
theorem x_iadd (C : CX p s m args meth c cc nL own ret D dA base) {x y : Int32} (d : decode cc pc = .ok (.iadd, 1)) (k : GX p l e Rm s m args below meth c Q D dA base nL ad N I J R nc ns (pc + 1) L (.int (x + y) :: st)) : GX p l e Rm s m args below meth c Q D dA base nL ad N I J R nc ns (pc) L (.int y :: .int x :: st) := fun H locs ls hH hS hl => lv_iadd C.1 C.2.1 d (k H locs ls hH hS hl)
theorem x_isub (C : CX p s m args meth c cc nL own ret D dA base) {x y : Int32} (d : decode cc pc = .ok (.isub, 1)) (k : GX p l e Rm s m args below meth c Q D dA base nL ad N I J R nc ns (pc + 1) L (.int (x - y) :: st)) : GX p l e Rm s m args below meth c Q D dA base nL ad N I J R nc ns (pc) L (.int y :: .int x :: st) := fun H locs ls hH hS hl => lv_isub C.1 C.2.1 d (k H locs ls hH hS hl)
theorem x_imul (C : CX p s m args meth c cc nL own ret D dA base) {x y : Int32} (d : decode cc pc = .ok (.imul, 1)) (k : GX p l e Rm s m args below meth c Q D dA base nL ad N I J R nc ns (pc + 1) L (.int (x * y) :: st)) : GX p l e Rm s m args below meth c Q D dA base nL ad N I J R nc ns (pc) L (.int y :: .int x :: st) := fun H locs ls hH hS hl => lv_imul C.1 C.2.1 d (k H locs ls hH hS hl)
theorem x_iand (C : CX p s m args meth c cc nL own ret D dA base) {x y : Int32} (d : decode cc pc = .ok (.iand, 1)) (k : GX p l e Rm s m args below meth c Q D dA base nL ad N I J R nc ns (pc + 1) L (.int (x &&& y) :: st)) : GX p l e Rm s m args below meth c Q D dA base nL ad N I J R nc ns (pc) L (.int y :: .int x :: st) := fun H locs ls hH hS hl => lv_iand C.1 C.2.1 d (k H locs ls hH hS hl)
theorem x_ladd (C : CX p s m args meth c cc nL own ret D dA base) {x y : Int64} (d : decode cc pc = .ok (.ladd, 1)) (k : GX p l e Rm s m args below meth c Q D dA base nL ad N I J R nc ns (pc + 1) L (.long (x + y) :: st)) : GX p l e Rm s m args below meth c Q D dA base nL ad N I J R nc ns (pc) L (.long y :: .long x :: st) := fun H locs ls hH hS hl => lv_ladd C.1 C.2.1 d (k H locs ls hH hS hl)
theorem x_land (C : CX p s m args meth c cc nL own ret D dA base) {x y : Int64} (d : decode cc pc = .ok (.land, 1)) (k : GX p l e Rm s m args below meth c Q D dA base nL ad N I J R nc ns (pc + 1) L (.long (x &&& y) :: st)) : GX p l e Rm s m args below meth c Q D dA base nL ad N I J R nc ns (pc) L (.long y :: .long x :: st) := fun H locs ls hH hS hl => lv_land C.1 C.2.1 d (k H locs ls hH hS hl)
theorem x_lor (C : CX p s m args meth c cc nL own ret D dA base) {x y : Int64} (d : decode cc pc = .ok (.lor, 1)) (k : GX p l e Rm s m args below meth c Q D dA base nL ad N I J R nc ns (pc + 1) L (.long (x ||| y) :: st)) : GX p l e Rm s m args below meth c Q D dA base nL ad N I J R nc ns (pc) L (.long y :: .long x :: st) := fun H locs ls hH hS hl => lv_lor C.1 C.2.1 d (k H locs ls hH hS hl)
theorem x_lxor (C : CX p s m args meth c cc nL own ret D dA base) {x y : Int64} (d : decode cc pc = .ok (.lxor, 1)) (k : GX p l e Rm s m args below meth c Q D dA base nL ad N I J R nc ns (pc + 1) L (.long (x ^^^ y) :: st)) : GX p l e Rm s m args below meth c Q D dA base nL ad N I J R nc ns (pc) L (.long y :: .long x :: st) := fun H locs ls hH hS hl => lv_lxor C.1 C.2.1 d (k H locs ls hH hS hl)
theorem x_ldiv (C : CX p s m args meth c cc nL own ret D dA base) {x y : Int64} (h0 : ¬ y = 0) (d : decode cc pc = .ok (.ldiv, 1)) (k : GX p l e Rm s m args below meth c Q D dA base nL ad N I J R nc ns (pc + 1) L (.long (x / y) :: st)) : GX p l e Rm s m args below meth c Q D dA base nL ad N I J R nc ns (pc) L (.long y :: .long x :: st) := fun H locs ls hH hS hl => lv_ldiv C.1 C.2.1 d h0 (k H locs ls hH hS hl)
theorem x_lrem (C : CX p s m args meth c cc nL own ret D dA base) {x y : Int64} (h0 : ¬ y = 0) (d : decode cc pc = .ok (.lrem, 1)) (k : GX p l e Rm s m args below meth c Q D dA base nL ad N I J R nc ns (pc + 1) L (.long (x - x / y * y) :: st)) : GX p l e Rm s m args below meth c Q D dA base nL ad N I J R nc ns (pc) L (.long y :: .long x :: st) := fun H locs ls hH hS hl => lv_lrem C.1 C.2.1 d h0 (k H locs ls hH hS hl)
theorem x_lneg (C : CX p s m args meth c cc nL own ret D dA base) {x : Int64} (d : decode cc pc = .ok (.lneg, 1)) (k : GX p l e Rm s m args below meth c Q D dA base nL ad N I J R nc ns (pc + 1) L (.long (-x) :: st)) : GX p l e Rm s m args below meth c Q D dA base nL ad N I J R nc ns (pc) L (.long x :: st) := fun H locs ls hH hS hl => lv_lneg C.1 C.2.1 d (k H locs ls hH hS hl)
theorem x_lshl (C : CX p s m args meth c cc nL own ret D dA base) {x : Int64} {y : Int32} (d : decode cc pc = .ok (.lshl, 1)) (k : GX p l e Rm s m args below meth c Q D dA base nL ad N I J R nc ns (pc + 1) L (.long (x <<< (y.toInt64 &&& 63)) :: st)) : GX p l e Rm s m args below meth c Q D dA base nL ad N I J R nc ns (pc) L (.int y :: .long x :: st) := fun H locs ls hH hS hl => lv_lshl C.1 C.2.1 d rfl (k H locs ls hH hS hl)
theorem x_lcmp (C : CX p s m args meth c cc nL own ret D dA base) {x y : Int64} (d : decode cc pc = .ok (.lcmp, 1)) (k : GX p l e Rm s m args below meth c Q D dA base nL ad N I J R nc ns (pc + 1) L (.int (lg_cmp x y) :: st)) : GX p l e Rm s m args below meth c Q D dA base nL ad N I J R nc ns (pc) L (.long y :: .long x :: st) := fun H locs ls hH hS hl => W.lcmp C.1 C.2.1 d (k H locs ls hH hS hl)
theorem x_i2l (C : CX p s m args meth c cc nL own ret D dA base) {x : Int32} (d : decode cc pc = .ok (.i2l, 1)) (k : GX p l e Rm s m args below meth c Q D dA base nL ad N I J R nc ns (pc + 1) L (.long x.toInt64 :: st)) : GX p l e Rm s m args below meth c Q D dA base nL ad N I J R nc ns (pc) L (.int x :: st) := fun H locs ls hH hS hl => lv_i2l C.1 C.2.1 d rfl (k H locs ls hH hS hl)
theorem x_l2i (C : CX p s m args meth c cc nL own ret D dA base) {x : Int64} (d : decode cc pc = .ok (.l2i, 1)) (k : GX p l e Rm s m args below meth c Q D dA base nL ad N I J R nc ns (pc + 1) L (.int x.toInt32 :: st)) : GX p l e Rm s m args below meth c Q D dA base nL ad N I J R nc ns (pc) L (.long x :: st) := fun H locs ls hH hS hl => lv_l2i C.1 C.2.1 d rfl (k H locs ls hH hS hl)
theorem x_dup (C : CX p s m args meth c cc nL own ret D dA base) {v : Value} (hv : v.category = 1) (d : decode cc pc = .ok (.dup, 1)) (k : GX p l e Rm s m args below meth c Q D dA base nL ad N I J R nc ns (pc + 1) L (v :: v :: st)) : GX p l e Rm s m args below meth c Q D dA base nL ad N I J R nc ns (pc) L (v :: st) := fun H locs ls hH hS hl => lv_dup C.1 C.2.1 d hv (k H locs ls hH hS hl)
theorem x_pop (C : CX p s m args meth c cc nL own ret D dA base) {v : Value} (hv : v.category = 1) (d : decode cc pc = .ok (.pop, 1)) (k : GX p l e Rm s m args below meth c Q D dA base nL ad N I J R nc ns (pc + 1) L st) : GX p l e Rm s m args below meth c Q D dA base nL ad N I J R nc ns (pc) L (v :: st) := fun H locs ls hH hS hl => lv_pop C.1 C.2.1 d hv (k H locs ls hH hS hl)
theorem x_dup2 (C : CX p s m args meth c cc nL own ret D dA base) {v w : Value} (hv : v.category = 1) (hw : w.category = 1) (d : decode cc pc = .ok (.dup2, 1)) (k : GX p l e Rm s m args below meth c Q D dA base nL ad N I J R nc ns (pc + 1) L (v :: w :: v :: w :: st)) : GX p l e Rm s m args below meth c Q D dA base nL ad N I J R nc ns (pc) L (v :: w :: st) := fun H locs ls hH hS hl => lv_dup2_11 C.1 C.2.1 d hv hw (k H locs ls hH hS hl)
theorem x_ldc2 (C : CX p s m args meth c cc nL own ret D dA base) {index : Nat} (v : Int64) (hk : Cond.constantLong own index v ∈ lw_gd) (d : decode cc pc = .ok (.ldc2_w index, 3)) (k : GX p l e Rm s m args below meth c Q D dA base nL ad N I J R nc ns (pc + 3) L (.long v :: st)) : GX p l e Rm s m args below meth c Q D dA base nL ad N I J R nc ns (pc) L st := fun H locs ls hH hS hl => lv_ldc2 C.1 C.2.1 C.2.2.2.1 (C.2.2.2.2.1 _ hk) d (k H locs ls hH hS hl)
theorem x_goto (C : CX p s m args meth c cc nL own ret D dA base) {off : Int} (tgt : Nat) (d : decode cc pc = .ok (.goto off, 3)) (ht : (pc : Int) + off = (tgt : Int)) (k : GX p l e Rm s m args below meth c Q D dA base nL ad N I J R nc ns (tgt) L st) : GX p l e Rm s m args below meth c Q D dA base nL ad N I J R nc ns (pc) L st := fun H locs ls hH hS hl => lv_goto C.1 C.2.1 d ht (k H locs ls hH hS hl)
theorem x_if_eq (C : CX p s m args meth c cc nL own ret D dA base) {x : Int32} {off : Int} (tgt : Nat) (d : decode cc pc = .ok (.ifCond .eq off, 3)) (ht : (pc : Int) + off = (tgt : Int)) (kt : x = 0 → GX p l e Rm s m args below meth c Q D dA base nL ad N I J R nc ns (tgt) L st) (kf : ¬ x = 0 → GX p l e Rm s m args below meth c Q D dA base nL ad N I J R nc ns (pc + 3) L st) : GX p l e Rm s m args below meth c Q D dA base nL ad N I J R nc ns (pc) L (.int x :: st) := fun H locs ls hH hS hl => lv_if_eq C.1 C.2.1 d ht (fun q => kt q H locs ls hH hS hl) (fun q => kf q H locs ls hH hS hl)
theorem x_icmp_eq (C : CX p s m args meth c cc nL own ret D dA base) {x y : Int32} {off : Int} (tgt : Nat) (d : decode cc pc = .ok (.if_icmp .eq off, 3)) (ht : (pc : Int) + off = (tgt : Int)) (kt : x = y → GX p l e Rm s m args below meth c Q D dA base nL ad N I J R nc ns (tgt) L st) (kf : ¬ x = y → GX p l e Rm s m args below meth c Q D dA base nL ad N I J R nc ns (pc + 3) L st) : GX p l e Rm s m args below meth c Q D dA base nL ad N I J R nc ns (pc) L (.int y :: .int x :: st) := fun H locs ls hH hS hl => lv_icmp_eq C.1 C.2.1 d ht (fun q => kt q H locs ls hH hS hl) (fun q => kf q H locs ls hH hS hl)
theorem x_if_ne (C : CX p s m args meth c cc nL own ret D dA base) {x : Int32} {off : Int} (tgt : Nat) (d : decode cc pc = .ok (.ifCond .ne off, 3)) (ht : (pc : Int) + off = (tgt : Int)) (kt : ¬ x = 0 → GX p l e Rm s m args below meth c Q D dA base nL ad N I J R nc ns (tgt) L st) (kf : x = 0 → GX p l e Rm s m args below meth c Q D dA base nL ad N I J R nc ns (pc + 3) L st) : GX p l e Rm s m args below meth c Q D dA base nL ad N I J R nc ns (pc) L (.int x :: st) := fun H locs ls hH hS hl => lv_if_ne C.1 C.2.1 d ht (fun q => kt q H locs ls hH hS hl) (fun q => kf q H locs ls hH hS hl)
theorem x_icmp_ne (C : CX p s m args meth c cc nL own ret D dA base) {x y : Int32} {off : Int} (tgt : Nat) (d : decode cc pc = .ok (.if_icmp .ne off, 3)) (ht : (pc : Int) + off = (tgt : Int)) (kt : ¬ x = y → GX p l e Rm s m args below meth c Q D dA base nL ad N I J R nc ns (tgt) L st) (kf : x = y → GX p l e Rm s m args below meth c Q D dA base nL ad N I J R nc ns (pc + 3) L st) : GX p l e Rm s m args below meth c Q D dA base nL ad N I J R nc ns (pc) L (.int y :: .int x :: st) := fun H locs ls hH hS hl => lv_icmp_ne C.1 C.2.1 d ht (fun q => kt q H locs ls hH hS hl) (fun q => kf q H locs ls hH hS hl)
theorem x_if_lt (C : CX p s m args meth c cc nL own ret D dA base) {x : Int32} {off : Int} (tgt : Nat) (d : decode cc pc = .ok (.ifCond .lt off, 3)) (ht : (pc : Int) + off = (tgt : Int)) (kt : x < 0 → GX p l e Rm s m args below meth c Q D dA base nL ad N I J R nc ns (tgt) L st) (kf : ¬ x < 0 → GX p l e Rm s m args below meth c Q D dA base nL ad N I J R nc ns (pc + 3) L st) : GX p l e Rm s m args below meth c Q D dA base nL ad N I J R nc ns (pc) L (.int x :: st) := fun H locs ls hH hS hl => lv_if_lt C.1 C.2.1 d ht (fun q => kt q H locs ls hH hS hl) (fun q => kf q H locs ls hH hS hl)
theorem x_icmp_lt (C : CX p s m args meth c cc nL own ret D dA base) {x y : Int32} {off : Int} (tgt : Nat) (d : decode cc pc = .ok (.if_icmp .lt off, 3)) (ht : (pc : Int) + off = (tgt : Int)) (kt : x < y → GX p l e Rm s m args below meth c Q D dA base nL ad N I J R nc ns (tgt) L st) (kf : ¬ x < y → GX p l e Rm s m args below meth c Q D dA base nL ad N I J R nc ns (pc + 3) L st) : GX p l e Rm s m args below meth c Q D dA base nL ad N I J R nc ns (pc) L (.int y :: .int x :: st) := fun H locs ls hH hS hl => lv_icmp_lt C.1 C.2.1 d ht (fun q => kt q H locs ls hH hS hl) (fun q => kf q H locs ls hH hS hl)
theorem x_if_ge (C : CX p s m args meth c cc nL own ret D dA base) {x : Int32} {off : Int} (tgt : Nat) (d : decode cc pc = .ok (.ifCond .ge off, 3)) (ht : (pc : Int) + off = (tgt : Int)) (kt : 0 ≤ x → GX p l e Rm s m args below meth c Q D dA base nL ad N I J R nc ns (tgt) L st) (kf : ¬ 0 ≤ x → GX p l e Rm s m args below meth c Q D dA base nL ad N I J R nc ns (pc + 3) L st) : GX p l e Rm s m args below meth c Q D dA base nL ad N I J R nc ns (pc) L (.int x :: st) := fun H locs ls hH hS hl => lv_if_ge C.1 C.2.1 d ht (fun q => kt q H locs ls hH hS hl) (fun q => kf q H locs ls hH hS hl)
theorem x_icmp_ge (C : CX p s m args meth c cc nL own ret D dA base) {x y : Int32} {off : Int} (tgt : Nat) (d : decode cc pc = .ok (.if_icmp .ge off, 3)) (ht : (pc : Int) + off = (tgt : Int)) (kt : y ≤ x → GX p l e Rm s m args below meth c Q D dA base nL ad N I J R nc ns (tgt) L st) (kf : ¬ y ≤ x → GX p l e Rm s m args below meth c Q D dA base nL ad N I J R nc ns (pc + 3) L st) : GX p l e Rm s m args below meth c Q D dA base nL ad N I J R nc ns (pc) L (.int y :: .int x :: st) := fun H locs ls hH hS hl => lv_icmp_ge C.1 C.2.1 d ht (fun q => kt q H locs ls hH hS hl) (fun q => kf q H locs ls hH hS hl)
theorem x_if_gt (C : CX p s m args meth c cc nL own ret D dA base) {x : Int32} {off : Int} (tgt : Nat) (d : decode cc pc = .ok (.ifCond .gt off, 3)) (ht : (pc : Int) + off = (tgt : Int)) (kt : 0 < x → GX p l e Rm s m args below meth c Q D dA base nL ad N I J R nc ns (tgt) L st) (kf : ¬ 0 < x → GX p l e Rm s m args below meth c Q D dA base nL ad N I J R nc ns (pc + 3) L st) : GX p l e Rm s m args below meth c Q D dA base nL ad N I J R nc ns (pc) L (.int x :: st) := fun H locs ls hH hS hl => lv_if_gt C.1 C.2.1 d ht (fun q => kt q H locs ls hH hS hl) (fun q => kf q H locs ls hH hS hl)
theorem x_icmp_gt (C : CX p s m args meth c cc nL own ret D dA base) {x y : Int32} {off : Int} (tgt : Nat) (d : decode cc pc = .ok (.if_icmp .gt off, 3)) (ht : (pc : Int) + off = (tgt : Int)) (kt : y < x → GX p l e Rm s m args below meth c Q D dA base nL ad N I J R nc ns (tgt) L st) (kf : ¬ y < x → GX p l e Rm s m args below meth c Q D dA base nL ad N I J R nc ns (pc + 3) L st) : GX p l e Rm s m args below meth c Q D dA base nL ad N I J R nc ns (pc) L (.int y :: .int x :: st) := fun H locs ls hH hS hl => lv_icmp_gt C.1 C.2.1 d ht (fun q => kt q H locs ls hH hS hl) (fun q => kf q H locs ls hH hS hl)
theorem x_if_le (C : CX p s m args meth c cc nL own ret D dA base) {x : Int32} {off : Int} (tgt : Nat) (d : decode cc pc = .ok (.ifCond .le off, 3)) (ht : (pc : Int) + off = (tgt : Int)) (kt : x ≤ 0 → GX p l e Rm s m args below meth c Q D dA base nL ad N I J R nc ns (tgt) L st) (kf : ¬ x ≤ 0 → GX p l e Rm s m args below meth c Q D dA base nL ad N I J R nc ns (pc + 3) L st) : GX p l e Rm s m args below meth c Q D dA base nL ad N I J R nc ns (pc) L (.int x :: st) := fun H locs ls hH hS hl => lv_if_le C.1 C.2.1 d ht (fun q => kt q H locs ls hH hS hl) (fun q => kf q H locs ls hH hS hl)
theorem x_icmp_le (C : CX p s m args meth c cc nL own ret D dA base) {x y : Int32} {off : Int} (tgt : Nat) (d : decode cc pc = .ok (.if_icmp .le off, 3)) (ht : (pc : Int) + off = (tgt : Int)) (kt : x ≤ y → GX p l e Rm s m args below meth c Q D dA base nL ad N I J R nc ns (tgt) L st) (kf : ¬ x ≤ y → GX p l e Rm s m args below meth c Q D dA base nL ad N I J R nc ns (pc + 3) L st) : GX p l e Rm s m args below meth c Q D dA base nL ad N I J R nc ns (pc) L (.int y :: .int x :: st) := fun H locs ls hH hS hl => lv_icmp_le C.1 C.2.1 d ht (fun q => kt q H locs ls hH hS hl) (fun q => kf q H locs ls hH hS hl)
theorem x_ifnonnull (C : CX p s m args meth c cc nL own ret D dA base) {x : Nat} {off : Int} (tgt : Nat) (d : decode cc pc = .ok (.ifnonnull off, 3)) (ht : (pc : Int) + off = (tgt : Int)) (k : GX p l e Rm s m args below meth c Q D dA base nL ad N I J R nc ns (tgt) L st) : GX p l e Rm s m args below meth c Q D dA base nL ad N I J R nc ns (pc) L (.ref x :: st) := fun H locs ls hH hS hl => lv_ifnonnull C.1 C.2.1 d ht (k H locs ls hH hS hl)
theorem x_ifnull (C : CX p s m args meth c cc nL own ret D dA base) {x : Nat} {off : Int} (d : decode cc pc = .ok (.ifnull off, 3)) (k : GX p l e Rm s m args below meth c Q D dA base nL ad N I J R nc ns (pc + 3) L st) : GX p l e Rm s m args below meth c Q D dA base nL ad N I J R nc ns (pc) L (.ref x :: st) := fun H locs ls hH hS hl => lv_ifnull C.1 C.2.1 d (k H locs ls hH hS hl)
theorem x_ifnullN (C : CX p s m args meth c cc nL own ret D dA base) {off : Int} (tgt : Nat) (d : decode cc pc = .ok (.ifnull off, 3)) (ht : (pc : Int) + off = (tgt : Int)) (k : GX p l e Rm s m args below meth c Q D dA base nL ad N I J R nc ns (tgt) L st) : GX p l e Rm s m args below meth c Q D dA base nL ad N I J R nc ns (pc) L (.null :: st) := fun H locs ls hH hS hl => lv_ifnullN C.1 C.2.1 d ht (k H locs ls hH hS hl)
theorem x_ifnonnullN (C : CX p s m args meth c cc nL own ret D dA base) {off : Int} (d : decode cc pc = .ok (.ifnonnull off, 3)) (k : GX p l e Rm s m args below meth c Q D dA base nL ad N I J R nc ns (pc + 3) L st) : GX p l e Rm s m args below meth c Q D dA base nL ad N I J R nc ns (pc) L (.null :: st) := fun H locs ls hH hS hl => lv_ifnonnullN C.1 C.2.1 d (k H locs ls hH hS hl)
theorem x_acmp_eq (C : CX p s m args meth c cc nL own ret D dA base) {x y : Nat} {off : Int} (tgt : Nat) (d : decode cc pc = .ok (.if_acmp .eq off, 3)) (ht : (pc : Int) + off = (tgt : Int)) (kt : x = y → GX p l e Rm s m args below meth c Q D dA base nL ad N I J R nc ns (tgt) L st) (kf : ¬ x = y → GX p l e Rm s m args below meth c Q D dA base nL ad N I J R nc ns (pc + 3) L st) : GX p l e Rm s m args below meth c Q D dA base nL ad N I J R nc ns (pc) L (.ref y :: .ref x :: st) := fun H locs ls hH hS hl => lv_acmp_eq (rx := some x) (ry := some y) C.1 C.2.1 d ht (fun q => kt (Option.some.inj q) H locs ls hH hS hl) (fun q => kf (fun z => q (congrArg some z)) H locs ls hH hS hl)
theorem x_tableIn (C : CX p s m args meth c cc nL own ret D dA base) {dflt lo hi : Int} {offs : Array Int} {len : Nat} {x : Int32} {off : Int} (tgt : Nat) (d : decode cc pc = .ok (.tableswitch dflt lo hi offs, len)) (h1 : ¬ x.toInt < lo) (h2 : ¬ hi < x.toInt) (ho : offs[(x.toInt - lo).toNat]? = some off) (ht : (pc : Int) + off = (tgt : Int)) (k : GX p l e Rm s m args below meth c Q D dA base nL ad N I J R nc ns (tgt) L st) : GX p l e Rm s m args below meth c Q D dA base nL ad N I J R nc ns (pc) L (.int x :: st) := fun H locs ls hH hS hl => lv_tableIn C.1 C.2.1 d h1 h2 ho ht (k H locs ls hH hS hl)
theorem x_tableOut (C : CX p s m args meth c cc nL own ret D dA base) {dflt lo hi : Int} {offs : Array Int} {len : Nat} {x : Int32} (tgt : Nat) (d : decode cc pc = .ok (.tableswitch dflt lo hi offs, len)) (h : x.toInt < lo ∨ hi < x.toInt) (ht : (pc : Int) + dflt = (tgt : Int)) (k : GX p l e Rm s m args below meth c Q D dA base nL ad N I J R nc ns (tgt) L st) : GX p l e Rm s m args below meth c Q D dA base nL ad N I J R nc ns (pc) L (.int x :: st) := fun H locs ls hH hS hl => lv_tableOut C.1 C.2.1 d h ht (k H locs ls hH hS hl)
theorem x_lookup (C : CX p s m args meth c cc nL own ret D dA base) {dflt : Int} {ps : Array (Int × Int)} {len : Nat} {x : Int32} {off : Int} (tgt : Nat) (d : decode cc pc = .ok (.lookupswitch dflt ps, len)) (hp : (ps.toList.zip (ps.toList.drop 1)).all (fun (a, next) => a.1 < next.1) = true) (ho : Op.lookupswitch.offset ps.toList dflt x.toInt = off) (ht : (pc : Int) + off = (tgt : Int)) (k : GX p l e Rm s m args below meth c Q D dA base nL ad N I J R nc ns (tgt) L st) : GX p l e Rm s m args below meth c Q D dA base nL ad N I J R nc ns (pc) L (.int x :: st) := fun H locs ls hH hS hl => lv_lookup C.1 C.2.1 d hp ho ht (k H locs ls hH hS hl)
theorem x_widen {nc2 ns2 : Nat} (h1 : nc ≤ nc2) (h2 : ns ≤ ns2) (k : GX p l e Rm s m args below meth c Q D dA base nL ad N I J R nc2 ns2 (pc) L st) : GX p l e Rm s m args below meth c Q D dA base nL ad N I J R nc ns (pc) L st := fun H locs ls hH hS hl => W.widen h1 h2 (k H locs ls hH hS hl)
end GXR
end
section
/-! ROWS THAT TOUCH THE STORE; contracts; calls; answers -/
theorem uwsX0 : ∀ w ∈ wsX00, w ∈ lw_gd := fun w h => gd_in ((by decide +kernel : ∀ w ∈ wsX00, w ∈ lw_tbl) w h) ((by decide +kernel : ∀ w ∈ wsX00, goodWord w = true) w h)
theorem uwsX1 : ∀ w ∈ wsX10, w ∈ lw_gd := fun w h => gd_in ((by decide +kernel : ∀ w ∈ wsX10, w ∈ lw_tbl) w h) ((by decide +kernel : ∀ w ∈ wsX10, goodWord w = true) w h)
theorem uwsX2 : ∀ w ∈ wsX20, w ∈ lw_gd := fun w h => gd_in ((by decide +kernel : ∀ w ∈ wsX20, w ∈ lw_tbl) w h) ((by decide +kernel : ∀ w ∈ wsX20, goodWord w = true) w h)
theorem uwsX3 : ∀ w ∈ wsX30, w ∈ lw_gd := fun w h => gd_in ((by decide +kernel : ∀ w ∈ wsX30, w ∈ lw_tbl) w h) ((by decide +kernel : ∀ w ∈ wsX30, goodWord w = true) w h)
theorem uwsX4 : ∀ w ∈ wsX40, w ∈ lw_gd := fun w h => gd_in ((by decide +kernel : ∀ w ∈ wsX40, w ∈ lw_tbl) w h) ((by decide +kernel : ∀ w ∈ wsX40, goodWord w = true) w h)
theorem cok {ci : Nat} {q : vw_C} (h : vwCl[ci]? = some q) : ∃ ty : Nat → FieldType, (∀ k, k < q.2.2 → parseFieldDescriptor (q.2.1 k).2.2.1 = some (ty k)) ∧ (∀ a, a < q.2.2 → ∀ b, b < q.2.2 → a ≠ b → (q.2.1 a).2.1 ≠ (q.2.1 b).2.1) ∧ ∀ w ∈ u_ws q.1 q.2.1 q.2.2, w ∈ lw_gd := by
  match ci, h with
  | 0, h => cases h; exact ⟨tyX0, tyX0_ok, nmX0, uwsX0⟩
  | 1, h => cases h; exact ⟨tyX1, tyX1_ok, nmX1, uwsX1⟩
  | 2, h => cases h; exact ⟨tyX2, tyX2_ok, nmX2, uwsX2⟩
  | 3, h => cases h; exact ⟨tyX3, tyX3_ok, nmX3, uwsX3⟩
  | 4, h => cases h; exact ⟨tyX4, tyX4_ok, nmX4, uwsX4⟩
  | k + 5, h => simp [vwCl] at h
/-- entry idx of the class own names the place k of the objects of kind c -/
def FOK (own : String) (idx c k : Nat) : Prop := ∃ (ci n : Nat) (C : String) (T : u_T), kd c = (0, ci, n) ∧ vwCl[ci]? = some (C, T, n) ∧ k < n ∧ Cond.fieldLink own idx (T k).1 (T k).2.1 (T k).2.2.1 ∈ lw_gd
/-- .. which isn't final, of type ty -/
def FOW (own : String) (idx c k : Nat) (ty : FieldType) : Prop := ∃ (ci n : Nat) (C : String) (T : u_T), kd c = (0, ci, n) ∧ vwCl[ci]? = some (C, T, n) ∧ k < n ∧ Cond.fieldLink own idx (T k).1 (T k).2.1 (T k).2.2.1 ∈ lw_gd ∧ (T k).2.2.2 = false ∧ parseFieldDescriptor (T k).2.2.1 = some ty
section GXH
variable {p : Program} {l : Launch} {e : Env} {Rm : Room} {s : State} {m : MethodId} {args : Array Value} {below : List Frame} {meth : Method} {c : Code} {Q : State → Prop} {cc : ByteArray} {own : String} {ret : Option FieldType} {D : va_G} {dA : Nat → ClassId} {base nL : Nat} {ad : Fa} {N : Nat → Nat} {I I' : Fi} {J J' : Fj} {R R' : Fr} {nc ns pc : Nat} {L : List (Option Value)} {st : List Value}
theorem x_getV (C : CX p s m args meth c cc nL own ret D dA base) {idx kc k i : Nat} {v : Value} (f : FOK own idx kc k) (hi : i < N kc) (hv : sv ad I J R kc i k = v) (d : decode cc pc = .ok (.getfield idx, 3)) (kk : GX p l e Rm s m args below meth c Q D dA base nL ad N I J R nc ns (pc + 3) L (v :: st)) : GX p l e Rm s m args below meth c Q D dA base nL ad N I J R nc ns pc L (.ref (ad kc i) :: st) := fun H locs ls hH hS hl => by
  obtain ⟨ci, n, C', T, h1, h2, h3, h4⟩ := f
  obtain ⟨ty, -, -, hu⟩ := cok h2
  have hob := hH.obj hi h1
  have hP : va_P D vwCl [(ad kc i, .inr (ci, (List.range n).map (sv ad I J R kc i)))] H := fun k0 q hk => by
    have hz : k0 < 1 := (List.getElem?_eq_some_iff.mp hk).1
    rw [show k0 = 0 by omega] at hk
    cases hk
    exact ⟨(C', T, n), h2, hob.to (fun j hj => by simp [vp_V, hj])⟩
  exact va_get (D := D) (ci := ci) (v := v) C.1 C.2.1 C.2.2.2.2.1 hu C.2.2.2.1 C.2.2.2.2.2.1 hP 0 rfl h2 k h3 (C.2.2.2.2.1 _ h4) (fun _ h9 => h9) (by simp [h3, hv]) d (kk H locs ls hH hS hl)
theorem x_getI (C : CX p s m args meth c cc nL own ret D dA base) {idx kc k i : Nat} (f : FOK own idx kc k) (hs : sty kc k = 0) (hi : i < N kc) (d : decode cc pc = .ok (.getfield idx, 3)) (kk : GX p l e Rm s m args below meth c Q D dA base nL ad N I J R nc ns (pc + 3) L (.int (I kc i k) :: st)) : GX p l e Rm s m args below meth c Q D dA base nL ad N I J R nc ns pc L (.ref (ad kc i) :: st) := x_getV C f hi (sv_I i hs) d kk
theorem x_getJ (C : CX p s m args meth c cc nL own ret D dA base) {idx kc k i : Nat} (f : FOK own idx kc k) (hs : sty kc k = 1) (hi : i < N kc) (d : decode cc pc = .ok (.getfield idx, 3)) (kk : GX p l e Rm s m args below meth c Q D dA base nL ad N I J R nc ns (pc + 3) L (.long (J kc i k) :: st)) : GX p l e Rm s m args below meth c Q D dA base nL ad N I J R nc ns pc L (.ref (ad kc i) :: st) := x_getV C f hi (sv_J i hs) d kk
theorem x_getR (C : CX p s m args meth c cc nL own ret D dA base) {idx kc k i t j : Nat} (f : FOK own idx kc k) (hs : sty kc k = t + 2) (hr : R kc i k = some j) (hi : i < N kc) (d : decode cc pc = .ok (.getfield idx, 3)) (kk : GX p l e Rm s m args below meth c Q D dA base nL ad N I J R nc ns (pc + 3) L (.ref (ad t j) :: st)) : GX p l e Rm s m args below meth c Q D dA base nL ad N I J R nc ns pc L (.ref (ad kc i) :: st) := x_getV C f hi (sv_Rs i hs hr) d kk
theorem x_putV (C : CX p s m args meth c cc nL own ret D dA base) {idx kc k i : Nat} {v : Value} {ty : FieldType} (f : FOW own idx kc k ty) (hi : i < N kc) (hn : narrow ty v = v) (hfit : fits ty v = true) (hv : sv ad I' J' R' kc i = updV (sv ad I J R kc i) k v) (hv' : ∀ c' i', ¬ (c' = kc ∧ i' = i) → sv ad I' J' R' c' i' = sv ad I J R c' i') (d : decode cc pc = .ok (.putfield idx, 3)) (kk : GX p l e Rm s m args below meth c Q D dA base nL ad N I' J' R' nc ns (pc + 3) L st) : GX p l e Rm s m args below meth c Q D dA base nL ad N I J R nc ns pc L (v :: .ref (ad kc i) :: st) := fun H locs ls hH hS hl => by
  obtain ⟨ci, n, C', T, h1, h2, h3, h4, hfin, hd⟩ := f
  obtain ⟨ty0, hty, hnm, hu⟩ := cok h2
  have hts := C.2.2.2.2.1
  have hK := C.2.2.2.2.2.1
  have hap := va_apart (own := own) hts hu ty0 hty hnm hK h2
  obtain ⟨cell, q1, q2, q3, q4⟩ := hH.obj hi h1
  obtain ⟨hSl, hfc, kC, hkC, hkind⟩ := hK.1 ci _ h2
  obtain ⟨cf, kf, fi, f, hfi, hsl⟩ := hSl k h3
  have hlay := hts _ (hu _ (u_in_lay h3))
  unfold u_lay at hlay
  rw [if_neg (by rw [hfin]; decide)] at hlay
  have hst := (u_facts hfc hkC (u_lays hts hu h3) hfi).1
  have h6 := u_store hfc hkC hkind hlay hfi hd hn hfit
  refine W.putK C.1 C.2.1 (f := f) ⟨C.2.2.2.1, hts _ h4, ⟨_, _, _, hfi⟩, hst⟩ (by rw [q2]; exact h6) q1 q3 (by rw [hsl]; exact k2_hasslot (q4 k h3)) rfl rfl d fun H' e1 e2 e3 => ?_
  rw [hsl] at e1 ⊢
  refine kk H' _ ls (hH.set hi ?_ e3 hv') (hS.put e2 e3 (hH.2.2 kc i hi)) hl
  unfold cellAt
  rw [h1, hv]
  exact ⟨_, e1, q2, q3, t_set q4 hap h3 v⟩
theorem x_putI (C : CX p s m args meth c cc nL own ret D dA base) {idx kc k i : Nat} {v : Int32} (f : FOW own idx kc k .int) (hs : sty kc k = 0) (hi : i < N kc) (d : decode cc pc = .ok (.putfield idx, 3)) (kk : GX p l e Rm s m args below meth c Q D dA base nL ad N (up3 I kc i k v) J R nc ns (pc + 3) L st) : GX p l e Rm s m args below meth c Q D dA base nL ad N I J R nc ns pc L (.int v :: .ref (ad kc i) :: st) := x_putV C f hi rfl rfl (sv_upI i hs v) (sv_upI' v) d kk
theorem x_putZ (C : CX p s m args meth c cc nL own ret D dA base) {idx kc k i : Nat} {v : Int32} (f : FOW own idx kc k .boolean) (hs : sty kc k = 0) (hi : i < N kc) (hz : v = 0 ∨ v = 1) (d : decode cc pc = .ok (.putfield idx, 3)) (kk : GX p l e Rm s m args below meth c Q D dA base nL ad N (up3 I kc i k v) J R nc ns (pc + 3) L st) : GX p l e Rm s m args below meth c Q D dA base nL ad N I J R nc ns pc L (.int v :: .ref (ad kc i) :: st) := x_putV C f hi (by rcases hz with rfl | rfl <;> decide +kernel) (by rcases hz with rfl | rfl <;> decide +kernel) (sv_upI i hs v) (sv_upI' v) d kk
theorem x_putJ (C : CX p s m args meth c cc nL own ret D dA base) {idx kc k i : Nat} {v : Int64} (f : FOW own idx kc k .long) (hs : sty kc k = 1) (hi : i < N kc) (d : decode cc pc = .ok (.putfield idx, 3)) (kk : GX p l e Rm s m args below meth c Q D dA base nL ad N I (up3 J kc i k v) R nc ns (pc + 3) L st) : GX p l e Rm s m args below meth c Q D dA base nL ad N I J R nc ns pc L (.long v :: .ref (ad kc i) :: st) := x_putV C f hi rfl rfl (sv_upJ i hs v) (sv_upJ' v) d kk
theorem x_iald (C : CX p s m args meth c cc nL own ret D dA base) {kc i n : Nat} {j : Int32} (hk : kd kc = (1, 0, n)) (hs : sty kc j.toNatClampNeg = 0) (hi : i < N kc) (hj : vp_in j n) (d : decode cc pc = .ok (.iaload, 1)) (kk : GX p l e Rm s m args below meth c Q D dA base nL ad N I J R nc ns (pc + 1) L (.int (I kc i j.toNatClampNeg) :: st)) : GX p l e Rm s m args below meth c Q D dA base nL ad N I J R nc ns pc L (.int j :: .ref (ad kc i) :: st) := fun H locs ls hH hS hl => by
  have hlt : j.toNatClampNeg < n := Nat.not_le.mp fun q => hj (Or.inr q)
  exact W.iald C.1 C.2.1 (hH.arr hi hk) ((C.2.2.2.2.2.1.2 0 _ rfl).1 n _) (fun q => by cases q) (by rw [arrV_size]; exact hj) (by rw [arrV_read _ _ hlt, sv_I i hs]) rfl rfl d (kk H locs ls hH hS hl)
theorem x_zald (C : CX p s m args meth c cc nL own ret D dA base) {kc i n : Nat} {j : Int32} (hk : kd kc = (1, 2, n)) (hs : sty kc j.toNatClampNeg = 0) (hi : i < N kc) (hj : vp_in j n) (d : decode cc pc = .ok (.baload, 1)) (kk : GX p l e Rm s m args below meth c Q D dA base nL ad N I J R nc ns (pc + 1) L (.int (I kc i j.toNatClampNeg) :: st)) : GX p l e Rm s m args below meth c Q D dA base nL ad N I J R nc ns pc L (.int j :: .ref (ad kc i) :: st) := fun H locs ls hH hS hl => by
  have hlt : j.toNatClampNeg < n := Nat.not_le.mp fun q => hj (Or.inr q)
  exact W.zald C.1 C.2.1 (hH.arr hi hk) ((C.2.2.2.2.2.1.2 2 _ rfl).1 n _) (fun q => by cases q) (by rw [arrV_size]; exact hj) (by rw [arrV_read _ _ hlt, sv_I i hs]) rfl rfl d (kk H locs ls hH hS hl)
theorem x_lald (C : CX p s m args meth c cc nL own ret D dA base) {kc i n : Nat} {j : Int32} (hk : kd kc = (1, 1, n)) (hs : sty kc j.toNatClampNeg = 1) (hi : i < N kc) (hj : vp_in j n) (d : decode cc pc = .ok (.laload, 1)) (kk : GX p l e Rm s m args below meth c Q D dA base nL ad N I J R nc ns (pc + 1) L (.long (J kc i j.toNatClampNeg) :: st)) : GX p l e Rm s m args below meth c Q D dA base nL ad N I J R nc ns pc L (.int j :: .ref (ad kc i) :: st) := fun H locs ls hH hS hl => by
  have hlt : j.toNatClampNeg < n := Nat.not_le.mp fun q => hj (Or.inr q)
  exact W.lald C.1 C.2.1 (hH.arr hi hk) ((C.2.2.2.2.2.1.2 1 _ rfl).1 n _) (fun q => by cases q) (by rw [arrV_size]; exact hj) (by rw [arrV_read _ _ hlt, sv_J i hs]) rfl rfl d (kk H locs ls hH hS hl)
/-- a reference out of an array: null, or a cell of the array's own kind -/
theorem x_aald (C : CX p s m args meth c cc nL own ret D dA base) {kc i n ta t : Nat} {j : Int32} {Cn : String} (hk : kd kc = (1, ta, n)) (hta : (tysX dA)[ta]? = some (dA ta, .object Cn)) (hs : sty kc j.toNatClampNeg = t + 2) (hi : i < N kc) (hj : vp_in j n) (d : decode cc pc = .ok (.aaload, 1)) (kn : R kc i j.toNatClampNeg = none → GX p l e Rm s m args below meth c Q D dA base nL ad N I J R nc ns (pc + 1) L (.null :: st)) (kk : ∀ y, R kc i j.toNatClampNeg = some y → GX p l e Rm s m args below meth c Q D dA base nL ad N I J R nc ns (pc + 1) L (.ref (ad t y) :: st)) : GX p l e Rm s m args below meth c Q D dA base nL ad N I J R nc ns pc L (.int j :: .ref (ad kc i) :: st) := fun H locs ls hH hS hl => by
  have hlt : j.toNatClampNeg < n := Nat.not_le.mp fun q => hj (Or.inr q)
  cases hr : R kc i j.toNatClampNeg with
  | none => exact W.aald (v := .null) (ty := .object Cn) C.1 C.2.1 (hH.arr hi hk) ((C.2.2.2.2.2.1.2 ta _ hta).1 n _) rfl (fun q => by cases q) (by rw [arrV_size]; exact hj) (by rw [arrV_read _ _ hlt, sv_Rn i hs hr]) rfl rfl d (kn hr H locs ls hH hS hl)
  | some y => exact W.aald (v := .ref (ad t y)) (ty := .object Cn) C.1 C.2.1 (hH.arr hi hk) ((C.2.2.2.2.2.1.2 ta _ hta).1 n _) rfl (fun q => by cases q) (by rw [arrV_size]; exact hj) (by rw [arrV_read _ _ hlt, sv_Rs i hs hr]) rfl rfl d (kk y hr H locs ls hH hS hl)
theorem HR.setA {H H1 : Heap} (hH : HR D dA base ad N I J R H) {kc i n t a : Nat} {v : Value} (hi : i < N kc) (hk : kd kc = (1, t, n)) (hv : sv ad I' J' R' kc i = updV (sv ad I J R kc i) a v) (hv' : ∀ c' i', ¬ (c' = kc ∧ i' = i) → sv ad I' J' R' c' i' = sv ad I J R c' i') (e : H1[ad kc i]? = some ((arrV (dA t) n (sv ad I J R kc i)).setSlot a v)) (oq : ∀ q : Nat, q ≠ ad kc i → H1[q]? = H[q]?) : HR D dA base ad N I' J' R' H1 := by
  refine hH.set hi ?_ oq hv'
  unfold cellAt
  rw [hk, hv]
  exact e.trans (by rw [arrV_store])
theorem x_iast (C : CX p s m args meth c cc nL own ret D dA base) {kc i n : Nat} {j x : Int32} (hk : kd kc = (1, 0, n)) (hs : sty kc j.toNatClampNeg = 0) (hi : i < N kc) (hj : vp_in j n) (d : decode cc pc = .ok (.iastore, 1)) (kk : GX p l e Rm s m args below meth c Q D dA base nL ad N (up3 I kc i j.toNatClampNeg x) J R nc ns (pc + 1) L st) : GX p l e Rm s m args below meth c Q D dA base nL ad N I J R nc ns pc L (.int x :: .int j :: .ref (ad kc i) :: st) := fun H locs ls hH hS hl =>
  W.iast C.1 C.2.1 (hH.arr hi hk) ((C.2.2.2.2.2.1.2 0 _ rfl).1 n _) (fun q => by cases q) (by rw [arrV_size]; exact hj) rfl rfl d fun H1 e z oq => kk H1 _ ls (hH.setA hi hk (sv_upI i hs x) (sv_upI' x) e oq) (hS.put z oq (hH.2.2 kc i hi)) hl
theorem x_zast (C : CX p s m args meth c cc nL own ret D dA base) {kc i n : Nat} {j x : Int32} (hk : kd kc = (1, 2, n)) (hs : sty kc j.toNatClampNeg = 0) (hi : i < N kc) (hj : vp_in j n) (hz : x = 0 ∨ x = 1) (d : decode cc pc = .ok (.bastore, 1)) (kk : GX p l e Rm s m args below meth c Q D dA base nL ad N (up3 I kc i j.toNatClampNeg x) J R nc ns (pc + 1) L st) : GX p l e Rm s m args below meth c Q D dA base nL ad N I J R nc ns pc L (.int x :: .int j :: .ref (ad kc i) :: st) := fun H locs ls hH hS hl =>
  W.zast C.1 C.2.1 (hH.arr hi hk) ((C.2.2.2.2.2.1.2 2 _ rfl).1 n _) (fun q => by cases q) (by rw [arrV_size]; exact hj) rfl rfl d fun H1 e z oq => kk H1 _ ls (hH.setA hi hk (sv_upI i hs x) (sv_upI' x) (by rw [show narrow .boolean (.int x) = .int x by rcases hz with rfl | rfl <;> decide +kernel] at e; exact e) oq) (hS.put z oq (hH.2.2 kc i hi)) hl
theorem x_last (C : CX p s m args meth c cc nL own ret D dA base) {kc i n : Nat} {j : Int32} {x : Int64} (hk : kd kc = (1, 1, n)) (hs : sty kc j.toNatClampNeg = 1) (hi : i < N kc) (hj : vp_in j n) (d : decode cc pc = .ok (.lastore, 1)) (kk : GX p l e Rm s m args below meth c Q D dA base nL ad N I (up3 J kc i j.toNatClampNeg x) R nc ns (pc + 1) L st) : GX p l e Rm s m args below meth c Q D dA base nL ad N I J R nc ns pc L (.long x :: .int j :: .ref (ad kc i) :: st) := fun H locs ls hH hS hl =>
  W.last C.1 C.2.1 (hH.arr hi hk) ((C.2.2.2.2.2.1.2 1 _ rfl).1 n _) (fun q => by cases q) (by rw [arrV_size]; exact hj) rfl rfl d fun H1 e z oq => kk H1 _ ls (hH.setA hi hk (sv_upJ i hs x) (sv_upJ' x) e oq) (hS.put z oq (hH.2.2 kc i hi)) hl
theorem x_aast (C : CX p s m args meth c cc nL own ret D dA base) {kc i n ta t y ci nf : Nat} {j : Int32} {r : vw_C} (hk : kd kc = (1, ta, n)) (hta : (tysX dA)[ta]? = some (dA ta, .object r.1)) (hs : sty kc j.toNatClampNeg = t + 2) (hkt : kd t = (0, ci, nf)) (hci : vwCl[ci]? = some r) (hi : i < N kc) (hy : y < N t) (hj : vp_in j n) (d : decode cc pc = .ok (.aastore, 1)) (kk : GX p l e Rm s m args below meth c Q D dA base nL ad N I J (up3 R kc i j.toNatClampNeg (some y)) nc ns (pc + 1) L st) : GX p l e Rm s m args below meth c Q D dA base nL ad N I J R nc ns pc L (.ref (ad t y) :: .int j :: .ref (ad kc i) :: st) := fun H locs ls hH hS hl => by
  have hlt : j.toNatClampNeg < n := Nat.not_le.mp fun q => hj (Or.inr q)
  have h0 : ¬ j < 0 := fun q => hj (Or.inl q)
  have hK := C.2.2.2.2.2.1
  obtain ⟨cellV, g1, g2, g3, -⟩ := hH.obj hy hkt
  have hcls := (hK.1 ci r hci).2
  obtain ⟨kA, comp, k1, k2, k3, -⟩ := (hK.2 ta _ hta).2
  have hcomp : comp = D.1 ci := Option.some.inj (k3.symm.trans hcls.1)
  subst hcomp
  obtain ⟨kC, hkC, -⟩ := hcls.2
  refine W.aast C.1 C.2.1 (hH.arr hi hk) (fun q h => by cases h) (fun h => by cases h) k1 k2 rfl hkC ⟨h0, by rw [arrV_size]; exact hlt⟩ g1 (fun q h => by rw [g3] at h; cases h) (by rw [g2]; exact hkC) (by rw [g2]; exact va_assign hcls) rfl rfl d fun H1 e z oq => ?_
  exact kk H1 _ ls (hH.setA hi hk (sv_upR i hs y) (sv_upR' (some y)) e oq) (hS.put z oq (hH.2.2 kc i hi)) hl
theorem x_alen (C : CX p s m args meth c cc nL own ret D dA base) {kc i n ta : Nat} {ty : FieldType} (v : Int32) (hk : kd kc = (1, ta, n)) (hta : (tysX dA)[ta]? = some (dA ta, ty)) (hn : Int32.ofNat n = v) (hi : i < N kc) (d : decode cc pc = .ok (.arraylength, 1)) (kk : GX p l e Rm s m args below meth c Q D dA base nL ad N I J R nc ns (pc + 1) L (.int v :: st)) : GX p l e Rm s m args below meth c Q D dA base nL ad N I J R nc ns pc L (.ref (ad kc i) :: st) := fun H locs ls hH hS hl =>
  W.alen (n := v) C.1 C.2.1 (hH.arr hi hk) ((C.2.2.2.2.2.1.2 ta _ hta).1 n _) (by rw [arrV_size]; exact hn) rfl rfl d (kk H locs ls hH hS hl)
end GXH
/-! CONTRACTS -/
abbrev Po : Type := Option Value → Fa → (Nat → Nat) → Fi → Fj → Fr → Prop
def CQ (D : va_G) (dA : Nat → ClassId) (base : Nat) (post : Po) : Array Value → State → Outcome → State → Prop := fun _ st o t => (∃ (r : Option Value) (ad : Fa) (N : Nat → Nat) (I : Fi) (J : Fj) (R : Fr), o = .returned r ∧ post r ad N I J R ∧ HR D dA base ad N I J R t.heap) ∧ va_F (fun q => base ≤ q) st t
def CP (D : va_G) (dA : Nat → ClassId) (base : Nat) (as : List Value) (ad : Fa) (N : Nat → Nat) (I : Fi) (J : Fj) (R : Fr) : Array Value → State → Prop := fun v U => v = as.toArray ∧ base ≤ U.heap.size ∧ HR D dA base ad N I J R U.heap ∧ va_K D vwCl (tysX dA) U
abbrev rmX (d mc ms : Nat) : Room := { frames := d, cells := mc, slots := ms, locals := 30 * d }
def CT (l : Launch) (D : va_G) (dA : Nat → ClassId) (base : Nat) (y : MethodName) (cc : ByteArray) (maxL : Nat) (ret : Option FieldType) (d mc ms : Nat) (as : List Value) (ad : Fa) (N : Nat → Nat) (I : Fi) (J : Fj) (R : Fr) (post : Po) : Prop :=
  Met l y (Cond.code y cc maxL ret :: lw_gd) (rmX d mc ms) (CP D dA base as ad N I J R) (CQ D dA base post) mc ms (fun q => base ≤ q)
theorem CP_blind {D : va_G} {dA : Nat → ClassId} {base : Nat} {as : List Value} {ad : Fa} {N : Nat → Nat} {I : Fi} {J : Fj} {R : Fr} : FrameBlind (CP D dA base as ad N I J R) := fun a U g mk h => ⟨h.1, h.2.1, h.2.2.1, va_K.moved (u := U) (U := U.calling g mk a) (Vm.Alike.refl U.vm) h.2.2.2⟩
theorem CT.of {l : Launch} {D : va_G} {dA : Nat → ClassId} {base : Nat} {y : MethodName} {cc : ByteArray} {maxL : Nat} {ret : Option FieldType} {d mc ms : Nat} {as : List Value} {ad : Fa} {N : Nat → Nat} {I : Fi} {J : Fj} {R : Fr} {post : Po} (t : Nat) {L0 : List (Option Value)} (hy : plainName y.cls = true) (hL : argL as ++ List.replicate t none = L0) (hlen : (lg_sl as).length ≤ maxL)
    (body : ∀ (p : Program) (e : Env) (s : State) (m : MethodId) (args : Array Value) (below : List Frame) (meth : Method) (c : Code), CX p s m args meth c cc maxL y.cls ret D dA base → GX p l e (rmX d mc ms) s m args below meth c (MQ below (CQ D dA base post) args s mc ms (fun q => base ≤ q)) D dA base maxL ad N I J R 0 0 0 L0 []) : CT l D dA base y cc maxL ret d mc ms as ad N I J R post := by
  refine Met.ofW (cc := cc) (maxL := maxL) (ret := ret) hy rfl ?_
  intro p e s m args below meth c s₁ B hml hv
  obtain ⟨rfl, hb, hH, hK⟩ := hv
  have hts := atoms_spec (ws := Cond.code y cc maxL ret :: lw_gd) B.pre
  have C : CX p s m as.toArray meth c cc maxL y.cls ret D dA base := ⟨B.exec, B.bytes, hml, findClass_of_methodNamed B.named, fun w h => hts w (List.mem_cons_of_mem _ h), hK, hb, B.returns, B.notSynchronized⟩
  rw [lg_entry_eq]
  exact body p e s m _ below meth c C s.heap [] _ hH va_S.rf (hL ▸ LVx.entry as t hlen)
/-- weaker ends -/
theorem CT.mono {l : Launch} {D : va_G} {dA : Nat → ClassId} {base : Nat} {y : MethodName} {cc : ByteArray} {maxL : Nat} {ret : Option FieldType} {d mc ms : Nat} {as : List Value} {ad : Fa} {N : Nat → Nat} {I : Fi} {J : Fj} {R : Fr} {post post' : Po} (h : CT l D dA base y cc maxL ret d mc ms as ad N I J R post) (hp : ∀ r a n i j k, post r a n i j k → post' r a n i j k) : CT l D dA base y cc maxL ret d mc ms as ad N I J R post' := by
  intro p e ha hc hk s m args below hf hpre hP hT
  obtain ⟨k, o, h1, h2, h3, ⟨⟨r, a, n, i, j, rr, e1, e2, e3⟩, hF⟩, h5⟩ := h p e ha hc hk s m args below hf hpre hP hT
  exact ⟨k, o, h1, h2, h3, ⟨⟨r, a, n, i, j, rr, e1, hp _ _ _ _ _ _ e2, e3⟩, hF⟩, h5⟩
section GXE
variable {p : Program} {l : Launch} {e : Env} {Rm : Room} {s : State} {m : MethodId} {args : Array Value} {below : List Frame} {meth : Method} {c : Code} {Q : State → Prop} {cc : ByteArray} {own : String} {ret : Option FieldType} {D : va_G} {dA : Nat → ClassId} {base nL : Nat} {ad : Fa} {N : Nat → Nat} {I : Fi} {J : Fj} {R : Fr} {nc ns pc mc ms : Nat} {L : List (Option Value)} {st : List Value} {post : Po}
theorem x_iret (C : CX p s m args meth c cc nL own (some .int) D dA base) {v : Int32} (hp : post (some (.int v)) ad N I J R) (d : decode cc pc = .ok (.ireturn, 1)) (h1 : nc ≤ mc := by first | exact Nat.le_refl _ | omega) (h2 : ns ≤ ms := by first | exact Nat.le_refl _ | omega) : GX p l e Rm s m args below meth c (MQ below (CQ D dA base post) args s mc ms (fun q => base ≤ q)) D dA base nL ad N I J R nc ns pc L [.int v] := fun H locs ls hH hS hl =>
  W.widen h1 h2 (W.iret C.1 C.2.1 C.2.2.2.2.2.2.2.1 (fun t ht hW => ⟨⟨_, ad, N, I, J, R, rfl, hp, by rw [ht]; exact hH⟩, hS.F ht⟩) hS.2.2 d C.2.2.2.2.2.2.2.2)
theorem x_zret (C : CX p s m args meth c cc nL own (some .boolean) D dA base) {v : Int32} (hz : v = 0 ∨ v = 1) (hp : post (some (.int v)) ad N I J R) (d : decode cc pc = .ok (.ireturn, 1)) (h1 : nc ≤ mc := by first | exact Nat.le_refl _ | omega) (h2 : ns ≤ ms := by first | exact Nat.le_refl _ | omega) : GX p l e Rm s m args below meth c (MQ below (CQ D dA base post) args s mc ms (fun q => base ≤ q)) D dA base nL ad N I J R nc ns pc L [.int v] := fun H locs ls hH hS hl =>
  W.widen h1 h2 (W.zret C.1 C.2.1 C.2.2.2.2.2.2.2.1 (by rcases hz with rfl | rfl <;> decide +kernel) (fun t ht hW => ⟨⟨_, ad, N, I, J, R, rfl, hp, by rw [ht]; exact hH⟩, hS.F ht⟩) hS.2.2 d C.2.2.2.2.2.2.2.2)
theorem x_lret (C : CX p s m args meth c cc nL own (some .long) D dA base) {v : Int64} (hp : post (some (.long v)) ad N I J R) (d : decode cc pc = .ok (.lreturn, 1)) (h1 : nc ≤ mc := by first | exact Nat.le_refl _ | omega) (h2 : ns ≤ ms := by first | exact Nat.le_refl _ | omega) : GX p l e Rm s m args below meth c (MQ below (CQ D dA base post) args s mc ms (fun q => base ≤ q)) D dA base nL ad N I J R nc ns pc L [.long v] := fun H locs ls hH hS hl =>
  W.widen h1 h2 (W.lret C.1 C.2.1 C.2.2.2.2.2.2.2.1 (fun t ht hW => ⟨⟨_, ad, N, I, J, R, rfl, hp, by rw [ht]; exact hH⟩, hS.F ht⟩) hS.2.2 d C.2.2.2.2.2.2.2.2)
theorem x_vret (C : CX p s m args meth c cc nL own none D dA base) (hp : post none ad N I J R) (d : decode cc pc = .ok (.return_, 1)) (h1 : nc ≤ mc := by first | exact Nat.le_refl _ | omega) (h2 : ns ≤ ms := by first | exact Nat.le_refl _ | omega) : GX p l e Rm s m args below meth c (MQ below (CQ D dA base post) args s mc ms (fun q => base ≤ q)) D dA base nL ad N I J R nc ns pc L [] := fun H locs ls hH hS hl =>
  W.widen h1 h2 (W.vret C.1 C.2.1 C.2.2.2.2.2.2.2.1 (fun t ht hW => ⟨⟨_, ad, N, I, J, R, rfl, hp, by rw [ht]; exact hH⟩, hS.F ht⟩) hS.2.2 d C.2.2.2.2.2.2.2.2)
theorem x_aret {rt : FieldType} (C : CX p s m args meth c cc nL own (some rt) D dA base) {v : Value} (hrt : (∃ n, rt = .object n) ∨ ∃ t, rt = .array t) (hv : v = .null ∨ ∃ a, v = .ref a) (hp : post (some v) ad N I J R) (d : decode cc pc = .ok (.areturn, 1)) (h1 : nc ≤ mc := by first | exact Nat.le_refl _ | omega) (h2 : ns ≤ ms := by first | exact Nat.le_refl _ | omega) : GX p l e Rm s m args below meth c (MQ below (CQ D dA base post) args s mc ms (fun q => base ≤ q)) D dA base nL ad N I J R nc ns pc L [v] := fun H locs ls hH hS hl =>
  W.widen h1 h2 (W.aret C.1 C.2.1 C.2.2.2.2.2.2.2.1 hrt hv (fun t ht hW => ⟨⟨_, ad, N, I, J, R, rfl, hp, by rw [ht]; exact hH⟩, hS.F ht⟩) hS.2.2 d C.2.2.2.2.2.2.2.2)
/-- what the tables say of a method -/
def YOK (y : MethodName) (cc : ByteArray) (maxL : Nat) (ret : Option FieldType) (n : Nat) : Prop := Cond.instanceMethod y ∈ lw_gd ∧ Cond.selects y.cls y y ∈ lw_gd ∧ Cond.initialized y.cls ∈ lw_gd ∧ Cond.code y cc maxL ret ∈ lw_gd ∧ (y.cls ≠ "java/lang/invoke/MethodHandle" ∧ y.cls ≠ "java/lang/invoke/VarHandle" ∧ (parseMethodDescriptor y.desc).map (fun d => d.parameters.length) = some n)
def YOS (y : MethodName) (cc : ByteArray) (maxL : Nat) (ret : Option FieldType) (n : Nat) : Prop := Cond.static y ∈ lw_gd ∧ Cond.initialized y.cls ∈ lw_gd ∧ Cond.code y cc maxL ret ∈ lw_gd ∧ (y.cls ≠ "java/lang/invoke/MethodHandle" ∧ y.cls ≠ "java/lang/invoke/VarHandle" ∧ (parseMethodDescriptor y.desc).map (fun d => d.parameters.length) = some n)
theorem gd_GI {ws : List Cond} (h : ∀ w ∈ ws, w ∈ lw_gd) : GoodIn lw_gd ws := fun w hw => ⟨h w hw, good_of_word (gd_good (h w hw))⟩
variable {y : MethodName} {cc2 : ByteArray} {maxL2 n idx d2 : Nat} {ret2 : Option FieldType} {As rest st0 : List Value}
theorem x_run {H : Heap} {locs : List Loc} {ls : Array Slot} (hS : va_S (fun q => base ≤ q) s.heap H locs) (hl : LVx nL L ls) {a : Array Value} (hr : va_Run p l e Rm s m args below meth c H locs nc ns mc ms (F0 m pc ls st0) rest (CQ D dA base post a) (fun q => base ≤ q))
    (kk : ∀ r ad' N' I' J' R', post r ad' N' I' J' R' → GX p l e Rm s m args below meth c Q D dA base nL ad' N' I' J' R' (nc + mc) (ns + ms) (pc + 3) L (r.toList ++ rest)) : W p l e Rm s m args below meth c H locs nc ns Q (F0 m pc ls st0) := by
  intro T hT X
  obtain ⟨v, st₀, t, T', Lc, h0, X', hL, e1, e2, ⟨⟨r, ad', N', I', J', R', hv, hp, hH'⟩, hz, hk⟩, stp⟩ := hr T hT X
  cases hv
  rw [h0] at hz hk
  obtain ⟨t2, a1, b1⟩ := kk v ad' N' I' J' R' hp T'.heap (locs ++ Lc) ls (by rw [e1]; exact hH')
    ⟨Nat.le_trans hS.1 (by rw [e1]; exact hz), fun q h1 h2 => by rw [e1, hk q (Nat.lt_of_lt_of_le h1 hS.1) h2]; exact hS.2.1 q h1 h2, fun q hq => by
      rcases List.mem_append.mp hq with h | h
      · exact hS.2.2 q h
      · exact hL q h⟩ hl T' rfl X'
  exact ⟨t2, stp t2 a1, b1⟩
theorem x_callV (C : CX p s m args meth c cc nL own ret D dA base) (yo : YOK y cc2 maxL2 ret2 n) (ml : Cond.methodLink own idx y ∈ lw_gd) {kc i ci nf : Nat} {T : u_T} (hk : kd kc = (0, ci, nf)) (hci : vwCl[ci]? = some (y.cls, T, nf)) (hi : i < N kc)
    (hM : CT l D dA base y cc2 maxL2 ret2 d2 mc ms (.ref (ad kc i) :: As) ad N I J R post) (d : decode cc pc = .ok (.invokevirtual idx, 3)) (hst : st = As.reverse ++ .ref (ad kc i) :: rest) (hn : As.length = n) (hW : (rest.map fun v => v.category).sum ≤ 8) (hR : d2 + 1 ≤ Rm.frames ∧ 8 + (maxL2 + 11) + 30 * d2 ≤ Rm.locals) (hf : nc + mc ≤ Rm.cells ∧ ns + ms ≤ Rm.slots)
    (kk : ∀ r ad' N' I' J' R', post r ad' N' I' J' R' → GX p l e Rm s m args below meth c Q D dA base nL ad' N' I' J' R' (nc + mc) (ns + ms) (pc + 3) L (r.toList ++ rest)) : GX p l e Rm s m args below meth c Q D dA base nL ad N I J R nc ns pc L st := fun H locs ls hH hS hl => by
  subst hst
  obtain ⟨y1, y2, y3, y4, y5⟩ := yo
  obtain ⟨cell, q1, q2, q3, -⟩ := hH.obj hi hk
  have hK := C.2.2.2.2.2.1
  have cw : CallW Rm s args own y.cls idx y cc2 maxL2 ret2 (Cond.code y cc2 maxL2 ret2 :: lw_gd) (rmX d2 mc ms) mc ms n := cwV n C.2.2.2.2.1 (gd_GI (fun w hw => by
    simp only [wsV, List.cons_append, List.nil_append, List.mem_cons] at hw
    rcases hw with rfl | rfl | rfl | rfl | rfl | hw <;> assumption)) rfl rfl rfl ⟨rfl, y5⟩ hR
  refine x_run (post := post) (a := (Value.ref (ad kc i) :: As).toArray) hS hl (va_runV (Ts := lw_gd) (nL := nL) (As := As) (rest := rest) ⟨C.1, C.2.1, C.2.2.1, C.2.2.2.1, C.2.2.2.2.1⟩ hM cw ⟨CP_blind, ⟨cell, q1, by rw [q3]; rfl, by rw [q2]; exact (hK.1 ci _ hci).2.1⟩, fun U hU hW2 => ⟨rfl, by rw [hU]; exact Nat.le_trans C.2.2.2.2.2.2.1 hS.1, by rw [hU]; exact hH, va_K.moved hW2.alike hK⟩⟩ rfl hn hl.1 rfl (lv_room hW) d hf) kk
theorem x_callS (C : CX p s m args meth c cc nL own ret D dA base) (yo : YOS y cc2 maxL2 ret2 n) (hy : y.cls = own) (ml : Cond.methodLink own idx y ∈ lw_gd)
    (hM : CT l D dA base y cc2 maxL2 ret2 d2 mc ms As ad N I J R post) (d : decode cc pc = .ok (.invokestatic idx, 3)) (hst : st = As.reverse ++ rest) (hn : As.length = n) (hW : (rest.map fun v => v.category).sum ≤ 8) (hR : d2 + 1 ≤ Rm.frames ∧ 8 + (maxL2 + 11) + 30 * d2 ≤ Rm.locals) (hf : nc + mc ≤ Rm.cells ∧ ns + ms ≤ Rm.slots)
    (kk : ∀ r ad' N' I' J' R', post r ad' N' I' J' R' → GX p l e Rm s m args below meth c Q D dA base nL ad' N' I' J' R' (nc + mc) (ns + ms) (pc + 3) L (r.toList ++ rest)) : GX p l e Rm s m args below meth c Q D dA base nL ad N I J R nc ns pc L st := fun H locs ls hH hS hl => by
  subst hst
  obtain ⟨y1, y3, y4, y5⟩ := yo
  have hK := C.2.2.2.2.2.1
  have cw := cwS (R := Rm) (rm := rmX d2 mc ms) (mc := mc) (ms := ms) (own := own) (index := idx) (y := y) (ws := Cond.code y cc2 maxL2 ret2 :: lw_gd) n C.2.2.2.2.1 (gd_GI (fun w hw => by
    simp only [wsS, List.cons_append, List.nil_append, List.mem_cons] at hw
    rcases hw with rfl | rfl | rfl | rfl | hw <;> first | assumption | (rw [← hy]; assumption))) rfl rfl rfl ⟨hy, y5⟩ hR
  refine x_run (post := post) (a := As.toArray) hS hl (va_runS (Ts := lw_gd) (nL := nL) (As := As) (rest := rest) ⟨C.1, C.2.1, C.2.2.1, C.2.2.2.1, C.2.2.2.2.1⟩ hM cw ⟨CP_blind, fun U hU hW2 => ⟨rfl, by rw [hU]; exact Nat.le_trans C.2.2.2.2.2.2.1 hS.1, by rw [hU]; exact hH, va_K.moved hW2.alike hK⟩⟩ rfl hn hl.1 rfl (lv_room hW) d hf) kk
end GXE
end
section
theorem f_X3_17 : FOK RX3 17 0 3 := ⟨3, 6, RX3, TX3, rfl, rfl, by decide, gd_in (by decide +kernel) (by decide +kernel)⟩
theorem f_X3_26 : FOK RX3 26 0 1 := ⟨3, 6, RX3, TX3, rfl, rfl, by decide, gd_in (by decide +kernel) (by decide +kernel)⟩
theorem g_X3_35 : FOW RX3 35 4 7 .int := ⟨0, 18, RX0, TX0, rfl, rfl, by decide, gd_in (by decide +kernel) (by decide +kernel), rfl, by decide +kernel⟩
theorem g_X3_38 : FOW RX3 38 4 8 .long := ⟨0, 18, RX0, TX0, rfl, rfl, by decide, gd_in (by decide +kernel) (by decide +kernel), rfl, by decide +kernel⟩
theorem f_X3_42 : FOK RX3 42 0 2 := ⟨3, 6, RX3, TX3, rfl, rfl, by decide, gd_in (by decide +kernel) (by decide +kernel)⟩
theorem g_X3_45 : FOW RX3 45 4 9 .int := ⟨0, 18, RX0, TX0, rfl, rfl, by decide, gd_in (by decide +kernel) (by decide +kernel), rfl, by decide +kernel⟩
theorem m_X3_48 : Cond.methodLink RX3 48 yX3_addKey ∈ lw_gd := gd_in (by decide +kernel) rfl
theorem yo_X3_addKey : YOK yX3_addKey cX3_addKey 2 (some .int) 1 := ⟨gd_in (by decide +kernel) rfl, gd_in (by decide +kernel) rfl, gd_in (by decide +kernel) rfl, gd_in (by decide +kernel) rfl, by decide +kernel, by decide +kernel, by decide +kernel⟩
theorem m_X3_52 : Cond.methodLink RX3 52 yX3_keyWithFunction ∈ lw_gd := gd_in (by decide +kernel) rfl
theorem yo_X3_keyWithFunction : YOK yX3_keyWithFunction cX3_keyWithFunction 3 (some (.object "KeyGraph$Key")) 1 := ⟨gd_in (by decide +kernel) rfl, gd_in (by decide +kernel) rfl, gd_in (by decide +kernel) rfl, gd_in (by decide +kernel) rfl, by decide +kernel, by decide +kernel, by decide +kernel⟩
theorem m_X3_56 : Cond.methodLink RX3 56 yX3_keyAt ∈ lw_gd := gd_in (by decide +kernel) rfl
theorem yo_X3_keyAt : YOK yX3_keyAt cX3_keyAt 2 (some (.object "KeyGraph$Key")) 1 := ⟨gd_in (by decide +kernel) rfl, gd_in (by decide +kernel) rfl, gd_in (by decide +kernel) rfl, gd_in (by decide +kernel) rfl, by decide +kernel, by decide +kernel, by decide +kernel⟩
theorem f_X3_59 : FOK RX3 59 4 3 := ⟨0, 18, RX0, TX0, rfl, rfl, by decide, gd_in (by decide +kernel) (by decide +kernel)⟩
theorem m_X3_62 : Cond.methodLink RX3 62 yX0_reaches ∈ lw_gd := gd_in (by decide +kernel) rfl
theorem yo_X0_reaches : YOK yX0_reaches cX0_reaches 2 (some .boolean) 1 := ⟨gd_in (by decide +kernel) rfl, gd_in (by decide +kernel) rfl, gd_in (by decide +kernel) rfl, gd_in (by decide +kernel) rfl, by decide +kernel, by decide +kernel, by decide +kernel⟩
theorem m_X3_66 : Cond.methodLink RX3 66 yX3_noteRing ∈ lw_gd := gd_in (by decide +kernel) rfl
theorem yo_X3_noteRing : YOK yX3_noteRing cX3_noteRing 4 none 2 := ⟨gd_in (by decide +kernel) rfl, gd_in (by decide +kernel) rfl, gd_in (by decide +kernel) rfl, gd_in (by decide +kernel) rfl, by decide +kernel, by decide +kernel, by decide +kernel⟩
theorem f_X3_70 : FOK RX3 70 4 2 := ⟨0, 18, RX0, TX0, rfl, rfl, by decide, gd_in (by decide +kernel) (by decide +kernel)⟩
theorem g_X3_59 : FOW RX3 59 4 3 .int := ⟨0, 18, RX0, TX0, rfl, rfl, by decide, gd_in (by decide +kernel) (by decide +kernel), rfl, by decide +kernel⟩
theorem m_X3_73 : Cond.methodLink RX3 73 yX3_spreadReach ∈ lw_gd := gd_in (by decide +kernel) rfl
theorem yo_X3_spreadReach : YOK yX3_spreadReach cX3_spreadReach 5 none 2 := ⟨gd_in (by decide +kernel) rfl, gd_in (by decide +kernel) rfl, gd_in (by decide +kernel) rfl, gd_in (by decide +kernel) rfl, by decide +kernel, by decide +kernel, by decide +kernel⟩
theorem m_X3_76 : Cond.methodLink RX3 76 yX3_goToNextVersion ∈ lw_gd := gd_in (by decide +kernel) rfl
theorem yo_X3_goToNextVersion : YOK yX3_goToNextVersion cX3_goToNextVersion 1 none 0 := ⟨gd_in (by decide +kernel) rfl, gd_in (by decide +kernel) rfl, gd_in (by decide +kernel) rfl, gd_in (by decide +kernel) rfl, by decide +kernel, by decide +kernel, by decide +kernel⟩
theorem g_X3_79 : FOW RX3 79 4 6 .int := ⟨0, 18, RX0, TX0, rfl, rfl, by decide, gd_in (by decide +kernel) (by decide +kernel), rfl, by decide +kernel⟩
theorem f_X3_82 : FOK RX3 82 0 5 := ⟨3, 6, RX3, TX3, rfl, rfl, by decide, gd_in (by decide +kernel) (by decide +kernel)⟩
theorem f_X3_22 : FOK RX3 22 0 4 := ⟨3, 6, RX3, TX3, rfl, rfl, by decide, gd_in (by decide +kernel) (by decide +kernel)⟩
theorem m_X3_85 : Cond.methodLink RX3 85 yX0_isLeaf ∈ lw_gd := gd_in (by decide +kernel) rfl
theorem yo_X0_isLeaf : YOK yX0_isLeaf cX0_isLeaf 1 (some .boolean) 0 := ⟨gd_in (by decide +kernel) rfl, gd_in (by decide +kernel) rfl, gd_in (by decide +kernel) rfl, gd_in (by decide +kernel) rfl, by decide +kernel, by decide +kernel, by decide +kernel⟩
theorem f_X3_38 : FOK RX3 38 4 8 := ⟨0, 18, RX0, TX0, rfl, rfl, by decide, gd_in (by decide +kernel) (by decide +kernel)⟩
theorem f_X3_89 : FOK RX3 89 4 5 := ⟨0, 18, RX0, TX0, rfl, rfl, by decide, gd_in (by decide +kernel) (by decide +kernel)⟩
theorem g_X3_89 : FOW RX3 89 4 5 .boolean := ⟨0, 18, RX0, TX0, rfl, rfl, by decide, gd_in (by decide +kernel) (by decide +kernel), rfl, by decide +kernel⟩
theorem m_X3_93 : Cond.methodLink RX3 93 yX3_isWorker ∈ lw_gd := gd_in (by decide +kernel) rfl
theorem yo_X3_isWorker : YOS yX3_isWorker cX3_isWorker 1 (some .boolean) 1 := ⟨gd_in (by decide +kernel) rfl, gd_in (by decide +kernel) rfl, gd_in (by decide +kernel) rfl, by decide +kernel, by decide +kernel, by decide +kernel⟩
theorem f_X3_97 : FOK RX3 97 9 1 := ⟨1, 2, RX1, TX1, rfl, rfl, by decide, gd_in (by decide +kernel) (by decide +kernel)⟩
theorem m_X3_100 : Cond.methodLink RX3 100 yX3_isSure ∈ lw_gd := gd_in (by decide +kernel) rfl
theorem yo_X3_isSure : YOK yX3_isSure cX3_isSure 2 (some .boolean) 1 := ⟨gd_in (by decide +kernel) rfl, gd_in (by decide +kernel) rfl, gd_in (by decide +kernel) rfl, gd_in (by decide +kernel) rfl, by decide +kernel, by decide +kernel, by decide +kernel⟩
theorem f_X3_103 : FOK RX3 103 4 16 := ⟨0, 18, RX0, TX0, rfl, rfl, by decide, gd_in (by decide +kernel) (by decide +kernel)⟩
theorem m_X3_106 : Cond.methodLink RX3 106 yX1_put ∈ lw_gd := gd_in (by decide +kernel) rfl
theorem yo_X1_put : YOK yX1_put cX1_put 2 none 1 := ⟨gd_in (by decide +kernel) rfl, gd_in (by decide +kernel) rfl, gd_in (by decide +kernel) rfl, gd_in (by decide +kernel) rfl, by decide +kernel, by decide +kernel, by decide +kernel⟩
theorem m_X3_110 : Cond.methodLink RX3 110 yX3_goOn ∈ lw_gd := gd_in (by decide +kernel) rfl
theorem yo_X3_goOn : YOK yX3_goOn cX3_goOn 3 (some .int) 1 := ⟨gd_in (by decide +kernel) rfl, gd_in (by decide +kernel) rfl, gd_in (by decide +kernel) rfl, gd_in (by decide +kernel) rfl, by decide +kernel, by decide +kernel, by decide +kernel⟩
theorem m_X3_114 : Cond.methodLink RX3 114 yX3_emptyPiles ∈ lw_gd := gd_in (by decide +kernel) rfl
theorem yo_X3_emptyPiles : YOK yX3_emptyPiles cX3_emptyPiles 3 (some .int) 0 := ⟨gd_in (by decide +kernel) rfl, gd_in (by decide +kernel) rfl, gd_in (by decide +kernel) rfl, gd_in (by decide +kernel) rfl, by decide +kernel, by decide +kernel, by decide +kernel⟩
theorem f_X3_35 : FOK RX3 35 4 7 := ⟨0, 18, RX0, TX0, rfl, rfl, by decide, gd_in (by decide +kernel) (by decide +kernel)⟩
theorem m_X3_118 : Cond.methodLink RX3 118 yX3_runOnOwnPile ∈ lw_gd := gd_in (by decide +kernel) rfl
theorem yo_X3_runOnOwnPile : YOK yX3_runOnOwnPile cX3_runOnOwnPile 4 (some .int) 1 := ⟨gd_in (by decide +kernel) rfl, gd_in (by decide +kernel) rfl, gd_in (by decide +kernel) rfl, gd_in (by decide +kernel) rfl, by decide +kernel, by decide +kernel, by decide +kernel⟩
theorem f_X3_133 : FOK RX3 133 4 14 := ⟨0, 18, RX0, TX0, rfl, rfl, by decide, gd_in (by decide +kernel) (by decide +kernel)⟩
theorem f_X3_136 : FOK RX3 136 4 15 := ⟨0, 18, RX0, TX0, rfl, rfl, by decide, gd_in (by decide +kernel) (by decide +kernel)⟩
theorem f_X3_139 : FOK RX3 139 4 10 := ⟨0, 18, RX0, TX0, rfl, rfl, by decide, gd_in (by decide +kernel) (by decide +kernel)⟩
theorem f_X3_45 : FOK RX3 45 4 9 := ⟨0, 18, RX0, TX0, rfl, rfl, by decide, gd_in (by decide +kernel) (by decide +kernel)⟩
theorem m_X3_142 : Cond.methodLink RX3 142 yX0_askedPlace ∈ lw_gd := gd_in (by decide +kernel) rfl
theorem yo_X0_askedPlace : YOK yX0_askedPlace cX0_askedPlace 2 (some .int) 1 := ⟨gd_in (by decide +kernel) rfl, gd_in (by decide +kernel) rfl, gd_in (by decide +kernel) rfl, gd_in (by decide +kernel) rfl, by decide +kernel, by decide +kernel, by decide +kernel⟩
theorem g_X3_139 : FOW RX3 139 4 10 .boolean := ⟨0, 18, RX0, TX0, rfl, rfl, by decide, gd_in (by decide +kernel) (by decide +kernel), rfl, by decide +kernel⟩
theorem f_X3_11 : FOK RX3 11 0 0 := ⟨3, 6, RX3, TX3, rfl, rfl, by decide, gd_in (by decide +kernel) (by decide +kernel)⟩
theorem g_X3_26 : FOW RX3 26 0 1 .int := ⟨3, 6, RX3, TX3, rfl, rfl, by decide, gd_in (by decide +kernel) (by decide +kernel), rfl, by decide +kernel⟩
theorem f_X3_146 : FOK RX3 146 4 0 := ⟨0, 18, RX0, TX0, rfl, rfl, by decide, gd_in (by decide +kernel) (by decide +kernel)⟩
theorem f_X3_149 : FOK RX3 149 4 11 := ⟨0, 18, RX0, TX0, rfl, rfl, by decide, gd_in (by decide +kernel) (by decide +kernel)⟩
theorem g_X3_42 : FOW RX3 42 0 2 .int := ⟨3, 6, RX3, TX3, rfl, rfl, by decide, gd_in (by decide +kernel) (by decide +kernel), rfl, by decide +kernel⟩
theorem m_X3_152 : Cond.methodLink RX3 152 yX1_takeAll ∈ lw_gd := gd_in (by decide +kernel) rfl
theorem yo_X1_takeAll : YOK yX1_takeAll cX1_takeAll 3 (some .int) 0 := ⟨gd_in (by decide +kernel) rfl, gd_in (by decide +kernel) rfl, gd_in (by decide +kernel) rfl, gd_in (by decide +kernel) rfl, by decide +kernel, by decide +kernel, by decide +kernel⟩
theorem g_X3_82 : FOW RX3 82 0 5 .int := ⟨3, 6, RX3, TX3, rfl, rfl, by decide, gd_in (by decide +kernel) (by decide +kernel), rfl, by decide +kernel⟩
theorem m_X3_155 : Cond.methodLink RX3 155 yX0_firstThatReaches ∈ lw_gd := gd_in (by decide +kernel) rfl
theorem yo_X0_firstThatReaches : YOK yX0_firstThatReaches cX0_firstThatReaches 4 (some (.object "KeyGraph$Key")) 1 := ⟨gd_in (by decide +kernel) rfl, gd_in (by decide +kernel) rfl, gd_in (by decide +kernel) rfl, gd_in (by decide +kernel) rfl, by decide +kernel, by decide +kernel, by decide +kernel⟩
theorem f_X3_159 : FOK RX3 159 4 4 := ⟨0, 18, RX0, TX0, rfl, rfl, by decide, gd_in (by decide +kernel) (by decide +kernel)⟩
theorem g_X3_159 : FOW RX3 159 4 4 .long := ⟨0, 18, RX0, TX0, rfl, rfl, by decide, gd_in (by decide +kernel) (by decide +kernel), rfl, by decide +kernel⟩
theorem m_X3_163 : Cond.methodLink RX3 163 yX1_topmost ∈ lw_gd := gd_in (by decide +kernel) rfl
theorem yo_X1_topmost : YOK yX1_topmost cX1_topmost 1 (some (.object "KeyGraph$Key")) 0 := ⟨gd_in (by decide +kernel) rfl, gd_in (by decide +kernel) rfl, gd_in (by decide +kernel) rfl, gd_in (by decide +kernel) rfl, by decide +kernel, by decide +kernel, by decide +kernel⟩
theorem f_X3_167 : FOK RX3 167 4 17 := ⟨0, 18, RX0, TX0, rfl, rfl, by decide, gd_in (by decide +kernel) (by decide +kernel)⟩
theorem f_X3_171 : FOK RX3 171 7 0 := ⟨2, 5, RX2, TX2, rfl, rfl, by decide, gd_in (by decide +kernel) (by decide +kernel)⟩
theorem m_X3_174 : Cond.methodLink RX3 174 yX3_goOnChecking ∈ lw_gd := gd_in (by decide +kernel) rfl
theorem yo_X3_goOnChecking : YOK yX3_goOnChecking cX3_goOnChecking 4 (some .int) 2 := ⟨gd_in (by decide +kernel) rfl, gd_in (by decide +kernel) rfl, gd_in (by decide +kernel) rfl, gd_in (by decide +kernel) rfl, by decide +kernel, by decide +kernel, by decide +kernel⟩
theorem m_X3_178 : Cond.methodLink RX3 178 yX3_goOnWorking ∈ lw_gd := gd_in (by decide +kernel) rfl
theorem yo_X3_goOnWorking : YOK yX3_goOnWorking cX3_goOnWorking 5 (some .int) 2 := ⟨gd_in (by decide +kernel) rfl, gd_in (by decide +kernel) rfl, gd_in (by decide +kernel) rfl, gd_in (by decide +kernel) rfl, by decide +kernel, by decide +kernel, by decide +kernel⟩
theorem f_X3_181 : FOK RX3 181 7 1 := ⟨2, 5, RX2, TX2, rfl, rfl, by decide, gd_in (by decide +kernel) (by decide +kernel)⟩
theorem m_X3_184 : Cond.methodLink RX3 184 yX0_rowKey ∈ lw_gd := gd_in (by decide +kernel) rfl
theorem yo_X0_rowKey : YOK yX0_rowKey cX0_rowKey 2 (some (.object "KeyGraph$Key")) 1 := ⟨gd_in (by decide +kernel) rfl, gd_in (by decide +kernel) rfl, gd_in (by decide +kernel) rfl, gd_in (by decide +kernel) rfl, by decide +kernel, by decide +kernel, by decide +kernel⟩
theorem g_X3_136 : FOW RX3 136 4 15 .int := ⟨0, 18, RX0, TX0, rfl, rfl, by decide, gd_in (by decide +kernel) (by decide +kernel), rfl, by decide +kernel⟩
theorem m_X3_187 : Cond.methodLink RX3 187 yX3_makeSure ∈ lw_gd := gd_in (by decide +kernel) rfl
theorem yo_X3_makeSure : YOK yX3_makeSure cX3_makeSure 3 none 2 := ⟨gd_in (by decide +kernel) rfl, gd_in (by decide +kernel) rfl, gd_in (by decide +kernel) rfl, gd_in (by decide +kernel) rfl, by decide +kernel, by decide +kernel, by decide +kernel⟩
theorem m_X3_191 : Cond.methodLink RX3 191 yX3_findFirst ∈ lw_gd := gd_in (by decide +kernel) rfl
theorem yo_X3_findFirst : YOS yX3_findFirst cX3_findFirst 2 (some .int) 2 := ⟨gd_in (by decide +kernel) rfl, gd_in (by decide +kernel) rfl, gd_in (by decide +kernel) rfl, by decide +kernel, by decide +kernel, by decide +kernel⟩
theorem m_X3_194 : Cond.methodLink RX3 194 yX2_startWorking ∈ lw_gd := gd_in (by decide +kernel) rfl
theorem yo_X2_startWorking : YOK yX2_startWorking cX2_startWorking 2 none 1 := ⟨gd_in (by decide +kernel) rfl, gd_in (by decide +kernel) rfl, gd_in (by decide +kernel) rfl, gd_in (by decide +kernel) rfl, by decide +kernel, by decide +kernel, by decide +kernel⟩
theorem g_X3_181 : FOW RX3 181 7 1 .int := ⟨2, 5, RX2, TX2, rfl, rfl, by decide, gd_in (by decide +kernel) (by decide +kernel), rfl, by decide +kernel⟩
theorem m_X3_197 : Cond.methodLink RX3 197 yX2_nextPlace ∈ lw_gd := gd_in (by decide +kernel) rfl
theorem yo_X2_nextPlace : YOK yX2_nextPlace cX2_nextPlace 2 (some .int) 1 := ⟨gd_in (by decide +kernel) rfl, gd_in (by decide +kernel) rfl, gd_in (by decide +kernel) rfl, gd_in (by decide +kernel) rfl, by decide +kernel, by decide +kernel, by decide +kernel⟩
theorem f_X3_200 : FOK RX3 200 7 4 := ⟨2, 5, RX2, TX2, rfl, rfl, by decide, gd_in (by decide +kernel) (by decide +kernel)⟩
theorem m_X3_203 : Cond.methodLink RX3 203 yX3_endWork ∈ lw_gd := gd_in (by decide +kernel) rfl
theorem yo_X3_endWork : YOK yX3_endWork cX3_endWork 6 none 3 := ⟨gd_in (by decide +kernel) rfl, gd_in (by decide +kernel) rfl, gd_in (by decide +kernel) rfl, gd_in (by decide +kernel) rfl, by decide +kernel, by decide +kernel, by decide +kernel⟩
theorem m_X3_207 : Cond.methodLink RX3 207 yX2_notePlace ∈ lw_gd := gd_in (by decide +kernel) rfl
theorem yo_X2_notePlace : YOK yX2_notePlace cX2_notePlace 2 none 1 := ⟨gd_in (by decide +kernel) rfl, gd_in (by decide +kernel) rfl, gd_in (by decide +kernel) rfl, gd_in (by decide +kernel) rfl, by decide +kernel, by decide +kernel, by decide +kernel⟩
theorem m_X3_211 : Cond.methodLink RX3 211 yX2_take ∈ lw_gd := gd_in (by decide +kernel) rfl
theorem yo_X2_take : YOK yX2_take cX2_take 4 none 2 := ⟨gd_in (by decide +kernel) rfl, gd_in (by decide +kernel) rfl, gd_in (by decide +kernel) rfl, gd_in (by decide +kernel) rfl, by decide +kernel, by decide +kernel, by decide +kernel⟩
theorem m_X3_215 : Cond.methodLink RX3 215 yX2_result ∈ lw_gd := gd_in (by decide +kernel) rfl
theorem yo_X2_result : YOK yX2_result cX2_result 2 (some .long) 1 := ⟨gd_in (by decide +kernel) rfl, gd_in (by decide +kernel) rfl, gd_in (by decide +kernel) rfl, gd_in (by decide +kernel) rfl, by decide +kernel, by decide +kernel, by decide +kernel⟩
theorem g_X3_133 : FOW RX3 133 4 14 .int := ⟨0, 18, RX0, TX0, rfl, rfl, by decide, gd_in (by decide +kernel) (by decide +kernel), rfl, by decide +kernel⟩
theorem m_X3_219 : Cond.methodLink RX3 219 yX0_keepAskedPlaces ∈ lw_gd := gd_in (by decide +kernel) rfl
theorem yo_X0_keepAskedPlaces : YOK yX0_keepAskedPlaces cX0_keepAskedPlaces 2 none 0 := ⟨gd_in (by decide +kernel) rfl, gd_in (by decide +kernel) rfl, gd_in (by decide +kernel) rfl, gd_in (by decide +kernel) rfl, by decide +kernel, by decide +kernel, by decide +kernel⟩
theorem g_X3_149 : FOW RX3 149 4 11 .int := ⟨0, 18, RX0, TX0, rfl, rfl, by decide, gd_in (by decide +kernel) (by decide +kernel), rfl, by decide +kernel⟩
theorem m_X3_222 : Cond.methodLink RX3 222 yX1_takeTopmost ∈ lw_gd := gd_in (by decide +kernel) rfl
theorem yo_X1_takeTopmost : YOK yX1_takeTopmost cX1_takeTopmost 2 none 0 := ⟨gd_in (by decide +kernel) rfl, gd_in (by decide +kernel) rfl, gd_in (by decide +kernel) rfl, gd_in (by decide +kernel) rfl, by decide +kernel, by decide +kernel, by decide +kernel⟩
theorem f_X4_75 : FOK RX4 75 11 0 := ⟨4, 25, RX4, TX4, rfl, rfl, by decide, gd_in (by decide +kernel) (by decide +kernel)⟩
theorem f_X4_79 : FOK RX4 79 11 2 := ⟨4, 25, RX4, TX4, rfl, rfl, by decide, gd_in (by decide +kernel) (by decide +kernel)⟩
theorem m_X4_82 : Cond.methodLink RX4 82 yX4_isKey ∈ lw_gd := gd_in (by decide +kernel) rfl
theorem yo_X4_isKey : YOK yX4_isKey cX4_isKey 2 (some .boolean) 1 := ⟨gd_in (by decide +kernel) rfl, gd_in (by decide +kernel) rfl, gd_in (by decide +kernel) rfl, gd_in (by decide +kernel) rfl, by decide +kernel, by decide +kernel, by decide +kernel⟩
theorem f_X4_7 : FOK RX4 7 11 3 := ⟨4, 25, RX4, TX4, rfl, rfl, by decide, gd_in (by decide +kernel) (by decide +kernel)⟩
theorem f_X4_22 : FOK RX4 22 11 7 := ⟨4, 25, RX4, TX4, rfl, rfl, by decide, gd_in (by decide +kernel) (by decide +kernel)⟩
theorem f_X4_25 : FOK RX4 25 11 8 := ⟨4, 25, RX4, TX4, rfl, rfl, by decide, gd_in (by decide +kernel) (by decide +kernel)⟩
theorem f_X4_86 : FOK RX4 86 11 1 := ⟨4, 25, RX4, TX4, rfl, rfl, by decide, gd_in (by decide +kernel) (by decide +kernel)⟩
theorem f_X4_28 : FOK RX4 28 11 9 := ⟨4, 25, RX4, TX4, rfl, rfl, by decide, gd_in (by decide +kernel) (by decide +kernel)⟩
theorem g_X4_79 : FOW RX4 79 11 2 .int := ⟨4, 25, RX4, TX4, rfl, rfl, by decide, gd_in (by decide +kernel) (by decide +kernel), rfl, by decide +kernel⟩
theorem g_X4_75 : FOW RX4 75 11 0 .int := ⟨4, 25, RX4, TX4, rfl, rfl, by decide, gd_in (by decide +kernel) (by decide +kernel), rfl, by decide +kernel⟩
theorem f_X4_43 : FOK RX4 43 11 14 := ⟨4, 25, RX4, TX4, rfl, rfl, by decide, gd_in (by decide +kernel) (by decide +kernel)⟩
theorem f_X4_19 : FOK RX4 19 11 6 := ⟨4, 25, RX4, TX4, rfl, rfl, by decide, gd_in (by decide +kernel) (by decide +kernel)⟩
theorem m_X4_89 : Cond.methodLink RX4 89 yX4_make ∈ lw_gd := gd_in (by decide +kernel) rfl
theorem yo_X4_make : YOK yX4_make cX4_make 2 (some .int) 1 := ⟨gd_in (by decide +kernel) rfl, gd_in (by decide +kernel) rfl, gd_in (by decide +kernel) rfl, gd_in (by decide +kernel) rfl, by decide +kernel, by decide +kernel, by decide +kernel⟩
theorem f_X4_54 : FOK RX4 54 11 17 := ⟨4, 25, RX4, TX4, rfl, rfl, by decide, gd_in (by decide +kernel) (by decide +kernel)⟩
theorem m_X4_93 : Cond.methodLink RX4 93 yX4_empty ∈ lw_gd := gd_in (by decide +kernel) rfl
theorem yo_X4_empty : YOK yX4_empty cX4_empty 3 (some .int) 0 := ⟨gd_in (by decide +kernel) rfl, gd_in (by decide +kernel) rfl, gd_in (by decide +kernel) rfl, gd_in (by decide +kernel) rfl, by decide +kernel, by decide +kernel, by decide +kernel⟩
theorem g_X4_86 : FOW RX4 86 11 1 .int := ⟨4, 25, RX4, TX4, rfl, rfl, by decide, gd_in (by decide +kernel) (by decide +kernel), rfl, by decide +kernel⟩
theorem f_X4_16 : FOK RX4 16 11 5 := ⟨4, 25, RX4, TX4, rfl, rfl, by decide, gd_in (by decide +kernel) (by decide +kernel)⟩
theorem f_X4_72 : FOK RX4 72 11 24 := ⟨4, 25, RX4, TX4, rfl, rfl, by decide, gd_in (by decide +kernel) (by decide +kernel)⟩
theorem f_X4_13 : FOK RX4 13 11 4 := ⟨4, 25, RX4, TX4, rfl, rfl, by decide, gd_in (by decide +kernel) (by decide +kernel)⟩
theorem m_X4_97 : Cond.methodLink RX4 97 yX4_rowKey ∈ lw_gd := gd_in (by decide +kernel) rfl
theorem yo_X4_rowKey : YOK yX4_rowKey cX4_rowKey 3 (some .int) 2 := ⟨gd_in (by decide +kernel) rfl, gd_in (by decide +kernel) rfl, gd_in (by decide +kernel) rfl, gd_in (by decide +kernel) rfl, by decide +kernel, by decide +kernel, by decide +kernel⟩
theorem m_X4_101 : Cond.methodLink RX4 101 yX4_isLeaf ∈ lw_gd := gd_in (by decide +kernel) rfl
theorem yo_X4_isLeaf : YOK yX4_isLeaf cX4_isLeaf 2 (some .boolean) 1 := ⟨gd_in (by decide +kernel) rfl, gd_in (by decide +kernel) rfl, gd_in (by decide +kernel) rfl, gd_in (by decide +kernel) rfl, by decide +kernel, by decide +kernel, by decide +kernel⟩
theorem m_X4_104 : Cond.methodLink RX4 104 yX4_fillLeads ∈ lw_gd := gd_in (by decide +kernel) rfl
theorem yo_X4_fillLeads : YOK yX4_fillLeads cX4_fillLeads 5 none 1 := ⟨gd_in (by decide +kernel) rfl, gd_in (by decide +kernel) rfl, gd_in (by decide +kernel) rfl, gd_in (by decide +kernel) rfl, by decide +kernel, by decide +kernel, by decide +kernel⟩
theorem f_X4_69 : FOK RX4 69 11 22 := ⟨4, 25, RX4, TX4, rfl, rfl, by decide, gd_in (by decide +kernel) (by decide +kernel)⟩
theorem g_X4_108 : FOW RX4 108 11 23 .int := ⟨4, 25, RX4, TX4, rfl, rfl, by decide, gd_in (by decide +kernel) (by decide +kernel), rfl, by decide +kernel⟩
theorem f_X4_108 : FOK RX4 108 11 23 := ⟨4, 25, RX4, TX4, rfl, rfl, by decide, gd_in (by decide +kernel) (by decide +kernel)⟩
theorem m_X4_111 : Cond.methodLink RX4 111 yX4_firstBack ∈ lw_gd := gd_in (by decide +kernel) rfl
theorem yo_X4_firstBack : YOK yX4_firstBack cX4_firstBack 3 (some .int) 1 := ⟨gd_in (by decide +kernel) rfl, gd_in (by decide +kernel) rfl, gd_in (by decide +kernel) rfl, gd_in (by decide +kernel) rfl, by decide +kernel, by decide +kernel, by decide +kernel⟩
theorem m_X4_114 : Cond.methodLink RX4 114 yX4_next ∈ lw_gd := gd_in (by decide +kernel) rfl
theorem yo_X4_next : YOK yX4_next cX4_next 1 (some .int) 0 := ⟨gd_in (by decide +kernel) rfl, gd_in (by decide +kernel) rfl, gd_in (by decide +kernel) rfl, gd_in (by decide +kernel) rfl, by decide +kernel, by decide +kernel, by decide +kernel⟩
theorem f_X4_47 : FOK RX4 47 11 15 := ⟨4, 25, RX4, TX4, rfl, rfl, by decide, gd_in (by decide +kernel) (by decide +kernel)⟩
theorem f_X4_51 : FOK RX4 51 11 16 := ⟨4, 25, RX4, TX4, rfl, rfl, by decide, gd_in (by decide +kernel) (by decide +kernel)⟩
theorem f_X4_57 : FOK RX4 57 11 18 := ⟨4, 25, RX4, TX4, rfl, rfl, by decide, gd_in (by decide +kernel) (by decide +kernel)⟩
theorem f_X4_66 : FOK RX4 66 11 21 := ⟨4, 25, RX4, TX4, rfl, rfl, by decide, gd_in (by decide +kernel) (by decide +kernel)⟩
theorem f_X4_60 : FOK RX4 60 11 19 := ⟨4, 25, RX4, TX4, rfl, rfl, by decide, gd_in (by decide +kernel) (by decide +kernel)⟩
theorem m_X4_117 : Cond.methodLink RX4 117 yX4_isWorker ∈ lw_gd := gd_in (by decide +kernel) rfl
theorem yo_X4_isWorker : YOS yX4_isWorker cX4_isWorker 1 (some .boolean) 1 := ⟨gd_in (by decide +kernel) rfl, gd_in (by decide +kernel) rfl, gd_in (by decide +kernel) rfl, by decide +kernel, by decide +kernel, by decide +kernel⟩
theorem m_X4_120 : Cond.methodLink RX4 120 yX4_pileOf ∈ lw_gd := gd_in (by decide +kernel) rfl
theorem yo_X4_pileOf : YOK yX4_pileOf cX4_pileOf 5 (some .int) 1 := ⟨gd_in (by decide +kernel) rfl, gd_in (by decide +kernel) rfl, gd_in (by decide +kernel) rfl, gd_in (by decide +kernel) rfl, by decide +kernel, by decide +kernel, by decide +kernel⟩
theorem m_X4_123 : Cond.methodLink RX4 123 yX4_isSure ∈ lw_gd := gd_in (by decide +kernel) rfl
theorem yo_X4_isSure : YOK yX4_isSure cX4_isSure 2 (some .boolean) 1 := ⟨gd_in (by decide +kernel) rfl, gd_in (by decide +kernel) rfl, gd_in (by decide +kernel) rfl, gd_in (by decide +kernel) rfl, by decide +kernel, by decide +kernel, by decide +kernel⟩
theorem m_X4_126 : Cond.methodLink RX4 126 yX4_lay ∈ lw_gd := gd_in (by decide +kernel) rfl
theorem yo_X4_lay : YOK yX4_lay cX4_lay 4 none 2 := ⟨gd_in (by decide +kernel) rfl, gd_in (by decide +kernel) rfl, gd_in (by decide +kernel) rfl, gd_in (by decide +kernel) rfl, by decide +kernel, by decide +kernel, by decide +kernel⟩
theorem f_X4_63 : FOK RX4 63 11 20 := ⟨4, 25, RX4, TX4, rfl, rfl, by decide, gd_in (by decide +kernel) (by decide +kernel)⟩
theorem m_X4_130 : Cond.methodLink RX4 130 yX4_taken ∈ lw_gd := gd_in (by decide +kernel) rfl
theorem yo_X4_taken : YOK yX4_taken cX4_taken 3 (some .long) 2 := ⟨gd_in (by decide +kernel) rfl, gd_in (by decide +kernel) rfl, gd_in (by decide +kernel) rfl, gd_in (by decide +kernel) rfl, by decide +kernel, by decide +kernel, by decide +kernel⟩
theorem m_X4_134 : Cond.methodLink RX4 134 yX4_remainder ∈ lw_gd := gd_in (by decide +kernel) rfl
theorem yo_X4_remainder : YOS yX4_remainder cX4_remainder 4 (some .int) 2 := ⟨gd_in (by decide +kernel) rfl, gd_in (by decide +kernel) rfl, gd_in (by decide +kernel) rfl, by decide +kernel, by decide +kernel, by decide +kernel⟩
theorem f_X4_31 : FOK RX4 31 11 10 := ⟨4, 25, RX4, TX4, rfl, rfl, by decide, gd_in (by decide +kernel) (by decide +kernel)⟩
theorem f_X4_34 : FOK RX4 34 11 11 := ⟨4, 25, RX4, TX4, rfl, rfl, by decide, gd_in (by decide +kernel) (by decide +kernel)⟩
theorem f_X4_37 : FOK RX4 37 11 12 := ⟨4, 25, RX4, TX4, rfl, rfl, by decide, gd_in (by decide +kernel) (by decide +kernel)⟩
theorem f_X4_40 : FOK RX4 40 11 13 := ⟨4, 25, RX4, TX4, rfl, rfl, by decide, gd_in (by decide +kernel) (by decide +kernel)⟩
theorem m_X4_140 : Cond.methodLink RX4 140 yX4_await ∈ lw_gd := gd_in (by decide +kernel) rfl
theorem yo_X4_await : YOK yX4_await cX4_await 3 (some .int) 2 := ⟨gd_in (by decide +kernel) rfl, gd_in (by decide +kernel) rfl, gd_in (by decide +kernel) rfl, gd_in (by decide +kernel) rfl, by decide +kernel, by decide +kernel, by decide +kernel⟩
theorem m_X4_143 : Cond.methodLink RX4 143 yX4_check ∈ lw_gd := gd_in (by decide +kernel) rfl
theorem yo_X4_check : YOK yX4_check cX4_check 5 (some .int) 2 := ⟨gd_in (by decide +kernel) rfl, gd_in (by decide +kernel) rfl, gd_in (by decide +kernel) rfl, gd_in (by decide +kernel) rfl, by decide +kernel, by decide +kernel, by decide +kernel⟩
theorem m_X4_146 : Cond.methodLink RX4 146 yX4_comes ∈ lw_gd := gd_in (by decide +kernel) rfl
theorem yo_X4_comes : YOK yX4_comes cX4_comes 5 (some .int) 1 := ⟨gd_in (by decide +kernel) rfl, gd_in (by decide +kernel) rfl, gd_in (by decide +kernel) rfl, gd_in (by decide +kernel) rfl, by decide +kernel, by decide +kernel, by decide +kernel⟩
theorem m_X4_149 : Cond.methodLink RX4 149 yX4_end ∈ lw_gd := gd_in (by decide +kernel) rfl
theorem yo_X4_end : YOK yX4_end cX4_end 9 (some .int) 3 := ⟨gd_in (by decide +kernel) rfl, gd_in (by decide +kernel) rfl, gd_in (by decide +kernel) rfl, gd_in (by decide +kernel) rfl, by decide +kernel, by decide +kernel, by decide +kernel⟩
theorem m_X4_153 : Cond.methodLink RX4 153 yX4_outcome ∈ lw_gd := gd_in (by decide +kernel) rfl
theorem yo_X4_outcome : YOK yX4_outcome cX4_outcome 9 (some .long) 1 := ⟨gd_in (by decide +kernel) rfl, gd_in (by decide +kernel) rfl, gd_in (by decide +kernel) rfl, gd_in (by decide +kernel) rfl, by decide +kernel, by decide +kernel, by decide +kernel⟩
theorem m_X4_157 : Cond.methodLink RX4 157 yX4_go ∈ lw_gd := gd_in (by decide +kernel) rfl
theorem yo_X4_go : YOK yX4_go cX4_go 5 (some .int) 1 := ⟨gd_in (by decide +kernel) rfl, gd_in (by decide +kernel) rfl, gd_in (by decide +kernel) rfl, gd_in (by decide +kernel) rfl, by decide +kernel, by decide +kernel, by decide +kernel⟩
theorem g_X0_33 : FOW RX0 33 4 4 .long := ⟨0, 18, RX0, TX0, rfl, rfl, by decide, gd_in (by decide +kernel) (by decide +kernel), rfl, by decide +kernel⟩
theorem f_X0_30 : FOK RX0 30 4 1 := ⟨0, 18, RX0, TX0, rfl, rfl, by decide, gd_in (by decide +kernel) (by decide +kernel)⟩
theorem f_X0_33 : FOK RX0 33 4 4 := ⟨0, 18, RX0, TX0, rfl, rfl, by decide, gd_in (by decide +kernel) (by decide +kernel)⟩
theorem f_X0_26 : FOK RX0 26 4 0 := ⟨0, 18, RX0, TX0, rfl, rfl, by decide, gd_in (by decide +kernel) (by decide +kernel)⟩
theorem f_X0_37 : FOK RX0 37 4 3 := ⟨0, 18, RX0, TX0, rfl, rfl, by decide, gd_in (by decide +kernel) (by decide +kernel)⟩
theorem m_X0_40 : Cond.methodLink RX0 40 yX0_rowKey ∈ lw_gd := gd_in (by decide +kernel) rfl
theorem m_X0_44 : Cond.methodLink RX0 44 yX0_reaches ∈ lw_gd := gd_in (by decide +kernel) rfl
theorem f_X0_11 : FOK RX0 11 4 2 := ⟨0, 18, RX0, TX0, rfl, rfl, by decide, gd_in (by decide +kernel) (by decide +kernel)⟩
theorem f_X0_48 : FOK RX0 48 4 13 := ⟨0, 18, RX0, TX0, rfl, rfl, by decide, gd_in (by decide +kernel) (by decide +kernel)⟩
theorem f_X0_15 : FOK RX0 15 4 12 := ⟨0, 18, RX0, TX0, rfl, rfl, by decide, gd_in (by decide +kernel) (by decide +kernel)⟩
theorem f_X0_22 : FOK RX0 22 4 17 := ⟨0, 18, RX0, TX0, rfl, rfl, by decide, gd_in (by decide +kernel) (by decide +kernel)⟩
theorem f_X0_51 : FOK RX0 51 7 1 := ⟨2, 5, RX2, TX2, rfl, rfl, by decide, gd_in (by decide +kernel) (by decide +kernel)⟩
theorem g_X0_48 : FOW RX0 48 4 13 .int := ⟨0, 18, RX0, TX0, rfl, rfl, by decide, gd_in (by decide +kernel) (by decide +kernel), rfl, by decide +kernel⟩
theorem f_X0_54 : FOK RX0 54 7 2 := ⟨2, 5, RX2, TX2, rfl, rfl, by decide, gd_in (by decide +kernel) (by decide +kernel)⟩
theorem f_X1_17 : FOK RX1 17 9 1 := ⟨1, 2, RX1, TX1, rfl, rfl, by decide, gd_in (by decide +kernel) (by decide +kernel)⟩
theorem f_X1_11 : FOK RX1 11 9 0 := ⟨1, 2, RX1, TX1, rfl, rfl, by decide, gd_in (by decide +kernel) (by decide +kernel)⟩
theorem f_X1_21 : FOK RX1 21 4 17 := ⟨0, 18, RX0, TX0, rfl, rfl, by decide, gd_in (by decide +kernel) (by decide +kernel)⟩
theorem m_X1_25 : Cond.methodLink RX1 25 yX2_start ∈ lw_gd := gd_in (by decide +kernel) rfl
theorem yo_X2_start : YOK yX2_start cX2_start 2 none 1 := ⟨gd_in (by decide +kernel) rfl, gd_in (by decide +kernel) rfl, gd_in (by decide +kernel) rfl, gd_in (by decide +kernel) rfl, by decide +kernel, by decide +kernel, by decide +kernel⟩
theorem g_X1_31 : FOW RX1 31 4 16 .boolean := ⟨0, 18, RX0, TX0, rfl, rfl, by decide, gd_in (by decide +kernel) (by decide +kernel), rfl, by decide +kernel⟩
theorem g_X1_17 : FOW RX1 17 9 1 .int := ⟨1, 2, RX1, TX1, rfl, rfl, by decide, gd_in (by decide +kernel) (by decide +kernel), rfl, by decide +kernel⟩
theorem m_X1_35 : Cond.methodLink RX1 35 yX1_topmost ∈ lw_gd := gd_in (by decide +kernel) rfl
theorem m_X1_39 : Cond.methodLink RX1 39 yX1_takeTopmost ∈ lw_gd := gd_in (by decide +kernel) rfl
theorem m_X2_15 : Cond.methodLink RX2 15 yX2_startWorking ∈ lw_gd := gd_in (by decide +kernel) rfl
theorem f_X2_19 : FOK RX2 19 4 10 := ⟨0, 18, RX0, TX0, rfl, rfl, by decide, gd_in (by decide +kernel) (by decide +kernel)⟩
theorem f_X2_25 : FOK RX2 25 4 6 := ⟨0, 18, RX0, TX0, rfl, rfl, by decide, gd_in (by decide +kernel) (by decide +kernel)⟩
theorem f_X2_29 : FOK RX2 29 4 11 := ⟨0, 18, RX0, TX0, rfl, rfl, by decide, gd_in (by decide +kernel) (by decide +kernel)⟩
theorem g_X2_32 : FOW RX2 32 7 0 .boolean := ⟨2, 5, RX2, TX2, rfl, rfl, by decide, gd_in (by decide +kernel) (by decide +kernel), rfl, by decide +kernel⟩
theorem g_X2_35 : FOW RX2 35 7 1 .int := ⟨2, 5, RX2, TX2, rfl, rfl, by decide, gd_in (by decide +kernel) (by decide +kernel), rfl, by decide +kernel⟩
theorem g_X2_38 : FOW RX2 38 7 3 .long := ⟨2, 5, RX2, TX2, rfl, rfl, by decide, gd_in (by decide +kernel) (by decide +kernel), rfl, by decide +kernel⟩
theorem f_X2_42 : FOK RX2 42 4 5 := ⟨0, 18, RX0, TX0, rfl, rfl, by decide, gd_in (by decide +kernel) (by decide +kernel)⟩
theorem f_X2_45 : FOK RX2 45 4 1 := ⟨0, 18, RX0, TX0, rfl, rfl, by decide, gd_in (by decide +kernel) (by decide +kernel)⟩
theorem f_X2_48 : FOK RX2 48 4 3 := ⟨0, 18, RX0, TX0, rfl, rfl, by decide, gd_in (by decide +kernel) (by decide +kernel)⟩
theorem g_X2_51 : FOW RX2 51 7 4 .boolean := ⟨2, 5, RX2, TX2, rfl, rfl, by decide, gd_in (by decide +kernel) (by decide +kernel), rfl, by decide +kernel⟩
theorem f_X2_51 : FOK RX2 51 7 4 := ⟨2, 5, RX2, TX2, rfl, rfl, by decide, gd_in (by decide +kernel) (by decide +kernel)⟩
theorem f_X2_35 : FOK RX2 35 7 1 := ⟨2, 5, RX2, TX2, rfl, rfl, by decide, gd_in (by decide +kernel) (by decide +kernel)⟩
theorem f_X2_38 : FOK RX2 38 7 3 := ⟨2, 5, RX2, TX2, rfl, rfl, by decide, gd_in (by decide +kernel) (by decide +kernel)⟩
theorem m_X2_54 : Cond.methodLink RX2 54 yX2_nextPick ∈ lw_gd := gd_in (by decide +kernel) rfl
theorem yo_X2_nextPick : YOK yX2_nextPick cX2_nextPick 2 (some .int) 1 := ⟨gd_in (by decide +kernel) rfl, gd_in (by decide +kernel) rfl, gd_in (by decide +kernel) rfl, gd_in (by decide +kernel) rfl, by decide +kernel, by decide +kernel, by decide +kernel⟩
theorem m_X2_64 : Cond.methodLink RX2 64 yX2_divide ∈ lw_gd := gd_in (by decide +kernel) rfl
theorem yo_X2_divide : YOK yX2_divide cX2_divide 3 none 1 := ⟨gd_in (by decide +kernel) rfl, gd_in (by decide +kernel) rfl, gd_in (by decide +kernel) rfl, gd_in (by decide +kernel) rfl, by decide +kernel, by decide +kernel, by decide +kernel⟩
theorem f_X2_9 : FOK RX2 9 7 2 := ⟨2, 5, RX2, TX2, rfl, rfl, by decide, gd_in (by decide +kernel) (by decide +kernel)⟩
theorem m_L_7 : Cond.methodLink RL 7 yX3_value ∈ lw_gd := gd_in (by decide +kernel) rfl
theorem yo_X3_value : YOK yX3_value cX3_value 3 (some .long) 1 := ⟨gd_in (by decide +kernel) rfl, gd_in (by decide +kernel) rfl, gd_in (by decide +kernel) rfl, gd_in (by decide +kernel) rfl, by decide +kernel, by decide +kernel, by decide +kernel⟩
theorem m_L_23 : Cond.methodLink RL 23 yX3_leaf ∈ lw_gd := gd_in (by decide +kernel) rfl
theorem yo_X3_leaf : YOK yX3_leaf cX3_leaf 4 (some .int) 1 := ⟨gd_in (by decide +kernel) rfl, gd_in (by decide +kernel) rfl, gd_in (by decide +kernel) rfl, gd_in (by decide +kernel) rfl, by decide +kernel, by decide +kernel, by decide +kernel⟩
theorem m_L_27 : Cond.methodLink RL 27 yX4_leaf ∈ lw_gd := gd_in (by decide +kernel) rfl
theorem yo_X4_leaf : YOK yX4_leaf cX4_leaf 3 (some .int) 1 := ⟨gd_in (by decide +kernel) rfl, gd_in (by decide +kernel) rfl, gd_in (by decide +kernel) rfl, gd_in (by decide +kernel) rfl, by decide +kernel, by decide +kernel, by decide +kernel⟩
theorem m_L_28 : Cond.methodLink RL 28 yX3_key ∈ lw_gd := gd_in (by decide +kernel) rfl
theorem yo_X3_key : YOK yX3_key cX3_key 2 (some .int) 1 := ⟨gd_in (by decide +kernel) rfl, gd_in (by decide +kernel) rfl, gd_in (by decide +kernel) rfl, gd_in (by decide +kernel) rfl, by decide +kernel, by decide +kernel, by decide +kernel⟩
theorem m_L_32 : Cond.methodLink RL 32 yX4_key ∈ lw_gd := gd_in (by decide +kernel) rfl
theorem yo_X4_key : YOK yX4_key cX4_key 2 (some .int) 1 := ⟨gd_in (by decide +kernel) rfl, gd_in (by decide +kernel) rfl, gd_in (by decide +kernel) rfl, gd_in (by decide +kernel) rfl, by decide +kernel, by decide +kernel, by decide +kernel⟩
theorem m_L_33 : Cond.methodLink RL 33 yX3_asks ∈ lw_gd := gd_in (by decide +kernel) rfl
theorem yo_X3_asks : YOK yX3_asks cX3_asks 5 (some .int) 2 := ⟨gd_in (by decide +kernel) rfl, gd_in (by decide +kernel) rfl, gd_in (by decide +kernel) rfl, gd_in (by decide +kernel) rfl, by decide +kernel, by decide +kernel, by decide +kernel⟩
theorem m_L_37 : Cond.methodLink RL 37 yX4_asks ∈ lw_gd := gd_in (by decide +kernel) rfl
theorem yo_X4_asks : YOK yX4_asks cX4_asks 4 (some .int) 2 := ⟨gd_in (by decide +kernel) rfl, gd_in (by decide +kernel) rfl, gd_in (by decide +kernel) rfl, gd_in (by decide +kernel) rfl, by decide +kernel, by decide +kernel, by decide +kernel⟩
theorem m_L_38 : Cond.methodLink RL 38 yX3_ring ∈ lw_gd := gd_in (by decide +kernel) rfl
theorem yo_X3_ring : YOK yX3_ring cX3_ring 2 (some .int) 1 := ⟨gd_in (by decide +kernel) rfl, gd_in (by decide +kernel) rfl, gd_in (by decide +kernel) rfl, gd_in (by decide +kernel) rfl, by decide +kernel, by decide +kernel, by decide +kernel⟩
theorem m_L_41 : Cond.methodLink RL 41 yX4_ring ∈ lw_gd := gd_in (by decide +kernel) rfl
theorem yo_X4_ring : YOK yX4_ring cX4_ring 2 (some .int) 1 := ⟨gd_in (by decide +kernel) rfl, gd_in (by decide +kernel) rfl, gd_in (by decide +kernel) rfl, gd_in (by decide +kernel) rfl, by decide +kernel, by decide +kernel, by decide +kernel⟩
theorem m_L_42 : Cond.methodLink RL 42 yX3_change ∈ lw_gd := gd_in (by decide +kernel) rfl
theorem yo_X3_change : YOK yX3_change cX3_change 5 (some .int) 2 := ⟨gd_in (by decide +kernel) rfl, gd_in (by decide +kernel) rfl, gd_in (by decide +kernel) rfl, gd_in (by decide +kernel) rfl, by decide +kernel, by decide +kernel, by decide +kernel⟩
theorem m_L_46 : Cond.methodLink RL 46 yX4_change ∈ lw_gd := gd_in (by decide +kernel) rfl
theorem yo_X4_change : YOK yX4_change cX4_change 4 (some .int) 2 := ⟨gd_in (by decide +kernel) rfl, gd_in (by decide +kernel) rfl, gd_in (by decide +kernel) rfl, gd_in (by decide +kernel) rfl, by decide +kernel, by decide +kernel, by decide +kernel⟩
theorem m_L_47 : Cond.methodLink RL 47 yX3_spoil ∈ lw_gd := gd_in (by decide +kernel) rfl
theorem yo_X3_spoil : YOK yX3_spoil cX3_spoil 4 (some .int) 2 := ⟨gd_in (by decide +kernel) rfl, gd_in (by decide +kernel) rfl, gd_in (by decide +kernel) rfl, gd_in (by decide +kernel) rfl, by decide +kernel, by decide +kernel, by decide +kernel⟩
theorem m_L_51 : Cond.methodLink RL 51 yX4_spoil ∈ lw_gd := gd_in (by decide +kernel) rfl
theorem yo_X4_spoil : YOK yX4_spoil cX4_spoil 3 (some .int) 2 := ⟨gd_in (by decide +kernel) rfl, gd_in (by decide +kernel) rfl, gd_in (by decide +kernel) rfl, gd_in (by decide +kernel) rfl, by decide +kernel, by decide +kernel, by decide +kernel⟩
theorem m_L_52 : Cond.methodLink RL 52 yX3_begin ∈ lw_gd := gd_in (by decide +kernel) rfl
theorem yo_X3_begin : YOK yX3_begin cX3_begin 4 (some .int) 2 := ⟨gd_in (by decide +kernel) rfl, gd_in (by decide +kernel) rfl, gd_in (by decide +kernel) rfl, gd_in (by decide +kernel) rfl, by decide +kernel, by decide +kernel, by decide +kernel⟩
theorem m_L_55 : Cond.methodLink RL 55 yX4_begin ∈ lw_gd := gd_in (by decide +kernel) rfl
theorem yo_X4_begin : YOK yX4_begin cX4_begin 3 (some .int) 2 := ⟨gd_in (by decide +kernel) rfl, gd_in (by decide +kernel) rfl, gd_in (by decide +kernel) rfl, gd_in (by decide +kernel) rfl, by decide +kernel, by decide +kernel, by decide +kernel⟩
theorem m_L_56 : Cond.methodLink RL 56 yX3_step ∈ lw_gd := gd_in (by decide +kernel) rfl
theorem yo_X3_step : YOK yX3_step cX3_step 2 (some .int) 1 := ⟨gd_in (by decide +kernel) rfl, gd_in (by decide +kernel) rfl, gd_in (by decide +kernel) rfl, gd_in (by decide +kernel) rfl, by decide +kernel, by decide +kernel, by decide +kernel⟩
theorem m_L_59 : Cond.methodLink RL 59 yX4_step ∈ lw_gd := gd_in (by decide +kernel) rfl
theorem yo_X4_step : YOK yX4_step cX4_step 2 (some .int) 1 := ⟨gd_in (by decide +kernel) rfl, gd_in (by decide +kernel) rfl, gd_in (by decide +kernel) rfl, gd_in (by decide +kernel) rfl, by decide +kernel, by decide +kernel, by decide +kernel⟩
theorem m_L_60 : Cond.methodLink RL 60 yX3_cancel ∈ lw_gd := gd_in (by decide +kernel) rfl
theorem yo_X3_cancel : YOK yX3_cancel cX3_cancel 1 (some .int) 0 := ⟨gd_in (by decide +kernel) rfl, gd_in (by decide +kernel) rfl, gd_in (by decide +kernel) rfl, gd_in (by decide +kernel) rfl, by decide +kernel, by decide +kernel, by decide +kernel⟩
theorem m_L_64 : Cond.methodLink RL 64 yX4_cancel ∈ lw_gd := gd_in (by decide +kernel) rfl
theorem yo_X4_cancel : YOK yX4_cancel cX4_cancel 1 (some .int) 0 := ⟨gd_in (by decide +kernel) rfl, gd_in (by decide +kernel) rfl, gd_in (by decide +kernel) rfl, gd_in (by decide +kernel) rfl, by decide +kernel, by decide +kernel, by decide +kernel⟩
theorem m_L_65 : Cond.methodLink RL 65 yX3_run ∈ lw_gd := gd_in (by decide +kernel) rfl
theorem yo_X3_run : YOK yX3_run cX3_run 3 (some .int) 1 := ⟨gd_in (by decide +kernel) rfl, gd_in (by decide +kernel) rfl, gd_in (by decide +kernel) rfl, gd_in (by decide +kernel) rfl, by decide +kernel, by decide +kernel, by decide +kernel⟩
theorem m_L_68 : Cond.methodLink RL 68 yX4_run ∈ lw_gd := gd_in (by decide +kernel) rfl
theorem yo_X4_run : YOK yX4_run cX4_run 3 (some .int) 1 := ⟨gd_in (by decide +kernel) rfl, gd_in (by decide +kernel) rfl, gd_in (by decide +kernel) rfl, gd_in (by decide +kernel) rfl, by decide +kernel, by decide +kernel, by decide +kernel⟩
theorem m_L_69 : Cond.methodLink RL 69 yX3_state ∈ lw_gd := gd_in (by decide +kernel) rfl
theorem yo_X3_state : YOK yX3_state cX3_state 3 (some .int) 1 := ⟨gd_in (by decide +kernel) rfl, gd_in (by decide +kernel) rfl, gd_in (by decide +kernel) rfl, gd_in (by decide +kernel) rfl, by decide +kernel, by decide +kernel, by decide +kernel⟩
theorem m_L_72 : Cond.methodLink RL 72 yX4_state ∈ lw_gd := gd_in (by decide +kernel) rfl
theorem yo_X4_state : YOK yX4_state cX4_state 2 (some .int) 1 := ⟨gd_in (by decide +kernel) rfl, gd_in (by decide +kernel) rfl, gd_in (by decide +kernel) rfl, gd_in (by decide +kernel) rfl, by decide +kernel, by decide +kernel, by decide +kernel⟩
theorem m_L_73 : Cond.methodLink RL 73 yL_value ∈ lw_gd := gd_in (by decide +kernel) rfl
theorem m_L_78 : Cond.methodLink RL 78 yX4_value ∈ lw_gd := gd_in (by decide +kernel) rfl
theorem yo_X4_value : YOK yX4_value cX4_value 2 (some .long) 1 := ⟨gd_in (by decide +kernel) rfl, gd_in (by decide +kernel) rfl, gd_in (by decide +kernel) rfl, gd_in (by decide +kernel) rfl, by decide +kernel, by decide +kernel, by decide +kernel⟩
theorem m_L_79 : Cond.methodLink RL 79 yX4_thrown ∈ lw_gd := gd_in (by decide +kernel) rfl
theorem yo_X4_thrown : YOK yX4_thrown cX4_thrown 1 (some .int) 0 := ⟨gd_in (by decide +kernel) rfl, gd_in (by decide +kernel) rfl, gd_in (by decide +kernel) rfl, gd_in (by decide +kernel) rfl, by decide +kernel, by decide +kernel, by decide +kernel⟩
theorem m_L_82 : Cond.methodLink RL 82 yX3_worked ∈ lw_gd := gd_in (by decide +kernel) rfl
theorem yo_X3_worked : YOK yX3_worked cX3_worked 3 (some .int) 1 := ⟨gd_in (by decide +kernel) rfl, gd_in (by decide +kernel) rfl, gd_in (by decide +kernel) rfl, gd_in (by decide +kernel) rfl, by decide +kernel, by decide +kernel, by decide +kernel⟩
theorem m_L_85 : Cond.methodLink RL 85 yX4_worked ∈ lw_gd := gd_in (by decide +kernel) rfl
theorem yo_X4_worked : YOK yX4_worked cX4_worked 2 (some .int) 1 := ⟨gd_in (by decide +kernel) rfl, gd_in (by decide +kernel) rfl, gd_in (by decide +kernel) rfl, gd_in (by decide +kernel) rfl, by decide +kernel, by decide +kernel, by decide +kernel⟩
theorem m_L_86 : Cond.methodLink RL 86 yX3_kept ∈ lw_gd := gd_in (by decide +kernel) rfl
theorem yo_X3_kept : YOK yX3_kept cX3_kept 3 (some .int) 1 := ⟨gd_in (by decide +kernel) rfl, gd_in (by decide +kernel) rfl, gd_in (by decide +kernel) rfl, gd_in (by decide +kernel) rfl, by decide +kernel, by decide +kernel, by decide +kernel⟩
theorem m_L_89 : Cond.methodLink RL 89 yX4_kept ∈ lw_gd := gd_in (by decide +kernel) rfl
theorem yo_X4_kept : YOK yX4_kept cX4_kept 2 (some .int) 1 := ⟨gd_in (by decide +kernel) rfl, gd_in (by decide +kernel) rfl, gd_in (by decide +kernel) rfl, gd_in (by decide +kernel) rfl, by decide +kernel, by decide +kernel, by decide +kernel⟩
theorem m_L_90 : Cond.methodLink RL 90 yX3_changed ∈ lw_gd := gd_in (by decide +kernel) rfl
theorem yo_X3_changed : YOK yX3_changed cX3_changed 3 (some .int) 1 := ⟨gd_in (by decide +kernel) rfl, gd_in (by decide +kernel) rfl, gd_in (by decide +kernel) rfl, gd_in (by decide +kernel) rfl, by decide +kernel, by decide +kernel, by decide +kernel⟩
theorem m_L_93 : Cond.methodLink RL 93 yX4_changed ∈ lw_gd := gd_in (by decide +kernel) rfl
theorem yo_X4_changed : YOK yX4_changed cX4_changed 2 (some .int) 1 := ⟨gd_in (by decide +kernel) rfl, gd_in (by decide +kernel) rfl, gd_in (by decide +kernel) rfl, gd_in (by decide +kernel) rfl, by decide +kernel, by decide +kernel, by decide +kernel⟩
theorem m_L_94 : Cond.methodLink RL 94 yX3_asked ∈ lw_gd := gd_in (by decide +kernel) rfl
theorem yo_X3_asked : YOK yX3_asked cX3_asked 4 (some .int) 2 := ⟨gd_in (by decide +kernel) rfl, gd_in (by decide +kernel) rfl, gd_in (by decide +kernel) rfl, gd_in (by decide +kernel) rfl, by decide +kernel, by decide +kernel, by decide +kernel⟩
theorem m_L_97 : Cond.methodLink RL 97 yX4_asked ∈ lw_gd := gd_in (by decide +kernel) rfl
theorem yo_X4_asked : YOK yX4_asked cX4_asked 3 (some .int) 2 := ⟨gd_in (by decide +kernel) rfl, gd_in (by decide +kernel) rfl, gd_in (by decide +kernel) rfl, gd_in (by decide +kernel) rfl, by decide +kernel, by decide +kernel, by decide +kernel⟩
theorem m_L_98 : Cond.methodLink RL 98 yX3_drop ∈ lw_gd := gd_in (by decide +kernel) rfl
theorem yo_X3_drop : YOK yX3_drop cX3_drop 3 (some .boolean) 1 := ⟨gd_in (by decide +kernel) rfl, gd_in (by decide +kernel) rfl, gd_in (by decide +kernel) rfl, gd_in (by decide +kernel) rfl, by decide +kernel, by decide +kernel, by decide +kernel⟩
theorem m_L_102 : Cond.methodLink RL 102 yX4_drop ∈ lw_gd := gd_in (by decide +kernel) rfl
theorem yo_X4_drop : YOK yX4_drop cX4_drop 2 (some .boolean) 1 := ⟨gd_in (by decide +kernel) rfl, gd_in (by decide +kernel) rfl, gd_in (by decide +kernel) rfl, gd_in (by decide +kernel) rfl, by decide +kernel, by decide +kernel, by decide +kernel⟩
theorem m_L_103 : Cond.methodLink RL 103 yX3_version ∈ lw_gd := gd_in (by decide +kernel) rfl
theorem yo_X3_version : YOK yX3_version cX3_version 1 (some .int) 0 := ⟨gd_in (by decide +kernel) rfl, gd_in (by decide +kernel) rfl, gd_in (by decide +kernel) rfl, gd_in (by decide +kernel) rfl, by decide +kernel, by decide +kernel, by decide +kernel⟩
theorem m_L_106 : Cond.methodLink RL 106 yX4_version ∈ lw_gd := gd_in (by decide +kernel) rfl
theorem yo_X4_version : YOK yX4_version cX4_version 1 (some .int) 0 := ⟨gd_in (by decide +kernel) rfl, gd_in (by decide +kernel) rfl, gd_in (by decide +kernel) rfl, gd_in (by decide +kernel) rfl, by decide +kernel, by decide +kernel, by decide +kernel⟩
end
section
/-! how many cells of each kind there are when n keys are made; the fields that never change once made -/
def Nn (n c : Nat) : Nat := match c with
  | 0 => 1
  | 1 => 1
  | 2 => 1
  | 3 => 1
  | 11 => 1
  | 12 => 1
  | 23 => 1
  | 24 => 1
  | 25 => 1
  | 26 => 1
  | 27 => 1
  | 28 => 1
  | 29 => 1
  | 30 => 1
  | 31 => 1
  | 32 => 1
  | 33 => 1
  | 34 => 1
  | 35 => 1
  | 36 => 1
  | 37 => 1
  | 38 => 1
  | 39 => 1
  | 40 => 1
  | 41 => 1
  | 42 => 1
  | 44 => 1
  | 4 => n
  | 5 => n
  | 6 => n
  | 7 => n
  | 8 => n
  | 9 => 5
  | 10 => 5
  | _ => 0
def sfin (c k : Nat) : Bool := match c with
  | 0 => k == 0 || k == 3 || k == 4
  | 4 => k == 2 || k == 12 || k == 17
  | 7 => k == 2
  | 9 => k == 0
  | 11 => !(k == 0 || k == 1 || k == 2 || k == 23)
  | _ => false
def ST (n : Nat) (R : Fr) : Prop := ∀ c i k, i < Nn n c → sfin c k = true → R c i k = some i
theorem ST.up {n : Nat} {R : Fr} (h : ST n R) {c i k : Nat} {v : Option Nat} (hf : sfin c k = false) : ST n (up3 R c i k v) := fun c' i' k' hi hs => by
  rw [up3_n R c i k v (fun z => by obtain ⟨rfl, rfl, rfl⟩ := z; rw [hf] at hs; cases hs)]
  exact h c' i' k' hi hs
def po (r : Option Value) (ad : Fa) (N : Nat → Nat) (I : Fi) (J : Fj) (R : Fr) : Po := fun r' a n i j k => r' = r ∧ a = ad ∧ n = N ∧ i = I ∧ j = J ∧ k = R
theorem po_i (r : Option Value) (ad : Fa) (N : Nat → Nat) (I : Fi) (J : Fj) (R : Fr) : po r ad N I J R r ad N I J R := ⟨rfl, rfl, rfl, rfl, rfl, rfl⟩
theorem po_r {r r2 : Option Value} {ad : Fa} {N : Nat → Nat} {I : Fi} {J : Fj} {R : Fr} (h : r = r2) : po r2 ad N I J R r ad N I J R := ⟨h, rfl, rfl, rfl, rfl, rfl⟩
section GXN
variable {p : Program} {l : Launch} {e : Env} {Rm : Room} {s : State} {m : MethodId} {args : Array Value} {below : List Frame} {meth : Method} {c : Code} {Q : State → Prop} {cc : ByteArray} {own : String} {ret : Option FieldType} {D : va_G} {dA : Nat → ClassId} {base nL : Nat} {ad : Fa} {N : Nat → Nat} {I I1 : Fi} {J J1 : Fj} {R R1 : Fr} {nc ns pc mc ms n : Nat} {L : List (Option Value)} {st : List Value}
theorem x_getF (C : CX p s m args meth c cc nL own ret D dA base) (hT : ST n R) {idx kc k i t : Nat} (f : FOK own idx kc k) (hs : sty kc k = t + 2) (hfn : sfin kc k = true) (hi : i < Nn n kc) (d : decode cc pc = .ok (.getfield idx, 3)) (kk : GX p l e Rm s m args below meth c Q D dA base nL ad (Nn n) I J R nc ns (pc + 3) L (.ref (ad t i) :: st)) : GX p l e Rm s m args below meth c Q D dA base nL ad (Nn n) I J R nc ns (pc) L (.ref (ad kc i) :: st) := x_getR C f hs (hT kc i k hi hfn) hi d kk
theorem x_ialdN (C : CX p s m args meth c cc nL own ret D dA base) {kc i nn : Nat} {j : Int32} (k : Nat) (ek : j = nI k) (hk : kd kc = (1, 0, nn)) (hs : sty kc k = 0) (hi : i < N kc) (hkn : k < nn) (hb : nn < 2 ^ 31) (d : decode cc pc = .ok (.iaload, 1)) (kk : GX p l e Rm s m args below meth c Q D dA base nL ad N I J R nc ns (pc + 1) L (.int (I kc i k) :: st)) : GX p l e Rm s m args below meth c Q D dA base nL ad N I J R nc ns (pc) L (.int j :: .ref (ad kc i) :: st) := by
  subst ek
  have hc : (nI k).toNatClampNeg = k := nI_clamp (by omega)
  exact x_iald C hk (by rw [hc]; exact hs) hi (vp_in_nI hkn hb) d (by rw [hc]; exact kk)
theorem x_zaldN (C : CX p s m args meth c cc nL own ret D dA base) {kc i nn : Nat} {j : Int32} (k : Nat) (ek : j = nI k) (hk : kd kc = (1, 2, nn)) (hs : sty kc k = 0) (hi : i < N kc) (hkn : k < nn) (hb : nn < 2 ^ 31) (d : decode cc pc = .ok (.baload, 1)) (kk : GX p l e Rm s m args below meth c Q D dA base nL ad N I J R nc ns (pc + 1) L (.int (I kc i k) :: st)) : GX p l e Rm s m args below meth c Q D dA base nL ad N I J R nc ns (pc) L (.int j :: .ref (ad kc i) :: st) := by
  subst ek
  have hc : (nI k).toNatClampNeg = k := nI_clamp (by omega)
  exact x_zald C hk (by rw [hc]; exact hs) hi (vp_in_nI hkn hb) d (by rw [hc]; exact kk)
theorem x_laldN (C : CX p s m args meth c cc nL own ret D dA base) {kc i nn : Nat} {j : Int32} (k : Nat) (ek : j = nI k) (hk : kd kc = (1, 1, nn)) (hs : sty kc k = 1) (hi : i < N kc) (hkn : k < nn) (hb : nn < 2 ^ 31) (d : decode cc pc = .ok (.laload, 1)) (kk : GX p l e Rm s m args below meth c Q D dA base nL ad N I J R nc ns (pc + 1) L (.long (J kc i k) :: st)) : GX p l e Rm s m args below meth c Q D dA base nL ad N I J R nc ns (pc) L (.int j :: .ref (ad kc i) :: st) := by
  subst ek
  have hc : (nI k).toNatClampNeg = k := nI_clamp (by omega)
  exact x_lald C hk (by rw [hc]; exact hs) hi (vp_in_nI hkn hb) d (by rw [hc]; exact kk)
theorem x_aaldS (C : CX p s m args meth c cc nL own ret D dA base) {kc i nn ta t y : Nat} {j : Int32} {Cn : String} (k : Nat) (ek : j = nI k) (hk : kd kc = (1, ta, nn)) (hta : (tysX dA)[ta]? = some (dA ta, .object Cn)) (hs : sty kc k = t + 2) (hi : i < N kc) (hkn : k < nn) (hb : nn < 2 ^ 31) (hr : R kc i k = some y) (d : decode cc pc = .ok (.aaload, 1)) (kk : GX p l e Rm s m args below meth c Q D dA base nL ad N I J R nc ns (pc + 1) L (.ref (ad t y) :: st)) : GX p l e Rm s m args below meth c Q D dA base nL ad N I J R nc ns (pc) L (.int j :: .ref (ad kc i) :: st) := by
  subst ek
  have hc : (nI k).toNatClampNeg = k := nI_clamp (by omega)
  exact x_aald C hk hta (by rw [hc]; exact hs) hi (vp_in_nI hkn hb) d (fun z => by rw [hc, hr] at z; cases z) (fun y2 z => by rw [hc, hr] at z; cases z; exact kk)
theorem x_iastN (C : CX p s m args meth c cc nL own ret D dA base) {kc i nn : Nat} {j : Int32} {x : Int32} (k : Nat) (ek : j = nI k) (hk : kd kc = (1, 0, nn)) (hs : sty kc k = 0) (hi : i < N kc) (hkn : k < nn) (hb : nn < 2 ^ 31) (d : decode cc pc = .ok (.iastore, 1)) (kk : GX p l e Rm s m args below meth c Q D dA base nL ad N (up3 I kc i k x) J R nc ns (pc + 1) L st) : GX p l e Rm s m args below meth c Q D dA base nL ad N I J R nc ns (pc) L (.int x :: .int j :: .ref (ad kc i) :: st) := by
  subst ek
  have hc : (nI k).toNatClampNeg = k := nI_clamp (by omega)
  exact x_iast C hk (by rw [hc]; exact hs) hi (vp_in_nI hkn hb) d (by rw [hc]; exact kk)
theorem x_zastN (C : CX p s m args meth c cc nL own ret D dA base) {kc i nn : Nat} {j : Int32} {x : Int32} (k : Nat) (ek : j = nI k) (hk : kd kc = (1, 2, nn)) (hs : sty kc k = 0) (hi : i < N kc) (hkn : k < nn) (hb : nn < 2 ^ 31) (hz : x = 0 ∨ x = 1) (d : decode cc pc = .ok (.bastore, 1)) (kk : GX p l e Rm s m args below meth c Q D dA base nL ad N (up3 I kc i k x) J R nc ns (pc + 1) L st) : GX p l e Rm s m args below meth c Q D dA base nL ad N I J R nc ns (pc) L (.int x :: .int j :: .ref (ad kc i) :: st) := by
  subst ek
  have hc : (nI k).toNatClampNeg = k := nI_clamp (by omega)
  exact x_zast C hk (by rw [hc]; exact hs) hi (vp_in_nI hkn hb) hz d (by rw [hc]; exact kk)
theorem x_lastN (C : CX p s m args meth c cc nL own ret D dA base) {kc i nn : Nat} {j : Int32} {x : Int64} (k : Nat) (ek : j = nI k) (hk : kd kc = (1, 1, nn)) (hs : sty kc k = 1) (hi : i < N kc) (hkn : k < nn) (hb : nn < 2 ^ 31) (d : decode cc pc = .ok (.lastore, 1)) (kk : GX p l e Rm s m args below meth c Q D dA base nL ad N I (up3 J kc i k x) R nc ns (pc + 1) L st) : GX p l e Rm s m args below meth c Q D dA base nL ad N I J R nc ns (pc) L (.long x :: .int j :: .ref (ad kc i) :: st) := by
  subst ek
  have hc : (nI k).toNatClampNeg = k := nI_clamp (by omega)
  exact x_last C hk (by rw [hc]; exact hs) hi (vp_in_nI hkn hb) d (by rw [hc]; exact kk)
theorem x_aastN (C : CX p s m args meth c cc nL own ret D dA base) {kc i nn ta t y ci nf : Nat} {j : Int32} {r : vw_C} (k : Nat) (ek : j = nI k) (hk : kd kc = (1, ta, nn)) (hta : (tysX dA)[ta]? = some (dA ta, .object r.1)) (hs : sty kc k = t + 2) (hkt : kd t = (0, ci, nf)) (hci : vwCl[ci]? = some r) (hi : i < N kc) (hy : y < N t) (hkn : k < nn) (hb : nn < 2 ^ 31) (d : decode cc pc = .ok (.aastore, 1)) (kk : GX p l e Rm s m args below meth c Q D dA base nL ad N I J (up3 R kc i k (some y)) nc ns (pc + 1) L st) : GX p l e Rm s m args below meth c Q D dA base nL ad N I J R nc ns (pc) L (.ref (ad t y) :: .int j :: .ref (ad kc i) :: st) := by
  subst ek
  have hc : (nI k).toNatClampNeg = k := nI_clamp (by omega)
  exact x_aast C hk hta (by rw [hc]; exact hs) hkt hci hi hy (vp_in_nI hkn hb) d (by rw [hc]; exact kk)
theorem x_cV1 (C : CX p s m args meth c cc nL own ret D dA base) {v : Value} {y : MethodName} {cc2 : ByteArray} {maxL2 n2 idx d2 : Nat} {ret2 : Option FieldType} {As rest : List Value} (yo : YOK y cc2 maxL2 ret2 n2) (ml : Cond.methodLink own idx y ∈ lw_gd) {kc i ci nf : Nat} {T : u_T} (hk : kd kc = (0, ci, nf)) (hci : vwCl[ci]? = some (y.cls, T, nf)) (hi : i < N kc) (hM : CT l D dA base y cc2 maxL2 ret2 d2 mc ms (.ref (ad kc i) :: As) ad N I J R (po (some v) ad N I1 J1 R1)) (d : decode cc pc = .ok (.invokevirtual idx, 3)) (hst : st = As.reverse ++ .ref (ad kc i) :: rest) (hn : As.length = n2) (hW : (rest.map fun v => v.category).sum ≤ 8) (hR : d2 + 1 ≤ Rm.frames ∧ 8 + (maxL2 + 11) + 30 * d2 ≤ Rm.locals) (hf : nc + mc ≤ Rm.cells ∧ ns + ms ≤ Rm.slots) (kk : GX p l e Rm s m args below meth c Q D dA base nL ad N I1 J1 R1 (nc + mc) (ns + ms) (pc + 3) L (v :: rest)) : GX p l e Rm s m args below meth c Q D dA base nL ad N I J R nc ns (pc) L st := x_callV C yo ml hk hci hi hM d hst hn hW hR hf (fun r a n i j k h => by obtain ⟨rfl, rfl, rfl, rfl, rfl, rfl⟩ := h; exact kk)
theorem x_cS1 (C : CX p s m args meth c cc nL own ret D dA base) {v : Value} {y : MethodName} {cc2 : ByteArray} {maxL2 n2 idx d2 : Nat} {ret2 : Option FieldType} {As rest : List Value} (yo : YOS y cc2 maxL2 ret2 n2) (hy : y.cls = own) (ml : Cond.methodLink own idx y ∈ lw_gd) (hM : CT l D dA base y cc2 maxL2 ret2 d2 mc ms As ad N I J R (po (some v) ad N I1 J1 R1)) (d : decode cc pc = .ok (.invokestatic idx, 3)) (hst : st = As.reverse ++ rest) (hn : As.length = n2) (hW : (rest.map fun v => v.category).sum ≤ 8) (hR : d2 + 1 ≤ Rm.frames ∧ 8 + (maxL2 + 11) + 30 * d2 ≤ Rm.locals) (hf : nc + mc ≤ Rm.cells ∧ ns + ms ≤ Rm.slots) (kk : GX p l e Rm s m args below meth c Q D dA base nL ad N I1 J1 R1 (nc + mc) (ns + ms) (pc + 3) L (v :: rest)) : GX p l e Rm s m args below meth c Q D dA base nL ad N I J R nc ns (pc) L st := x_callS C yo hy ml hM d hst hn hW hR hf (fun r a n i j k h => by obtain ⟨rfl, rfl, rfl, rfl, rfl, rfl⟩ := h; exact kk)
theorem x_cV0 (C : CX p s m args meth c cc nL own ret D dA base) {y : MethodName} {cc2 : ByteArray} {maxL2 n2 idx d2 : Nat} {ret2 : Option FieldType} {As rest : List Value} (yo : YOK y cc2 maxL2 ret2 n2) (ml : Cond.methodLink own idx y ∈ lw_gd) {kc i ci nf : Nat} {T : u_T} (hk : kd kc = (0, ci, nf)) (hci : vwCl[ci]? = some (y.cls, T, nf)) (hi : i < N kc) (hM : CT l D dA base y cc2 maxL2 ret2 d2 mc ms (.ref (ad kc i) :: As) ad N I J R (po none ad N I1 J1 R1)) (d : decode cc pc = .ok (.invokevirtual idx, 3)) (hst : st = As.reverse ++ .ref (ad kc i) :: rest) (hn : As.length = n2) (hW : (rest.map fun v => v.category).sum ≤ 8) (hR : d2 + 1 ≤ Rm.frames ∧ 8 + (maxL2 + 11) + 30 * d2 ≤ Rm.locals) (hf : nc + mc ≤ Rm.cells ∧ ns + ms ≤ Rm.slots) (kk : GX p l e Rm s m args below meth c Q D dA base nL ad N I1 J1 R1 (nc + mc) (ns + ms) (pc + 3) L rest) : GX p l e Rm s m args below meth c Q D dA base nL ad N I J R nc ns (pc) L st := x_callV C yo ml hk hci hi hM d hst hn hW hR hf (fun r a n i j k h => by obtain ⟨rfl, rfl, rfl, rfl, rfl, rfl⟩ := h; exact kk)
theorem x_cS0 (C : CX p s m args meth c cc nL own ret D dA base) {y : MethodName} {cc2 : ByteArray} {maxL2 n2 idx d2 : Nat} {ret2 : Option FieldType} {As rest : List Value} (yo : YOS y cc2 maxL2 ret2 n2) (hy : y.cls = own) (ml : Cond.methodLink own idx y ∈ lw_gd) (hM : CT l D dA base y cc2 maxL2 ret2 d2 mc ms As ad N I J R (po none ad N I1 J1 R1)) (d : decode cc pc = .ok (.invokestatic idx, 3)) (hst : st = As.reverse ++ rest) (hn : As.length = n2) (hW : (rest.map fun v => v.category).sum ≤ 8) (hR : d2 + 1 ≤ Rm.frames ∧ 8 + (maxL2 + 11) + 30 * d2 ≤ Rm.locals) (hf : nc + mc ≤ Rm.cells ∧ ns + ms ≤ Rm.slots) (kk : GX p l e Rm s m args below meth c Q D dA base nL ad N I1 J1 R1 (nc + mc) (ns + ms) (pc + 3) L rest) : GX p l e Rm s m args below meth c Q D dA base nL ad N I J R nc ns (pc) L st := x_callS C yo hy ml hM d hst hn hW hR hf (fun r a n i j k h => by obtain ⟨rfl, rfl, rfl, rfl, rfl, rfl⟩ := h; exact kk)
end GXN
end
section
/-! static methods of any class; Math.max; pure words of the functions -/
section GXO
variable {p : Program} {l : Launch} {e : Env} {Rm : Room} {s : State} {m : MethodId} {args : Array Value} {below : List Frame} {meth : Method} {c : Code} {Q : State → Prop} {cc : ByteArray} {own : String} {ret : Option FieldType} {D : va_G} {dA : Nat → ClassId} {base nL : Nat} {ad : Fa} {N : Nat → Nat} {I I1 : Fi} {J J1 : Fj} {R R1 : Fr} {nc ns pc mc ms n : Nat} {L : List (Option Value)} {st : List Value} {post : Po}
variable {y : MethodName} {cc2 : ByteArray} {maxL2 n2 idx d2 : Nat} {ret2 : Option FieldType} {As rest : List Value}
theorem x_callSo (C : CX p s m args meth c cc nL own ret D dA base) (yo : YOS y cc2 maxL2 ret2 n2) (ml : Cond.methodLink own idx y ∈ lw_gd)
    (hM : CT l D dA base y cc2 maxL2 ret2 d2 mc ms As ad N I J R post) (d : decode cc pc = .ok (.invokestatic idx, 3)) (hst : st = As.reverse ++ rest) (hn : As.length = n2) (hW : (rest.map fun v => v.category).sum ≤ 8) (hR : d2 + 1 ≤ Rm.frames ∧ 8 + (maxL2 + 11) + 30 * d2 ≤ Rm.locals) (hf : nc + mc ≤ Rm.cells ∧ ns + ms ≤ Rm.slots)
    (kk : ∀ r ad' N' I' J' R', post r ad' N' I' J' R' → GX p l e Rm s m args below meth c Q D dA base nL ad' N' I' J' R' (nc + mc) (ns + ms) (pc + 3) L (r.toList ++ rest)) : GX p l e Rm s m args below meth c Q D dA base nL ad N I J R nc ns (pc) L st := fun H locs ls hH hS hl => by
  subst hst
  obtain ⟨y1, y3, y4, y5⟩ := yo
  have hK := C.2.2.2.2.2.1
  have cw := va_cwS (R := Rm) (rm := rmX d2 mc ms) (mc := mc) (ms := ms) (own := own) (index := idx) (y := y) (ws := Cond.code y cc2 maxL2 ret2 :: lw_gd) n2 C.2.2.2.2.1 (gd_GI (fun w hw => by
    simp only [va_wsS, List.cons_append, List.nil_append, List.mem_cons] at hw
    rcases hw with rfl | rfl | rfl | rfl | hw <;> assumption)) rfl rfl rfl y5 hR
  refine x_run (post := post) (a := As.toArray) hS hl (va_runS (Ts := lw_gd) (nL := nL) (As := As) (rest := rest) ⟨C.1, C.2.1, C.2.2.1, C.2.2.2.1, C.2.2.2.2.1⟩ hM cw ⟨CP_blind, fun U hU hW2 => ⟨rfl, by rw [hU]; exact Nat.le_trans C.2.2.2.2.2.2.1 hS.1, by rw [hU]; exact hH, va_K.moved hW2.alike hK⟩⟩ rfl hn hl.1 rfl (lv_room hW) d hf) kk
theorem x_cO1 (C : CX p s m args meth c cc nL own ret D dA base) {v : Value} (yo : YOS y cc2 maxL2 ret2 n2) (ml : Cond.methodLink own idx y ∈ lw_gd) (hM : CT l D dA base y cc2 maxL2 ret2 d2 mc ms As ad N I J R (po (some v) ad N I1 J1 R1)) (d : decode cc pc = .ok (.invokestatic idx, 3)) (hst : st = As.reverse ++ rest) (hn : As.length = n2) (hW : (rest.map fun v => v.category).sum ≤ 8) (hR : d2 + 1 ≤ Rm.frames ∧ 8 + (maxL2 + 11) + 30 * d2 ≤ Rm.locals) (hf : nc + mc ≤ Rm.cells ∧ ns + ms ≤ Rm.slots) (kk : GX p l e Rm s m args below meth c Q D dA base nL ad N I1 J1 R1 (nc + mc) (ns + ms) (pc + 3) L (v :: rest)) : GX p l e Rm s m args below meth c Q D dA base nL ad N I J R nc ns (pc) L st := x_callSo C yo ml hM d hst hn hW hR hf (fun r a n i j k h => by obtain ⟨rfl, rfl, rfl, rfl, rfl, rfl⟩ := h; exact kk)
theorem x_lmax (C : CX p s m args meth c cc nL own ret D dA base) {x y : Int64} (ml : Cond.methodLink own idx Lib.MathLoose.max_long.x ∈ lw_gd) (h2 : Cond.static Lib.MathLoose.max_long.x ∈ lw_gd) (h3 : Cond.initialized "java/lang/Math" ∈ lw_gd) (h4 : Cond.code Lib.MathLoose.max_long.x Lib.MathLoose.max_long.code 4 (some .long) ∈ lw_gd) (hf : 1 ≤ Rm.frames) (hlo : (st.map fun v => v.category).sum + 15 ≤ Rm.locals) (hc : nc ≤ Rm.cells) (hs : ns ≤ Rm.slots) (d : decode cc pc = .ok (.invokestatic idx, 3)) (kk : GX p l e Rm s m args below meth c Q D dA base nL ad N I J R nc ns (pc + 3) L (.long (if y < x then x else y) :: st)) : GX p l e Rm s m args below meth c Q D dA base nL ad N I J R nc ns (pc) L (.long y :: .long x :: st) := fun H locs ls hH hS hl => va_mmax_long C.1 C.2.1 (by rw [C.2.2.1, hl.1]) C.2.2.2.1 (C.2.2.2.2.1 _ ml) (C.2.2.2.2.1 _ h2) (C.2.2.2.2.1 _ h3) (C.2.2.2.2.1 _ h4) hf hlo hc hs d (kk H locs ls hH hS hl)
end GXO
theorem mx_1 : Cond.methodLink RX2 68 Lib.MathLoose.max_long.x ∈ lw_gd := gd_in (by decide +kernel) rfl
theorem mx_2 : Cond.static Lib.MathLoose.max_long.x ∈ lw_gd := gd_in (by decide +kernel) rfl
theorem mx_3 : Cond.initialized "java/lang/Math" ∈ lw_gd := gd_in (by decide +kernel) rfl
theorem mx_4 : Cond.code Lib.MathLoose.max_long.x Lib.MathLoose.max_long.code 4 (some .long) ∈ lw_gd := gd_in (by decide +kernel) rfl
theorem m_X2_58 : Cond.methodLink RX2 58 yJ9_floorMod_f86c9 ∈ lw_gd := gd_in (by decide +kernel) rfl
theorem yo_floorMod : YOS yJ9_floorMod_f86c9 cJ9_floorMod_f86c9 6 (some .long) 2 := ⟨gd_in (by decide +kernel) rfl, gd_in (by decide +kernel) rfl, gd_in (by decide +kernel) rfl, by decide +kernel, by decide +kernel, by decide +kernel⟩
/-- Math.floorMod -/
def fmd (x y : Int64) : Int64 := if (x ^^^ y) < 0 ∧ ¬ (x - x / y * y = 0) then x - x / y * y + y else x - x / y * y
def npk (k o : Nat) (g : Int64) : Int32 := if k = 0 then 0 else if 1 < k ∨ o = 0 then -1 else 1 + (fmd g (lN o)).toInt32
/-- the place that comes next of a key with function f, of whose row of r keys k were asked -/
def npl (fl : Int32) (f k r : Nat) (g : Int64) : Int32 := if ¬ fl = 0 ∨ r ≤ k then -1 else if f = 1 then (if g = 0 then nI k else -1) else if f = 2 then npk k (r - 1) g else nI k
/-- what is gathered when v comes -/
def tkG (f k : Nat) (g v : Int64) : Int64 := if f = 1 ∨ f = 2 then v else if f = 3 then (if k = 0 then v else if v = 0 then g else g / v) else if f = 5 then (if k = 0 then v else if v < g then g else v) else g + v
def tkF (f k : Nat) (fl : Int32) (v : Int64) : Int32 := if f = 3 ∧ ¬ k = 0 ∧ v = 0 then 1 else fl
def rsl (f : Nat) (g : Int64) : Int64 := if f = 4 then g &&& 1 else g
theorem up3_e {α : Type} (f : Nat → Nat → Nat → α) (c i k : Nat) : up3 f c i k (f c i k) = f := by
  funext a b d
  by_cases h : a = c ∧ b = i ∧ d = k
  · obtain ⟨rfl, rfl, rfl⟩ := h; rw [up3_s]
  · rw [up3_n f c i k _ h]
theorem up3_u {α : Type} (f : Nat → Nat → Nat → α) (c i k : Nat) (v w : α) : up3 (up3 f c i k v) c i k w = up3 f c i k w := by
  funext a b d
  by_cases h : a = c ∧ b = i ∧ d = k
  · obtain ⟨rfl, rfl, rfl⟩ := h; rw [up3_s, up3_s]
  · rw [up3_n _ c i k _ h, up3_n f c i k _ h, up3_n f c i k _ h]
theorem up3_c {α : Type} (f : Nat → Nat → Nat → α) (c i k : Nat) (v : α) {a b d : Nat} (h : a ≠ c) : up3 f c i k v a b d = f a b d := up3_n f c i k v (fun z => h z.1)
theorem up3_k {α : Type} (f : Nat → Nat → Nat → α) (c i k : Nat) (v : α) {a b d : Nat} (h : d ≠ k) : up3 f c i k v a b d = f a b d := up3_n f c i k v (fun z => h z.2.2)
theorem up3_i {α : Type} (f : Nat → Nat → Nat → α) (c i k : Nat) (v : α) {a b d : Nat} (h : b ≠ i) : up3 f c i k v a b d = f a b d := up3_n f c i k v (fun z => h z.2.1)
theorem nI_m1 {x : Nat} (h : 0 < x) : nI x - 1 = nI (x - 1) := by
  obtain ⟨k, rfl⟩ : ∃ k, x = k + 1 := ⟨x - 1, by omega⟩
  exact nI_pred k
theorem lg_ne {x y : Int64} : (¬ lg_cmp x y = 0) ↔ ¬ x = y := not_congr (lg_cmp_eq x y)
theorem x_drop {p : Program} {l : Launch} {e : Env} {Rm : Room} {s : State} {m : MethodId} {args : Array Value} {below : List Frame} {meth : Method} {c : Code} {Q : State → Prop} {D : va_G} {dA : Nat → ClassId} {base nL : Nat} {ad : Fa} {N : Nat → Nat} {I : Fi} {J : Fj} {R : Fr} {nc ns pc : Nat} {L L1 : List (Option Value)} {st : List Value} (k : Nat) (e1 : L.set k none = L1) (kk : GX p l e Rm s m args below meth c Q D dA base nL ad N I J R nc ns pc L1 st) : GX p l e Rm s m args below meth c Q D dA base nL ad N I J R nc ns pc L st := fun H locs ls hH hS hl => kk H locs ls hH hS ⟨hl.1, hl.2.1, fun j v hj => by
  subst e1
  by_cases h : j = k
  · subst h
    rw [List.getElem?_set] at hj
    simp only [if_true] at hj
    split at hj <;> simp at hj
  · rw [List.getElem?_set_ne (Ne.symm h)] at hj
    exact hl.2.2 j v hj⟩
/-- locals, stack and place by equal terms -/
theorem x_eqL {p : Program} {l : Launch} {e : Env} {Rm : Room} {s : State} {m : MethodId} {args : Array Value} {below : List Frame} {meth : Method} {c : Code} {Q : State → Prop} {D : va_G} {dA : Nat → ClassId} {base nL : Nat} {ad : Fa} {N : Nat → Nat} {I I1 : Fi} {J J1 : Fj} {R R1 : Fr} {nc ns pc pc1 : Nat} {L L1 : List (Option Value)} {st st1 : List Value} (kk : GX p l e Rm s m args below meth c Q D dA base nL ad N I1 J1 R1 nc ns pc1 L1 st1) (hp : pc = pc1) (hL : L = L1) (hst : st = st1) (hI : I = I1) (hJ : J = J1) (hR : R = R1) : GX p l e Rm s m args below meth c Q D dA base nL ad N I J R nc ns pc L st := by
  subst hp; subst hL; subst hst; subst hI; subst hJ; subst hR; exact kk
end
section
/-! leaves of the class: Key, Work -/
set_option maxRecDepth 100000 in
set_option maxHeartbeats 4000000 in
theorem c_X0_isLeaf (l : Launch) (D : va_G) (dA : Nat → ClassId) (base n : Nat) (ad : Fa) (I : Fi) (J : Fj) (R : Fr) (hT : ST n R) (i : Nat) (hi : i < n) : CT l D dA base yX0_isLeaf cX0_isLeaf 1 (some .boolean) 0 0 0 [.ref (ad 4 i)] ad (Nn n) I J R (po (some (.int (if I 4 i 1 = -1 then 1 else 0))) ad (Nn n) I J R) := by
  refine CT.of 0 (L0 := [some (.ref (ad 4 i))]) (by decide +kernel) rfl (Nat.le_of_ble_eq_true rfl) ?_
  intro p e s m args below meth c C
  refine x_aload_n C dX0_isLeaf_0 rfl ?_
  refine x_getI C f_X0_30 rfl (by first | assumption | exact Nat.one_pos) dX0_isLeaf_1 ?_
  refine x_iconst C (-1) (by decide) dX0_isLeaf_4 ?_
  refine x_icmp_ne C 12 dX0_isLeaf_5 (by decide) (fun h5 => ?_) (fun h5 => ?_)
  · skip
    refine x_iconst C 0 (by decide) dX0_isLeaf_12 ?_
    exact x_zret C (by first | exact Or.inl rfl | exact Or.inr rfl | assumption) (po_r (by simp_all)) dX0_isLeaf_13
  · skip
    refine x_iconst C 1 (by decide) dX0_isLeaf_8 ?_
    refine x_goto C 13 dX0_isLeaf_9 (by decide) ?_
    exact x_zret C (by first | exact Or.inl rfl | exact Or.inr rfl | assumption) (po_r (by simp_all)) dX0_isLeaf_13

def bit (x : Int64) (j : Nat) : Bool := decide (¬ x &&& (1 <<< ((nI j).toInt64 &&& 63)) = 0)
set_option maxRecDepth 100000 in
set_option maxHeartbeats 4000000 in
theorem c_X0_reaches (l : Launch) (D : va_G) (dA : Nat → ClassId) (base n : Nat) (ad : Fa) (I : Fi) (J : Fj) (R : Fr) (hT : ST n R) (i j : Nat) (hi : i < n) (hj : j < n) (hn : I 4 j 0 = nI j) : CT l D dA base yX0_reaches cX0_reaches 2 (some .boolean) 0 0 0 [.ref (ad 4 i), .ref (ad 4 j)] ad (Nn n) I J R (po (some (.int (if bit (J 4 i 4) j = true then 1 else 0))) ad (Nn n) I J R) := by
  refine CT.of 0 (L0 := [some (.ref (ad 4 i)), some (.ref (ad 4 j))]) (by decide +kernel) rfl (Nat.le_of_ble_eq_true rfl) ?_
  intro p e s m args below meth c C
  refine x_aload_n C dX0_reaches_0 rfl ?_
  refine x_getJ C f_X0_33 rfl (by first | assumption | exact Nat.one_pos) dX0_reaches_1 ?_
  refine x_lconst C 1 (by decide) dX0_reaches_4 ?_
  refine x_aload_n C dX0_reaches_5 rfl ?_
  refine x_getI C f_X0_26 rfl (by first | assumption | exact Nat.one_pos) dX0_reaches_6 ?_
  refine x_lshl C dX0_reaches_9 ?_
  refine x_land C dX0_reaches_10 ?_
  refine x_lconst C 0 (by decide) dX0_reaches_11 ?_
  refine x_lcmp C dX0_reaches_12 ?_
  refine x_if_eq C 20 dX0_reaches_13 (by decide) (fun h13 => ?_) (fun h13 => ?_)
  · skip
    refine x_iconst C 0 (by decide) dX0_reaches_20 ?_
    exact x_zret C (by first | exact Or.inl rfl | exact Or.inr rfl | assumption) (po_r (by rw [hn] at h13; simp only [bit, decide_eq_true_eq]; have h := lg_cmp_eq (J 4 i 4 &&& (1 <<< ((nI j).toInt64 &&& 63))) 0; simp_all)) dX0_reaches_21
  · skip
    refine x_iconst C 1 (by decide) dX0_reaches_16 ?_
    refine x_goto C 21 dX0_reaches_17 (by decide) ?_
    exact x_zret C (by first | exact Or.inl rfl | exact Or.inr rfl | assumption) (po_r (by rw [hn] at h13; simp only [bit, decide_eq_true_eq]; have h := lg_cmp_eq (J 4 i 4 &&& (1 <<< ((nI j).toInt64 &&& 63))) 0; simp_all)) dX0_reaches_21

set_option maxRecDepth 100000 in
set_option maxHeartbeats 4000000 in
theorem c_X0_rowKey_in (l : Launch) (D : va_G) (dA : Nat → ClassId) (base n : Nat) (ad : Fa) (I : Fi) (J : Fj) (R : Fr) (hT : ST n R) (i k r j : Nat) (hi : i < n) (hr : I 4 i 3 = nI r) (hk : k < r) (hr8 : r ≤ 8) (hR : R 5 i k = some j) : CT l D dA base yX0_rowKey cX0_rowKey 2 (some (.object "KeyGraph$Key")) 0 0 0 [.ref (ad 4 i), .int (nI k)] ad (Nn n) I J R (po (some (.ref (ad 4 j))) ad (Nn n) I J R) := by
  refine CT.of 0 (L0 := [some (.ref (ad 4 i)), some (.int (nI k))]) (by decide +kernel) rfl (Nat.le_of_ble_eq_true rfl) ?_
  intro p e s m args below meth c C
  refine x_iload_n C dX0_rowKey_0 rfl ?_
  refine x_if_lt C 12 dX0_rowKey_1 (by decide) (fun h1 => ?_) (fun h1 => ?_)
  · skip
    exact absurd h1 (nI_pos (by omega))
  · skip
    refine x_iload_n C dX0_rowKey_4 rfl ?_
    refine x_aload_n C dX0_rowKey_5 rfl ?_
    refine x_getI C f_X0_37 rfl (by first | assumption | exact Nat.one_pos) dX0_rowKey_6 ?_
    refine x_icmp_lt C 16 dX0_rowKey_9 (by decide) (fun h9 => ?_) (fun h9 => ?_)
    · skip
      refine x_aload_n C dX0_rowKey_16 rfl ?_
      refine x_getF C hT f_X0_11 rfl rfl (by first | assumption | exact Nat.one_pos) dX0_rowKey_17 ?_
      refine x_iload_n C dX0_rowKey_20 rfl ?_
      refine x_aaldS C (k) rfl rfl rfl rfl (by first | assumption | exact Nat.one_pos) (by omega) (by decide) hR dX0_rowKey_21 ?_
      exact x_aret C (Or.inl ⟨_, rfl⟩) (Or.inr ⟨_, rfl⟩) (po_i _ _ _ _ _ _) dX0_rowKey_22
    · skip
      rw [hr] at h9
      exact absurd (nI_lt hk (by omega)) h9

set_option maxRecDepth 100000 in
set_option maxHeartbeats 4000000 in
theorem c_X0_rowKey_out (l : Launch) (D : va_G) (dA : Nat → ClassId) (base n : Nat) (ad : Fa) (I : Fi) (J : Fj) (R : Fr) (hT : ST n R) (i r : Nat) (x : Int32) (hi : i < n) (hr : I 4 i 3 = nI r) (hx : x < 0 ∨ nI r ≤ x) : CT l D dA base yX0_rowKey cX0_rowKey 2 (some (.object "KeyGraph$Key")) 0 0 0 [.ref (ad 4 i), .int x] ad (Nn n) I J R (po (some .null) ad (Nn n) I J R) := by
  refine CT.of 0 (L0 := [some (.ref (ad 4 i)), some (.int x)]) (by decide +kernel) rfl (Nat.le_of_ble_eq_true rfl) ?_
  intro p e s m args below meth c C
  refine x_iload_n C dX0_rowKey_0 rfl ?_
  refine x_if_lt C 12 dX0_rowKey_1 (by decide) (fun h1 => ?_) (fun h1 => ?_)
  · skip
    refine x_null C dX0_rowKey_12 ?_
    refine x_goto C 22 dX0_rowKey_13 (by decide) ?_
    exact x_aret C (Or.inl ⟨_, rfl⟩) (Or.inl rfl) (po_i _ _ _ _ _ _) dX0_rowKey_22
  · skip
    refine x_iload_n C dX0_rowKey_4 rfl ?_
    refine x_aload_n C dX0_rowKey_5 rfl ?_
    refine x_getI C f_X0_37 rfl (by first | assumption | exact Nat.one_pos) dX0_rowKey_6 ?_
    refine x_icmp_lt C 16 dX0_rowKey_9 (by decide) (fun h9 => ?_) (fun h9 => ?_)
    · skip
      rw [hr] at h9
      exact absurd h9 (hx.elim (fun q => absurd q h1) (fun q => Int32.not_lt.mpr q))
    · skip
      refine x_null C dX0_rowKey_12 ?_
      refine x_goto C 22 dX0_rowKey_13 (by decide) ?_
      exact x_aret C (Or.inl ⟨_, rfl⟩) (Or.inl rfl) (po_i _ _ _ _ _ _) dX0_rowKey_22

set_option maxRecDepth 100000 in
set_option maxHeartbeats 4000000 in
theorem c_X0_askedPlace_in (l : Launch) (D : va_G) (dA : Nat → ClassId) (base n : Nat) (ad : Fa) (I : Fi) (J : Fj) (R : Fr) (hT : ST n R) (i k r : Nat) (hi : i < n) (hr : I 4 i 13 = nI r) (hk : k < r) (hr8 : r ≤ 8) : CT l D dA base yX0_askedPlace cX0_askedPlace 2 (some .int) 0 0 0 [.ref (ad 4 i), .int (nI k)] ad (Nn n) I J R (po (some (.int (I 6 i k))) ad (Nn n) I J R) := by
  refine CT.of 0 (L0 := [some (.ref (ad 4 i)), some (.int (nI k))]) (by decide +kernel) rfl (Nat.le_of_ble_eq_true rfl) ?_
  intro p e s m args below meth c C
  refine x_iload_n C dX0_askedPlace_0 rfl ?_
  refine x_if_lt C 12 dX0_askedPlace_1 (by decide) (fun h1 => ?_) (fun h1 => ?_)
  · skip
    exact absurd h1 (nI_pos (by omega))
  · skip
    refine x_iload_n C dX0_askedPlace_4 rfl ?_
    refine x_aload_n C dX0_askedPlace_5 rfl ?_
    refine x_getI C f_X0_48 rfl (by first | assumption | exact Nat.one_pos) dX0_askedPlace_6 ?_
    refine x_icmp_lt C 16 dX0_askedPlace_9 (by decide) (fun h9 => ?_) (fun h9 => ?_)
    · skip
      refine x_aload_n C dX0_askedPlace_16 rfl ?_
      refine x_getF C hT f_X0_15 rfl rfl (by first | assumption | exact Nat.one_pos) dX0_askedPlace_17 ?_
      refine x_iload_n C dX0_askedPlace_20 rfl ?_
      refine x_ialdN C (k) rfl rfl rfl (by first | assumption | exact Nat.one_pos) (by omega) (by decide) dX0_askedPlace_21 ?_
      exact x_iret C (po_i _ _ _ _ _ _) dX0_askedPlace_22
    · skip
      rw [hr] at h9
      exact absurd (nI_lt hk (by omega)) h9

set_option maxRecDepth 100000 in
set_option maxHeartbeats 4000000 in
theorem c_X0_askedPlace_out (l : Launch) (D : va_G) (dA : Nat → ClassId) (base n : Nat) (ad : Fa) (I : Fi) (J : Fj) (R : Fr) (hT : ST n R) (i r : Nat) (x : Int32) (hi : i < n) (hr : I 4 i 13 = nI r) (hx : x < 0 ∨ nI r ≤ x) : CT l D dA base yX0_askedPlace cX0_askedPlace 2 (some .int) 0 0 0 [.ref (ad 4 i), .int x] ad (Nn n) I J R (po (some (.int (-1))) ad (Nn n) I J R) := by
  refine CT.of 0 (L0 := [some (.ref (ad 4 i)), some (.int x)]) (by decide +kernel) rfl (Nat.le_of_ble_eq_true rfl) ?_
  intro p e s m args below meth c C
  refine x_iload_n C dX0_askedPlace_0 rfl ?_
  refine x_if_lt C 12 dX0_askedPlace_1 (by decide) (fun h1 => ?_) (fun h1 => ?_)
  · skip
    refine x_iconst C (-1) (by decide) dX0_askedPlace_12 ?_
    refine x_goto C 22 dX0_askedPlace_13 (by decide) ?_
    exact x_iret C (po_i _ _ _ _ _ _) dX0_askedPlace_22
  · skip
    refine x_iload_n C dX0_askedPlace_4 rfl ?_
    refine x_aload_n C dX0_askedPlace_5 rfl ?_
    refine x_getI C f_X0_48 rfl (by first | assumption | exact Nat.one_pos) dX0_askedPlace_6 ?_
    refine x_icmp_lt C 16 dX0_askedPlace_9 (by decide) (fun h9 => ?_) (fun h9 => ?_)
    · skip
      rw [hr] at h9
      exact absurd h9 (hx.elim (fun q => absurd q h1) (fun q => Int32.not_lt.mpr q))
    · skip
      refine x_iconst C (-1) (by decide) dX0_askedPlace_12 ?_
      refine x_goto C 22 dX0_askedPlace_13 (by decide) ?_
      exact x_iret C (po_i _ _ _ _ _ _) dX0_askedPlace_22

/-- what startWorking sets -/
def swI (I : Fi) (i : Nat) : Fi := up3 (up3 (up3 I 7 i 0 0) 7 i 1 0) 7 i 4 (if ¬ I 4 i 5 = 0 ∨ (I 4 i 1 = 5 ∧ I 4 i 3 = 0) then 1 else 0)
def stI (I : Fi) (i : Nat) : Fi := up3 (swI I i) 7 i 0 (if ¬ I 4 i 10 = 0 ∧ I 4 i 6 ≤ I 4 i 11 then 1 else 0)
theorem swI_4 (I : Fi) (i j k : Nat) : swI I i 4 j k = I 4 j k := by simp [swI, up3]
set_option maxRecDepth 100000 in
set_option maxHeartbeats 4000000 in
theorem c_X2_startWorking (l : Launch) (D : va_G) (dA : Nat → ClassId) (base n : Nat) (ad : Fa) (I : Fi) (J : Fj) (R : Fr) (hT : ST n R) (i : Nat) (hi : i < n) : CT l D dA base yX2_startWorking cX2_startWorking 2 none 0 0 0 [.ref (ad 7 i), .ref (ad 4 i)] ad (Nn n) I J R (po none ad (Nn n) (swI I i) (up3 J 7 i 3 0) R) := by
  refine CT.of 0 (L0 := [some (.ref (ad 7 i)), some (.ref (ad 4 i))]) (by decide +kernel) rfl (Nat.le_of_ble_eq_true rfl) ?_
  intro p e s m args below meth c C
  refine x_aload_n C dX2_startWorking_0 rfl ?_
  refine x_iconst C 0 (by decide) dX2_startWorking_1 ?_
  refine x_putZ C g_X2_32 rfl (by first | assumption | exact Nat.one_pos) (by first | exact Or.inl rfl | exact Or.inr rfl | assumption) dX2_startWorking_2 ?_
  refine x_aload_n C dX2_startWorking_5 rfl ?_
  refine x_iconst C 0 (by decide) dX2_startWorking_6 ?_
  refine x_putI C g_X2_35 rfl (by first | assumption | exact Nat.one_pos) dX2_startWorking_7 ?_
  refine x_aload_n C dX2_startWorking_10 rfl ?_
  refine x_lconst C 0 (by decide) dX2_startWorking_11 ?_
  refine x_putJ C g_X2_38 rfl (by first | assumption | exact Nat.one_pos) dX2_startWorking_12 ?_
  refine x_aload_n C dX2_startWorking_15 rfl ?_
  refine x_aload_n C dX2_startWorking_16 rfl ?_
  refine x_getI C f_X2_42 rfl (by first | assumption | exact Nat.one_pos) dX2_startWorking_17 ?_
  refine x_if_ne C 38 dX2_startWorking_20 (by decide) (fun h20 => ?_) (fun h20 => ?_)
  · skip
    refine x_iconst C 1 (by decide) dX2_startWorking_38 ?_
    refine x_goto C 43 dX2_startWorking_39 (by decide) ?_
    refine x_putZ C g_X2_51 rfl (by first | assumption | exact Nat.one_pos) (by first | exact Or.inl rfl | exact Or.inr rfl | assumption) dX2_startWorking_43 ?_
    exact x_vret C (⟨rfl, rfl, rfl, by (unfold swI; congr 1; simp_all [up3]), rfl, rfl⟩) dX2_startWorking_46
  · skip
    refine x_aload_n C dX2_startWorking_23 rfl ?_
    refine x_getI C f_X2_45 rfl (by first | assumption | exact Nat.one_pos) dX2_startWorking_24 ?_
    refine x_iconst C 5 (by decide) dX2_startWorking_27 ?_
    refine x_icmp_ne C 42 dX2_startWorking_28 (by decide) (fun h28 => ?_) (fun h28 => ?_)
    · skip
      refine x_iconst C 0 (by decide) dX2_startWorking_42 ?_
      refine x_putZ C g_X2_51 rfl (by first | assumption | exact Nat.one_pos) (by first | exact Or.inl rfl | exact Or.inr rfl | assumption) dX2_startWorking_43 ?_
      exact x_vret C (⟨rfl, rfl, rfl, by (unfold swI; congr 1; simp_all [up3]), rfl, rfl⟩) dX2_startWorking_46
    · skip
      refine x_aload_n C dX2_startWorking_31 rfl ?_
      refine x_getI C f_X2_48 rfl (by first | assumption | exact Nat.one_pos) dX2_startWorking_32 ?_
      refine x_if_ne C 42 dX2_startWorking_35 (by decide) (fun h35 => ?_) (fun h35 => ?_)
      · skip
        refine x_iconst C 0 (by decide) dX2_startWorking_42 ?_
        refine x_putZ C g_X2_51 rfl (by first | assumption | exact Nat.one_pos) (by first | exact Or.inl rfl | exact Or.inr rfl | assumption) dX2_startWorking_43 ?_
        exact x_vret C (⟨rfl, rfl, rfl, by (unfold swI; congr 1; simp_all [up3]), rfl, rfl⟩) dX2_startWorking_46
      · skip
        refine x_iconst C 1 (by decide) dX2_startWorking_38 ?_
        refine x_goto C 43 dX2_startWorking_39 (by decide) ?_
        refine x_putZ C g_X2_51 rfl (by first | assumption | exact Nat.one_pos) (by first | exact Or.inl rfl | exact Or.inr rfl | assumption) dX2_startWorking_43 ?_
        exact x_vret C (⟨rfl, rfl, rfl, by (unfold swI; congr 1; simp_all [up3]), rfl, rfl⟩) dX2_startWorking_46

set_option maxRecDepth 100000 in
set_option maxHeartbeats 4000000 in
theorem c_X2_start (l : Launch) (D : va_G) (dA : Nat → ClassId) (base n : Nat) (ad : Fa) (I : Fi) (J : Fj) (R : Fr) (hT : ST n R) (i : Nat) (hi : i < n) : CT l D dA base yX2_start cX2_start 2 none 1 0 0 [.ref (ad 7 i), .ref (ad 4 i)] ad (Nn n) I J R (po none ad (Nn n) (stI I i) (up3 J 7 i 3 0) R) := by
  refine CT.of 0 (L0 := [some (.ref (ad 7 i)), some (.ref (ad 4 i))]) (by decide +kernel) rfl (Nat.le_of_ble_eq_true rfl) ?_
  intro p e s m args below meth c C
  refine x_aload_n C dX2_start_0 rfl ?_
  refine x_aload_n C dX2_start_1 rfl ?_
  refine x_cV0 C yo_X2_startWorking m_X2_15 rfl rfl (by first | assumption | exact Nat.one_pos) (c_X2_startWorking l D dA base n ad I J R hT i hi) dX2_start_2 rfl rfl (Nat.le_of_ble_eq_true rfl) ⟨by decide, by decide⟩ ⟨by decide, by decide⟩ ?_
  refine x_aload_n C dX2_start_5 rfl ?_
  refine x_aload_n C dX2_start_6 rfl ?_
  refine x_getI C f_X2_19 rfl (by first | assumption | exact Nat.one_pos) dX2_start_7 ?_
  refine x_if_eq C 28 dX2_start_10 (by decide) (fun h10 => ?_) (fun h10 => ?_)
  · skip
    refine x_iconst C 0 (by decide) dX2_start_28 ?_
    refine x_putZ C g_X2_32 rfl (by first | assumption | exact Nat.one_pos) (by first | exact Or.inl rfl | exact Or.inr rfl | assumption) dX2_start_29 ?_
    exact x_vret C (⟨rfl, rfl, rfl, by (unfold stI; congr 1; simp_all [swI_4]), rfl, rfl⟩) dX2_start_32
  · skip
    refine x_aload_n C dX2_start_13 rfl ?_
    refine x_getI C f_X2_25 rfl (by first | assumption | exact Nat.one_pos) dX2_start_14 ?_
    refine x_aload_n C dX2_start_17 rfl ?_
    refine x_getI C f_X2_29 rfl (by first | assumption | exact Nat.one_pos) dX2_start_18 ?_
    refine x_icmp_gt C 28 dX2_start_21 (by decide) (fun h21 => ?_) (fun h21 => ?_)
    · skip
      refine x_iconst C 0 (by decide) dX2_start_28 ?_
      refine x_putZ C g_X2_32 rfl (by first | assumption | exact Nat.one_pos) (by first | exact Or.inl rfl | exact Or.inr rfl | assumption) dX2_start_29 ?_
      exact x_vret C (⟨rfl, rfl, rfl, by (unfold stI; congr 1; simp_all [swI_4]), rfl, rfl⟩) dX2_start_32
    · skip
      refine x_iconst C 1 (by decide) dX2_start_24 ?_
      refine x_goto C 29 dX2_start_25 (by decide) ?_
      refine x_putZ C g_X2_32 rfl (by first | assumption | exact Nat.one_pos) (by first | exact Or.inl rfl | exact Or.inr rfl | assumption) dX2_start_29 ?_
      exact x_vret C (⟨rfl, rfl, rfl, by (unfold stI; congr 1; simp_all [swI_4]), rfl, rfl⟩) dX2_start_32

theorem CT.ofF {l : Launch} {D : va_G} {dA : Nat → ClassId} {base : Nat} {y : MethodName} {cc : ByteArray} {maxL : Nat} {ret : Option FieldType} {d mc ms : Nat} {as : List Value} {ad : Fa} {N : Nat → Nat} {I : Fi} {J : Fj} {R : Fr} {post : Po} (t : Nat) {L0 : List (Option Value)} (hy : plainFor y = true) (hL : argL as ++ List.replicate t none = L0) (hlen : (lg_sl as).length ≤ maxL)
    (body : ∀ (p : Program) (e : Env) (s : State) (m : MethodId) (args : Array Value) (below : List Frame) (meth : Method) (c : Code), CX p s m args meth c cc maxL y.cls ret D dA base → GX p l e (rmX d mc ms) s m args below meth c (MQ below (CQ D dA base post) args s mc ms (fun q => base ≤ q)) D dA base maxL ad N I J R 0 0 0 L0 []) : CT l D dA base y cc maxL ret d mc ms as ad N I J R post := by
  refine va_MetF (cc := cc) (maxL := maxL) (ret := ret) hy rfl ?_
  intro p e s m args below meth c s₁ B hml hv
  obtain ⟨rfl, hb, hH, hK⟩ := hv
  have hts := atoms_spec (ws := Cond.code y cc maxL ret :: lw_gd) B.pre
  have C : CX p s m as.toArray meth c cc maxL y.cls ret D dA base := ⟨B.exec, B.bytes, hml, findClass_of_methodNamed B.named, fun w h => hts w (List.mem_cons_of_mem _ h), hK, hb, B.returns, B.notSynchronized⟩
  rw [lg_entry_eq]
  exact body p e s m _ below meth c C s.heap [] _ hH va_S.rf (hL ▸ LVx.entry as t hlen)
set_option maxRecDepth 100000 in
set_option maxHeartbeats 4000000 in
theorem c_floorMod (l : Launch) (D : va_G) (dA : Nat → ClassId) (base n : Nat) (ad : Fa) (I : Fi) (J : Fj) (R : Fr) (x y : Int64) (hy : ¬ y = 0) : CT l D dA base yJ9_floorMod_f86c9 cJ9_floorMod_f86c9 6 (some .long) 0 0 0 [.long x, .long y] ad (Nn n) I J R (po (some (.long (fmd x y))) ad (Nn n) I J R) := by
  refine CT.ofF 2 (L0 := [some (.long x), none, some (.long y), none, none, none]) (by decide +kernel) rfl (Nat.le_of_ble_eq_true rfl) ?_
  intro p e s m args below meth c C
  refine x_lload_n C dJ9_floorMod_f86c9_0 rfl ?_
  refine x_lload_n C dJ9_floorMod_f86c9_1 rfl ?_
  refine x_lrem C hy dJ9_floorMod_f86c9_2 ?_
  refine x_lstore C dJ9_floorMod_f86c9_3 (by decide) rfl rfl ?_
  refine x_lload_n C dJ9_floorMod_f86c9_5 rfl ?_
  refine x_lload_n C dJ9_floorMod_f86c9_6 rfl ?_
  refine x_lxor C dJ9_floorMod_f86c9_7 ?_
  refine x_lconst C 0 (by decide) dJ9_floorMod_f86c9_8 ?_
  refine x_lcmp C dJ9_floorMod_f86c9_9 ?_
  refine x_if_ge C 25 dJ9_floorMod_f86c9_10 (by decide) (fun h10 => ?_) (fun h10 => ?_)
  · skip
    rw [lg_cmp_ge] at h10
    refine x_lload C dJ9_floorMod_f86c9_25 rfl ?_
    exact x_lret C (po_r (by unfold fmd; rw [if_neg (fun z => absurd z.1 (Int64.not_lt.mpr h10))])) dJ9_floorMod_f86c9_27
  · skip
    rw [lg_cmp_ge] at h10
    refine x_lload C dJ9_floorMod_f86c9_13 rfl ?_
    refine x_lconst C 0 (by decide) dJ9_floorMod_f86c9_15 ?_
    refine x_lcmp C dJ9_floorMod_f86c9_16 ?_
    refine x_if_eq C 25 dJ9_floorMod_f86c9_17 (by decide) (fun h17 => ?_) (fun h17 => ?_)
    · skip
      rw [lg_cmp_eq] at h17
      refine x_lload C dJ9_floorMod_f86c9_25 rfl ?_
      exact x_lret C (po_r (by unfold fmd; rw [if_neg (fun z => z.2 h17)])) dJ9_floorMod_f86c9_27
    · skip
      rw [lg_cmp_eq] at h17
      refine x_lload C dJ9_floorMod_f86c9_20 rfl ?_
      refine x_lload_n C dJ9_floorMod_f86c9_22 rfl ?_
      refine x_ladd C dJ9_floorMod_f86c9_23 ?_
      exact x_lret C (po_r (by unfold fmd; rw [if_pos ⟨Int64.not_le.mp h10, h17⟩])) dJ9_floorMod_f86c9_24

set_option maxRecDepth 100000 in
set_option maxHeartbeats 4000000 in
theorem c_X2_nextPick (l : Launch) (D : va_G) (dA : Nat → ClassId) (base n : Nat) (ad : Fa) (I : Fi) (J : Fj) (R : Fr) (hT : ST n R) (i k oo : Nat) (hi : i < n) (hk : I 7 i 1 = nI k) (hk8 : k ≤ 8) (ho : oo ≤ 8) : CT l D dA base yX2_nextPick cX2_nextPick 2 (some .int) 1 0 0 [.ref (ad 7 i), .int (nI oo)] ad (Nn n) I J R (po (some (.int (npk k oo (J 7 i 3)))) ad (Nn n) I J R) := by
  refine CT.of 0 (L0 := [some (.ref (ad 7 i)), some (.int (nI oo))]) (by decide +kernel) rfl (Nat.le_of_ble_eq_true rfl) ?_
  intro p e s m args below meth c C
  refine x_aload_n C dX2_nextPick_0 rfl ?_
  refine x_getI C f_X2_35 rfl (by first | assumption | exact Nat.one_pos) dX2_nextPick_1 ?_
  refine x_if_ne C 9 dX2_nextPick_4 (by decide) (fun h4 => ?_) (fun h4 => ?_)
  · skip
    have q4 : ¬ k = 0 := fun z => h4 (by rw [hk, z]; rfl)
    refine x_aload_n C dX2_nextPick_9 rfl ?_
    refine x_getI C f_X2_35 rfl (by first | assumption | exact Nat.one_pos) dX2_nextPick_10 ?_
    refine x_iconst C 1 (by decide) dX2_nextPick_13 ?_
    refine x_icmp_gt C 21 dX2_nextPick_14 (by decide) (fun h14 => ?_) (fun h14 => ?_)
    · skip
      have q14 : 1 < k := (nI_ltI (a := 1) (by omega) (by omega)).mp (by rw [← hk]; exact h14)
      refine x_iconst C (-1) (by decide) dX2_nextPick_21 ?_
      exact x_iret C (po_r (by unfold npk; rw [if_neg q4, if_pos (Or.inl q14)])) dX2_nextPick_22
    · skip
      have q14 : ¬ 1 < k := fun z => h14 (by rw [hk]; exact nI_lt (a := 1) z (by omega))
      refine x_iload_n C dX2_nextPick_17 rfl ?_
      refine x_if_gt C 23 dX2_nextPick_18 (by decide) (fun h18 => ?_) (fun h18 => ?_)
      · skip
        have q18 : ¬ oo = 0 := fun z => absurd h18 (by rw [z]; decide)
        refine x_iconst C 1 (by decide) dX2_nextPick_23 ?_
        refine x_aload_n C dX2_nextPick_24 rfl ?_
        refine x_getJ C f_X2_38 rfl (by first | assumption | exact Nat.one_pos) dX2_nextPick_25 ?_
        refine x_iload_n C dX2_nextPick_28 rfl ?_
        refine x_i2l C dX2_nextPick_29 ?_
        rw [nI_l (show oo < 2 ^ 31 by omega)]
        refine x_cO1 C yo_floorMod m_X2_58 (c_floorMod l D dA base n ad I J R (J 7 i 3) (lN oo) (fun z => q18 ((lN_eq (by omega) (by decide)).mp z))) dX2_nextPick_30 rfl rfl (by decide) ⟨by decide, by decide⟩ ⟨by decide, by decide⟩ ?_
        refine x_l2i C dX2_nextPick_33 ?_
        refine x_iadd C dX2_nextPick_34 ?_
        exact x_iret C (po_r (by unfold npk; rw [if_neg q4, if_neg (by omega)])) dX2_nextPick_35
      · skip
        have q18 : oo = 0 := (Nat.eq_zero_or_pos oo).elim id (fun z => absurd (nI_lt (a := 0) z (by omega)) h18)
        refine x_iconst C (-1) (by decide) dX2_nextPick_21 ?_
        exact x_iret C (po_r (by unfold npk; rw [if_neg q4, if_pos (Or.inr q18)])) dX2_nextPick_22
  · skip
    have q4 : k = 0 := (nI_eq (by omega) (by omega)).mp (hk.symm.trans (h4.trans nI_0.symm))
    refine x_iconst C 0 (by decide) dX2_nextPick_7 ?_
    exact x_iret C (po_r (by unfold npk; rw [if_pos q4])) dX2_nextPick_8

set_option maxRecDepth 100000 in
set_option maxHeartbeats 4000000 in
theorem c_X2_nextPlace (l : Launch) (D : va_G) (dA : Nat → ClassId) (base n : Nat) (ad : Fa) (I : Fi) (J : Fj) (R : Fr) (hT : ST n R) (i f k r : Nat) (hi : i < n) (hf : I 4 i 1 = nI f) (hf6 : f < 6) (hk : I 7 i 1 = nI k) (hk8 : k ≤ 8) (hr : I 4 i 3 = nI r) (hr8 : r ≤ 8) : CT l D dA base yX2_nextPlace cX2_nextPlace 2 (some .int) 2 0 0 [.ref (ad 7 i), .ref (ad 4 i)] ad (Nn n) I J R (po (some (.int (npl (I 7 i 4) f k r (J 7 i 3)))) ad (Nn n) I J R) := by
  refine CT.of 0 (L0 := [some (.ref (ad 7 i)), some (.ref (ad 4 i))]) (by decide +kernel) rfl (Nat.le_of_ble_eq_true rfl) ?_
  intro p e s m args below meth c C
  refine x_aload_n C dX2_nextPlace_0 rfl ?_
  refine x_getI C f_X2_51 rfl (by first | assumption | exact Nat.one_pos) dX2_nextPlace_1 ?_
  refine x_if_ne C 18 dX2_nextPlace_4 (by decide) (fun h4 => ?_) (fun h4 => ?_)
  · skip
    refine x_iconst C (-1) (by decide) dX2_nextPlace_18 ?_
    exact x_iret C (po_r (by unfold npl; rw [if_pos (Or.inl h4)])) dX2_nextPlace_19
  · skip
    refine x_aload_n C dX2_nextPlace_7 rfl ?_
    refine x_getI C f_X2_35 rfl (by first | assumption | exact Nat.one_pos) dX2_nextPlace_8 ?_
    refine x_aload_n C dX2_nextPlace_11 rfl ?_
    refine x_getI C f_X2_48 rfl (by first | assumption | exact Nat.one_pos) dX2_nextPlace_12 ?_
    refine x_icmp_lt C 20 dX2_nextPlace_15 (by decide) (fun h15 => ?_) (fun h15 => ?_)
    · skip
      rw [hk, hr] at h15
      have q15 : k < r := (nI_ltI (by omega) (by omega)).mp h15
      rcases (show f = 0 ∨ f = 1 ∨ f = 2 ∨ f = 3 ∨ f = 4 ∨ f = 5 by omega) with rfl | rfl | rfl | rfl | rfl | rfl
      · skip
        refine x_aload_n C dX2_nextPlace_20 rfl ?_
        refine x_getI C f_X2_45 rfl (by first | assumption | exact Nat.one_pos) dX2_nextPlace_21 ?_
        refine x_lookup C 81 dX2_nextPlace_24 rfl (by rw [hf]) (by decide) ?_
        refine x_aload_n C dX2_nextPlace_81 rfl ?_
        refine x_getI C f_X2_35 rfl (by first | assumption | exact Nat.one_pos) dX2_nextPlace_82 ?_
        exact x_iret C (po_r (by unfold npl; rw [if_neg (fun z => z.elim (fun w => w h4) (fun w => absurd q15 (Nat.not_lt.mpr w)))]; rw [hk]; rfl)) dX2_nextPlace_85
      · skip
        refine x_aload_n C dX2_nextPlace_20 rfl ?_
        refine x_getI C f_X2_45 rfl (by first | assumption | exact Nat.one_pos) dX2_nextPlace_21 ?_
        refine x_lookup C 52 dX2_nextPlace_24 rfl (by rw [hf]) (by decide) ?_
        refine x_aload_n C dX2_nextPlace_52 rfl ?_
        refine x_getJ C f_X2_38 rfl (by first | assumption | exact Nat.one_pos) dX2_nextPlace_53 ?_
        refine x_lconst C 0 (by decide) dX2_nextPlace_56 ?_
        refine x_lcmp C dX2_nextPlace_57 ?_
        refine x_if_ne C 68 dX2_nextPlace_58 (by decide) (fun h58 => ?_) (fun h58 => ?_)
        · skip
          rw [lg_ne] at h58
          refine x_iconst C (-1) (by decide) dX2_nextPlace_68 ?_
          exact x_iret C (po_r (by unfold npl; rw [if_neg (fun z => z.elim (fun w => w h4) (fun w => absurd q15 (Nat.not_lt.mpr w)))]; simp_all)) dX2_nextPlace_69
        · skip
          rw [lg_cmp_eq] at h58
          refine x_aload_n C dX2_nextPlace_61 rfl ?_
          refine x_getI C f_X2_35 rfl (by first | assumption | exact Nat.one_pos) dX2_nextPlace_62 ?_
          refine x_goto C 69 dX2_nextPlace_65 (by decide) ?_
          exact x_iret C (po_r (by unfold npl; rw [if_neg (fun z => z.elim (fun w => w h4) (fun w => absurd q15 (Nat.not_lt.mpr w)))]; simp_all)) dX2_nextPlace_69
      · skip
        refine x_aload_n C dX2_nextPlace_20 rfl ?_
        refine x_getI C f_X2_45 rfl (by first | assumption | exact Nat.one_pos) dX2_nextPlace_21 ?_
        refine x_lookup C 70 dX2_nextPlace_24 rfl (by rw [hf]) (by decide) ?_
        refine x_aload_n C dX2_nextPlace_70 rfl ?_
        refine x_aload_n C dX2_nextPlace_71 rfl ?_
        refine x_getI C f_X2_48 rfl (by first | assumption | exact Nat.one_pos) dX2_nextPlace_72 ?_
        refine x_iconst C 1 (by decide) dX2_nextPlace_75 ?_
        refine x_isub C dX2_nextPlace_76 ?_
        rw [hr, nI_m1 (by omega)]
        refine x_cV1 C yo_X2_nextPick m_X2_54 rfl rfl (by first | assumption | exact Nat.one_pos) (c_X2_nextPick l D dA base n ad I J R hT i k (r - 1) hi hk hk8 (by omega)) dX2_nextPlace_77 rfl rfl (Nat.le_of_ble_eq_true rfl) ⟨by decide, by decide⟩ ⟨by decide, by decide⟩ ?_
        exact x_iret C (po_r (by unfold npl; rw [if_neg (fun z => z.elim (fun w => w h4) (fun w => absurd q15 (Nat.not_lt.mpr w)))]; rfl)) dX2_nextPlace_80
      · skip
        refine x_aload_n C dX2_nextPlace_20 rfl ?_
        refine x_getI C f_X2_45 rfl (by first | assumption | exact Nat.one_pos) dX2_nextPlace_21 ?_
        refine x_lookup C 81 dX2_nextPlace_24 rfl (by rw [hf]) (by decide) ?_
        refine x_aload_n C dX2_nextPlace_81 rfl ?_
        refine x_getI C f_X2_35 rfl (by first | assumption | exact Nat.one_pos) dX2_nextPlace_82 ?_
        exact x_iret C (po_r (by unfold npl; rw [if_neg (fun z => z.elim (fun w => w h4) (fun w => absurd q15 (Nat.not_lt.mpr w)))]; rw [hk]; rfl)) dX2_nextPlace_85
      · skip
        refine x_aload_n C dX2_nextPlace_20 rfl ?_
        refine x_getI C f_X2_45 rfl (by first | assumption | exact Nat.one_pos) dX2_nextPlace_21 ?_
        refine x_lookup C 81 dX2_nextPlace_24 rfl (by rw [hf]) (by decide) ?_
        refine x_aload_n C dX2_nextPlace_81 rfl ?_
        refine x_getI C f_X2_35 rfl (by first | assumption | exact Nat.one_pos) dX2_nextPlace_82 ?_
        exact x_iret C (po_r (by unfold npl; rw [if_neg (fun z => z.elim (fun w => w h4) (fun w => absurd q15 (Nat.not_lt.mpr w)))]; rw [hk]; rfl)) dX2_nextPlace_85
      · skip
        refine x_aload_n C dX2_nextPlace_20 rfl ?_
        refine x_getI C f_X2_45 rfl (by first | assumption | exact Nat.one_pos) dX2_nextPlace_21 ?_
        refine x_lookup C 81 dX2_nextPlace_24 rfl (by rw [hf]) (by decide) ?_
        refine x_aload_n C dX2_nextPlace_81 rfl ?_
        refine x_getI C f_X2_35 rfl (by first | assumption | exact Nat.one_pos) dX2_nextPlace_82 ?_
        exact x_iret C (po_r (by unfold npl; rw [if_neg (fun z => z.elim (fun w => w h4) (fun w => absurd q15 (Nat.not_lt.mpr w)))]; rw [hk]; rfl)) dX2_nextPlace_85
    · skip
      rw [hk, hr] at h15
      have q15 : r ≤ k := Nat.not_lt.mp (fun z => h15 ((nI_ltI (by omega) (by omega)).mpr z))
      refine x_iconst C (-1) (by decide) dX2_nextPlace_18 ?_
      exact x_iret C (po_r (by unfold npl; rw [if_pos (Or.inr q15)])) dX2_nextPlace_19

set_option maxRecDepth 100000 in
set_option maxHeartbeats 4000000 in
theorem c_X2_divide (l : Launch) (D : va_G) (dA : Nat → ClassId) (base n : Nat) (ad : Fa) (I : Fi) (J : Fj) (R : Fr) (hT : ST n R) (i k : Nat) (v : Int64) (hi : i < n) (hk : I 7 i 1 = nI k) (hk8 : k ≤ 8) : CT l D dA base yX2_divide cX2_divide 3 none 0 0 0 [.ref (ad 7 i), .long v] ad (Nn n) I J R (po none ad (Nn n) (up3 I 7 i 4 (tkF 3 k (I 7 i 4) v)) (up3 J 7 i 3 (tkG 3 k (J 7 i 3) v)) R) := by
  refine CT.of 0 (L0 := [some (.ref (ad 7 i)), some (.long v), none]) (by decide +kernel) rfl (Nat.le_of_ble_eq_true rfl) ?_
  intro p e s m args below meth c C
  refine x_aload_n C dX2_divide_0 rfl ?_
  refine x_getI C f_X2_35 rfl (by first | assumption | exact Nat.one_pos) dX2_divide_1 ?_
  refine x_if_ne C 15 dX2_divide_4 (by decide) (fun h4 => ?_) (fun h4 => ?_)
  · skip
    have q4 : ¬ k = 0 := fun z => h4 (by rw [hk, z]; rfl)
    refine x_lload_n C dX2_divide_15 rfl ?_
    refine x_lconst C 0 (by decide) dX2_divide_16 ?_
    refine x_lcmp C dX2_divide_17 ?_
    refine x_if_ne C 29 dX2_divide_18 (by decide) (fun h18 => ?_) (fun h18 => ?_)
    · skip
      rw [lg_ne] at h18
      refine x_aload_n C dX2_divide_29 rfl ?_
      refine x_dup C rfl dX2_divide_30 ?_
      refine x_getJ C f_X2_38 rfl (by first | assumption | exact Nat.one_pos) dX2_divide_31 ?_
      refine x_lload_n C dX2_divide_34 rfl ?_
      refine x_ldiv C h18 dX2_divide_35 ?_
      refine x_putJ C g_X2_38 rfl (by first | assumption | exact Nat.one_pos) dX2_divide_36 ?_
      exact x_vret C (⟨rfl, rfl, rfl, by simp [tkF, q4, h18, up3_e], by simp [tkG, q4, h18, up3_e], rfl⟩) dX2_divide_39
    · skip
      rw [lg_cmp_eq] at h18
      refine x_aload_n C dX2_divide_21 rfl ?_
      refine x_iconst C 1 (by decide) dX2_divide_22 ?_
      refine x_putZ C g_X2_51 rfl (by first | assumption | exact Nat.one_pos) (by first | exact Or.inl rfl | exact Or.inr rfl | assumption) dX2_divide_23 ?_
      refine x_goto C 39 dX2_divide_26 (by decide) ?_
      exact x_vret C (⟨rfl, rfl, rfl, by simp [tkF, q4, h18, up3_e], by simp [tkG, q4, h18, up3_e], rfl⟩) dX2_divide_39
  · skip
    have q4 : k = 0 := (nI_eq (by omega) (by omega)).mp (hk.symm.trans (h4.trans nI_0.symm))
    refine x_aload_n C dX2_divide_7 rfl ?_
    refine x_lload_n C dX2_divide_8 rfl ?_
    refine x_putJ C g_X2_38 rfl (by first | assumption | exact Nat.one_pos) dX2_divide_9 ?_
    refine x_goto C 39 dX2_divide_12 (by decide) ?_
    exact x_vret C (⟨rfl, rfl, rfl, by simp [tkF, q4, up3_e], by simp [tkG, q4], rfl⟩) dX2_divide_39

set_option maxRecDepth 100000 in
set_option maxHeartbeats 4000000 in
theorem c_X2_take (l : Launch) (D : va_G) (dA : Nat → ClassId) (base n : Nat) (ad : Fa) (I : Fi) (J : Fj) (R : Fr) (hT : ST n R) (i f k : Nat) (v : Int64) (hi : i < n) (hf : I 4 i 1 = nI f) (hf6 : f < 6) (hk : I 7 i 1 = nI k) (hk8 : k ≤ 8) : CT l D dA base yX2_take cX2_take 4 none 1 0 0 [.ref (ad 7 i), .ref (ad 4 i), .long v] ad (Nn n) I J R (po none ad (Nn n) (up3 I 7 i 4 (tkF f k (I 7 i 4) v)) (up3 J 7 i 3 (tkG f k (J 7 i 3) v)) R) := by
  refine CT.of 0 (L0 := [some (.ref (ad 7 i)), some (.ref (ad 4 i)), some (.long v), none]) (by decide +kernel) rfl (Nat.le_of_ble_eq_true rfl) ?_
  intro p e s m args below meth c C
  rcases (show f = 0 ∨ f = 1 ∨ f = 2 ∨ f = 3 ∨ f = 4 ∨ f = 5 by omega) with rfl | rfl | rfl | rfl | rfl | rfl
  · skip
    refine x_aload_n C dX2_take_0 rfl ?_
    refine x_getI C f_X2_45 rfl (by first | assumption | exact Nat.one_pos) dX2_take_1 ?_
    refine x_tableOut C 82 dX2_take_4 (by rw [hf]; decide) (by decide) ?_
    refine x_aload_n C dX2_take_82 rfl ?_
    refine x_dup C rfl dX2_take_83 ?_
    refine x_getJ C f_X2_38 rfl (by first | assumption | exact Nat.one_pos) dX2_take_84 ?_
    refine x_lload_n C dX2_take_87 rfl ?_
    refine x_ladd C dX2_take_88 ?_
    refine x_putJ C g_X2_38 rfl (by first | assumption | exact Nat.one_pos) dX2_take_89 ?_
    exact x_vret C (⟨rfl, rfl, rfl, by simp [tkF, up3_e], by simp [tkG], rfl⟩) dX2_take_92
  · skip
    refine x_aload_n C dX2_take_0 rfl ?_
    refine x_getI C f_X2_45 rfl (by first | assumption | exact Nat.one_pos) dX2_take_1 ?_
    refine x_tableIn C 40 (off := 36) dX2_take_4 (by rw [hf]; decide) (by rw [hf]; decide) (by rw [hf]; decide +kernel) (by decide) ?_
    refine x_aload_n C dX2_take_40 rfl ?_
    refine x_lload_n C dX2_take_41 rfl ?_
    refine x_putJ C g_X2_38 rfl (by first | assumption | exact Nat.one_pos) dX2_take_42 ?_
    refine x_goto C 92 dX2_take_45 (by decide) ?_
    exact x_vret C (⟨rfl, rfl, rfl, by simp [tkF, up3_e], by simp [tkG], rfl⟩) dX2_take_92
  · skip
    refine x_aload_n C dX2_take_0 rfl ?_
    refine x_getI C f_X2_45 rfl (by first | assumption | exact Nat.one_pos) dX2_take_1 ?_
    refine x_tableIn C 40 (off := 36) dX2_take_4 (by rw [hf]; decide) (by rw [hf]; decide) (by rw [hf]; decide +kernel) (by decide) ?_
    refine x_aload_n C dX2_take_40 rfl ?_
    refine x_lload_n C dX2_take_41 rfl ?_
    refine x_putJ C g_X2_38 rfl (by first | assumption | exact Nat.one_pos) dX2_take_42 ?_
    refine x_goto C 92 dX2_take_45 (by decide) ?_
    exact x_vret C (⟨rfl, rfl, rfl, by simp [tkF, up3_e], by simp [tkG], rfl⟩) dX2_take_92
  · skip
    refine x_aload_n C dX2_take_0 rfl ?_
    refine x_getI C f_X2_45 rfl (by first | assumption | exact Nat.one_pos) dX2_take_1 ?_
    refine x_tableIn C 48 (off := 44) dX2_take_4 (by rw [hf]; decide) (by rw [hf]; decide) (by rw [hf]; decide +kernel) (by decide) ?_
    refine x_aload_n C dX2_take_48 rfl ?_
    refine x_lload_n C dX2_take_49 rfl ?_
    refine x_cV0 C yo_X2_divide m_X2_64 rfl rfl (by first | assumption | exact Nat.one_pos) (c_X2_divide l D dA base n ad I J R hT i k v hi hk hk8) dX2_take_50 rfl rfl (Nat.le_of_ble_eq_true rfl) ⟨by decide, by decide⟩ ⟨by decide, by decide⟩ ?_
    refine x_goto C 92 dX2_take_53 (by decide) ?_
    exact x_vret C (po_i _ _ _ _ _ _) dX2_take_92
  · skip
    refine x_aload_n C dX2_take_0 rfl ?_
    refine x_getI C f_X2_45 rfl (by first | assumption | exact Nat.one_pos) dX2_take_1 ?_
    refine x_tableIn C 82 (off := 78) dX2_take_4 (by rw [hf]; decide) (by rw [hf]; decide) (by rw [hf]; decide +kernel) (by decide) ?_
    refine x_aload_n C dX2_take_82 rfl ?_
    refine x_dup C rfl dX2_take_83 ?_
    refine x_getJ C f_X2_38 rfl (by first | assumption | exact Nat.one_pos) dX2_take_84 ?_
    refine x_lload_n C dX2_take_87 rfl ?_
    refine x_ladd C dX2_take_88 ?_
    refine x_putJ C g_X2_38 rfl (by first | assumption | exact Nat.one_pos) dX2_take_89 ?_
    exact x_vret C (⟨rfl, rfl, rfl, by simp [tkF, up3_e], by simp [tkG], rfl⟩) dX2_take_92
  · skip
    refine x_aload_n C dX2_take_0 rfl ?_
    refine x_getI C f_X2_45 rfl (by first | assumption | exact Nat.one_pos) dX2_take_1 ?_
    refine x_tableIn C 56 (off := 52) dX2_take_4 (by rw [hf]; decide) (by rw [hf]; decide) (by rw [hf]; decide +kernel) (by decide) ?_
    refine x_aload_n C dX2_take_56 rfl ?_
    refine x_aload_n C dX2_take_57 rfl ?_
    refine x_getI C f_X2_35 rfl (by first | assumption | exact Nat.one_pos) dX2_take_58 ?_
    refine x_if_ne C 68 dX2_take_61 (by decide) (fun h61 => ?_) (fun h61 => ?_)
    · skip
      have q61 : ¬ k = 0 := fun z => h61 (by rw [hk, z]; rfl)
      refine x_aload_n C dX2_take_68 rfl ?_
      refine x_getJ C f_X2_38 rfl (by first | assumption | exact Nat.one_pos) dX2_take_69 ?_
      refine x_lload_n C dX2_take_72 rfl ?_
      refine x_lmax C mx_1 mx_2 mx_3 mx_4 (by decide) (Nat.le_of_ble_eq_true rfl) (by decide) (by decide) dX2_take_73 ?_
      refine x_putJ C g_X2_38 rfl (by first | assumption | exact Nat.one_pos) dX2_take_76 ?_
      refine x_goto C 92 dX2_take_79 (by decide) ?_
      exact x_vret C (⟨rfl, rfl, rfl, by simp [tkF, up3_e], by simp [tkG, q61], rfl⟩) dX2_take_92
    · skip
      have q61 : k = 0 := (nI_eq (by omega) (by omega)).mp (hk.symm.trans (h61.trans nI_0.symm))
      refine x_lload_n C dX2_take_64 rfl ?_
      refine x_goto C 76 dX2_take_65 (by decide) ?_
      refine x_putJ C g_X2_38 rfl (by first | assumption | exact Nat.one_pos) dX2_take_76 ?_
      refine x_goto C 92 dX2_take_79 (by decide) ?_
      exact x_vret C (⟨rfl, rfl, rfl, by simp [tkF, up3_e], by simp [tkG, q61], rfl⟩) dX2_take_92

set_option maxRecDepth 100000 in
set_option maxHeartbeats 4000000 in
theorem c_X2_notePlace (l : Launch) (D : va_G) (dA : Nat → ClassId) (base n : Nat) (ad : Fa) (I : Fi) (J : Fj) (R : Fr) (hT : ST n R) (i k : Nat) (x : Int32) (hi : i < n) (hk : I 7 i 1 = nI k) (hk8 : k < 8) : CT l D dA base yX2_notePlace cX2_notePlace 2 none 0 0 0 [.ref (ad 7 i), .int x] ad (Nn n) I J R (po none ad (Nn n) (up3 (up3 I 8 i k x) 7 i 1 (nI (k + 1))) J R) := by
  refine CT.of 0 (L0 := [some (.ref (ad 7 i)), some (.int x)]) (by decide +kernel) rfl (Nat.le_of_ble_eq_true rfl) ?_
  intro p e s m args below meth c C
  refine x_aload_n C dX2_notePlace_0 rfl ?_
  refine x_getI C f_X2_35 rfl (by first | assumption | exact Nat.one_pos) dX2_notePlace_1 ?_
  refine x_aload_n C dX2_notePlace_4 rfl ?_
  refine x_getF C hT f_X2_9 rfl rfl (by first | assumption | exact Nat.one_pos) dX2_notePlace_5 ?_
  refine x_alen C 8 rfl rfl (by decide) (by first | assumption | exact Nat.one_pos) dX2_notePlace_8 ?_
  refine x_icmp_ge C 32 dX2_notePlace_9 (by decide) (fun h9 => ?_) (fun h9 => ?_)
  · skip
    rw [hk] at h9
    exact absurd h9 (nI_ge (b := 8) hk8 (by decide))
  · skip
    refine x_aload_n C dX2_notePlace_12 rfl ?_
    refine x_getF C hT f_X2_9 rfl rfl (by first | assumption | exact Nat.one_pos) dX2_notePlace_13 ?_
    refine x_aload_n C dX2_notePlace_16 rfl ?_
    refine x_getI C f_X2_35 rfl (by first | assumption | exact Nat.one_pos) dX2_notePlace_17 ?_
    refine x_iload_n C dX2_notePlace_20 rfl ?_
    refine x_iastN C (k) hk rfl rfl (by first | assumption | exact Nat.one_pos) hk8 (by decide) dX2_notePlace_21 ?_
    refine x_aload_n C dX2_notePlace_22 rfl ?_
    refine x_dup C rfl dX2_notePlace_23 ?_
    refine x_getI C f_X2_35 rfl (by first | assumption | exact Nat.one_pos) dX2_notePlace_24 ?_
    refine x_iconst C 1 (by decide) dX2_notePlace_27 ?_
    refine x_iadd C dX2_notePlace_28 ?_
    refine x_putI C g_X2_35 rfl (by first | assumption | exact Nat.one_pos) dX2_notePlace_29 ?_
    exact x_vret C (⟨rfl, rfl, rfl, by (congr 1; rw [up3_c _ _ _ _ _ (by decide), hk]; exact nI_1 k), rfl, rfl⟩) dX2_notePlace_32

set_option maxRecDepth 100000 in
set_option maxHeartbeats 4000000 in
theorem c_X2_result (l : Launch) (D : va_G) (dA : Nat → ClassId) (base n : Nat) (ad : Fa) (I : Fi) (J : Fj) (R : Fr) (hT : ST n R) (i f : Nat) (hi : i < n) (hf : I 4 i 1 = nI f) (hf6 : f < 6) : CT l D dA base yX2_result cX2_result 2 (some .long) 0 0 0 [.ref (ad 7 i), .ref (ad 4 i)] ad (Nn n) I J R (po (some (.long (rsl f (J 7 i 3)))) ad (Nn n) I J R) := by
  refine CT.of 0 (L0 := [some (.ref (ad 7 i)), some (.ref (ad 4 i))]) (by decide +kernel) rfl (Nat.le_of_ble_eq_true rfl) ?_
  intro p e s m args below meth c C
  refine x_aload_n C dX2_result_0 rfl ?_
  refine x_getI C f_X2_45 rfl (by first | assumption | exact Nat.one_pos) dX2_result_1 ?_
  refine x_iconst C 4 (by decide) dX2_result_4 ?_
  refine x_icmp_ne C 17 dX2_result_5 (by decide) (fun h5 => ?_) (fun h5 => ?_)
  · skip
    rw [hf] at h5
    have q5 : ¬ f = 4 := fun z => h5 (by rw [z]; rfl)
    refine x_aload_n C dX2_result_17 rfl ?_
    refine x_getJ C f_X2_38 rfl (by first | assumption | exact Nat.one_pos) dX2_result_18 ?_
    exact x_lret C (po_r (by simp [rsl, q5])) dX2_result_21
  · skip
    rw [hf] at h5
    have q5 : f = 4 := (nI_eq (b := 4) (by omega) (by decide)).mp h5
    refine x_aload_n C dX2_result_8 rfl ?_
    refine x_getJ C f_X2_38 rfl (by first | assumption | exact Nat.one_pos) dX2_result_9 ?_
    refine x_lconst C 1 (by decide) dX2_result_12 ?_
    refine x_land C dX2_result_13 ?_
    refine x_goto C 21 dX2_result_14 (by decide) ?_
    exact x_lret C (po_r (by simp [rsl, q5])) dX2_result_21

def ftr (R : Fr) (J : Fj) (i j r : Nat) : Nat → Option Nat
  | 0 => none
  | f + 1 => match R 5 i (r - (f + 1)) with
    | some y => if bit (J 4 y 4) j = true then some y else ftr R J i j r f
    | none => none
def kref (ad : Fa) (o : Option Nat) : Value := match o with
  | none => .null
  | some y => .ref (ad 4 y)
set_option maxRecDepth 100000 in
set_option maxHeartbeats 4000000 in
theorem c_X0_firstThatReaches (l : Launch) (D : va_G) (dA : Nat → ClassId) (base n : Nat) (ad : Fa) (I : Fi) (J : Fj) (R : Fr) (hT : ST n R) (i j r : Nat) (hi : i < n) (hj : j < n) (hr : I 4 i 3 = nI r) (hr8 : r ≤ 8) (hrow : ∀ k, k < r → ∃ y, R 5 i k = some y ∧ y < n) (hnum : ∀ k, k < n → I 4 k 0 = nI k) : CT l D dA base yX0_firstThatReaches cX0_firstThatReaches 4 (some (.object "KeyGraph$Key")) 1 0 0 [.ref (ad 4 i), .ref (ad 4 j)] ad (Nn n) I J R (po (some (kref ad (ftr R J i j r r))) ad (Nn n) I J R) := by
  refine CT.of 2 (L0 := [some (.ref (ad 4 i)), some (.ref (ad 4 j)), none, none]) (by decide +kernel) rfl (Nat.le_of_ble_eq_true rfl) ?_
  intro p e s m args below meth c C
  have loop : ∀ (f k : Nat), k + f = r → ftr R J i j r r = ftr R J i j r f → GX p l e (rmX 1 0 0) s m args below meth c (MQ below (CQ D dA base (po (some (kref ad (ftr R J i j r r))) ad (Nn n) I J R)) args s 0 0 (fun q => base ≤ q)) D dA base 4 ad (Nn n) I J R 0 0 2 [some (.ref (ad 4 i)), some (.ref (ad 4 j)), some (.int (nI k)), none] [] := by
    intro f
    induction f with
    | zero =>
      intro k hk hq
      refine x_iload_n C dX0_firstThatReaches_2 rfl ?_
      refine x_aload_n C dX0_firstThatReaches_3 rfl ?_
      refine x_getI C f_X0_37 rfl (by first | assumption | exact Nat.one_pos) dX0_firstThatReaches_4 ?_
      refine x_icmp_ge C 36 dX0_firstThatReaches_7 (by decide) (fun h7 => ?_) (fun h7 => ?_)
      · skip
        refine x_null C dX0_firstThatReaches_36 ?_
        exact x_aret C (Or.inl ⟨_, rfl⟩) (Or.inl rfl) (po_r (by rw [hq]; rfl)) dX0_firstThatReaches_37
      · skip
        rw [hr] at h7
        exact absurd (nI_le (show r ≤ k by omega) (by omega)) h7
    | succ f ih =>
      intro k hk hq
      obtain ⟨y, hy, hyn⟩ := hrow k (by omega)
      refine x_iload_n C dX0_firstThatReaches_2 rfl ?_
      refine x_aload_n C dX0_firstThatReaches_3 rfl ?_
      refine x_getI C f_X0_37 rfl (by first | assumption | exact Nat.one_pos) dX0_firstThatReaches_4 ?_
      refine x_icmp_ge C 36 dX0_firstThatReaches_7 (by decide) (fun h7 => ?_) (fun h7 => ?_)
      · skip
        rw [hr] at h7
        exact absurd h7 (nI_ge (show k < r by omega) (by omega))
      · skip
        refine x_aload_n C dX0_firstThatReaches_10 rfl ?_
        refine x_iload_n C dX0_firstThatReaches_11 rfl ?_
        refine x_cV1 C yo_X0_rowKey m_X0_40 rfl rfl (by first | assumption | exact Nat.one_pos) (c_X0_rowKey_in l D dA base n ad I J R hT i k r y hi hr (by omega) hr8 hy) dX0_firstThatReaches_12 rfl rfl (Nat.le_of_ble_eq_true rfl) ⟨by decide, by decide⟩ ⟨by decide, by decide⟩ ?_
        refine x_astore_n C dX0_firstThatReaches_15 (by decide) rfl rfl ?_
        refine x_aload_n C dX0_firstThatReaches_16 rfl ?_
        refine x_ifnull C dX0_firstThatReaches_17 ?_
        refine x_aload_n C dX0_firstThatReaches_20 rfl ?_
        refine x_aload_n C dX0_firstThatReaches_21 rfl ?_
        refine x_cV1 C yo_X0_reaches m_X0_44 rfl rfl (by first | assumption | exact Nat.one_pos) (c_X0_reaches l D dA base n ad I J R hT y j hyn hj (hnum j hj)) dX0_firstThatReaches_22 rfl rfl (Nat.le_of_ble_eq_true rfl) ⟨by decide, by decide⟩ ⟨by decide, by decide⟩ ?_
        refine x_if_eq C 30 dX0_firstThatReaches_25 (by decide) (fun h25 => ?_) (fun h25 => ?_)
        · skip
          have q : ¬ bit (J 4 y 4) j = true := fun z => by rw [if_pos z] at h25; exact absurd h25 (by decide)
          refine x_iinc C _ dX0_firstThatReaches_30 rfl rfl (by decide) rfl rfl ?_
          refine x_goto C 2 dX0_firstThatReaches_33 (by decide) ?_
          refine x_drop 3 rfl ?_
          exact x_eqL (ih (k + 1) (by omega) (hq.trans (by simp only [ftr, show r - (f + 1) = k by omega, hy, if_neg q]))) rfl (by rw [← nI_1]; rfl) rfl rfl rfl rfl
        · skip
          have q : bit (J 4 y 4) j = true := Decidable.of_not_not (fun z => h25 (by rw [if_neg z]))
          refine x_aload_n C dX0_firstThatReaches_28 rfl ?_
          exact x_aret C (Or.inl ⟨_, rfl⟩) (Or.inr ⟨_, rfl⟩) (po_r (by rw [hq]; simp only [ftr, show r - (f + 1) = k by omega, hy, if_pos q]; rfl)) dX0_firstThatReaches_29
  refine x_iconst C 0 (by decide) dX0_firstThatReaches_0 ?_
  refine x_istore_n C dX0_firstThatReaches_1 (by decide) rfl rfl ?_
  exact loop r 0 (by omega) rfl
end
section
/-! Pile; keepAskedPlaces; the small methods of KeyGraph -/
def kapS (I : Fi) (i k t : Nat) : Fi := fun c b d => if c = 6 ∧ b = i ∧ d < t then I 8 i d else up3 I 4 i 13 (nI k) c b d
theorem kapS_0 (I : Fi) (i k : Nat) : kapS I i k 0 = up3 I 4 i 13 (nI k) := by
  funext c b d
  simp [kapS]
theorem kapS_s (I : Fi) (i k t : Nat) : up3 (kapS I i k t) 6 i t (kapS I i k t 8 i t) = kapS I i k (t + 1) := by
  have h8 : kapS I i k t 8 i t = I 8 i t := by simp [kapS, up3]
  rw [h8]
  funext c b d
  by_cases h : c = 6 ∧ b = i
  · obtain ⟨rfl, rfl⟩ := h
    by_cases hd : d = t
    · subst hd; simp [up3, kapS]
    · rw [up3_k _ _ _ _ _ hd]
      by_cases h2 : d < t
      · simp [kapS, h2, Nat.lt_succ_of_lt h2]
      · simp [kapS, h2, show ¬ d < t + 1 by omega]
  · rw [up3_n _ _ _ _ _ (fun z => h ⟨z.1, z.2.1⟩)]
    simp only [kapS]
    rw [if_neg (fun z => h ⟨z.1, z.2.1⟩), if_neg (fun z => h ⟨z.1, z.2.1⟩)]
theorem kapS_4 (I : Fi) (i k t b d : Nat) : kapS I i k t 4 b d = up3 I 4 i 13 (nI k) 4 b d := by simp [kapS]
set_option maxRecDepth 100000 in
set_option maxHeartbeats 4000000 in
theorem c_X0_keepAskedPlaces (l : Launch) (D : va_G) (dA : Nat → ClassId) (base n : Nat) (ad : Fa) (I : Fi) (J : Fj) (R : Fr) (hT : ST n R) (i k : Nat) (hi : i < n) (hk : I 7 i 1 = nI k) (hk8 : k ≤ 8) : CT l D dA base yX0_keepAskedPlaces cX0_keepAskedPlaces 2 none 0 0 0 [.ref (ad 4 i)] ad (Nn n) I J R (po none ad (Nn n) (kapS I i k k) J R) := by
  refine CT.of 1 (L0 := [some (.ref (ad 4 i)), none]) (by decide +kernel) rfl (Nat.le_of_ble_eq_true rfl) ?_
  intro p e s m args below meth c C
  have loop : ∀ (f t : Nat), t + f = k → GX p l e (rmX 0 0 0) s m args below meth c (MQ below (CQ D dA base (po none ad (Nn n) (kapS I i k k) J R)) args s 0 0 (fun q => base ≤ q)) D dA base 2 ad (Nn n) (kapS I i k t) J R 0 0 13 [some (.ref (ad 4 i)), some (.int (nI t))] [] := by
    intro f
    induction f with
    | zero =>
      intro t ht
      have ht2 : t = k := by omega
      subst ht2
      have h13 : kapS I i t t 4 i 13 = nI t := by rw [kapS_4, up3_s]
      refine x_iload_n C dX0_keepAskedPlaces_13 rfl ?_
      refine x_aload_n C dX0_keepAskedPlaces_14 rfl ?_
      refine x_getI C f_X0_48 rfl (by first | assumption | exact Nat.one_pos) dX0_keepAskedPlaces_15 ?_
      refine x_icmp_ge C 42 dX0_keepAskedPlaces_18 (by decide) (fun h18 => ?_) (fun h18 => ?_)
      · skip
        exact x_vret C (po_i _ _ _ _ _ _) dX0_keepAskedPlaces_42
      · skip
        rw [h13] at h18
        exact absurd (Int32.le_refl _) h18
    | succ f ih =>
      intro t ht
      have h13 : kapS I i k t 4 i 13 = nI k := by rw [kapS_4, up3_s]
      refine x_iload_n C dX0_keepAskedPlaces_13 rfl ?_
      refine x_aload_n C dX0_keepAskedPlaces_14 rfl ?_
      refine x_getI C f_X0_48 rfl (by first | assumption | exact Nat.one_pos) dX0_keepAskedPlaces_15 ?_
      refine x_icmp_ge C 42 dX0_keepAskedPlaces_18 (by decide) (fun h18 => ?_) (fun h18 => ?_)
      · skip
        rw [h13] at h18
        exact absurd h18 (nI_ge (show t < k by omega) (by omega))
      · skip
        refine x_aload_n C dX0_keepAskedPlaces_21 rfl ?_
        refine x_getF C hT f_X0_15 rfl rfl (by first | assumption | exact Nat.one_pos) dX0_keepAskedPlaces_22 ?_
        refine x_iload_n C dX0_keepAskedPlaces_25 rfl ?_
        refine x_aload_n C dX0_keepAskedPlaces_26 rfl ?_
        refine x_getF C hT f_X0_22 rfl rfl (by first | assumption | exact Nat.one_pos) dX0_keepAskedPlaces_27 ?_
        refine x_getF C hT f_X0_54 rfl rfl (by first | assumption | exact Nat.one_pos) dX0_keepAskedPlaces_30 ?_
        refine x_iload_n C dX0_keepAskedPlaces_33 rfl ?_
        refine x_ialdN C (t) rfl rfl rfl (by first | assumption | exact Nat.one_pos) (by omega) (by decide) dX0_keepAskedPlaces_34 ?_
        refine x_iastN C (t) rfl rfl rfl (by first | assumption | exact Nat.one_pos) (by omega) (by decide) dX0_keepAskedPlaces_35 ?_
        refine x_iinc C _ dX0_keepAskedPlaces_36 rfl rfl (by decide) rfl rfl ?_
        refine x_goto C 13 dX0_keepAskedPlaces_39 (by decide) ?_
        exact x_eqL (ih (t + 1) (by omega)) rfl (by rw [← nI_1]; rfl) rfl (kapS_s I i k t) rfl rfl
  refine x_aload_n C dX0_keepAskedPlaces_0 rfl ?_
  refine x_aload_n C dX0_keepAskedPlaces_1 rfl ?_
  refine x_getF C hT f_X0_22 rfl rfl (by first | assumption | exact Nat.one_pos) dX0_keepAskedPlaces_2 ?_
  refine x_getI C f_X0_51 rfl (by first | assumption | exact Nat.one_pos) dX0_keepAskedPlaces_5 ?_
  refine x_putI C g_X0_48 rfl (by first | assumption | exact Nat.one_pos) dX0_keepAskedPlaces_8 ?_
  refine x_iconst C 0 (by decide) dX0_keepAskedPlaces_11 ?_
  refine x_istore_n C dX0_keepAskedPlaces_12 (by decide) rfl rfl ?_
  exact x_eqL (loop k 0 (by omega)) rfl rfl rfl (by rw [kapS_0, hk]) rfl rfl

set_option maxRecDepth 100000 in
set_option maxHeartbeats 4000000 in
theorem c_X1_topmost_0 (l : Launch) (D : va_G) (dA : Nat → ClassId) (base n : Nat) (ad : Fa) (I : Fi) (J : Fj) (R : Fr) (hT : ST n R) (p0 : Nat) (hp : p0 < 5) (hs : I 9 p0 1 = nI 0) : CT l D dA base yX1_topmost cX1_topmost 1 (some (.object "KeyGraph$Key")) 0 0 0 [.ref (ad 9 p0)] ad (Nn n) I J R (po (some .null) ad (Nn n) I J R) := by
  refine CT.of 0 (L0 := [some (.ref (ad 9 p0))]) (by decide +kernel) rfl (Nat.le_of_ble_eq_true rfl) ?_
  intro p e s m args below meth c C
  refine x_aload_n C dX1_topmost_0 rfl ?_
  refine x_getI C f_X1_17 rfl (by first | assumption | exact Nat.one_pos) dX1_topmost_1 ?_
  refine x_if_gt C 11 dX1_topmost_4 (by decide) (fun h4 => ?_) (fun h4 => ?_)
  · skip
    rw [hs] at h4
    exact absurd h4 (by decide)
  · skip
    refine x_null C dX1_topmost_7 ?_
    refine x_goto C 22 dX1_topmost_8 (by decide) ?_
    exact x_aret C (Or.inl ⟨_, rfl⟩) (Or.inl rfl) (po_i _ _ _ _ _ _) dX1_topmost_22

set_option maxRecDepth 100000 in
set_option maxHeartbeats 4000000 in
theorem c_X1_topmost_s (l : Launch) (D : va_G) (dA : Nat → ClassId) (base n : Nat) (ad : Fa) (I : Fi) (J : Fj) (R : Fr) (hT : ST n R) (p0 z k : Nat) (hp : p0 < 5) (hs : I 9 p0 1 = nI (z + 1)) (hz : z < 40) (hk : R 10 p0 z = some k) : CT l D dA base yX1_topmost cX1_topmost 1 (some (.object "KeyGraph$Key")) 0 0 0 [.ref (ad 9 p0)] ad (Nn n) I J R (po (some (.ref (ad 4 k))) ad (Nn n) I J R) := by
  refine CT.of 0 (L0 := [some (.ref (ad 9 p0))]) (by decide +kernel) rfl (Nat.le_of_ble_eq_true rfl) ?_
  intro p e s m args below meth c C
  refine x_aload_n C dX1_topmost_0 rfl ?_
  refine x_getI C f_X1_17 rfl (by first | assumption | exact Nat.one_pos) dX1_topmost_1 ?_
  refine x_if_gt C 11 dX1_topmost_4 (by decide) (fun h4 => ?_) (fun h4 => ?_)
  · skip
    refine x_aload_n C dX1_topmost_11 rfl ?_
    refine x_getF C hT f_X1_11 rfl rfl (by first | assumption | exact Nat.one_pos) dX1_topmost_12 ?_
    refine x_aload_n C dX1_topmost_15 rfl ?_
    refine x_getI C f_X1_17 rfl (by first | assumption | exact Nat.one_pos) dX1_topmost_16 ?_
    refine x_iconst C 1 (by decide) dX1_topmost_19 ?_
    refine x_isub C dX1_topmost_20 ?_
    refine x_aaldS C (z) (by rw [hs]; exact nI_pred z) rfl rfl rfl (by first | assumption | exact Nat.one_pos) hz (by decide) hk dX1_topmost_21 ?_
    exact x_aret C (Or.inl ⟨_, rfl⟩) (Or.inr ⟨_, rfl⟩) (po_i _ _ _ _ _ _) dX1_topmost_22
  · skip
    rw [hs] at h4
    exact absurd (nI_lt (a := 0) (Nat.succ_pos z) (by omega)) h4

def putI (I : Fi) (p0 i z : Nat) : Fi := up3 (up3 (stI I i) 4 i 16 1) 9 p0 1 (nI (z + 1))
theorem stI_9 (I : Fi) (i b d : Nat) : stI I i 9 b d = I 9 b d := by simp [stI, swI, up3]
set_option maxRecDepth 100000 in
set_option maxHeartbeats 4000000 in
theorem c_X1_put (l : Launch) (D : va_G) (dA : Nat → ClassId) (base n : Nat) (ad : Fa) (I : Fi) (J : Fj) (R : Fr) (hT : ST n R) (p0 i z : Nat) (hp : p0 < 5) (hi : i < n) (hs : I 9 p0 1 = nI z) (hz : z < 40) : CT l D dA base yX1_put cX1_put 2 none 2 0 0 [.ref (ad 9 p0), .ref (ad 4 i)] ad (Nn n) I J R (po none ad (Nn n) (putI I p0 i z) (up3 J 7 i 3 0) (up3 R 10 p0 z (some i))) := by
  refine CT.of 0 (L0 := [some (.ref (ad 9 p0)), some (.ref (ad 4 i))]) (by decide +kernel) rfl (Nat.le_of_ble_eq_true rfl) ?_
  intro p e s m args below meth c C
  refine x_aload_n C dX1_put_0 rfl ?_
  refine x_getI C f_X1_17 rfl (by first | assumption | exact Nat.one_pos) dX1_put_1 ?_
  refine x_aload_n C dX1_put_4 rfl ?_
  refine x_getF C hT f_X1_11 rfl rfl (by first | assumption | exact Nat.one_pos) dX1_put_5 ?_
  refine x_alen C 40 rfl rfl (by decide) (by first | assumption | exact Nat.one_pos) dX1_put_8 ?_
  refine x_icmp_ge C 45 dX1_put_9 (by decide) (fun h9 => ?_) (fun h9 => ?_)
  · skip
    rw [hs] at h9
    exact absurd h9 (nI_ge (b := 40) hz (by decide))
  · skip
    refine x_aload_n C dX1_put_12 rfl ?_
    refine x_getF C hT f_X1_21 rfl rfl (by first | assumption | exact Nat.one_pos) dX1_put_13 ?_
    refine x_aload_n C dX1_put_16 rfl ?_
    refine x_cV0 C yo_X2_start m_X1_25 rfl rfl (by first | assumption | exact Nat.one_pos) (c_X2_start l D dA base n ad I J R hT i hi) dX1_put_17 rfl rfl (Nat.le_of_ble_eq_true rfl) ⟨by decide, by decide⟩ ⟨by decide, by decide⟩ ?_
    refine x_aload_n C dX1_put_20 rfl ?_
    refine x_iconst C 1 (by decide) dX1_put_21 ?_
    refine x_putZ C g_X1_31 rfl (by first | assumption | exact Nat.one_pos) (by first | exact Or.inl rfl | exact Or.inr rfl | assumption) dX1_put_22 ?_
    refine x_aload_n C dX1_put_25 rfl ?_
    refine x_getF C hT f_X1_11 rfl rfl (by first | assumption | exact Nat.one_pos) dX1_put_26 ?_
    refine x_aload_n C dX1_put_29 rfl ?_
    refine x_getI C f_X1_17 rfl (by first | assumption | exact Nat.one_pos) dX1_put_30 ?_
    refine x_aload_n C dX1_put_33 rfl ?_
    refine x_aastN C (z) (by rw [up3_c _ _ _ _ _ (by decide), stI_9]; exact hs) rfl rfl rfl rfl rfl (by first | assumption | exact Nat.one_pos) (by first | assumption | exact Nat.one_pos) hz (by decide) dX1_put_34 ?_
    refine x_aload_n C dX1_put_35 rfl ?_
    refine x_dup C rfl dX1_put_36 ?_
    refine x_getI C f_X1_17 rfl (by first | assumption | exact Nat.one_pos) dX1_put_37 ?_
    refine x_iconst C 1 (by decide) dX1_put_40 ?_
    refine x_iadd C dX1_put_41 ?_
    refine x_putI C g_X1_17 rfl (by first | assumption | exact Nat.one_pos) dX1_put_42 ?_
    exact x_vret C (⟨rfl, rfl, rfl, by (unfold putI; congr 1; rw [up3_c _ _ _ _ _ (by decide), stI_9, hs]; exact nI_1 z), rfl, rfl⟩) dX1_put_45

def ttI (I : Fi) (p0 k z : Nat) : Fi := up3 (up3 I 4 k 16 0) 9 p0 1 (nI z)
set_option maxRecDepth 100000 in
set_option maxHeartbeats 4000000 in
theorem c_X1_takeTopmost (l : Launch) (D : va_G) (dA : Nat → ClassId) (base n : Nat) (ad : Fa) (I : Fi) (J : Fj) (R : Fr) (hT : ST n R) (p0 z k : Nat) (hp : p0 < 5) (hs : I 9 p0 1 = nI (z + 1)) (hz : z < 40) (hk : R 10 p0 z = some k) (hkn : k < n) : CT l D dA base yX1_takeTopmost cX1_takeTopmost 2 none 1 0 0 [.ref (ad 9 p0)] ad (Nn n) I J R (po none ad (Nn n) (ttI I p0 k z) J R) := by
  refine CT.of 1 (L0 := [some (.ref (ad 9 p0)), none]) (by decide +kernel) rfl (Nat.le_of_ble_eq_true rfl) ?_
  intro p e s m args below meth c C
  refine x_aload_n C dX1_takeTopmost_0 rfl ?_
  refine x_cV1 C yo_X1_topmost m_X1_35 rfl rfl (by first | assumption | exact Nat.one_pos) (c_X1_topmost_s l D dA base n ad I J R hT p0 z k hp hs hz hk) dX1_takeTopmost_1 rfl rfl (Nat.le_of_ble_eq_true rfl) ⟨by decide, by decide⟩ ⟨by decide, by decide⟩ ?_
  refine x_astore_n C dX1_takeTopmost_4 (by decide) rfl rfl ?_
  refine x_aload_n C dX1_takeTopmost_5 rfl ?_
  refine x_ifnull C dX1_takeTopmost_6 ?_
  refine x_aload_n C dX1_takeTopmost_9 rfl ?_
  refine x_iconst C 0 (by decide) dX1_takeTopmost_10 ?_
  refine x_putZ C g_X1_31 rfl (by first | assumption | exact Nat.one_pos) (by first | exact Or.inl rfl | exact Or.inr rfl | assumption) dX1_takeTopmost_11 ?_
  refine x_aload_n C dX1_takeTopmost_14 rfl ?_
  refine x_dup C rfl dX1_takeTopmost_15 ?_
  refine x_getI C f_X1_17 rfl (by first | assumption | exact Nat.one_pos) dX1_takeTopmost_16 ?_
  refine x_iconst C 1 (by decide) dX1_takeTopmost_19 ?_
  refine x_isub C dX1_takeTopmost_20 ?_
  refine x_putI C g_X1_17 rfl (by first | assumption | exact Nat.one_pos) dX1_takeTopmost_21 ?_
  exact x_vret C (⟨rfl, rfl, rfl, by (unfold ttI; congr 1; rw [up3_c _ _ _ _ _ (by decide), hs]; exact nI_pred z), rfl, rfl⟩) dX1_takeTopmost_24

/-- a pile of z keys is emptied -/
def tka (R : Fr) (p0 : Nat) : Nat → Fi → Fi
  | 0, I => I
  | z + 1, I => tka R p0 z (ttI I p0 ((R 10 p0 z).getD 0) z)
set_option maxRecDepth 100000 in
set_option maxHeartbeats 4000000 in
theorem c_X1_takeAll (l : Launch) (D : va_G) (dA : Nat → ClassId) (base n : Nat) (ad : Fa) (I : Fi) (J : Fj) (R : Fr) (hT : ST n R) (p0 z : Nat) (hp : p0 < 5) (hs : I 9 p0 1 = nI z) (hz : z ≤ 40) (hk : ∀ j, j < z → ∃ k, R 10 p0 j = some k ∧ k < n) : CT l D dA base yX1_takeAll cX1_takeAll 3 (some .int) 2 0 0 [.ref (ad 9 p0)] ad (Nn n) I J R (po (some (.int (nI z))) ad (Nn n) (tka R p0 z I) J R) := by
  refine CT.of 2 (L0 := [some (.ref (ad 9 p0)), none, none]) (by decide +kernel) rfl (Nat.le_of_ble_eq_true rfl) ?_
  intro p e s m args below meth c C
  have loop : ∀ (z1 : Nat) (I1 : Fi), z1 ≤ z → I1 9 p0 1 = nI z1 → tka R p0 z I = tka R p0 z1 I1 → GX p l e (rmX 2 0 0) s m args below meth c (MQ below (CQ D dA base (po (some (.int (nI z))) ad (Nn n) (tka R p0 z I) J R)) args s 0 0 (fun q => base ≤ q)) D dA base 3 ad (Nn n) I1 J R 0 0 7 [some (.ref (ad 9 p0)), some (.int (nI z)), some (.int (nI (z - z1)))] [] := by
    intro z1
    induction z1 with
    | zero =>
      intro I1 h1 h2 h3
      refine x_iload_n C dX1_takeAll_7 rfl ?_
      refine x_iload_n C dX1_takeAll_8 rfl ?_
      refine x_icmp_ge C 22 dX1_takeAll_9 (by decide) (fun h9 => ?_) (fun h9 => ?_)
      · skip
        refine x_iload_n C dX1_takeAll_22 rfl ?_
        exact x_iret C (⟨rfl, rfl, rfl, h3.symm, rfl, rfl⟩) dX1_takeAll_23
      · skip
        exact absurd (Int32.le_refl _) h9
    | succ z1 ih =>
      intro I1 h1 h2 h3
      obtain ⟨k, hk1, hk2⟩ := hk z1 (by omega)
      refine x_iload_n C dX1_takeAll_7 rfl ?_
      refine x_iload_n C dX1_takeAll_8 rfl ?_
      refine x_icmp_ge C 22 dX1_takeAll_9 (by decide) (fun h9 => ?_) (fun h9 => ?_)
      · skip
        exact absurd h9 (nI_ge (show z - (z1 + 1) < z by omega) (by omega))
      · skip
        refine x_aload_n C dX1_takeAll_12 rfl ?_
        refine x_cV0 C yo_X1_takeTopmost m_X1_39 rfl rfl (by first | assumption | exact Nat.one_pos) (c_X1_takeTopmost l D dA base n ad I1 J R hT p0 z1 k hp h2 (by omega) hk1 hk2) dX1_takeAll_13 rfl rfl (Nat.le_of_ble_eq_true rfl) ⟨by decide, by decide⟩ ⟨by decide, by decide⟩ ?_
        refine x_iinc C _ dX1_takeAll_16 rfl rfl (by decide) rfl rfl ?_
        refine x_goto C 7 dX1_takeAll_19 (by decide) ?_
        exact x_eqL (ih (ttI I1 p0 k z1) (by omega) (by simp [ttI, up3]) (h3.trans (by simp only [tka, hk1, Option.getD_some]))) rfl (by rw [show z - z1 = z - (z1 + 1) + 1 by omega, ← nI_1]; rfl) rfl rfl rfl rfl
  refine x_aload_n C dX1_takeAll_0 rfl ?_
  refine x_getI C f_X1_17 rfl (by first | assumption | exact Nat.one_pos) dX1_takeAll_1 ?_
  refine x_istore_n C dX1_takeAll_4 (by decide) rfl rfl ?_
  refine x_iconst C 0 (by decide) dX1_takeAll_5 ?_
  refine x_istore_n C dX1_takeAll_6 (by decide) rfl rfl ?_
  exact x_eqL (loop z I (Nat.le_refl _) hs rfl) rfl (by rw [hs, Nat.sub_self]; rfl) rfl rfl rfl rfl

/-- the graph's own cells: n keys, each under its number, five piles -/
def KG (n : Nat) (I : Fi) (R : Fr) : Prop := I 0 0 1 = nI n ∧ n ≤ 40 ∧ (∀ k, k < n → R 1 0 k = some k) ∧ (∀ q, q < 5 → R 2 0 q = some q) ∧ ∀ k, k < n → I 4 k 0 = nI k
def sure (I : Fi) (i : Nat) : Bool := decide (I 4 i 1 = -1 ∨ (¬ I 4 i 10 = 0 ∧ I 4 i 11 = I 0 0 2))
set_option maxRecDepth 100000 in
set_option maxHeartbeats 4000000 in
theorem c_X3_keyAt_in (l : Launch) (D : va_G) (dA : Nat → ClassId) (base n : Nat) (ad : Fa) (I : Fi) (J : Fj) (R : Fr) (hT : ST n R) (hG : KG n I R) (k : Nat) (hk : k < n) : CT l D dA base yX3_keyAt cX3_keyAt 2 (some (.object "KeyGraph$Key")) 0 0 0 [.ref (ad 0 0), .int (nI k)] ad (Nn n) I J R (po (some (.ref (ad 4 k))) ad (Nn n) I J R) := by
  refine CT.of 0 (L0 := [some (.ref (ad 0 0)), some (.int (nI k))]) (by decide +kernel) rfl (Nat.le_of_ble_eq_true rfl) ?_
  intro p e s m args below meth c C
  have hn := hG.2.1
  refine x_iload_n C dX3_keyAt_0 rfl ?_
  refine x_if_lt C 12 dX3_keyAt_1 (by decide) (fun h1 => ?_) (fun h1 => ?_)
  · skip
    exact absurd h1 (nI_pos (by omega))
  · skip
    refine x_iload_n C dX3_keyAt_4 rfl ?_
    refine x_aload_n C dX3_keyAt_5 rfl ?_
    refine x_getI C f_X3_26 rfl (by first | assumption | exact Nat.one_pos) dX3_keyAt_6 ?_
    refine x_icmp_lt C 16 dX3_keyAt_9 (by decide) (fun h9 => ?_) (fun h9 => ?_)
    · skip
      refine x_aload_n C dX3_keyAt_16 rfl ?_
      refine x_getF C hT f_X3_11 rfl rfl (by first | assumption | exact Nat.one_pos) dX3_keyAt_17 ?_
      refine x_iload_n C dX3_keyAt_20 rfl ?_
      refine x_aaldS C (k) rfl rfl rfl rfl (by first | assumption | exact Nat.one_pos) (by omega) (by decide) (hG.2.2.1 k hk) dX3_keyAt_21 ?_
      exact x_aret C (Or.inl ⟨_, rfl⟩) (Or.inr ⟨_, rfl⟩) (po_i _ _ _ _ _ _) dX3_keyAt_22
    · skip
      rw [hG.1] at h9
      exact absurd (nI_lt hk (by omega)) h9

set_option maxRecDepth 100000 in
set_option maxHeartbeats 4000000 in
theorem c_X3_keyAt_out (l : Launch) (D : va_G) (dA : Nat → ClassId) (base n : Nat) (ad : Fa) (I : Fi) (J : Fj) (R : Fr) (hT : ST n R) (hG : KG n I R) (x : Int32) (hx : x < 0 ∨ nI n ≤ x) : CT l D dA base yX3_keyAt cX3_keyAt 2 (some (.object "KeyGraph$Key")) 0 0 0 [.ref (ad 0 0), .int x] ad (Nn n) I J R (po (some .null) ad (Nn n) I J R) := by
  refine CT.of 0 (L0 := [some (.ref (ad 0 0)), some (.int x)]) (by decide +kernel) rfl (Nat.le_of_ble_eq_true rfl) ?_
  intro p e s m args below meth c C
  refine x_iload_n C dX3_keyAt_0 rfl ?_
  refine x_if_lt C 12 dX3_keyAt_1 (by decide) (fun h1 => ?_) (fun h1 => ?_)
  · skip
    refine x_null C dX3_keyAt_12 ?_
    refine x_goto C 22 dX3_keyAt_13 (by decide) ?_
    exact x_aret C (Or.inl ⟨_, rfl⟩) (Or.inl rfl) (po_i _ _ _ _ _ _) dX3_keyAt_22
  · skip
    refine x_iload_n C dX3_keyAt_4 rfl ?_
    refine x_aload_n C dX3_keyAt_5 rfl ?_
    refine x_getI C f_X3_26 rfl (by first | assumption | exact Nat.one_pos) dX3_keyAt_6 ?_
    refine x_icmp_lt C 16 dX3_keyAt_9 (by decide) (fun h9 => ?_) (fun h9 => ?_)
    · skip
      rw [hG.1] at h9
      exact absurd h9 (hx.elim (fun q => absurd q h1) (fun q => Int32.not_lt.mpr q))
    · skip
      refine x_null C dX3_keyAt_12 ?_
      refine x_goto C 22 dX3_keyAt_13 (by decide) ?_
      exact x_aret C (Or.inl ⟨_, rfl⟩) (Or.inl rfl) (po_i _ _ _ _ _ _) dX3_keyAt_22

set_option maxRecDepth 100000 in
set_option maxHeartbeats 4000000 in
theorem c_X3_kwf_in (l : Launch) (D : va_G) (dA : Nat → ClassId) (base n : Nat) (ad : Fa) (I : Fi) (J : Fj) (R : Fr) (hT : ST n R) (hG : KG n I R) (k : Nat) (hk : k < n) (hf : ¬ I 4 k 1 = -1) : CT l D dA base yX3_keyWithFunction cX3_keyWithFunction 3 (some (.object "KeyGraph$Key")) 1 0 0 [.ref (ad 0 0), .int (nI k)] ad (Nn n) I J R (po (some (.ref (ad 4 k))) ad (Nn n) I J R) := by
  refine CT.of 1 (L0 := [some (.ref (ad 0 0)), some (.int (nI k)), none]) (by decide +kernel) rfl (Nat.le_of_ble_eq_true rfl) ?_
  intro p e s m args below meth c C
  refine x_aload_n C dX3_keyWithFunction_0 rfl ?_
  refine x_iload_n C dX3_keyWithFunction_1 rfl ?_
  refine x_cV1 C yo_X3_keyAt m_X3_56 rfl rfl (by first | assumption | exact Nat.one_pos) (c_X3_keyAt_in l D dA base n ad I J R hT hG k hk) dX3_keyWithFunction_2 rfl rfl (Nat.le_of_ble_eq_true rfl) ⟨by decide, by decide⟩ ⟨by decide, by decide⟩ ?_
  refine x_astore_n C dX3_keyWithFunction_5 (by decide) rfl rfl ?_
  refine x_aload_n C dX3_keyWithFunction_6 rfl ?_
  refine x_ifnull C dX3_keyWithFunction_7 ?_
  refine x_aload_n C dX3_keyWithFunction_10 rfl ?_
  refine x_cV1 C yo_X0_isLeaf m_X3_85 rfl rfl (by first | assumption | exact Nat.one_pos) (c_X0_isLeaf l D dA base n ad I J R hT k hk) dX3_keyWithFunction_11 rfl rfl (Nat.le_of_ble_eq_true rfl) ⟨by decide, by decide⟩ ⟨by decide, by decide⟩ ?_
  refine x_if_eq C 21 dX3_keyWithFunction_14 (by decide) (fun h14 => ?_) (fun h14 => ?_)
  · skip
    refine x_aload_n C dX3_keyWithFunction_21 rfl ?_
    exact x_aret C (Or.inl ⟨_, rfl⟩) (Or.inr ⟨_, rfl⟩) (po_i _ _ _ _ _ _) dX3_keyWithFunction_22
  · skip
    rw [if_neg hf] at h14
    exact absurd rfl h14

set_option maxRecDepth 100000 in
set_option maxHeartbeats 4000000 in
theorem c_X3_kwf_leaf (l : Launch) (D : va_G) (dA : Nat → ClassId) (base n : Nat) (ad : Fa) (I : Fi) (J : Fj) (R : Fr) (hT : ST n R) (hG : KG n I R) (k : Nat) (hk : k < n) (hf : I 4 k 1 = -1) : CT l D dA base yX3_keyWithFunction cX3_keyWithFunction 3 (some (.object "KeyGraph$Key")) 1 0 0 [.ref (ad 0 0), .int (nI k)] ad (Nn n) I J R (po (some .null) ad (Nn n) I J R) := by
  refine CT.of 1 (L0 := [some (.ref (ad 0 0)), some (.int (nI k)), none]) (by decide +kernel) rfl (Nat.le_of_ble_eq_true rfl) ?_
  intro p e s m args below meth c C
  refine x_aload_n C dX3_keyWithFunction_0 rfl ?_
  refine x_iload_n C dX3_keyWithFunction_1 rfl ?_
  refine x_cV1 C yo_X3_keyAt m_X3_56 rfl rfl (by first | assumption | exact Nat.one_pos) (c_X3_keyAt_in l D dA base n ad I J R hT hG k hk) dX3_keyWithFunction_2 rfl rfl (Nat.le_of_ble_eq_true rfl) ⟨by decide, by decide⟩ ⟨by decide, by decide⟩ ?_
  refine x_astore_n C dX3_keyWithFunction_5 (by decide) rfl rfl ?_
  refine x_aload_n C dX3_keyWithFunction_6 rfl ?_
  refine x_ifnull C dX3_keyWithFunction_7 ?_
  refine x_aload_n C dX3_keyWithFunction_10 rfl ?_
  refine x_cV1 C yo_X0_isLeaf m_X3_85 rfl rfl (by first | assumption | exact Nat.one_pos) (c_X0_isLeaf l D dA base n ad I J R hT k hk) dX3_keyWithFunction_11 rfl rfl (Nat.le_of_ble_eq_true rfl) ⟨by decide, by decide⟩ ⟨by decide, by decide⟩ ?_
  refine x_if_eq C 21 dX3_keyWithFunction_14 (by decide) (fun h14 => ?_) (fun h14 => ?_)
  · skip
    rw [if_pos hf] at h14
    exact absurd h14 (by decide)
  · skip
    refine x_null C dX3_keyWithFunction_17 ?_
    refine x_goto C 22 dX3_keyWithFunction_18 (by decide) ?_
    exact x_aret C (Or.inl ⟨_, rfl⟩) (Or.inl rfl) (po_i _ _ _ _ _ _) dX3_keyWithFunction_22

set_option maxRecDepth 100000 in
set_option maxHeartbeats 4000000 in
theorem c_X3_kwf_out (l : Launch) (D : va_G) (dA : Nat → ClassId) (base n : Nat) (ad : Fa) (I : Fi) (J : Fj) (R : Fr) (hT : ST n R) (hG : KG n I R) (x : Int32) (hx : x < 0 ∨ nI n ≤ x) : CT l D dA base yX3_keyWithFunction cX3_keyWithFunction 3 (some (.object "KeyGraph$Key")) 1 0 0 [.ref (ad 0 0), .int x] ad (Nn n) I J R (po (some .null) ad (Nn n) I J R) := by
  refine CT.of 1 (L0 := [some (.ref (ad 0 0)), some (.int x), none]) (by decide +kernel) rfl (Nat.le_of_ble_eq_true rfl) ?_
  intro p e s m args below meth c C
  refine x_aload_n C dX3_keyWithFunction_0 rfl ?_
  refine x_iload_n C dX3_keyWithFunction_1 rfl ?_
  refine x_cV1 C yo_X3_keyAt m_X3_56 rfl rfl (by first | assumption | exact Nat.one_pos) (c_X3_keyAt_out l D dA base n ad I J R hT hG x hx) dX3_keyWithFunction_2 rfl rfl (Nat.le_of_ble_eq_true rfl) ⟨by decide, by decide⟩ ⟨by decide, by decide⟩ ?_
  refine x_astore_nN C dX3_keyWithFunction_5 (by decide) rfl rfl ?_
  refine x_aload_nN C dX3_keyWithFunction_6 rfl ?_
  refine x_ifnullN C 17 dX3_keyWithFunction_7 (by decide) ?_
  refine x_null C dX3_keyWithFunction_17 ?_
  refine x_goto C 22 dX3_keyWithFunction_18 (by decide) ?_
  exact x_aret C (Or.inl ⟨_, rfl⟩) (Or.inl rfl) (po_i _ _ _ _ _ _) dX3_keyWithFunction_22

set_option maxRecDepth 100000 in
set_option maxHeartbeats 4000000 in
theorem c_X3_isWorker (l : Launch) (D : va_G) (dA : Nat → ClassId) (base n : Nat) (ad : Fa) (I : Fi) (J : Fj) (R : Fr) (x : Int32) : CT l D dA base yX3_isWorker cX3_isWorker 1 (some .boolean) 0 0 0 [.int x] ad (Nn n) I J R (po (some (.int (if 0 ≤ x ∧ x < 4 then 1 else 0))) ad (Nn n) I J R) := by
  refine CT.of 0 (L0 := [some (.int x)]) (by decide +kernel) rfl (Nat.le_of_ble_eq_true rfl) ?_
  intro p e s m args below meth c C
  refine x_iload_n C dX3_isWorker_0 rfl ?_
  refine x_if_lt C 13 dX3_isWorker_1 (by decide) (fun h1 => ?_) (fun h1 => ?_)
  · skip
    refine x_iconst C 0 (by decide) dX3_isWorker_13 ?_
    exact x_zret C (by first | exact Or.inl rfl | exact Or.inr rfl | assumption) (po_r (by rw [if_neg (fun z => absurd h1 (Int32.not_lt.mpr z.1))])) dX3_isWorker_14
  · skip
    refine x_iload_n C dX3_isWorker_4 rfl ?_
    refine x_iconst C 4 (by decide) dX3_isWorker_5 ?_
    refine x_icmp_ge C 13 dX3_isWorker_6 (by decide) (fun h6 => ?_) (fun h6 => ?_)
    · skip
      refine x_iconst C 0 (by decide) dX3_isWorker_13 ?_
      exact x_zret C (by first | exact Or.inl rfl | exact Or.inr rfl | assumption) (po_r (by rw [if_neg (fun z => absurd z.2 (Int32.not_lt.mpr h6))])) dX3_isWorker_14
    · skip
      refine x_iconst C 1 (by decide) dX3_isWorker_9 ?_
      refine x_goto C 14 dX3_isWorker_10 (by decide) ?_
      exact x_zret C (by first | exact Or.inl rfl | exact Or.inr rfl | assumption) (po_r (by rw [if_pos ⟨Int32.not_lt.mp h1, Int32.not_le.mp h6⟩])) dX3_isWorker_14

set_option maxRecDepth 100000 in
set_option maxHeartbeats 4000000 in
theorem c_X3_isSure (l : Launch) (D : va_G) (dA : Nat → ClassId) (base n : Nat) (ad : Fa) (I : Fi) (J : Fj) (R : Fr) (hT : ST n R) (i : Nat) (hi : i < n) : CT l D dA base yX3_isSure cX3_isSure 2 (some .boolean) 1 0 0 [.ref (ad 0 0), .ref (ad 4 i)] ad (Nn n) I J R (po (some (.int (if sure I i = true then 1 else 0))) ad (Nn n) I J R) := by
  refine CT.of 0 (L0 := [some (.ref (ad 0 0)), some (.ref (ad 4 i))]) (by decide +kernel) rfl (Nat.le_of_ble_eq_true rfl) ?_
  intro p e s m args below meth c C
  refine x_aload_n C dX3_isSure_0 rfl ?_
  refine x_cV1 C yo_X0_isLeaf m_X3_85 rfl rfl (by first | assumption | exact Nat.one_pos) (c_X0_isLeaf l D dA base n ad I J R hT i hi) dX3_isSure_1 rfl rfl (Nat.le_of_ble_eq_true rfl) ⟨by decide, by decide⟩ ⟨by decide, by decide⟩ ?_
  refine x_if_ne C 25 dX3_isSure_4 (by decide) (fun h4 => ?_) (fun h4 => ?_)
  · skip
    refine x_iconst C 1 (by decide) dX3_isSure_25 ?_
    refine x_goto C 30 dX3_isSure_26 (by decide) ?_
    exact x_zret C (by first | exact Or.inl rfl | exact Or.inr rfl | assumption) (po_r (by simp only [sure, decide_eq_true_eq]; simp_all)) dX3_isSure_30
  · skip
    refine x_aload_n C dX3_isSure_7 rfl ?_
    refine x_getI C f_X3_139 rfl (by first | assumption | exact Nat.one_pos) dX3_isSure_8 ?_
    refine x_if_eq C 29 dX3_isSure_11 (by decide) (fun h11 => ?_) (fun h11 => ?_)
    · skip
      refine x_iconst C 0 (by decide) dX3_isSure_29 ?_
      exact x_zret C (by first | exact Or.inl rfl | exact Or.inr rfl | assumption) (po_r (by simp only [sure, decide_eq_true_eq]; simp_all)) dX3_isSure_30
    · skip
      refine x_aload_n C dX3_isSure_14 rfl ?_
      refine x_getI C f_X3_149 rfl (by first | assumption | exact Nat.one_pos) dX3_isSure_15 ?_
      refine x_aload_n C dX3_isSure_18 rfl ?_
      refine x_getI C f_X3_42 rfl (by first | assumption | exact Nat.one_pos) dX3_isSure_19 ?_
      refine x_icmp_ne C 29 dX3_isSure_22 (by decide) (fun h22 => ?_) (fun h22 => ?_)
      · skip
        refine x_iconst C 0 (by decide) dX3_isSure_29 ?_
        exact x_zret C (by first | exact Or.inl rfl | exact Or.inr rfl | assumption) (po_r (by simp only [sure, decide_eq_true_eq]; simp_all)) dX3_isSure_30
      · skip
        refine x_iconst C 1 (by decide) dX3_isSure_25 ?_
        refine x_goto C 30 dX3_isSure_26 (by decide) ?_
        exact x_zret C (by first | exact Or.inl rfl | exact Or.inr rfl | assumption) (po_r (by simp only [sure, decide_eq_true_eq]; simp_all)) dX3_isSure_30

set_option maxRecDepth 100000 in
set_option maxHeartbeats 4000000 in
theorem c_X3_makeSure (l : Launch) (D : va_G) (dA : Nat → ClassId) (base n : Nat) (ad : Fa) (I : Fi) (J : Fj) (R : Fr) (hT : ST n R) (p0 z i : Nat) (hp : p0 < 5) (hs : I 9 p0 1 = nI (z + 1)) (hz : z < 40) (hk : R 10 p0 z = some i) (hi : i < n) : CT l D dA base yX3_makeSure cX3_makeSure 3 none 2 0 0 [.ref (ad 0 0), .ref (ad 4 i), .ref (ad 9 p0)] ad (Nn n) I J R (po none ad (Nn n) (ttI (up3 I 4 i 11 (I 0 0 2)) p0 i z) J R) := by
  refine CT.of 0 (L0 := [some (.ref (ad 0 0)), some (.ref (ad 4 i)), some (.ref (ad 9 p0))]) (by decide +kernel) rfl (Nat.le_of_ble_eq_true rfl) ?_
  intro p e s m args below meth c C
  refine x_aload_n C dX3_makeSure_0 rfl ?_
  refine x_aload_n C dX3_makeSure_1 rfl ?_
  refine x_getI C f_X3_42 rfl (by first | assumption | exact Nat.one_pos) dX3_makeSure_2 ?_
  refine x_putI C g_X3_149 rfl (by first | assumption | exact Nat.one_pos) dX3_makeSure_5 ?_
  refine x_aload_n C dX3_makeSure_8 rfl ?_
  refine x_cV0 C yo_X1_takeTopmost m_X3_222 rfl rfl (by first | assumption | exact Nat.one_pos) (c_X1_takeTopmost l D dA base n ad (up3 I 4 i 11 (I 0 0 2)) J R hT p0 z i hp (by rw [up3_c _ _ _ _ _ (by decide)]; exact hs) hz hk hi) dX3_makeSure_9 rfl rfl (Nat.le_of_ble_eq_true rfl) ⟨by decide, by decide⟩ ⟨by decide, by decide⟩ ?_
  exact x_vret C (po_i _ _ _ _ _ _) dX3_makeSure_12

set_option maxRecDepth 100000 in
set_option maxHeartbeats 4000000 in
theorem c_X3_findFirst_w (l : Launch) (D : va_G) (dA : Nat → ClassId) (base n : Nat) (ad : Fa) (I : Fi) (J : Fj) (R : Fr) (hT : ST n R) (i p0 : Nat) (hi : i < n) (hp : p0 < 5) (hq : ¬ I 4 i 16 = 0) : CT l D dA base yX3_findFirst cX3_findFirst 2 (some .int) 3 0 0 [.ref (ad 4 i), .ref (ad 9 p0)] ad (Nn n) I J R (po (some (.int 3)) ad (Nn n) I J R) := by
  refine CT.of 0 (L0 := [some (.ref (ad 4 i)), some (.ref (ad 9 p0))]) (by decide +kernel) rfl (Nat.le_of_ble_eq_true rfl) ?_
  intro p e s m args below meth c C
  refine x_aload_n C dX3_findFirst_0 rfl ?_
  refine x_getI C f_X3_103 rfl (by first | assumption | exact Nat.one_pos) dX3_findFirst_1 ?_
  refine x_if_eq C 9 dX3_findFirst_4 (by decide) (fun h4 => ?_) (fun h4 => ?_)
  · skip
    exact absurd h4 hq
  · skip
    refine x_iconst C 3 (by decide) dX3_findFirst_7 ?_
    exact x_iret C (po_i _ _ _ _ _ _) dX3_findFirst_8

set_option maxRecDepth 100000 in
set_option maxHeartbeats 4000000 in
theorem c_X3_findFirst_p (l : Launch) (D : va_G) (dA : Nat → ClassId) (base n : Nat) (ad : Fa) (I : Fi) (J : Fj) (R : Fr) (hT : ST n R) (i p0 z : Nat) (hi : i < n) (hp : p0 < 5) (hq : I 4 i 16 = 0) (hs : I 9 p0 1 = nI z) (hz : z < 40) : CT l D dA base yX3_findFirst cX3_findFirst 2 (some .int) 3 0 0 [.ref (ad 4 i), .ref (ad 9 p0)] ad (Nn n) I J R (po (some (.int 1)) ad (Nn n) (putI I p0 i z) (up3 J 7 i 3 0) (up3 R 10 p0 z (some i))) := by
  refine CT.of 0 (L0 := [some (.ref (ad 4 i)), some (.ref (ad 9 p0))]) (by decide +kernel) rfl (Nat.le_of_ble_eq_true rfl) ?_
  intro p e s m args below meth c C
  refine x_aload_n C dX3_findFirst_0 rfl ?_
  refine x_getI C f_X3_103 rfl (by first | assumption | exact Nat.one_pos) dX3_findFirst_1 ?_
  refine x_if_eq C 9 dX3_findFirst_4 (by decide) (fun h4 => ?_) (fun h4 => ?_)
  · skip
    refine x_aload_n C dX3_findFirst_9 rfl ?_
    refine x_aload_n C dX3_findFirst_10 rfl ?_
    refine x_cV0 C yo_X1_put m_X3_106 rfl rfl (by first | assumption | exact Nat.one_pos) (c_X1_put l D dA base n ad I J R hT p0 i z hp hi hs hz) dX3_findFirst_11 rfl rfl (Nat.le_of_ble_eq_true rfl) ⟨by decide, by decide⟩ ⟨by decide, by decide⟩ ?_
    refine x_iconst C 1 (by decide) dX3_findFirst_14 ?_
    exact x_iret C (po_i _ _ _ _ _ _) dX3_findFirst_15
  · skip
    exact absurd hq h4
end
section
/-! KeyGraph's own steps: all piles emptied, a work ended, a check or a work goes on -/
theorem up3_r {α : Type} (f : Nat → Nat → Nat → α) (c i k : Nat) (v : α) (a b d : Nat) : up3 f c i k v a b d = if a = c ∧ b = i ∧ d = k then v else f a b d := rfl
theorem x_ldc {p : Program} {l : Launch} {e : Env} {Rm : Room} {s : State} {m : MethodId} {args : Array Value} {below : List Frame} {meth : Method} {c : Code} {Q : State → Prop} {cc : ByteArray} {own : String} {ret : Option FieldType} {D : va_G} {dA : Nat → ClassId} {base nL : Nat} {ad : Fa} {N : Nat → Nat} {I : Fi} {J : Fj} {R : Fr} {nc ns pc : Nat} {L : List (Option Value)} {st : List Value} (C : CX p s m args meth c cc nL own ret D dA base) {index : Nat} (v : Int32) (hk : Cond.constant own index v ∈ lw_gd) (d : decode cc pc = .ok (.ldc index, 2)) (k : GX p l e Rm s m args below meth c Q D dA base nL ad N I J R nc ns (pc + 2) L (.int v :: st)) : GX p l e Rm s m args below meth c Q D dA base nL ad N I J R nc ns pc L st := fun H locs ls hH hS hl => lv_ldc C.1 C.2.1 C.2.2.2.1 (C.2.2.2.2.1 _ hk) d (k H locs ls hH hS hl)
theorem tka_o (R : Fr) (p0 : Nat) : ∀ (z : Nat) (I : Fi) (c b d : Nat), ¬ (c = 4 ∧ d = 16) → ¬ (c = 9 ∧ b = p0 ∧ d = 1) → tka R p0 z I c b d = I c b d
  | 0, I, c, b, d, _, _ => rfl
  | z + 1, I, c, b, d, h1, h2 => by
    rw [tka, tka_o R p0 z _ c b d h1 h2]
    unfold ttI
    rw [up3_n _ _ _ _ _ h2, up3_n _ _ _ _ _ (fun q => h1 ⟨q.1, q.2.2⟩)]
/-- the piles 0 .. t - 1 are emptied -/
def epS (R : Fr) (zs : Nat → Nat) (I : Fi) : Nat → Fi
  | 0 => I
  | t + 1 => tka R t (zs t) (epS R zs I t)
def esum (zs : Nat → Nat) : Nat → Nat
  | 0 => 0
  | t + 1 => esum zs t + zs t
theorem epS_9 (R : Fr) (zs : Nat → Nat) (I : Fi) : ∀ (t q : Nat), t ≤ q → epS R zs I t 9 q 1 = I 9 q 1
  | 0, q, _ => rfl
  | t + 1, q, h => by
    rw [epS, tka_o _ _ _ _ _ _ _ (by omega) (by omega), epS_9 R zs I t q (by omega)]
/-- what the piles hold -/
def PL (n : Nat) (I : Fi) (R : Fr) (zs : Nat → Nat) : Prop := ∀ q, q < 5 → I 9 q 1 = nI (zs q) ∧ zs q ≤ 40 ∧ ∀ j, j < zs q → ∃ k, R 10 q j = some k ∧ k < n
set_option maxRecDepth 100000 in
set_option maxHeartbeats 4000000 in
theorem c_X3_emptyPiles (l : Launch) (D : va_G) (dA : Nat → ClassId) (base n : Nat) (ad : Fa) (I : Fi) (J : Fj) (R : Fr) (hT : ST n R) (hG : KG n I R) (zs : Nat → Nat) (hP : PL n I R zs) : CT l D dA base yX3_emptyPiles cX3_emptyPiles 3 (some .int) 3 0 0 [.ref (ad 0 0)] ad (Nn n) I J R (po (some (.int (nI (esum zs 5)))) ad (Nn n) (epS R zs I 5) J R) := by
  refine CT.of 2 (L0 := [some (.ref (ad 0 0)), none, none]) (by decide +kernel) rfl (Nat.le_of_ble_eq_true rfl) ?_
  intro p e s m args below meth c C
  have loop : ∀ (f t : Nat), t + f = 5 → GX p l e (rmX 3 0 0) s m args below meth c (MQ below (CQ D dA base (po (some (.int (nI (esum zs 5)))) ad (Nn n) (epS R zs I 5) J R)) args s 0 0 (fun q => base ≤ q)) D dA base 3 ad (Nn n) (epS R zs I t) J R 0 0 4 [some (.ref (ad 0 0)), some (.int (nI (esum zs t))), some (.int (nI t))] [] := by
    intro f
    induction f with
    | zero =>
      intro t ht
      have ht2 : t = 5 := by omega
      subst ht2
      refine x_iload_n C dX3_emptyPiles_4 rfl ?_
      refine x_aload_n C dX3_emptyPiles_5 rfl ?_
      refine x_getF C hT f_X3_17 rfl rfl (by first | assumption | exact Nat.one_pos) dX3_emptyPiles_6 ?_
      refine x_alen C 5 rfl rfl (by decide) (by first | assumption | exact Nat.one_pos) dX3_emptyPiles_9 ?_
      refine x_icmp_ge C 31 dX3_emptyPiles_10 (by decide) (fun h10 => ?_) (fun h10 => ?_)
      · skip
        refine x_iload_n C dX3_emptyPiles_31 rfl ?_
        exact x_iret C (po_i _ _ _ _ _ _) dX3_emptyPiles_32
      · skip
        exact absurd (Int32.le_refl _) h10
    | succ f ih =>
      intro t ht
      have ht5 : t < 5 := by omega
      obtain ⟨h9, hz40, hent⟩ := hP t ht5
      refine x_iload_n C dX3_emptyPiles_4 rfl ?_
      refine x_aload_n C dX3_emptyPiles_5 rfl ?_
      refine x_getF C hT f_X3_17 rfl rfl (by first | assumption | exact Nat.one_pos) dX3_emptyPiles_6 ?_
      refine x_alen C 5 rfl rfl (by decide) (by first | assumption | exact Nat.one_pos) dX3_emptyPiles_9 ?_
      refine x_icmp_ge C 31 dX3_emptyPiles_10 (by decide) (fun h10 => ?_) (fun h10 => ?_)
      · skip
        exact absurd h10 (nI_ge (b := 5) ht5 (by decide))
      · skip
        refine x_iload_n C dX3_emptyPiles_13 rfl ?_
        refine x_aload_n C dX3_emptyPiles_14 rfl ?_
        refine x_getF C hT f_X3_17 rfl rfl (by first | assumption | exact Nat.one_pos) dX3_emptyPiles_15 ?_
        refine x_iload_n C dX3_emptyPiles_18 rfl ?_
        refine x_aaldS C (t) rfl rfl rfl rfl (by first | assumption | exact Nat.one_pos) ht5 (by decide) (hG.2.2.2.1 t ht5) dX3_emptyPiles_19 ?_
        refine x_cV1 C yo_X1_takeAll m_X3_152 rfl rfl (by first | assumption | exact Nat.one_pos) (c_X1_takeAll l D dA base n ad (epS R zs I t) J R hT t (zs t) ht5 (by rw [epS_9 _ _ _ _ _ (Nat.le_refl _)]; exact h9) hz40 hent) dX3_emptyPiles_20 rfl rfl (Nat.le_of_ble_eq_true rfl) ⟨by decide, by decide⟩ ⟨by decide, by decide⟩ ?_
        refine x_iadd C dX3_emptyPiles_23 ?_
        refine x_istore_n C dX3_emptyPiles_24 (by decide) rfl rfl ?_
        refine x_iinc C _ dX3_emptyPiles_25 rfl rfl (by decide) rfl rfl ?_
        refine x_goto C 4 dX3_emptyPiles_28 (by decide) ?_
        exact x_eqL (ih (t + 1) (by omega)) rfl (by rw [esum, ← nI_add, ← nI_1]; rfl) rfl rfl rfl rfl
  refine x_iconst C 0 (by decide) dX3_emptyPiles_0 ?_
  refine x_istore_n C dX3_emptyPiles_1 (by decide) rfl rfl ?_
  refine x_iconst C 0 (by decide) dX3_emptyPiles_2 ?_
  refine x_istore_n C dX3_emptyPiles_3 (by decide) rfl rfl ?_
  exact loop 5 0 (by omega)

def nvI (R : Fr) (zs : Nat → Nat) (I : Fi) : Fi := epS R zs (up3 I 0 0 2 (I 0 0 2 + 1)) 5
theorem KG.up {n : Nat} {I : Fi} {R : Fr} (h : KG n I R) {c i k : Nat} {v : Int32} (h1 : ¬ (c = 0 ∧ k = 1)) (h2 : ¬ (c = 4 ∧ k = 0)) : KG n (up3 I c i k v) R := ⟨by rw [up3_n _ _ _ _ _ (fun z => h1 ⟨z.1.symm, z.2.2.symm⟩)]; exact h.1, h.2.1, h.2.2.1, h.2.2.2.1, fun q hq => by rw [up3_n _ _ _ _ _ (fun z => h2 ⟨z.1.symm, z.2.2.symm⟩)]; exact h.2.2.2.2 q hq⟩
theorem PL.up {n : Nat} {I : Fi} {R : Fr} {zs : Nat → Nat} (h : PL n I R zs) {c i k : Nat} {v : Int32} (h1 : ¬ c = 9) : PL n (up3 I c i k v) R zs := fun q hq => ⟨by rw [up3_c _ _ _ _ _ (Ne.symm h1)]; exact (h q hq).1, (h q hq).2⟩
set_option maxRecDepth 100000 in
set_option maxHeartbeats 4000000 in
theorem c_X3_goToNextVersion (l : Launch) (D : va_G) (dA : Nat → ClassId) (base n : Nat) (ad : Fa) (I : Fi) (J : Fj) (R : Fr) (hT : ST n R) (hG : KG n I R) (zs : Nat → Nat) (hP : PL n I R zs) : CT l D dA base yX3_goToNextVersion cX3_goToNextVersion 1 none 4 0 0 [.ref (ad 0 0)] ad (Nn n) I J R (po none ad (Nn n) (nvI R zs I) J R) := by
  refine CT.of 0 (L0 := [some (.ref (ad 0 0))]) (by decide +kernel) rfl (Nat.le_of_ble_eq_true rfl) ?_
  intro p e s m args below meth c C
  refine x_aload_n C dX3_goToNextVersion_0 rfl ?_
  refine x_dup C rfl dX3_goToNextVersion_1 ?_
  refine x_getI C f_X3_42 rfl (by first | assumption | exact Nat.one_pos) dX3_goToNextVersion_2 ?_
  refine x_iconst C 1 (by decide) dX3_goToNextVersion_5 ?_
  refine x_iadd C dX3_goToNextVersion_6 ?_
  refine x_putI C g_X3_42 rfl (by first | assumption | exact Nat.one_pos) dX3_goToNextVersion_7 ?_
  refine x_aload_n C dX3_goToNextVersion_10 rfl ?_
  refine x_cV1 C yo_X3_emptyPiles m_X3_114 rfl rfl (by first | assumption | exact Nat.one_pos) (c_X3_emptyPiles l D dA base n ad (up3 I 0 0 2 (I 0 0 2 + 1)) J R hT (hG.up (by decide) (by decide)) zs (hP.up (by decide))) dX3_goToNextVersion_11 rfl rfl (Nat.le_of_ble_eq_true rfl) ⟨by decide, by decide⟩ ⟨by decide, by decide⟩ ?_
  refine x_pop C rfl dX3_goToNextVersion_14 ?_
  exact x_vret C (po_i _ _ _ _ _ _) dX3_goToNextVersion_15

/-- a work of the key i, topmost of the pile p0 of z + 1, ends with x and v, after k asked -/
def ewI (I : Fi) (J : Fj) (i p0 z k : Nat) (x : Int32) (v : Int64) : Fi := ttI (up3 (kapS (up3 (up3 (up3 (up3 I 4 i 9 (if ¬ I 4 i 10 = 0 ∧ I 4 i 7 = x ∧ J 4 i 8 = v then I 4 i 9 else I 0 0 2)) 4 i 7 x) 4 i 10 1) 4 i 14 (I 4 i 14 + 1)) i k k) 4 i 11 (I 0 0 2)) p0 i z
theorem kapS_n (I : Fi) (i k t : Nat) {c b d : Nat} (h1 : ¬ (c = 6 ∧ b = i)) (h2 : ¬ (c = 4 ∧ b = i ∧ d = 13)) : kapS I i k t c b d = I c b d := by
  simp only [kapS]
  rw [if_neg (fun z => h1 ⟨z.1, z.2.1⟩), up3_n _ _ _ _ _ h2]
set_option maxRecDepth 100000 in
set_option maxHeartbeats 4000000 in
theorem c_X3_endWork_v (l : Launch) (D : va_G) (dA : Nat → ClassId) (base n : Nat) (ad : Fa) (I : Fi) (J : Fj) (R : Fr) (hT : ST n R) (i p0 z k f : Nat) (hi : i < n) (hp : p0 < 5) (hs : I 9 p0 1 = nI (z + 1)) (hz : z < 40) (ht : R 10 p0 z = some i) (hk : I 7 i 1 = nI k) (hk8 : k ≤ 8) (hf : I 4 i 1 = nI f) (hf6 : f < 6) : CT l D dA base yX3_endWork cX3_endWork 6 none 3 0 0 [.ref (ad 0 0), .ref (ad 4 i), .ref (ad 9 p0), .int 1] ad (Nn n) I J R (po none ad (Nn n) (ewI I J i p0 z k 1 (rsl f (J 7 i 3))) (up3 J 4 i 8 (rsl f (J 7 i 3))) R) := by
  refine CT.of 2 (L0 := [some (.ref (ad 0 0)), some (.ref (ad 4 i)), some (.ref (ad 9 p0)), some (.int 1), none, none]) (by decide +kernel) rfl (Nat.le_of_ble_eq_true rfl) ?_
  intro p e s m args below meth c C
  refine x_iload_n C dX3_endWork_0 rfl ?_
  refine x_iconst C 1 (by decide) dX3_endWork_1 ?_
  refine x_icmp_ne C 16 dX3_endWork_2 (by decide) (fun h2 => ?_) (fun h2 => ?_)
  · skip
    exact absurd rfl h2
  · skip
    refine x_aload_n C dX3_endWork_5 rfl ?_
    refine x_getF C hT f_X3_167 rfl rfl (by first | assumption | exact Nat.one_pos) dX3_endWork_6 ?_
    refine x_aload_n C dX3_endWork_9 rfl ?_
    refine x_cV1 C yo_X2_result m_X3_215 rfl rfl (by first | assumption | exact Nat.one_pos) (c_X2_result l D dA base n ad I J R hT i f hi hf hf6) dX3_endWork_10 rfl rfl (Nat.le_of_ble_eq_true rfl) ⟨by decide, by decide⟩ ⟨by decide, by decide⟩ ?_
    refine x_goto C 17 dX3_endWork_13 (by decide) ?_
    refine x_lstore C dX3_endWork_17 (by decide) rfl rfl ?_
    refine x_aload_n C dX3_endWork_19 rfl ?_
    refine x_getI C f_X3_139 rfl (by first | assumption | exact Nat.one_pos) dX3_endWork_20 ?_
    try simp only [up3_r, Nat.reduceEqDiff, and_false, false_and, and_self, and_true, true_and, reduceIte]
    refine x_if_eq C 44 dX3_endWork_23 (by decide) (fun h23 => ?_) (fun h23 => ?_)
    · skip
      refine x_aload_n C dX3_endWork_44 rfl ?_
      refine x_aload_n C dX3_endWork_45 rfl ?_
      refine x_getI C f_X3_42 rfl (by first | assumption | exact Nat.one_pos) dX3_endWork_46 ?_
      try simp only [up3_r, Nat.reduceEqDiff, and_false, false_and, and_self, and_true, true_and, reduceIte]
      refine x_putI C g_X3_45 rfl (by first | assumption | exact Nat.one_pos) dX3_endWork_49 ?_
      refine x_aload_n C dX3_endWork_52 rfl ?_
      refine x_iload_n C dX3_endWork_53 rfl ?_
      refine x_putI C g_X3_35 rfl (by first | assumption | exact Nat.one_pos) dX3_endWork_54 ?_
      refine x_aload_n C dX3_endWork_57 rfl ?_
      refine x_lload C dX3_endWork_58 rfl ?_
      refine x_putJ C g_X3_38 rfl (by first | assumption | exact Nat.one_pos) dX3_endWork_60 ?_
      refine x_aload_n C dX3_endWork_63 rfl ?_
      refine x_iconst C 1 (by decide) dX3_endWork_64 ?_
      refine x_putZ C g_X3_139 rfl (by first | assumption | exact Nat.one_pos) (by first | exact Or.inl rfl | exact Or.inr rfl | assumption) dX3_endWork_65 ?_
      refine x_aload_n C dX3_endWork_68 rfl ?_
      refine x_dup C rfl dX3_endWork_69 ?_
      refine x_getI C f_X3_133 rfl (by first | assumption | exact Nat.one_pos) dX3_endWork_70 ?_
      try simp only [up3_r, Nat.reduceEqDiff, and_false, false_and, and_self, and_true, true_and, reduceIte]
      refine x_iconst C 1 (by decide) dX3_endWork_73 ?_
      refine x_iadd C dX3_endWork_74 ?_
      refine x_putI C g_X3_133 rfl (by first | assumption | exact Nat.one_pos) dX3_endWork_75 ?_
      refine x_aload_n C dX3_endWork_78 rfl ?_
      refine x_cV0 C yo_X0_keepAskedPlaces m_X3_219 rfl rfl (by first | assumption | exact Nat.one_pos) (c_X0_keepAskedPlaces l D dA base n ad (up3 (up3 (up3 (up3 I 4 i 9 (I 0 0 2)) 4 i 7 1) 4 i 10 1) 4 i 14 (I 4 i 14 + 1)) (up3 J 4 i 8 (rsl f (J 7 i 3))) R hT i k hi (by simp [up3, hk]) hk8) dX3_endWork_79 rfl rfl (Nat.le_of_ble_eq_true rfl) ⟨by decide, by decide⟩ ⟨by decide, by decide⟩ ?_
      refine x_aload_n C dX3_endWork_82 rfl ?_
      refine x_aload_n C dX3_endWork_83 rfl ?_
      refine x_aload_n C dX3_endWork_84 rfl ?_
      refine x_cV0 C yo_X3_makeSure m_X3_187 rfl rfl (by first | assumption | exact Nat.one_pos) (c_X3_makeSure l D dA base n ad (kapS (up3 (up3 (up3 (up3 I 4 i 9 (I 0 0 2)) 4 i 7 1) 4 i 10 1) 4 i 14 (I 4 i 14 + 1)) i k k) (up3 J 4 i 8 (rsl f (J 7 i 3))) R hT p0 z i hp (by rw [kapS_n _ _ _ _ (by omega) (by omega)]; simp [up3, hs]) hz ht hi) dX3_endWork_85 rfl rfl (Nat.le_of_ble_eq_true rfl) ⟨by decide, by decide⟩ ⟨by decide, by decide⟩ ?_
      exact x_vret C (⟨rfl, rfl, rfl, by (unfold ewI; rw [if_neg (fun z => z.1 h23), kapS_n _ _ _ _ (by omega) (by omega)]; simp [up3]), rfl, rfl⟩) dX3_endWork_88
    · skip
      refine x_aload_n C dX3_endWork_26 rfl ?_
      refine x_getI C f_X3_35 rfl (by first | assumption | exact Nat.one_pos) dX3_endWork_27 ?_
      try simp only [up3_r, Nat.reduceEqDiff, and_false, false_and, and_self, and_true, true_and, reduceIte]
      refine x_iload_n C dX3_endWork_30 rfl ?_
      refine x_icmp_ne C 44 dX3_endWork_31 (by decide) (fun h31 => ?_) (fun h31 => ?_)
      · skip
        refine x_aload_n C dX3_endWork_44 rfl ?_
        refine x_aload_n C dX3_endWork_45 rfl ?_
        refine x_getI C f_X3_42 rfl (by first | assumption | exact Nat.one_pos) dX3_endWork_46 ?_
        try simp only [up3_r, Nat.reduceEqDiff, and_false, false_and, and_self, and_true, true_and, reduceIte]
        refine x_putI C g_X3_45 rfl (by first | assumption | exact Nat.one_pos) dX3_endWork_49 ?_
        refine x_aload_n C dX3_endWork_52 rfl ?_
        refine x_iload_n C dX3_endWork_53 rfl ?_
        refine x_putI C g_X3_35 rfl (by first | assumption | exact Nat.one_pos) dX3_endWork_54 ?_
        refine x_aload_n C dX3_endWork_57 rfl ?_
        refine x_lload C dX3_endWork_58 rfl ?_
        refine x_putJ C g_X3_38 rfl (by first | assumption | exact Nat.one_pos) dX3_endWork_60 ?_
        refine x_aload_n C dX3_endWork_63 rfl ?_
        refine x_iconst C 1 (by decide) dX3_endWork_64 ?_
        refine x_putZ C g_X3_139 rfl (by first | assumption | exact Nat.one_pos) (by first | exact Or.inl rfl | exact Or.inr rfl | assumption) dX3_endWork_65 ?_
        refine x_aload_n C dX3_endWork_68 rfl ?_
        refine x_dup C rfl dX3_endWork_69 ?_
        refine x_getI C f_X3_133 rfl (by first | assumption | exact Nat.one_pos) dX3_endWork_70 ?_
        try simp only [up3_r, Nat.reduceEqDiff, and_false, false_and, and_self, and_true, true_and, reduceIte]
        refine x_iconst C 1 (by decide) dX3_endWork_73 ?_
        refine x_iadd C dX3_endWork_74 ?_
        refine x_putI C g_X3_133 rfl (by first | assumption | exact Nat.one_pos) dX3_endWork_75 ?_
        refine x_aload_n C dX3_endWork_78 rfl ?_
        refine x_cV0 C yo_X0_keepAskedPlaces m_X3_219 rfl rfl (by first | assumption | exact Nat.one_pos) (c_X0_keepAskedPlaces l D dA base n ad (up3 (up3 (up3 (up3 I 4 i 9 (I 0 0 2)) 4 i 7 1) 4 i 10 1) 4 i 14 (I 4 i 14 + 1)) (up3 J 4 i 8 (rsl f (J 7 i 3))) R hT i k hi (by simp [up3, hk]) hk8) dX3_endWork_79 rfl rfl (Nat.le_of_ble_eq_true rfl) ⟨by decide, by decide⟩ ⟨by decide, by decide⟩ ?_
        refine x_aload_n C dX3_endWork_82 rfl ?_
        refine x_aload_n C dX3_endWork_83 rfl ?_
        refine x_aload_n C dX3_endWork_84 rfl ?_
        refine x_cV0 C yo_X3_makeSure m_X3_187 rfl rfl (by first | assumption | exact Nat.one_pos) (c_X3_makeSure l D dA base n ad (kapS (up3 (up3 (up3 (up3 I 4 i 9 (I 0 0 2)) 4 i 7 1) 4 i 10 1) 4 i 14 (I 4 i 14 + 1)) i k k) (up3 J 4 i 8 (rsl f (J 7 i 3))) R hT p0 z i hp (by rw [kapS_n _ _ _ _ (by omega) (by omega)]; simp [up3, hs]) hz ht hi) dX3_endWork_85 rfl rfl (Nat.le_of_ble_eq_true rfl) ⟨by decide, by decide⟩ ⟨by decide, by decide⟩ ?_
        exact x_vret C (⟨rfl, rfl, rfl, by (unfold ewI; rw [if_neg (fun z => h31 z.2.1), kapS_n _ _ _ _ (by omega) (by omega)]; simp [up3]), rfl, rfl⟩) dX3_endWork_88
      · skip
        refine x_aload_n C dX3_endWork_34 rfl ?_
        refine x_getJ C f_X3_38 rfl (by first | assumption | exact Nat.one_pos) dX3_endWork_35 ?_
        try simp only [up3_r, Nat.reduceEqDiff, and_false, false_and, and_self, and_true, true_and, reduceIte]
        refine x_lload C dX3_endWork_38 rfl ?_
        refine x_lcmp C dX3_endWork_40 ?_
        refine x_if_eq C 52 dX3_endWork_41 (by decide) (fun h41 => ?_) (fun h41 => ?_)
        · skip
          rw [lg_cmp_eq] at h41
          refine x_aload_n C dX3_endWork_52 rfl ?_
          refine x_iload_n C dX3_endWork_53 rfl ?_
          refine x_putI C g_X3_35 rfl (by first | assumption | exact Nat.one_pos) dX3_endWork_54 ?_
          refine x_aload_n C dX3_endWork_57 rfl ?_
          refine x_lload C dX3_endWork_58 rfl ?_
          refine x_putJ C g_X3_38 rfl (by first | assumption | exact Nat.one_pos) dX3_endWork_60 ?_
          refine x_aload_n C dX3_endWork_63 rfl ?_
          refine x_iconst C 1 (by decide) dX3_endWork_64 ?_
          refine x_putZ C g_X3_139 rfl (by first | assumption | exact Nat.one_pos) (by first | exact Or.inl rfl | exact Or.inr rfl | assumption) dX3_endWork_65 ?_
          refine x_aload_n C dX3_endWork_68 rfl ?_
          refine x_dup C rfl dX3_endWork_69 ?_
          refine x_getI C f_X3_133 rfl (by first | assumption | exact Nat.one_pos) dX3_endWork_70 ?_
          try simp only [up3_r, Nat.reduceEqDiff, and_false, false_and, and_self, and_true, true_and, reduceIte]
          refine x_iconst C 1 (by decide) dX3_endWork_73 ?_
          refine x_iadd C dX3_endWork_74 ?_
          refine x_putI C g_X3_133 rfl (by first | assumption | exact Nat.one_pos) dX3_endWork_75 ?_
          refine x_aload_n C dX3_endWork_78 rfl ?_
          refine x_cV0 C yo_X0_keepAskedPlaces m_X3_219 rfl rfl (by first | assumption | exact Nat.one_pos) (c_X0_keepAskedPlaces l D dA base n ad (up3 (up3 (up3 I 4 i 7 1) 4 i 10 1) 4 i 14 (I 4 i 14 + 1)) (up3 J 4 i 8 (rsl f (J 7 i 3))) R hT i k hi (by simp [up3, hk]) hk8) dX3_endWork_79 rfl rfl (Nat.le_of_ble_eq_true rfl) ⟨by decide, by decide⟩ ⟨by decide, by decide⟩ ?_
          refine x_aload_n C dX3_endWork_82 rfl ?_
          refine x_aload_n C dX3_endWork_83 rfl ?_
          refine x_aload_n C dX3_endWork_84 rfl ?_
          refine x_cV0 C yo_X3_makeSure m_X3_187 rfl rfl (by first | assumption | exact Nat.one_pos) (c_X3_makeSure l D dA base n ad (kapS (up3 (up3 (up3 I 4 i 7 1) 4 i 10 1) 4 i 14 (I 4 i 14 + 1)) i k k) (up3 J 4 i 8 (rsl f (J 7 i 3))) R hT p0 z i hp (by rw [kapS_n _ _ _ _ (by omega) (by omega)]; simp [up3, hs]) hz ht hi) dX3_endWork_85 rfl rfl (Nat.le_of_ble_eq_true rfl) ⟨by decide, by decide⟩ ⟨by decide, by decide⟩ ?_
          exact x_vret C (⟨rfl, rfl, rfl, by (unfold ewI; rw [if_pos ⟨h23, h31, h41⟩, up3_e, kapS_n _ _ _ _ (by omega) (by omega)]; simp [up3]), rfl, rfl⟩) dX3_endWork_88
        · skip
          rw [lg_cmp_eq] at h41
          refine x_aload_n C dX3_endWork_44 rfl ?_
          refine x_aload_n C dX3_endWork_45 rfl ?_
          refine x_getI C f_X3_42 rfl (by first | assumption | exact Nat.one_pos) dX3_endWork_46 ?_
          try simp only [up3_r, Nat.reduceEqDiff, and_false, false_and, and_self, and_true, true_and, reduceIte]
          refine x_putI C g_X3_45 rfl (by first | assumption | exact Nat.one_pos) dX3_endWork_49 ?_
          refine x_aload_n C dX3_endWork_52 rfl ?_
          refine x_iload_n C dX3_endWork_53 rfl ?_
          refine x_putI C g_X3_35 rfl (by first | assumption | exact Nat.one_pos) dX3_endWork_54 ?_
          refine x_aload_n C dX3_endWork_57 rfl ?_
          refine x_lload C dX3_endWork_58 rfl ?_
          refine x_putJ C g_X3_38 rfl (by first | assumption | exact Nat.one_pos) dX3_endWork_60 ?_
          refine x_aload_n C dX3_endWork_63 rfl ?_
          refine x_iconst C 1 (by decide) dX3_endWork_64 ?_
          refine x_putZ C g_X3_139 rfl (by first | assumption | exact Nat.one_pos) (by first | exact Or.inl rfl | exact Or.inr rfl | assumption) dX3_endWork_65 ?_
          refine x_aload_n C dX3_endWork_68 rfl ?_
          refine x_dup C rfl dX3_endWork_69 ?_
          refine x_getI C f_X3_133 rfl (by first | assumption | exact Nat.one_pos) dX3_endWork_70 ?_
          try simp only [up3_r, Nat.reduceEqDiff, and_false, false_and, and_self, and_true, true_and, reduceIte]
          refine x_iconst C 1 (by decide) dX3_endWork_73 ?_
          refine x_iadd C dX3_endWork_74 ?_
          refine x_putI C g_X3_133 rfl (by first | assumption | exact Nat.one_pos) dX3_endWork_75 ?_
          refine x_aload_n C dX3_endWork_78 rfl ?_
          refine x_cV0 C yo_X0_keepAskedPlaces m_X3_219 rfl rfl (by first | assumption | exact Nat.one_pos) (c_X0_keepAskedPlaces l D dA base n ad (up3 (up3 (up3 (up3 I 4 i 9 (I 0 0 2)) 4 i 7 1) 4 i 10 1) 4 i 14 (I 4 i 14 + 1)) (up3 J 4 i 8 (rsl f (J 7 i 3))) R hT i k hi (by simp [up3, hk]) hk8) dX3_endWork_79 rfl rfl (Nat.le_of_ble_eq_true rfl) ⟨by decide, by decide⟩ ⟨by decide, by decide⟩ ?_
          refine x_aload_n C dX3_endWork_82 rfl ?_
          refine x_aload_n C dX3_endWork_83 rfl ?_
          refine x_aload_n C dX3_endWork_84 rfl ?_
          refine x_cV0 C yo_X3_makeSure m_X3_187 rfl rfl (by first | assumption | exact Nat.one_pos) (c_X3_makeSure l D dA base n ad (kapS (up3 (up3 (up3 (up3 I 4 i 9 (I 0 0 2)) 4 i 7 1) 4 i 10 1) 4 i 14 (I 4 i 14 + 1)) i k k) (up3 J 4 i 8 (rsl f (J 7 i 3))) R hT p0 z i hp (by rw [kapS_n _ _ _ _ (by omega) (by omega)]; simp [up3, hs]) hz ht hi) dX3_endWork_85 rfl rfl (Nat.le_of_ble_eq_true rfl) ⟨by decide, by decide⟩ ⟨by decide, by decide⟩ ?_
          exact x_vret C (⟨rfl, rfl, rfl, by (unfold ewI; rw [if_neg (fun z => h41 z.2.2), kapS_n _ _ _ _ (by omega) (by omega)]; simp [up3]), rfl, rfl⟩) dX3_endWork_88

set_option maxRecDepth 100000 in
set_option maxHeartbeats 4000000 in
theorem c_X3_endWork_f (l : Launch) (D : va_G) (dA : Nat → ClassId) (base n : Nat) (ad : Fa) (I : Fi) (J : Fj) (R : Fr) (hT : ST n R) (i p0 z k f : Nat) (hi : i < n) (hp : p0 < 5) (hs : I 9 p0 1 = nI (z + 1)) (hz : z < 40) (ht : R 10 p0 z = some i) (hk : I 7 i 1 = nI k) (hk8 : k ≤ 8) (hf : I 4 i 1 = nI f) (hf6 : f < 6) (x : Int32) (hx : ¬ x = 1) : CT l D dA base yX3_endWork cX3_endWork 6 none 3 0 0 [.ref (ad 0 0), .ref (ad 4 i), .ref (ad 9 p0), .int x] ad (Nn n) I J R (po none ad (Nn n) (ewI I J i p0 z k x (0)) (up3 J 4 i 8 (0)) R) := by
  refine CT.of 2 (L0 := [some (.ref (ad 0 0)), some (.ref (ad 4 i)), some (.ref (ad 9 p0)), some (.int x), none, none]) (by decide +kernel) rfl (Nat.le_of_ble_eq_true rfl) ?_
  intro p e s m args below meth c C
  refine x_iload_n C dX3_endWork_0 rfl ?_
  refine x_iconst C 1 (by decide) dX3_endWork_1 ?_
  refine x_icmp_ne C 16 dX3_endWork_2 (by decide) (fun h2 => ?_) (fun h2 => ?_)
  · skip
    refine x_lconst C 0 (by decide) dX3_endWork_16 ?_
    refine x_lstore C dX3_endWork_17 (by decide) rfl rfl ?_
    refine x_aload_n C dX3_endWork_19 rfl ?_
    refine x_getI C f_X3_139 rfl (by first | assumption | exact Nat.one_pos) dX3_endWork_20 ?_
    try simp only [up3_r, Nat.reduceEqDiff, and_false, false_and, and_self, and_true, true_and, reduceIte]
    refine x_if_eq C 44 dX3_endWork_23 (by decide) (fun h23 => ?_) (fun h23 => ?_)
    · skip
      refine x_aload_n C dX3_endWork_44 rfl ?_
      refine x_aload_n C dX3_endWork_45 rfl ?_
      refine x_getI C f_X3_42 rfl (by first | assumption | exact Nat.one_pos) dX3_endWork_46 ?_
      try simp only [up3_r, Nat.reduceEqDiff, and_false, false_and, and_self, and_true, true_and, reduceIte]
      refine x_putI C g_X3_45 rfl (by first | assumption | exact Nat.one_pos) dX3_endWork_49 ?_
      refine x_aload_n C dX3_endWork_52 rfl ?_
      refine x_iload_n C dX3_endWork_53 rfl ?_
      refine x_putI C g_X3_35 rfl (by first | assumption | exact Nat.one_pos) dX3_endWork_54 ?_
      refine x_aload_n C dX3_endWork_57 rfl ?_
      refine x_lload C dX3_endWork_58 rfl ?_
      refine x_putJ C g_X3_38 rfl (by first | assumption | exact Nat.one_pos) dX3_endWork_60 ?_
      refine x_aload_n C dX3_endWork_63 rfl ?_
      refine x_iconst C 1 (by decide) dX3_endWork_64 ?_
      refine x_putZ C g_X3_139 rfl (by first | assumption | exact Nat.one_pos) (by first | exact Or.inl rfl | exact Or.inr rfl | assumption) dX3_endWork_65 ?_
      refine x_aload_n C dX3_endWork_68 rfl ?_
      refine x_dup C rfl dX3_endWork_69 ?_
      refine x_getI C f_X3_133 rfl (by first | assumption | exact Nat.one_pos) dX3_endWork_70 ?_
      try simp only [up3_r, Nat.reduceEqDiff, and_false, false_and, and_self, and_true, true_and, reduceIte]
      refine x_iconst C 1 (by decide) dX3_endWork_73 ?_
      refine x_iadd C dX3_endWork_74 ?_
      refine x_putI C g_X3_133 rfl (by first | assumption | exact Nat.one_pos) dX3_endWork_75 ?_
      refine x_aload_n C dX3_endWork_78 rfl ?_
      refine x_cV0 C yo_X0_keepAskedPlaces m_X3_219 rfl rfl (by first | assumption | exact Nat.one_pos) (c_X0_keepAskedPlaces l D dA base n ad (up3 (up3 (up3 (up3 I 4 i 9 (I 0 0 2)) 4 i 7 x) 4 i 10 1) 4 i 14 (I 4 i 14 + 1)) (up3 J 4 i 8 (0)) R hT i k hi (by simp [up3, hk]) hk8) dX3_endWork_79 rfl rfl (Nat.le_of_ble_eq_true rfl) ⟨by decide, by decide⟩ ⟨by decide, by decide⟩ ?_
      refine x_aload_n C dX3_endWork_82 rfl ?_
      refine x_aload_n C dX3_endWork_83 rfl ?_
      refine x_aload_n C dX3_endWork_84 rfl ?_
      refine x_cV0 C yo_X3_makeSure m_X3_187 rfl rfl (by first | assumption | exact Nat.one_pos) (c_X3_makeSure l D dA base n ad (kapS (up3 (up3 (up3 (up3 I 4 i 9 (I 0 0 2)) 4 i 7 x) 4 i 10 1) 4 i 14 (I 4 i 14 + 1)) i k k) (up3 J 4 i 8 (0)) R hT p0 z i hp (by rw [kapS_n _ _ _ _ (by omega) (by omega)]; simp [up3, hs]) hz ht hi) dX3_endWork_85 rfl rfl (Nat.le_of_ble_eq_true rfl) ⟨by decide, by decide⟩ ⟨by decide, by decide⟩ ?_
      exact x_vret C (⟨rfl, rfl, rfl, by (unfold ewI; rw [if_neg (fun z => z.1 h23), kapS_n _ _ _ _ (by omega) (by omega)]; simp [up3]), rfl, rfl⟩) dX3_endWork_88
    · skip
      refine x_aload_n C dX3_endWork_26 rfl ?_
      refine x_getI C f_X3_35 rfl (by first | assumption | exact Nat.one_pos) dX3_endWork_27 ?_
      try simp only [up3_r, Nat.reduceEqDiff, and_false, false_and, and_self, and_true, true_and, reduceIte]
      refine x_iload_n C dX3_endWork_30 rfl ?_
      refine x_icmp_ne C 44 dX3_endWork_31 (by decide) (fun h31 => ?_) (fun h31 => ?_)
      · skip
        refine x_aload_n C dX3_endWork_44 rfl ?_
        refine x_aload_n C dX3_endWork_45 rfl ?_
        refine x_getI C f_X3_42 rfl (by first | assumption | exact Nat.one_pos) dX3_endWork_46 ?_
        try simp only [up3_r, Nat.reduceEqDiff, and_false, false_and, and_self, and_true, true_and, reduceIte]
        refine x_putI C g_X3_45 rfl (by first | assumption | exact Nat.one_pos) dX3_endWork_49 ?_
        refine x_aload_n C dX3_endWork_52 rfl ?_
        refine x_iload_n C dX3_endWork_53 rfl ?_
        refine x_putI C g_X3_35 rfl (by first | assumption | exact Nat.one_pos) dX3_endWork_54 ?_
        refine x_aload_n C dX3_endWork_57 rfl ?_
        refine x_lload C dX3_endWork_58 rfl ?_
        refine x_putJ C g_X3_38 rfl (by first | assumption | exact Nat.one_pos) dX3_endWork_60 ?_
        refine x_aload_n C dX3_endWork_63 rfl ?_
        refine x_iconst C 1 (by decide) dX3_endWork_64 ?_
        refine x_putZ C g_X3_139 rfl (by first | assumption | exact Nat.one_pos) (by first | exact Or.inl rfl | exact Or.inr rfl | assumption) dX3_endWork_65 ?_
        refine x_aload_n C dX3_endWork_68 rfl ?_
        refine x_dup C rfl dX3_endWork_69 ?_
        refine x_getI C f_X3_133 rfl (by first | assumption | exact Nat.one_pos) dX3_endWork_70 ?_
        try simp only [up3_r, Nat.reduceEqDiff, and_false, false_and, and_self, and_true, true_and, reduceIte]
        refine x_iconst C 1 (by decide) dX3_endWork_73 ?_
        refine x_iadd C dX3_endWork_74 ?_
        refine x_putI C g_X3_133 rfl (by first | assumption | exact Nat.one_pos) dX3_endWork_75 ?_
        refine x_aload_n C dX3_endWork_78 rfl ?_
        refine x_cV0 C yo_X0_keepAskedPlaces m_X3_219 rfl rfl (by first | assumption | exact Nat.one_pos) (c_X0_keepAskedPlaces l D dA base n ad (up3 (up3 (up3 (up3 I 4 i 9 (I 0 0 2)) 4 i 7 x) 4 i 10 1) 4 i 14 (I 4 i 14 + 1)) (up3 J 4 i 8 (0)) R hT i k hi (by simp [up3, hk]) hk8) dX3_endWork_79 rfl rfl (Nat.le_of_ble_eq_true rfl) ⟨by decide, by decide⟩ ⟨by decide, by decide⟩ ?_
        refine x_aload_n C dX3_endWork_82 rfl ?_
        refine x_aload_n C dX3_endWork_83 rfl ?_
        refine x_aload_n C dX3_endWork_84 rfl ?_
        refine x_cV0 C yo_X3_makeSure m_X3_187 rfl rfl (by first | assumption | exact Nat.one_pos) (c_X3_makeSure l D dA base n ad (kapS (up3 (up3 (up3 (up3 I 4 i 9 (I 0 0 2)) 4 i 7 x) 4 i 10 1) 4 i 14 (I 4 i 14 + 1)) i k k) (up3 J 4 i 8 (0)) R hT p0 z i hp (by rw [kapS_n _ _ _ _ (by omega) (by omega)]; simp [up3, hs]) hz ht hi) dX3_endWork_85 rfl rfl (Nat.le_of_ble_eq_true rfl) ⟨by decide, by decide⟩ ⟨by decide, by decide⟩ ?_
        exact x_vret C (⟨rfl, rfl, rfl, by (unfold ewI; rw [if_neg (fun z => h31 z.2.1), kapS_n _ _ _ _ (by omega) (by omega)]; simp [up3]), rfl, rfl⟩) dX3_endWork_88
      · skip
        refine x_aload_n C dX3_endWork_34 rfl ?_
        refine x_getJ C f_X3_38 rfl (by first | assumption | exact Nat.one_pos) dX3_endWork_35 ?_
        try simp only [up3_r, Nat.reduceEqDiff, and_false, false_and, and_self, and_true, true_and, reduceIte]
        refine x_lload C dX3_endWork_38 rfl ?_
        refine x_lcmp C dX3_endWork_40 ?_
        refine x_if_eq C 52 dX3_endWork_41 (by decide) (fun h41 => ?_) (fun h41 => ?_)
        · skip
          rw [lg_cmp_eq] at h41
          refine x_aload_n C dX3_endWork_52 rfl ?_
          refine x_iload_n C dX3_endWork_53 rfl ?_
          refine x_putI C g_X3_35 rfl (by first | assumption | exact Nat.one_pos) dX3_endWork_54 ?_
          refine x_aload_n C dX3_endWork_57 rfl ?_
          refine x_lload C dX3_endWork_58 rfl ?_
          refine x_putJ C g_X3_38 rfl (by first | assumption | exact Nat.one_pos) dX3_endWork_60 ?_
          refine x_aload_n C dX3_endWork_63 rfl ?_
          refine x_iconst C 1 (by decide) dX3_endWork_64 ?_
          refine x_putZ C g_X3_139 rfl (by first | assumption | exact Nat.one_pos) (by first | exact Or.inl rfl | exact Or.inr rfl | assumption) dX3_endWork_65 ?_
          refine x_aload_n C dX3_endWork_68 rfl ?_
          refine x_dup C rfl dX3_endWork_69 ?_
          refine x_getI C f_X3_133 rfl (by first | assumption | exact Nat.one_pos) dX3_endWork_70 ?_
          try simp only [up3_r, Nat.reduceEqDiff, and_false, false_and, and_self, and_true, true_and, reduceIte]
          refine x_iconst C 1 (by decide) dX3_endWork_73 ?_
          refine x_iadd C dX3_endWork_74 ?_
          refine x_putI C g_X3_133 rfl (by first | assumption | exact Nat.one_pos) dX3_endWork_75 ?_
          refine x_aload_n C dX3_endWork_78 rfl ?_
          refine x_cV0 C yo_X0_keepAskedPlaces m_X3_219 rfl rfl (by first | assumption | exact Nat.one_pos) (c_X0_keepAskedPlaces l D dA base n ad (up3 (up3 (up3 I 4 i 7 x) 4 i 10 1) 4 i 14 (I 4 i 14 + 1)) (up3 J 4 i 8 (0)) R hT i k hi (by simp [up3, hk]) hk8) dX3_endWork_79 rfl rfl (Nat.le_of_ble_eq_true rfl) ⟨by decide, by decide⟩ ⟨by decide, by decide⟩ ?_
          refine x_aload_n C dX3_endWork_82 rfl ?_
          refine x_aload_n C dX3_endWork_83 rfl ?_
          refine x_aload_n C dX3_endWork_84 rfl ?_
          refine x_cV0 C yo_X3_makeSure m_X3_187 rfl rfl (by first | assumption | exact Nat.one_pos) (c_X3_makeSure l D dA base n ad (kapS (up3 (up3 (up3 I 4 i 7 x) 4 i 10 1) 4 i 14 (I 4 i 14 + 1)) i k k) (up3 J 4 i 8 (0)) R hT p0 z i hp (by rw [kapS_n _ _ _ _ (by omega) (by omega)]; simp [up3, hs]) hz ht hi) dX3_endWork_85 rfl rfl (Nat.le_of_ble_eq_true rfl) ⟨by decide, by decide⟩ ⟨by decide, by decide⟩ ?_
          exact x_vret C (⟨rfl, rfl, rfl, by (unfold ewI; rw [if_pos ⟨h23, h31, h41⟩, up3_e, kapS_n _ _ _ _ (by omega) (by omega)]; simp [up3]), rfl, rfl⟩) dX3_endWork_88
        · skip
          rw [lg_cmp_eq] at h41
          refine x_aload_n C dX3_endWork_44 rfl ?_
          refine x_aload_n C dX3_endWork_45 rfl ?_
          refine x_getI C f_X3_42 rfl (by first | assumption | exact Nat.one_pos) dX3_endWork_46 ?_
          try simp only [up3_r, Nat.reduceEqDiff, and_false, false_and, and_self, and_true, true_and, reduceIte]
          refine x_putI C g_X3_45 rfl (by first | assumption | exact Nat.one_pos) dX3_endWork_49 ?_
          refine x_aload_n C dX3_endWork_52 rfl ?_
          refine x_iload_n C dX3_endWork_53 rfl ?_
          refine x_putI C g_X3_35 rfl (by first | assumption | exact Nat.one_pos) dX3_endWork_54 ?_
          refine x_aload_n C dX3_endWork_57 rfl ?_
          refine x_lload C dX3_endWork_58 rfl ?_
          refine x_putJ C g_X3_38 rfl (by first | assumption | exact Nat.one_pos) dX3_endWork_60 ?_
          refine x_aload_n C dX3_endWork_63 rfl ?_
          refine x_iconst C 1 (by decide) dX3_endWork_64 ?_
          refine x_putZ C g_X3_139 rfl (by first | assumption | exact Nat.one_pos) (by first | exact Or.inl rfl | exact Or.inr rfl | assumption) dX3_endWork_65 ?_
          refine x_aload_n C dX3_endWork_68 rfl ?_
          refine x_dup C rfl dX3_endWork_69 ?_
          refine x_getI C f_X3_133 rfl (by first | assumption | exact Nat.one_pos) dX3_endWork_70 ?_
          try simp only [up3_r, Nat.reduceEqDiff, and_false, false_and, and_self, and_true, true_and, reduceIte]
          refine x_iconst C 1 (by decide) dX3_endWork_73 ?_
          refine x_iadd C dX3_endWork_74 ?_
          refine x_putI C g_X3_133 rfl (by first | assumption | exact Nat.one_pos) dX3_endWork_75 ?_
          refine x_aload_n C dX3_endWork_78 rfl ?_
          refine x_cV0 C yo_X0_keepAskedPlaces m_X3_219 rfl rfl (by first | assumption | exact Nat.one_pos) (c_X0_keepAskedPlaces l D dA base n ad (up3 (up3 (up3 (up3 I 4 i 9 (I 0 0 2)) 4 i 7 x) 4 i 10 1) 4 i 14 (I 4 i 14 + 1)) (up3 J 4 i 8 (0)) R hT i k hi (by simp [up3, hk]) hk8) dX3_endWork_79 rfl rfl (Nat.le_of_ble_eq_true rfl) ⟨by decide, by decide⟩ ⟨by decide, by decide⟩ ?_
          refine x_aload_n C dX3_endWork_82 rfl ?_
          refine x_aload_n C dX3_endWork_83 rfl ?_
          refine x_aload_n C dX3_endWork_84 rfl ?_
          refine x_cV0 C yo_X3_makeSure m_X3_187 rfl rfl (by first | assumption | exact Nat.one_pos) (c_X3_makeSure l D dA base n ad (kapS (up3 (up3 (up3 (up3 I 4 i 9 (I 0 0 2)) 4 i 7 x) 4 i 10 1) 4 i 14 (I 4 i 14 + 1)) i k k) (up3 J 4 i 8 (0)) R hT p0 z i hp (by rw [kapS_n _ _ _ _ (by omega) (by omega)]; simp [up3, hs]) hz ht hi) dX3_endWork_85 rfl rfl (Nat.le_of_ble_eq_true rfl) ⟨by decide, by decide⟩ ⟨by decide, by decide⟩ ?_
          exact x_vret C (⟨rfl, rfl, rfl, by (unfold ewI; rw [if_neg (fun z => h41 z.2.2), kapS_n _ _ _ _ (by omega) (by omega)]; simp [up3]), rfl, rfl⟩) dX3_endWork_88
  · skip
    exact absurd h2 hx
end
section
/-! a check goes on -/
set_option maxRecDepth 100000 in
set_option maxHeartbeats 4000000 in
theorem c_chk_end (l : Launch) (D : va_G) (dA : Nat → ClassId) (base n : Nat) (ad : Fa) (I : Fi) (J : Fj) (R : Fr) (hT : ST n R) (i p0 z : Nat) (hi : i < n) (hp : p0 < 5) (hs : I 9 p0 1 = nI (z + 1)) (hz : z < 40) (ht : R 10 p0 z = some i) (k a r : Nat) (hk : I 7 i 1 = nI k) (ha : I 4 i 13 = nI a) (ha8 : a ≤ 8) (hr : I 4 i 3 = nI r) (hr8 : r ≤ 8) (hka : k = a) : CT l D dA base yX3_goOnChecking cX3_goOnChecking 4 (some .int) 4 0 0 [.ref (ad 0 0), .ref (ad 4 i), .ref (ad 9 p0)] ad (Nn n) I J R (po (some (.int 2)) ad (Nn n) (ttI (up3 (up3 I 4 i 15 (I 4 i 15 + 1)) 4 i 11 (I 0 0 2)) p0 i z) J R) := by
  refine CT.of 1 (L0 := [some (.ref (ad 0 0)), some (.ref (ad 4 i)), some (.ref (ad 9 p0)), none]) (by decide +kernel) rfl (Nat.le_of_ble_eq_true rfl) ?_
  intro p e s m args below meth c C
  refine x_aload_n C dX3_goOnChecking_0 rfl ?_
  refine x_aload_n C dX3_goOnChecking_1 rfl ?_
  refine x_aload_n C dX3_goOnChecking_2 rfl ?_
  refine x_getF C hT f_X3_167 rfl rfl (by first | assumption | exact Nat.one_pos) dX3_goOnChecking_3 ?_
  refine x_getI C f_X3_181 rfl (by first | assumption | exact Nat.one_pos) dX3_goOnChecking_6 ?_
  refine x_cV1 C yo_X0_askedPlace m_X3_142 rfl rfl (by first | assumption | exact Nat.one_pos) (c_X0_askedPlace_out l D dA base n ad I J R hT i a (I 7 i 1) hi ha (Or.inr (by rw [hk, hka]; exact Int32.le_refl _))) dX3_goOnChecking_9 rfl rfl (Nat.le_of_ble_eq_true rfl) ⟨by decide, by decide⟩ ⟨by decide, by decide⟩ ?_
  refine x_cV1 C yo_X0_rowKey m_X3_184 rfl rfl (by first | assumption | exact Nat.one_pos) (c_X0_rowKey_out l D dA base n ad I J R hT i r (-1) hi hr (Or.inl (by decide))) dX3_goOnChecking_12 rfl rfl (Nat.le_of_ble_eq_true rfl) ⟨by decide, by decide⟩ ⟨by decide, by decide⟩ ?_
  refine x_astore_nN C dX3_goOnChecking_15 (by decide) rfl rfl ?_
  refine x_aload_nN C dX3_goOnChecking_16 rfl ?_
  refine x_ifnonnullN C dX3_goOnChecking_17 ?_
  refine x_aload_n C dX3_goOnChecking_20 rfl ?_
  refine x_dup C rfl dX3_goOnChecking_21 ?_
  refine x_getI C f_X3_136 rfl (by first | assumption | exact Nat.one_pos) dX3_goOnChecking_22 ?_
  refine x_iconst C 1 (by decide) dX3_goOnChecking_25 ?_
  refine x_iadd C dX3_goOnChecking_26 ?_
  refine x_putI C g_X3_136 rfl (by first | assumption | exact Nat.one_pos) dX3_goOnChecking_27 ?_
  refine x_aload_n C dX3_goOnChecking_30 rfl ?_
  refine x_aload_n C dX3_goOnChecking_31 rfl ?_
  refine x_aload_n C dX3_goOnChecking_32 rfl ?_
  refine x_cV0 C yo_X3_makeSure m_X3_187 rfl rfl (by first | assumption | exact Nat.one_pos) (c_X3_makeSure l D dA base n ad (up3 I 4 i 15 (I 4 i 15 + 1)) J R hT p0 z i hp (by rw [up3_c _ _ _ _ _ (by decide)]; exact hs) hz ht hi) dX3_goOnChecking_33 rfl rfl (Nat.le_of_ble_eq_true rfl) ⟨by decide, by decide⟩ ⟨by decide, by decide⟩ ?_
  refine x_iconst C 2 (by decide) dX3_goOnChecking_36 ?_
  exact x_iret C (⟨rfl, rfl, rfl, by rw [up3_c I 4 i 15 _ (show (0 : Nat) ≠ 4 by decide)], rfl, rfl⟩) dX3_goOnChecking_37

set_option maxRecDepth 100000 in
set_option maxHeartbeats 4000000 in
theorem c_chk_wait (l : Launch) (D : va_G) (dA : Nat → ClassId) (base n : Nat) (ad : Fa) (I : Fi) (J : Fj) (R : Fr) (hT : ST n R) (i p0 z : Nat) (hi : i < n) (hp : p0 < 5) (hs : I 9 p0 1 = nI (z + 1)) (hz : z < 40) (ht : R 10 p0 z = some i) (k a r : Nat) (hk : I 7 i 1 = nI k) (ha : I 4 i 13 = nI a) (ha8 : a ≤ 8) (hr : I 4 i 3 = nI r) (hr8 : r ≤ 8) (pl j : Nat) (hka : k < a) (hpl : I 6 i k = nI pl) (hplr : pl < r) (hj : R 5 i pl = some j) (hjn : j < n) (hsu : sure I j = false) (hq : ¬ I 4 j 16 = 0) : CT l D dA base yX3_goOnChecking cX3_goOnChecking 4 (some .int) 4 0 0 [.ref (ad 0 0), .ref (ad 4 i), .ref (ad 9 p0)] ad (Nn n) I J R (po (some (.int 3)) ad (Nn n) I J R) := by
  refine CT.of 1 (L0 := [some (.ref (ad 0 0)), some (.ref (ad 4 i)), some (.ref (ad 9 p0)), none]) (by decide +kernel) rfl (Nat.le_of_ble_eq_true rfl) ?_
  intro p e s m args below meth c C
  refine x_aload_n C dX3_goOnChecking_0 rfl ?_
  refine x_aload_n C dX3_goOnChecking_1 rfl ?_
  refine x_aload_n C dX3_goOnChecking_2 rfl ?_
  refine x_getF C hT f_X3_167 rfl rfl (by first | assumption | exact Nat.one_pos) dX3_goOnChecking_3 ?_
  refine x_getI C f_X3_181 rfl (by first | assumption | exact Nat.one_pos) dX3_goOnChecking_6 ?_
  rw [hk]
  refine x_cV1 C yo_X0_askedPlace m_X3_142 rfl rfl (by first | assumption | exact Nat.one_pos) (c_X0_askedPlace_in l D dA base n ad I J R hT i k a hi ha hka ha8) dX3_goOnChecking_9 rfl rfl (Nat.le_of_ble_eq_true rfl) ⟨by decide, by decide⟩ ⟨by decide, by decide⟩ ?_
  rw [hpl]
  refine x_cV1 C yo_X0_rowKey m_X3_184 rfl rfl (by first | assumption | exact Nat.one_pos) (c_X0_rowKey_in l D dA base n ad I J R hT i pl r j hi hr hplr hr8 hj) dX3_goOnChecking_12 rfl rfl (Nat.le_of_ble_eq_true rfl) ⟨by decide, by decide⟩ ⟨by decide, by decide⟩ ?_
  refine x_astore_n C dX3_goOnChecking_15 (by decide) rfl rfl ?_
  refine x_aload_n C dX3_goOnChecking_16 rfl ?_
  refine x_ifnonnull C 38 dX3_goOnChecking_17 (by decide) ?_
  refine x_aload_n C dX3_goOnChecking_38 rfl ?_
  refine x_aload_n C dX3_goOnChecking_39 rfl ?_
  refine x_cV1 C yo_X3_isSure m_X3_100 rfl rfl (by first | assumption | exact Nat.one_pos) (c_X3_isSure l D dA base n ad I J R hT j hjn) dX3_goOnChecking_40 rfl rfl (Nat.le_of_ble_eq_true rfl) ⟨by decide, by decide⟩ ⟨by decide, by decide⟩ ?_
  refine x_if_ne C 52 dX3_goOnChecking_43 (by decide) (fun h43 => ?_) (fun h43 => ?_)
  · skip
    rw [hsu] at h43
    exact absurd rfl h43
  · skip
    refine x_aload_n C dX3_goOnChecking_46 rfl ?_
    refine x_aload_n C dX3_goOnChecking_47 rfl ?_
    refine x_cS1 C yo_X3_findFirst rfl m_X3_191 (c_X3_findFirst_w l D dA base n ad I J R hT j p0 hjn hp hq) dX3_goOnChecking_48 rfl rfl (Nat.le_of_ble_eq_true rfl) ⟨by decide, by decide⟩ ⟨by decide, by decide⟩ ?_
    exact x_iret C (po_i _ _ _ _ _ _) dX3_goOnChecking_51

set_option maxRecDepth 100000 in
set_option maxHeartbeats 4000000 in
theorem c_chk_put (l : Launch) (D : va_G) (dA : Nat → ClassId) (base n : Nat) (ad : Fa) (I : Fi) (J : Fj) (R : Fr) (hT : ST n R) (i p0 z : Nat) (hi : i < n) (hp : p0 < 5) (hs : I 9 p0 1 = nI (z + 1)) (hz : z < 40) (ht : R 10 p0 z = some i) (k a r : Nat) (hk : I 7 i 1 = nI k) (ha : I 4 i 13 = nI a) (ha8 : a ≤ 8) (hr : I 4 i 3 = nI r) (hr8 : r ≤ 8) (pl j : Nat) (hka : k < a) (hpl : I 6 i k = nI pl) (hplr : pl < r) (hj : R 5 i pl = some j) (hjn : j < n) (hsu : sure I j = false) (hq : I 4 j 16 = 0) (hz2 : z + 1 < 40) : CT l D dA base yX3_goOnChecking cX3_goOnChecking 4 (some .int) 4 0 0 [.ref (ad 0 0), .ref (ad 4 i), .ref (ad 9 p0)] ad (Nn n) I J R (po (some (.int 1)) ad (Nn n) (putI I p0 j (z + 1)) (up3 J 7 j 3 0) (up3 R 10 p0 (z + 1) (some j))) := by
  refine CT.of 1 (L0 := [some (.ref (ad 0 0)), some (.ref (ad 4 i)), some (.ref (ad 9 p0)), none]) (by decide +kernel) rfl (Nat.le_of_ble_eq_true rfl) ?_
  intro p e s m args below meth c C
  refine x_aload_n C dX3_goOnChecking_0 rfl ?_
  refine x_aload_n C dX3_goOnChecking_1 rfl ?_
  refine x_aload_n C dX3_goOnChecking_2 rfl ?_
  refine x_getF C hT f_X3_167 rfl rfl (by first | assumption | exact Nat.one_pos) dX3_goOnChecking_3 ?_
  refine x_getI C f_X3_181 rfl (by first | assumption | exact Nat.one_pos) dX3_goOnChecking_6 ?_
  rw [hk]
  refine x_cV1 C yo_X0_askedPlace m_X3_142 rfl rfl (by first | assumption | exact Nat.one_pos) (c_X0_askedPlace_in l D dA base n ad I J R hT i k a hi ha hka ha8) dX3_goOnChecking_9 rfl rfl (Nat.le_of_ble_eq_true rfl) ⟨by decide, by decide⟩ ⟨by decide, by decide⟩ ?_
  rw [hpl]
  refine x_cV1 C yo_X0_rowKey m_X3_184 rfl rfl (by first | assumption | exact Nat.one_pos) (c_X0_rowKey_in l D dA base n ad I J R hT i pl r j hi hr hplr hr8 hj) dX3_goOnChecking_12 rfl rfl (Nat.le_of_ble_eq_true rfl) ⟨by decide, by decide⟩ ⟨by decide, by decide⟩ ?_
  refine x_astore_n C dX3_goOnChecking_15 (by decide) rfl rfl ?_
  refine x_aload_n C dX3_goOnChecking_16 rfl ?_
  refine x_ifnonnull C 38 dX3_goOnChecking_17 (by decide) ?_
  refine x_aload_n C dX3_goOnChecking_38 rfl ?_
  refine x_aload_n C dX3_goOnChecking_39 rfl ?_
  refine x_cV1 C yo_X3_isSure m_X3_100 rfl rfl (by first | assumption | exact Nat.one_pos) (c_X3_isSure l D dA base n ad I J R hT j hjn) dX3_goOnChecking_40 rfl rfl (Nat.le_of_ble_eq_true rfl) ⟨by decide, by decide⟩ ⟨by decide, by decide⟩ ?_
  refine x_if_ne C 52 dX3_goOnChecking_43 (by decide) (fun h43 => ?_) (fun h43 => ?_)
  · skip
    rw [hsu] at h43
    exact absurd rfl h43
  · skip
    refine x_aload_n C dX3_goOnChecking_46 rfl ?_
    refine x_aload_n C dX3_goOnChecking_47 rfl ?_
    refine x_cS1 C yo_X3_findFirst rfl m_X3_191 (c_X3_findFirst_p l D dA base n ad I J R hT j p0 (z + 1) hjn hp hq hs hz2) dX3_goOnChecking_48 rfl rfl (Nat.le_of_ble_eq_true rfl) ⟨by decide, by decide⟩ ⟨by decide, by decide⟩ ?_
    exact x_iret C (po_i _ _ _ _ _ _) dX3_goOnChecking_51

set_option maxRecDepth 100000 in
set_option maxHeartbeats 4000000 in
theorem c_chk_chg (l : Launch) (D : va_G) (dA : Nat → ClassId) (base n : Nat) (ad : Fa) (I : Fi) (J : Fj) (R : Fr) (hT : ST n R) (i p0 z : Nat) (hi : i < n) (hp : p0 < 5) (hs : I 9 p0 1 = nI (z + 1)) (hz : z < 40) (ht : R 10 p0 z = some i) (k a r : Nat) (hk : I 7 i 1 = nI k) (ha : I 4 i 13 = nI a) (ha8 : a ≤ 8) (hr : I 4 i 3 = nI r) (hr8 : r ≤ 8) (pl j : Nat) (hka : k < a) (hpl : I 6 i k = nI pl) (hplr : pl < r) (hj : R 5 i pl = some j) (hjn : j < n) (hsu : sure I j = true) (hc : I 4 i 11 < I 4 j 9) : CT l D dA base yX3_goOnChecking cX3_goOnChecking 4 (some .int) 4 0 0 [.ref (ad 0 0), .ref (ad 4 i), .ref (ad 9 p0)] ad (Nn n) I J R (po (some (.int 5)) ad (Nn n) (swI I i) (up3 J 7 i 3 0) R) := by
  refine CT.of 1 (L0 := [some (.ref (ad 0 0)), some (.ref (ad 4 i)), some (.ref (ad 9 p0)), none]) (by decide +kernel) rfl (Nat.le_of_ble_eq_true rfl) ?_
  intro p e s m args below meth c C
  refine x_aload_n C dX3_goOnChecking_0 rfl ?_
  refine x_aload_n C dX3_goOnChecking_1 rfl ?_
  refine x_aload_n C dX3_goOnChecking_2 rfl ?_
  refine x_getF C hT f_X3_167 rfl rfl (by first | assumption | exact Nat.one_pos) dX3_goOnChecking_3 ?_
  refine x_getI C f_X3_181 rfl (by first | assumption | exact Nat.one_pos) dX3_goOnChecking_6 ?_
  rw [hk]
  refine x_cV1 C yo_X0_askedPlace m_X3_142 rfl rfl (by first | assumption | exact Nat.one_pos) (c_X0_askedPlace_in l D dA base n ad I J R hT i k a hi ha hka ha8) dX3_goOnChecking_9 rfl rfl (Nat.le_of_ble_eq_true rfl) ⟨by decide, by decide⟩ ⟨by decide, by decide⟩ ?_
  rw [hpl]
  refine x_cV1 C yo_X0_rowKey m_X3_184 rfl rfl (by first | assumption | exact Nat.one_pos) (c_X0_rowKey_in l D dA base n ad I J R hT i pl r j hi hr hplr hr8 hj) dX3_goOnChecking_12 rfl rfl (Nat.le_of_ble_eq_true rfl) ⟨by decide, by decide⟩ ⟨by decide, by decide⟩ ?_
  refine x_astore_n C dX3_goOnChecking_15 (by decide) rfl rfl ?_
  refine x_aload_n C dX3_goOnChecking_16 rfl ?_
  refine x_ifnonnull C 38 dX3_goOnChecking_17 (by decide) ?_
  refine x_aload_n C dX3_goOnChecking_38 rfl ?_
  refine x_aload_n C dX3_goOnChecking_39 rfl ?_
  refine x_cV1 C yo_X3_isSure m_X3_100 rfl rfl (by first | assumption | exact Nat.one_pos) (c_X3_isSure l D dA base n ad I J R hT j hjn) dX3_goOnChecking_40 rfl rfl (Nat.le_of_ble_eq_true rfl) ⟨by decide, by decide⟩ ⟨by decide, by decide⟩ ?_
  refine x_if_ne C 52 dX3_goOnChecking_43 (by decide) (fun h43 => ?_) (fun h43 => ?_)
  · skip
    refine x_aload_n C dX3_goOnChecking_52 rfl ?_
    refine x_getI C f_X3_45 rfl (by first | assumption | exact Nat.one_pos) dX3_goOnChecking_53 ?_
    refine x_aload_n C dX3_goOnChecking_56 rfl ?_
    refine x_getI C f_X3_149 rfl (by first | assumption | exact Nat.one_pos) dX3_goOnChecking_57 ?_
    refine x_icmp_le C 73 dX3_goOnChecking_60 (by decide) (fun h60 => ?_) (fun h60 => ?_)
    · skip
      exact absurd hc (Int32.not_lt.mpr h60)
    · skip
      refine x_aload_n C dX3_goOnChecking_63 rfl ?_
      refine x_getF C hT f_X3_167 rfl rfl (by first | assumption | exact Nat.one_pos) dX3_goOnChecking_64 ?_
      refine x_aload_n C dX3_goOnChecking_67 rfl ?_
      refine x_cV0 C yo_X2_startWorking m_X3_194 rfl rfl (by first | assumption | exact Nat.one_pos) (c_X2_startWorking l D dA base n ad I J R hT i hi) dX3_goOnChecking_68 rfl rfl (Nat.le_of_ble_eq_true rfl) ⟨by decide, by decide⟩ ⟨by decide, by decide⟩ ?_
      refine x_iconst C 5 (by decide) dX3_goOnChecking_71 ?_
      exact x_iret C (po_i _ _ _ _ _ _) dX3_goOnChecking_72
  · skip
    rw [hsu] at h43
    exact absurd h43 (by decide)

set_option maxRecDepth 100000 in
set_option maxHeartbeats 4000000 in
theorem c_chk_pass (l : Launch) (D : va_G) (dA : Nat → ClassId) (base n : Nat) (ad : Fa) (I : Fi) (J : Fj) (R : Fr) (hT : ST n R) (i p0 z : Nat) (hi : i < n) (hp : p0 < 5) (hs : I 9 p0 1 = nI (z + 1)) (hz : z < 40) (ht : R 10 p0 z = some i) (k a r : Nat) (hk : I 7 i 1 = nI k) (ha : I 4 i 13 = nI a) (ha8 : a ≤ 8) (hr : I 4 i 3 = nI r) (hr8 : r ≤ 8) (pl j : Nat) (hka : k < a) (hpl : I 6 i k = nI pl) (hplr : pl < r) (hj : R 5 i pl = some j) (hjn : j < n) (hsu : sure I j = true) (hc : ¬ I 4 i 11 < I 4 j 9) : CT l D dA base yX3_goOnChecking cX3_goOnChecking 4 (some .int) 4 0 0 [.ref (ad 0 0), .ref (ad 4 i), .ref (ad 9 p0)] ad (Nn n) I J R (po (some (.int 4)) ad (Nn n) (up3 I 7 i 1 (nI (k + 1))) J R) := by
  refine CT.of 1 (L0 := [some (.ref (ad 0 0)), some (.ref (ad 4 i)), some (.ref (ad 9 p0)), none]) (by decide +kernel) rfl (Nat.le_of_ble_eq_true rfl) ?_
  intro p e s m args below meth c C
  refine x_aload_n C dX3_goOnChecking_0 rfl ?_
  refine x_aload_n C dX3_goOnChecking_1 rfl ?_
  refine x_aload_n C dX3_goOnChecking_2 rfl ?_
  refine x_getF C hT f_X3_167 rfl rfl (by first | assumption | exact Nat.one_pos) dX3_goOnChecking_3 ?_
  refine x_getI C f_X3_181 rfl (by first | assumption | exact Nat.one_pos) dX3_goOnChecking_6 ?_
  rw [hk]
  refine x_cV1 C yo_X0_askedPlace m_X3_142 rfl rfl (by first | assumption | exact Nat.one_pos) (c_X0_askedPlace_in l D dA base n ad I J R hT i k a hi ha hka ha8) dX3_goOnChecking_9 rfl rfl (Nat.le_of_ble_eq_true rfl) ⟨by decide, by decide⟩ ⟨by decide, by decide⟩ ?_
  rw [hpl]
  refine x_cV1 C yo_X0_rowKey m_X3_184 rfl rfl (by first | assumption | exact Nat.one_pos) (c_X0_rowKey_in l D dA base n ad I J R hT i pl r j hi hr hplr hr8 hj) dX3_goOnChecking_12 rfl rfl (Nat.le_of_ble_eq_true rfl) ⟨by decide, by decide⟩ ⟨by decide, by decide⟩ ?_
  refine x_astore_n C dX3_goOnChecking_15 (by decide) rfl rfl ?_
  refine x_aload_n C dX3_goOnChecking_16 rfl ?_
  refine x_ifnonnull C 38 dX3_goOnChecking_17 (by decide) ?_
  refine x_aload_n C dX3_goOnChecking_38 rfl ?_
  refine x_aload_n C dX3_goOnChecking_39 rfl ?_
  refine x_cV1 C yo_X3_isSure m_X3_100 rfl rfl (by first | assumption | exact Nat.one_pos) (c_X3_isSure l D dA base n ad I J R hT j hjn) dX3_goOnChecking_40 rfl rfl (Nat.le_of_ble_eq_true rfl) ⟨by decide, by decide⟩ ⟨by decide, by decide⟩ ?_
  refine x_if_ne C 52 dX3_goOnChecking_43 (by decide) (fun h43 => ?_) (fun h43 => ?_)
  · skip
    refine x_aload_n C dX3_goOnChecking_52 rfl ?_
    refine x_getI C f_X3_45 rfl (by first | assumption | exact Nat.one_pos) dX3_goOnChecking_53 ?_
    refine x_aload_n C dX3_goOnChecking_56 rfl ?_
    refine x_getI C f_X3_149 rfl (by first | assumption | exact Nat.one_pos) dX3_goOnChecking_57 ?_
    refine x_icmp_le C 73 dX3_goOnChecking_60 (by decide) (fun h60 => ?_) (fun h60 => ?_)
    · skip
      refine x_aload_n C dX3_goOnChecking_73 rfl ?_
      refine x_getF C hT f_X3_167 rfl rfl (by first | assumption | exact Nat.one_pos) dX3_goOnChecking_74 ?_
      refine x_dup C rfl dX3_goOnChecking_77 ?_
      refine x_getI C f_X3_181 rfl (by first | assumption | exact Nat.one_pos) dX3_goOnChecking_78 ?_
      refine x_iconst C 1 (by decide) dX3_goOnChecking_81 ?_
      refine x_iadd C dX3_goOnChecking_82 ?_
      refine x_putI C g_X3_181 rfl (by first | assumption | exact Nat.one_pos) dX3_goOnChecking_83 ?_
      refine x_iconst C 4 (by decide) dX3_goOnChecking_86 ?_
      exact x_iret C (⟨rfl, rfl, rfl, by rw [hk, nI_1], rfl, rfl⟩) dX3_goOnChecking_87
    · skip
      exact absurd (Int32.not_lt.mp hc) h60
  · skip
    rw [hsu] at h43
    exact absurd h43 (by decide)

/-! a work goes on -/
set_option maxRecDepth 100000 in
set_option maxHeartbeats 4000000 in
theorem c_wrk_v (l : Launch) (D : va_G) (dA : Nat → ClassId) (base n : Nat) (ad : Fa) (I : Fi) (J : Fj) (R : Fr) (hT : ST n R) (i p0 z : Nat) (hi : i < n) (hp : p0 < 5) (hs : I 9 p0 1 = nI (z + 1)) (hz : z < 40) (ht : R 10 p0 z = some i) (f k r : Nat) (hf : I 4 i 1 = nI f) (hf6 : f < 6) (hk : I 7 i 1 = nI k) (hk8 : k ≤ 8) (hr : I 4 i 3 = nI r) (hr8 : r ≤ 8) (hx : npl (I 7 i 4) f k r (J 7 i 3) = -1) (hfl : I 7 i 4 = 0) : CT l D dA base yX3_goOnWorking cX3_goOnWorking 5 (some .int) 4 0 0 [.ref (ad 0 0), .ref (ad 4 i), .ref (ad 9 p0)] ad (Nn n) I J R (po (some (.int 2)) ad (Nn n) (ewI I J i p0 z k 1 (rsl f (J 7 i 3))) (up3 J 4 i 8 (rsl f (J 7 i 3))) R) := by
  refine CT.of 2 (L0 := [some (.ref (ad 0 0)), some (.ref (ad 4 i)), some (.ref (ad 9 p0)), none, none]) (by decide +kernel) rfl (Nat.le_of_ble_eq_true rfl) ?_
  intro p e s m args below meth c C
  refine x_aload_n C dX3_goOnWorking_0 rfl ?_
  refine x_getF C hT f_X3_167 rfl rfl (by first | assumption | exact Nat.one_pos) dX3_goOnWorking_1 ?_
  refine x_aload_n C dX3_goOnWorking_4 rfl ?_
  refine x_cV1 C yo_X2_nextPlace m_X3_197 rfl rfl (by first | assumption | exact Nat.one_pos) (c_X2_nextPlace l D dA base n ad I J R hT i f k r hi hf hf6 hk hk8 hr hr8) dX3_goOnWorking_5 rfl rfl (Nat.le_of_ble_eq_true rfl) ⟨by decide, by decide⟩ ⟨by decide, by decide⟩ ?_
  refine x_istore_n C dX3_goOnWorking_8 (by decide) rfl rfl ?_
  refine x_aload_n C dX3_goOnWorking_9 rfl ?_
  refine x_iload_n C dX3_goOnWorking_10 rfl ?_
  refine x_cV1 C yo_X0_rowKey m_X3_184 rfl rfl (by first | assumption | exact Nat.one_pos) (c_X0_rowKey_out l D dA base n ad I J R hT i r _ hi hr (Or.inl (by rw [hx]; decide))) dX3_goOnWorking_11 rfl rfl (Nat.le_of_ble_eq_true rfl) ⟨by decide, by decide⟩ ⟨by decide, by decide⟩ ?_
  refine x_astoreN C dX3_goOnWorking_14 (by decide) rfl rfl ?_
  refine x_aloadN C dX3_goOnWorking_16 rfl ?_
  refine x_ifnonnullN C dX3_goOnWorking_18 ?_
  refine x_aload_n C dX3_goOnWorking_21 rfl ?_
  refine x_aload_n C dX3_goOnWorking_22 rfl ?_
  refine x_aload_n C dX3_goOnWorking_23 rfl ?_
  refine x_aload_n C dX3_goOnWorking_24 rfl ?_
  refine x_getF C hT f_X3_167 rfl rfl (by first | assumption | exact Nat.one_pos) dX3_goOnWorking_25 ?_
  refine x_getI C f_X3_200 rfl (by first | assumption | exact Nat.one_pos) dX3_goOnWorking_28 ?_
  refine x_if_eq C 38 dX3_goOnWorking_31 (by decide) (fun h31 => ?_) (fun h31 => ?_)
  · skip
    refine x_iconst C 1 (by decide) dX3_goOnWorking_38 ?_
    refine x_cV0 C yo_X3_endWork m_X3_203 rfl rfl (by first | assumption | exact Nat.one_pos) (c_X3_endWork_v l D dA base n ad I J R hT i p0 z k f hi hp hs hz ht hk hk8 hf hf6) dX3_goOnWorking_39 rfl rfl (Nat.le_of_ble_eq_true rfl) ⟨by decide, by decide⟩ ⟨by decide, by decide⟩ ?_
    refine x_iconst C 2 (by decide) dX3_goOnWorking_42 ?_
    exact x_iret C (po_i _ _ _ _ _ _) dX3_goOnWorking_43
  · skip
    exact absurd hfl h31

set_option maxRecDepth 100000 in
set_option maxHeartbeats 4000000 in
theorem c_wrk_f (l : Launch) (D : va_G) (dA : Nat → ClassId) (base n : Nat) (ad : Fa) (I : Fi) (J : Fj) (R : Fr) (hT : ST n R) (i p0 z : Nat) (hi : i < n) (hp : p0 < 5) (hs : I 9 p0 1 = nI (z + 1)) (hz : z < 40) (ht : R 10 p0 z = some i) (f k r : Nat) (hf : I 4 i 1 = nI f) (hf6 : f < 6) (hk : I 7 i 1 = nI k) (hk8 : k ≤ 8) (hr : I 4 i 3 = nI r) (hr8 : r ≤ 8) (hx : npl (I 7 i 4) f k r (J 7 i 3) = -1) (hfl : ¬ I 7 i 4 = 0) : CT l D dA base yX3_goOnWorking cX3_goOnWorking 5 (some .int) 4 0 0 [.ref (ad 0 0), .ref (ad 4 i), .ref (ad 9 p0)] ad (Nn n) I J R (po (some (.int 2)) ad (Nn n) (ewI I J i p0 z k 2 0) (up3 J 4 i 8 0) R) := by
  refine CT.of 2 (L0 := [some (.ref (ad 0 0)), some (.ref (ad 4 i)), some (.ref (ad 9 p0)), none, none]) (by decide +kernel) rfl (Nat.le_of_ble_eq_true rfl) ?_
  intro p e s m args below meth c C
  refine x_aload_n C dX3_goOnWorking_0 rfl ?_
  refine x_getF C hT f_X3_167 rfl rfl (by first | assumption | exact Nat.one_pos) dX3_goOnWorking_1 ?_
  refine x_aload_n C dX3_goOnWorking_4 rfl ?_
  refine x_cV1 C yo_X2_nextPlace m_X3_197 rfl rfl (by first | assumption | exact Nat.one_pos) (c_X2_nextPlace l D dA base n ad I J R hT i f k r hi hf hf6 hk hk8 hr hr8) dX3_goOnWorking_5 rfl rfl (Nat.le_of_ble_eq_true rfl) ⟨by decide, by decide⟩ ⟨by decide, by decide⟩ ?_
  refine x_istore_n C dX3_goOnWorking_8 (by decide) rfl rfl ?_
  refine x_aload_n C dX3_goOnWorking_9 rfl ?_
  refine x_iload_n C dX3_goOnWorking_10 rfl ?_
  refine x_cV1 C yo_X0_rowKey m_X3_184 rfl rfl (by first | assumption | exact Nat.one_pos) (c_X0_rowKey_out l D dA base n ad I J R hT i r _ hi hr (Or.inl (by rw [hx]; decide))) dX3_goOnWorking_11 rfl rfl (Nat.le_of_ble_eq_true rfl) ⟨by decide, by decide⟩ ⟨by decide, by decide⟩ ?_
  refine x_astoreN C dX3_goOnWorking_14 (by decide) rfl rfl ?_
  refine x_aloadN C dX3_goOnWorking_16 rfl ?_
  refine x_ifnonnullN C dX3_goOnWorking_18 ?_
  refine x_aload_n C dX3_goOnWorking_21 rfl ?_
  refine x_aload_n C dX3_goOnWorking_22 rfl ?_
  refine x_aload_n C dX3_goOnWorking_23 rfl ?_
  refine x_aload_n C dX3_goOnWorking_24 rfl ?_
  refine x_getF C hT f_X3_167 rfl rfl (by first | assumption | exact Nat.one_pos) dX3_goOnWorking_25 ?_
  refine x_getI C f_X3_200 rfl (by first | assumption | exact Nat.one_pos) dX3_goOnWorking_28 ?_
  refine x_if_eq C 38 dX3_goOnWorking_31 (by decide) (fun h31 => ?_) (fun h31 => ?_)
  · skip
    exact absurd h31 hfl
  · skip
    refine x_iconst C 2 (by decide) dX3_goOnWorking_34 ?_
    refine x_goto C 39 dX3_goOnWorking_35 (by decide) ?_
    refine x_cV0 C yo_X3_endWork m_X3_203 rfl rfl (by first | assumption | exact Nat.one_pos) (c_X3_endWork_f l D dA base n ad I J R hT i p0 z k f hi hp hs hz ht hk hk8 hf hf6 2 (by decide)) dX3_goOnWorking_39 rfl rfl (Nat.le_of_ble_eq_true rfl) ⟨by decide, by decide⟩ ⟨by decide, by decide⟩ ?_
    refine x_iconst C 2 (by decide) dX3_goOnWorking_42 ?_
    exact x_iret C (po_i _ _ _ _ _ _) dX3_goOnWorking_43

set_option maxRecDepth 100000 in
set_option maxHeartbeats 4000000 in
theorem c_wrk_wait (l : Launch) (D : va_G) (dA : Nat → ClassId) (base n : Nat) (ad : Fa) (I : Fi) (J : Fj) (R : Fr) (hT : ST n R) (i p0 z : Nat) (hi : i < n) (hp : p0 < 5) (hs : I 9 p0 1 = nI (z + 1)) (hz : z < 40) (ht : R 10 p0 z = some i) (f k r : Nat) (hf : I 4 i 1 = nI f) (hf6 : f < 6) (hk : I 7 i 1 = nI k) (hk8 : k ≤ 8) (hr : I 4 i 3 = nI r) (hr8 : r ≤ 8) (pl j : Nat) (hx : npl (I 7 i 4) f k r (J 7 i 3) = nI pl) (hplr : pl < r) (hj : R 5 i pl = some j) (hjn : j < n) (hsu : sure I j = false) (hq : ¬ I 4 j 16 = 0) : CT l D dA base yX3_goOnWorking cX3_goOnWorking 5 (some .int) 4 0 0 [.ref (ad 0 0), .ref (ad 4 i), .ref (ad 9 p0)] ad (Nn n) I J R (po (some (.int 3)) ad (Nn n) I J R) := by
  refine CT.of 2 (L0 := [some (.ref (ad 0 0)), some (.ref (ad 4 i)), some (.ref (ad 9 p0)), none, none]) (by decide +kernel) rfl (Nat.le_of_ble_eq_true rfl) ?_
  intro p e s m args below meth c C
  refine x_aload_n C dX3_goOnWorking_0 rfl ?_
  refine x_getF C hT f_X3_167 rfl rfl (by first | assumption | exact Nat.one_pos) dX3_goOnWorking_1 ?_
  refine x_aload_n C dX3_goOnWorking_4 rfl ?_
  refine x_cV1 C yo_X2_nextPlace m_X3_197 rfl rfl (by first | assumption | exact Nat.one_pos) (c_X2_nextPlace l D dA base n ad I J R hT i f k r hi hf hf6 hk hk8 hr hr8) dX3_goOnWorking_5 rfl rfl (Nat.le_of_ble_eq_true rfl) ⟨by decide, by decide⟩ ⟨by decide, by decide⟩ ?_
  rw [hx]
  refine x_istore_n C dX3_goOnWorking_8 (by decide) rfl rfl ?_
  refine x_aload_n C dX3_goOnWorking_9 rfl ?_
  refine x_iload_n C dX3_goOnWorking_10 rfl ?_
  refine x_cV1 C yo_X0_rowKey m_X3_184 rfl rfl (by first | assumption | exact Nat.one_pos) (c_X0_rowKey_in l D dA base n ad I J R hT i pl r j hi hr hplr hr8 hj) dX3_goOnWorking_11 rfl rfl (Nat.le_of_ble_eq_true rfl) ⟨by decide, by decide⟩ ⟨by decide, by decide⟩ ?_
  refine x_astore C dX3_goOnWorking_14 (by decide) rfl rfl ?_
  refine x_aload C dX3_goOnWorking_16 rfl ?_
  refine x_ifnonnull C 44 dX3_goOnWorking_18 (by decide) ?_
  refine x_aload_n C dX3_goOnWorking_44 rfl ?_
  refine x_aload C dX3_goOnWorking_45 rfl ?_
  refine x_cV1 C yo_X3_isSure m_X3_100 rfl rfl (by first | assumption | exact Nat.one_pos) (c_X3_isSure l D dA base n ad I J R hT j hjn) dX3_goOnWorking_47 rfl rfl (Nat.le_of_ble_eq_true rfl) ⟨by decide, by decide⟩ ⟨by decide, by decide⟩ ?_
  refine x_if_ne C 60 dX3_goOnWorking_50 (by decide) (fun h50 => ?_) (fun h50 => ?_)
  · skip
    rw [hsu] at h50
    exact absurd rfl h50
  · skip
    refine x_aload C dX3_goOnWorking_53 rfl ?_
    refine x_aload_n C dX3_goOnWorking_55 rfl ?_
    refine x_cS1 C yo_X3_findFirst rfl m_X3_191 (c_X3_findFirst_w l D dA base n ad I J R hT j p0 hjn hp hq) dX3_goOnWorking_56 rfl rfl (Nat.le_of_ble_eq_true rfl) ⟨by decide, by decide⟩ ⟨by decide, by decide⟩ ?_
    exact x_iret C (po_i _ _ _ _ _ _) dX3_goOnWorking_59

set_option maxRecDepth 100000 in
set_option maxHeartbeats 4000000 in
theorem c_wrk_put (l : Launch) (D : va_G) (dA : Nat → ClassId) (base n : Nat) (ad : Fa) (I : Fi) (J : Fj) (R : Fr) (hT : ST n R) (i p0 z : Nat) (hi : i < n) (hp : p0 < 5) (hs : I 9 p0 1 = nI (z + 1)) (hz : z < 40) (ht : R 10 p0 z = some i) (f k r : Nat) (hf : I 4 i 1 = nI f) (hf6 : f < 6) (hk : I 7 i 1 = nI k) (hk8 : k ≤ 8) (hr : I 4 i 3 = nI r) (hr8 : r ≤ 8) (pl j : Nat) (hx : npl (I 7 i 4) f k r (J 7 i 3) = nI pl) (hplr : pl < r) (hj : R 5 i pl = some j) (hjn : j < n) (hsu : sure I j = false) (hq : I 4 j 16 = 0) (hz2 : z + 1 < 40) : CT l D dA base yX3_goOnWorking cX3_goOnWorking 5 (some .int) 4 0 0 [.ref (ad 0 0), .ref (ad 4 i), .ref (ad 9 p0)] ad (Nn n) I J R (po (some (.int 1)) ad (Nn n) (putI I p0 j (z + 1)) (up3 J 7 j 3 0) (up3 R 10 p0 (z + 1) (some j))) := by
  refine CT.of 2 (L0 := [some (.ref (ad 0 0)), some (.ref (ad 4 i)), some (.ref (ad 9 p0)), none, none]) (by decide +kernel) rfl (Nat.le_of_ble_eq_true rfl) ?_
  intro p e s m args below meth c C
  refine x_aload_n C dX3_goOnWorking_0 rfl ?_
  refine x_getF C hT f_X3_167 rfl rfl (by first | assumption | exact Nat.one_pos) dX3_goOnWorking_1 ?_
  refine x_aload_n C dX3_goOnWorking_4 rfl ?_
  refine x_cV1 C yo_X2_nextPlace m_X3_197 rfl rfl (by first | assumption | exact Nat.one_pos) (c_X2_nextPlace l D dA base n ad I J R hT i f k r hi hf hf6 hk hk8 hr hr8) dX3_goOnWorking_5 rfl rfl (Nat.le_of_ble_eq_true rfl) ⟨by decide, by decide⟩ ⟨by decide, by decide⟩ ?_
  rw [hx]
  refine x_istore_n C dX3_goOnWorking_8 (by decide) rfl rfl ?_
  refine x_aload_n C dX3_goOnWorking_9 rfl ?_
  refine x_iload_n C dX3_goOnWorking_10 rfl ?_
  refine x_cV1 C yo_X0_rowKey m_X3_184 rfl rfl (by first | assumption | exact Nat.one_pos) (c_X0_rowKey_in l D dA base n ad I J R hT i pl r j hi hr hplr hr8 hj) dX3_goOnWorking_11 rfl rfl (Nat.le_of_ble_eq_true rfl) ⟨by decide, by decide⟩ ⟨by decide, by decide⟩ ?_
  refine x_astore C dX3_goOnWorking_14 (by decide) rfl rfl ?_
  refine x_aload C dX3_goOnWorking_16 rfl ?_
  refine x_ifnonnull C 44 dX3_goOnWorking_18 (by decide) ?_
  refine x_aload_n C dX3_goOnWorking_44 rfl ?_
  refine x_aload C dX3_goOnWorking_45 rfl ?_
  refine x_cV1 C yo_X3_isSure m_X3_100 rfl rfl (by first | assumption | exact Nat.one_pos) (c_X3_isSure l D dA base n ad I J R hT j hjn) dX3_goOnWorking_47 rfl rfl (Nat.le_of_ble_eq_true rfl) ⟨by decide, by decide⟩ ⟨by decide, by decide⟩ ?_
  refine x_if_ne C 60 dX3_goOnWorking_50 (by decide) (fun h50 => ?_) (fun h50 => ?_)
  · skip
    rw [hsu] at h50
    exact absurd rfl h50
  · skip
    refine x_aload C dX3_goOnWorking_53 rfl ?_
    refine x_aload_n C dX3_goOnWorking_55 rfl ?_
    refine x_cS1 C yo_X3_findFirst rfl m_X3_191 (c_X3_findFirst_p l D dA base n ad I J R hT j p0 (z + 1) hjn hp hq hs hz2) dX3_goOnWorking_56 rfl rfl (Nat.le_of_ble_eq_true rfl) ⟨by decide, by decide⟩ ⟨by decide, by decide⟩ ?_
    exact x_iret C (po_i _ _ _ _ _ _) dX3_goOnWorking_59

set_option maxRecDepth 100000 in
set_option maxHeartbeats 4000000 in
theorem c_wrk_by (l : Launch) (D : va_G) (dA : Nat → ClassId) (base n : Nat) (ad : Fa) (I : Fi) (J : Fj) (R : Fr) (hT : ST n R) (i p0 z : Nat) (hi : i < n) (hp : p0 < 5) (hs : I 9 p0 1 = nI (z + 1)) (hz : z < 40) (ht : R 10 p0 z = some i) (f k r : Nat) (hf : I 4 i 1 = nI f) (hf6 : f < 6) (hk : I 7 i 1 = nI k) (hk8 : k ≤ 8) (hr : I 4 i 3 = nI r) (hr8 : r ≤ 8) (pl j : Nat) (hx : npl (I 7 i 4) f k r (J 7 i 3) = nI pl) (hplr : pl < r) (hj : R 5 i pl = some j) (hjn : j < n) (hk7 : k < 8) (hsu : sure I j = true) (hh : ¬ I 4 j 7 = 1) : CT l D dA base yX3_goOnWorking cX3_goOnWorking 5 (some .int) 4 0 0 [.ref (ad 0 0), .ref (ad 4 i), .ref (ad 9 p0)] ad (Nn n) I J R (po (some (.int 2)) ad (Nn n) (ewI (up3 (up3 I 8 i k (nI pl)) 7 i 1 (nI (k + 1))) J i p0 z (k + 1) 3 0) (up3 J 4 i 8 0) R) := by
  refine CT.of 2 (L0 := [some (.ref (ad 0 0)), some (.ref (ad 4 i)), some (.ref (ad 9 p0)), none, none]) (by decide +kernel) rfl (Nat.le_of_ble_eq_true rfl) ?_
  intro p e s m args below meth c C
  refine x_aload_n C dX3_goOnWorking_0 rfl ?_
  refine x_getF C hT f_X3_167 rfl rfl (by first | assumption | exact Nat.one_pos) dX3_goOnWorking_1 ?_
  refine x_aload_n C dX3_goOnWorking_4 rfl ?_
  refine x_cV1 C yo_X2_nextPlace m_X3_197 rfl rfl (by first | assumption | exact Nat.one_pos) (c_X2_nextPlace l D dA base n ad I J R hT i f k r hi hf hf6 hk hk8 hr hr8) dX3_goOnWorking_5 rfl rfl (Nat.le_of_ble_eq_true rfl) ⟨by decide, by decide⟩ ⟨by decide, by decide⟩ ?_
  rw [hx]
  refine x_istore_n C dX3_goOnWorking_8 (by decide) rfl rfl ?_
  refine x_aload_n C dX3_goOnWorking_9 rfl ?_
  refine x_iload_n C dX3_goOnWorking_10 rfl ?_
  refine x_cV1 C yo_X0_rowKey m_X3_184 rfl rfl (by first | assumption | exact Nat.one_pos) (c_X0_rowKey_in l D dA base n ad I J R hT i pl r j hi hr hplr hr8 hj) dX3_goOnWorking_11 rfl rfl (Nat.le_of_ble_eq_true rfl) ⟨by decide, by decide⟩ ⟨by decide, by decide⟩ ?_
  refine x_astore C dX3_goOnWorking_14 (by decide) rfl rfl ?_
  refine x_aload C dX3_goOnWorking_16 rfl ?_
  refine x_ifnonnull C 44 dX3_goOnWorking_18 (by decide) ?_
  refine x_aload_n C dX3_goOnWorking_44 rfl ?_
  refine x_aload C dX3_goOnWorking_45 rfl ?_
  refine x_cV1 C yo_X3_isSure m_X3_100 rfl rfl (by first | assumption | exact Nat.one_pos) (c_X3_isSure l D dA base n ad I J R hT j hjn) dX3_goOnWorking_47 rfl rfl (Nat.le_of_ble_eq_true rfl) ⟨by decide, by decide⟩ ⟨by decide, by decide⟩ ?_
  refine x_if_ne C 60 dX3_goOnWorking_50 (by decide) (fun h50 => ?_) (fun h50 => ?_)
  · skip
    refine x_aload C dX3_goOnWorking_60 rfl ?_
    refine x_getI C f_X3_35 rfl (by first | assumption | exact Nat.one_pos) dX3_goOnWorking_62 ?_
    refine x_iconst C 1 (by decide) dX3_goOnWorking_65 ?_
    refine x_icmp_eq C 86 dX3_goOnWorking_66 (by decide) (fun h66 => ?_) (fun h66 => ?_)
    · skip
      exact absurd h66 hh
    · skip
      refine x_aload_n C dX3_goOnWorking_69 rfl ?_
      refine x_getF C hT f_X3_167 rfl rfl (by first | assumption | exact Nat.one_pos) dX3_goOnWorking_70 ?_
      refine x_iload_n C dX3_goOnWorking_73 rfl ?_
      refine x_cV0 C yo_X2_notePlace m_X3_207 rfl rfl (by first | assumption | exact Nat.one_pos) (c_X2_notePlace l D dA base n ad I J R hT i k (nI pl) hi hk hk7) dX3_goOnWorking_74 rfl rfl (Nat.le_of_ble_eq_true rfl) ⟨by decide, by decide⟩ ⟨by decide, by decide⟩ ?_
      refine x_aload_n C dX3_goOnWorking_77 rfl ?_
      refine x_aload_n C dX3_goOnWorking_78 rfl ?_
      refine x_aload_n C dX3_goOnWorking_79 rfl ?_
      refine x_iconst C 3 (by decide) dX3_goOnWorking_80 ?_
      refine x_cV0 C yo_X3_endWork m_X3_203 rfl rfl (by first | assumption | exact Nat.one_pos) (c_X3_endWork_f l D dA base n ad (up3 (up3 I 8 i k (nI pl)) 7 i 1 (nI (k + 1))) J R hT i p0 z (k + 1) f hi hp (by simp [up3, hs]) hz ht (by rw [up3_s]) (by omega) (by simp [up3, hf]) hf6 3 (by decide)) dX3_goOnWorking_81 rfl rfl (Nat.le_of_ble_eq_true rfl) ⟨by decide, by decide⟩ ⟨by decide, by decide⟩ ?_
      refine x_iconst C 2 (by decide) dX3_goOnWorking_84 ?_
      exact x_iret C (po_i _ _ _ _ _ _) dX3_goOnWorking_85
  · skip
    rw [hsu] at h50
    exact absurd h50 (by decide)

set_option maxRecDepth 100000 in
set_option maxHeartbeats 4000000 in
theorem c_wrk_take (l : Launch) (D : va_G) (dA : Nat → ClassId) (base n : Nat) (ad : Fa) (I : Fi) (J : Fj) (R : Fr) (hT : ST n R) (i p0 z : Nat) (hi : i < n) (hp : p0 < 5) (hs : I 9 p0 1 = nI (z + 1)) (hz : z < 40) (ht : R 10 p0 z = some i) (f k r : Nat) (hf : I 4 i 1 = nI f) (hf6 : f < 6) (hk : I 7 i 1 = nI k) (hk8 : k ≤ 8) (hr : I 4 i 3 = nI r) (hr8 : r ≤ 8) (pl j : Nat) (hx : npl (I 7 i 4) f k r (J 7 i 3) = nI pl) (hplr : pl < r) (hj : R 5 i pl = some j) (hjn : j < n) (hk7 : k < 8) (hsu : sure I j = true) (hh : I 4 j 7 = 1) : CT l D dA base yX3_goOnWorking cX3_goOnWorking 5 (some .int) 4 0 0 [.ref (ad 0 0), .ref (ad 4 i), .ref (ad 9 p0)] ad (Nn n) I J R (po (some (.int 6)) ad (Nn n) (up3 (up3 (up3 I 7 i 4 (tkF f k (I 7 i 4) (J 4 j 8))) 8 i k (nI pl)) 7 i 1 (nI (k + 1))) (up3 J 7 i 3 (tkG f k (J 7 i 3) (J 4 j 8))) R) := by
  refine CT.of 2 (L0 := [some (.ref (ad 0 0)), some (.ref (ad 4 i)), some (.ref (ad 9 p0)), none, none]) (by decide +kernel) rfl (Nat.le_of_ble_eq_true rfl) ?_
  intro p e s m args below meth c C
  refine x_aload_n C dX3_goOnWorking_0 rfl ?_
  refine x_getF C hT f_X3_167 rfl rfl (by first | assumption | exact Nat.one_pos) dX3_goOnWorking_1 ?_
  refine x_aload_n C dX3_goOnWorking_4 rfl ?_
  refine x_cV1 C yo_X2_nextPlace m_X3_197 rfl rfl (by first | assumption | exact Nat.one_pos) (c_X2_nextPlace l D dA base n ad I J R hT i f k r hi hf hf6 hk hk8 hr hr8) dX3_goOnWorking_5 rfl rfl (Nat.le_of_ble_eq_true rfl) ⟨by decide, by decide⟩ ⟨by decide, by decide⟩ ?_
  rw [hx]
  refine x_istore_n C dX3_goOnWorking_8 (by decide) rfl rfl ?_
  refine x_aload_n C dX3_goOnWorking_9 rfl ?_
  refine x_iload_n C dX3_goOnWorking_10 rfl ?_
  refine x_cV1 C yo_X0_rowKey m_X3_184 rfl rfl (by first | assumption | exact Nat.one_pos) (c_X0_rowKey_in l D dA base n ad I J R hT i pl r j hi hr hplr hr8 hj) dX3_goOnWorking_11 rfl rfl (Nat.le_of_ble_eq_true rfl) ⟨by decide, by decide⟩ ⟨by decide, by decide⟩ ?_
  refine x_astore C dX3_goOnWorking_14 (by decide) rfl rfl ?_
  refine x_aload C dX3_goOnWorking_16 rfl ?_
  refine x_ifnonnull C 44 dX3_goOnWorking_18 (by decide) ?_
  refine x_aload_n C dX3_goOnWorking_44 rfl ?_
  refine x_aload C dX3_goOnWorking_45 rfl ?_
  refine x_cV1 C yo_X3_isSure m_X3_100 rfl rfl (by first | assumption | exact Nat.one_pos) (c_X3_isSure l D dA base n ad I J R hT j hjn) dX3_goOnWorking_47 rfl rfl (Nat.le_of_ble_eq_true rfl) ⟨by decide, by decide⟩ ⟨by decide, by decide⟩ ?_
  refine x_if_ne C 60 dX3_goOnWorking_50 (by decide) (fun h50 => ?_) (fun h50 => ?_)
  · skip
    refine x_aload C dX3_goOnWorking_60 rfl ?_
    refine x_getI C f_X3_35 rfl (by first | assumption | exact Nat.one_pos) dX3_goOnWorking_62 ?_
    refine x_iconst C 1 (by decide) dX3_goOnWorking_65 ?_
    refine x_icmp_eq C 86 dX3_goOnWorking_66 (by decide) (fun h66 => ?_) (fun h66 => ?_)
    · skip
      refine x_aload_n C dX3_goOnWorking_86 rfl ?_
      refine x_getF C hT f_X3_167 rfl rfl (by first | assumption | exact Nat.one_pos) dX3_goOnWorking_87 ?_
      refine x_aload_n C dX3_goOnWorking_90 rfl ?_
      refine x_aload C dX3_goOnWorking_91 rfl ?_
      refine x_getJ C f_X3_38 rfl (by first | assumption | exact Nat.one_pos) dX3_goOnWorking_93 ?_
      refine x_cV0 C yo_X2_take m_X3_211 rfl rfl (by first | assumption | exact Nat.one_pos) (c_X2_take l D dA base n ad I J R hT i f k (J 4 j 8) hi hf hf6 hk hk8) dX3_goOnWorking_96 rfl rfl (Nat.le_of_ble_eq_true rfl) ⟨by decide, by decide⟩ ⟨by decide, by decide⟩ ?_
      refine x_aload_n C dX3_goOnWorking_99 rfl ?_
      refine x_getF C hT f_X3_167 rfl rfl (by first | assumption | exact Nat.one_pos) dX3_goOnWorking_100 ?_
      refine x_iload_n C dX3_goOnWorking_103 rfl ?_
      refine x_cV0 C yo_X2_notePlace m_X3_207 rfl rfl (by first | assumption | exact Nat.one_pos) (c_X2_notePlace l D dA base n ad (up3 I 7 i 4 (tkF f k (I 7 i 4) (J 4 j 8))) (up3 J 7 i 3 (tkG f k (J 7 i 3) (J 4 j 8))) R hT i k (nI pl) hi (by rw [up3_k _ _ _ _ _ (by decide)]; exact hk) hk7) dX3_goOnWorking_104 rfl rfl (Nat.le_of_ble_eq_true rfl) ⟨by decide, by decide⟩ ⟨by decide, by decide⟩ ?_
      refine x_bipush C 6 (by decide) dX3_goOnWorking_107 ?_
      exact x_iret C (po_i _ _ _ _ _ _) dX3_goOnWorking_109
    · skip
      exact absurd hh h66
  · skip
    rw [hsu] at h50
    exact absurd h50 (by decide)

/-! a step of a pile -/
set_option maxRecDepth 100000 in
set_option maxHeartbeats 4000000 in
theorem c_goOn_0 (l : Launch) (D : va_G) (dA : Nat → ClassId) (base n : Nat) (ad : Fa) (I : Fi) (J : Fj) (R : Fr) (hT : ST n R) (p0 : Nat) (hp : p0 < 5) (hs : I 9 p0 1 = nI 0) : CT l D dA base yX3_goOn cX3_goOn 3 (some .int) 5 0 0 [.ref (ad 0 0), .ref (ad 9 p0)] ad (Nn n) I J R (po (some (.int 0)) ad (Nn n) I J R) := by
  refine CT.of 1 (L0 := [some (.ref (ad 0 0)), some (.ref (ad 9 p0)), none]) (by decide +kernel) rfl (Nat.le_of_ble_eq_true rfl) ?_
  intro p e s m args below meth c C
  refine x_aload_n C dX3_goOn_0 rfl ?_
  refine x_cV1 C yo_X1_topmost m_X3_163 rfl rfl (by first | assumption | exact Nat.one_pos) (c_X1_topmost_0 l D dA base n ad I J R hT p0 hp hs) dX3_goOn_1 rfl rfl (Nat.le_of_ble_eq_true rfl) ⟨by decide, by decide⟩ ⟨by decide, by decide⟩ ?_
  refine x_astore_nN C dX3_goOn_4 (by decide) rfl rfl ?_
  refine x_aload_nN C dX3_goOn_5 rfl ?_
  refine x_ifnonnullN C dX3_goOn_6 ?_
  refine x_iconst C 0 (by decide) dX3_goOn_9 ?_
  exact x_iret C (po_i _ _ _ _ _ _) dX3_goOn_10

set_option maxRecDepth 100000 in
set_option maxHeartbeats 4000000 in
theorem c_goOn_c (l : Launch) (D : va_G) (dA : Nat → ClassId) (base n : Nat) (ad : Fa) (I : Fi) (J : Fj) (R : Fr) (hT : ST n R) (i p0 z : Nat) (hi : i < n) (hp : p0 < 5) (hs : I 9 p0 1 = nI (z + 1)) (hz : z < 40) (ht : R 10 p0 z = some i) (hc : ¬ I 7 i 0 = 0) (x : Int32) (I1 : Fi) (J1 : Fj) (R1 : Fr) (hM : CT l D dA base yX3_goOnChecking cX3_goOnChecking 4 (some .int) 4 0 0 [.ref (ad 0 0), .ref (ad 4 i), .ref (ad 9 p0)] ad (Nn n) I J R (po (some (.int x)) ad (Nn n) I1 J1 R1)) : CT l D dA base yX3_goOn cX3_goOn 3 (some .int) 5 0 0 [.ref (ad 0 0), .ref (ad 9 p0)] ad (Nn n) I J R (po (some (.int x)) ad (Nn n) I1 J1 R1) := by
  refine CT.of 1 (L0 := [some (.ref (ad 0 0)), some (.ref (ad 9 p0)), none]) (by decide +kernel) rfl (Nat.le_of_ble_eq_true rfl) ?_
  intro p e s m args below meth c C
  refine x_aload_n C dX3_goOn_0 rfl ?_
  refine x_cV1 C yo_X1_topmost m_X3_163 rfl rfl (by first | assumption | exact Nat.one_pos) (c_X1_topmost_s l D dA base n ad I J R hT p0 z i hp hs hz ht) dX3_goOn_1 rfl rfl (Nat.le_of_ble_eq_true rfl) ⟨by decide, by decide⟩ ⟨by decide, by decide⟩ ?_
  refine x_astore_n C dX3_goOn_4 (by decide) rfl rfl ?_
  refine x_aload_n C dX3_goOn_5 rfl ?_
  refine x_ifnonnull C 11 dX3_goOn_6 (by decide) ?_
  refine x_aload_n C dX3_goOn_11 rfl ?_
  refine x_getF C hT f_X3_167 rfl rfl (by first | assumption | exact Nat.one_pos) dX3_goOn_12 ?_
  refine x_getI C f_X3_171 rfl (by first | assumption | exact Nat.one_pos) dX3_goOn_15 ?_
  refine x_if_eq C 30 dX3_goOn_18 (by decide) (fun h18 => ?_) (fun h18 => ?_)
  · skip
    exact absurd h18 hc
  · skip
    refine x_aload_n C dX3_goOn_21 rfl ?_
    refine x_aload_n C dX3_goOn_22 rfl ?_
    refine x_aload_n C dX3_goOn_23 rfl ?_
    refine x_cV1 C yo_X3_goOnChecking m_X3_174 rfl rfl (by first | assumption | exact Nat.one_pos) (hM) dX3_goOn_24 rfl rfl (Nat.le_of_ble_eq_true rfl) ⟨by decide, by decide⟩ ⟨by decide, by decide⟩ ?_
    refine x_goto C 36 dX3_goOn_27 (by decide) ?_
    exact x_iret C (po_i _ _ _ _ _ _) dX3_goOn_36

set_option maxRecDepth 100000 in
set_option maxHeartbeats 4000000 in
theorem c_goOn_w (l : Launch) (D : va_G) (dA : Nat → ClassId) (base n : Nat) (ad : Fa) (I : Fi) (J : Fj) (R : Fr) (hT : ST n R) (i p0 z : Nat) (hi : i < n) (hp : p0 < 5) (hs : I 9 p0 1 = nI (z + 1)) (hz : z < 40) (ht : R 10 p0 z = some i) (hc : I 7 i 0 = 0) (x : Int32) (I1 : Fi) (J1 : Fj) (R1 : Fr) (hM : CT l D dA base yX3_goOnWorking cX3_goOnWorking 5 (some .int) 4 0 0 [.ref (ad 0 0), .ref (ad 4 i), .ref (ad 9 p0)] ad (Nn n) I J R (po (some (.int x)) ad (Nn n) I1 J1 R1)) : CT l D dA base yX3_goOn cX3_goOn 3 (some .int) 5 0 0 [.ref (ad 0 0), .ref (ad 9 p0)] ad (Nn n) I J R (po (some (.int x)) ad (Nn n) I1 J1 R1) := by
  refine CT.of 1 (L0 := [some (.ref (ad 0 0)), some (.ref (ad 9 p0)), none]) (by decide +kernel) rfl (Nat.le_of_ble_eq_true rfl) ?_
  intro p e s m args below meth c C
  refine x_aload_n C dX3_goOn_0 rfl ?_
  refine x_cV1 C yo_X1_topmost m_X3_163 rfl rfl (by first | assumption | exact Nat.one_pos) (c_X1_topmost_s l D dA base n ad I J R hT p0 z i hp hs hz ht) dX3_goOn_1 rfl rfl (Nat.le_of_ble_eq_true rfl) ⟨by decide, by decide⟩ ⟨by decide, by decide⟩ ?_
  refine x_astore_n C dX3_goOn_4 (by decide) rfl rfl ?_
  refine x_aload_n C dX3_goOn_5 rfl ?_
  refine x_ifnonnull C 11 dX3_goOn_6 (by decide) ?_
  refine x_aload_n C dX3_goOn_11 rfl ?_
  refine x_getF C hT f_X3_167 rfl rfl (by first | assumption | exact Nat.one_pos) dX3_goOn_12 ?_
  refine x_getI C f_X3_171 rfl (by first | assumption | exact Nat.one_pos) dX3_goOn_15 ?_
  refine x_if_eq C 30 dX3_goOn_18 (by decide) (fun h18 => ?_) (fun h18 => ?_)
  · skip
    refine x_aload_n C dX3_goOn_30 rfl ?_
    refine x_aload_n C dX3_goOn_31 rfl ?_
    refine x_aload_n C dX3_goOn_32 rfl ?_
    refine x_cV1 C yo_X3_goOnWorking m_X3_178 rfl rfl (by first | assumption | exact Nat.one_pos) (hM) dX3_goOn_33 rfl rfl (Nat.le_of_ble_eq_true rfl) ⟨by decide, by decide⟩ ⟨by decide, by decide⟩ ?_
    exact x_iret C (po_i _ _ _ _ _ _) dX3_goOn_36
  · skip
    exact absurd hc h18
end
section
/-! NEW CELLS; constructors' contracts -/
def XT (U : State) : Prop := va_AO RX0 U ∧ va_AO RX1 U ∧ va_Nw (.methodLinkNest RX3 21 yX1_init RX3) U ∧ va_Nw (.methodLinkNest RX0 21 yX2_init RX3) U
theorem XT.warm {s U : State} (hW : s.WarmedH U.vm) (h : XT s) : XT U := ⟨h.1.moved hW.alike, h.2.1.moved hW.alike, h.2.2.1.warmM hW, h.2.2.2.warmM hW⟩
theorem XT.same {s U : State} (hv : s.vm = U.vm) (h : XT s) : XT U := ⟨h.1.moved (by rw [hv]; exact Vm.Alike.refl _), h.2.1.moved (by rw [hv]; exact Vm.Alike.refl _), h.2.2.1.same rfl hv, h.2.2.2.same rfl hv⟩
def CTx (l : Launch) (D : va_G) (dA : Nat → ClassId) (base : Nat) (y : MethodName) (cc : ByteArray) (maxL : Nat) (ret : Option FieldType) (d mc ms : Nat) (as : List Value) (ad : Fa) (N : Nat → Nat) (I : Fi) (J : Fj) (R : Fr) (post : Po) : Prop :=
  Met l y (Cond.code y cc maxL ret :: lw_gd) (rmX d mc ms) (fun v U => CP D dA base as ad N I J R v U ∧ XT U) (CQ D dA base post) mc ms (fun q => base ≤ q)
theorem CPx_blind {D : va_G} {dA : Nat → ClassId} {base : Nat} {as : List Value} {ad : Fa} {N : Nat → Nat} {I : Fi} {J : Fj} {R : Fr} : FrameBlind (fun v U => CP D dA base as ad N I J R v U ∧ XT U) := fun a U g mk h => ⟨CP_blind a U g mk h.1, h.2.same (U := U.calling g mk a) rfl⟩
theorem CTx.of {l : Launch} {D : va_G} {dA : Nat → ClassId} {base : Nat} {y : MethodName} {cc : ByteArray} {maxL : Nat} {ret : Option FieldType} {d mc ms : Nat} {as : List Value} {ad : Fa} {N : Nat → Nat} {I : Fi} {J : Fj} {R : Fr} {post : Po} (t : Nat) {L0 : List (Option Value)} (hy : plainName y.cls = true) (hL : argL as ++ List.replicate t none = L0) (hlen : (lg_sl as).length ≤ maxL)
    (body : ∀ (p : Program) (e : Env) (s : State) (m : MethodId) (args : Array Value) (below : List Frame) (meth : Method) (c : Code), CX p s m args meth c cc maxL y.cls ret D dA base → XT s → meth.name = y.name → GX p l e (rmX d mc ms) s m args below meth c (MQ below (CQ D dA base post) args s mc ms (fun q => base ≤ q)) D dA base maxL ad N I J R 0 0 0 L0 []) : CTx l D dA base y cc maxL ret d mc ms as ad N I J R post := by
  refine Met.ofW (cc := cc) (maxL := maxL) (ret := ret) hy rfl ?_
  intro p e s m args below meth c s₁ B hml hv
  obtain ⟨⟨rfl, hb, hH, hK⟩, hX⟩ := hv
  have hts := atoms_spec (ws := Cond.code y cc maxL ret :: lw_gd) B.pre
  have C : CX p s m as.toArray meth c cc maxL y.cls ret D dA base := ⟨B.exec, B.bytes, hml, findClass_of_methodNamed B.named, fun w h => hts w (List.mem_cons_of_mem _ h), hK, hb, B.returns, B.notSynchronized⟩
  rw [lg_entry_eq]
  exact body p e s m _ below meth c C hX (name_of_methodNamed B.named B.method).1 s.heap [] _ hH va_S.rf (hL ▸ LVx.entry as t hlen)
def upN (N : Nat → Nat) (kc : Nat) : Nat → Nat := fun c => if c = kc then N c + 1 else N c
/-- every reference in the store leads to a cell that is there -/
def CLo (N : Nat → Nat) (R : Fr) : Prop := ∀ c i k j t, i < N c → R c i k = some j → sty c k = t + 2 → j < N t
def dfv (t : Nat) : Value := match t with
  | 0 => .int 0
  | 1 => .long 0
  | _ => .null
/-- a cell that isn't there yet holds nothing -/
def Dft (I : Fi) (J : Fj) (R : Fr) (c i : Nat) : Prop := ∀ k, I c i k = 0 ∧ J c i k = 0 ∧ R c i k = none
theorem Dft_sv {ad : Fa} {I : Fi} {J : Fj} {R : Fr} {c i : Nat} (h : Dft I J R c i) (k : Nat) : sv ad I J R c i k = dfv (sty c k) := by
  obtain ⟨h1, h2, h3⟩ := h k
  unfold sv dfv
  split <;> simp_all
def adN (ad : Fa) (N : Nat → Nat) (kc q : Nat) : Fa := fun c i => if c = kc ∧ i = N kc then q else ad c i
theorem adN_o (ad : Fa) (N : Nat → Nat) (kc q : Nat) {c i : Nat} (hi : i < N c) : adN ad N kc q c i = ad c i := if_neg (fun z => by obtain ⟨rfl, rfl⟩ := z; omega)
theorem adN_n (ad : Fa) (N : Nat → Nat) (kc q : Nat) : adN ad N kc q kc (N kc) = q := if_pos ⟨rfl, rfl⟩
theorem HR.push {D : va_G} {dA : Nat → ClassId} {base : Nat} {ad : Fa} {N : Nat → Nat} {I : Fi} {J : Fj} {R : Fr} {H H1 : Heap} (h : HR D dA base ad N I J R H) (kc : Nat) (hb : base ≤ H.size) (hcl : CLo N R) (hn : cellAt D dA H1 H.size kc (fun k => dfv (sty kc k))) (hd : Dft I J R kc (N kc)) (ho : ∀ q : Nat, q < H.size → H1[q]? = H[q]?) :
    HR D dA base (adN ad N kc H.size) (upN N kc) I J R H1 := by
  have hlt : ∀ c i, i < N c → ad c i < H.size := fun c i hi => cellAt_lt (h.1 c i hi)
  have hcase : ∀ c i, i < upN N kc c → i < N c ∨ (c = kc ∧ i = N kc) := fun c i hi => by
    unfold upN at hi
    by_cases hc : c = kc
    · subst hc; rw [if_pos rfl] at hi; omega
    · rw [if_neg hc] at hi; exact Or.inl hi
  refine ⟨fun c i hi => ?_, fun c i c' i' hi hi' he => ?_, fun c i hi => ?_⟩
  · rcases hcase c i hi with hi | ⟨rfl, rfl⟩
    · have hs : sv (adN ad N kc H.size) I J R c i = sv ad I J R c i := by
        funext k
        unfold sv
        split
        · rfl
        · rfl
        · rename_i t ht
          split
          · rfl
          · rename_i j hj
            rw [adN_o ad N kc _ (hcl c i k j t hi hj ht)]
      rw [hs, adN_o ad N kc _ hi]
      exact cellAt_kept (h.1 c i hi) (ho _ (hlt c i hi))
    · have hs : sv (adN ad N c H.size) I J R c (N c) = fun k => dfv (sty c k) := funext fun k => Dft_sv hd k
      rw [hs, adN_n]
      exact hn
  · rcases hcase c i hi with hi | ⟨rfl, rfl⟩ <;> rcases hcase c' i' hi' with hi' | ⟨h1, h2⟩
    · rw [adN_o ad N kc _ hi, adN_o ad N kc _ hi'] at he
      exact h.2.1 c i c' i' hi hi' he
    · have := hlt c i hi
      rw [h1, h2, adN_n, adN_o ad N kc _ hi] at he
      omega
    · have := hlt c' i' hi'
      rw [adN_n, adN_o ad N c _ hi'] at he
      omega
    · exact ⟨h1.symm, h2.symm⟩
  · rcases hcase c i hi with hi | ⟨rfl, rfl⟩
    · rw [adN_o ad N kc _ hi]; exact h.2.2 c i hi
    · rw [adN_n]; exact hb
/-- entry idx of own names the place k of the objects of kind c, final, of type ty -/
def FOF (own : String) (idx c k : Nat) (ty : FieldType) : Prop := ∃ (ci n : Nat) (C : String) (T : u_T), kd c = (0, ci, n) ∧ vwCl[ci]? = some (C, T, n) ∧ k < n ∧ Cond.fieldLink own idx (T k).1 (T k).2.1 (T k).2.2.1 ∈ lw_gd ∧ (T k).2.2.2 = true ∧ parseFieldDescriptor (T k).2.2.1 = some ty ∧ (T k).1 = own
section GXM
variable {p : Program} {l : Launch} {e : Env} {Rm : Room} {s : State} {m : MethodId} {args : Array Value} {below : List Frame} {meth : Method} {c : Code} {Q : State → Prop} {cc : ByteArray} {own : String} {ret : Option FieldType} {D : va_G} {dA : Nat → ClassId} {base nL : Nat} {ad : Fa} {N : Nat → Nat} {I I' : Fi} {J J' : Fj} {R R' : Fr} {nc ns pc mc ms : Nat} {L : List (Option Value)} {st : List Value} {post : Po}
theorem x_objInit (C : CX p s m args meth c cc nL own ret D dA base) {idx a : Nat} (h1 : Cond.methodLink own idx objectInit ∈ lw_gd) (hf : 1 ≤ Rm.frames) (hlo : (st.map fun v => v.category).sum + 12 ≤ Rm.locals) (d : decode cc pc = .ok (.invokespecial idx, 3)) (h2 : Cond.instanceMethod objectInit ∈ lw_gd) (h3 : Cond.code objectInit ⟨#[0xb1]⟩ 1 none ∈ lw_gd) (kk : GX p l e Rm s m args below meth c Q D dA base nL ad N I J R nc ns (pc + 3) L st) : GX p l e Rm s m args below meth c Q D dA base nL ad N I J R nc ns pc L (.ref a :: st) := fun H locs ls hH hS hl =>
  W.objInit C.1 C.2.1 C.2.2.2.1 (C.2.2.2.2.1 _ h1) (C.2.2.2.2.1 _ h2) (C.2.2.2.2.1 _ h3) rfl (by rw [C.2.2.1]; exact hl.1) rfl d hf (by show 2 * 0 + _ + 12 ≤ _; omega) (kk H locs ls hH hS hl)
theorem x_putFV (C : CX p s m args meth c cc nL own ret D dA base) (hnm : meth.name = "<init>") {idx kc k i : Nat} {v : Value} {ty : FieldType} (f : FOF own idx kc k ty) (hi : i < N kc) (hn : narrow ty v = v) (hfit : fits ty v = true) (hv : sv ad I' J' R' kc i = updV (sv ad I J R kc i) k v) (hv' : ∀ c' i', ¬ (c' = kc ∧ i' = i) → sv ad I' J' R' c' i' = sv ad I J R c' i') (d : decode cc pc = .ok (.putfield idx, 3)) (kk : GX p l e Rm s m args below meth c Q D dA base nL ad N I' J' R' nc ns (pc + 3) L st) : GX p l e Rm s m args below meth c Q D dA base nL ad N I J R nc ns pc L (v :: .ref (ad kc i) :: st) := fun H locs ls hH hS hl => by
  obtain ⟨ci, n, C', T, h1, h2, h3, h4, hfin, hd, hdecl⟩ := f
  obtain ⟨ty0, hty, hnm2, hu⟩ := cok h2
  have hts := C.2.2.2.2.1
  have hK := C.2.2.2.2.2.1
  have hap := va_apart (own := own) hts hu ty0 hty hnm2 hK h2
  obtain ⟨cell, q1, q2, q3, q4⟩ := hH.obj hi h1
  obtain ⟨hSl, hfc, kC, hkC, hkind⟩ := hK.1 ci _ h2
  obtain ⟨cf, kf, fi, f, hfi, hsl⟩ := hSl k h3
  have hlay := hts _ (hu _ (u_in_lay h3))
  unfold u_lay at hlay
  rw [if_pos hfin] at hlay
  have hst := (u_facts hfc hkC (u_lays hts hu h3) hfi).1
  have hcf : m.cls = cf := by
    obtain ⟨_, _, c', _, _, _, -, -, hf', -, -, -, hown2, -⟩ := Cond.laysFinal_spec hlay
    have e1 : c' = cf := by have := hfi.symm.trans hf'; simp at this; exact this.1.symm
    rw [hdecl] at hown2
    rw [← e1]; exact Option.some.inj (C.2.2.2.1.symm.trans hown2)
  have h6 := u_fits hfc hkC hkind (Or.inr hlay) hfi hd hn hfit
  refine W.putFinK C.1 C.2.1 C.2.2.2.1 (hts _ h4) hfi hst hcf hnm (by rw [q2]; exact h6) q1 q3 (by rw [hsl]; exact k2_hasslot (q4 k h3)) rfl rfl d fun H' e1 e2 e3 => ?_
  rw [hsl] at e1 ⊢
  refine kk H' _ ls (hH.set hi ?_ e3 hv') (hS.put e2 e3 (hH.2.2 kc i hi)) hl
  unfold cellAt
  rw [h1, hv]
  exact ⟨_, e1, q2, q3, t_set q4 hap h3 v⟩
theorem x_putFI (C : CX p s m args meth c cc nL own ret D dA base) (hnm : meth.name = "<init>") {idx kc k i : Nat} {v : Int32} (f : FOF own idx kc k .int) (hs : sty kc k = 0) (hi : i < N kc) (d : decode cc pc = .ok (.putfield idx, 3)) (kk : GX p l e Rm s m args below meth c Q D dA base nL ad N (up3 I kc i k v) J R nc ns (pc + 3) L st) : GX p l e Rm s m args below meth c Q D dA base nL ad N I J R nc ns pc L (.int v :: .ref (ad kc i) :: st) := x_putFV C hnm f hi rfl rfl (sv_upI i hs v) (sv_upI' v) d kk
theorem x_putFR (C : CX p s m args meth c cc nL own ret D dA base) (hnm : meth.name = "<init>") {idx kc k i t j : Nat} {ty : FieldType} (f : FOF own idx kc k ty) (hs : sty kc k = t + 2) (hi : i < N kc) (hn : narrow ty (.ref (ad t j)) = .ref (ad t j)) (hfit : fits ty (.ref (ad t j)) = true) (d : decode cc pc = .ok (.putfield idx, 3)) (kk : GX p l e Rm s m args below meth c Q D dA base nL ad N I J (up3 R kc i k (some j)) nc ns (pc + 3) L st) : GX p l e Rm s m args below meth c Q D dA base nL ad N I J R nc ns pc L (.ref (ad t j) :: .ref (ad kc i) :: st) := x_putFV C hnm f hi hn hfit (sv_upR i hs j) (sv_upR' (some j)) d kk
theorem va_Spush {A : Nat → Prop} {H0 H H1 : Heap} {locs : List Loc} (hS : va_S A H0 H locs) (z1 : H1.size = H.size + 1) (o1 : ∀ q : Nat, q < H.size → H1[q]? = H[q]?) : va_S A H0 H1 locs := ⟨Nat.le_trans hS.1 (by omega), fun x h1 h2 => (o1 x (Nat.lt_of_lt_of_le h1 hS.1)).trans (hS.2.1 x h1 h2), hS.2.2⟩
theorem x_new (C : CX p s m args meth c cc nL own ret D dA base) {idx kc ci nf : Nat} {Cn : String} {T : u_T} (ty : Nat → FieldType) (hk : kd kc = (0, ci, nf)) (hci : vwCl[ci]? = some (Cn, T, nf)) (hty : ∀ k, k < nf → parseFieldDescriptor (T k).2.2.1 = some (ty k)) (hdv : ∀ k, k < nf → defaultValue (ty k) = dfv (sty kc k)) (h1 : Cond.classLink own idx Cn ∈ lw_gd) (h2 : Cond.instantiable Cn nf ∈ lw_gd) (h3 : Cond.initialized Cn ∈ lw_gd) (hcl : CLo N R) (hd : Dft I J R kc (N kc)) (hc : nc + 1 ≤ Rm.cells) (hs : ns + nf ≤ Rm.slots) (d : decode cc pc = .ok (.new idx, 3))
    (kk : ∀ ad' : Fa, (∀ c i, i < N c → ad' c i = ad c i) → GX p l e Rm s m args below meth c Q D dA base nL ad' (upN N kc) I J R (nc + 1) (ns + nf) (pc + 3) L (.ref (ad' kc (N kc)) :: st)) : GX p l e Rm s m args below meth c Q D dA base nL ad N I J R nc ns pc L st := fun H locs ls hH hS hl => by
  have hts := C.2.2.2.2.1
  obtain ⟨ty0, hty0, -, hu⟩ := cok hci
  have hKn := C.2.2.2.2.2.1.1 ci _ hci
  refine W.newcK C.1 C.2.1 C.2.2.2.1 (hts _ h1) (hts _ h2) (hts _ h3) rfl d hc hs hKn.2.1 rfl fun H1 kC hkC e1 z1 o1 => ?_
  have hb : base ≤ H.size := Nat.le_trans C.2.2.2.2.2.2.1 hS.1
  have hkk := kk (adN ad N kc H.size) (fun c i hi => adN_o ad N kc _ hi) H1 locs ls (hH.push kc hb hcl (by
    unfold cellAt
    rw [hk]
    exact (u_born ty hts hu hKn hkC e1 hty).to (fun j hj => hdv j hj)) hd o1) (va_Spush hS z1 o1) hl
  rw [adN_n] at hkk
  exact hkk
theorem x_newP (C : CX p s m args meth c cc nL own ret D dA base) {kc n t : Nat} {atype : ArrayType} {x : Int32} (hk : kd kc = (1, t, n)) (ht : (tysX dA)[t]? = some (dA t, newarray.typeOf atype)) (hx : x = nI n) (hn31 : n < 2 ^ 31) (hRA : va_RA s (dA t) (newarray.typeOf atype) → s.vm.findClass ("[" ++ (newarray.typeOf atype).toString) = some (dA t)) (hdv : ∀ k, defaultValue (newarray.typeOf atype) = dfv (sty kc k)) (h1 : Cond.arrayClass (newarray.typeOf atype) ∈ lw_gd) (hby : n * componentBytes (newarray.typeOf atype) ≤ 536870912) (hcl : CLo N R) (hd : Dft I J R kc (N kc)) (hc : nc + 1 ≤ Rm.cells) (hs : ns + n ≤ Rm.slots) (d : decode cc pc = .ok (.newarray atype, 2))
    (kk : ∀ ad' : Fa, (∀ c i, i < N c → ad' c i = ad c i) → GX p l e Rm s m args below meth c Q D dA base nL ad' (upN N kc) I J R (nc + 1) (ns + n) (pc + 2) L (.ref (ad' kc (N kc)) :: st)) : GX p l e Rm s m args below meth c Q D dA base nL ad N I J R nc ns pc L (.int x :: st) := fun H locs ls hH hS hl => by
  subst hx
  refine va_newaK C.1 C.2.1 (C.2.2.2.2.1 _ h1) rfl d rfl (nI_pos hn31) (nI_clamp hn31) hby hc hs rfl fun H1 cA e1 z1 o1 hAr hNm => ?_
  have hcA : cA = dA t := Option.some.inj (hNm.symm.trans (hRA (C.2.2.2.2.2.1.2 t _ ht).2))
  subst hcA
  have hb : base ≤ H.size := Nat.le_trans C.2.2.2.2.2.2.1 hS.1
  have hkk := kk (adN ad N kc H.size) (fun c i hi => adN_o ad N kc _ hi) H1 locs ls (hH.push kc hb hcl (by
    unfold cellAt
    rw [hk]
    exact e1.trans (by rw [show (fun _ : Nat => defaultValue (newarray.typeOf atype)) = (fun k => dfv (sty kc k)) from funext hdv])) hd o1) (va_Spush hS z1 o1) hl
  rw [adN_n] at hkk
  exact hkk
theorem x_newA (C : CX p s m args meth c cc nL own ret D dA base) {idx kc n t : Nat} {Cn : String} {x : Int32} (hk : kd kc = (1, t, n)) (ht : (tysX dA)[t]? = some (dA t, .object Cn)) (hx : x = nI n) (hn31 : n < 2 ^ 31) (hdv : ∀ k, Value.null = dfv (sty kc k)) (h1 : Cond.classLink own idx Cn ∈ lw_gd) (hov : va_AO Cn s) (hby : n * 4 ≤ 536870912) (hcl : CLo N R) (hd : Dft I J R kc (N kc)) (hc : nc + 1 ≤ Rm.cells) (hs : ns + n ≤ Rm.slots) (d : decode cc pc = .ok (.anewarray idx, 3))
    (kk : ∀ ad' : Fa, (∀ c i, i < N c → ad' c i = ad c i) → GX p l e Rm s m args below meth c Q D dA base nL ad' (upN N kc) I J R (nc + 1) (ns + n) (pc + 3) L (.ref (ad' kc (N kc)) :: st)) : GX p l e Rm s m args below meth c Q D dA base nL ad N I J R nc ns pc L (.int x :: st) := fun H locs ls hH hS hl => by
  subst hx
  refine W.anew C.1 C.2.1 C.2.2.2.1 (C.2.2.2.2.1 _ h1) hov.use rfl d rfl (nI_pos hn31) (by rw [nI_clamp hn31]; exact hby) hc (by rw [nI_clamp hn31]; exact hs) fun cA kA comp f1 f2 f3 f4 => ?_
  rw [nI_clamp hn31]
  obtain ⟨-, -, -, -, -, k4⟩ := (C.2.2.2.2.2.1.2 t _ ht).2
  have hcA : cA = dA t := Option.some.inj (f1.symm.trans k4)
  subst hcA
  generalize hH1 : H.push ({ cls := dA t, slots := Array.replicate n .null, vm := .none } : Cell) = H1
  have z1 : H1.size = H.size + 1 := by rw [← hH1, Array.size_push]
  have e1 : H1[H.size]? = some (arrV (dA t) n (fun _ => .null)) := by rw [← hH1, Array.getElem?_push_size, ← arrV_new]
  have o1 : ∀ q : Nat, q < H.size → H1[q]? = H[q]? := fun q hq => by rw [← hH1, Array.getElem?_push, if_neg (Nat.ne_of_lt hq)]
  have hb : base ≤ H.size := Nat.le_trans C.2.2.2.2.2.2.1 hS.1
  have hkk := kk (adN ad N kc H.size) (fun c i hi => adN_o ad N kc _ hi) H1 locs ls (hH.push kc hb hcl (by
    unfold cellAt
    rw [hk]
    exact e1.trans (by rw [show (fun _ : Nat => Value.null) = (fun k => dfv (sty kc k)) from funext hdv])) hd o1) (va_Spush hS z1 o1) hl
  rw [adN_n] at hkk
  exact hkk
variable {y : MethodName} {cc2 : ByteArray} {maxL2 n2 idx d2 : Nat} {As rest : List Value}
/-- a constructor's call -/
def YOI (y : MethodName) (cc : ByteArray) (maxL : Nat) (n : Nat) : Prop := Cond.instanceMethod y ∈ lw_gd ∧ Cond.initialized y.cls ∈ lw_gd ∧ Cond.code y cc maxL none ∈ lw_gd ∧ (y.cls ≠ "java/lang/invoke/MethodHandle" ∧ y.cls ≠ "java/lang/invoke/VarHandle" ∧ (parseMethodDescriptor y.desc).map (fun d => d.parameters.length) = some n) ∧ y.name = "<init>"
theorem x_callI (C : CX p s m args meth c cc nL own ret D dA base) (hX : XT s) (yo : YOI y cc2 maxL2 n2) (ml : Cond.methodLink own idx y ∈ lw_gd) {b : Nat}
    (hM : CTx l D dA base y cc2 maxL2 none d2 mc ms (.ref b :: As) ad N I J R post) (d : decode cc pc = .ok (.invokespecial idx, 3)) (hst : st = As.reverse ++ .ref b :: rest) (hn : As.length = n2) (hW : (rest.map fun v => v.category).sum ≤ 8) (hR : d2 + 1 ≤ Rm.frames ∧ 8 + (maxL2 + 11) + 30 * d2 ≤ Rm.locals) (hf : nc + mc ≤ Rm.cells ∧ ns + ms ≤ Rm.slots)
    (kk : ∀ r ad' N' I' J' R', post r ad' N' I' J' R' → GX p l e Rm s m args below meth c Q D dA base nL ad' N' I' J' R' (nc + mc) (ns + ms) (pc + 3) L (r.toList ++ rest)) : GX p l e Rm s m args below meth c Q D dA base nL ad N I J R nc ns pc L st := fun H locs ls hH hS hl => by
  subst hst
  obtain ⟨y1, y3, y4, y5, y6⟩ := yo
  have hK := C.2.2.2.2.2.1
  have hts := C.2.2.2.2.1
  have cw := cwI (R := Rm) (rm := rmX d2 mc ms) (mc := mc) (ms := ms) (own := own) (index := idx) (y := y) (ws := Cond.code y cc2 maxL2 none :: lw_gd) n2 hts (gd_GI (fun w hw => by
    rcases List.mem_cons.mp hw with rfl | hw
    · exact y4
    · exact hw)) rfl rfl rfl (hts _ y3) (hts _ ml) (hts _ y1) y6 y5 hR
  refine x_run (post := post) (a := (Value.ref b :: As).toArray) hS hl (va_runI (Ts := lw_gd) (nL := nL) (As := As) (rest := rest) ⟨C.1, C.2.1, C.2.2.1, C.2.2.2.1, hts⟩ hM cw ⟨CPx_blind, fun U hU hW2 => ⟨⟨rfl, by rw [hU]; exact Nat.le_trans C.2.2.2.2.2.2.1 hS.1, by rw [hU]; exact hH, va_K.moved hW2.alike hK⟩, hX.warm hW2⟩⟩ rfl hn hl.1 rfl (lv_room hW) d hf) kk
/-- a private constructor of a nest mate -/
theorem x_callIN (C : CX p s m args meth c cc nL own ret D dA base) (hX : XT s) (yo : YOI y cc2 maxL2 n2) {host : String} (ml : va_Nw (.methodLinkNest own idx y host) s) {b : Nat}
    (hM : CTx l D dA base y cc2 maxL2 none d2 mc ms (.ref b :: As) ad N I J R post) (d : decode cc pc = .ok (.invokespecial idx, 3)) (hst : st = As.reverse ++ .ref b :: rest) (hn : As.length = n2) (hW : (rest.map fun v => v.category).sum ≤ 8) (hR : d2 + 1 ≤ Rm.frames ∧ 8 + (maxL2 + 11) + 30 * d2 ≤ Rm.locals) (hf : nc + mc ≤ Rm.cells ∧ ns + ms ≤ Rm.slots)
    (kk : ∀ r ad' N' I' J' R', post r ad' N' I' J' R' → GX p l e Rm s m args below meth c Q D dA base nL ad' N' I' J' R' (nc + mc) (ns + ms) (pc + 3) L (r.toList ++ rest)) : GX p l e Rm s m args below meth c Q D dA base nL ad N I J R nc ns pc L st := fun H locs ls hH hS hl => by
  subst hst
  obtain ⟨y1, y3, y4, y5, y6⟩ := yo
  have hK := C.2.2.2.2.2.1
  have hts := C.2.2.2.2.1
  have cw := va_cnB (R := Rm) (rm := rmX d2 mc ms) (mc := mc) (ms := ms) (own := own) (host := host) (index := idx) (y := y) (ws := Cond.code y cc2 maxL2 none :: lw_gd) n2 hts (gd_GI (fun w hw => by
    rcases List.mem_cons.mp hw with rfl | hw
    · exact y4
    · exact hw)) rfl rfl rfl ml (hts _ y3) y5 hR
  refine x_run (post := post) (a := (Value.ref b :: As).toArray) hS hl (va_runIN (Ts := lw_gd) (nL := nL) (As := As) (rest := rest) ⟨C.1, C.2.1, C.2.2.1, C.2.2.2.1, hts⟩ hM ⟨cw, y6, hts _ y1⟩ ⟨CPx_blind, fun U hU hW2 => ⟨⟨rfl, by rw [hU]; exact Nat.le_trans C.2.2.2.2.2.2.1 hS.1, by rw [hU]; exact hH, va_K.moved hW2.alike hK⟩, hX.warm hW2⟩⟩ rfl hn hl.1 rfl (lv_room hW) d hf) kk
end GXM
end
section
/-! constructors -/
theorem CLo.new {N : Nat → Nat} {I : Fi} {J : Fj} {R : Fr} (h : CLo N R) {kc : Nat} (hd : Dft I J R kc (N kc)) : CLo (upN N kc) R := fun c i k j t hi hr hs => by
  have hj : j < N t → j < upN N kc t := fun q => by unfold upN; split <;> omega
  by_cases hc : c = kc
  · subst hc
    unfold upN at hi
    rw [if_pos rfl] at hi
    by_cases h2 : i < N c
    · exact hj (h c i k j t h2 hr hs)
    · rw [show i = N c by omega, (hd k).2.2] at hr
      cases hr
  · unfold upN at hi
    rw [if_neg hc] at hi
    exact hj (h c i k j t hi hr hs)
theorem CLo.up {N : Nat → Nat} {R : Fr} (h : CLo N R) {c i k j t : Nat} (hs : sty c k = t + 2) (hj : j < N t) : CLo N (up3 R c i k (some j)) := fun c' i' k' j' t' hi hr hs' => by
  by_cases hc : c' = c ∧ i' = i ∧ k' = k
  · obtain ⟨rfl, rfl, rfl⟩ := hc
    rw [up3_s] at hr
    cases hr
    have : t' = t := by omega
    subst this
    exact hj
  · rw [up3_n _ _ _ _ _ hc] at hr
    exact h c' i' k' j' t' hi hr hs'
theorem Dft.upI {I : Fi} {J : Fj} {R : Fr} {c i : Nat} (h : Dft I J R c i) {c' i' k : Nat} {v : Int32} (hc : ¬ (c = c' ∧ i = i')) : Dft (up3 I c' i' k v) J R c i := fun q => ⟨by rw [up3_n _ _ _ _ _ (fun z => hc ⟨z.1, z.2.1⟩)]; exact (h q).1, (h q).2⟩
theorem Dft.upJ {I : Fi} {J : Fj} {R : Fr} {c i : Nat} (h : Dft I J R c i) {c' i' k : Nat} {v : Int64} (hc : ¬ (c = c' ∧ i = i')) : Dft I (up3 J c' i' k v) R c i := fun q => ⟨(h q).1, by rw [up3_n _ _ _ _ _ (fun z => hc ⟨z.1, z.2.1⟩)]; exact (h q).2.1, (h q).2.2⟩
theorem Dft.upR {I : Fi} {J : Fj} {R : Fr} {c i : Nat} (h : Dft I J R c i) {c' i' k : Nat} {v : Option Nat} (hc : ¬ (c = c' ∧ i = i')) : Dft I J (up3 R c' i' k v) c i := fun q => ⟨(h q).1, (h q).2.1, by rw [up3_n _ _ _ _ _ (fun z => hc ⟨z.1, z.2.1⟩)]; exact (h q).2.2⟩
theorem oi_2 : Cond.instanceMethod objectInit ∈ lw_gd := gd_in (by decide +kernel) rfl
theorem oi_3 : Cond.code objectInit ⟨#[0xb1]⟩ 1 none ∈ lw_gd := gd_in (by decide +kernel) rfl
theorem ac_I : Cond.arrayClass .int ∈ lw_gd := gd_in (by decide +kernel) rfl
theorem ac_J : Cond.arrayClass .long ∈ lw_gd := gd_in (by decide +kernel) rfl
theorem ac_Z : Cond.arrayClass .boolean ∈ lw_gd := gd_in (by decide +kernel) rfl
theorem ins_X0 : Cond.instantiable RX0 18 ∈ lw_gd := gd_in (by decide +kernel) rfl
theorem ins_X1 : Cond.instantiable RX1 2 ∈ lw_gd := gd_in (by decide +kernel) rfl
theorem ins_X2 : Cond.instantiable RX2 5 ∈ lw_gd := gd_in (by decide +kernel) rfl
theorem ins_X3 : Cond.instantiable RX3 6 ∈ lw_gd := gd_in (by decide +kernel) rfl
theorem ins_X4 : Cond.instantiable RX4 25 ∈ lw_gd := gd_in (by decide +kernel) rfl
theorem ini_X0 : Cond.initialized RX0 ∈ lw_gd := gd_in (by decide +kernel) rfl
theorem ini_X1 : Cond.initialized RX1 ∈ lw_gd := gd_in (by decide +kernel) rfl
theorem ini_X2 : Cond.initialized RX2 ∈ lw_gd := gd_in (by decide +kernel) rfl
theorem ini_X3 : Cond.initialized RX3 ∈ lw_gd := gd_in (by decide +kernel) rfl
theorem ini_X4 : Cond.initialized RX4 ∈ lw_gd := gd_in (by decide +kernel) rfl
theorem mo_X3_3 : Cond.methodLink RX3 3 objectInit ∈ lw_gd := gd_in (by decide +kernel) rfl
theorem mc_X3_9 : Cond.classLink RX3 9 RX0 ∈ lw_gd := gd_in (by decide +kernel) rfl
theorem ff_X3_11 : FOF RX3 11 0 0 (.array (.object "KeyGraph$Key")) := ⟨3, 6, RX3, TX3, rfl, rfl, by decide, gd_in (by decide +kernel) (by decide +kernel), rfl, by decide +kernel, rfl⟩
theorem mc_X3_15 : Cond.classLink RX3 15 RX1 ∈ lw_gd := gd_in (by decide +kernel) rfl
theorem ff_X3_17 : FOF RX3 17 0 3 (.array (.object "KeyGraph$Pile")) := ⟨3, 6, RX3, TX3, rfl, rfl, by decide, gd_in (by decide +kernel) (by decide +kernel), rfl, by decide +kernel, rfl⟩
theorem ff_X3_22 : FOF RX3 22 0 4 (.array .int) := ⟨3, 6, RX3, TX3, rfl, rfl, by decide, gd_in (by decide +kernel) (by decide +kernel), rfl, by decide +kernel, rfl⟩
theorem mo_X4_1 : Cond.methodLink RX4 1 objectInit ∈ lw_gd := gd_in (by decide +kernel) rfl
theorem ff_X4_7 : FOF RX4 7 11 3 (.array .int) := ⟨4, 25, RX4, TX4, rfl, rfl, by decide, gd_in (by decide +kernel) (by decide +kernel), rfl, by decide +kernel, rfl⟩
theorem ff_X4_13 : FOF RX4 13 11 4 (.array .int) := ⟨4, 25, RX4, TX4, rfl, rfl, by decide, gd_in (by decide +kernel) (by decide +kernel), rfl, by decide +kernel, rfl⟩
theorem ff_X4_16 : FOF RX4 16 11 5 (.array .int) := ⟨4, 25, RX4, TX4, rfl, rfl, by decide, gd_in (by decide +kernel) (by decide +kernel), rfl, by decide +kernel, rfl⟩
theorem ff_X4_19 : FOF RX4 19 11 6 (.array .int) := ⟨4, 25, RX4, TX4, rfl, rfl, by decide, gd_in (by decide +kernel) (by decide +kernel), rfl, by decide +kernel, rfl⟩
theorem ff_X4_22 : FOF RX4 22 11 7 (.array .int) := ⟨4, 25, RX4, TX4, rfl, rfl, by decide, gd_in (by decide +kernel) (by decide +kernel), rfl, by decide +kernel, rfl⟩
theorem ff_X4_25 : FOF RX4 25 11 8 (.array .int) := ⟨4, 25, RX4, TX4, rfl, rfl, by decide, gd_in (by decide +kernel) (by decide +kernel), rfl, by decide +kernel, rfl⟩
theorem ff_X4_28 : FOF RX4 28 11 9 (.array .int) := ⟨4, 25, RX4, TX4, rfl, rfl, by decide, gd_in (by decide +kernel) (by decide +kernel), rfl, by decide +kernel, rfl⟩
theorem ff_X4_31 : FOF RX4 31 11 10 (.array .int) := ⟨4, 25, RX4, TX4, rfl, rfl, by decide, gd_in (by decide +kernel) (by decide +kernel), rfl, by decide +kernel, rfl⟩
theorem ff_X4_34 : FOF RX4 34 11 11 (.array .int) := ⟨4, 25, RX4, TX4, rfl, rfl, by decide, gd_in (by decide +kernel) (by decide +kernel), rfl, by decide +kernel, rfl⟩
theorem ff_X4_37 : FOF RX4 37 11 12 (.array .int) := ⟨4, 25, RX4, TX4, rfl, rfl, by decide, gd_in (by decide +kernel) (by decide +kernel), rfl, by decide +kernel, rfl⟩
theorem ff_X4_40 : FOF RX4 40 11 13 (.array .int) := ⟨4, 25, RX4, TX4, rfl, rfl, by decide, gd_in (by decide +kernel) (by decide +kernel), rfl, by decide +kernel, rfl⟩
theorem ff_X4_43 : FOF RX4 43 11 14 (.array .long) := ⟨4, 25, RX4, TX4, rfl, rfl, by decide, gd_in (by decide +kernel) (by decide +kernel), rfl, by decide +kernel, rfl⟩
theorem ff_X4_47 : FOF RX4 47 11 15 (.array .boolean) := ⟨4, 25, RX4, TX4, rfl, rfl, by decide, gd_in (by decide +kernel) (by decide +kernel), rfl, by decide +kernel, rfl⟩
theorem ff_X4_51 : FOF RX4 51 11 16 (.array .boolean) := ⟨4, 25, RX4, TX4, rfl, rfl, by decide, gd_in (by decide +kernel) (by decide +kernel), rfl, by decide +kernel, rfl⟩
theorem ff_X4_54 : FOF RX4 54 11 17 (.array .int) := ⟨4, 25, RX4, TX4, rfl, rfl, by decide, gd_in (by decide +kernel) (by decide +kernel), rfl, by decide +kernel, rfl⟩
theorem ff_X4_57 : FOF RX4 57 11 18 (.array .int) := ⟨4, 25, RX4, TX4, rfl, rfl, by decide, gd_in (by decide +kernel) (by decide +kernel), rfl, by decide +kernel, rfl⟩
theorem ff_X4_60 : FOF RX4 60 11 19 (.array .int) := ⟨4, 25, RX4, TX4, rfl, rfl, by decide, gd_in (by decide +kernel) (by decide +kernel), rfl, by decide +kernel, rfl⟩
theorem ff_X4_63 : FOF RX4 63 11 20 (.array .int) := ⟨4, 25, RX4, TX4, rfl, rfl, by decide, gd_in (by decide +kernel) (by decide +kernel), rfl, by decide +kernel, rfl⟩
theorem ff_X4_66 : FOF RX4 66 11 21 (.array .boolean) := ⟨4, 25, RX4, TX4, rfl, rfl, by decide, gd_in (by decide +kernel) (by decide +kernel), rfl, by decide +kernel, rfl⟩
theorem ff_X4_69 : FOF RX4 69 11 22 (.array .int) := ⟨4, 25, RX4, TX4, rfl, rfl, by decide, gd_in (by decide +kernel) (by decide +kernel), rfl, by decide +kernel, rfl⟩
theorem ff_X4_72 : FOF RX4 72 11 24 (.array .boolean) := ⟨4, 25, RX4, TX4, rfl, rfl, by decide, gd_in (by decide +kernel) (by decide +kernel), rfl, by decide +kernel, rfl⟩
theorem mo_X0_3 : Cond.methodLink RX0 3 objectInit ∈ lw_gd := gd_in (by decide +kernel) rfl
theorem mc_X0_9 : Cond.classLink RX0 9 RX0 ∈ lw_gd := gd_in (by decide +kernel) rfl
theorem ff_X0_11 : FOF RX0 11 4 2 (.array (.object "KeyGraph$Key")) := ⟨0, 18, RX0, TX0, rfl, rfl, by decide, gd_in (by decide +kernel) (by decide +kernel), rfl, by decide +kernel, rfl⟩
theorem ff_X0_15 : FOF RX0 15 4 12 (.array .int) := ⟨0, 18, RX0, TX0, rfl, rfl, by decide, gd_in (by decide +kernel) (by decide +kernel), rfl, by decide +kernel, rfl⟩
theorem mc_X0_19 : Cond.classLink RX0 19 RX2 ∈ lw_gd := gd_in (by decide +kernel) rfl
theorem ff_X0_22 : FOF RX0 22 4 17 (.object "KeyGraph$Work") := ⟨0, 18, RX0, TX0, rfl, rfl, by decide, gd_in (by decide +kernel) (by decide +kernel), rfl, by decide +kernel, rfl⟩
theorem ff_X0_26 : FOF RX0 26 4 0 .int := ⟨0, 18, RX0, TX0, rfl, rfl, by decide, gd_in (by decide +kernel) (by decide +kernel), rfl, by decide +kernel, rfl⟩
theorem ff_X0_30 : FOF RX0 30 4 1 .int := ⟨0, 18, RX0, TX0, rfl, rfl, by decide, gd_in (by decide +kernel) (by decide +kernel), rfl, by decide +kernel, rfl⟩
theorem mo_X1_3 : Cond.methodLink RX1 3 objectInit ∈ lw_gd := gd_in (by decide +kernel) rfl
theorem mc_X1_9 : Cond.classLink RX1 9 RX0 ∈ lw_gd := gd_in (by decide +kernel) rfl
theorem ff_X1_11 : FOF RX1 11 9 0 (.array (.object "KeyGraph$Key")) := ⟨1, 2, RX1, TX1, rfl, rfl, by decide, gd_in (by decide +kernel) (by decide +kernel), rfl, by decide +kernel, rfl⟩
theorem mo_X2_3 : Cond.methodLink RX2 3 objectInit ∈ lw_gd := gd_in (by decide +kernel) rfl
theorem ff_X2_9 : FOF RX2 9 7 2 (.array .int) := ⟨2, 5, RX2, TX2, rfl, rfl, by decide, gd_in (by decide +kernel) (by decide +kernel), rfl, by decide +kernel, rfl⟩
theorem mi_X3_32 : Cond.methodLink RX3 32 yX0_init ∈ lw_gd := gd_in (by decide +kernel) rfl
theorem yi_X0_init : YOI yX0_init cX0_init 3 2 := ⟨gd_in (by decide +kernel) rfl, gd_in (by decide +kernel) rfl, gd_in (by decide +kernel) rfl, ⟨by decide +kernel, by decide +kernel, by decide +kernel⟩, rfl⟩
theorem yi_X1_init : YOI yX1_init cX1_init 1 0 := ⟨gd_in (by decide +kernel) rfl, gd_in (by decide +kernel) rfl, gd_in (by decide +kernel) rfl, ⟨by decide +kernel, by decide +kernel, by decide +kernel⟩, rfl⟩
theorem yi_X2_init : YOI yX2_init cX2_init 1 0 := ⟨gd_in (by decide +kernel) rfl, gd_in (by decide +kernel) rfl, gd_in (by decide +kernel) rfl, ⟨by decide +kernel, by decide +kernel, by decide +kernel⟩, rfl⟩
theorem yi_X3_init : YOI yX3_init cX3_init 2 0 := ⟨gd_in (by decide +kernel) rfl, gd_in (by decide +kernel) rfl, gd_in (by decide +kernel) rfl, ⟨by decide +kernel, by decide +kernel, by decide +kernel⟩, rfl⟩
theorem yi_X4_init : YOI yX4_init cX4_init 1 0 := ⟨gd_in (by decide +kernel) rfl, gd_in (by decide +kernel) rfl, gd_in (by decide +kernel) rfl, ⟨by decide +kernel, by decide +kernel, by decide +kernel⟩, rfl⟩
set_option maxRecDepth 100000 in
set_option maxHeartbeats 4000000 in
theorem c_X2_init (l : Launch) (D : va_G) (dA : Nat → ClassId) (base : Nat) (ad : Fa) (N : Nat → Nat) (I : Fi) (J : Fj) (R : Fr) (i : Nat) (hi : i < N 7) (hcl : CLo N R) (hd : Dft I J R 8 (N 8)) : CTx l D dA base yX2_init cX2_init 1 none 1 1 8 [.ref (ad 7 i)] ad N I J R (fun r ad2 N2 I2 J2 R2 => r = none ∧ (∀ c i, i < N c → ad2 c i = ad c i) ∧ N2 = upN N 8 ∧ I2 = I ∧ J2 = J ∧ R2 = up3 R 7 i 2 (some (N 8))) := by
  refine CTx.of 0 (L0 := [some (.ref (ad 7 i))]) (by decide +kernel) rfl (Nat.le_of_ble_eq_true rfl) ?_
  intro p e s m args below meth c C hX hnm
  refine x_aload_n C dX2_init_0 rfl ?_
  refine x_objInit C mo_X2_3 (by decide) (Nat.le_of_ble_eq_true rfl) dX2_init_1 oi_2 oi_3 ?_
  refine x_aload_n C dX2_init_4 rfl ?_
  refine x_bipush C 8 (by decide) dX2_init_5 ?_
  refine x_newP C (atype := .int) (kc := 8) rfl rfl rfl (by decide) (fun h => h) (fun k => rfl) ac_I (by decide) hcl hd (by decide) (by decide) dX2_init_7 (fun ad1 hA => ?_)
  rw [← hA 7 i hi]
  refine x_putFR C hnm ff_X2_9 rfl (by first | assumption | exact Nat.one_pos) rfl rfl dX2_init_9 ?_
  exact x_vret C (⟨rfl, hA, rfl, rfl, rfl, rfl⟩) dX2_init_12

set_option maxRecDepth 100000 in
set_option maxHeartbeats 4000000 in
theorem c_X1_init (l : Launch) (D : va_G) (dA : Nat → ClassId) (base : Nat) (ad : Fa) (N : Nat → Nat) (I : Fi) (J : Fj) (R : Fr) (i : Nat) (hi : i < N 9) (hcl : CLo N R) (hd : Dft I J R 10 (N 10)) : CTx l D dA base yX1_init cX1_init 1 none 1 1 40 [.ref (ad 9 i)] ad N I J R (fun r ad2 N2 I2 J2 R2 => r = none ∧ (∀ c i, i < N c → ad2 c i = ad c i) ∧ N2 = upN N 10 ∧ I2 = I ∧ J2 = J ∧ R2 = up3 R 9 i 0 (some (N 10))) := by
  refine CTx.of 0 (L0 := [some (.ref (ad 9 i))]) (by decide +kernel) rfl (Nat.le_of_ble_eq_true rfl) ?_
  intro p e s m args below meth c C hX hnm
  refine x_aload_n C dX1_init_0 rfl ?_
  refine x_objInit C mo_X1_3 (by decide) (Nat.le_of_ble_eq_true rfl) dX1_init_1 oi_2 oi_3 ?_
  refine x_aload_n C dX1_init_4 rfl ?_
  refine x_bipush C 40 (by decide) dX1_init_5 ?_
  refine x_newA C (kc := 10) rfl rfl rfl (by decide) (fun k => rfl) mc_X1_9 hX.1 (by decide) hcl hd (by decide) (by decide) dX1_init_7 (fun ad1 hA => ?_)
  rw [← hA 9 i hi]
  refine x_putFR C hnm ff_X1_11 rfl (by first | assumption | exact Nat.one_pos) rfl rfl dX1_init_10 ?_
  exact x_vret C (⟨rfl, hA, rfl, rfl, rfl, rfl⟩) dX1_init_13

theorem upN_l {N : Nat → Nat} {kc c i : Nat} (h : i < N c) : i < upN N kc c := by unfold upN; split <;> omega
theorem upN_s {N : Nat → Nat} {kc i : Nat} (h : N kc = i) : i < upN N kc kc := by unfold upN; rw [if_pos rfl]; omega
theorem upN_n {N : Nat → Nat} {kc c i : Nat} (hc : c ≠ kc) (h : N c = i) : upN N kc c = i := by unfold upN; rw [if_neg hc]; exact h
set_option maxRecDepth 100000 in
set_option maxHeartbeats 4000000 in
theorem c_X0_init (l : Launch) (D : va_G) (dA : Nat → ClassId) (base : Nat) (ad : Fa) (N : Nat → Nat) (I : Fi) (J : Fj) (R : Fr) (i : Nat) (nu fn : Int32) (hi : i < N 4) (h5 : N 5 = i) (h6 : N 6 = i) (h7 : N 7 = i) (h8 : N 8 = i) (hcl : CLo N R) (hd5 : Dft I J R 5 i) (hd6 : Dft I J R 6 i) (hd7 : Dft I J R 7 i) (hd8 : Dft I J R 8 i) : CTx l D dA base yX0_init cX0_init 3 none 2 4 29 [.ref (ad 4 i), .int nu, .int fn] ad N I J R (fun r ad2 N2 I2 J2 R2 => r = none ∧ (∀ c i, i < N c → ad2 c i = ad c i) ∧ N2 = upN (upN (upN (upN N 5) 6) 7) 8 ∧ I2 = up3 (up3 I 4 i 0 nu) 4 i 1 fn ∧ J2 = up3 J 4 i 4 (1 <<< (nu.toInt64 &&& 63)) ∧ R2 = up3 (up3 (up3 (up3 R 4 i 2 (some i)) 4 i 12 (some i)) 7 i 2 (some i)) 4 i 17 (some i)) := by
  refine CTx.of 0 (L0 := [some (.ref (ad 4 i)), some (.int nu), some (.int fn)]) (by decide +kernel) rfl (Nat.le_of_ble_eq_true rfl) ?_
  intro p e s m args below meth c C hX hnm
  have hc1 : CLo (upN N 5) (up3 R 4 i 2 (some i)) := (hcl.new (by rw [h5]; exact hd5)).up rfl (upN_s h5)
  have hc2 : CLo (upN (upN N 5) 6) (up3 (up3 R 4 i 2 (some i)) 4 i 12 (some i)) := (hc1.new (I := I) (J := J) (kc := 6) (by rw [upN_n (by decide) h6]; exact hd6.upR (fun z => absurd z.1 (by decide)))).up rfl (upN_s (upN_n (by decide) h6))
  have hd72 : Dft I J (up3 (up3 R 4 i 2 (some i)) 4 i 12 (some i)) 7 i := (hd7.upR (fun z => absurd z.1 (by decide))).upR (fun z => absurd z.1 (by decide))
  have hn7 : upN (upN N 5) 6 7 = i := upN_n (by decide) (upN_n (by decide) h7)
  have hc3 : CLo (upN (upN (upN N 5) 6) 7) (up3 (up3 R 4 i 2 (some i)) 4 i 12 (some i)) := hc2.new (I := I) (J := J) (kc := 7) (by rw [hn7]; exact hd72)
  have hn8 : upN (upN (upN N 5) 6) 7 8 = i := upN_n (by decide) (upN_n (by decide) (upN_n (by decide) h8))
  have hi1 : i < upN N 5 4 := upN_l hi
  have hi2 : i < upN (upN N 5) 6 4 := upN_l hi1
  have hi3 : i < upN (upN (upN N 5) 6) 7 4 := upN_l hi2
  have hi4 : i < upN (upN (upN (upN N 5) 6) 7) 8 4 := upN_l hi3
  have hi7 : i < upN (upN (upN N 5) 6) 7 7 := upN_s hn7
  refine x_aload_n C dX0_init_0 rfl ?_
  refine x_objInit C mo_X0_3 (by decide) (Nat.le_of_ble_eq_true rfl) dX0_init_1 oi_2 oi_3 ?_
  refine x_aload_n C dX0_init_4 rfl ?_
  refine x_bipush C 8 (by decide) dX0_init_5 ?_
  refine x_newA C (kc := 5) rfl rfl rfl (by decide) (fun k => rfl) mc_X0_9 hX.1 (by decide) hcl (by rw [h5]; exact hd5) (by decide) (by decide) dX0_init_7 (fun ad1 hA1 => ?_)
  rw [← hA1 4 i hi, h5]
  refine x_putFR C hnm ff_X0_11 rfl (by first | assumption | exact Nat.one_pos) rfl rfl dX0_init_10 ?_
  refine x_aload_n C dX0_init_13 rfl ?_
  refine x_bipush C 8 (by decide) dX0_init_14 ?_
  refine x_newP C (atype := .int) (kc := 6) rfl rfl rfl (by decide) (fun h => h) (fun k => rfl) ac_I (by decide) hc1 (by rw [upN_n (by decide) h6]; exact hd6.upR (fun z => absurd z.1 (by decide))) (by decide) (by decide) dX0_init_16 (fun ad2 hA2 => ?_)
  rw [← hA2 4 i hi1, upN_n (by decide) h6]
  refine x_putFR C hnm ff_X0_15 rfl (by first | assumption | exact Nat.one_pos) rfl rfl dX0_init_18 ?_
  refine x_aload_n C dX0_init_21 rfl ?_
  refine x_new C (kc := 7) tyX2 rfl rfl tyX2_ok (by decide) mc_X0_19 ins_X2 ini_X2 hc2 (by rw [hn7]; exact hd72) (by decide) (by decide) dX0_init_22 (fun ad3 hA3 => ?_)
  rw [← hA3 4 i hi2, hn7]
  refine x_dup C rfl dX0_init_25 ?_
  refine x_callIN C hX yi_X2_init hX.2.2.2 (c_X2_init l D dA base ad3 _ I J _ i hi7 hc3 (by rw [hn8]; exact (hd8.upR (fun z => absurd z.1 (by decide))).upR (fun z => absurd z.1 (by decide)))) dX0_init_26 rfl rfl (Nat.le_of_ble_eq_true rfl) ⟨by decide, by decide⟩ ⟨by decide, by decide⟩ ?_
  intro r ad4 N4 I4 J4 R4 h4
  obtain ⟨rfl, hA4, rfl, rfl, rfl, rfl⟩ := h4
  simp only [Option.toList, List.nil_append]
  rw [← hA4 4 i hi3, ← hA4 7 i hi7, hn8]
  refine x_putFR C hnm ff_X0_22 rfl (by first | assumption | exact Nat.one_pos) rfl rfl dX0_init_29 ?_
  refine x_aload_n C dX0_init_32 rfl ?_
  refine x_iload_n C dX0_init_33 rfl ?_
  refine x_putFI C hnm ff_X0_26 rfl (by first | assumption | exact Nat.one_pos) dX0_init_34 ?_
  refine x_aload_n C dX0_init_37 rfl ?_
  refine x_iload_n C dX0_init_38 rfl ?_
  refine x_putFI C hnm ff_X0_30 rfl (by first | assumption | exact Nat.one_pos) dX0_init_39 ?_
  refine x_aload_n C dX0_init_42 rfl ?_
  refine x_lconst C 1 (by decide) dX0_init_43 ?_
  refine x_iload_n C dX0_init_44 rfl ?_
  refine x_lshl C dX0_init_45 ?_
  refine x_putJ C g_X0_33 rfl (by first | assumption | exact Nat.one_pos) dX0_init_46 ?_
  exact x_vret C (⟨rfl, fun c i9 h9 => (hA4 c i9 (upN_l (upN_l (upN_l h9)))).trans ((hA3 c i9 (upN_l (upN_l h9))).trans ((hA2 c i9 (upN_l h9)).trans (hA1 c i9 h9))), rfl, rfl, rfl, rfl⟩) dX0_init_49
end
section
/-! a key is made -/
def nkI (I : Fi) (n : Nat) (fn : Int32) : Fi := up3 (up3 I 4 n 0 (nI n)) 4 n 1 fn
def nkJ (J : Fj) (n : Nat) : Fj := up3 J 4 n 4 (1 <<< ((nI n).toInt64 &&& 63))
def nkR (R : Fr) (n : Nat) : Fr := up3 (up3 (up3 (up3 R 4 n 2 (some n)) 4 n 12 (some n)) 7 n 2 (some n)) 4 n 17 (some n)
theorem Nn_s (n : Nat) : upN (upN (upN (upN (upN (Nn n) 4) 5) 6) 7) 8 = Nn (n + 1) := by
  funext c
  by_cases h4 : c = 4
  · subst h4; rfl
  by_cases h5 : c = 5
  · subst h5; rfl
  by_cases h6 : c = 6
  · subst h6; rfl
  by_cases h7 : c = 7
  · subst h7; rfl
  by_cases h8 : c = 8
  · subst h8; rfl
  simp only [upN, h4, h5, h6, h7, h8, if_false]
  unfold Nn
  split <;> first | rfl | omega
theorem Nn_le {n c i : Nat} (h : i < Nn (n + 1) c) : i < Nn n c ∨ (i = n ∧ (c = 4 ∨ c = 5 ∨ c = 6 ∨ c = 7 ∨ c = 8)) := by
  rw [← Nn_s] at h
  by_cases h4 : c = 4
  · subst h4; have h : i < n + 1 := h; have : Nn n 4 = n := rfl; omega
  by_cases h5 : c = 5
  · subst h5; have h : i < n + 1 := h; have : Nn n 5 = n := rfl; omega
  by_cases h6 : c = 6
  · subst h6; have h : i < n + 1 := h; have : Nn n 6 = n := rfl; omega
  by_cases h7 : c = 7
  · subst h7; have h : i < n + 1 := h; have : Nn n 7 = n := rfl; omega
  by_cases h8 : c = 8
  · subst h8; have h : i < n + 1 := h; have : Nn n 8 = n := rfl; omega
  simp only [upN, h4, h5, h6, h7, h8, if_false] at h
  exact Or.inl h
theorem Nn_lt4 {n c i : Nat} (h : i < Nn n c) (hc : c = 4 ∨ c = 7) : i < n := by rcases hc with rfl | rfl <;> exact h
theorem ST.key {n : Nat} {R : Fr} (h : ST n R) : ST (n + 1) (nkR R n) := fun c i k hi hs => by
  unfold nkR
  rcases Nn_le hi with hi | ⟨rfl, hc⟩
  · have hne : (c = 4 ∨ c = 7) → i ≠ n := fun hc => Nat.ne_of_lt (Nn_lt4 hi hc)
    rw [up3_n _ _ _ _ _ (fun z => hne (Or.inl z.1) z.2.1), up3_n _ _ _ _ _ (fun z => hne (Or.inr z.1) z.2.1), up3_n _ _ _ _ _ (fun z => hne (Or.inl z.1) z.2.1), up3_n _ _ _ _ _ (fun z => hne (Or.inl z.1) z.2.1)]
    exact h c i k hi hs
  · rcases hc with rfl | rfl | rfl | rfl | rfl
    · have : k = 2 ∨ k = 12 ∨ k = 17 := by simpa [sfin, Bool.or_eq_true, or_assoc] using hs
      rcases this with rfl | rfl | rfl <;> simp [up3]
    · simp [sfin] at hs
    · simp [sfin] at hs
    · have : k = 2 := by simpa [sfin] using hs
      subst this
      simp [up3]
    · simp [sfin] at hs
set_option maxRecDepth 100000 in
set_option maxHeartbeats 4000000 in
theorem c_X3_addKey (l : Launch) (D : va_G) (dA : Nat → ClassId) (base n : Nat) (ad : Fa) (I : Fi) (J : Fj) (R : Fr) (hT : ST n R) (k : Nat) (hk : k < n) (hc : I 0 0 1 = nI k) (hk40 : k < 40) : CT l D dA base yX3_addKey cX3_addKey 2 (some .int) 0 0 0 [.ref (ad 0 0), .ref (ad 4 k)] ad (Nn n) I J R (po (some (.int (I 4 k 0))) ad (Nn n) (up3 I 0 0 1 (nI (k + 1))) J (up3 R 1 0 k (some k))) := by
  refine CT.of 0 (L0 := [some (.ref (ad 0 0)), some (.ref (ad 4 k))]) (by decide +kernel) rfl (Nat.le_of_ble_eq_true rfl) ?_
  intro p e s m args below meth c C
  refine x_aload_n C dX3_addKey_0 rfl ?_
  refine x_getF C hT f_X3_11 rfl rfl (by first | assumption | exact Nat.one_pos) dX3_addKey_1 ?_
  refine x_aload_n C dX3_addKey_4 rfl ?_
  refine x_getI C f_X3_26 rfl (by first | assumption | exact Nat.one_pos) dX3_addKey_5 ?_
  refine x_aload_n C dX3_addKey_8 rfl ?_
  refine x_aastN C (k) hc rfl rfl rfl rfl rfl (by first | assumption | exact Nat.one_pos) (by first | assumption | exact Nat.one_pos) hk40 (by decide) dX3_addKey_9 ?_
  refine x_aload_n C dX3_addKey_10 rfl ?_
  refine x_dup C rfl dX3_addKey_11 ?_
  refine x_getI C f_X3_26 rfl (by first | assumption | exact Nat.one_pos) dX3_addKey_12 ?_
  refine x_iconst C 1 (by decide) dX3_addKey_15 ?_
  refine x_iadd C dX3_addKey_16 ?_
  refine x_putI C g_X3_26 rfl (by first | assumption | exact Nat.one_pos) dX3_addKey_17 ?_
  refine x_aload_n C dX3_addKey_20 rfl ?_
  refine x_getI C f_X3_146 rfl (by first | assumption | exact Nat.one_pos) dX3_addKey_21 ?_
  exact x_iret C (⟨by simp [up3], rfl, rfl, by rw [hc, nI_1], rfl, rfl⟩) dX3_addKey_24

set_option maxRecDepth 100000 in
set_option maxHeartbeats 4000000 in
theorem c_X3_leaf (l : Launch) (D : va_G) (dA : Nat → ClassId) (base : Nat) (ad : Fa) (N : Nat → Nat) (I : Fi) (J : Fj) (R : Fr) (n : Nat) (hN : N = Nn n) (hT : ST n R) (hG : KG n I R) (hn : n < 40) (hcl : CLo (Nn n) R) (hd : ∀ c, c = 4 ∨ c = 5 ∨ c = 6 ∨ c = 7 ∨ c = 8 → Dft I J R c n) (v : Int64) : CTx l D dA base yX3_leaf cX3_leaf 4 (some .int) 3 5 47 [.ref (ad 0 0), .long v] ad N I J R (fun r ad2 N2 I2 J2 R2 => r = some (.int (nI n)) ∧ (∀ c i, i < Nn n c → ad2 c i = ad c i) ∧ N2 = Nn (n + 1) ∧ I2 = up3 (up3 (up3 (nkI I n (-1)) 4 n 7 1) 4 n 9 (I 0 0 2)) 0 0 1 (nI (n + 1)) ∧ J2 = up3 (nkJ J n) 4 n 8 v ∧ R2 = up3 (nkR R n) 1 0 n (some n)) := by
  refine CTx.of 1 (L0 := [some (.ref (ad 0 0)), some (.long v), none, none]) (by decide +kernel) rfl (Nat.le_of_ble_eq_true rfl) ?_
  intro p e s m args below meth c C hX hnm
  subst hN
  refine x_aload_n C dX3_leaf_0 rfl ?_
  refine x_getI C f_X3_26 rfl (by first | assumption | exact Nat.one_pos) dX3_leaf_1 ?_
  try simp only [up3_r, Nat.reduceEqDiff, and_false, false_and, and_self, and_true, true_and, reduceIte]
  refine x_bipush C 40 (by decide) dX3_leaf_4 ?_
  refine x_icmp_lt C 11 dX3_leaf_6 (by decide) (fun h6 => ?_) (fun h6 => ?_)
  · skip
    refine x_new C (kc := 4) tyX0 rfl rfl tyX0_ok (by decide) mc_X3_9 ins_X0 ini_X0 hcl (hd 4 (by omega)) (by decide) (by decide) dX3_leaf_11 (fun ad1 hA1 => ?_)
    have h00 : 0 < upN (Nn n) 4 0 := Nat.one_pos
    rw [← hA1 0 0 Nat.one_pos]
    refine x_dup C rfl dX3_leaf_14 ?_
    refine x_aload_n C dX3_leaf_15 rfl ?_
    refine x_getI C f_X3_26 rfl (by first | assumption | exact Nat.one_pos) dX3_leaf_16 ?_
    try simp only [up3_r, Nat.reduceEqDiff, and_false, false_and, and_self, and_true, true_and, reduceIte]
    refine x_iconst C (-1) (by decide) dX3_leaf_19 ?_
    rw [hG.1]
    refine x_callI C hX yi_X0_init mi_X3_32 (c_X0_init l D dA base ad1 (upN (Nn n) 4) I J R n (nI n) (-1) (upN_s rfl) rfl rfl rfl rfl (hcl.new (hd 4 (by omega))) (hd 5 (by omega)) (hd 6 (by omega)) (hd 7 (by omega)) (hd 8 (by omega))) dX3_leaf_20 rfl rfl (Nat.le_of_ble_eq_true rfl) ⟨by decide, by decide⟩ ⟨by decide, by decide⟩ ?_
    intro r ad2 N2 I2 J2 R2 h2
    obtain ⟨rfl, hA2, rfl, rfl, rfl, rfl⟩ := h2
    simp only [Option.toList, List.nil_append]
    rw [Nn_s]
    have e0 : ad1 0 0 = ad2 0 0 := (hA2 0 0 h00).symm
    have e4 : ad1 4 (Nn n 4) = ad2 4 n := (hA2 4 n (upN_s rfl)).symm
    rw [e0, e4]
    have hT2 := ST.key hT
    have hin : n < n + 1 := Nat.lt_succ_self n
    refine x_astore_n C dX3_leaf_23 (by decide) rfl rfl ?_
    refine x_aload_n C dX3_leaf_24 rfl ?_
    refine x_iconst C 1 (by decide) dX3_leaf_25 ?_
    refine x_putI C g_X3_35 rfl (by first | assumption | exact Nat.one_pos) dX3_leaf_26 ?_
    refine x_aload_n C dX3_leaf_29 rfl ?_
    refine x_lload_n C dX3_leaf_30 rfl ?_
    refine x_putJ C g_X3_38 rfl (by first | assumption | exact Nat.one_pos) dX3_leaf_31 ?_
    refine x_aload_n C dX3_leaf_34 rfl ?_
    refine x_aload_n C dX3_leaf_35 rfl ?_
    refine x_getI C f_X3_42 rfl (by first | assumption | exact Nat.one_pos) dX3_leaf_36 ?_
    try simp only [up3_r, Nat.reduceEqDiff, and_false, false_and, and_self, and_true, true_and, reduceIte]
    refine x_putI C g_X3_45 rfl (by first | assumption | exact Nat.one_pos) dX3_leaf_39 ?_
    refine x_aload_n C dX3_leaf_42 rfl ?_
    refine x_aload_n C dX3_leaf_43 rfl ?_
    refine x_cV1 C yo_X3_addKey m_X3_48 rfl rfl (by first | assumption | exact Nat.one_pos) (c_X3_addKey l D dA base (n + 1) ad2 _ _ _ hT2 n hin (by simp [up3, hG.1]) hn) dX3_leaf_44 rfl rfl (Nat.le_of_ble_eq_true rfl) ⟨by decide, by decide⟩ ⟨by decide, by decide⟩ ?_
    exact x_iret C (⟨by simp [up3], fun c i9 h9 => (hA2 c i9 (upN_l h9)).trans (hA1 c i9 h9), rfl, by simp [nkI, up3_r], rfl, rfl⟩) dX3_leaf_47
  · skip
    rw [hG.1] at h6
    exact absurd (nI_lt (b := 40) hn (by decide)) h6

set_option maxRecDepth 100000 in
set_option maxHeartbeats 4000000 in
theorem c_X3_key (l : Launch) (D : va_G) (dA : Nat → ClassId) (base : Nat) (ad : Fa) (N : Nat → Nat) (I : Fi) (J : Fj) (R : Fr) (n : Nat) (hN : N = Nn n) (hT : ST n R) (hG : KG n I R) (hn : n < 40) (hcl : CLo (Nn n) R) (hd : ∀ c, c = 4 ∨ c = 5 ∨ c = 6 ∨ c = 7 ∨ c = 8 → Dft I J R c n) (f : Nat) (hf : f < 6) : CTx l D dA base yX3_key cX3_key 2 (some .int) 3 5 47 [.ref (ad 0 0), .int (nI f)] ad N I J R (fun r ad2 N2 I2 J2 R2 => r = some (.int (nI n)) ∧ (∀ c i, i < Nn n c → ad2 c i = ad c i) ∧ N2 = Nn (n + 1) ∧ I2 = up3 (nkI I n (nI f)) 0 0 1 (nI (n + 1)) ∧ J2 = nkJ J n ∧ R2 = up3 (nkR R n) 1 0 n (some n)) := by
  refine CTx.of 0 (L0 := [some (.ref (ad 0 0)), some (.int (nI f))]) (by decide +kernel) rfl (Nat.le_of_ble_eq_true rfl) ?_
  intro p e s m args below meth c C hX hnm
  subst hN
  refine x_aload_n C dX3_key_0 rfl ?_
  refine x_getI C f_X3_26 rfl (by first | assumption | exact Nat.one_pos) dX3_key_1 ?_
  try simp only [up3_r, Nat.reduceEqDiff, and_false, false_and, and_self, and_true, true_and, reduceIte]
  refine x_bipush C 40 (by decide) dX3_key_4 ?_
  refine x_icmp_ge C 19 dX3_key_6 (by decide) (fun h6 => ?_) (fun h6 => ?_)
  · skip
    rw [hG.1] at h6
    exact absurd h6 (nI_ge (b := 40) hn (by decide))
  · skip
    refine x_iload_n C dX3_key_9 rfl ?_
    refine x_if_lt C 19 dX3_key_10 (by decide) (fun h10 => ?_) (fun h10 => ?_)
    · skip
      exact absurd h10 (nI_pos (by omega))
    · skip
      refine x_iload_n C dX3_key_13 rfl ?_
      refine x_bipush C 6 (by decide) dX3_key_14 ?_
      refine x_icmp_lt C 21 dX3_key_16 (by decide) (fun h16 => ?_) (fun h16 => ?_)
      · skip
        refine x_aload_n C dX3_key_21 rfl ?_
        refine x_new C (kc := 4) tyX0 rfl rfl tyX0_ok (by decide) mc_X3_9 ins_X0 ini_X0 hcl (hd 4 (by omega)) (by decide) (by decide) dX3_key_22 (fun ad1 hA1 => ?_)
        have h00 : 0 < upN (Nn n) 4 0 := Nat.one_pos
        rw [← hA1 0 0 Nat.one_pos]
        refine x_dup C rfl dX3_key_25 ?_
        refine x_aload_n C dX3_key_26 rfl ?_
        refine x_getI C f_X3_26 rfl (by first | assumption | exact Nat.one_pos) dX3_key_27 ?_
        try simp only [up3_r, Nat.reduceEqDiff, and_false, false_and, and_self, and_true, true_and, reduceIte]
        refine x_iload_n C dX3_key_30 rfl ?_
        rw [hG.1]
        refine x_callI C hX yi_X0_init mi_X3_32 (c_X0_init l D dA base ad1 (upN (Nn n) 4) I J R n (nI n) (nI f) (upN_s rfl) rfl rfl rfl rfl (hcl.new (hd 4 (by omega))) (hd 5 (by omega)) (hd 6 (by omega)) (hd 7 (by omega)) (hd 8 (by omega))) dX3_key_31 rfl rfl (Nat.le_of_ble_eq_true rfl) ⟨by decide, by decide⟩ ⟨by decide, by decide⟩ ?_
        intro r ad2 N2 I2 J2 R2 h2
        obtain ⟨rfl, hA2, rfl, rfl, rfl, rfl⟩ := h2
        simp only [Option.toList, List.nil_append]
        rw [Nn_s]
        have e0 : ad1 0 0 = ad2 0 0 := (hA2 0 0 h00).symm
        have e4 : ad1 4 (Nn n 4) = ad2 4 n := (hA2 4 n (upN_s rfl)).symm
        rw [e0, e4]
        have hT2 := ST.key hT
        have hin : n < n + 1 := Nat.lt_succ_self n
        refine x_cV1 C yo_X3_addKey m_X3_48 rfl rfl (by first | assumption | exact Nat.one_pos) (c_X3_addKey l D dA base (n + 1) ad2 _ _ _ hT2 n hin (by simp [up3, hG.1]) hn) dX3_key_34 rfl rfl (Nat.le_of_ble_eq_true rfl) ⟨by decide, by decide⟩ ⟨by decide, by decide⟩ ?_
        exact x_iret C (⟨by simp [up3], fun c i9 h9 => (hA2 c i9 (upN_l h9)).trans (hA1 c i9 h9), rfl, by simp [nkI, up3_r], rfl, rfl⟩) dX3_key_37
      · skip
        exact absurd (nI_lt (b := 6) hf (by decide)) h16
end
section
/-! rings, reach, run -/
theorem x_acmpK {p : Program} {l : Launch} {e : Env} {Rm : Room} {s : State} {m : MethodId} {args : Array Value} {below : List Frame} {meth : Method} {c : Code} {Q : State → Prop} {cc : ByteArray} {own : String} {ret : Option FieldType} {D : va_G} {dA : Nat → ClassId} {base nL : Nat} {ad : Fa} {N : Nat → Nat} {I : Fi} {J : Fj} {R : Fr} {nc ns pc : Nat} {L : List (Option Value)} {st : List Value} (C : CX p s m args meth c cc nL own ret D dA base) {kc x y : Nat} {off : Int} (tgt : Nat) (hx : x < N kc) (hy : y < N kc) (d : decode cc pc = .ok (.if_acmp .eq off, 3)) (ht : (pc : Int) + off = (tgt : Int)) (kt : x = y → GX p l e Rm s m args below meth c Q D dA base nL ad N I J R nc ns tgt L st) (kf : ¬ x = y → GX p l e Rm s m args below meth c Q D dA base nL ad N I J R nc ns (pc + 3) L st) : GX p l e Rm s m args below meth c Q D dA base nL ad N I J R nc ns pc L (.ref (ad kc y) :: .ref (ad kc x) :: st) := fun H locs ls hH hS hl =>
  x_acmp_eq C tgt d ht (fun q => kt (hH.2.1 kc x kc y hx hy q).2) (fun q => kf (fun z => q (by rw [z]))) H locs ls hH hS hl
/-- rows: how many places, and what they hold -/
def RW (n : Nat) (I : Fi) (R : Fr) (rs : Nat → Nat) : Prop := ∀ a, a < n → I 4 a 3 = nI (rs a) ∧ rs a ≤ 8 ∧ ∀ k, k < rs a → ∃ y, R 5 a k = some y ∧ y < n
theorem RW.up {n : Nat} {I : Fi} {R : Fr} {rs : Nat → Nat} (h : RW n I R rs) {c i k : Nat} {v : Int32} (hc : ¬ (c = 4 ∧ k = 3)) : RW n (up3 I c i k v) R rs := fun a ha => ⟨by rw [up3_n _ _ _ _ _ (fun z => hc ⟨z.1.symm, z.2.2.symm⟩)]; exact (h a ha).1, (h a ha).2⟩
def nrg (nx : Nat → Option Nat) (i : Nat) : Nat → Nat → Nat → Fi → Fi
  | 0, _, _, I => I
  | f + 1, a, z, I => if a = i then I else match nx a with
    | none => up3 (up3 I 3 0 z (nI a)) 0 0 5 (nI (z + 1))
    | some b => nrg nx i f b (z + 1) (up3 (up3 I 3 0 z (nI a)) 0 0 5 (nI (z + 1)))
theorem ftr_lt {R : Fr} {J : Fj} {i j r n : Nat} (hrow : ∀ k, k < r → ∃ y, R 5 i k = some y ∧ y < n) : ∀ (f : Nat), f ≤ r → ∀ y, ftr R J i j r f = some y → y < n
  | 0, _, y, h => by simp [ftr] at h
  | f + 1, hf, y, h => by
    obtain ⟨y2, h1, h2⟩ := hrow (r - (f + 1)) (by omega)
    simp only [ftr, h1] at h
    split at h
    · cases h; exact h2
    · exact ftr_lt hrow f (by omega) y h
set_option maxRecDepth 100000 in
set_option maxHeartbeats 4000000 in
theorem c_X3_noteRing (l : Launch) (D : va_G) (dA : Nat → ClassId) (base n : Nat) (ad : Fa) (I : Fi) (J : Fj) (R : Fr) (hT : ST n R) (hG : KG n I R) (i j : Nat) (rs : Nat → Nat) (hi : i < n) (hj : j < n) (hW : RW n I R rs) : CT l D dA base yX3_noteRing cX3_noteRing 4 none 2 0 0 [.ref (ad 0 0), .ref (ad 4 i), .ref (ad 4 j)] ad (Nn n) I J R (po none ad (Nn n) (nrg (fun a => ftr R J a i (rs a) (rs a)) i 39 j 1 (up3 (up3 I 3 0 0 (nI i)) 0 0 5 1)) J R) := by
  refine CT.of 1 (L0 := [some (.ref (ad 0 0)), some (.ref (ad 4 i)), some (.ref (ad 4 j)), none]) (by decide +kernel) rfl (Nat.le_of_ble_eq_true rfl) ?_
  intro p e s m args below meth c C
  have loop : ∀ (f a z : Nat) (I1 : Fi), a < n → z + f = 40 → 0 < z → I1 0 0 5 = nI z → RW n I1 R rs → (∀ k, k < n → I1 4 k 0 = nI k) → nrg (fun a => ftr R J a i (rs a) (rs a)) i 39 j 1 (up3 (up3 I 3 0 0 (nI i)) 0 0 5 1) = nrg (fun a => ftr R J a i (rs a) (rs a)) i f a z I1 → GX p l e (rmX 2 0 0) s m args below meth c (MQ below (CQ D dA base (po none ad (Nn n) (nrg (fun a => ftr R J a i (rs a) (rs a)) i 39 j 1 (up3 (up3 I 3 0 0 (nI i)) 0 0 5 1)) J R)) args s 0 0 (fun q => base ≤ q)) D dA base 4 ad (Nn n) I1 J R 0 0 17 [some (.ref (ad 0 0)), some (.ref (ad 4 i)), some (.ref (ad 4 j)), some (.ref (ad 4 a))] [] := by
    intro f
    induction f with
    | zero =>
      intro a z I1 ha hz hz0 h5 hW1 hnum he
      refine x_aload_n C dX3_noteRing_17 rfl ?_
      refine x_ifnull C dX3_noteRing_18 ?_
      refine x_aload_n C dX3_noteRing_21 rfl ?_
      refine x_aload_n C dX3_noteRing_22 rfl ?_
      refine x_acmpK C 67 ha hi dX3_noteRing_23 (by decide) (fun h23 => ?_) (fun h23 => ?_)
      · skip
        exact x_vret C (⟨rfl, rfl, rfl, he.symm, rfl, rfl⟩) dX3_noteRing_67
      · skip
        refine x_aload_n C dX3_noteRing_26 rfl ?_
        refine x_getI C f_X3_82 rfl (by first | assumption | exact Nat.one_pos) dX3_noteRing_27 ?_
        refine x_bipush C 40 (by decide) dX3_noteRing_30 ?_
        refine x_icmp_ge C 67 dX3_noteRing_32 (by decide) (fun h32 => ?_) (fun h32 => ?_)
        · skip
          exact x_vret C (⟨rfl, rfl, rfl, he.symm, rfl, rfl⟩) dX3_noteRing_67
        · skip
          rw [h5] at h32
          exact absurd (nI_le (a := 40) (show 40 ≤ z by omega) (by omega)) h32
    | succ f ih =>
      intro a z I1 ha hz hz0 h5 hW1 hnum he
      refine x_aload_n C dX3_noteRing_17 rfl ?_
      refine x_ifnull C dX3_noteRing_18 ?_
      refine x_aload_n C dX3_noteRing_21 rfl ?_
      refine x_aload_n C dX3_noteRing_22 rfl ?_
      refine x_acmpK C 67 ha hi dX3_noteRing_23 (by decide) (fun h23 => ?_) (fun h23 => ?_)
      · skip
        exact x_vret C (⟨rfl, rfl, rfl, by rw [he]; simp only [nrg, if_pos h23], rfl, rfl⟩) dX3_noteRing_67
      · skip
        obtain ⟨hr1, hr2, hr3⟩ := hW1 a ha
        have hz5 : up3 (up3 I1 3 0 z (nI a)) 0 0 5 (nI z + 1) = (up3 (up3 I1 3 0 z (nI a)) 0 0 5 (nI (z + 1))) := by rw [nI_1]
        refine x_aload_n C dX3_noteRing_26 rfl ?_
        refine x_getI C f_X3_82 rfl (by first | assumption | exact Nat.one_pos) dX3_noteRing_27 ?_
        try simp only [up3_r, Nat.reduceEqDiff, and_false, false_and, and_self, and_true, true_and, reduceIte]
        refine x_bipush C 40 (by decide) dX3_noteRing_30 ?_
        refine x_icmp_ge C 67 dX3_noteRing_32 (by decide) (fun h32 => ?_) (fun h32 => ?_)
        · skip
          rw [h5] at h32
          exact absurd h32 (nI_ge (b := 40) (show z < 40 by omega) (by decide))
        · skip
          refine x_aload_n C dX3_noteRing_35 rfl ?_
          refine x_getF C hT f_X3_22 rfl rfl (by first | assumption | exact Nat.one_pos) dX3_noteRing_36 ?_
          refine x_aload_n C dX3_noteRing_39 rfl ?_
          refine x_getI C f_X3_82 rfl (by first | assumption | exact Nat.one_pos) dX3_noteRing_40 ?_
          try simp only [up3_r, Nat.reduceEqDiff, and_false, false_and, and_self, and_true, true_and, reduceIte]
          refine x_aload_n C dX3_noteRing_43 rfl ?_
          refine x_getI C f_X3_146 rfl (by first | assumption | exact Nat.one_pos) dX3_noteRing_44 ?_
          try simp only [up3_r, Nat.reduceEqDiff, and_false, false_and, and_self, and_true, true_and, reduceIte]
          rw [hnum a ha]
          refine x_iastN C z h5 rfl rfl (by first | assumption | exact Nat.one_pos) (show z < 40 by omega) (by decide) dX3_noteRing_47 ?_
          refine x_aload_n C dX3_noteRing_48 rfl ?_
          refine x_dup C rfl dX3_noteRing_49 ?_
          refine x_getI C f_X3_82 rfl (by first | assumption | exact Nat.one_pos) dX3_noteRing_50 ?_
          try simp only [up3_r, Nat.reduceEqDiff, and_false, false_and, and_self, and_true, true_and, reduceIte]
          refine x_iconst C 1 (by decide) dX3_noteRing_53 ?_
          refine x_iadd C dX3_noteRing_54 ?_
          rw [h5]
          refine x_putI C g_X3_82 rfl (by first | assumption | exact Nat.one_pos) dX3_noteRing_55 ?_
          rw [hz5]
          refine x_aload_n C dX3_noteRing_58 rfl ?_
          refine x_aload_n C dX3_noteRing_59 rfl ?_
          skip
          cases hf : ftr R J a i (rs a) (rs a) with
          | none =>
            refine x_cV1 C yo_X0_firstThatReaches m_X3_155 rfl rfl (by assumption) ((c_X0_firstThatReaches l D dA base n ad (up3 (up3 I1 3 0 z (nI a)) 0 0 5 (nI (z + 1))) J R hT a i (rs a) ha hi (by simp [up3, hr1]) hr2 hr3 (fun k hk => by simp [up3, hnum k hk])).mono (post' := po (some .null) ad (Nn n) (up3 (up3 I1 3 0 z (nI a)) 0 0 5 (nI (z + 1))) J R) (fun r a n i j k h => by obtain ⟨h1, h2⟩ := h; exact ⟨by rw [h1, hf]; rfl, h2⟩)) dX3_noteRing_60 rfl rfl (Nat.le_of_ble_eq_true rfl) ⟨by decide, by decide⟩ ⟨by decide, by decide⟩ ?_
            refine x_astore_nN C dX3_noteRing_63 (by decide) rfl rfl ?_
            refine x_goto C 17 dX3_noteRing_64 (by decide) ?_
            refine x_aload_nN C dX3_noteRing_17 rfl ?_
            refine x_ifnullN C 67 dX3_noteRing_18 (by decide) ?_
            exact x_vret C (⟨rfl, rfl, rfl, by rw [he]; simp only [nrg, if_neg h23, hf], rfl, rfl⟩) dX3_noteRing_67
          | some b =>
            have hbn : b < n := ftr_lt hr3 (rs a) (Nat.le_refl _) b hf
            refine x_cV1 C yo_X0_firstThatReaches m_X3_155 rfl rfl (by assumption) ((c_X0_firstThatReaches l D dA base n ad (up3 (up3 I1 3 0 z (nI a)) 0 0 5 (nI (z + 1))) J R hT a i (rs a) ha hi (by simp [up3, hr1]) hr2 hr3 (fun k hk => by simp [up3, hnum k hk])).mono (post' := po (some (.ref (ad 4 b))) ad (Nn n) (up3 (up3 I1 3 0 z (nI a)) 0 0 5 (nI (z + 1))) J R) (fun r a n i j k h => by obtain ⟨h1, h2⟩ := h; exact ⟨by rw [h1, hf]; rfl, h2⟩)) dX3_noteRing_60 rfl rfl (Nat.le_of_ble_eq_true rfl) ⟨by decide, by decide⟩ ⟨by decide, by decide⟩ ?_
            refine x_astore_n C dX3_noteRing_63 (by decide) rfl rfl ?_
            refine x_goto C 17 dX3_noteRing_64 (by decide) ?_
            exact ih b (z + 1) (up3 (up3 I1 3 0 z (nI a)) 0 0 5 (nI (z + 1))) hbn (by omega) (by omega) (by rw [up3_s]) ((hW1.up (by omega)).up (by omega)) (fun k hk => by simp [up3, hnum k hk]) (by rw [he]; simp only [nrg, if_neg h23, hf])
  refine x_aload_n C dX3_noteRing_0 rfl ?_
  refine x_getF C hT f_X3_22 rfl rfl (by first | assumption | exact Nat.one_pos) dX3_noteRing_1 ?_
  refine x_iconst C 0 (by decide) dX3_noteRing_4 ?_
  refine x_aload_n C dX3_noteRing_5 rfl ?_
  refine x_getI C f_X3_146 rfl (by first | assumption | exact Nat.one_pos) dX3_noteRing_6 ?_
  rw [hG.2.2.2.2 i hi]
  refine x_iastN C 0 rfl rfl rfl (by first | assumption | exact Nat.one_pos) (by decide) (by decide) dX3_noteRing_9 ?_
  refine x_aload_n C dX3_noteRing_10 rfl ?_
  refine x_iconst C 1 (by decide) dX3_noteRing_11 ?_
  refine x_putI C g_X3_82 rfl (by first | assumption | exact Nat.one_pos) dX3_noteRing_12 ?_
  refine x_aload_n C dX3_noteRing_15 rfl ?_
  refine x_astore_n C dX3_noteRing_16 (by decide) rfl rfl ?_
  exact loop 39 j 1 _ hj rfl (by decide) (by rw [up3_s]; rfl) ((hW.up (by decide)).up (by decide)) (fun k hk => by simp [up3, hG.2.2.2.2 k hk]) rfl

def spr (i j : Nat) (J : Fj) : Nat → Fj
  | 0 => J
  | t + 1 => if bit (spr i j J t 4 t 4) i = true then up3 (spr i j J t) 4 t 4 (spr i j J t 4 t 4 ||| spr i j J t 4 j 4) else spr i j J t
set_option maxRecDepth 100000 in
set_option maxHeartbeats 4000000 in
theorem c_X3_spreadReach (l : Launch) (D : va_G) (dA : Nat → ClassId) (base n : Nat) (ad : Fa) (I : Fi) (J : Fj) (R : Fr) (hT : ST n R) (hG : KG n I R) (i j : Nat) (hi : i < n) (hj : j < n) : CT l D dA base yX3_spreadReach cX3_spreadReach 5 none 1 0 0 [.ref (ad 0 0), .ref (ad 4 i), .ref (ad 4 j)] ad (Nn n) I J R (po none ad (Nn n) I (spr i j J n) R) := by
  refine CT.of 2 (L0 := [some (.ref (ad 0 0)), some (.ref (ad 4 i)), some (.ref (ad 4 j)), none, none]) (by decide +kernel) rfl (Nat.le_of_ble_eq_true rfl) ?_
  intro p e s m args below meth c C
  have hn40 := hG.2.1
  have loop : ∀ (f t : Nat), t + f = n → GX p l e (rmX 1 0 0) s m args below meth c (MQ below (CQ D dA base (po none ad (Nn n) I (spr i j J n) R)) args s 0 0 (fun q => base ≤ q)) D dA base 5 ad (Nn n) I (spr i j J t) R 0 0 2 [some (.ref (ad 0 0)), some (.ref (ad 4 i)), some (.ref (ad 4 j)), some (.int (nI t)), none] [] := by
    intro f
    induction f with
    | zero =>
      intro t ht
      have ht2 : t = n := by omega
      refine x_iload_n C dX3_spreadReach_2 rfl ?_
      refine x_aload_n C dX3_spreadReach_3 rfl ?_
      refine x_getI C f_X3_26 rfl (by first | assumption | exact Nat.one_pos) dX3_spreadReach_4 ?_
      refine x_icmp_ge C 51 dX3_spreadReach_7 (by decide) (fun h7 => ?_) (fun h7 => ?_)
      · skip
        exact x_vret C (⟨rfl, rfl, rfl, rfl, by rw [ht2], rfl⟩) dX3_spreadReach_51
      · skip
        rw [hG.1, ht2] at h7
        exact absurd (Int32.le_refl _) h7
    | succ f ih =>
      intro t ht
      have htn : t < n := by omega
      refine x_iload_n C dX3_spreadReach_2 rfl ?_
      refine x_aload_n C dX3_spreadReach_3 rfl ?_
      refine x_getI C f_X3_26 rfl (by first | assumption | exact Nat.one_pos) dX3_spreadReach_4 ?_
      refine x_icmp_ge C 51 dX3_spreadReach_7 (by decide) (fun h7 => ?_) (fun h7 => ?_)
      · skip
        rw [hG.1] at h7
        exact absurd h7 (nI_ge htn (by omega))
      · skip
        refine x_aload_n C dX3_spreadReach_10 rfl ?_
        refine x_iload_n C dX3_spreadReach_11 rfl ?_
        refine x_cV1 C yo_X3_keyAt m_X3_56 rfl rfl (by first | assumption | exact Nat.one_pos) (c_X3_keyAt_in l D dA base n ad I (spr i j J t) R hT hG t htn) dX3_spreadReach_12 rfl rfl (Nat.le_of_ble_eq_true rfl) ⟨by decide, by decide⟩ ⟨by decide, by decide⟩ ?_
        refine x_astore C dX3_spreadReach_15 (by decide) rfl rfl ?_
        refine x_aload C dX3_spreadReach_17 rfl ?_
        refine x_ifnull C dX3_spreadReach_19 ?_
        refine x_aload C dX3_spreadReach_22 rfl ?_
        refine x_aload_n C dX3_spreadReach_24 rfl ?_
        refine x_cV1 C yo_X0_reaches m_X3_62 rfl rfl (by first | assumption | exact Nat.one_pos) (c_X0_reaches l D dA base n ad I (spr i j J t) R hT t i htn hi (hG.2.2.2.2 i hi)) dX3_spreadReach_25 rfl rfl (Nat.le_of_ble_eq_true rfl) ⟨by decide, by decide⟩ ⟨by decide, by decide⟩ ?_
        refine x_if_eq C 45 dX3_spreadReach_28 (by decide) (fun h28 => ?_) (fun h28 => ?_)
        · skip
          have q : ¬ bit (spr i j J t 4 t 4) i = true := fun z => by rw [if_pos z] at h28; exact absurd h28 (by decide)
          refine x_iinc C _ dX3_spreadReach_45 rfl rfl (by decide) rfl rfl ?_
          refine x_goto C 2 dX3_spreadReach_48 (by decide) ?_
          refine x_drop 4 rfl ?_
          exact x_eqL (ih (t + 1) (by omega)) rfl (by rw [← nI_1]; rfl) rfl rfl (by rw [spr, if_neg q]) rfl
        · skip
          have q : bit (spr i j J t 4 t 4) i = true := Decidable.of_not_not (fun z => h28 (by rw [if_neg z]))
          refine x_aload C dX3_spreadReach_31 rfl ?_
          refine x_dup C rfl dX3_spreadReach_33 ?_
          refine x_getJ C f_X3_159 rfl (by first | assumption | exact Nat.one_pos) dX3_spreadReach_34 ?_
          refine x_aload_n C dX3_spreadReach_37 rfl ?_
          refine x_getJ C f_X3_159 rfl (by first | assumption | exact Nat.one_pos) dX3_spreadReach_38 ?_
          refine x_lor C dX3_spreadReach_41 ?_
          refine x_putJ C g_X3_159 rfl (by first | assumption | exact Nat.one_pos) dX3_spreadReach_42 ?_
          refine x_iinc C _ dX3_spreadReach_45 rfl rfl (by decide) rfl rfl ?_
          refine x_goto C 2 dX3_spreadReach_48 (by decide) ?_
          refine x_drop 4 rfl ?_
          exact x_eqL (ih (t + 1) (by omega)) rfl (by rw [← nI_1]; rfl) rfl rfl (by rw [spr, if_pos q]) rfl
  refine x_iconst C 0 (by decide) dX3_spreadReach_0 ?_
  refine x_istore_n C dX3_spreadReach_1 (by decide) rfl rfl ?_
  exact loop n 0 (by omega)
end
section
/-! run on its own pile -/
set_option maxRecDepth 100000 in
set_option maxHeartbeats 4000000 in
theorem c_run_end (l : Launch) (D : va_G) (dA : Nat → ClassId) (base n : Nat) (ad : Fa) (I : Fi) (J : Fj) (R : Fr) (hT : ST n R) (hG : KG n I R) (i : Nat) (hi : i < n) (hs4 : I 9 4 1 = nI 0) (T : Nat) (hT6 : T < 1000000) (σI : Nat → Fi) (σJ : Nat → Fj) (σR : Nat → Fr) (zs : Nat → Nat) (h0I : σI 0 = putI I 4 i 0) (h0J : σJ 0 = up3 J 7 i 3 0) (h0R : σR 0 = up3 R 10 4 0 (some i)) (hz : ∀ t, t ≤ T → σI t 9 4 1 = nI (zs t) ∧ zs t ≤ 40) (hst : ∀ t, t < T → 0 < zs t ∧ ∃ x : Int32, ¬ x = 3 ∧ CT l D dA base yX3_goOn cX3_goOn 3 (some .int) 5 0 0 [.ref (ad 0 0), .ref (ad 9 4)] ad (Nn n) (σI t) (σJ t) (σR t) (po (some (.int x)) ad (Nn n) (σI (t + 1)) (σJ (t + 1)) (σR (t + 1)))) (hend : zs T = 0) : CT l D dA base yX3_runOnOwnPile cX3_runOnOwnPile 4 (some .int) 6 0 0 [.ref (ad 0 0), .ref (ad 4 i)] ad (Nn n) I J R (po (some (.int (σI T 4 i 7))) ad (Nn n) (σI T) (σJ T) (σR T)) := by
  refine CT.of 2 (L0 := [some (.ref (ad 0 0)), some (.ref (ad 4 i)), none, none]) (by decide +kernel) rfl (Nat.le_of_ble_eq_true rfl) ?_
  intro p e s m args below meth c C
  have h45 : 4 < 5 := by decide
  have loop : ∀ (f t : Nat), t + f = T → GX p l e (rmX 6 0 0) s m args below meth c (MQ below (CQ D dA base (po (some (.int (σI T 4 i 7))) ad (Nn n) (σI T) (σJ T) (σR T))) args s 0 0 (fun q => base ≤ q)) D dA base 4 ad (Nn n) (σI t) (σJ t) (σR t) 0 0 14 [some (.ref (ad 0 0)), some (.ref (ad 4 i)), some (.ref (ad 9 4)), some (.int (nI t))] [] := by
    intro f
    induction f with
    | zero =>
      intro t ht
      have ht2 : t = T := by omega
      subst ht2
      obtain ⟨hz1, hz2⟩ := hz t (Nat.le_refl _)
      refine x_aload_n C dX3_runOnOwnPile_14 rfl ?_
      refine x_getI C f_X3_97 rfl (by first | assumption | exact Nat.one_pos) dX3_runOnOwnPile_15 ?_
      refine x_if_le C 50 dX3_runOnOwnPile_18 (by decide) (fun h18 => ?_) (fun h18 => ?_)
      · skip
        refine x_aload_n C dX3_runOnOwnPile_50 rfl ?_
        refine x_getI C f_X3_35 rfl (by first | assumption | exact Nat.one_pos) dX3_runOnOwnPile_51 ?_
        exact x_iret C (po_i _ _ _ _ _ _) dX3_runOnOwnPile_54
      · skip
        rw [hz1, hend] at h18
        exact absurd (by decide) h18
    | succ f ih =>
      intro t ht
      obtain ⟨hz1, hz2⟩ := hz t (by omega)
      obtain ⟨hpos, x, hx3, hM⟩ := hst t (by omega)
      refine x_aload_n C dX3_runOnOwnPile_14 rfl ?_
      refine x_getI C f_X3_97 rfl (by first | assumption | exact Nat.one_pos) dX3_runOnOwnPile_15 ?_
      refine x_if_le C 50 dX3_runOnOwnPile_18 (by decide) (fun h18 => ?_) (fun h18 => ?_)
      · skip
        rw [hz1] at h18
        exact absurd h18 (nI_nle hpos (by omega))
      · skip
        refine x_iload_n C dX3_runOnOwnPile_21 rfl ?_
        refine x_ldc C 1000000 (gd_in (by decide +kernel) rfl) dX3_runOnOwnPile_22 ?_
        refine x_icmp_ge C 50 dX3_runOnOwnPile_24 (by decide) (fun h24 => ?_) (fun h24 => ?_)
        · skip
          exact absurd h24 (nI_ge (b := 1000000) (show t < 1000000 by omega) (by decide))
        · skip
          refine x_aload_n C dX3_runOnOwnPile_27 rfl ?_
          refine x_aload_n C dX3_runOnOwnPile_28 rfl ?_
          refine x_cV1 C yo_X3_goOn m_X3_110 rfl rfl (by first | assumption | exact Nat.one_pos) (hM) dX3_runOnOwnPile_29 rfl rfl (Nat.le_of_ble_eq_true rfl) ⟨by decide, by decide⟩ ⟨by decide, by decide⟩ ?_
          refine x_iconst C 3 (by decide) dX3_runOnOwnPile_32 ?_
          refine x_icmp_ne C 44 dX3_runOnOwnPile_33 (by decide) (fun h33 => ?_) (fun h33 => ?_)
          · skip
            refine x_iinc C _ dX3_runOnOwnPile_44 rfl rfl (by decide) rfl rfl ?_
            refine x_goto C 14 dX3_runOnOwnPile_47 (by decide) ?_
            exact x_eqL (ih (t + 1) (by omega)) rfl (by rw [← nI_1]; rfl) rfl rfl rfl rfl
          · skip
            exact absurd h33 hx3
  refine x_aload_n C dX3_runOnOwnPile_0 rfl ?_
  refine x_getF C hT f_X3_17 rfl rfl (by first | assumption | exact Nat.one_pos) dX3_runOnOwnPile_1 ?_
  refine x_iconst C 4 (by decide) dX3_runOnOwnPile_4 ?_
  refine x_aaldS C (4) rfl rfl rfl rfl (by first | assumption | exact Nat.one_pos) (by decide) (by decide) (hG.2.2.2.1 4 (by decide)) dX3_runOnOwnPile_5 ?_
  refine x_astore_n C dX3_runOnOwnPile_6 (by decide) rfl rfl ?_
  refine x_aload_n C dX3_runOnOwnPile_7 rfl ?_
  refine x_aload_n C dX3_runOnOwnPile_8 rfl ?_
  refine x_cV0 C yo_X1_put m_X3_106 rfl rfl (by first | assumption | exact Nat.one_pos) (c_X1_put l D dA base n ad I J R hT 4 i 0 (by decide) hi hs4 (by decide)) dX3_runOnOwnPile_9 rfl rfl (Nat.le_of_ble_eq_true rfl) ⟨by decide, by decide⟩ ⟨by decide, by decide⟩ ?_
  refine x_iconst C 0 (by decide) dX3_runOnOwnPile_12 ?_
  refine x_istore_n C dX3_runOnOwnPile_13 (by decide) rfl rfl ?_
  exact x_eqL (loop T 0 (by omega)) rfl rfl rfl h0I.symm h0J.symm h0R.symm

set_option maxRecDepth 100000 in
set_option maxHeartbeats 4000000 in
theorem c_run_wait (l : Launch) (D : va_G) (dA : Nat → ClassId) (base n : Nat) (ad : Fa) (I : Fi) (J : Fj) (R : Fr) (hT : ST n R) (hG : KG n I R) (i : Nat) (hi : i < n) (hs4 : I 9 4 1 = nI 0) (T : Nat) (hT6 : T < 1000000) (σI : Nat → Fi) (σJ : Nat → Fj) (σR : Nat → Fr) (zs : Nat → Nat) (h0I : σI 0 = putI I 4 i 0) (h0J : σJ 0 = up3 J 7 i 3 0) (h0R : σR 0 = up3 R 10 4 0 (some i)) (hz : ∀ t, t ≤ T → σI t 9 4 1 = nI (zs t) ∧ zs t ≤ 40) (hst : ∀ t, t < T → 0 < zs t ∧ ∃ x : Int32, ¬ x = 3 ∧ CT l D dA base yX3_goOn cX3_goOn 3 (some .int) 5 0 0 [.ref (ad 0 0), .ref (ad 9 4)] ad (Nn n) (σI t) (σJ t) (σR t) (po (some (.int x)) ad (Nn n) (σI (t + 1)) (σJ (t + 1)) (σR (t + 1)))) (hw : 0 < zs T) (hTS : ST n (σR T)) (hent : ∀ j, j < zs T → ∃ k, σR T 10 4 j = some k ∧ k < n) (hlast : CT l D dA base yX3_goOn cX3_goOn 3 (some .int) 5 0 0 [.ref (ad 0 0), .ref (ad 9 4)] ad (Nn n) (σI T) (σJ T) (σR T) (po (some (.int 3)) ad (Nn n) (σI T) (σJ T) (σR T))) : CT l D dA base yX3_runOnOwnPile cX3_runOnOwnPile 4 (some .int) 6 0 0 [.ref (ad 0 0), .ref (ad 4 i)] ad (Nn n) I J R (po (some (.int (-2))) ad (Nn n) (tka (σR T) 4 (zs T) (σI T)) (σJ T) (σR T)) := by
  refine CT.of 2 (L0 := [some (.ref (ad 0 0)), some (.ref (ad 4 i)), none, none]) (by decide +kernel) rfl (Nat.le_of_ble_eq_true rfl) ?_
  intro p e s m args below meth c C
  have h45 : 4 < 5 := by decide
  have loop : ∀ (f t : Nat), t + f = T → GX p l e (rmX 6 0 0) s m args below meth c (MQ below (CQ D dA base (po (some (.int (-2))) ad (Nn n) (tka (σR T) 4 (zs T) (σI T)) (σJ T) (σR T))) args s 0 0 (fun q => base ≤ q)) D dA base 4 ad (Nn n) (σI t) (σJ t) (σR t) 0 0 14 [some (.ref (ad 0 0)), some (.ref (ad 4 i)), some (.ref (ad 9 4)), some (.int (nI t))] [] := by
    intro f
    induction f with
    | zero =>
      intro t ht
      have ht2 : t = T := by omega
      subst ht2
      obtain ⟨hz1, hz2⟩ := hz t (Nat.le_refl _)
      refine x_aload_n C dX3_runOnOwnPile_14 rfl ?_
      refine x_getI C f_X3_97 rfl (by first | assumption | exact Nat.one_pos) dX3_runOnOwnPile_15 ?_
      refine x_if_le C 50 dX3_runOnOwnPile_18 (by decide) (fun h18 => ?_) (fun h18 => ?_)
      · skip
        rw [hz1] at h18
        exact absurd h18 (nI_nle hw (by omega))
      · skip
        refine x_iload_n C dX3_runOnOwnPile_21 rfl ?_
        refine x_ldc C 1000000 (gd_in (by decide +kernel) rfl) dX3_runOnOwnPile_22 ?_
        refine x_icmp_ge C 50 dX3_runOnOwnPile_24 (by decide) (fun h24 => ?_) (fun h24 => ?_)
        · skip
          exact absurd h24 (nI_ge (b := 1000000) hT6 (by decide))
        · skip
          refine x_aload_n C dX3_runOnOwnPile_27 rfl ?_
          refine x_aload_n C dX3_runOnOwnPile_28 rfl ?_
          refine x_cV1 C yo_X3_goOn m_X3_110 rfl rfl (by first | assumption | exact Nat.one_pos) (hlast) dX3_runOnOwnPile_29 rfl rfl (Nat.le_of_ble_eq_true rfl) ⟨by decide, by decide⟩ ⟨by decide, by decide⟩ ?_
          refine x_iconst C 3 (by decide) dX3_runOnOwnPile_32 ?_
          refine x_icmp_ne C 44 dX3_runOnOwnPile_33 (by decide) (fun h33 => ?_) (fun h33 => ?_)
          · skip
            exact absurd rfl h33
          · skip
            refine x_aload_n C dX3_runOnOwnPile_36 rfl ?_
            refine x_cV1 C yo_X1_takeAll m_X3_152 rfl rfl (by first | assumption | exact Nat.one_pos) (c_X1_takeAll l D dA base n ad (σI t) (σJ t) (σR t) hTS 4 (zs t) (by decide) hz1 hz2 hent) dX3_runOnOwnPile_37 rfl rfl (Nat.le_of_ble_eq_true rfl) ⟨by decide, by decide⟩ ⟨by decide, by decide⟩ ?_
            refine x_pop C rfl dX3_runOnOwnPile_40 ?_
            refine x_bipush C (-2) (by decide) dX3_runOnOwnPile_41 ?_
            exact x_iret C (po_i _ _ _ _ _ _) dX3_runOnOwnPile_43
    | succ f ih =>
      intro t ht
      obtain ⟨hz1, hz2⟩ := hz t (by omega)
      obtain ⟨hpos, x, hx3, hM⟩ := hst t (by omega)
      refine x_aload_n C dX3_runOnOwnPile_14 rfl ?_
      refine x_getI C f_X3_97 rfl (by first | assumption | exact Nat.one_pos) dX3_runOnOwnPile_15 ?_
      refine x_if_le C 50 dX3_runOnOwnPile_18 (by decide) (fun h18 => ?_) (fun h18 => ?_)
      · skip
        rw [hz1] at h18
        exact absurd h18 (nI_nle hpos (by omega))
      · skip
        refine x_iload_n C dX3_runOnOwnPile_21 rfl ?_
        refine x_ldc C 1000000 (gd_in (by decide +kernel) rfl) dX3_runOnOwnPile_22 ?_
        refine x_icmp_ge C 50 dX3_runOnOwnPile_24 (by decide) (fun h24 => ?_) (fun h24 => ?_)
        · skip
          exact absurd h24 (nI_ge (b := 1000000) (show t < 1000000 by omega) (by decide))
        · skip
          refine x_aload_n C dX3_runOnOwnPile_27 rfl ?_
          refine x_aload_n C dX3_runOnOwnPile_28 rfl ?_
          refine x_cV1 C yo_X3_goOn m_X3_110 rfl rfl (by first | assumption | exact Nat.one_pos) (hM) dX3_runOnOwnPile_29 rfl rfl (Nat.le_of_ble_eq_true rfl) ⟨by decide, by decide⟩ ⟨by decide, by decide⟩ ?_
          refine x_iconst C 3 (by decide) dX3_runOnOwnPile_32 ?_
          refine x_icmp_ne C 44 dX3_runOnOwnPile_33 (by decide) (fun h33 => ?_) (fun h33 => ?_)
          · skip
            refine x_iinc C _ dX3_runOnOwnPile_44 rfl rfl (by decide) rfl rfl ?_
            refine x_goto C 14 dX3_runOnOwnPile_47 (by decide) ?_
            exact x_eqL (ih (t + 1) (by omega)) rfl (by rw [← nI_1]; rfl) rfl rfl rfl rfl
          · skip
            exact absurd h33 hx3
  refine x_aload_n C dX3_runOnOwnPile_0 rfl ?_
  refine x_getF C hT f_X3_17 rfl rfl (by first | assumption | exact Nat.one_pos) dX3_runOnOwnPile_1 ?_
  refine x_iconst C 4 (by decide) dX3_runOnOwnPile_4 ?_
  refine x_aaldS C (4) rfl rfl rfl rfl (by first | assumption | exact Nat.one_pos) (by decide) (by decide) (hG.2.2.2.1 4 (by decide)) dX3_runOnOwnPile_5 ?_
  refine x_astore_n C dX3_runOnOwnPile_6 (by decide) rfl rfl ?_
  refine x_aload_n C dX3_runOnOwnPile_7 rfl ?_
  refine x_aload_n C dX3_runOnOwnPile_8 rfl ?_
  refine x_cV0 C yo_X1_put m_X3_106 rfl rfl (by first | assumption | exact Nat.one_pos) (c_X1_put l D dA base n ad I J R hT 4 i 0 (by decide) hi hs4 (by decide)) dX3_runOnOwnPile_9 rfl rfl (Nat.le_of_ble_eq_true rfl) ⟨by decide, by decide⟩ ⟨by decide, by decide⟩ ?_
  refine x_iconst C 0 (by decide) dX3_runOnOwnPile_12 ?_
  refine x_istore_n C dX3_runOnOwnPile_13 (by decide) rfl rfl ?_
  exact x_eqL (loop T 0 (by omega)) rfl rfl rfl h0I.symm h0J.symm h0R.symm

/-! the public methods -/
set_option maxRecDepth 100000 in
set_option maxHeartbeats 4000000 in
theorem c_X3_worked_in (l : Launch) (D : va_G) (dA : Nat → ClassId) (base n : Nat) (ad : Fa) (I : Fi) (J : Fj) (R : Fr) (hT : ST n R) (hG : KG n I R) (k : Nat) (hk : k < n)  : CT l D dA base yX3_worked cX3_worked 3 (some .int) 1 0 0 [.ref (ad 0 0), .int (nI k)] ad (Nn n) I J R (po (some (.int (I 4 k 14))) ad (Nn n) I J R) := by
  refine CT.of 1 (L0 := [some (.ref (ad 0 0)), some (.int (nI k)), none]) (by decide +kernel) rfl (Nat.le_of_ble_eq_true rfl) ?_
  intro p e s m args below meth c C
  refine x_aload_n C dX3_worked_0 rfl ?_
  refine x_iload_n C dX3_worked_1 rfl ?_
  refine x_cV1 C yo_X3_keyAt m_X3_56 rfl rfl (by first | assumption | exact Nat.one_pos) (c_X3_keyAt_in l D dA base n ad I J R hT hG k hk) dX3_worked_2 rfl rfl (Nat.le_of_ble_eq_true rfl) ⟨by decide, by decide⟩ ⟨by decide, by decide⟩ ?_
  refine x_astore_n C dX3_worked_5 (by decide) rfl rfl ?_
  refine x_aload_n C dX3_worked_6 rfl ?_
  refine x_ifnonnull C 14 dX3_worked_7 (by decide) ?_
  refine x_aload_n C dX3_worked_14 rfl ?_
  refine x_getI C f_X3_133 rfl (by first | assumption | exact Nat.one_pos) dX3_worked_15 ?_
  exact x_iret C (po_i _ _ _ _ _ _) dX3_worked_18

set_option maxRecDepth 100000 in
set_option maxHeartbeats 4000000 in
theorem c_X3_worked_out (l : Launch) (D : va_G) (dA : Nat → ClassId) (base n : Nat) (ad : Fa) (I : Fi) (J : Fj) (R : Fr) (hT : ST n R) (hG : KG n I R) (x : Int32) (hx : x < 0 ∨ nI n ≤ x)  : CT l D dA base yX3_worked cX3_worked 3 (some .int) 1 0 0 [.ref (ad 0 0), .int x] ad (Nn n) I J R (po (some (.int 0)) ad (Nn n) I J R) := by
  refine CT.of 1 (L0 := [some (.ref (ad 0 0)), some (.int x), none]) (by decide +kernel) rfl (Nat.le_of_ble_eq_true rfl) ?_
  intro p e s m args below meth c C
  refine x_aload_n C dX3_worked_0 rfl ?_
  refine x_iload_n C dX3_worked_1 rfl ?_
  refine x_cV1 C yo_X3_keyAt m_X3_56 rfl rfl (by first | assumption | exact Nat.one_pos) (c_X3_keyAt_out l D dA base n ad I J R hT hG x hx) dX3_worked_2 rfl rfl (Nat.le_of_ble_eq_true rfl) ⟨by decide, by decide⟩ ⟨by decide, by decide⟩ ?_
  refine x_astore_nN C dX3_worked_5 (by decide) rfl rfl ?_
  refine x_aload_nN C dX3_worked_6 rfl ?_
  refine x_ifnonnullN C dX3_worked_7 ?_
  refine x_iconst C 0 (by decide) dX3_worked_10 ?_
  refine x_goto C 18 dX3_worked_11 (by decide) ?_
  exact x_iret C (po_i _ _ _ _ _ _) dX3_worked_18

set_option maxRecDepth 100000 in
set_option maxHeartbeats 4000000 in
theorem c_X3_kept_in (l : Launch) (D : va_G) (dA : Nat → ClassId) (base n : Nat) (ad : Fa) (I : Fi) (J : Fj) (R : Fr) (hT : ST n R) (hG : KG n I R) (k : Nat) (hk : k < n)  : CT l D dA base yX3_kept cX3_kept 3 (some .int) 1 0 0 [.ref (ad 0 0), .int (nI k)] ad (Nn n) I J R (po (some (.int (I 4 k 15))) ad (Nn n) I J R) := by
  refine CT.of 1 (L0 := [some (.ref (ad 0 0)), some (.int (nI k)), none]) (by decide +kernel) rfl (Nat.le_of_ble_eq_true rfl) ?_
  intro p e s m args below meth c C
  refine x_aload_n C dX3_kept_0 rfl ?_
  refine x_iload_n C dX3_kept_1 rfl ?_
  refine x_cV1 C yo_X3_keyAt m_X3_56 rfl rfl (by first | assumption | exact Nat.one_pos) (c_X3_keyAt_in l D dA base n ad I J R hT hG k hk) dX3_kept_2 rfl rfl (Nat.le_of_ble_eq_true rfl) ⟨by decide, by decide⟩ ⟨by decide, by decide⟩ ?_
  refine x_astore_n C dX3_kept_5 (by decide) rfl rfl ?_
  refine x_aload_n C dX3_kept_6 rfl ?_
  refine x_ifnonnull C 14 dX3_kept_7 (by decide) ?_
  refine x_aload_n C dX3_kept_14 rfl ?_
  refine x_getI C f_X3_136 rfl (by first | assumption | exact Nat.one_pos) dX3_kept_15 ?_
  exact x_iret C (po_i _ _ _ _ _ _) dX3_kept_18

set_option maxRecDepth 100000 in
set_option maxHeartbeats 4000000 in
theorem c_X3_kept_out (l : Launch) (D : va_G) (dA : Nat → ClassId) (base n : Nat) (ad : Fa) (I : Fi) (J : Fj) (R : Fr) (hT : ST n R) (hG : KG n I R) (x : Int32) (hx : x < 0 ∨ nI n ≤ x)  : CT l D dA base yX3_kept cX3_kept 3 (some .int) 1 0 0 [.ref (ad 0 0), .int x] ad (Nn n) I J R (po (some (.int 0)) ad (Nn n) I J R) := by
  refine CT.of 1 (L0 := [some (.ref (ad 0 0)), some (.int x), none]) (by decide +kernel) rfl (Nat.le_of_ble_eq_true rfl) ?_
  intro p e s m args below meth c C
  refine x_aload_n C dX3_kept_0 rfl ?_
  refine x_iload_n C dX3_kept_1 rfl ?_
  refine x_cV1 C yo_X3_keyAt m_X3_56 rfl rfl (by first | assumption | exact Nat.one_pos) (c_X3_keyAt_out l D dA base n ad I J R hT hG x hx) dX3_kept_2 rfl rfl (Nat.le_of_ble_eq_true rfl) ⟨by decide, by decide⟩ ⟨by decide, by decide⟩ ?_
  refine x_astore_nN C dX3_kept_5 (by decide) rfl rfl ?_
  refine x_aload_nN C dX3_kept_6 rfl ?_
  refine x_ifnonnullN C dX3_kept_7 ?_
  refine x_iconst C 0 (by decide) dX3_kept_10 ?_
  refine x_goto C 18 dX3_kept_11 (by decide) ?_
  exact x_iret C (po_i _ _ _ _ _ _) dX3_kept_18

set_option maxRecDepth 100000 in
set_option maxHeartbeats 4000000 in
theorem c_X3_version (l : Launch) (D : va_G) (dA : Nat → ClassId) (base n : Nat) (ad : Fa) (I : Fi) (J : Fj) (R : Fr) (hT : ST n R)  : CT l D dA base yX3_version cX3_version 1 (some .int) 0 0 0 [.ref (ad 0 0)] ad (Nn n) I J R (po (some (.int (I 0 0 2))) ad (Nn n) I J R) := by
  refine CT.of 0 (L0 := [some (.ref (ad 0 0))]) (by decide +kernel) rfl (Nat.le_of_ble_eq_true rfl) ?_
  intro p e s m args below meth c C
  refine x_aload_n C dX3_version_0 rfl ?_
  refine x_getI C f_X3_42 rfl (by first | assumption | exact Nat.one_pos) dX3_version_1 ?_
  exact x_iret C (po_i _ _ _ _ _ _) dX3_version_4

set_option maxRecDepth 100000 in
set_option maxHeartbeats 4000000 in
theorem c_X3_state_in (l : Launch) (D : va_G) (dA : Nat → ClassId) (base n : Nat) (ad : Fa) (I : Fi) (J : Fj) (R : Fr) (hT : ST n R) (hG : KG n I R) (k : Nat) (hk : k < n)  : CT l D dA base yX3_state cX3_state 3 (some .int) 2 0 0 [.ref (ad 0 0), .int (nI k)] ad (Nn n) I J R (po (some (.int (if sure I k = true then I 4 k 7 else 0))) ad (Nn n) I J R) := by
  refine CT.of 1 (L0 := [some (.ref (ad 0 0)), some (.int (nI k)), none]) (by decide +kernel) rfl (Nat.le_of_ble_eq_true rfl) ?_
  intro p e s m args below meth c C
  refine x_aload_n C dX3_state_0 rfl ?_
  refine x_iload_n C dX3_state_1 rfl ?_
  refine x_cV1 C yo_X3_keyAt m_X3_56 rfl rfl (by first | assumption | exact Nat.one_pos) (c_X3_keyAt_in l D dA base n ad I J R hT hG k hk) dX3_state_2 rfl rfl (Nat.le_of_ble_eq_true rfl) ⟨by decide, by decide⟩ ⟨by decide, by decide⟩ ?_
  refine x_astore_n C dX3_state_5 (by decide) rfl rfl ?_
  refine x_aload_n C dX3_state_6 rfl ?_
  refine x_ifnull C dX3_state_7 ?_
  refine x_aload_n C dX3_state_10 rfl ?_
  refine x_aload_n C dX3_state_11 rfl ?_
  refine x_cV1 C yo_X3_isSure m_X3_100 rfl rfl (by first | assumption | exact Nat.one_pos) (c_X3_isSure l D dA base n ad I J R hT k hk) dX3_state_12 rfl rfl (Nat.le_of_ble_eq_true rfl) ⟨by decide, by decide⟩ ⟨by decide, by decide⟩ ?_
  refine x_if_ne C 22 dX3_state_15 (by decide) (fun h15 => ?_) (fun h15 => ?_)
  · skip
    refine x_aload_n C dX3_state_22 rfl ?_
    refine x_getI C f_X3_35 rfl (by first | assumption | exact Nat.one_pos) dX3_state_23 ?_
    exact x_iret C (po_r (by simp_all)) dX3_state_26
  · skip
    refine x_iconst C 0 (by decide) dX3_state_18 ?_
    refine x_goto C 26 dX3_state_19 (by decide) ?_
    exact x_iret C (po_r (by simp_all)) dX3_state_26

set_option maxRecDepth 100000 in
set_option maxHeartbeats 4000000 in
theorem c_X3_state_out (l : Launch) (D : va_G) (dA : Nat → ClassId) (base n : Nat) (ad : Fa) (I : Fi) (J : Fj) (R : Fr) (hT : ST n R) (hG : KG n I R) (x : Int32) (hx : x < 0 ∨ nI n ≤ x)  : CT l D dA base yX3_state cX3_state 3 (some .int) 2 0 0 [.ref (ad 0 0), .int x] ad (Nn n) I J R (po (some (.int 0)) ad (Nn n) I J R) := by
  refine CT.of 1 (L0 := [some (.ref (ad 0 0)), some (.int x), none]) (by decide +kernel) rfl (Nat.le_of_ble_eq_true rfl) ?_
  intro p e s m args below meth c C
  refine x_aload_n C dX3_state_0 rfl ?_
  refine x_iload_n C dX3_state_1 rfl ?_
  refine x_cV1 C yo_X3_keyAt m_X3_56 rfl rfl (by first | assumption | exact Nat.one_pos) (c_X3_keyAt_out l D dA base n ad I J R hT hG x hx) dX3_state_2 rfl rfl (Nat.le_of_ble_eq_true rfl) ⟨by decide, by decide⟩ ⟨by decide, by decide⟩ ?_
  refine x_astore_nN C dX3_state_5 (by decide) rfl rfl ?_
  refine x_aload_nN C dX3_state_6 rfl ?_
  refine x_ifnullN C 18 dX3_state_7 (by decide) ?_
  refine x_iconst C 0 (by decide) dX3_state_18 ?_
  refine x_goto C 26 dX3_state_19 (by decide) ?_
  exact x_iret C (po_i _ _ _ _ _ _) dX3_state_26

set_option maxRecDepth 100000 in
set_option maxHeartbeats 4000000 in
theorem c_X3_changed_in (l : Launch) (D : va_G) (dA : Nat → ClassId) (base n : Nat) (ad : Fa) (I : Fi) (J : Fj) (R : Fr) (hT : ST n R) (hG : KG n I R) (k : Nat) (hk : k < n)  : CT l D dA base yX3_changed cX3_changed 3 (some .int) 1 0 0 [.ref (ad 0 0), .int (nI k)] ad (Nn n) I J R (po (some (.int (if I 4 k 1 = -1 ∨ ¬ I 4 k 10 = 0 then I 4 k 9 else -1))) ad (Nn n) I J R) := by
  refine CT.of 1 (L0 := [some (.ref (ad 0 0)), some (.int (nI k)), none]) (by decide +kernel) rfl (Nat.le_of_ble_eq_true rfl) ?_
  intro p e s m args below meth c C
  refine x_aload_n C dX3_changed_0 rfl ?_
  refine x_iload_n C dX3_changed_1 rfl ?_
  refine x_cV1 C yo_X3_keyAt m_X3_56 rfl rfl (by first | assumption | exact Nat.one_pos) (c_X3_keyAt_in l D dA base n ad I J R hT hG k hk) dX3_changed_2 rfl rfl (Nat.le_of_ble_eq_true rfl) ⟨by decide, by decide⟩ ⟨by decide, by decide⟩ ?_
  refine x_astore_n C dX3_changed_5 (by decide) rfl rfl ?_
  refine x_aload_n C dX3_changed_6 rfl ?_
  refine x_ifnull C dX3_changed_7 ?_
  refine x_aload_n C dX3_changed_10 rfl ?_
  refine x_cV1 C yo_X0_isLeaf m_X3_85 rfl rfl (by first | assumption | exact Nat.one_pos) (c_X0_isLeaf l D dA base n ad I J R hT k hk) dX3_changed_11 rfl rfl (Nat.le_of_ble_eq_true rfl) ⟨by decide, by decide⟩ ⟨by decide, by decide⟩ ?_
  refine x_if_ne C 28 dX3_changed_14 (by decide) (fun h14 => ?_) (fun h14 => ?_)
  · skip
    refine x_aload_n C dX3_changed_28 rfl ?_
    refine x_getI C f_X3_45 rfl (by first | assumption | exact Nat.one_pos) dX3_changed_29 ?_
    exact x_iret C (po_r (by simp_all)) dX3_changed_32
  · skip
    refine x_aload_n C dX3_changed_17 rfl ?_
    refine x_getI C f_X3_139 rfl (by first | assumption | exact Nat.one_pos) dX3_changed_18 ?_
    refine x_if_ne C 28 dX3_changed_21 (by decide) (fun h21 => ?_) (fun h21 => ?_)
    · skip
      refine x_aload_n C dX3_changed_28 rfl ?_
      refine x_getI C f_X3_45 rfl (by first | assumption | exact Nat.one_pos) dX3_changed_29 ?_
      exact x_iret C (po_r (by simp_all)) dX3_changed_32
    · skip
      refine x_iconst C (-1) (by decide) dX3_changed_24 ?_
      refine x_goto C 32 dX3_changed_25 (by decide) ?_
      exact x_iret C (po_r (by simp_all)) dX3_changed_32

set_option maxRecDepth 100000 in
set_option maxHeartbeats 4000000 in
theorem c_X3_changed_out (l : Launch) (D : va_G) (dA : Nat → ClassId) (base n : Nat) (ad : Fa) (I : Fi) (J : Fj) (R : Fr) (hT : ST n R) (hG : KG n I R) (x : Int32) (hx : x < 0 ∨ nI n ≤ x)  : CT l D dA base yX3_changed cX3_changed 3 (some .int) 1 0 0 [.ref (ad 0 0), .int x] ad (Nn n) I J R (po (some (.int (-1))) ad (Nn n) I J R) := by
  refine CT.of 1 (L0 := [some (.ref (ad 0 0)), some (.int x), none]) (by decide +kernel) rfl (Nat.le_of_ble_eq_true rfl) ?_
  intro p e s m args below meth c C
  refine x_aload_n C dX3_changed_0 rfl ?_
  refine x_iload_n C dX3_changed_1 rfl ?_
  refine x_cV1 C yo_X3_keyAt m_X3_56 rfl rfl (by first | assumption | exact Nat.one_pos) (c_X3_keyAt_out l D dA base n ad I J R hT hG x hx) dX3_changed_2 rfl rfl (Nat.le_of_ble_eq_true rfl) ⟨by decide, by decide⟩ ⟨by decide, by decide⟩ ?_
  refine x_astore_nN C dX3_changed_5 (by decide) rfl rfl ?_
  refine x_aload_nN C dX3_changed_6 rfl ?_
  refine x_ifnullN C 24 dX3_changed_7 (by decide) ?_
  refine x_iconst C (-1) (by decide) dX3_changed_24 ?_
  refine x_goto C 32 dX3_changed_25 (by decide) ?_
  exact x_iret C (po_i _ _ _ _ _ _) dX3_changed_32

set_option maxRecDepth 100000 in
set_option maxHeartbeats 4000000 in
theorem c_X3_asked_in (l : Launch) (D : va_G) (dA : Nat → ClassId) (base n : Nat) (ad : Fa) (I : Fi) (J : Fj) (R : Fr) (hT : ST n R) (hG : KG n I R) (k : Nat) (hk : k < n) (j a : Nat) (ha : I 4 k 13 = nI a) (ha8 : a ≤ 8) (hj : j < a) (hq : ¬ I 4 k 10 = 0) : CT l D dA base yX3_asked cX3_asked 4 (some .int) 1 0 0 [.ref (ad 0 0), .int (nI k), .int (nI j)] ad (Nn n) I J R (po (some (.int (I 6 k j))) ad (Nn n) I J R) := by
  refine CT.of 1 (L0 := [some (.ref (ad 0 0)), some (.int (nI k)), some (.int (nI j)), none]) (by decide +kernel) rfl (Nat.le_of_ble_eq_true rfl) ?_
  intro p e s m args below meth c C
  refine x_aload_n C dX3_asked_0 rfl ?_
  refine x_iload_n C dX3_asked_1 rfl ?_
  refine x_cV1 C yo_X3_keyAt m_X3_56 rfl rfl (by first | assumption | exact Nat.one_pos) (c_X3_keyAt_in l D dA base n ad I J R hT hG k hk) dX3_asked_2 rfl rfl (Nat.le_of_ble_eq_true rfl) ⟨by decide, by decide⟩ ⟨by decide, by decide⟩ ?_
  refine x_astore_n C dX3_asked_5 (by decide) rfl rfl ?_
  refine x_aload_n C dX3_asked_6 rfl ?_
  refine x_ifnull C dX3_asked_7 ?_
  refine x_aload_n C dX3_asked_10 rfl ?_
  refine x_getI C f_X3_139 rfl (by first | assumption | exact Nat.one_pos) dX3_asked_11 ?_
  refine x_if_ne C 21 dX3_asked_14 (by decide) (fun h14 => ?_) (fun h14 => ?_)
  · skip
    refine x_aload_n C dX3_asked_21 rfl ?_
    refine x_iload_n C dX3_asked_22 rfl ?_
    refine x_cV1 C yo_X0_askedPlace m_X3_142 rfl rfl (by first | assumption | exact Nat.one_pos) (c_X0_askedPlace_in l D dA base n ad I J R hT k j a hk ha hj ha8) dX3_asked_23 rfl rfl (Nat.le_of_ble_eq_true rfl) ⟨by decide, by decide⟩ ⟨by decide, by decide⟩ ?_
    exact x_iret C (po_i _ _ _ _ _ _) dX3_asked_26
  · skip
    exact absurd h14 hq

set_option maxRecDepth 100000 in
set_option maxHeartbeats 4000000 in
theorem c_X3_asked_far (l : Launch) (D : va_G) (dA : Nat → ClassId) (base n : Nat) (ad : Fa) (I : Fi) (J : Fj) (R : Fr) (hT : ST n R) (hG : KG n I R) (k : Nat) (hk : k < n) (y : Int32) (a : Nat) (ha : I 4 k 13 = nI a) (hy : y < 0 ∨ nI a ≤ y) (hq : ¬ I 4 k 10 = 0) : CT l D dA base yX3_asked cX3_asked 4 (some .int) 1 0 0 [.ref (ad 0 0), .int (nI k), .int y] ad (Nn n) I J R (po (some (.int (-1))) ad (Nn n) I J R) := by
  refine CT.of 1 (L0 := [some (.ref (ad 0 0)), some (.int (nI k)), some (.int y), none]) (by decide +kernel) rfl (Nat.le_of_ble_eq_true rfl) ?_
  intro p e s m args below meth c C
  refine x_aload_n C dX3_asked_0 rfl ?_
  refine x_iload_n C dX3_asked_1 rfl ?_
  refine x_cV1 C yo_X3_keyAt m_X3_56 rfl rfl (by first | assumption | exact Nat.one_pos) (c_X3_keyAt_in l D dA base n ad I J R hT hG k hk) dX3_asked_2 rfl rfl (Nat.le_of_ble_eq_true rfl) ⟨by decide, by decide⟩ ⟨by decide, by decide⟩ ?_
  refine x_astore_n C dX3_asked_5 (by decide) rfl rfl ?_
  refine x_aload_n C dX3_asked_6 rfl ?_
  refine x_ifnull C dX3_asked_7 ?_
  refine x_aload_n C dX3_asked_10 rfl ?_
  refine x_getI C f_X3_139 rfl (by first | assumption | exact Nat.one_pos) dX3_asked_11 ?_
  refine x_if_ne C 21 dX3_asked_14 (by decide) (fun h14 => ?_) (fun h14 => ?_)
  · skip
    refine x_aload_n C dX3_asked_21 rfl ?_
    refine x_iload_n C dX3_asked_22 rfl ?_
    refine x_cV1 C yo_X0_askedPlace m_X3_142 rfl rfl (by first | assumption | exact Nat.one_pos) (c_X0_askedPlace_out l D dA base n ad I J R hT k a y hk ha hy) dX3_asked_23 rfl rfl (Nat.le_of_ble_eq_true rfl) ⟨by decide, by decide⟩ ⟨by decide, by decide⟩ ?_
    exact x_iret C (po_i _ _ _ _ _ _) dX3_asked_26
  · skip
    exact absurd h14 hq

set_option maxRecDepth 100000 in
set_option maxHeartbeats 4000000 in
theorem c_X3_asked_not (l : Launch) (D : va_G) (dA : Nat → ClassId) (base n : Nat) (ad : Fa) (I : Fi) (J : Fj) (R : Fr) (hT : ST n R) (hG : KG n I R) (k : Nat) (hk : k < n) (y : Int32) (hq : I 4 k 10 = 0) : CT l D dA base yX3_asked cX3_asked 4 (some .int) 1 0 0 [.ref (ad 0 0), .int (nI k), .int y] ad (Nn n) I J R (po (some (.int (-1))) ad (Nn n) I J R) := by
  refine CT.of 1 (L0 := [some (.ref (ad 0 0)), some (.int (nI k)), some (.int y), none]) (by decide +kernel) rfl (Nat.le_of_ble_eq_true rfl) ?_
  intro p e s m args below meth c C
  refine x_aload_n C dX3_asked_0 rfl ?_
  refine x_iload_n C dX3_asked_1 rfl ?_
  refine x_cV1 C yo_X3_keyAt m_X3_56 rfl rfl (by first | assumption | exact Nat.one_pos) (c_X3_keyAt_in l D dA base n ad I J R hT hG k hk) dX3_asked_2 rfl rfl (Nat.le_of_ble_eq_true rfl) ⟨by decide, by decide⟩ ⟨by decide, by decide⟩ ?_
  refine x_astore_n C dX3_asked_5 (by decide) rfl rfl ?_
  refine x_aload_n C dX3_asked_6 rfl ?_
  refine x_ifnull C dX3_asked_7 ?_
  refine x_aload_n C dX3_asked_10 rfl ?_
  refine x_getI C f_X3_139 rfl (by first | assumption | exact Nat.one_pos) dX3_asked_11 ?_
  refine x_if_ne C 21 dX3_asked_14 (by decide) (fun h14 => ?_) (fun h14 => ?_)
  · skip
    exact absurd hq h14
  · skip
    refine x_iconst C (-1) (by decide) dX3_asked_17 ?_
    refine x_goto C 26 dX3_asked_18 (by decide) ?_
    exact x_iret C (po_i _ _ _ _ _ _) dX3_asked_26

set_option maxRecDepth 100000 in
set_option maxHeartbeats 4000000 in
theorem c_X3_asked_out (l : Launch) (D : va_G) (dA : Nat → ClassId) (base n : Nat) (ad : Fa) (I : Fi) (J : Fj) (R : Fr) (hT : ST n R) (hG : KG n I R) (x : Int32) (hx : x < 0 ∨ nI n ≤ x) (y : Int32) : CT l D dA base yX3_asked cX3_asked 4 (some .int) 1 0 0 [.ref (ad 0 0), .int x, .int y] ad (Nn n) I J R (po (some (.int (-1))) ad (Nn n) I J R) := by
  refine CT.of 1 (L0 := [some (.ref (ad 0 0)), some (.int x), some (.int y), none]) (by decide +kernel) rfl (Nat.le_of_ble_eq_true rfl) ?_
  intro p e s m args below meth c C
  refine x_aload_n C dX3_asked_0 rfl ?_
  refine x_iload_n C dX3_asked_1 rfl ?_
  refine x_cV1 C yo_X3_keyAt m_X3_56 rfl rfl (by first | assumption | exact Nat.one_pos) (c_X3_keyAt_out l D dA base n ad I J R hT hG x hx) dX3_asked_2 rfl rfl (Nat.le_of_ble_eq_true rfl) ⟨by decide, by decide⟩ ⟨by decide, by decide⟩ ?_
  refine x_astore_nN C dX3_asked_5 (by decide) rfl rfl ?_
  refine x_aload_nN C dX3_asked_6 rfl ?_
  refine x_ifnullN C 17 dX3_asked_7 (by decide) ?_
  refine x_iconst C (-1) (by decide) dX3_asked_17 ?_
  refine x_goto C 26 dX3_asked_18 (by decide) ?_
  exact x_iret C (po_i _ _ _ _ _ _) dX3_asked_26

set_option maxRecDepth 100000 in
set_option maxHeartbeats 4000000 in
theorem c_X3_drop_yes (l : Launch) (D : va_G) (dA : Nat → ClassId) (base n : Nat) (ad : Fa) (I : Fi) (J : Fj) (R : Fr) (hT : ST n R) (hG : KG n I R) (k : Nat) (hk : k < n) (zs : Nat → Nat) (hP : PL n I R zs) (hq : ¬ I 4 k 10 = 0) : CT l D dA base yX3_drop cX3_drop 3 (some .boolean) 4 0 0 [.ref (ad 0 0), .int (nI k)] ad (Nn n) I J R (po (some (.int 1)) ad (Nn n) (epS R zs (up3 I 4 k 10 0) 5) J R) := by
  refine CT.of 1 (L0 := [some (.ref (ad 0 0)), some (.int (nI k)), none]) (by decide +kernel) rfl (Nat.le_of_ble_eq_true rfl) ?_
  intro p e s m args below meth c C
  refine x_aload_n C dX3_drop_0 rfl ?_
  refine x_iload_n C dX3_drop_1 rfl ?_
  refine x_cV1 C yo_X3_keyAt m_X3_56 rfl rfl (by first | assumption | exact Nat.one_pos) (c_X3_keyAt_in l D dA base n ad I J R hT hG k hk) dX3_drop_2 rfl rfl (Nat.le_of_ble_eq_true rfl) ⟨by decide, by decide⟩ ⟨by decide, by decide⟩ ?_
  refine x_astore_n C dX3_drop_5 (by decide) rfl rfl ?_
  refine x_aload_n C dX3_drop_6 rfl ?_
  refine x_ifnull C dX3_drop_7 ?_
  refine x_aload_n C dX3_drop_10 rfl ?_
  refine x_getI C f_X3_139 rfl (by first | assumption | exact Nat.one_pos) dX3_drop_11 ?_
  refine x_if_ne C 19 dX3_drop_14 (by decide) (fun h14 => ?_) (fun h14 => ?_)
  · skip
    refine x_aload_n C dX3_drop_19 rfl ?_
    refine x_iconst C 0 (by decide) dX3_drop_20 ?_
    refine x_putZ C g_X3_139 rfl (by first | assumption | exact Nat.one_pos) (by first | exact Or.inl rfl | exact Or.inr rfl | assumption) dX3_drop_21 ?_
    refine x_aload_n C dX3_drop_24 rfl ?_
    refine x_cV1 C yo_X3_emptyPiles m_X3_114 rfl rfl (by first | assumption | exact Nat.one_pos) (c_X3_emptyPiles l D dA base n ad (up3 I 4 k 10 0) J R hT (hG.up (by decide) (by decide)) zs (hP.up (by decide))) dX3_drop_25 rfl rfl (Nat.le_of_ble_eq_true rfl) ⟨by decide, by decide⟩ ⟨by decide, by decide⟩ ?_
    refine x_pop C rfl dX3_drop_28 ?_
    refine x_iconst C 1 (by decide) dX3_drop_29 ?_
    exact x_zret C (by first | exact Or.inl rfl | exact Or.inr rfl | assumption) (po_i _ _ _ _ _ _) dX3_drop_30
  · skip
    exact absurd h14 hq

set_option maxRecDepth 100000 in
set_option maxHeartbeats 4000000 in
theorem c_X3_drop_no (l : Launch) (D : va_G) (dA : Nat → ClassId) (base n : Nat) (ad : Fa) (I : Fi) (J : Fj) (R : Fr) (hT : ST n R) (hG : KG n I R) (k : Nat) (hk : k < n) (hq : I 4 k 10 = 0) : CT l D dA base yX3_drop cX3_drop 3 (some .boolean) 4 0 0 [.ref (ad 0 0), .int (nI k)] ad (Nn n) I J R (po (some (.int 0)) ad (Nn n) I J R) := by
  refine CT.of 1 (L0 := [some (.ref (ad 0 0)), some (.int (nI k)), none]) (by decide +kernel) rfl (Nat.le_of_ble_eq_true rfl) ?_
  intro p e s m args below meth c C
  refine x_aload_n C dX3_drop_0 rfl ?_
  refine x_iload_n C dX3_drop_1 rfl ?_
  refine x_cV1 C yo_X3_keyAt m_X3_56 rfl rfl (by first | assumption | exact Nat.one_pos) (c_X3_keyAt_in l D dA base n ad I J R hT hG k hk) dX3_drop_2 rfl rfl (Nat.le_of_ble_eq_true rfl) ⟨by decide, by decide⟩ ⟨by decide, by decide⟩ ?_
  refine x_astore_n C dX3_drop_5 (by decide) rfl rfl ?_
  refine x_aload_n C dX3_drop_6 rfl ?_
  refine x_ifnull C dX3_drop_7 ?_
  refine x_aload_n C dX3_drop_10 rfl ?_
  refine x_getI C f_X3_139 rfl (by first | assumption | exact Nat.one_pos) dX3_drop_11 ?_
  refine x_if_ne C 19 dX3_drop_14 (by decide) (fun h14 => ?_) (fun h14 => ?_)
  · skip
    exact absurd hq h14
  · skip
    refine x_iconst C 0 (by decide) dX3_drop_17 ?_
    exact x_zret C (by first | exact Or.inl rfl | exact Or.inr rfl | assumption) (po_i _ _ _ _ _ _) dX3_drop_18

set_option maxRecDepth 100000 in
set_option maxHeartbeats 4000000 in
theorem c_X3_drop_out (l : Launch) (D : va_G) (dA : Nat → ClassId) (base n : Nat) (ad : Fa) (I : Fi) (J : Fj) (R : Fr) (hT : ST n R) (hG : KG n I R) (x : Int32) (hx : x < 0 ∨ nI n ≤ x)  : CT l D dA base yX3_drop cX3_drop 3 (some .boolean) 4 0 0 [.ref (ad 0 0), .int x] ad (Nn n) I J R (po (some (.int 0)) ad (Nn n) I J R) := by
  refine CT.of 1 (L0 := [some (.ref (ad 0 0)), some (.int x), none]) (by decide +kernel) rfl (Nat.le_of_ble_eq_true rfl) ?_
  intro p e s m args below meth c C
  refine x_aload_n C dX3_drop_0 rfl ?_
  refine x_iload_n C dX3_drop_1 rfl ?_
  refine x_cV1 C yo_X3_keyAt m_X3_56 rfl rfl (by first | assumption | exact Nat.one_pos) (c_X3_keyAt_out l D dA base n ad I J R hT hG x hx) dX3_drop_2 rfl rfl (Nat.le_of_ble_eq_true rfl) ⟨by decide, by decide⟩ ⟨by decide, by decide⟩ ?_
  refine x_astore_nN C dX3_drop_5 (by decide) rfl rfl ?_
  refine x_aload_nN C dX3_drop_6 rfl ?_
  refine x_ifnullN C 17 dX3_drop_7 (by decide) ?_
  refine x_iconst C 0 (by decide) dX3_drop_17 ?_
  exact x_zret C (by first | exact Or.inl rfl | exact Or.inr rfl | assumption) (po_i _ _ _ _ _ _) dX3_drop_18

set_option maxRecDepth 100000 in
set_option maxHeartbeats 4000000 in
theorem c_X3_cancel (l : Launch) (D : va_G) (dA : Nat → ClassId) (base n : Nat) (ad : Fa) (I : Fi) (J : Fj) (R : Fr) (hT : ST n R) (hG : KG n I R) (zs : Nat → Nat) (hP : PL n I R zs)  : CT l D dA base yX3_cancel cX3_cancel 1 (some .int) 4 0 0 [.ref (ad 0 0)] ad (Nn n) I J R (po (some (.int (nI (esum zs 5)))) ad (Nn n) (epS R zs I 5) J R) := by
  refine CT.of 0 (L0 := [some (.ref (ad 0 0))]) (by decide +kernel) rfl (Nat.le_of_ble_eq_true rfl) ?_
  intro p e s m args below meth c C
  refine x_aload_n C dX3_cancel_0 rfl ?_
  refine x_cV1 C yo_X3_emptyPiles m_X3_114 rfl rfl (by first | assumption | exact Nat.one_pos) (c_X3_emptyPiles l D dA base n ad I J R hT hG zs hP) dX3_cancel_1 rfl rfl (Nat.le_of_ble_eq_true rfl) ⟨by decide, by decide⟩ ⟨by decide, by decide⟩ ?_
  exact x_iret C (po_i _ _ _ _ _ _) dX3_cancel_4

set_option maxRecDepth 100000 in
set_option maxHeartbeats 4000000 in
theorem c_X3_ring_in (l : Launch) (D : va_G) (dA : Nat → ClassId) (base n : Nat) (ad : Fa) (I : Fi) (J : Fj) (R : Fr) (hT : ST n R) (k z : Nat) (hz : I 0 0 5 = nI z) (hz40 : z ≤ 40) (hk : k < z) : CT l D dA base yX3_ring cX3_ring 2 (some .int) 0 0 0 [.ref (ad 0 0), .int (nI k)] ad (Nn n) I J R (po (some (.int (I 3 0 k))) ad (Nn n) I J R) := by
  refine CT.of 0 (L0 := [some (.ref (ad 0 0)), some (.int (nI k))]) (by decide +kernel) rfl (Nat.le_of_ble_eq_true rfl) ?_
  intro p e s m args below meth c C
  refine x_iload_n C dX3_ring_0 rfl ?_
  refine x_if_lt C 12 dX3_ring_1 (by decide) (fun h1 => ?_) (fun h1 => ?_)
  · skip
    exact absurd h1 (nI_pos (by omega))
  · skip
    refine x_iload_n C dX3_ring_4 rfl ?_
    refine x_aload_n C dX3_ring_5 rfl ?_
    refine x_getI C f_X3_82 rfl (by first | assumption | exact Nat.one_pos) dX3_ring_6 ?_
    refine x_icmp_lt C 16 dX3_ring_9 (by decide) (fun h9 => ?_) (fun h9 => ?_)
    · skip
      refine x_aload_n C dX3_ring_16 rfl ?_
      refine x_getF C hT f_X3_22 rfl rfl (by first | assumption | exact Nat.one_pos) dX3_ring_17 ?_
      refine x_iload_n C dX3_ring_20 rfl ?_
      refine x_ialdN C (k) rfl rfl rfl (by first | assumption | exact Nat.one_pos) (by omega) (by decide) dX3_ring_21 ?_
      exact x_iret C (po_i _ _ _ _ _ _) dX3_ring_22
    · skip
      rw [hz] at h9
      exact absurd (nI_lt hk (by omega)) h9

set_option maxRecDepth 100000 in
set_option maxHeartbeats 4000000 in
theorem c_X3_ring_out (l : Launch) (D : va_G) (dA : Nat → ClassId) (base n : Nat) (ad : Fa) (I : Fi) (J : Fj) (R : Fr) (hT : ST n R) (x : Int32) (z : Nat) (hz : I 0 0 5 = nI z) (hx : x < 0 ∨ nI z ≤ x) : CT l D dA base yX3_ring cX3_ring 2 (some .int) 0 0 0 [.ref (ad 0 0), .int x] ad (Nn n) I J R (po (some (.int (-1))) ad (Nn n) I J R) := by
  refine CT.of 0 (L0 := [some (.ref (ad 0 0)), some (.int x)]) (by decide +kernel) rfl (Nat.le_of_ble_eq_true rfl) ?_
  intro p e s m args below meth c C
  refine x_iload_n C dX3_ring_0 rfl ?_
  refine x_if_lt C 12 dX3_ring_1 (by decide) (fun h1 => ?_) (fun h1 => ?_)
  · skip
    refine x_iconst C (-1) (by decide) dX3_ring_12 ?_
    refine x_goto C 22 dX3_ring_13 (by decide) ?_
    exact x_iret C (po_i _ _ _ _ _ _) dX3_ring_22
  · skip
    refine x_iload_n C dX3_ring_4 rfl ?_
    refine x_aload_n C dX3_ring_5 rfl ?_
    refine x_getI C f_X3_82 rfl (by first | assumption | exact Nat.one_pos) dX3_ring_6 ?_
    refine x_icmp_lt C 16 dX3_ring_9 (by decide) (fun h9 => ?_) (fun h9 => ?_)
    · skip
      rw [hz] at h9
      exact absurd h9 (hx.elim (fun q => absurd q h1) (fun q => Int32.not_lt.mpr q))
    · skip
      refine x_iconst C (-1) (by decide) dX3_ring_12 ?_
      refine x_goto C 22 dX3_ring_13 (by decide) ?_
      exact x_iret C (po_i _ _ _ _ _ _) dX3_ring_22

set_option maxRecDepth 100000 in
set_option maxHeartbeats 4000000 in
theorem c_X3_change_out (l : Launch) (D : va_G) (dA : Nat → ClassId) (base n : Nat) (ad : Fa) (I : Fi) (J : Fj) (R : Fr) (hT : ST n R) (hG : KG n I R) (x : Int32) (hx : x < 0 ∨ nI n ≤ x) (v : Int64)  : CT l D dA base yX3_change cX3_change 5 (some .int) 5 0 0 [.ref (ad 0 0), .int x, .long v] ad (Nn n) I J R (po (some (.int (-1))) ad (Nn n) I J R) := by
  refine CT.of 1 (L0 := [some (.ref (ad 0 0)), some (.int x), some (.long v), none, none]) (by decide +kernel) rfl (Nat.le_of_ble_eq_true rfl) ?_
  intro p e s m args below meth c C
  refine x_aload_n C dX3_change_0 rfl ?_
  refine x_iload_n C dX3_change_1 rfl ?_
  refine x_cV1 C yo_X3_keyAt m_X3_56 rfl rfl (by first | assumption | exact Nat.one_pos) (c_X3_keyAt_out l D dA base n ad I J R hT hG x hx) dX3_change_2 rfl rfl (Nat.le_of_ble_eq_true rfl) ⟨by decide, by decide⟩ ⟨by decide, by decide⟩ ?_
  refine x_astoreN C dX3_change_5 (by decide) rfl rfl ?_
  refine x_aloadN C dX3_change_7 rfl ?_
  refine x_ifnullN C 20 dX3_change_9 (by decide) ?_
  refine x_iconst C (-1) (by decide) dX3_change_20 ?_
  exact x_iret C (po_i _ _ _ _ _ _) dX3_change_21

set_option maxRecDepth 100000 in
set_option maxHeartbeats 4000000 in
theorem c_X3_change_no (l : Launch) (D : va_G) (dA : Nat → ClassId) (base n : Nat) (ad : Fa) (I : Fi) (J : Fj) (R : Fr) (hT : ST n R) (hG : KG n I R) (k : Nat) (hk : k < n) (v : Int64) (hf : ¬ I 4 k 1 = -1) : CT l D dA base yX3_change cX3_change 5 (some .int) 5 0 0 [.ref (ad 0 0), .int (nI k), .long v] ad (Nn n) I J R (po (some (.int (-1))) ad (Nn n) I J R) := by
  refine CT.of 1 (L0 := [some (.ref (ad 0 0)), some (.int (nI k)), some (.long v), none, none]) (by decide +kernel) rfl (Nat.le_of_ble_eq_true rfl) ?_
  intro p e s m args below meth c C
  refine x_aload_n C dX3_change_0 rfl ?_
  refine x_iload_n C dX3_change_1 rfl ?_
  refine x_cV1 C yo_X3_keyAt m_X3_56 rfl rfl (by first | assumption | exact Nat.one_pos) (c_X3_keyAt_in l D dA base n ad I J R hT hG k hk) dX3_change_2 rfl rfl (Nat.le_of_ble_eq_true rfl) ⟨by decide, by decide⟩ ⟨by decide, by decide⟩ ?_
  refine x_astore C dX3_change_5 (by decide) rfl rfl ?_
  refine x_aload C dX3_change_7 rfl ?_
  refine x_ifnull C dX3_change_9 ?_
  refine x_aload C dX3_change_12 rfl ?_
  refine x_cV1 C yo_X0_isLeaf m_X3_85 rfl rfl (by first | assumption | exact Nat.one_pos) (c_X0_isLeaf l D dA base n ad I J R hT k hk) dX3_change_14 rfl rfl (Nat.le_of_ble_eq_true rfl) ⟨by decide, by decide⟩ ⟨by decide, by decide⟩ ?_
  refine x_if_ne C 22 dX3_change_17 (by decide) (fun h17 => ?_) (fun h17 => ?_)
  · skip
    rw [if_neg hf] at h17
    exact absurd rfl h17
  · skip
    refine x_iconst C (-1) (by decide) dX3_change_20 ?_
    exact x_iret C (po_i _ _ _ _ _ _) dX3_change_21

set_option maxRecDepth 100000 in
set_option maxHeartbeats 4000000 in
theorem c_X3_change_same (l : Launch) (D : va_G) (dA : Nat → ClassId) (base n : Nat) (ad : Fa) (I : Fi) (J : Fj) (R : Fr) (hT : ST n R) (hG : KG n I R) (k : Nat) (hk : k < n) (v : Int64) (hf : I 4 k 1 = -1) (hv : J 4 k 8 = v) : CT l D dA base yX3_change cX3_change 5 (some .int) 5 0 0 [.ref (ad 0 0), .int (nI k), .long v] ad (Nn n) I J R (po (some (.int (I 0 0 2))) ad (Nn n) I J R) := by
  refine CT.of 1 (L0 := [some (.ref (ad 0 0)), some (.int (nI k)), some (.long v), none, none]) (by decide +kernel) rfl (Nat.le_of_ble_eq_true rfl) ?_
  intro p e s m args below meth c C
  refine x_aload_n C dX3_change_0 rfl ?_
  refine x_iload_n C dX3_change_1 rfl ?_
  refine x_cV1 C yo_X3_keyAt m_X3_56 rfl rfl (by first | assumption | exact Nat.one_pos) (c_X3_keyAt_in l D dA base n ad I J R hT hG k hk) dX3_change_2 rfl rfl (Nat.le_of_ble_eq_true rfl) ⟨by decide, by decide⟩ ⟨by decide, by decide⟩ ?_
  refine x_astore C dX3_change_5 (by decide) rfl rfl ?_
  refine x_aload C dX3_change_7 rfl ?_
  refine x_ifnull C dX3_change_9 ?_
  refine x_aload C dX3_change_12 rfl ?_
  refine x_cV1 C yo_X0_isLeaf m_X3_85 rfl rfl (by first | assumption | exact Nat.one_pos) (c_X0_isLeaf l D dA base n ad I J R hT k hk) dX3_change_14 rfl rfl (Nat.le_of_ble_eq_true rfl) ⟨by decide, by decide⟩ ⟨by decide, by decide⟩ ?_
  refine x_if_ne C 22 dX3_change_17 (by decide) (fun h17 => ?_) (fun h17 => ?_)
  · skip
    refine x_aload C dX3_change_22 rfl ?_
    refine x_getJ C f_X3_38 rfl (by first | assumption | exact Nat.one_pos) dX3_change_24 ?_
    refine x_lload_n C dX3_change_27 rfl ?_
    refine x_lcmp C dX3_change_28 ?_
    refine x_if_eq C 51 dX3_change_29 (by decide) (fun h29 => ?_) (fun h29 => ?_)
    · skip
      refine x_aload_n C dX3_change_51 rfl ?_
      refine x_getI C f_X3_42 rfl (by first | assumption | exact Nat.one_pos) dX3_change_52 ?_
      exact x_iret C (po_i _ _ _ _ _ _) dX3_change_55
    · skip
      rw [lg_cmp_eq] at h29
      exact absurd hv h29
  · skip
    rw [if_pos hf] at h17
    exact absurd h17 (by decide)

theorem epS_o (R : Fr) (zs : Nat → Nat) (I : Fi) {c b d : Nat} (h1 : ¬ (c = 4 ∧ d = 16)) (h2 : ¬ (c = 9 ∧ d = 1)) : ∀ (t : Nat), epS R zs I t c b d = I c b d
  | 0 => rfl
  | t + 1 => by rw [epS, tka_o _ _ _ _ _ _ _ h1 (fun z => h2 ⟨z.1, z.2.2⟩), epS_o R zs I h1 h2 t]
theorem nvI_v (R : Fr) (zs : Nat → Nat) (I : Fi) : nvI R zs I 0 0 2 = I 0 0 2 + 1 := by rw [nvI, epS_o _ _ _ (by decide) (by decide), up3_s]
set_option maxRecDepth 100000 in
set_option maxHeartbeats 4000000 in
theorem c_X3_change_yes (l : Launch) (D : va_G) (dA : Nat → ClassId) (base n : Nat) (ad : Fa) (I : Fi) (J : Fj) (R : Fr) (hT : ST n R) (hG : KG n I R) (k : Nat) (hk : k < n) (v : Int64) (zs : Nat → Nat) (hP : PL n I R zs) (hf : I 4 k 1 = -1) (hv : ¬ J 4 k 8 = v) : CT l D dA base yX3_change cX3_change 5 (some .int) 5 0 0 [.ref (ad 0 0), .int (nI k), .long v] ad (Nn n) I J R (po (some (.int (I 0 0 2 + 1))) ad (Nn n) (up3 (nvI R zs I) 4 k 9 (I 0 0 2 + 1)) (up3 J 4 k 8 v) R) := by
  refine CT.of 1 (L0 := [some (.ref (ad 0 0)), some (.int (nI k)), some (.long v), none, none]) (by decide +kernel) rfl (Nat.le_of_ble_eq_true rfl) ?_
  intro p e s m args below meth c C
  refine x_aload_n C dX3_change_0 rfl ?_
  refine x_iload_n C dX3_change_1 rfl ?_
  refine x_cV1 C yo_X3_keyAt m_X3_56 rfl rfl (by first | assumption | exact Nat.one_pos) (c_X3_keyAt_in l D dA base n ad I J R hT hG k hk) dX3_change_2 rfl rfl (Nat.le_of_ble_eq_true rfl) ⟨by decide, by decide⟩ ⟨by decide, by decide⟩ ?_
  refine x_astore C dX3_change_5 (by decide) rfl rfl ?_
  refine x_aload C dX3_change_7 rfl ?_
  refine x_ifnull C dX3_change_9 ?_
  refine x_aload C dX3_change_12 rfl ?_
  refine x_cV1 C yo_X0_isLeaf m_X3_85 rfl rfl (by first | assumption | exact Nat.one_pos) (c_X0_isLeaf l D dA base n ad I J R hT k hk) dX3_change_14 rfl rfl (Nat.le_of_ble_eq_true rfl) ⟨by decide, by decide⟩ ⟨by decide, by decide⟩ ?_
  refine x_if_ne C 22 dX3_change_17 (by decide) (fun h17 => ?_) (fun h17 => ?_)
  · skip
    refine x_aload C dX3_change_22 rfl ?_
    refine x_getJ C f_X3_38 rfl (by first | assumption | exact Nat.one_pos) dX3_change_24 ?_
    refine x_lload_n C dX3_change_27 rfl ?_
    refine x_lcmp C dX3_change_28 ?_
    refine x_if_eq C 51 dX3_change_29 (by decide) (fun h29 => ?_) (fun h29 => ?_)
    · skip
      rw [lg_cmp_eq] at h29
      exact absurd h29 hv
    · skip
      refine x_aload_n C dX3_change_32 rfl ?_
      refine x_cV0 C yo_X3_goToNextVersion m_X3_76 rfl rfl (by first | assumption | exact Nat.one_pos) (c_X3_goToNextVersion l D dA base n ad I J R hT hG zs hP) dX3_change_33 rfl rfl (Nat.le_of_ble_eq_true rfl) ⟨by decide, by decide⟩ ⟨by decide, by decide⟩ ?_
      refine x_aload C dX3_change_36 rfl ?_
      refine x_lload_n C dX3_change_38 rfl ?_
      refine x_putJ C g_X3_38 rfl (by first | assumption | exact Nat.one_pos) dX3_change_39 ?_
      refine x_aload C dX3_change_42 rfl ?_
      refine x_aload_n C dX3_change_44 rfl ?_
      refine x_getI C f_X3_42 rfl (by first | assumption | exact Nat.one_pos) dX3_change_45 ?_
      refine x_putI C g_X3_45 rfl (by first | assumption | exact Nat.one_pos) dX3_change_48 ?_
      refine x_aload_n C dX3_change_51 rfl ?_
      refine x_getI C f_X3_42 rfl (by first | assumption | exact Nat.one_pos) dX3_change_52 ?_
      exact x_iret C (⟨by rw [up3_c _ _ _ _ _ (by decide), nvI_v], rfl, rfl, by rw [nvI_v], rfl, rfl⟩) dX3_change_55
  · skip
    rw [if_pos hf] at h17
    exact absurd h17 (by decide)

set_option maxRecDepth 100000 in
set_option maxHeartbeats 4000000 in
theorem c_X3_spoil_out (l : Launch) (D : va_G) (dA : Nat → ClassId) (base n : Nat) (ad : Fa) (I : Fi) (J : Fj) (R : Fr) (hT : ST n R) (hG : KG n I R) (x : Int32) (hx : x < 0 ∨ nI n ≤ x) (b : Int32) (hb : b = 0 ∨ b = 1)  : CT l D dA base yX3_spoil cX3_spoil 4 (some .int) 5 0 0 [.ref (ad 0 0), .int x, .int b] ad (Nn n) I J R (po (some (.int (-1))) ad (Nn n) I J R) := by
  refine CT.of 1 (L0 := [some (.ref (ad 0 0)), some (.int x), some (.int b), none]) (by decide +kernel) rfl (Nat.le_of_ble_eq_true rfl) ?_
  intro p e s m args below meth c C
  refine x_aload_n C dX3_spoil_0 rfl ?_
  refine x_iload_n C dX3_spoil_1 rfl ?_
  refine x_cV1 C yo_X3_keyWithFunction m_X3_52 rfl rfl (by first | assumption | exact Nat.one_pos) (c_X3_kwf_out l D dA base n ad I J R hT hG x hx) dX3_spoil_2 rfl rfl (Nat.le_of_ble_eq_true rfl) ⟨by decide, by decide⟩ ⟨by decide, by decide⟩ ?_
  refine x_astore_nN C dX3_spoil_5 (by decide) rfl rfl ?_
  refine x_aload_nN C dX3_spoil_6 rfl ?_
  refine x_ifnonnullN C dX3_spoil_7 ?_
  refine x_iconst C (-1) (by decide) dX3_spoil_10 ?_
  exact x_iret C (po_i _ _ _ _ _ _) dX3_spoil_11

set_option maxRecDepth 100000 in
set_option maxHeartbeats 4000000 in
theorem c_X3_spoil_leaf (l : Launch) (D : va_G) (dA : Nat → ClassId) (base n : Nat) (ad : Fa) (I : Fi) (J : Fj) (R : Fr) (hT : ST n R) (hG : KG n I R) (k : Nat) (hk : k < n) (b : Int32) (hb : b = 0 ∨ b = 1) (hf : I 4 k 1 = -1) : CT l D dA base yX3_spoil cX3_spoil 4 (some .int) 5 0 0 [.ref (ad 0 0), .int (nI k), .int b] ad (Nn n) I J R (po (some (.int (-1))) ad (Nn n) I J R) := by
  refine CT.of 1 (L0 := [some (.ref (ad 0 0)), some (.int (nI k)), some (.int b), none]) (by decide +kernel) rfl (Nat.le_of_ble_eq_true rfl) ?_
  intro p e s m args below meth c C
  refine x_aload_n C dX3_spoil_0 rfl ?_
  refine x_iload_n C dX3_spoil_1 rfl ?_
  refine x_cV1 C yo_X3_keyWithFunction m_X3_52 rfl rfl (by first | assumption | exact Nat.one_pos) (c_X3_kwf_leaf l D dA base n ad I J R hT hG k hk hf) dX3_spoil_2 rfl rfl (Nat.le_of_ble_eq_true rfl) ⟨by decide, by decide⟩ ⟨by decide, by decide⟩ ?_
  refine x_astore_nN C dX3_spoil_5 (by decide) rfl rfl ?_
  refine x_aload_nN C dX3_spoil_6 rfl ?_
  refine x_ifnonnullN C dX3_spoil_7 ?_
  refine x_iconst C (-1) (by decide) dX3_spoil_10 ?_
  exact x_iret C (po_i _ _ _ _ _ _) dX3_spoil_11

set_option maxRecDepth 100000 in
set_option maxHeartbeats 4000000 in
theorem c_X3_spoil_same (l : Launch) (D : va_G) (dA : Nat → ClassId) (base n : Nat) (ad : Fa) (I : Fi) (J : Fj) (R : Fr) (hT : ST n R) (hG : KG n I R) (k : Nat) (hk : k < n) (b : Int32) (hb : b = 0 ∨ b = 1) (hf : ¬ I 4 k 1 = -1) (he : I 4 k 5 = b) : CT l D dA base yX3_spoil cX3_spoil 4 (some .int) 5 0 0 [.ref (ad 0 0), .int (nI k), .int b] ad (Nn n) I J R (po (some (.int (I 0 0 2))) ad (Nn n) I J R) := by
  refine CT.of 1 (L0 := [some (.ref (ad 0 0)), some (.int (nI k)), some (.int b), none]) (by decide +kernel) rfl (Nat.le_of_ble_eq_true rfl) ?_
  intro p e s m args below meth c C
  refine x_aload_n C dX3_spoil_0 rfl ?_
  refine x_iload_n C dX3_spoil_1 rfl ?_
  refine x_cV1 C yo_X3_keyWithFunction m_X3_52 rfl rfl (by first | assumption | exact Nat.one_pos) (c_X3_kwf_in l D dA base n ad I J R hT hG k hk hf) dX3_spoil_2 rfl rfl (Nat.le_of_ble_eq_true rfl) ⟨by decide, by decide⟩ ⟨by decide, by decide⟩ ?_
  refine x_astore_n C dX3_spoil_5 (by decide) rfl rfl ?_
  refine x_aload_n C dX3_spoil_6 rfl ?_
  refine x_ifnonnull C 12 dX3_spoil_7 (by decide) ?_
  refine x_aload_n C dX3_spoil_12 rfl ?_
  refine x_getI C f_X3_89 rfl (by first | assumption | exact Nat.one_pos) dX3_spoil_13 ?_
  refine x_iload_n C dX3_spoil_16 rfl ?_
  refine x_icmp_eq C 37 dX3_spoil_17 (by decide) (fun h17 => ?_) (fun h17 => ?_)
  · skip
    refine x_aload_n C dX3_spoil_37 rfl ?_
    refine x_getI C f_X3_42 rfl (by first | assumption | exact Nat.one_pos) dX3_spoil_38 ?_
    exact x_iret C (po_i _ _ _ _ _ _) dX3_spoil_41
  · skip
    exact absurd he h17

set_option maxRecDepth 100000 in
set_option maxHeartbeats 4000000 in
theorem c_X3_spoil_yes (l : Launch) (D : va_G) (dA : Nat → ClassId) (base n : Nat) (ad : Fa) (I : Fi) (J : Fj) (R : Fr) (hT : ST n R) (hG : KG n I R) (k : Nat) (hk : k < n) (b : Int32) (hb : b = 0 ∨ b = 1) (zs : Nat → Nat) (hP : PL n I R zs) (hf : ¬ I 4 k 1 = -1) (he : ¬ I 4 k 5 = b) : CT l D dA base yX3_spoil cX3_spoil 4 (some .int) 5 0 0 [.ref (ad 0 0), .int (nI k), .int b] ad (Nn n) I J R (po (some (.int (I 0 0 2 + 1))) ad (Nn n) (up3 (up3 (nvI R zs I) 4 k 5 b) 4 k 6 (I 0 0 2 + 1)) J R) := by
  refine CT.of 1 (L0 := [some (.ref (ad 0 0)), some (.int (nI k)), some (.int b), none]) (by decide +kernel) rfl (Nat.le_of_ble_eq_true rfl) ?_
  intro p e s m args below meth c C
  refine x_aload_n C dX3_spoil_0 rfl ?_
  refine x_iload_n C dX3_spoil_1 rfl ?_
  refine x_cV1 C yo_X3_keyWithFunction m_X3_52 rfl rfl (by first | assumption | exact Nat.one_pos) (c_X3_kwf_in l D dA base n ad I J R hT hG k hk hf) dX3_spoil_2 rfl rfl (Nat.le_of_ble_eq_true rfl) ⟨by decide, by decide⟩ ⟨by decide, by decide⟩ ?_
  refine x_astore_n C dX3_spoil_5 (by decide) rfl rfl ?_
  refine x_aload_n C dX3_spoil_6 rfl ?_
  refine x_ifnonnull C 12 dX3_spoil_7 (by decide) ?_
  refine x_aload_n C dX3_spoil_12 rfl ?_
  refine x_getI C f_X3_89 rfl (by first | assumption | exact Nat.one_pos) dX3_spoil_13 ?_
  try simp only [up3_r, Nat.reduceEqDiff, and_false, false_and, and_self, and_true, true_and, reduceIte]
  refine x_iload_n C dX3_spoil_16 rfl ?_
  refine x_icmp_eq C 37 dX3_spoil_17 (by decide) (fun h17 => ?_) (fun h17 => ?_)
  · skip
    exact absurd h17 he
  · skip
    refine x_aload_n C dX3_spoil_20 rfl ?_
    refine x_cV0 C yo_X3_goToNextVersion m_X3_76 rfl rfl (by first | assumption | exact Nat.one_pos) (c_X3_goToNextVersion l D dA base n ad I J R hT hG zs hP) dX3_spoil_21 rfl rfl (Nat.le_of_ble_eq_true rfl) ⟨by decide, by decide⟩ ⟨by decide, by decide⟩ ?_
    refine x_aload_n C dX3_spoil_24 rfl ?_
    refine x_iload_n C dX3_spoil_25 rfl ?_
    refine x_putZ C g_X3_89 rfl (by first | assumption | exact Nat.one_pos) hb dX3_spoil_26 ?_
    refine x_aload_n C dX3_spoil_29 rfl ?_
    refine x_aload_n C dX3_spoil_30 rfl ?_
    refine x_getI C f_X3_42 rfl (by first | assumption | exact Nat.one_pos) dX3_spoil_31 ?_
    try simp only [up3_r, Nat.reduceEqDiff, and_false, false_and, and_self, and_true, true_and, reduceIte]
    refine x_putI C g_X3_79 rfl (by first | assumption | exact Nat.one_pos) dX3_spoil_34 ?_
    refine x_aload_n C dX3_spoil_37 rfl ?_
    refine x_getI C f_X3_42 rfl (by first | assumption | exact Nat.one_pos) dX3_spoil_38 ?_
    try simp only [up3_r, Nat.reduceEqDiff, and_false, false_and, and_self, and_true, true_and, reduceIte]
    exact x_iret C (⟨by rw [nvI_v], rfl, rfl, by rw [nvI_v], rfl, rfl⟩) dX3_spoil_41

set_option maxRecDepth 100000 in
set_option maxHeartbeats 4000000 in
theorem c_X3_begin_key (l : Launch) (D : va_G) (dA : Nat → ClassId) (base n : Nat) (ad : Fa) (I : Fi) (J : Fj) (R : Fr) (hT : ST n R) (hG : KG n I R) (x : Int32) (hx : x < 0 ∨ nI n ≤ x) (w : Int32) : CT l D dA base yX3_begin cX3_begin 4 (some .int) 3 0 0 [.ref (ad 0 0), .int w, .int x] ad (Nn n) I J R (po (some (.int (-1))) ad (Nn n) I J R) := by
  refine CT.of 1 (L0 := [some (.ref (ad 0 0)), some (.int w), some (.int x), none]) (by decide +kernel) rfl (Nat.le_of_ble_eq_true rfl) ?_
  intro p e s m args below meth c C
  refine x_aload_n C dX3_begin_0 rfl ?_
  refine x_iload_n C dX3_begin_1 rfl ?_
  refine x_cV1 C yo_X3_keyAt m_X3_56 rfl rfl (by first | assumption | exact Nat.one_pos) (c_X3_keyAt_out l D dA base n ad I J R hT hG x hx) dX3_begin_2 rfl rfl (Nat.le_of_ble_eq_true rfl) ⟨by decide, by decide⟩ ⟨by decide, by decide⟩ ?_
  refine x_astore_nN C dX3_begin_5 (by decide) rfl rfl ?_
  refine x_iload_n C dX3_begin_6 rfl ?_
  refine x_cS1 C yo_X3_isWorker rfl m_X3_93 (c_X3_isWorker l D dA base n ad I J R w) dX3_begin_7 rfl rfl (Nat.le_of_ble_eq_true rfl) ⟨by decide, by decide⟩ ⟨by decide, by decide⟩ ?_
  refine x_if_eq C 29 dX3_begin_10 (by decide) (fun h10 => ?_) (fun h10 => ?_)
  · skip
    refine x_iconst C (-1) (by decide) dX3_begin_29 ?_
    exact x_iret C (po_i _ _ _ _ _ _) dX3_begin_30
  · skip
    refine x_aload_nN C dX3_begin_13 rfl ?_
    refine x_ifnullN C 29 dX3_begin_14 (by decide) ?_
    refine x_iconst C (-1) (by decide) dX3_begin_29 ?_
    exact x_iret C (po_i _ _ _ _ _ _) dX3_begin_30

set_option maxRecDepth 100000 in
set_option maxHeartbeats 4000000 in
theorem c_X3_begin_wkr (l : Launch) (D : va_G) (dA : Nat → ClassId) (base n : Nat) (ad : Fa) (I : Fi) (J : Fj) (R : Fr) (hT : ST n R) (hG : KG n I R) (k : Nat) (hk : k < n) (w : Int32) (hw : ¬ (0 ≤ w ∧ w < 4)) : CT l D dA base yX3_begin cX3_begin 4 (some .int) 3 0 0 [.ref (ad 0 0), .int w, .int (nI k)] ad (Nn n) I J R (po (some (.int (-1))) ad (Nn n) I J R) := by
  refine CT.of 1 (L0 := [some (.ref (ad 0 0)), some (.int w), some (.int (nI k)), none]) (by decide +kernel) rfl (Nat.le_of_ble_eq_true rfl) ?_
  intro p e s m args below meth c C
  refine x_aload_n C dX3_begin_0 rfl ?_
  refine x_iload_n C dX3_begin_1 rfl ?_
  refine x_cV1 C yo_X3_keyAt m_X3_56 rfl rfl (by first | assumption | exact Nat.one_pos) (c_X3_keyAt_in l D dA base n ad I J R hT hG k hk) dX3_begin_2 rfl rfl (Nat.le_of_ble_eq_true rfl) ⟨by decide, by decide⟩ ⟨by decide, by decide⟩ ?_
  refine x_astore_n C dX3_begin_5 (by decide) rfl rfl ?_
  refine x_iload_n C dX3_begin_6 rfl ?_
  refine x_cS1 C yo_X3_isWorker rfl m_X3_93 (c_X3_isWorker l D dA base n ad I J R w) dX3_begin_7 rfl rfl (Nat.le_of_ble_eq_true rfl) ⟨by decide, by decide⟩ ⟨by decide, by decide⟩ ?_
  refine x_if_eq C 29 dX3_begin_10 (by decide) (fun h10 => ?_) (fun h10 => ?_)
  · skip
    refine x_iconst C (-1) (by decide) dX3_begin_29 ?_
    exact x_iret C (po_i _ _ _ _ _ _) dX3_begin_30
  · skip
    rw [if_neg hw] at h10
    exact absurd rfl h10

set_option maxRecDepth 100000 in
set_option maxHeartbeats 4000000 in
theorem c_X3_begin_full (l : Launch) (D : va_G) (dA : Nat → ClassId) (base n : Nat) (ad : Fa) (I : Fi) (J : Fj) (R : Fr) (hT : ST n R) (hG : KG n I R) (k : Nat) (hk : k < n) (w z : Nat) (hw : w < 4) (hs : I 9 w 1 = nI z) (hz : z ≤ 40) (hz0 : 0 < z) : CT l D dA base yX3_begin cX3_begin 4 (some .int) 3 0 0 [.ref (ad 0 0), .int (nI w), .int (nI k)] ad (Nn n) I J R (po (some (.int (-1))) ad (Nn n) I J R) := by
  refine CT.of 1 (L0 := [some (.ref (ad 0 0)), some (.int (nI w)), some (.int (nI k)), none]) (by decide +kernel) rfl (Nat.le_of_ble_eq_true rfl) ?_
  intro p e s m args below meth c C
  have hw5 : w < 5 := by omega
  refine x_aload_n C dX3_begin_0 rfl ?_
  refine x_iload_n C dX3_begin_1 rfl ?_
  refine x_cV1 C yo_X3_keyAt m_X3_56 rfl rfl (by first | assumption | exact Nat.one_pos) (c_X3_keyAt_in l D dA base n ad I J R hT hG k hk) dX3_begin_2 rfl rfl (Nat.le_of_ble_eq_true rfl) ⟨by decide, by decide⟩ ⟨by decide, by decide⟩ ?_
  refine x_astore_n C dX3_begin_5 (by decide) rfl rfl ?_
  refine x_iload_n C dX3_begin_6 rfl ?_
  refine x_cS1 C yo_X3_isWorker rfl m_X3_93 (c_X3_isWorker l D dA base n ad I J R (nI w)) dX3_begin_7 rfl rfl (Nat.le_of_ble_eq_true rfl) ⟨by decide, by decide⟩ ⟨by decide, by decide⟩ ?_
  refine x_if_eq C 29 dX3_begin_10 (by decide) (fun h10 => ?_) (fun h10 => ?_)
  · skip
    rw [if_pos ⟨nI_pos' (by omega), nI_lt (b := 4) hw (by decide)⟩] at h10
    exact absurd h10 (by decide)
  · skip
    refine x_aload_n C dX3_begin_13 rfl ?_
    refine x_ifnull C dX3_begin_14 ?_
    refine x_aload_n C dX3_begin_17 rfl ?_
    refine x_getF C hT f_X3_17 rfl rfl (by first | assumption | exact Nat.one_pos) dX3_begin_18 ?_
    refine x_iload_n C dX3_begin_21 rfl ?_
    refine x_aaldS C (w) rfl rfl rfl rfl (by first | assumption | exact Nat.one_pos) (by omega) (by decide) (hG.2.2.2.1 w (by omega)) dX3_begin_22 ?_
    refine x_getI C f_X3_97 rfl (by first | assumption | exact Nat.one_pos) dX3_begin_23 ?_
    refine x_if_le C 31 dX3_begin_26 (by decide) (fun h26 => ?_) (fun h26 => ?_)
    · skip
      rw [hs] at h26
      exact absurd h26 (nI_nle hz0 (by omega))
    · skip
      refine x_iconst C (-1) (by decide) dX3_begin_29 ?_
      exact x_iret C (po_i _ _ _ _ _ _) dX3_begin_30

set_option maxRecDepth 100000 in
set_option maxHeartbeats 4000000 in
theorem c_X3_begin_sure (l : Launch) (D : va_G) (dA : Nat → ClassId) (base n : Nat) (ad : Fa) (I : Fi) (J : Fj) (R : Fr) (hT : ST n R) (hG : KG n I R) (k : Nat) (hk : k < n) (w : Nat) (hw : w < 4) (hs : I 9 w 1 = nI 0) (hsu : sure I k = true) : CT l D dA base yX3_begin cX3_begin 4 (some .int) 3 0 0 [.ref (ad 0 0), .int (nI w), .int (nI k)] ad (Nn n) I J R (po (some (.int 0)) ad (Nn n) I J R) := by
  refine CT.of 1 (L0 := [some (.ref (ad 0 0)), some (.int (nI w)), some (.int (nI k)), none]) (by decide +kernel) rfl (Nat.le_of_ble_eq_true rfl) ?_
  intro p e s m args below meth c C
  have hw5 : w < 5 := by omega
  refine x_aload_n C dX3_begin_0 rfl ?_
  refine x_iload_n C dX3_begin_1 rfl ?_
  refine x_cV1 C yo_X3_keyAt m_X3_56 rfl rfl (by first | assumption | exact Nat.one_pos) (c_X3_keyAt_in l D dA base n ad I J R hT hG k hk) dX3_begin_2 rfl rfl (Nat.le_of_ble_eq_true rfl) ⟨by decide, by decide⟩ ⟨by decide, by decide⟩ ?_
  refine x_astore_n C dX3_begin_5 (by decide) rfl rfl ?_
  refine x_iload_n C dX3_begin_6 rfl ?_
  refine x_cS1 C yo_X3_isWorker rfl m_X3_93 (c_X3_isWorker l D dA base n ad I J R (nI w)) dX3_begin_7 rfl rfl (Nat.le_of_ble_eq_true rfl) ⟨by decide, by decide⟩ ⟨by decide, by decide⟩ ?_
  refine x_if_eq C 29 dX3_begin_10 (by decide) (fun h10 => ?_) (fun h10 => ?_)
  · skip
    rw [if_pos ⟨nI_pos' (by omega), nI_lt (b := 4) hw (by decide)⟩] at h10
    exact absurd h10 (by decide)
  · skip
    refine x_aload_n C dX3_begin_13 rfl ?_
    refine x_ifnull C dX3_begin_14 ?_
    refine x_aload_n C dX3_begin_17 rfl ?_
    refine x_getF C hT f_X3_17 rfl rfl (by first | assumption | exact Nat.one_pos) dX3_begin_18 ?_
    refine x_iload_n C dX3_begin_21 rfl ?_
    refine x_aaldS C (w) rfl rfl rfl rfl (by first | assumption | exact Nat.one_pos) (by omega) (by decide) (hG.2.2.2.1 w (by omega)) dX3_begin_22 ?_
    refine x_getI C f_X3_97 rfl (by first | assumption | exact Nat.one_pos) dX3_begin_23 ?_
    refine x_if_le C 31 dX3_begin_26 (by decide) (fun h26 => ?_) (fun h26 => ?_)
    · skip
      refine x_aload_n C dX3_begin_31 rfl ?_
      refine x_aload_n C dX3_begin_32 rfl ?_
      refine x_cV1 C yo_X3_isSure m_X3_100 rfl rfl (by first | assumption | exact Nat.one_pos) (c_X3_isSure l D dA base n ad I J R hT k hk) dX3_begin_33 rfl rfl (Nat.le_of_ble_eq_true rfl) ⟨by decide, by decide⟩ ⟨by decide, by decide⟩ ?_
      refine x_if_eq C 41 dX3_begin_36 (by decide) (fun h36 => ?_) (fun h36 => ?_)
      · skip
        rw [hsu] at h36
        exact absurd h36 (by decide)
      · skip
        refine x_iconst C 0 (by decide) dX3_begin_39 ?_
        exact x_iret C (po_i _ _ _ _ _ _) dX3_begin_40
    · skip
      rw [hs] at h26
      exact absurd (by decide) h26

set_option maxRecDepth 100000 in
set_option maxHeartbeats 4000000 in
theorem c_X3_begin_has (l : Launch) (D : va_G) (dA : Nat → ClassId) (base n : Nat) (ad : Fa) (I : Fi) (J : Fj) (R : Fr) (hT : ST n R) (hG : KG n I R) (k : Nat) (hk : k < n) (w : Nat) (hw : w < 4) (hs : I 9 w 1 = nI 0) (hsu : sure I k = false) (hq : ¬ I 4 k 16 = 0) : CT l D dA base yX3_begin cX3_begin 4 (some .int) 3 0 0 [.ref (ad 0 0), .int (nI w), .int (nI k)] ad (Nn n) I J R (po (some (.int (-2))) ad (Nn n) I J R) := by
  refine CT.of 1 (L0 := [some (.ref (ad 0 0)), some (.int (nI w)), some (.int (nI k)), none]) (by decide +kernel) rfl (Nat.le_of_ble_eq_true rfl) ?_
  intro p e s m args below meth c C
  have hw5 : w < 5 := by omega
  refine x_aload_n C dX3_begin_0 rfl ?_
  refine x_iload_n C dX3_begin_1 rfl ?_
  refine x_cV1 C yo_X3_keyAt m_X3_56 rfl rfl (by first | assumption | exact Nat.one_pos) (c_X3_keyAt_in l D dA base n ad I J R hT hG k hk) dX3_begin_2 rfl rfl (Nat.le_of_ble_eq_true rfl) ⟨by decide, by decide⟩ ⟨by decide, by decide⟩ ?_
  refine x_astore_n C dX3_begin_5 (by decide) rfl rfl ?_
  refine x_iload_n C dX3_begin_6 rfl ?_
  refine x_cS1 C yo_X3_isWorker rfl m_X3_93 (c_X3_isWorker l D dA base n ad I J R (nI w)) dX3_begin_7 rfl rfl (Nat.le_of_ble_eq_true rfl) ⟨by decide, by decide⟩ ⟨by decide, by decide⟩ ?_
  refine x_if_eq C 29 dX3_begin_10 (by decide) (fun h10 => ?_) (fun h10 => ?_)
  · skip
    rw [if_pos ⟨nI_pos' (by omega), nI_lt (b := 4) hw (by decide)⟩] at h10
    exact absurd h10 (by decide)
  · skip
    refine x_aload_n C dX3_begin_13 rfl ?_
    refine x_ifnull C dX3_begin_14 ?_
    refine x_aload_n C dX3_begin_17 rfl ?_
    refine x_getF C hT f_X3_17 rfl rfl (by first | assumption | exact Nat.one_pos) dX3_begin_18 ?_
    refine x_iload_n C dX3_begin_21 rfl ?_
    refine x_aaldS C (w) rfl rfl rfl rfl (by first | assumption | exact Nat.one_pos) (by omega) (by decide) (hG.2.2.2.1 w (by omega)) dX3_begin_22 ?_
    refine x_getI C f_X3_97 rfl (by first | assumption | exact Nat.one_pos) dX3_begin_23 ?_
    refine x_if_le C 31 dX3_begin_26 (by decide) (fun h26 => ?_) (fun h26 => ?_)
    · skip
      refine x_aload_n C dX3_begin_31 rfl ?_
      refine x_aload_n C dX3_begin_32 rfl ?_
      refine x_cV1 C yo_X3_isSure m_X3_100 rfl rfl (by first | assumption | exact Nat.one_pos) (c_X3_isSure l D dA base n ad I J R hT k hk) dX3_begin_33 rfl rfl (Nat.le_of_ble_eq_true rfl) ⟨by decide, by decide⟩ ⟨by decide, by decide⟩ ?_
      refine x_if_eq C 41 dX3_begin_36 (by decide) (fun h36 => ?_) (fun h36 => ?_)
      · skip
        refine x_aload_n C dX3_begin_41 rfl ?_
        refine x_getI C f_X3_103 rfl (by first | assumption | exact Nat.one_pos) dX3_begin_42 ?_
        refine x_if_eq C 51 dX3_begin_45 (by decide) (fun h45 => ?_) (fun h45 => ?_)
        · skip
          exact absurd h45 hq
        · skip
          refine x_bipush C (-2) (by decide) dX3_begin_48 ?_
          exact x_iret C (po_i _ _ _ _ _ _) dX3_begin_50
      · skip
        rw [hsu] at h36
        exact absurd rfl h36
    · skip
      rw [hs] at h26
      exact absurd (by decide) h26

set_option maxRecDepth 100000 in
set_option maxHeartbeats 4000000 in
theorem c_X3_begin_yes (l : Launch) (D : va_G) (dA : Nat → ClassId) (base n : Nat) (ad : Fa) (I : Fi) (J : Fj) (R : Fr) (hT : ST n R) (hG : KG n I R) (k : Nat) (hk : k < n) (w : Nat) (hw : w < 4) (hs : I 9 w 1 = nI 0) (hsu : sure I k = false) (hq : I 4 k 16 = 0) : CT l D dA base yX3_begin cX3_begin 4 (some .int) 3 0 0 [.ref (ad 0 0), .int (nI w), .int (nI k)] ad (Nn n) I J R (po (some (.int 1)) ad (Nn n) (putI I w k 0) (up3 J 7 k 3 0) (up3 R 10 w 0 (some k))) := by
  refine CT.of 1 (L0 := [some (.ref (ad 0 0)), some (.int (nI w)), some (.int (nI k)), none]) (by decide +kernel) rfl (Nat.le_of_ble_eq_true rfl) ?_
  intro p e s m args below meth c C
  have hw5 : w < 5 := by omega
  refine x_aload_n C dX3_begin_0 rfl ?_
  refine x_iload_n C dX3_begin_1 rfl ?_
  refine x_cV1 C yo_X3_keyAt m_X3_56 rfl rfl (by first | assumption | exact Nat.one_pos) (c_X3_keyAt_in l D dA base n ad I J R hT hG k hk) dX3_begin_2 rfl rfl (Nat.le_of_ble_eq_true rfl) ⟨by decide, by decide⟩ ⟨by decide, by decide⟩ ?_
  refine x_astore_n C dX3_begin_5 (by decide) rfl rfl ?_
  refine x_iload_n C dX3_begin_6 rfl ?_
  refine x_cS1 C yo_X3_isWorker rfl m_X3_93 (c_X3_isWorker l D dA base n ad I J R (nI w)) dX3_begin_7 rfl rfl (Nat.le_of_ble_eq_true rfl) ⟨by decide, by decide⟩ ⟨by decide, by decide⟩ ?_
  refine x_if_eq C 29 dX3_begin_10 (by decide) (fun h10 => ?_) (fun h10 => ?_)
  · skip
    rw [if_pos ⟨nI_pos' (by omega), nI_lt (b := 4) hw (by decide)⟩] at h10
    exact absurd h10 (by decide)
  · skip
    refine x_aload_n C dX3_begin_13 rfl ?_
    refine x_ifnull C dX3_begin_14 ?_
    refine x_aload_n C dX3_begin_17 rfl ?_
    refine x_getF C hT f_X3_17 rfl rfl (by first | assumption | exact Nat.one_pos) dX3_begin_18 ?_
    refine x_iload_n C dX3_begin_21 rfl ?_
    refine x_aaldS C (w) rfl rfl rfl rfl (by first | assumption | exact Nat.one_pos) (by omega) (by decide) (hG.2.2.2.1 w (by omega)) dX3_begin_22 ?_
    refine x_getI C f_X3_97 rfl (by first | assumption | exact Nat.one_pos) dX3_begin_23 ?_
    refine x_if_le C 31 dX3_begin_26 (by decide) (fun h26 => ?_) (fun h26 => ?_)
    · skip
      refine x_aload_n C dX3_begin_31 rfl ?_
      refine x_aload_n C dX3_begin_32 rfl ?_
      refine x_cV1 C yo_X3_isSure m_X3_100 rfl rfl (by first | assumption | exact Nat.one_pos) (c_X3_isSure l D dA base n ad I J R hT k hk) dX3_begin_33 rfl rfl (Nat.le_of_ble_eq_true rfl) ⟨by decide, by decide⟩ ⟨by decide, by decide⟩ ?_
      refine x_if_eq C 41 dX3_begin_36 (by decide) (fun h36 => ?_) (fun h36 => ?_)
      · skip
        refine x_aload_n C dX3_begin_41 rfl ?_
        refine x_getI C f_X3_103 rfl (by first | assumption | exact Nat.one_pos) dX3_begin_42 ?_
        refine x_if_eq C 51 dX3_begin_45 (by decide) (fun h45 => ?_) (fun h45 => ?_)
        · skip
          refine x_aload_n C dX3_begin_51 rfl ?_
          refine x_getF C hT f_X3_17 rfl rfl (by first | assumption | exact Nat.one_pos) dX3_begin_52 ?_
          refine x_iload_n C dX3_begin_55 rfl ?_
          refine x_aaldS C (w) rfl rfl rfl rfl (by first | assumption | exact Nat.one_pos) hw5 (by decide) (hG.2.2.2.1 w hw5) dX3_begin_56 ?_
          refine x_aload_n C dX3_begin_57 rfl ?_
          refine x_cV0 C yo_X1_put m_X3_106 rfl rfl (by first | assumption | exact Nat.one_pos) (c_X1_put l D dA base n ad I J R hT w k 0 hw5 hk hs (by decide)) dX3_begin_58 rfl rfl (Nat.le_of_ble_eq_true rfl) ⟨by decide, by decide⟩ ⟨by decide, by decide⟩ ?_
          refine x_iconst C 1 (by decide) dX3_begin_61 ?_
          exact x_iret C (po_i _ _ _ _ _ _) dX3_begin_62
        · skip
          exact absurd hq h45
      · skip
        rw [hsu] at h36
        exact absurd rfl h36
    · skip
      rw [hs] at h26
      exact absurd (by decide) h26

set_option maxRecDepth 100000 in
set_option maxHeartbeats 4000000 in
theorem c_X3_step_no (l : Launch) (D : va_G) (dA : Nat → ClassId) (base n : Nat) (ad : Fa) (I : Fi) (J : Fj) (R : Fr) (hT : ST n R) (w : Int32) (hw : ¬ (0 ≤ w ∧ w < 4)) : CT l D dA base yX3_step cX3_step 2 (some .int) 6 0 0 [.ref (ad 0 0), .int w] ad (Nn n) I J R (po (some (.int (-1))) ad (Nn n) I J R) := by
  refine CT.of 0 (L0 := [some (.ref (ad 0 0)), some (.int w)]) (by decide +kernel) rfl (Nat.le_of_ble_eq_true rfl) ?_
  intro p e s m args below meth c C
  refine x_iload_n C dX3_step_0 rfl ?_
  refine x_cS1 C yo_X3_isWorker rfl m_X3_93 (c_X3_isWorker l D dA base n ad I J R w) dX3_step_1 rfl rfl (Nat.le_of_ble_eq_true rfl) ⟨by decide, by decide⟩ ⟨by decide, by decide⟩ ?_
  refine x_if_eq C 20 dX3_step_4 (by decide) (fun h4 => ?_) (fun h4 => ?_)
  · skip
    refine x_iconst C (-1) (by decide) dX3_step_20 ?_
    exact x_iret C (po_i _ _ _ _ _ _) dX3_step_21
  · skip
    rw [if_neg hw] at h4
    exact absurd rfl h4

set_option maxRecDepth 100000 in
set_option maxHeartbeats 4000000 in
theorem c_X3_step_yes (l : Launch) (D : va_G) (dA : Nat → ClassId) (base n : Nat) (ad : Fa) (I : Fi) (J : Fj) (R : Fr) (hT : ST n R) (hG : KG n I R) (w : Nat) (hw : w < 4) (x : Int32) (I1 : Fi) (J1 : Fj) (R1 : Fr) (hM : CT l D dA base yX3_goOn cX3_goOn 3 (some .int) 5 0 0 [.ref (ad 0 0), .ref (ad 9 w)] ad (Nn n) I J R (po (some (.int x)) ad (Nn n) I1 J1 R1)) : CT l D dA base yX3_step cX3_step 2 (some .int) 6 0 0 [.ref (ad 0 0), .int (nI w)] ad (Nn n) I J R (po (some (.int x)) ad (Nn n) I1 J1 R1) := by
  refine CT.of 0 (L0 := [some (.ref (ad 0 0)), some (.int (nI w))]) (by decide +kernel) rfl (Nat.le_of_ble_eq_true rfl) ?_
  intro p e s m args below meth c C
  have hw5 : w < 5 := by omega
  refine x_iload_n C dX3_step_0 rfl ?_
  refine x_cS1 C yo_X3_isWorker rfl m_X3_93 (c_X3_isWorker l D dA base n ad I J R (nI w)) dX3_step_1 rfl rfl (Nat.le_of_ble_eq_true rfl) ⟨by decide, by decide⟩ ⟨by decide, by decide⟩ ?_
  refine x_if_eq C 20 dX3_step_4 (by decide) (fun h4 => ?_) (fun h4 => ?_)
  · skip
    rw [if_pos ⟨nI_pos' (by omega), nI_lt (b := 4) hw (by decide)⟩] at h4
    exact absurd h4 (by decide)
  · skip
    refine x_aload_n C dX3_step_7 rfl ?_
    refine x_aload_n C dX3_step_8 rfl ?_
    refine x_getF C hT f_X3_17 rfl rfl (by first | assumption | exact Nat.one_pos) dX3_step_9 ?_
    refine x_iload_n C dX3_step_12 rfl ?_
    refine x_aaldS C (w) rfl rfl rfl rfl (by first | assumption | exact Nat.one_pos) hw5 (by decide) (hG.2.2.2.1 w hw5) dX3_step_13 ?_
    refine x_cV1 C yo_X3_goOn m_X3_110 rfl rfl (by first | assumption | exact Nat.one_pos) (hM) dX3_step_14 rfl rfl (Nat.le_of_ble_eq_true rfl) ⟨by decide, by decide⟩ ⟨by decide, by decide⟩ ?_
    refine x_goto C 21 dX3_step_17 (by decide) ?_
    exact x_iret C (po_i _ _ _ _ _ _) dX3_step_21

set_option maxRecDepth 100000 in
set_option maxHeartbeats 4000000 in
theorem c_X3_run_out (l : Launch) (D : va_G) (dA : Nat → ClassId) (base n : Nat) (ad : Fa) (I : Fi) (J : Fj) (R : Fr) (hT : ST n R) (hG : KG n I R) (x : Int32) (hx : x < 0 ∨ nI n ≤ x)  : CT l D dA base yX3_run cX3_run 3 (some .int) 7 0 0 [.ref (ad 0 0), .int x] ad (Nn n) I J R (po (some (.int (-1))) ad (Nn n) I J R) := by
  refine CT.of 1 (L0 := [some (.ref (ad 0 0)), some (.int x), none]) (by decide +kernel) rfl (Nat.le_of_ble_eq_true rfl) ?_
  intro p e s m args below meth c C
  refine x_aload_n C dX3_run_0 rfl ?_
  refine x_iload_n C dX3_run_1 rfl ?_
  refine x_cV1 C yo_X3_keyAt m_X3_56 rfl rfl (by first | assumption | exact Nat.one_pos) (c_X3_keyAt_out l D dA base n ad I J R hT hG x hx) dX3_run_2 rfl rfl (Nat.le_of_ble_eq_true rfl) ⟨by decide, by decide⟩ ⟨by decide, by decide⟩ ?_
  refine x_astore_nN C dX3_run_5 (by decide) rfl rfl ?_
  refine x_aload_nN C dX3_run_6 rfl ?_
  refine x_ifnonnullN C dX3_run_7 ?_
  refine x_iconst C (-1) (by decide) dX3_run_10 ?_
  exact x_iret C (po_i _ _ _ _ _ _) dX3_run_11

set_option maxRecDepth 100000 in
set_option maxHeartbeats 4000000 in
theorem c_X3_run_sure (l : Launch) (D : va_G) (dA : Nat → ClassId) (base n : Nat) (ad : Fa) (I : Fi) (J : Fj) (R : Fr) (hT : ST n R) (hG : KG n I R) (k : Nat) (hk : k < n) (hsu : sure I k = true) : CT l D dA base yX3_run cX3_run 3 (some .int) 7 0 0 [.ref (ad 0 0), .int (nI k)] ad (Nn n) I J R (po (some (.int (I 4 k 7))) ad (Nn n) I J R) := by
  refine CT.of 1 (L0 := [some (.ref (ad 0 0)), some (.int (nI k)), none]) (by decide +kernel) rfl (Nat.le_of_ble_eq_true rfl) ?_
  intro p e s m args below meth c C
  refine x_aload_n C dX3_run_0 rfl ?_
  refine x_iload_n C dX3_run_1 rfl ?_
  refine x_cV1 C yo_X3_keyAt m_X3_56 rfl rfl (by first | assumption | exact Nat.one_pos) (c_X3_keyAt_in l D dA base n ad I J R hT hG k hk) dX3_run_2 rfl rfl (Nat.le_of_ble_eq_true rfl) ⟨by decide, by decide⟩ ⟨by decide, by decide⟩ ?_
  refine x_astore_n C dX3_run_5 (by decide) rfl rfl ?_
  refine x_aload_n C dX3_run_6 rfl ?_
  refine x_ifnonnull C 12 dX3_run_7 (by decide) ?_
  refine x_aload_n C dX3_run_12 rfl ?_
  refine x_aload_n C dX3_run_13 rfl ?_
  refine x_cV1 C yo_X3_isSure m_X3_100 rfl rfl (by first | assumption | exact Nat.one_pos) (c_X3_isSure l D dA base n ad I J R hT k hk) dX3_run_14 rfl rfl (Nat.le_of_ble_eq_true rfl) ⟨by decide, by decide⟩ ⟨by decide, by decide⟩ ?_
  refine x_if_eq C 25 dX3_run_17 (by decide) (fun h17 => ?_) (fun h17 => ?_)
  · skip
    rw [hsu] at h17
    exact absurd h17 (by decide)
  · skip
    refine x_aload_n C dX3_run_20 rfl ?_
    refine x_getI C f_X3_35 rfl (by first | assumption | exact Nat.one_pos) dX3_run_21 ?_
    exact x_iret C (po_i _ _ _ _ _ _) dX3_run_24

set_option maxRecDepth 100000 in
set_option maxHeartbeats 4000000 in
theorem c_X3_run_has (l : Launch) (D : va_G) (dA : Nat → ClassId) (base n : Nat) (ad : Fa) (I : Fi) (J : Fj) (R : Fr) (hT : ST n R) (hG : KG n I R) (k : Nat) (hk : k < n) (hsu : sure I k = false) (hq : ¬ I 4 k 16 = 0) : CT l D dA base yX3_run cX3_run 3 (some .int) 7 0 0 [.ref (ad 0 0), .int (nI k)] ad (Nn n) I J R (po (some (.int (-2))) ad (Nn n) I J R) := by
  refine CT.of 1 (L0 := [some (.ref (ad 0 0)), some (.int (nI k)), none]) (by decide +kernel) rfl (Nat.le_of_ble_eq_true rfl) ?_
  intro p e s m args below meth c C
  refine x_aload_n C dX3_run_0 rfl ?_
  refine x_iload_n C dX3_run_1 rfl ?_
  refine x_cV1 C yo_X3_keyAt m_X3_56 rfl rfl (by first | assumption | exact Nat.one_pos) (c_X3_keyAt_in l D dA base n ad I J R hT hG k hk) dX3_run_2 rfl rfl (Nat.le_of_ble_eq_true rfl) ⟨by decide, by decide⟩ ⟨by decide, by decide⟩ ?_
  refine x_astore_n C dX3_run_5 (by decide) rfl rfl ?_
  refine x_aload_n C dX3_run_6 rfl ?_
  refine x_ifnonnull C 12 dX3_run_7 (by decide) ?_
  refine x_aload_n C dX3_run_12 rfl ?_
  refine x_aload_n C dX3_run_13 rfl ?_
  refine x_cV1 C yo_X3_isSure m_X3_100 rfl rfl (by first | assumption | exact Nat.one_pos) (c_X3_isSure l D dA base n ad I J R hT k hk) dX3_run_14 rfl rfl (Nat.le_of_ble_eq_true rfl) ⟨by decide, by decide⟩ ⟨by decide, by decide⟩ ?_
  refine x_if_eq C 25 dX3_run_17 (by decide) (fun h17 => ?_) (fun h17 => ?_)
  · skip
    refine x_aload_n C dX3_run_25 rfl ?_
    refine x_getI C f_X3_103 rfl (by first | assumption | exact Nat.one_pos) dX3_run_26 ?_
    refine x_if_eq C 35 dX3_run_29 (by decide) (fun h29 => ?_) (fun h29 => ?_)
    · skip
      exact absurd h29 hq
    · skip
      refine x_bipush C (-2) (by decide) dX3_run_32 ?_
      exact x_iret C (po_i _ _ _ _ _ _) dX3_run_34
  · skip
    rw [hsu] at h17
    exact absurd rfl h17

set_option maxRecDepth 100000 in
set_option maxHeartbeats 4000000 in
theorem c_X3_run_go (l : Launch) (D : va_G) (dA : Nat → ClassId) (base n : Nat) (ad : Fa) (I : Fi) (J : Fj) (R : Fr) (hT : ST n R) (hG : KG n I R) (k : Nat) (hk : k < n) (hsu : sure I k = false) (hq : I 4 k 16 = 0) (x : Int32) (I1 : Fi) (J1 : Fj) (R1 : Fr) (hM : CT l D dA base yX3_runOnOwnPile cX3_runOnOwnPile 4 (some .int) 6 0 0 [.ref (ad 0 0), .ref (ad 4 k)] ad (Nn n) I J R (po (some (.int x)) ad (Nn n) I1 J1 R1)) : CT l D dA base yX3_run cX3_run 3 (some .int) 7 0 0 [.ref (ad 0 0), .int (nI k)] ad (Nn n) I J R (po (some (.int x)) ad (Nn n) I1 J1 R1) := by
  refine CT.of 1 (L0 := [some (.ref (ad 0 0)), some (.int (nI k)), none]) (by decide +kernel) rfl (Nat.le_of_ble_eq_true rfl) ?_
  intro p e s m args below meth c C
  refine x_aload_n C dX3_run_0 rfl ?_
  refine x_iload_n C dX3_run_1 rfl ?_
  refine x_cV1 C yo_X3_keyAt m_X3_56 rfl rfl (by first | assumption | exact Nat.one_pos) (c_X3_keyAt_in l D dA base n ad I J R hT hG k hk) dX3_run_2 rfl rfl (Nat.le_of_ble_eq_true rfl) ⟨by decide, by decide⟩ ⟨by decide, by decide⟩ ?_
  refine x_astore_n C dX3_run_5 (by decide) rfl rfl ?_
  refine x_aload_n C dX3_run_6 rfl ?_
  refine x_ifnonnull C 12 dX3_run_7 (by decide) ?_
  refine x_aload_n C dX3_run_12 rfl ?_
  refine x_aload_n C dX3_run_13 rfl ?_
  refine x_cV1 C yo_X3_isSure m_X3_100 rfl rfl (by first | assumption | exact Nat.one_pos) (c_X3_isSure l D dA base n ad I J R hT k hk) dX3_run_14 rfl rfl (Nat.le_of_ble_eq_true rfl) ⟨by decide, by decide⟩ ⟨by decide, by decide⟩ ?_
  refine x_if_eq C 25 dX3_run_17 (by decide) (fun h17 => ?_) (fun h17 => ?_)
  · skip
    refine x_aload_n C dX3_run_25 rfl ?_
    refine x_getI C f_X3_103 rfl (by first | assumption | exact Nat.one_pos) dX3_run_26 ?_
    refine x_if_eq C 35 dX3_run_29 (by decide) (fun h29 => ?_) (fun h29 => ?_)
    · skip
      refine x_aload_n C dX3_run_35 rfl ?_
      refine x_aload_n C dX3_run_36 rfl ?_
      refine x_cV1 C yo_X3_runOnOwnPile m_X3_118 rfl rfl (by first | assumption | exact Nat.one_pos) (hM) dX3_run_37 rfl rfl (Nat.le_of_ble_eq_true rfl) ⟨by decide, by decide⟩ ⟨by decide, by decide⟩ ?_
      exact x_iret C (po_i _ _ _ _ _ _) dX3_run_40
    · skip
      exact absurd hq h29
  · skip
    rw [hsu] at h17
    exact absurd rfl h17

set_option maxRecDepth 100000 in
set_option maxHeartbeats 4000000 in
theorem c_X3_asks_o1 (l : Launch) (D : va_G) (dA : Nat → ClassId) (base n : Nat) (ad : Fa) (I : Fi) (J : Fj) (R : Fr) (hT : ST n R) (hG : KG n I R) (x : Int32) (hx : x < 0 ∨ nI n ≤ x) (y : Int32) : CT l D dA base yX3_asks cX3_asks 5 (some .int) 5 0 0 [.ref (ad 0 0), .int x, .int y] ad (Nn n) I J R (po (some (.int (-1))) ad (Nn n) I J R) := by
  refine CT.of 2 (L0 := [some (.ref (ad 0 0)), some (.int x), some (.int y), none, none]) (by decide +kernel) rfl (Nat.le_of_ble_eq_true rfl) ?_
  intro p e s m args below meth c C
  refine x_aload_n C dX3_asks_0 rfl ?_
  refine x_iload_n C dX3_asks_1 rfl ?_
  refine x_cV1 C yo_X3_keyWithFunction m_X3_52 rfl rfl (by first | assumption | exact Nat.one_pos) (c_X3_kwf_out l D dA base n ad I J R hT hG x hx) dX3_asks_2 rfl rfl (Nat.le_of_ble_eq_true rfl) ⟨by decide, by decide⟩ ⟨by decide, by decide⟩ ?_
  refine x_astore_nN C dX3_asks_5 (by decide) rfl rfl ?_
  refine x_aload_n C dX3_asks_6 rfl ?_
  refine x_iload_n C dX3_asks_7 rfl ?_
  rcases pk_ix y (show n < 2 ^ 31 by have := hG.2.1; omega) with hy0 | hy0 | ⟨jj, hjj, rfl⟩
  · skip
    have hy : y < 0 ∨ nI n ≤ y := Or.inl hy0
    refine x_cV1 C yo_X3_keyAt m_X3_56 rfl rfl (by first | assumption | exact Nat.one_pos) (c_X3_keyAt_out l D dA base n ad I J R hT hG y hy) dX3_asks_8 rfl rfl (Nat.le_of_ble_eq_true rfl) ⟨by decide, by decide⟩ ⟨by decide, by decide⟩ ?_
    refine x_astoreN C dX3_asks_11 (by decide) rfl rfl ?_
    refine x_aload_nN C dX3_asks_13 rfl ?_
    refine x_ifnullN C 31 dX3_asks_14 (by decide) ?_
    refine x_iconst C (-1) (by decide) dX3_asks_31 ?_
    exact x_iret C (po_i _ _ _ _ _ _) dX3_asks_32
  · skip
    have hy : y < 0 ∨ nI n ≤ y := Or.inr hy0
    refine x_cV1 C yo_X3_keyAt m_X3_56 rfl rfl (by first | assumption | exact Nat.one_pos) (c_X3_keyAt_out l D dA base n ad I J R hT hG y hy) dX3_asks_8 rfl rfl (Nat.le_of_ble_eq_true rfl) ⟨by decide, by decide⟩ ⟨by decide, by decide⟩ ?_
    refine x_astoreN C dX3_asks_11 (by decide) rfl rfl ?_
    refine x_aload_nN C dX3_asks_13 rfl ?_
    refine x_ifnullN C 31 dX3_asks_14 (by decide) ?_
    refine x_iconst C (-1) (by decide) dX3_asks_31 ?_
    exact x_iret C (po_i _ _ _ _ _ _) dX3_asks_32
  · skip
    skip
    refine x_cV1 C yo_X3_keyAt m_X3_56 rfl rfl (by first | assumption | exact Nat.one_pos) (c_X3_keyAt_in l D dA base n ad I J R hT hG jj hjj) dX3_asks_8 rfl rfl (Nat.le_of_ble_eq_true rfl) ⟨by decide, by decide⟩ ⟨by decide, by decide⟩ ?_
    refine x_astore C dX3_asks_11 (by decide) rfl rfl ?_
    refine x_aload_nN C dX3_asks_13 rfl ?_
    refine x_ifnullN C 31 dX3_asks_14 (by decide) ?_
    refine x_iconst C (-1) (by decide) dX3_asks_31 ?_
    exact x_iret C (po_i _ _ _ _ _ _) dX3_asks_32

set_option maxRecDepth 100000 in
set_option maxHeartbeats 4000000 in
theorem c_X3_asks_leaf (l : Launch) (D : va_G) (dA : Nat → ClassId) (base n : Nat) (ad : Fa) (I : Fi) (J : Fj) (R : Fr) (hT : ST n R) (hG : KG n I R) (k : Nat) (hk : k < n) (hf : I 4 k 1 = -1) (y : Int32) : CT l D dA base yX3_asks cX3_asks 5 (some .int) 5 0 0 [.ref (ad 0 0), .int (nI k), .int y] ad (Nn n) I J R (po (some (.int (-1))) ad (Nn n) I J R) := by
  refine CT.of 2 (L0 := [some (.ref (ad 0 0)), some (.int (nI k)), some (.int y), none, none]) (by decide +kernel) rfl (Nat.le_of_ble_eq_true rfl) ?_
  intro p e s m args below meth c C
  refine x_aload_n C dX3_asks_0 rfl ?_
  refine x_iload_n C dX3_asks_1 rfl ?_
  refine x_cV1 C yo_X3_keyWithFunction m_X3_52 rfl rfl (by first | assumption | exact Nat.one_pos) (c_X3_kwf_leaf l D dA base n ad I J R hT hG k hk hf) dX3_asks_2 rfl rfl (Nat.le_of_ble_eq_true rfl) ⟨by decide, by decide⟩ ⟨by decide, by decide⟩ ?_
  refine x_astore_nN C dX3_asks_5 (by decide) rfl rfl ?_
  refine x_aload_n C dX3_asks_6 rfl ?_
  refine x_iload_n C dX3_asks_7 rfl ?_
  rcases pk_ix y (show n < 2 ^ 31 by have := hG.2.1; omega) with hy0 | hy0 | ⟨jj, hjj, rfl⟩
  · skip
    have hy : y < 0 ∨ nI n ≤ y := Or.inl hy0
    refine x_cV1 C yo_X3_keyAt m_X3_56 rfl rfl (by first | assumption | exact Nat.one_pos) (c_X3_keyAt_out l D dA base n ad I J R hT hG y hy) dX3_asks_8 rfl rfl (Nat.le_of_ble_eq_true rfl) ⟨by decide, by decide⟩ ⟨by decide, by decide⟩ ?_
    refine x_astoreN C dX3_asks_11 (by decide) rfl rfl ?_
    refine x_aload_nN C dX3_asks_13 rfl ?_
    refine x_ifnullN C 31 dX3_asks_14 (by decide) ?_
    refine x_iconst C (-1) (by decide) dX3_asks_31 ?_
    exact x_iret C (po_i _ _ _ _ _ _) dX3_asks_32
  · skip
    have hy : y < 0 ∨ nI n ≤ y := Or.inr hy0
    refine x_cV1 C yo_X3_keyAt m_X3_56 rfl rfl (by first | assumption | exact Nat.one_pos) (c_X3_keyAt_out l D dA base n ad I J R hT hG y hy) dX3_asks_8 rfl rfl (Nat.le_of_ble_eq_true rfl) ⟨by decide, by decide⟩ ⟨by decide, by decide⟩ ?_
    refine x_astoreN C dX3_asks_11 (by decide) rfl rfl ?_
    refine x_aload_nN C dX3_asks_13 rfl ?_
    refine x_ifnullN C 31 dX3_asks_14 (by decide) ?_
    refine x_iconst C (-1) (by decide) dX3_asks_31 ?_
    exact x_iret C (po_i _ _ _ _ _ _) dX3_asks_32
  · skip
    skip
    refine x_cV1 C yo_X3_keyAt m_X3_56 rfl rfl (by first | assumption | exact Nat.one_pos) (c_X3_keyAt_in l D dA base n ad I J R hT hG jj hjj) dX3_asks_8 rfl rfl (Nat.le_of_ble_eq_true rfl) ⟨by decide, by decide⟩ ⟨by decide, by decide⟩ ?_
    refine x_astore C dX3_asks_11 (by decide) rfl rfl ?_
    refine x_aload_nN C dX3_asks_13 rfl ?_
    refine x_ifnullN C 31 dX3_asks_14 (by decide) ?_
    refine x_iconst C (-1) (by decide) dX3_asks_31 ?_
    exact x_iret C (po_i _ _ _ _ _ _) dX3_asks_32

set_option maxRecDepth 100000 in
set_option maxHeartbeats 4000000 in
theorem c_X3_asks_o2 (l : Launch) (D : va_G) (dA : Nat → ClassId) (base n : Nat) (ad : Fa) (I : Fi) (J : Fj) (R : Fr) (hT : ST n R) (hG : KG n I R) (k : Nat) (hk : k < n) (hf : ¬ I 4 k 1 = -1) (x : Int32) (hx : x < 0 ∨ nI n ≤ x) : CT l D dA base yX3_asks cX3_asks 5 (some .int) 5 0 0 [.ref (ad 0 0), .int (nI k), .int x] ad (Nn n) I J R (po (some (.int (-1))) ad (Nn n) I J R) := by
  refine CT.of 2 (L0 := [some (.ref (ad 0 0)), some (.int (nI k)), some (.int x), none, none]) (by decide +kernel) rfl (Nat.le_of_ble_eq_true rfl) ?_
  intro p e s m args below meth c C
  refine x_aload_n C dX3_asks_0 rfl ?_
  refine x_iload_n C dX3_asks_1 rfl ?_
  refine x_cV1 C yo_X3_keyWithFunction m_X3_52 rfl rfl (by first | assumption | exact Nat.one_pos) (c_X3_kwf_in l D dA base n ad I J R hT hG k hk hf) dX3_asks_2 rfl rfl (Nat.le_of_ble_eq_true rfl) ⟨by decide, by decide⟩ ⟨by decide, by decide⟩ ?_
  refine x_astore_n C dX3_asks_5 (by decide) rfl rfl ?_
  refine x_aload_n C dX3_asks_6 rfl ?_
  refine x_iload_n C dX3_asks_7 rfl ?_
  refine x_cV1 C yo_X3_keyAt m_X3_56 rfl rfl (by first | assumption | exact Nat.one_pos) (c_X3_keyAt_out l D dA base n ad I J R hT hG x hx) dX3_asks_8 rfl rfl (Nat.le_of_ble_eq_true rfl) ⟨by decide, by decide⟩ ⟨by decide, by decide⟩ ?_
  refine x_astoreN C dX3_asks_11 (by decide) rfl rfl ?_
  refine x_aload_n C dX3_asks_13 rfl ?_
  refine x_ifnull C dX3_asks_14 ?_
  refine x_aloadN C dX3_asks_17 rfl ?_
  refine x_ifnullN C 31 dX3_asks_19 (by decide) ?_
  refine x_iconst C (-1) (by decide) dX3_asks_31 ?_
  exact x_iret C (po_i _ _ _ _ _ _) dX3_asks_32

set_option maxRecDepth 100000 in
set_option maxHeartbeats 4000000 in
theorem c_X3_asks_full (l : Launch) (D : va_G) (dA : Nat → ClassId) (base n : Nat) (ad : Fa) (I : Fi) (J : Fj) (R : Fr) (hT : ST n R) (hG : KG n I R) (k r : Nat) (hk : k < n) (j : Nat) (hj : j < n) (hf : ¬ I 4 k 1 = -1) (hr : I 4 k 3 = nI r) (hr8 : r ≤ 8) (hr9 : r = 8) : CT l D dA base yX3_asks cX3_asks 5 (some .int) 5 0 0 [.ref (ad 0 0), .int (nI k), .int (nI j)] ad (Nn n) I J R (po (some (.int (-1))) ad (Nn n) I J R) := by
  refine CT.of 2 (L0 := [some (.ref (ad 0 0)), some (.int (nI k)), some (.int (nI j)), none, none]) (by decide +kernel) rfl (Nat.le_of_ble_eq_true rfl) ?_
  intro p e s m args below meth c C
  refine x_aload_n C dX3_asks_0 rfl ?_
  refine x_iload_n C dX3_asks_1 rfl ?_
  refine x_cV1 C yo_X3_keyWithFunction m_X3_52 rfl rfl (by first | assumption | exact Nat.one_pos) (c_X3_kwf_in l D dA base n ad I J R hT hG k hk hf) dX3_asks_2 rfl rfl (Nat.le_of_ble_eq_true rfl) ⟨by decide, by decide⟩ ⟨by decide, by decide⟩ ?_
  refine x_astore_n C dX3_asks_5 (by decide) rfl rfl ?_
  refine x_aload_n C dX3_asks_6 rfl ?_
  refine x_iload_n C dX3_asks_7 rfl ?_
  refine x_cV1 C yo_X3_keyAt m_X3_56 rfl rfl (by first | assumption | exact Nat.one_pos) (c_X3_keyAt_in l D dA base n ad I J R hT hG j hj) dX3_asks_8 rfl rfl (Nat.le_of_ble_eq_true rfl) ⟨by decide, by decide⟩ ⟨by decide, by decide⟩ ?_
  refine x_astore C dX3_asks_11 (by decide) rfl rfl ?_
  refine x_aload_n C dX3_asks_13 rfl ?_
  refine x_ifnull C dX3_asks_14 ?_
  refine x_aload C dX3_asks_17 rfl ?_
  refine x_ifnull C dX3_asks_19 ?_
  refine x_aload_n C dX3_asks_22 rfl ?_
  refine x_getI C f_X3_59 rfl (by first | assumption | exact Nat.one_pos) dX3_asks_23 ?_
  refine x_bipush C 8 (by decide) dX3_asks_26 ?_
  refine x_icmp_lt C 33 dX3_asks_28 (by decide) (fun h28 => ?_) (fun h28 => ?_)
  · skip
    rw [hr, hr9] at h28
    exact absurd h28 (by decide)
  · skip
    refine x_iconst C (-1) (by decide) dX3_asks_31 ?_
    exact x_iret C (po_i _ _ _ _ _ _) dX3_asks_32

set_option maxRecDepth 100000 in
set_option maxHeartbeats 4000000 in
theorem c_X3_asks_ring (l : Launch) (D : va_G) (dA : Nat → ClassId) (base n : Nat) (ad : Fa) (I : Fi) (J : Fj) (R : Fr) (hT : ST n R) (hG : KG n I R) (k r : Nat) (hk : k < n) (j : Nat) (hj : j < n) (hf : ¬ I 4 k 1 = -1) (hr : I 4 k 3 = nI r) (hr8 : r ≤ 8) (hr7 : r < 8) (rs : Nat → Nat) (hW : RW n I R rs) (hb : bit (J 4 j 4) k = true) : CT l D dA base yX3_asks cX3_asks 5 (some .int) 5 0 0 [.ref (ad 0 0), .int (nI k), .int (nI j)] ad (Nn n) I J R (po (some (.int (-2))) ad (Nn n) (nrg (fun a => ftr R J a k (rs a) (rs a)) k 39 j 1 (up3 (up3 I 3 0 0 (nI k)) 0 0 5 1)) J R) := by
  refine CT.of 2 (L0 := [some (.ref (ad 0 0)), some (.int (nI k)), some (.int (nI j)), none, none]) (by decide +kernel) rfl (Nat.le_of_ble_eq_true rfl) ?_
  intro p e s m args below meth c C
  refine x_aload_n C dX3_asks_0 rfl ?_
  refine x_iload_n C dX3_asks_1 rfl ?_
  refine x_cV1 C yo_X3_keyWithFunction m_X3_52 rfl rfl (by first | assumption | exact Nat.one_pos) (c_X3_kwf_in l D dA base n ad I J R hT hG k hk hf) dX3_asks_2 rfl rfl (Nat.le_of_ble_eq_true rfl) ⟨by decide, by decide⟩ ⟨by decide, by decide⟩ ?_
  refine x_astore_n C dX3_asks_5 (by decide) rfl rfl ?_
  refine x_aload_n C dX3_asks_6 rfl ?_
  refine x_iload_n C dX3_asks_7 rfl ?_
  refine x_cV1 C yo_X3_keyAt m_X3_56 rfl rfl (by first | assumption | exact Nat.one_pos) (c_X3_keyAt_in l D dA base n ad I J R hT hG j hj) dX3_asks_8 rfl rfl (Nat.le_of_ble_eq_true rfl) ⟨by decide, by decide⟩ ⟨by decide, by decide⟩ ?_
  refine x_astore C dX3_asks_11 (by decide) rfl rfl ?_
  refine x_aload_n C dX3_asks_13 rfl ?_
  refine x_ifnull C dX3_asks_14 ?_
  refine x_aload C dX3_asks_17 rfl ?_
  refine x_ifnull C dX3_asks_19 ?_
  refine x_aload_n C dX3_asks_22 rfl ?_
  refine x_getI C f_X3_59 rfl (by first | assumption | exact Nat.one_pos) dX3_asks_23 ?_
  refine x_bipush C 8 (by decide) dX3_asks_26 ?_
  refine x_icmp_lt C 33 dX3_asks_28 (by decide) (fun h28 => ?_) (fun h28 => ?_)
  · skip
    refine x_aload C dX3_asks_33 rfl ?_
    refine x_aload_n C dX3_asks_35 rfl ?_
    refine x_cV1 C yo_X0_reaches m_X3_62 rfl rfl (by first | assumption | exact Nat.one_pos) (c_X0_reaches l D dA base n ad I J R hT j k hj hk (hG.2.2.2.2 k hk)) dX3_asks_36 rfl rfl (Nat.le_of_ble_eq_true rfl) ⟨by decide, by decide⟩ ⟨by decide, by decide⟩ ?_
    refine x_if_eq C 52 dX3_asks_39 (by decide) (fun h39 => ?_) (fun h39 => ?_)
    · skip
      rw [if_pos hb] at h39
      exact absurd h39 (by decide)
    · skip
      refine x_aload_n C dX3_asks_42 rfl ?_
      refine x_aload_n C dX3_asks_43 rfl ?_
      refine x_aload C dX3_asks_44 rfl ?_
      refine x_cV0 C yo_X3_noteRing m_X3_66 rfl rfl (by first | assumption | exact Nat.one_pos) (c_X3_noteRing l D dA base n ad I J R hT hG k j rs hk hj hW) dX3_asks_46 rfl rfl (Nat.le_of_ble_eq_true rfl) ⟨by decide, by decide⟩ ⟨by decide, by decide⟩ ?_
      refine x_bipush C (-2) (by decide) dX3_asks_49 ?_
      exact x_iret C (po_i _ _ _ _ _ _) dX3_asks_51
  · skip
    rw [hr] at h28
    exact absurd (nI_lt (b := 8) hr7 (by decide)) h28

theorem KG.upR {n : Nat} {I : Fi} {R : Fr} (h : KG n I R) {c i k : Nat} {v : Option Nat} (h1 : ¬ c = 1) (h2 : ¬ c = 2) : KG n I (up3 R c i k v) := ⟨h.1, h.2.1, fun q hq => by rw [up3_c _ _ _ _ _ (Ne.symm h1)]; exact h.2.2.1 q hq, fun q hq => by rw [up3_c _ _ _ _ _ (Ne.symm h2)]; exact h.2.2.2.1 q hq, h.2.2.2.2⟩
theorem PL.upR {n : Nat} {I : Fi} {R : Fr} {zs : Nat → Nat} (h : PL n I R zs) {c i k : Nat} {v : Option Nat} (h1 : ¬ c = 10) : PL n I (up3 R c i k v) zs := fun q hq => ⟨(h q hq).1, (h q hq).2.1, fun j hj => by rw [up3_c _ _ _ _ _ (Ne.symm h1)]; exact (h q hq).2.2 j hj⟩
set_option maxRecDepth 100000 in
set_option maxHeartbeats 4000000 in
theorem c_X3_asks_yes (l : Launch) (D : va_G) (dA : Nat → ClassId) (base n : Nat) (ad : Fa) (I : Fi) (J : Fj) (R : Fr) (hT : ST n R) (hG : KG n I R) (k r : Nat) (hk : k < n) (j : Nat) (hj : j < n) (hf : ¬ I 4 k 1 = -1) (hr : I 4 k 3 = nI r) (hr8 : r ≤ 8) (hr7 : r < 8) (zs : Nat → Nat) (hP : PL n I R zs) (hb : bit (J 4 j 4) k = false) : CT l D dA base yX3_asks cX3_asks 5 (some .int) 5 0 0 [.ref (ad 0 0), .int (nI k), .int (nI j)] ad (Nn n) I J R (po (some (.int 1)) ad (Nn n) (up3 (nvI (up3 R 5 k r (some j)) zs (up3 I 4 k 3 (nI (r + 1)))) 4 k 6 (I 0 0 2 + 1)) (spr k j J n) (up3 R 5 k r (some j))) := by
  refine CT.of 2 (L0 := [some (.ref (ad 0 0)), some (.int (nI k)), some (.int (nI j)), none, none]) (by decide +kernel) rfl (Nat.le_of_ble_eq_true rfl) ?_
  intro p e s m args below meth c C
  refine x_aload_n C dX3_asks_0 rfl ?_
  refine x_iload_n C dX3_asks_1 rfl ?_
  refine x_cV1 C yo_X3_keyWithFunction m_X3_52 rfl rfl (by first | assumption | exact Nat.one_pos) (c_X3_kwf_in l D dA base n ad I J R hT hG k hk hf) dX3_asks_2 rfl rfl (Nat.le_of_ble_eq_true rfl) ⟨by decide, by decide⟩ ⟨by decide, by decide⟩ ?_
  refine x_astore_n C dX3_asks_5 (by decide) rfl rfl ?_
  refine x_aload_n C dX3_asks_6 rfl ?_
  refine x_iload_n C dX3_asks_7 rfl ?_
  refine x_cV1 C yo_X3_keyAt m_X3_56 rfl rfl (by first | assumption | exact Nat.one_pos) (c_X3_keyAt_in l D dA base n ad I J R hT hG j hj) dX3_asks_8 rfl rfl (Nat.le_of_ble_eq_true rfl) ⟨by decide, by decide⟩ ⟨by decide, by decide⟩ ?_
  refine x_astore C dX3_asks_11 (by decide) rfl rfl ?_
  refine x_aload_n C dX3_asks_13 rfl ?_
  refine x_ifnull C dX3_asks_14 ?_
  refine x_aload C dX3_asks_17 rfl ?_
  refine x_ifnull C dX3_asks_19 ?_
  refine x_aload_n C dX3_asks_22 rfl ?_
  refine x_getI C f_X3_59 rfl (by first | assumption | exact Nat.one_pos) dX3_asks_23 ?_
  refine x_bipush C 8 (by decide) dX3_asks_26 ?_
  refine x_icmp_lt C 33 dX3_asks_28 (by decide) (fun h28 => ?_) (fun h28 => ?_)
  · skip
    refine x_aload C dX3_asks_33 rfl ?_
    refine x_aload_n C dX3_asks_35 rfl ?_
    refine x_cV1 C yo_X0_reaches m_X3_62 rfl rfl (by first | assumption | exact Nat.one_pos) (c_X0_reaches l D dA base n ad I J R hT j k hj hk (hG.2.2.2.2 k hk)) dX3_asks_36 rfl rfl (Nat.le_of_ble_eq_true rfl) ⟨by decide, by decide⟩ ⟨by decide, by decide⟩ ?_
    refine x_if_eq C 52 dX3_asks_39 (by decide) (fun h39 => ?_) (fun h39 => ?_)
    · skip
      refine x_aload_n C dX3_asks_52 rfl ?_
      refine x_getF C hT f_X3_70 rfl rfl (by first | assumption | exact Nat.one_pos) dX3_asks_53 ?_
      refine x_aload_n C dX3_asks_56 rfl ?_
      refine x_getI C f_X3_59 rfl (by first | assumption | exact Nat.one_pos) dX3_asks_57 ?_
      refine x_aload C dX3_asks_60 rfl ?_
      refine x_aastN C (r) hr rfl rfl rfl rfl rfl (by first | assumption | exact Nat.one_pos) (by first | assumption | exact Nat.one_pos) (by omega) (by decide) dX3_asks_62 ?_
      have hT := ST.up (c := 5) (i := k) (k := r) (v := some j) hT rfl
      have hG1 : KG n (up3 I 4 k 3 (nI (r + 1))) (up3 R 5 k r (some j)) := (hG.upR (by decide) (by decide)).up (by decide) (by decide)
      have hP1 : PL n (up3 I 4 k 3 (nI (r + 1))) (up3 R 5 k r (some j)) zs := (hP.upR (by decide)).up (by decide)
      refine x_aload_n C dX3_asks_63 rfl ?_
      refine x_dup C rfl dX3_asks_64 ?_
      refine x_getI C f_X3_59 rfl (by first | assumption | exact Nat.one_pos) dX3_asks_65 ?_
      refine x_iconst C 1 (by decide) dX3_asks_68 ?_
      refine x_iadd C dX3_asks_69 ?_
      rw [hr, nI_1]
      refine x_putI C g_X3_59 rfl (by first | assumption | exact Nat.one_pos) dX3_asks_70 ?_
      refine x_aload_n C dX3_asks_73 rfl ?_
      refine x_aload_n C dX3_asks_74 rfl ?_
      refine x_aload C dX3_asks_75 rfl ?_
      refine x_cV0 C yo_X3_spreadReach m_X3_73 rfl rfl (by first | assumption | exact Nat.one_pos) (c_X3_spreadReach l D dA base n ad (up3 I 4 k 3 (nI (r + 1))) J (up3 R 5 k r (some j)) hT hG1 k j hk hj) dX3_asks_77 rfl rfl (Nat.le_of_ble_eq_true rfl) ⟨by decide, by decide⟩ ⟨by decide, by decide⟩ ?_
      refine x_aload_n C dX3_asks_80 rfl ?_
      refine x_cV0 C yo_X3_goToNextVersion m_X3_76 rfl rfl (by first | assumption | exact Nat.one_pos) (c_X3_goToNextVersion l D dA base n ad (up3 I 4 k 3 (nI (r + 1))) (spr k j J n) (up3 R 5 k r (some j)) hT hG1 zs hP1) dX3_asks_81 rfl rfl (Nat.le_of_ble_eq_true rfl) ⟨by decide, by decide⟩ ⟨by decide, by decide⟩ ?_
      refine x_aload_n C dX3_asks_84 rfl ?_
      refine x_aload_n C dX3_asks_85 rfl ?_
      refine x_getI C f_X3_42 rfl (by first | assumption | exact Nat.one_pos) dX3_asks_86 ?_
      refine x_putI C g_X3_79 rfl (by first | assumption | exact Nat.one_pos) dX3_asks_89 ?_
      refine x_iconst C 1 (by decide) dX3_asks_92 ?_
      exact x_iret C (⟨rfl, rfl, rfl, by (rw [nvI_v, up3_c _ _ _ _ _ (show (0 : Nat) ≠ 4 by decide)]), rfl, rfl⟩) dX3_asks_93
    · skip
      rw [hb] at h39
      exact absurd rfl h39
  · skip
    rw [hr] at h28
    exact absurd (nI_lt (b := 8) hr7 (by decide)) h28

set_option maxRecDepth 100000 in
set_option maxHeartbeats 4000000 in
theorem c_X3_leaf_full0 (l : Launch) (D : va_G) (dA : Nat → ClassId) (base n : Nat) (ad : Fa) (I : Fi) (J : Fj) (R : Fr) (hT : ST n R) (hc : I 0 0 1 = nI 40) (v : Int64) : CT l D dA base yX3_leaf cX3_leaf 4 (some .int) 3 0 0 [.ref (ad 0 0), .long v] ad (Nn n) I J R (po (some (.int (-1))) ad (Nn n) I J R) := by
  refine CT.of 1 (L0 := [some (.ref (ad 0 0)), some (.long v), none, none]) (by decide +kernel) rfl (Nat.le_of_ble_eq_true rfl) ?_
  intro p e s m args below meth c C
  refine x_aload_n C dX3_leaf_0 rfl ?_
  refine x_getI C f_X3_26 rfl (by first | assumption | exact Nat.one_pos) dX3_leaf_1 ?_
  refine x_bipush C 40 (by decide) dX3_leaf_4 ?_
  refine x_icmp_lt C 11 dX3_leaf_6 (by decide) (fun h6 => ?_) (fun h6 => ?_)
  · skip
    rw [hc] at h6
    exact absurd h6 (by decide)
  · skip
    refine x_iconst C (-1) (by decide) dX3_leaf_9 ?_
    exact x_iret C (po_i _ _ _ _ _ _) dX3_leaf_10

set_option maxRecDepth 100000 in
set_option maxHeartbeats 4000000 in
theorem c_X3_key_full (l : Launch) (D : va_G) (dA : Nat → ClassId) (base n : Nat) (ad : Fa) (I : Fi) (J : Fj) (R : Fr) (hT : ST n R) (hc : I 0 0 1 = nI 40) (f : Int32) : CT l D dA base yX3_key cX3_key 2 (some .int) 3 0 0 [.ref (ad 0 0), .int f] ad (Nn n) I J R (po (some (.int (-1))) ad (Nn n) I J R) := by
  refine CT.of 0 (L0 := [some (.ref (ad 0 0)), some (.int f)]) (by decide +kernel) rfl (Nat.le_of_ble_eq_true rfl) ?_
  intro p e s m args below meth c C
  refine x_aload_n C dX3_key_0 rfl ?_
  refine x_getI C f_X3_26 rfl (by first | assumption | exact Nat.one_pos) dX3_key_1 ?_
  refine x_bipush C 40 (by decide) dX3_key_4 ?_
  refine x_icmp_ge C 19 dX3_key_6 (by decide) (fun h6 => ?_) (fun h6 => ?_)
  · skip
    refine x_iconst C (-1) (by decide) dX3_key_19 ?_
    exact x_iret C (po_i _ _ _ _ _ _) dX3_key_20
  · skip
    rw [hc] at h6
    exact absurd (by decide) h6

set_option maxRecDepth 100000 in
set_option maxHeartbeats 4000000 in
theorem c_X3_key_none (l : Launch) (D : va_G) (dA : Nat → ClassId) (base n : Nat) (ad : Fa) (I : Fi) (J : Fj) (R : Fr) (hT : ST n R) (f : Int32) (hf : f < 0 ∨ 6 ≤ f) : CT l D dA base yX3_key cX3_key 2 (some .int) 3 0 0 [.ref (ad 0 0), .int f] ad (Nn n) I J R (po (some (.int (-1))) ad (Nn n) I J R) := by
  refine CT.of 0 (L0 := [some (.ref (ad 0 0)), some (.int f)]) (by decide +kernel) rfl (Nat.le_of_ble_eq_true rfl) ?_
  intro p e s m args below meth c C
  refine x_aload_n C dX3_key_0 rfl ?_
  refine x_getI C f_X3_26 rfl (by first | assumption | exact Nat.one_pos) dX3_key_1 ?_
  refine x_bipush C 40 (by decide) dX3_key_4 ?_
  refine x_icmp_ge C 19 dX3_key_6 (by decide) (fun h6 => ?_) (fun h6 => ?_)
  · skip
    refine x_iconst C (-1) (by decide) dX3_key_19 ?_
    exact x_iret C (po_i _ _ _ _ _ _) dX3_key_20
  · skip
    refine x_iload_n C dX3_key_9 rfl ?_
    refine x_if_lt C 19 dX3_key_10 (by decide) (fun h10 => ?_) (fun h10 => ?_)
    · skip
      refine x_iconst C (-1) (by decide) dX3_key_19 ?_
      exact x_iret C (po_i _ _ _ _ _ _) dX3_key_20
    · skip
      refine x_iload_n C dX3_key_13 rfl ?_
      refine x_bipush C 6 (by decide) dX3_key_14 ?_
      refine x_icmp_lt C 21 dX3_key_16 (by decide) (fun h16 => ?_) (fun h16 => ?_)
      · skip
        exact absurd h16 (hf.elim (fun q => absurd q h10) (fun q => Int32.not_lt.mpr q))
      · skip
        refine x_iconst C (-1) (by decide) dX3_key_19 ?_
        exact x_iret C (po_i _ _ _ _ _ _) dX3_key_20
end
section
/-! the reference: small methods -/
theorem ix8 (k j : Nat) : (8 : Int32) * nI k + nI j = nI (8 * k + j) := by rw [show (8 : Int32) = nI 8 from rfl, pk_mul, nI_add]
theorem ix40 (k j : Nat) : (40 : Int32) * nI k + nI j = nI (40 * k + j) := by rw [show (40 : Int32) = nI 40 from rfl, pk_mul, nI_add]
/-- the reference has n keys -/
def MG (n : Nat) (I : Fi) : Prop := I 11 0 2 = nI n ∧ n ≤ 40
theorem MG.up {n : Nat} {I : Fi} (h : MG n I) {c i k : Nat} {v : Int32} (hc : ¬ (c = 11 ∧ k = 2)) : MG n (up3 I c i k v) := ⟨by rw [up3_n _ _ _ _ _ (fun z => hc ⟨z.1.symm, z.2.2.symm⟩)]; exact h.1, h.2⟩
set_option maxRecDepth 100000 in
set_option maxHeartbeats 4000000 in
theorem c_X4_isKey_in (l : Launch) (D : va_G) (dA : Nat → ClassId) (base n : Nat) (ad : Fa) (I : Fi) (J : Fj) (R : Fr) (hT : ST n R) (hM : MG n I) (k : Nat) (hk : k < n)  : CT l D dA base yX4_isKey cX4_isKey 2 (some .boolean) 0 0 0 [.ref (ad 11 0), .int (nI k)] ad (Nn n) I J R (po (some (.int 1)) ad (Nn n) I J R) := by
  refine CT.of 0 (L0 := [some (.ref (ad 11 0)), some (.int (nI k))]) (by decide +kernel) rfl (Nat.le_of_ble_eq_true rfl) ?_
  intro p e s m args below meth c C
  have hn40 := hM.2
  refine x_iload_n C dX4_isKey_0 rfl ?_
  refine x_if_lt C 16 dX4_isKey_1 (by decide) (fun h1 => ?_) (fun h1 => ?_)
  · skip
    exact absurd h1 (nI_pos (by omega))
  · skip
    refine x_iload_n C dX4_isKey_4 rfl ?_
    refine x_aload_n C dX4_isKey_5 rfl ?_
    refine x_getI C f_X4_79 rfl (by first | assumption | exact Nat.one_pos) dX4_isKey_6 ?_
    refine x_icmp_ge C 16 dX4_isKey_9 (by decide) (fun h9 => ?_) (fun h9 => ?_)
    · skip
      rw [hM.1] at h9
      exact absurd h9 (nI_ge hk (by omega))
    · skip
      refine x_iconst C 1 (by decide) dX4_isKey_12 ?_
      refine x_goto C 17 dX4_isKey_13 (by decide) ?_
      exact x_zret C (by first | exact Or.inl rfl | exact Or.inr rfl | assumption) (po_i _ _ _ _ _ _) dX4_isKey_17

set_option maxRecDepth 100000 in
set_option maxHeartbeats 4000000 in
theorem c_X4_isKey_out (l : Launch) (D : va_G) (dA : Nat → ClassId) (base n : Nat) (ad : Fa) (I : Fi) (J : Fj) (R : Fr) (hT : ST n R) (hM : MG n I) (x : Int32) (hx : x < 0 ∨ nI n ≤ x)  : CT l D dA base yX4_isKey cX4_isKey 2 (some .boolean) 0 0 0 [.ref (ad 11 0), .int x] ad (Nn n) I J R (po (some (.int 0)) ad (Nn n) I J R) := by
  refine CT.of 0 (L0 := [some (.ref (ad 11 0)), some (.int x)]) (by decide +kernel) rfl (Nat.le_of_ble_eq_true rfl) ?_
  intro p e s m args below meth c C
  refine x_iload_n C dX4_isKey_0 rfl ?_
  refine x_if_lt C 16 dX4_isKey_1 (by decide) (fun h1 => ?_) (fun h1 => ?_)
  · skip
    refine x_iconst C 0 (by decide) dX4_isKey_16 ?_
    exact x_zret C (by first | exact Or.inl rfl | exact Or.inr rfl | assumption) (po_i _ _ _ _ _ _) dX4_isKey_17
  · skip
    refine x_iload_n C dX4_isKey_4 rfl ?_
    refine x_aload_n C dX4_isKey_5 rfl ?_
    refine x_getI C f_X4_79 rfl (by first | assumption | exact Nat.one_pos) dX4_isKey_6 ?_
    refine x_icmp_ge C 16 dX4_isKey_9 (by decide) (fun h9 => ?_) (fun h9 => ?_)
    · skip
      refine x_iconst C 0 (by decide) dX4_isKey_16 ?_
      exact x_zret C (by first | exact Or.inl rfl | exact Or.inr rfl | assumption) (po_i _ _ _ _ _ _) dX4_isKey_17
    · skip
      rw [hM.1] at h9
      exact absurd (hx.elim (fun q => absurd q h1) id) h9

set_option maxRecDepth 100000 in
set_option maxHeartbeats 4000000 in
theorem c_X4_isLeaf_in (l : Launch) (D : va_G) (dA : Nat → ClassId) (base n : Nat) (ad : Fa) (I : Fi) (J : Fj) (R : Fr) (hT : ST n R) (hM : MG n I) (k : Nat) (hk : k < n)  : CT l D dA base yX4_isLeaf cX4_isLeaf 2 (some .boolean) 1 0 0 [.ref (ad 11 0), .int (nI k)] ad (Nn n) I J R (po (some (.int (if I 23 0 k = -1 then 1 else 0))) ad (Nn n) I J R) := by
  refine CT.of 0 (L0 := [some (.ref (ad 11 0)), some (.int (nI k))]) (by decide +kernel) rfl (Nat.le_of_ble_eq_true rfl) ?_
  intro p e s m args below meth c C
  have hn40 := hM.2
  refine x_aload_n C dX4_isLeaf_0 rfl ?_
  refine x_iload_n C dX4_isLeaf_1 rfl ?_
  refine x_cV1 C yo_X4_isKey m_X4_82 rfl rfl (by first | assumption | exact Nat.one_pos) (c_X4_isKey_in l D dA base n ad I J R hT hM k hk) dX4_isLeaf_2 rfl rfl (Nat.le_of_ble_eq_true rfl) ⟨by decide, by decide⟩ ⟨by decide, by decide⟩ ?_
  refine x_if_eq C 22 dX4_isLeaf_5 (by decide) (fun h5 => ?_) (fun h5 => ?_)
  · skip
    exact absurd h5 (by decide)
  · skip
    refine x_aload_n C dX4_isLeaf_8 rfl ?_
    refine x_getF C hT f_X4_7 rfl rfl (by first | assumption | exact Nat.one_pos) dX4_isLeaf_9 ?_
    refine x_iload_n C dX4_isLeaf_12 rfl ?_
    refine x_ialdN C (k) rfl rfl rfl (by first | assumption | exact Nat.one_pos) (by omega) (by decide) dX4_isLeaf_13 ?_
    refine x_iconst C (-1) (by decide) dX4_isLeaf_14 ?_
    refine x_icmp_ne C 22 dX4_isLeaf_15 (by decide) (fun h15 => ?_) (fun h15 => ?_)
    · skip
      refine x_iconst C 0 (by decide) dX4_isLeaf_22 ?_
      exact x_zret C (by first | exact Or.inl rfl | exact Or.inr rfl | assumption) (po_r (by simp_all)) dX4_isLeaf_23
    · skip
      refine x_iconst C 1 (by decide) dX4_isLeaf_18 ?_
      refine x_goto C 23 dX4_isLeaf_19 (by decide) ?_
      exact x_zret C (by first | exact Or.inl rfl | exact Or.inr rfl | assumption) (po_r (by simp_all)) dX4_isLeaf_23

set_option maxRecDepth 100000 in
set_option maxHeartbeats 4000000 in
theorem c_X4_isLeaf_out (l : Launch) (D : va_G) (dA : Nat → ClassId) (base n : Nat) (ad : Fa) (I : Fi) (J : Fj) (R : Fr) (hT : ST n R) (hM : MG n I) (x : Int32) (hx : x < 0 ∨ nI n ≤ x)  : CT l D dA base yX4_isLeaf cX4_isLeaf 2 (some .boolean) 1 0 0 [.ref (ad 11 0), .int x] ad (Nn n) I J R (po (some (.int 0)) ad (Nn n) I J R) := by
  refine CT.of 0 (L0 := [some (.ref (ad 11 0)), some (.int x)]) (by decide +kernel) rfl (Nat.le_of_ble_eq_true rfl) ?_
  intro p e s m args below meth c C
  refine x_aload_n C dX4_isLeaf_0 rfl ?_
  refine x_iload_n C dX4_isLeaf_1 rfl ?_
  refine x_cV1 C yo_X4_isKey m_X4_82 rfl rfl (by first | assumption | exact Nat.one_pos) (c_X4_isKey_out l D dA base n ad I J R hT hM x hx) dX4_isLeaf_2 rfl rfl (Nat.le_of_ble_eq_true rfl) ⟨by decide, by decide⟩ ⟨by decide, by decide⟩ ?_
  refine x_if_eq C 22 dX4_isLeaf_5 (by decide) (fun h5 => ?_) (fun h5 => ?_)
  · skip
    refine x_iconst C 0 (by decide) dX4_isLeaf_22 ?_
    exact x_zret C (by first | exact Or.inl rfl | exact Or.inr rfl | assumption) (po_i _ _ _ _ _ _) dX4_isLeaf_23
  · skip
    exact absurd rfl h5

def mkI (I : Fi) (n : Nat) (f : Int32) : Fi := up3 (up3 (up3 (up3 (up3 I 23 0 n f) 27 0 n (-1)) 28 0 n (I 11 0 1)) 29 0 n (-1)) 11 0 2 (nI (n + 1))
set_option maxRecDepth 100000 in
set_option maxHeartbeats 4000000 in
theorem c_X4_make (l : Launch) (D : va_G) (dA : Nat → ClassId) (base n : Nat) (ad : Fa) (I : Fi) (J : Fj) (R : Fr) (hT : ST n R) (q : Nat) (hk : I 11 0 2 = nI q) (hq : q < 40) (f : Int32) : CT l D dA base yX4_make cX4_make 2 (some .int) 0 0 0 [.ref (ad 11 0), .int f] ad (Nn n) I J R (po (some (.int (nI q))) ad (Nn n) (mkI I q f) J R) := by
  refine CT.of 0 (L0 := [some (.ref (ad 11 0)), some (.int f)]) (by decide +kernel) rfl (Nat.le_of_ble_eq_true rfl) ?_
  intro p e s m args below meth c C
  refine x_aload_n C dX4_make_0 rfl ?_
  refine x_getF C hT f_X4_7 rfl rfl (by first | assumption | exact Nat.one_pos) dX4_make_1 ?_
  refine x_aload_n C dX4_make_4 rfl ?_
  refine x_getI C f_X4_79 rfl (by first | assumption | exact Nat.one_pos) dX4_make_5 ?_
  try simp only [up3_r, Nat.reduceEqDiff, and_false, false_and, and_self, and_true, true_and, reduceIte]
  refine x_iload_n C dX4_make_8 rfl ?_
  refine x_iastN C (q) hk rfl rfl (by first | assumption | exact Nat.one_pos) hq (by decide) dX4_make_9 ?_
  refine x_aload_n C dX4_make_10 rfl ?_
  refine x_getF C hT f_X4_22 rfl rfl (by first | assumption | exact Nat.one_pos) dX4_make_11 ?_
  refine x_aload_n C dX4_make_14 rfl ?_
  refine x_getI C f_X4_79 rfl (by first | assumption | exact Nat.one_pos) dX4_make_15 ?_
  try simp only [up3_r, Nat.reduceEqDiff, and_false, false_and, and_self, and_true, true_and, reduceIte]
  refine x_iconst C (-1) (by decide) dX4_make_18 ?_
  refine x_iastN C (q) hk rfl rfl (by first | assumption | exact Nat.one_pos) hq (by decide) dX4_make_19 ?_
  refine x_aload_n C dX4_make_20 rfl ?_
  refine x_getF C hT f_X4_25 rfl rfl (by first | assumption | exact Nat.one_pos) dX4_make_21 ?_
  refine x_aload_n C dX4_make_24 rfl ?_
  refine x_getI C f_X4_79 rfl (by first | assumption | exact Nat.one_pos) dX4_make_25 ?_
  try simp only [up3_r, Nat.reduceEqDiff, and_false, false_and, and_self, and_true, true_and, reduceIte]
  refine x_aload_n C dX4_make_28 rfl ?_
  refine x_getI C f_X4_86 rfl (by first | assumption | exact Nat.one_pos) dX4_make_29 ?_
  try simp only [up3_r, Nat.reduceEqDiff, and_false, false_and, and_self, and_true, true_and, reduceIte]
  refine x_iastN C (q) hk rfl rfl (by first | assumption | exact Nat.one_pos) hq (by decide) dX4_make_32 ?_
  refine x_aload_n C dX4_make_33 rfl ?_
  refine x_getF C hT f_X4_28 rfl rfl (by first | assumption | exact Nat.one_pos) dX4_make_34 ?_
  refine x_aload_n C dX4_make_37 rfl ?_
  refine x_getI C f_X4_79 rfl (by first | assumption | exact Nat.one_pos) dX4_make_38 ?_
  try simp only [up3_r, Nat.reduceEqDiff, and_false, false_and, and_self, and_true, true_and, reduceIte]
  refine x_iconst C (-1) (by decide) dX4_make_41 ?_
  refine x_iastN C (q) hk rfl rfl (by first | assumption | exact Nat.one_pos) hq (by decide) dX4_make_42 ?_
  refine x_aload_n C dX4_make_43 rfl ?_
  refine x_dup C rfl dX4_make_44 ?_
  refine x_getI C f_X4_79 rfl (by first | assumption | exact Nat.one_pos) dX4_make_45 ?_
  try simp only [up3_r, Nat.reduceEqDiff, and_false, false_and, and_self, and_true, true_and, reduceIte]
  refine x_iconst C 1 (by decide) dX4_make_48 ?_
  refine x_iadd C dX4_make_49 ?_
  refine x_putI C g_X4_79 rfl (by first | assumption | exact Nat.one_pos) dX4_make_50 ?_
  refine x_aload_n C dX4_make_53 rfl ?_
  refine x_getI C f_X4_79 rfl (by first | assumption | exact Nat.one_pos) dX4_make_54 ?_
  try simp only [up3_r, Nat.reduceEqDiff, and_false, false_and, and_self, and_true, true_and, reduceIte]
  refine x_iconst C 1 (by decide) dX4_make_57 ?_
  refine x_isub C dX4_make_58 ?_
  exact x_iret C (⟨by rw [hk, nI_1, nI_pred], rfl, rfl, by (unfold mkI; rw [hk, nI_1]), rfl, rfl⟩) dX4_make_59

set_option maxRecDepth 100000 in
set_option maxHeartbeats 4000000 in
theorem c_X4_leaf (l : Launch) (D : va_G) (dA : Nat → ClassId) (base n : Nat) (ad : Fa) (I : Fi) (J : Fj) (R : Fr) (hT : ST n R) (hM : MG n I) (hn : n < 40) (v : Int64) : CT l D dA base yX4_leaf cX4_leaf 3 (some .int) 1 0 0 [.ref (ad 11 0), .long v] ad (Nn n) I J R (po (some (.int (nI n))) ad (Nn n) (mkI (up3 (up3 I 11 0 0 0) 26 0 n 1) n (-1)) (up3 J 34 0 n v) R) := by
  refine CT.of 0 (L0 := [some (.ref (ad 11 0)), some (.long v), none]) (by decide +kernel) rfl (Nat.le_of_ble_eq_true rfl) ?_
  intro p e s m args below meth c C
  refine x_aload_n C dX4_leaf_0 rfl ?_
  refine x_iconst C 0 (by decide) dX4_leaf_1 ?_
  refine x_putI C g_X4_75 rfl (by first | assumption | exact Nat.one_pos) dX4_leaf_2 ?_
  refine x_aload_n C dX4_leaf_5 rfl ?_
  refine x_getI C f_X4_79 rfl (by first | assumption | exact Nat.one_pos) dX4_leaf_6 ?_
  try simp only [up3_r, Nat.reduceEqDiff, and_false, false_and, and_self, and_true, true_and, reduceIte]
  refine x_bipush C 40 (by decide) dX4_leaf_9 ?_
  refine x_icmp_ne C 16 dX4_leaf_11 (by decide) (fun h11 => ?_) (fun h11 => ?_)
  · skip
    refine x_aload_n C dX4_leaf_16 rfl ?_
    refine x_getF C hT f_X4_43 rfl rfl (by first | assumption | exact Nat.one_pos) dX4_leaf_17 ?_
    refine x_aload_n C dX4_leaf_20 rfl ?_
    refine x_getI C f_X4_79 rfl (by first | assumption | exact Nat.one_pos) dX4_leaf_21 ?_
    try simp only [up3_r, Nat.reduceEqDiff, and_false, false_and, and_self, and_true, true_and, reduceIte]
    refine x_lload_n C dX4_leaf_24 rfl ?_
    refine x_lastN C (n) hM.1 rfl rfl (by first | assumption | exact Nat.one_pos) hn (by decide) dX4_leaf_25 ?_
    refine x_aload_n C dX4_leaf_26 rfl ?_
    refine x_getF C hT f_X4_19 rfl rfl (by first | assumption | exact Nat.one_pos) dX4_leaf_27 ?_
    refine x_aload_n C dX4_leaf_30 rfl ?_
    refine x_getI C f_X4_79 rfl (by first | assumption | exact Nat.one_pos) dX4_leaf_31 ?_
    try simp only [up3_r, Nat.reduceEqDiff, and_false, false_and, and_self, and_true, true_and, reduceIte]
    refine x_iconst C 1 (by decide) dX4_leaf_34 ?_
    refine x_iastN C (n) hM.1 rfl rfl (by first | assumption | exact Nat.one_pos) hn (by decide) dX4_leaf_35 ?_
    refine x_aload_n C dX4_leaf_36 rfl ?_
    refine x_iconst C (-1) (by decide) dX4_leaf_37 ?_
    refine x_cV1 C yo_X4_make m_X4_89 rfl rfl (by first | assumption | exact Nat.one_pos) (c_X4_make l D dA base n ad (up3 (up3 I 11 0 0 0) 26 0 n 1) (up3 J 34 0 n v) R hT n (by simp [up3, hM.1]) hn (-1)) dX4_leaf_38 rfl rfl (Nat.le_of_ble_eq_true rfl) ⟨by decide, by decide⟩ ⟨by decide, by decide⟩ ?_
    exact x_iret C (po_i _ _ _ _ _ _) dX4_leaf_41
  · skip
    rw [hM.1] at h11
    exact absurd ((nI_eq (b := 40) (by omega) (by decide)).mp h11) (by omega)

set_option maxRecDepth 100000 in
set_option maxHeartbeats 4000000 in
theorem c_X4_leaf_full (l : Launch) (D : va_G) (dA : Nat → ClassId) (base n : Nat) (ad : Fa) (I : Fi) (J : Fj) (R : Fr) (hT : ST n R) (hM : I 11 0 2 = nI 40) (v : Int64) : CT l D dA base yX4_leaf cX4_leaf 3 (some .int) 1 0 0 [.ref (ad 11 0), .long v] ad (Nn n) I J R (po (some (.int (-1))) ad (Nn n) (up3 I 11 0 0 0) J R) := by
  refine CT.of 0 (L0 := [some (.ref (ad 11 0)), some (.long v), none]) (by decide +kernel) rfl (Nat.le_of_ble_eq_true rfl) ?_
  intro p e s m args below meth c C
  refine x_aload_n C dX4_leaf_0 rfl ?_
  refine x_iconst C 0 (by decide) dX4_leaf_1 ?_
  refine x_putI C g_X4_75 rfl (by first | assumption | exact Nat.one_pos) dX4_leaf_2 ?_
  refine x_aload_n C dX4_leaf_5 rfl ?_
  refine x_getI C f_X4_79 rfl (by first | assumption | exact Nat.one_pos) dX4_leaf_6 ?_
  try simp only [up3_r, Nat.reduceEqDiff, and_false, false_and, and_self, and_true, true_and, reduceIte]
  refine x_bipush C 40 (by decide) dX4_leaf_9 ?_
  refine x_icmp_ne C 16 dX4_leaf_11 (by decide) (fun h11 => ?_) (fun h11 => ?_)
  · skip
    rw [hM] at h11
    exact absurd rfl h11
  · skip
    refine x_iconst C (-1) (by decide) dX4_leaf_14 ?_
    exact x_iret C (po_i _ _ _ _ _ _) dX4_leaf_15

set_option maxRecDepth 100000 in
set_option maxHeartbeats 4000000 in
theorem c_X4_key (l : Launch) (D : va_G) (dA : Nat → ClassId) (base n : Nat) (ad : Fa) (I : Fi) (J : Fj) (R : Fr) (hT : ST n R) (hM : MG n I) (hn : n < 40) (f : Nat) (hf : f < 6) : CT l D dA base yX4_key cX4_key 2 (some .int) 1 0 0 [.ref (ad 11 0), .int (nI f)] ad (Nn n) I J R (po (some (.int (nI n))) ad (Nn n) (mkI (up3 I 11 0 0 0) n (nI f)) J R) := by
  refine CT.of 0 (L0 := [some (.ref (ad 11 0)), some (.int (nI f))]) (by decide +kernel) rfl (Nat.le_of_ble_eq_true rfl) ?_
  intro p e s m args below meth c C
  refine x_aload_n C dX4_key_0 rfl ?_
  refine x_iconst C 0 (by decide) dX4_key_1 ?_
  refine x_putI C g_X4_75 rfl (by first | assumption | exact Nat.one_pos) dX4_key_2 ?_
  refine x_aload_n C dX4_key_5 rfl ?_
  refine x_getI C f_X4_79 rfl (by first | assumption | exact Nat.one_pos) dX4_key_6 ?_
  try simp only [up3_r, Nat.reduceEqDiff, and_false, false_and, and_self, and_true, true_and, reduceIte]
  refine x_bipush C 40 (by decide) dX4_key_9 ?_
  refine x_icmp_eq C 24 dX4_key_11 (by decide) (fun h11 => ?_) (fun h11 => ?_)
  · skip
    rw [hM.1] at h11
    exact absurd ((nI_eq (b := 40) (by omega) (by decide)).mp h11) (by omega)
  · skip
    refine x_iload_n C dX4_key_14 rfl ?_
    refine x_if_lt C 24 dX4_key_15 (by decide) (fun h15 => ?_) (fun h15 => ?_)
    · skip
      exact absurd h15 (nI_pos (by omega))
    · skip
      refine x_iload_n C dX4_key_18 rfl ?_
      refine x_bipush C 6 (by decide) dX4_key_19 ?_
      refine x_icmp_lt C 28 dX4_key_21 (by decide) (fun h21 => ?_) (fun h21 => ?_)
      · skip
        refine x_aload_n C dX4_key_28 rfl ?_
        refine x_iload_n C dX4_key_29 rfl ?_
        refine x_cV1 C yo_X4_make m_X4_89 rfl rfl (by first | assumption | exact Nat.one_pos) (c_X4_make l D dA base n ad (up3 I 11 0 0 0) J R hT n (by simp [up3, hM.1]) hn (nI f)) dX4_key_30 rfl rfl (Nat.le_of_ble_eq_true rfl) ⟨by decide, by decide⟩ ⟨by decide, by decide⟩ ?_
        exact x_iret C (po_i _ _ _ _ _ _) dX4_key_33
      · skip
        exact absurd (nI_lt (b := 6) hf (by decide)) h21

set_option maxRecDepth 100000 in
set_option maxHeartbeats 4000000 in
theorem c_X4_key_full (l : Launch) (D : va_G) (dA : Nat → ClassId) (base n : Nat) (ad : Fa) (I : Fi) (J : Fj) (R : Fr) (hT : ST n R) (hM : I 11 0 2 = nI 40) (f : Int32) : CT l D dA base yX4_key cX4_key 2 (some .int) 1 0 0 [.ref (ad 11 0), .int f] ad (Nn n) I J R (po (some (.int (-1))) ad (Nn n) (up3 I 11 0 0 0) J R) := by
  refine CT.of 0 (L0 := [some (.ref (ad 11 0)), some (.int f)]) (by decide +kernel) rfl (Nat.le_of_ble_eq_true rfl) ?_
  intro p e s m args below meth c C
  refine x_aload_n C dX4_key_0 rfl ?_
  refine x_iconst C 0 (by decide) dX4_key_1 ?_
  refine x_putI C g_X4_75 rfl (by first | assumption | exact Nat.one_pos) dX4_key_2 ?_
  refine x_aload_n C dX4_key_5 rfl ?_
  refine x_getI C f_X4_79 rfl (by first | assumption | exact Nat.one_pos) dX4_key_6 ?_
  try simp only [up3_r, Nat.reduceEqDiff, and_false, false_and, and_self, and_true, true_and, reduceIte]
  refine x_bipush C 40 (by decide) dX4_key_9 ?_
  refine x_icmp_eq C 24 dX4_key_11 (by decide) (fun h11 => ?_) (fun h11 => ?_)
  · skip
    refine x_iconst C (-1) (by decide) dX4_key_24 ?_
    refine x_goto C 33 dX4_key_25 (by decide) ?_
    exact x_iret C (po_i _ _ _ _ _ _) dX4_key_33
  · skip
    rw [hM] at h11
    exact absurd rfl h11

set_option maxRecDepth 100000 in
set_option maxHeartbeats 4000000 in
theorem c_X4_key_none (l : Launch) (D : va_G) (dA : Nat → ClassId) (base n : Nat) (ad : Fa) (I : Fi) (J : Fj) (R : Fr) (hT : ST n R) (f : Int32) (hf : f < 0 ∨ 6 ≤ f) : CT l D dA base yX4_key cX4_key 2 (some .int) 1 0 0 [.ref (ad 11 0), .int f] ad (Nn n) I J R (po (some (.int (-1))) ad (Nn n) (up3 I 11 0 0 0) J R) := by
  refine CT.of 0 (L0 := [some (.ref (ad 11 0)), some (.int f)]) (by decide +kernel) rfl (Nat.le_of_ble_eq_true rfl) ?_
  intro p e s m args below meth c C
  refine x_aload_n C dX4_key_0 rfl ?_
  refine x_iconst C 0 (by decide) dX4_key_1 ?_
  refine x_putI C g_X4_75 rfl (by first | assumption | exact Nat.one_pos) dX4_key_2 ?_
  refine x_aload_n C dX4_key_5 rfl ?_
  refine x_getI C f_X4_79 rfl (by first | assumption | exact Nat.one_pos) dX4_key_6 ?_
  try simp only [up3_r, Nat.reduceEqDiff, and_false, false_and, and_self, and_true, true_and, reduceIte]
  refine x_bipush C 40 (by decide) dX4_key_9 ?_
  refine x_icmp_eq C 24 dX4_key_11 (by decide) (fun h11 => ?_) (fun h11 => ?_)
  · skip
    refine x_iconst C (-1) (by decide) dX4_key_24 ?_
    refine x_goto C 33 dX4_key_25 (by decide) ?_
    exact x_iret C (po_i _ _ _ _ _ _) dX4_key_33
  · skip
    refine x_iload_n C dX4_key_14 rfl ?_
    refine x_if_lt C 24 dX4_key_15 (by decide) (fun h15 => ?_) (fun h15 => ?_)
    · skip
      refine x_iconst C (-1) (by decide) dX4_key_24 ?_
      refine x_goto C 33 dX4_key_25 (by decide) ?_
      exact x_iret C (po_i _ _ _ _ _ _) dX4_key_33
    · skip
      refine x_iload_n C dX4_key_18 rfl ?_
      refine x_bipush C 6 (by decide) dX4_key_19 ?_
      refine x_icmp_lt C 28 dX4_key_21 (by decide) (fun h21 => ?_) (fun h21 => ?_)
      · skip
        exact absurd h21 (hf.elim (fun q => absurd q h15) (fun q => Int32.not_lt.mpr q))
      · skip
        refine x_iconst C (-1) (by decide) dX4_key_24 ?_
        refine x_goto C 33 dX4_key_25 (by decide) ?_
        exact x_iret C (po_i _ _ _ _ _ _) dX4_key_33

def emS (I : Fi) : Nat → Fi
  | 0 => I
  | t + 1 => up3 (emS I t) 37 0 t 0
theorem emS_o (I : Fi) {c b d : Nat} : ∀ t, ¬ (c = 37 ∧ d < t) → emS I t c b d = I c b d
  | 0, _ => rfl
  | t + 1, h => by
    rw [emS, up3_n _ _ _ _ _ (fun z => h ⟨z.1, by omega⟩), emS_o I t (fun z => h ⟨z.1, by omega⟩)]
/-- how high the piles are -/
def HI (I : Fi) (zs : Nat → Nat) : Prop := ∀ q, q < 5 → I 37 0 q = nI (zs q) ∧ zs q ≤ 40
set_option maxRecDepth 100000 in
set_option maxHeartbeats 4000000 in
theorem c_X4_empty (l : Launch) (D : va_G) (dA : Nat → ClassId) (base n : Nat) (ad : Fa) (I : Fi) (J : Fj) (R : Fr) (hT : ST n R) (zs : Nat → Nat) (hH : HI I zs) : CT l D dA base yX4_empty cX4_empty 3 (some .int) 0 0 0 [.ref (ad 11 0)] ad (Nn n) I J R (po (some (.int (nI (esum zs 5)))) ad (Nn n) (emS I 5) J R) := by
  refine CT.of 2 (L0 := [some (.ref (ad 11 0)), none, none]) (by decide +kernel) rfl (Nat.le_of_ble_eq_true rfl) ?_
  intro p e s m args below meth c C
  have loop : ∀ (f t : Nat), t + f = 5 → GX p l e (rmX 0 0 0) s m args below meth c (MQ below (CQ D dA base (po (some (.int (nI (esum zs 5)))) ad (Nn n) (emS I 5) J R)) args s 0 0 (fun q => base ≤ q)) D dA base 3 ad (Nn n) (emS I t) J R 0 0 4 [some (.ref (ad 11 0)), some (.int (nI (esum zs t))), some (.int (nI t))] [] := by
    intro f
    induction f with
    | zero =>
      intro t ht
      have ht2 : t = 5 := by omega
      subst ht2
      refine x_iload_n C dX4_empty_4 rfl ?_
      refine x_iconst C 5 (by decide) dX4_empty_5 ?_
      refine x_icmp_ge C 31 dX4_empty_6 (by decide) (fun h6 => ?_) (fun h6 => ?_)
      · skip
        refine x_iload_n C dX4_empty_31 rfl ?_
        exact x_iret C (po_i _ _ _ _ _ _) dX4_empty_32
      · skip
        exact absurd (Int32.le_refl _) h6
    | succ f ih =>
      intro t ht
      have ht5 : t < 5 := by omega
      have hh : emS I t 37 0 t = nI (zs t) := by rw [emS_o I t (by omega)]; exact (hH t ht5).1
      refine x_iload_n C dX4_empty_4 rfl ?_
      refine x_iconst C 5 (by decide) dX4_empty_5 ?_
      refine x_icmp_ge C 31 dX4_empty_6 (by decide) (fun h6 => ?_) (fun h6 => ?_)
      · skip
        exact absurd h6 (nI_ge (b := 5) ht5 (by decide))
      · skip
        refine x_iload_n C dX4_empty_9 rfl ?_
        refine x_aload_n C dX4_empty_10 rfl ?_
        refine x_getF C hT f_X4_54 rfl rfl (by first | assumption | exact Nat.one_pos) dX4_empty_11 ?_
        refine x_iload_n C dX4_empty_14 rfl ?_
        refine x_ialdN C (t) rfl rfl rfl (by first | assumption | exact Nat.one_pos) ht5 (by decide) dX4_empty_15 ?_
        refine x_iadd C dX4_empty_16 ?_
        refine x_istore_n C dX4_empty_17 (by decide) rfl rfl ?_
        refine x_aload_n C dX4_empty_18 rfl ?_
        refine x_getF C hT f_X4_54 rfl rfl (by first | assumption | exact Nat.one_pos) dX4_empty_19 ?_
        refine x_iload_n C dX4_empty_22 rfl ?_
        refine x_iconst C 0 (by decide) dX4_empty_23 ?_
        refine x_iastN C (t) rfl rfl rfl (by first | assumption | exact Nat.one_pos) ht5 (by decide) dX4_empty_24 ?_
        refine x_iinc C _ dX4_empty_25 rfl rfl (by decide) rfl rfl ?_
        refine x_goto C 4 dX4_empty_28 (by decide) ?_
        exact x_eqL (ih (t + 1) (by omega)) rfl (by rw [hh, esum, ← nI_add, ← nI_1]; rfl) rfl rfl rfl rfl
  refine x_iconst C 0 (by decide) dX4_empty_0 ?_
  refine x_istore_n C dX4_empty_1 (by decide) rfl rfl ?_
  refine x_iconst C 0 (by decide) dX4_empty_2 ?_
  refine x_istore_n C dX4_empty_3 (by decide) rfl rfl ?_
  exact loop 5 0 (by omega)

def nxI (I : Fi) : Fi := up3 (emS I 5) 11 0 1 (I 11 0 1 + 1)
set_option maxRecDepth 100000 in
set_option maxHeartbeats 4000000 in
theorem c_X4_next (l : Launch) (D : va_G) (dA : Nat → ClassId) (base n : Nat) (ad : Fa) (I : Fi) (J : Fj) (R : Fr) (hT : ST n R) (zs : Nat → Nat) (hH : HI I zs) : CT l D dA base yX4_next cX4_next 1 (some .int) 1 0 0 [.ref (ad 11 0)] ad (Nn n) I J R (po (some (.int (I 11 0 1 + 1))) ad (Nn n) (nxI I) J R) := by
  refine CT.of 0 (L0 := [some (.ref (ad 11 0))]) (by decide +kernel) rfl (Nat.le_of_ble_eq_true rfl) ?_
  intro p e s m args below meth c C
  refine x_aload_n C dX4_next_0 rfl ?_
  refine x_cV1 C yo_X4_empty m_X4_93 rfl rfl (by first | assumption | exact Nat.one_pos) (c_X4_empty l D dA base n ad I J R hT zs hH) dX4_next_1 rfl rfl (Nat.le_of_ble_eq_true rfl) ⟨by decide, by decide⟩ ⟨by decide, by decide⟩ ?_
  refine x_pop C rfl dX4_next_4 ?_
  refine x_aload_n C dX4_next_5 rfl ?_
  refine x_dup C rfl dX4_next_6 ?_
  refine x_getI C f_X4_86 rfl (by first | assumption | exact Nat.one_pos) dX4_next_7 ?_
  refine x_iconst C 1 (by decide) dX4_next_10 ?_
  refine x_iadd C dX4_next_11 ?_
  refine x_putI C g_X4_86 rfl (by first | assumption | exact Nat.one_pos) dX4_next_12 ?_
  refine x_aload_n C dX4_next_15 rfl ?_
  refine x_getI C f_X4_86 rfl (by first | assumption | exact Nat.one_pos) dX4_next_16 ?_
  exact x_iret C (⟨by rw [up3_s, emS_o I 5 (by decide)], rfl, rfl, by rw [nxI, emS_o I 5 (by decide)], rfl, rfl⟩) dX4_next_19

set_option maxRecDepth 100000 in
set_option maxHeartbeats 4000000 in
theorem c_X4_rowKey (l : Launch) (D : va_G) (dA : Nat → ClassId) (base n : Nat) (ad : Fa) (I : Fi) (J : Fj) (R : Fr) (hT : ST n R) (k pl : Nat) (hk : k < 40) (hp : pl < 8) : CT l D dA base yX4_rowKey cX4_rowKey 3 (some .int) 0 0 0 [.ref (ad 11 0), .int (nI k), .int (nI pl)] ad (Nn n) I J R (po (some (.int (I 25 0 (8 * k + pl)))) ad (Nn n) I J R) := by
  refine CT.of 0 (L0 := [some (.ref (ad 11 0)), some (.int (nI k)), some (.int (nI pl))]) (by decide +kernel) rfl (Nat.le_of_ble_eq_true rfl) ?_
  intro p e s m args below meth c C
  refine x_aload_n C dX4_rowKey_0 rfl ?_
  refine x_getF C hT f_X4_16 rfl rfl (by first | assumption | exact Nat.one_pos) dX4_rowKey_1 ?_
  refine x_bipush C 8 (by decide) dX4_rowKey_4 ?_
  refine x_iload_n C dX4_rowKey_6 rfl ?_
  refine x_imul C dX4_rowKey_7 ?_
  refine x_iload_n C dX4_rowKey_8 rfl ?_
  refine x_iadd C dX4_rowKey_9 ?_
  refine x_ialdN C (8 * k + pl) (ix8 k pl) rfl rfl (by first | assumption | exact Nat.one_pos) (by omega) (by decide) dX4_rowKey_10 ?_
  exact x_iret C (po_i _ _ _ _ _ _) dX4_rowKey_11

def msure (I : Fi) (i : Nat) : Bool := decide (I 23 0 i = -1 ∨ (¬ I 36 0 i = 0 ∧ I 27 0 i = I 11 0 1))
set_option maxRecDepth 100000 in
set_option maxHeartbeats 4000000 in
theorem c_X4_isSure (l : Launch) (D : va_G) (dA : Nat → ClassId) (base n : Nat) (ad : Fa) (I : Fi) (J : Fj) (R : Fr) (hT : ST n R) (k : Nat) (hk : k < 40) : CT l D dA base yX4_isSure cX4_isSure 2 (some .boolean) 0 0 0 [.ref (ad 11 0), .int (nI k)] ad (Nn n) I J R (po (some (.int (if msure I k = true then 1 else 0))) ad (Nn n) I J R) := by
  refine CT.of 0 (L0 := [some (.ref (ad 11 0)), some (.int (nI k))]) (by decide +kernel) rfl (Nat.le_of_ble_eq_true rfl) ?_
  intro p e s m args below meth c C
  refine x_aload_n C dX4_isSure_0 rfl ?_
  refine x_getF C hT f_X4_7 rfl rfl (by first | assumption | exact Nat.one_pos) dX4_isSure_1 ?_
  refine x_iload_n C dX4_isSure_4 rfl ?_
  refine x_ialdN C (k) rfl rfl rfl (by first | assumption | exact Nat.one_pos) hk (by decide) dX4_isSure_5 ?_
  refine x_iconst C (-1) (by decide) dX4_isSure_6 ?_
  refine x_icmp_eq C 32 dX4_isSure_7 (by decide) (fun h7 => ?_) (fun h7 => ?_)
  · skip
    refine x_iconst C 1 (by decide) dX4_isSure_32 ?_
    refine x_goto C 37 dX4_isSure_33 (by decide) ?_
    exact x_zret C (by first | exact Or.inl rfl | exact Or.inr rfl | assumption) (po_r (by simp only [msure, decide_eq_true_eq]; simp_all)) dX4_isSure_37
  · skip
    refine x_aload_n C dX4_isSure_10 rfl ?_
    refine x_getF C hT f_X4_51 rfl rfl (by first | assumption | exact Nat.one_pos) dX4_isSure_11 ?_
    refine x_iload_n C dX4_isSure_14 rfl ?_
    refine x_zaldN C (k) rfl rfl rfl (by first | assumption | exact Nat.one_pos) hk (by decide) dX4_isSure_15 ?_
    refine x_if_eq C 36 dX4_isSure_16 (by decide) (fun h16 => ?_) (fun h16 => ?_)
    · skip
      refine x_iconst C 0 (by decide) dX4_isSure_36 ?_
      exact x_zret C (by first | exact Or.inl rfl | exact Or.inr rfl | assumption) (po_r (by simp only [msure, decide_eq_true_eq]; simp_all)) dX4_isSure_37
    · skip
      refine x_aload_n C dX4_isSure_19 rfl ?_
      refine x_getF C hT f_X4_22 rfl rfl (by first | assumption | exact Nat.one_pos) dX4_isSure_20 ?_
      refine x_iload_n C dX4_isSure_23 rfl ?_
      refine x_ialdN C (k) rfl rfl rfl (by first | assumption | exact Nat.one_pos) hk (by decide) dX4_isSure_24 ?_
      refine x_aload_n C dX4_isSure_25 rfl ?_
      refine x_getI C f_X4_86 rfl (by first | assumption | exact Nat.one_pos) dX4_isSure_26 ?_
      refine x_icmp_ne C 36 dX4_isSure_29 (by decide) (fun h29 => ?_) (fun h29 => ?_)
      · skip
        refine x_iconst C 0 (by decide) dX4_isSure_36 ?_
        exact x_zret C (by first | exact Or.inl rfl | exact Or.inr rfl | assumption) (po_r (by simp only [msure, decide_eq_true_eq]; simp_all)) dX4_isSure_37
      · skip
        refine x_iconst C 1 (by decide) dX4_isSure_32 ?_
        refine x_goto C 37 dX4_isSure_33 (by decide) ?_
        exact x_zret C (by first | exact Or.inl rfl | exact Or.inr rfl | assumption) (po_r (by simp only [msure, decide_eq_true_eq]; simp_all)) dX4_isSure_37

set_option maxRecDepth 100000 in
set_option maxHeartbeats 4000000 in
theorem c_X4_isWorker (l : Launch) (D : va_G) (dA : Nat → ClassId) (base n : Nat) (ad : Fa) (I : Fi) (J : Fj) (R : Fr) (x : Int32) : CT l D dA base yX4_isWorker cX4_isWorker 1 (some .boolean) 0 0 0 [.int x] ad (Nn n) I J R (po (some (.int (if 0 ≤ x ∧ x < 4 then 1 else 0))) ad (Nn n) I J R) := by
  refine CT.of 0 (L0 := [some (.int x)]) (by decide +kernel) rfl (Nat.le_of_ble_eq_true rfl) ?_
  intro p e s m args below meth c C
  refine x_iload_n C dX4_isWorker_0 rfl ?_
  refine x_if_lt C 13 dX4_isWorker_1 (by decide) (fun h1 => ?_) (fun h1 => ?_)
  · skip
    refine x_iconst C 0 (by decide) dX4_isWorker_13 ?_
    exact x_zret C (by first | exact Or.inl rfl | exact Or.inr rfl | assumption) (po_r (by rw [if_neg (fun z => absurd h1 (Int32.not_lt.mpr z.1))])) dX4_isWorker_14
  · skip
    refine x_iload_n C dX4_isWorker_4 rfl ?_
    refine x_iconst C 4 (by decide) dX4_isWorker_5 ?_
    refine x_icmp_ge C 13 dX4_isWorker_6 (by decide) (fun h6 => ?_) (fun h6 => ?_)
    · skip
      refine x_iconst C 0 (by decide) dX4_isWorker_13 ?_
      exact x_zret C (by first | exact Or.inl rfl | exact Or.inr rfl | assumption) (po_r (by rw [if_neg (fun z => absurd z.2 (Int32.not_lt.mpr h6))])) dX4_isWorker_14
    · skip
      refine x_iconst C 1 (by decide) dX4_isWorker_9 ?_
      refine x_goto C 14 dX4_isWorker_10 (by decide) ?_
      exact x_zret C (by first | exact Or.inl rfl | exact Or.inr rfl | assumption) (po_r (by rw [if_pos ⟨Int32.not_lt.mp h1, Int32.not_le.mp h6⟩])) dX4_isWorker_14

def pofJ (I : Fi) (x : Int32) (p0 : Nat) (g : Int32) : Nat → Int32
  | 0 => g
  | t + 1 => if I 38 0 (40 * p0 + t) = x then nI p0 else pofJ I x p0 g t
def pofP (I : Fi) (x : Int32) (zs : Nat → Nat) : Nat → Int32
  | 0 => -1
  | t + 1 => pofJ I x t (pofP I x zs t) (zs t)
set_option maxRecDepth 100000 in
set_option maxHeartbeats 4000000 in
theorem c_X4_pileOf (l : Launch) (D : va_G) (dA : Nat → ClassId) (base n : Nat) (ad : Fa) (I : Fi) (J : Fj) (R : Fr) (hT : ST n R) (x : Int32) (zs : Nat → Nat) (hH : HI I zs) : CT l D dA base yX4_pileOf cX4_pileOf 5 (some .int) 0 0 0 [.ref (ad 11 0), .int x] ad (Nn n) I J R (po (some (.int (pofP I x zs 5))) ad (Nn n) I J R) := by
  refine CT.of 3 (L0 := [some (.ref (ad 11 0)), some (.int x), none, none, none]) (by decide +kernel) rfl (Nat.le_of_ble_eq_true rfl) ?_
  intro p e s m args below meth c C
  have inner : ∀ (t : Nat), t < 5 → GX p l e (rmX 0 0 0) s m args below meth c (MQ below (CQ D dA base (po (some (.int (pofP I x zs 5))) ad (Nn n) I J R)) args s 0 0 (fun q => base ≤ q)) D dA base 5 ad (Nn n) I J R 0 0 51 [some (.ref (ad 11 0)), some (.int x), some (.int (pofP I x zs (t + 1))), some (.int (nI t)), none] [] → ∀ (f u : Nat), u + f = zs t → GX p l e (rmX 0 0 0) s m args below meth c (MQ below (CQ D dA base (po (some (.int (pofP I x zs 5))) ad (Nn n) I J R)) args s 0 0 (fun q => base ≤ q)) D dA base 5 ad (Nn n) I J R 0 0 12 [some (.ref (ad 11 0)), some (.int x), some (.int (pofJ I x t (pofP I x zs t) u)), some (.int (nI t)), some (.int (nI u))] [] := by
    intro t ht kk f
    obtain ⟨hz1, hz2⟩ := hH t ht
    induction f with
    | zero =>
      intro u hu
      have hu2 : u = zs t := by omega
      refine x_iload C dX4_pileOf_12 rfl ?_
      refine x_aload_n C dX4_pileOf_14 rfl ?_
      refine x_getF C hT f_X4_54 rfl rfl (by first | assumption | exact Nat.one_pos) dX4_pileOf_15 ?_
      refine x_iload_n C dX4_pileOf_18 rfl ?_
      refine x_ialdN C (t) rfl rfl rfl (by first | assumption | exact Nat.one_pos) ht (by decide) dX4_pileOf_19 ?_
      refine x_icmp_ge C 51 dX4_pileOf_20 (by decide) (fun h20 => ?_) (fun h20 => ?_)
      · skip
        exact x_drop 4 rfl (x_eqL kk rfl (by rw [hu2]; rfl) rfl rfl rfl rfl)
      · skip
        rw [hz1, hu2] at h20
        exact absurd (Int32.le_refl _) h20
    | succ f ih =>
      intro u hu
      refine x_iload C dX4_pileOf_12 rfl ?_
      refine x_aload_n C dX4_pileOf_14 rfl ?_
      refine x_getF C hT f_X4_54 rfl rfl (by first | assumption | exact Nat.one_pos) dX4_pileOf_15 ?_
      refine x_iload_n C dX4_pileOf_18 rfl ?_
      refine x_ialdN C (t) rfl rfl rfl (by first | assumption | exact Nat.one_pos) ht (by decide) dX4_pileOf_19 ?_
      refine x_icmp_ge C 51 dX4_pileOf_20 (by decide) (fun h20 => ?_) (fun h20 => ?_)
      · skip
        rw [hz1] at h20
        exact absurd h20 (nI_ge (show u < zs t by omega) (by omega))
      · skip
        refine x_aload_n C dX4_pileOf_23 rfl ?_
        refine x_getF C hT f_X4_57 rfl rfl (by first | assumption | exact Nat.one_pos) dX4_pileOf_24 ?_
        refine x_bipush C 40 (by decide) dX4_pileOf_27 ?_
        refine x_iload_n C dX4_pileOf_29 rfl ?_
        refine x_imul C dX4_pileOf_30 ?_
        refine x_iload C dX4_pileOf_31 rfl ?_
        refine x_iadd C dX4_pileOf_33 ?_
        refine x_ialdN C (40 * t + u) (ix40 t u) rfl rfl (by first | assumption | exact Nat.one_pos) (by omega) (by decide) dX4_pileOf_34 ?_
        refine x_iload_n C dX4_pileOf_35 rfl ?_
        refine x_icmp_ne C 43 dX4_pileOf_36 (by decide) (fun h36 => ?_) (fun h36 => ?_)
        · skip
          refine x_iload_n C dX4_pileOf_43 rfl ?_
          refine x_istore_n C dX4_pileOf_44 (by decide) rfl rfl ?_
          refine x_iinc C _ dX4_pileOf_45 rfl rfl (by decide) rfl rfl ?_
          refine x_goto C 12 dX4_pileOf_48 (by decide) ?_
          exact x_eqL (ih (u + 1) (by omega)) rfl (by rw [← nI_1, pofJ, if_neg h36]; rfl) rfl rfl rfl rfl
        · skip
          refine x_iload_n C dX4_pileOf_39 rfl ?_
          refine x_goto C 44 dX4_pileOf_40 (by decide) ?_
          refine x_istore_n C dX4_pileOf_44 (by decide) rfl rfl ?_
          refine x_iinc C _ dX4_pileOf_45 rfl rfl (by decide) rfl rfl ?_
          refine x_goto C 12 dX4_pileOf_48 (by decide) ?_
          exact x_eqL (ih (u + 1) (by omega)) rfl (by rw [← nI_1, pofJ, if_pos h36]; rfl) rfl rfl rfl rfl
  have outer : ∀ (f t : Nat), t + f = 5 → GX p l e (rmX 0 0 0) s m args below meth c (MQ below (CQ D dA base (po (some (.int (pofP I x zs 5))) ad (Nn n) I J R)) args s 0 0 (fun q => base ≤ q)) D dA base 5 ad (Nn n) I J R 0 0 4 [some (.ref (ad 11 0)), some (.int x), some (.int (pofP I x zs t)), some (.int (nI t)), none] [] := by
    intro f
    induction f with
    | zero =>
      intro t ht
      have ht2 : t = 5 := by omega
      subst ht2
      refine x_iload_n C dX4_pileOf_4 rfl ?_
      refine x_iconst C 5 (by decide) dX4_pileOf_5 ?_
      refine x_icmp_ge C 57 dX4_pileOf_6 (by decide) (fun h6 => ?_) (fun h6 => ?_)
      · skip
        refine x_iload_n C dX4_pileOf_57 rfl ?_
        exact x_iret C (po_i _ _ _ _ _ _) dX4_pileOf_58
      · skip
        exact absurd (Int32.le_refl _) h6
    | succ f ih =>
      intro t ht
      have ht5 : t < 5 := by omega
      refine x_iload_n C dX4_pileOf_4 rfl ?_
      refine x_iconst C 5 (by decide) dX4_pileOf_5 ?_
      refine x_icmp_ge C 57 dX4_pileOf_6 (by decide) (fun h6 => ?_) (fun h6 => ?_)
      · skip
        exact absurd h6 (nI_ge (b := 5) ht5 (by decide))
      · skip
        refine x_iconst C 0 (by decide) dX4_pileOf_9 ?_
        refine x_istore C dX4_pileOf_10 (by decide) rfl rfl ?_
        refine inner t ht5 ?_ (zs t) 0 (by omega)
        refine x_iinc C _ dX4_pileOf_51 rfl rfl (by decide) rfl rfl ?_
        refine x_goto C 4 dX4_pileOf_54 (by decide) ?_
        exact x_eqL (ih (t + 1) (by omega)) rfl (by rw [← nI_1]; rfl) rfl rfl rfl rfl
  refine x_iconst C (-1) (by decide) dX4_pileOf_0 ?_
  refine x_istore_n C dX4_pileOf_1 (by decide) rfl rfl ?_
  refine x_iconst C 0 (by decide) dX4_pileOf_2 ?_
  refine x_istore_n C dX4_pileOf_3 (by decide) rfl rfl ?_
  exact outer 5 0 (by omega)

def lyI (I : Fi) (p0 k z : Nat) : Fi := up3 (up3 (up3 (up3 I 38 0 (40 * p0 + z) (nI k)) 41 0 (40 * p0 + z) (if I 36 0 k = 0 ∨ I 27 0 k < I 29 0 k then 1 else 0)) 39 0 (40 * p0 + z) 0) 37 0 p0 (nI (z + 1))
set_option maxRecDepth 100000 in
set_option maxHeartbeats 4000000 in
theorem c_X4_lay (l : Launch) (D : va_G) (dA : Nat → ClassId) (base n : Nat) (ad : Fa) (I : Fi) (J : Fj) (R : Fr) (hT : ST n R) (p0 k z : Nat) (hp : p0 < 5) (hk : k < 40) (hs : I 37 0 p0 = nI z) (hz : z < 40) : CT l D dA base yX4_lay cX4_lay 4 none 0 0 0 [.ref (ad 11 0), .int (nI p0), .int (nI k)] ad (Nn n) I J R (po none ad (Nn n) (lyI I p0 k z) J R) := by
  refine CT.of 1 (L0 := [some (.ref (ad 11 0)), some (.int (nI p0)), some (.int (nI k)), none]) (by decide +kernel) rfl (Nat.le_of_ble_eq_true rfl) ?_
  intro p e s m args below meth c C
  refine x_bipush C 40 (by decide) dX4_lay_0 ?_
  refine x_iload_n C dX4_lay_2 rfl ?_
  refine x_imul C dX4_lay_3 ?_
  refine x_aload_n C dX4_lay_4 rfl ?_
  refine x_getF C hT f_X4_54 rfl rfl (by first | assumption | exact Nat.one_pos) dX4_lay_5 ?_
  refine x_iload_n C dX4_lay_8 rfl ?_
  refine x_ialdN C (p0) rfl rfl rfl (by first | assumption | exact Nat.one_pos) hp (by decide) dX4_lay_9 ?_
  try simp only [up3_r, Nat.reduceEqDiff, and_false, false_and, and_self, and_true, true_and, reduceIte]
  refine x_iadd C dX4_lay_10 ?_
  refine x_istore_n C dX4_lay_11 (by decide) rfl rfl ?_
  refine x_aload_n C dX4_lay_12 rfl ?_
  refine x_getF C hT f_X4_57 rfl rfl (by first | assumption | exact Nat.one_pos) dX4_lay_13 ?_
  refine x_iload_n C dX4_lay_16 rfl ?_
  refine x_iload_n C dX4_lay_17 rfl ?_
  refine x_iastN C (40 * p0 + z) (by rw [hs]; exact ix40 p0 z) rfl rfl (by first | assumption | exact Nat.one_pos) (by omega) (by decide) dX4_lay_18 ?_
  refine x_aload_n C dX4_lay_19 rfl ?_
  refine x_getF C hT f_X4_66 rfl rfl (by first | assumption | exact Nat.one_pos) dX4_lay_20 ?_
  refine x_iload_n C dX4_lay_23 rfl ?_
  refine x_aload_n C dX4_lay_24 rfl ?_
  refine x_getF C hT f_X4_51 rfl rfl (by first | assumption | exact Nat.one_pos) dX4_lay_25 ?_
  refine x_iload_n C dX4_lay_28 rfl ?_
  refine x_zaldN C (k) rfl rfl rfl (by first | assumption | exact Nat.one_pos) hk (by decide) dX4_lay_29 ?_
  try simp only [up3_r, Nat.reduceEqDiff, and_false, false_and, and_self, and_true, true_and, reduceIte]
  refine x_if_eq C 48 dX4_lay_30 (by decide) (fun h30 => ?_) (fun h30 => ?_)
  · skip
    refine x_iconst C 1 (by decide) dX4_lay_48 ?_
    refine x_goto C 53 dX4_lay_49 (by decide) ?_
    refine x_zastN C (40 * p0 + z) (by rw [hs]; exact ix40 p0 z) rfl rfl (by first | assumption | exact Nat.one_pos) (by omega) (by decide) (by first | exact Or.inl rfl | exact Or.inr rfl | assumption) dX4_lay_53 ?_
    refine x_aload_n C dX4_lay_54 rfl ?_
    refine x_getF C hT f_X4_60 rfl rfl (by first | assumption | exact Nat.one_pos) dX4_lay_55 ?_
    refine x_iload_n C dX4_lay_58 rfl ?_
    refine x_iconst C 0 (by decide) dX4_lay_59 ?_
    refine x_iastN C (40 * p0 + z) (by rw [hs]; exact ix40 p0 z) rfl rfl (by first | assumption | exact Nat.one_pos) (by omega) (by decide) dX4_lay_60 ?_
    refine x_aload_n C dX4_lay_61 rfl ?_
    refine x_getF C hT f_X4_54 rfl rfl (by first | assumption | exact Nat.one_pos) dX4_lay_62 ?_
    refine x_iload_n C dX4_lay_65 rfl ?_
    refine x_dup2 C rfl rfl dX4_lay_66 ?_
    refine x_ialdN C (p0) rfl rfl rfl (by first | assumption | exact Nat.one_pos) hp (by decide) dX4_lay_67 ?_
    try simp only [up3_r, Nat.reduceEqDiff, and_false, false_and, and_self, and_true, true_and, reduceIte]
    refine x_iconst C 1 (by decide) dX4_lay_68 ?_
    refine x_iadd C dX4_lay_69 ?_
    refine x_iastN C (p0) rfl rfl rfl (by first | assumption | exact Nat.one_pos) hp (by decide) dX4_lay_70 ?_
    exact x_vret C (⟨rfl, rfl, rfl, by (unfold lyI; rw [hs, nI_1, if_pos (Or.inl h30)]), rfl, rfl⟩) dX4_lay_71
  · skip
    refine x_aload_n C dX4_lay_33 rfl ?_
    refine x_getF C hT f_X4_28 rfl rfl (by first | assumption | exact Nat.one_pos) dX4_lay_34 ?_
    refine x_iload_n C dX4_lay_37 rfl ?_
    refine x_ialdN C (k) rfl rfl rfl (by first | assumption | exact Nat.one_pos) hk (by decide) dX4_lay_38 ?_
    try simp only [up3_r, Nat.reduceEqDiff, and_false, false_and, and_self, and_true, true_and, reduceIte]
    refine x_aload_n C dX4_lay_39 rfl ?_
    refine x_getF C hT f_X4_22 rfl rfl (by first | assumption | exact Nat.one_pos) dX4_lay_40 ?_
    refine x_iload_n C dX4_lay_43 rfl ?_
    refine x_ialdN C (k) rfl rfl rfl (by first | assumption | exact Nat.one_pos) hk (by decide) dX4_lay_44 ?_
    try simp only [up3_r, Nat.reduceEqDiff, and_false, false_and, and_self, and_true, true_and, reduceIte]
    refine x_icmp_le C 52 dX4_lay_45 (by decide) (fun h45 => ?_) (fun h45 => ?_)
    · skip
      refine x_iconst C 0 (by decide) dX4_lay_52 ?_
      refine x_zastN C (40 * p0 + z) (by rw [hs]; exact ix40 p0 z) rfl rfl (by first | assumption | exact Nat.one_pos) (by omega) (by decide) (by first | exact Or.inl rfl | exact Or.inr rfl | assumption) dX4_lay_53 ?_
      refine x_aload_n C dX4_lay_54 rfl ?_
      refine x_getF C hT f_X4_60 rfl rfl (by first | assumption | exact Nat.one_pos) dX4_lay_55 ?_
      refine x_iload_n C dX4_lay_58 rfl ?_
      refine x_iconst C 0 (by decide) dX4_lay_59 ?_
      refine x_iastN C (40 * p0 + z) (by rw [hs]; exact ix40 p0 z) rfl rfl (by first | assumption | exact Nat.one_pos) (by omega) (by decide) dX4_lay_60 ?_
      refine x_aload_n C dX4_lay_61 rfl ?_
      refine x_getF C hT f_X4_54 rfl rfl (by first | assumption | exact Nat.one_pos) dX4_lay_62 ?_
      refine x_iload_n C dX4_lay_65 rfl ?_
      refine x_dup2 C rfl rfl dX4_lay_66 ?_
      refine x_ialdN C (p0) rfl rfl rfl (by first | assumption | exact Nat.one_pos) hp (by decide) dX4_lay_67 ?_
      try simp only [up3_r, Nat.reduceEqDiff, and_false, false_and, and_self, and_true, true_and, reduceIte]
      refine x_iconst C 1 (by decide) dX4_lay_68 ?_
      refine x_iadd C dX4_lay_69 ?_
      refine x_iastN C (p0) rfl rfl rfl (by first | assumption | exact Nat.one_pos) hp (by decide) dX4_lay_70 ?_
      exact x_vret C (⟨rfl, rfl, rfl, by (unfold lyI; rw [hs, nI_1, if_neg (fun q => q.elim h30 (fun q => Int32.not_lt.mpr h45 q))]), rfl, rfl⟩) dX4_lay_71
    · skip
      refine x_iconst C 1 (by decide) dX4_lay_48 ?_
      refine x_goto C 53 dX4_lay_49 (by decide) ?_
      refine x_zastN C (40 * p0 + z) (by rw [hs]; exact ix40 p0 z) rfl rfl (by first | assumption | exact Nat.one_pos) (by omega) (by decide) (by first | exact Or.inl rfl | exact Or.inr rfl | assumption) dX4_lay_53 ?_
      refine x_aload_n C dX4_lay_54 rfl ?_
      refine x_getF C hT f_X4_60 rfl rfl (by first | assumption | exact Nat.one_pos) dX4_lay_55 ?_
      refine x_iload_n C dX4_lay_58 rfl ?_
      refine x_iconst C 0 (by decide) dX4_lay_59 ?_
      refine x_iastN C (40 * p0 + z) (by rw [hs]; exact ix40 p0 z) rfl rfl (by first | assumption | exact Nat.one_pos) (by omega) (by decide) dX4_lay_60 ?_
      refine x_aload_n C dX4_lay_61 rfl ?_
      refine x_getF C hT f_X4_54 rfl rfl (by first | assumption | exact Nat.one_pos) dX4_lay_62 ?_
      refine x_iload_n C dX4_lay_65 rfl ?_
      refine x_dup2 C rfl rfl dX4_lay_66 ?_
      refine x_ialdN C (p0) rfl rfl rfl (by first | assumption | exact Nat.one_pos) hp (by decide) dX4_lay_67 ?_
      try simp only [up3_r, Nat.reduceEqDiff, and_false, false_and, and_self, and_true, true_and, reduceIte]
      refine x_iconst C 1 (by decide) dX4_lay_68 ?_
      refine x_iadd C dX4_lay_69 ?_
      refine x_iastN C (p0) rfl rfl rfl (by first | assumption | exact Nat.one_pos) hp (by decide) dX4_lay_70 ?_
      exact x_vret C (⟨rfl, rfl, rfl, by (unfold lyI; rw [hs, nI_1, if_pos (Or.inr (Int32.not_le.mp h45))]), rfl, rfl⟩) dX4_lay_71
end
section
/-! the reference: a work's numbers -/
/-- what the entry e0 of the key k has taken: a places and their keys -/
def TKX (I : Fi) (e0 k a : Nat) (pls ys : Nat → Nat) : Prop := ∀ i, i < a → I 40 0 (8 * e0 + i) = nI (pls i) ∧ pls i < 8 ∧ I 25 0 (8 * k + pls i) = nI (ys i) ∧ ys i < 40
def rmd (v : Int64) (q : Nat) : Int32 := if (v - v / lN q * lN q).toInt32 < 0 then (v - v / lN q * lN q).toInt32 + nI q else (v - v / lN q * lN q).toInt32
def cms (sp : Int32) (f a r : Nat) (tv : Nat → Int64) : Int32 := if ¬ sp = 0 ∨ (f = 5 ∧ r = 0) then -2 else if f = 1 ∧ 0 < a ∧ ¬ tv (a - 1) = 0 then -1 else if f = 3 ∧ 1 < a ∧ tv (a - 1) = 0 then -2 else if ¬ f = 2 ∨ a = 0 then (if a < r then nI a else -1) else if a = 1 ∧ 1 < r then 1 + rmd (tv 0) (r - 1) else -1
def ost (f : Nat) (v x : Int64) : Int64 := if f = 0 ∨ f = 4 then v + x else if f = 3 then (if x = -1 then -v else v / x) else if f = 5 then (if v < x then x else v) else v
def oub (f : Nat) (tv : Nat → Int64) (v : Int64) : Nat → Int64
  | 0 => v
  | t + 1 => ost f (oub f tv v t) (tv (t + 1))
def oc0 (f a : Nat) (tv : Nat → Int64) : Int64 := if a = 0 then 0 else if f = 1 ∨ f = 2 then tv (a - 1) else tv 0
def ocm (f a : Nat) (tv : Nat → Int64) : Int64 := rsl f (oub f tv (oc0 f a tv) (a - 1))
set_option maxRecDepth 100000 in
set_option maxHeartbeats 4000000 in
theorem c_X4_taken (l : Launch) (D : va_G) (dA : Nat → ClassId) (base n : Nat) (ad : Fa) (I : Fi) (J : Fj) (R : Fr) (hT : ST n R) (e0 i : Nat) (k a : Nat) (pls ys : Nat → Nat) (he : e0 < 200) (hk : k < 40) (hon : I 38 0 e0 = nI k) (ht : TKX I e0 k a pls ys) (hi : i < a) (hi8 : i < 8) : CT l D dA base yX4_taken cX4_taken 3 (some .long) 1 0 0 [.ref (ad 11 0), .int (nI e0), .int (nI i)] ad (Nn n) I J R (po (some (.long (J 34 0 (ys i)))) ad (Nn n) I J R) := by
  refine CT.of 0 (L0 := [some (.ref (ad 11 0)), some (.int (nI e0)), some (.int (nI i))]) (by decide +kernel) rfl (Nat.le_of_ble_eq_true rfl) ?_
  intro p e s m args below meth c C
  obtain ⟨t1, t2, t3, t4⟩ := ht i hi
  refine x_aload_n C dX4_taken_0 rfl ?_
  refine x_getF C hT f_X4_43 rfl rfl (by first | assumption | exact Nat.one_pos) dX4_taken_1 ?_
  refine x_aload_n C dX4_taken_4 rfl ?_
  refine x_aload_n C dX4_taken_5 rfl ?_
  refine x_getF C hT f_X4_57 rfl rfl (by first | assumption | exact Nat.one_pos) dX4_taken_6 ?_
  refine x_iload_n C dX4_taken_9 rfl ?_
  refine x_ialdN C (e0) rfl rfl rfl (by first | assumption | exact Nat.one_pos) he (by decide) dX4_taken_10 ?_
  rw [hon]
  refine x_aload_n C dX4_taken_11 rfl ?_
  refine x_getF C hT f_X4_63 rfl rfl (by first | assumption | exact Nat.one_pos) dX4_taken_12 ?_
  refine x_bipush C 8 (by decide) dX4_taken_15 ?_
  refine x_iload_n C dX4_taken_17 rfl ?_
  refine x_imul C dX4_taken_18 ?_
  refine x_iload_n C dX4_taken_19 rfl ?_
  refine x_iadd C dX4_taken_20 ?_
  refine x_ialdN C (8 * e0 + i) (ix8 e0 i) rfl rfl (by first | assumption | exact Nat.one_pos) (by omega) (by decide) dX4_taken_21 ?_
  rw [t1]
  refine x_cV1 C yo_X4_rowKey m_X4_97 rfl rfl (by first | assumption | exact Nat.one_pos) (c_X4_rowKey l D dA base n ad I J R hT k (pls i) hk t2) dX4_taken_22 rfl rfl (Nat.le_of_ble_eq_true rfl) ⟨by decide, by decide⟩ ⟨by decide, by decide⟩ ?_
  refine x_laldN C (ys i) t3 rfl rfl (by first | assumption | exact Nat.one_pos) t4 (by decide) dX4_taken_25 ?_
  exact x_lret C (po_i _ _ _ _ _ _) dX4_taken_26

set_option maxRecDepth 100000 in
set_option maxHeartbeats 4000000 in
theorem c_X4_remainder (l : Launch) (D : va_G) (dA : Nat → ClassId) (base n : Nat) (ad : Fa) (I : Fi) (J : Fj) (R : Fr) (v : Int64) (q : Nat) (hq : q < 8) (hq0 : 0 < q) : CT l D dA base yX4_remainder cX4_remainder 4 (some .int) 0 0 0 [.long v, .int (nI q)] ad (Nn n) I J R (po (some (.int (rmd v q))) ad (Nn n) I J R) := by
  refine CT.of 1 (L0 := [some (.long v), none, some (.int (nI q)), none]) (by decide +kernel) rfl (Nat.le_of_ble_eq_true rfl) ?_
  intro p e s m args below meth c C
  refine x_lload_n C dX4_remainder_0 rfl ?_
  refine x_iload_n C dX4_remainder_1 rfl ?_
  refine x_i2l C dX4_remainder_2 ?_
  rw [nI_l (show q < 2 ^ 31 by omega)]
  refine x_lrem C (fun z => absurd ((lN_eq (b := 0) (by omega) (by decide)).mp z) (by omega)) dX4_remainder_3 ?_
  refine x_l2i C dX4_remainder_4 ?_
  refine x_istore_n C dX4_remainder_5 (by decide) rfl rfl ?_
  refine x_iload_n C dX4_remainder_6 rfl ?_
  refine x_if_ge C 16 dX4_remainder_7 (by decide) (fun h7 => ?_) (fun h7 => ?_)
  · skip
    refine x_iload_n C dX4_remainder_16 rfl ?_
    exact x_iret C (po_r (by unfold rmd; rw [if_neg (Int32.not_lt.mpr h7)])) dX4_remainder_17
  · skip
    refine x_iload_n C dX4_remainder_10 rfl ?_
    refine x_iload_n C dX4_remainder_11 rfl ?_
    refine x_iadd C dX4_remainder_12 ?_
    refine x_goto C 17 dX4_remainder_13 (by decide) ?_
    exact x_iret C (po_r (by unfold rmd; rw [if_pos (Int32.not_le.mp h7)])) dX4_remainder_17

set_option maxRecDepth 100000 in
set_option maxHeartbeats 4000000 in
theorem c_X4_comes (l : Launch) (D : va_G) (dA : Nat → ClassId) (base n : Nat) (ad : Fa) (I : Fi) (J : Fj) (R : Fr) (hT : ST n R) (e0 f r : Nat) (k a : Nat) (pls ys : Nat → Nat) (he : e0 < 200) (hk : k < 40) (hon : I 38 0 e0 = nI k) (ht : TKX I e0 k a pls ys) (hfar : I 39 0 e0 = nI a) (ha8 : a ≤ 8) (hf : I 23 0 k = nI f) (hf6 : f < 6) (hr : I 24 0 k = nI r) (hr8 : r ≤ 8)  : CT l D dA base yX4_comes cX4_comes 5 (some .int) 2 0 0 [.ref (ad 11 0), .int (nI e0)] ad (Nn n) I J R (po (some (.int (cms (I 35 0 k) f a r (fun i => J 34 0 (ys i))))) ad (Nn n) I J R) := by
  refine CT.of 3 (L0 := [some (.ref (ad 11 0)), some (.int (nI e0)), none, none, none]) (by decide +kernel) rfl (Nat.le_of_ble_eq_true rfl) ?_
  intro p e s m args below meth c C
  refine x_aload_n C dX4_comes_0 rfl ?_
  refine x_getF C hT f_X4_57 rfl rfl (by first | assumption | exact Nat.one_pos) dX4_comes_1 ?_
  refine x_iload_n C dX4_comes_4 rfl ?_
  refine x_ialdN C (e0) rfl rfl rfl (by first | assumption | exact Nat.one_pos) he (by decide) dX4_comes_5 ?_
  rw [hon]
  refine x_istore_n C dX4_comes_6 (by decide) rfl rfl ?_
  refine x_aload_n C dX4_comes_7 rfl ?_
  refine x_getF C hT f_X4_60 rfl rfl (by first | assumption | exact Nat.one_pos) dX4_comes_8 ?_
  refine x_iload_n C dX4_comes_11 rfl ?_
  refine x_ialdN C (e0) rfl rfl rfl (by first | assumption | exact Nat.one_pos) he (by decide) dX4_comes_12 ?_
  rw [hfar]
  refine x_istore_n C dX4_comes_13 (by decide) rfl rfl ?_
  refine x_aload_n C dX4_comes_14 rfl ?_
  refine x_getF C hT f_X4_13 rfl rfl (by first | assumption | exact Nat.one_pos) dX4_comes_15 ?_
  refine x_iload_n C dX4_comes_18 rfl ?_
  refine x_ialdN C (k) rfl rfl rfl (by first | assumption | exact Nat.one_pos) hk (by decide) dX4_comes_19 ?_
  rw [hr]
  refine x_istore C dX4_comes_20 (by decide) rfl rfl ?_
  rcases (show f = 0 ∨ f = 1 ∨ f = 2 ∨ f = 3 ∨ f = 4 ∨ f = 5 by omega) with rfl | rfl | rfl | rfl | rfl | rfl
  · skip
    refine x_aload_n C dX4_comes_22 rfl ?_
    refine x_getF C hT f_X4_47 rfl rfl (by first | assumption | exact Nat.one_pos) dX4_comes_23 ?_
    refine x_iload_n C dX4_comes_26 rfl ?_
    refine x_zaldN C (k) rfl rfl rfl (by first | assumption | exact Nat.one_pos) hk (by decide) dX4_comes_27 ?_
    refine x_if_ne C 46 dX4_comes_28 (by decide) (fun h28 => ?_) (fun h28 => ?_)
    · skip
      refine x_bipush C (-2) (by decide) dX4_comes_46 ?_
      exact x_iret C (po_r (by unfold cms; rw [if_pos (Or.inl h28)])) dX4_comes_48
    · skip
      refine x_aload_n C dX4_comes_31 rfl ?_
      refine x_getF C hT f_X4_7 rfl rfl (by first | assumption | exact Nat.one_pos) dX4_comes_32 ?_
      refine x_iload_n C dX4_comes_35 rfl ?_
      refine x_ialdN C (k) rfl rfl rfl (by first | assumption | exact Nat.one_pos) hk (by decide) dX4_comes_36 ?_
      refine x_iconst C 5 (by decide) dX4_comes_37 ?_
      refine x_icmp_ne C 49 dX4_comes_38 (by decide) (fun h38 => ?_) (fun h38 => ?_)
      · skip
        refine x_aload_n C dX4_comes_49 rfl ?_
        refine x_getF C hT f_X4_7 rfl rfl (by first | assumption | exact Nat.one_pos) dX4_comes_50 ?_
        refine x_iload_n C dX4_comes_53 rfl ?_
        refine x_ialdN C (k) rfl rfl rfl (by first | assumption | exact Nat.one_pos) hk (by decide) dX4_comes_54 ?_
        refine x_iconst C 1 (by decide) dX4_comes_55 ?_
        refine x_icmp_ne C 78 dX4_comes_56 (by decide) (fun h56 => ?_) (fun h56 => ?_)
        · skip
          refine x_aload_n C dX4_comes_78 rfl ?_
          refine x_getF C hT f_X4_7 rfl rfl (by first | assumption | exact Nat.one_pos) dX4_comes_79 ?_
          refine x_iload_n C dX4_comes_82 rfl ?_
          refine x_ialdN C (k) rfl rfl rfl (by first | assumption | exact Nat.one_pos) hk (by decide) dX4_comes_83 ?_
          refine x_iconst C 3 (by decide) dX4_comes_84 ?_
          refine x_icmp_ne C 109 dX4_comes_85 (by decide) (fun h85 => ?_) (fun h85 => ?_)
          · skip
            refine x_aload_n C dX4_comes_109 rfl ?_
            refine x_getF C hT f_X4_7 rfl rfl (by first | assumption | exact Nat.one_pos) dX4_comes_110 ?_
            refine x_iload_n C dX4_comes_113 rfl ?_
            refine x_ialdN C (k) rfl rfl rfl (by first | assumption | exact Nat.one_pos) hk (by decide) dX4_comes_114 ?_
            refine x_iconst C 2 (by decide) dX4_comes_115 ?_
            refine x_icmp_ne C 123 dX4_comes_116 (by decide) (fun h116 => ?_) (fun h116 => ?_)
            · skip
              refine x_iload_n C dX4_comes_123 rfl ?_
              refine x_iload C dX4_comes_124 rfl ?_
              refine x_icmp_ge C 133 dX4_comes_126 (by decide) (fun h126 => ?_) (fun h126 => ?_)
              · skip
                have q126 : ¬ a < r := fun z => absurd h126 (nI_ge z (by omega))
                refine x_iconst C (-1) (by decide) dX4_comes_133 ?_
                exact x_iret C (po_r (by unfold cms; rw [if_neg (fun z => z.elim (fun w => w h28) (fun w => absurd w.1 (by decide)))]; rw [if_neg (fun z => absurd z.1 (by decide))]; rw [if_neg (fun z => absurd z.1 (by decide))]; rw [if_pos (Or.inl (by decide))]; rw [if_neg q126])) dX4_comes_134
              · skip
                have q126 : a < r := Nat.not_le.mp (fun z => h126 (nI_le z (by omega)))
                refine x_iload_n C dX4_comes_129 rfl ?_
                refine x_goto C 134 dX4_comes_130 (by decide) ?_
                exact x_iret C (po_r (by unfold cms; rw [if_neg (fun z => z.elim (fun w => w h28) (fun w => absurd w.1 (by decide)))]; rw [if_neg (fun z => absurd z.1 (by decide))]; rw [if_neg (fun z => absurd z.1 (by decide))]; rw [if_pos (Or.inl (by decide))]; rw [if_pos q126])) dX4_comes_134
            · skip
              rw [hf] at h116
              exact absurd h116 (by decide)
          · skip
            rw [hf] at h85
            exact absurd h85 (by decide)
        · skip
          rw [hf] at h56
          exact absurd h56 (by decide)
      · skip
        rw [hf] at h38
        exact absurd h38 (by decide)
  · skip
    refine x_aload_n C dX4_comes_22 rfl ?_
    refine x_getF C hT f_X4_47 rfl rfl (by first | assumption | exact Nat.one_pos) dX4_comes_23 ?_
    refine x_iload_n C dX4_comes_26 rfl ?_
    refine x_zaldN C (k) rfl rfl rfl (by first | assumption | exact Nat.one_pos) hk (by decide) dX4_comes_27 ?_
    refine x_if_ne C 46 dX4_comes_28 (by decide) (fun h28 => ?_) (fun h28 => ?_)
    · skip
      refine x_bipush C (-2) (by decide) dX4_comes_46 ?_
      exact x_iret C (po_r (by unfold cms; rw [if_pos (Or.inl h28)])) dX4_comes_48
    · skip
      refine x_aload_n C dX4_comes_31 rfl ?_
      refine x_getF C hT f_X4_7 rfl rfl (by first | assumption | exact Nat.one_pos) dX4_comes_32 ?_
      refine x_iload_n C dX4_comes_35 rfl ?_
      refine x_ialdN C (k) rfl rfl rfl (by first | assumption | exact Nat.one_pos) hk (by decide) dX4_comes_36 ?_
      refine x_iconst C 5 (by decide) dX4_comes_37 ?_
      refine x_icmp_ne C 49 dX4_comes_38 (by decide) (fun h38 => ?_) (fun h38 => ?_)
      · skip
        refine x_aload_n C dX4_comes_49 rfl ?_
        refine x_getF C hT f_X4_7 rfl rfl (by first | assumption | exact Nat.one_pos) dX4_comes_50 ?_
        refine x_iload_n C dX4_comes_53 rfl ?_
        refine x_ialdN C (k) rfl rfl rfl (by first | assumption | exact Nat.one_pos) hk (by decide) dX4_comes_54 ?_
        refine x_iconst C 1 (by decide) dX4_comes_55 ?_
        refine x_icmp_ne C 78 dX4_comes_56 (by decide) (fun h56 => ?_) (fun h56 => ?_)
        · skip
          rw [hf] at h56
          exact absurd rfl h56
        · skip
          refine x_iload_n C dX4_comes_59 rfl ?_
          refine x_if_le C 78 dX4_comes_60 (by decide) (fun h60 => ?_) (fun h60 => ?_)
          · skip
            have q60 : ¬ 0 < a := fun z => absurd h60 (nI_nle z (by omega))
            refine x_aload_n C dX4_comes_78 rfl ?_
            refine x_getF C hT f_X4_7 rfl rfl (by first | assumption | exact Nat.one_pos) dX4_comes_79 ?_
            refine x_iload_n C dX4_comes_82 rfl ?_
            refine x_ialdN C (k) rfl rfl rfl (by first | assumption | exact Nat.one_pos) hk (by decide) dX4_comes_83 ?_
            refine x_iconst C 3 (by decide) dX4_comes_84 ?_
            refine x_icmp_ne C 109 dX4_comes_85 (by decide) (fun h85 => ?_) (fun h85 => ?_)
            · skip
              refine x_aload_n C dX4_comes_109 rfl ?_
              refine x_getF C hT f_X4_7 rfl rfl (by first | assumption | exact Nat.one_pos) dX4_comes_110 ?_
              refine x_iload_n C dX4_comes_113 rfl ?_
              refine x_ialdN C (k) rfl rfl rfl (by first | assumption | exact Nat.one_pos) hk (by decide) dX4_comes_114 ?_
              refine x_iconst C 2 (by decide) dX4_comes_115 ?_
              refine x_icmp_ne C 123 dX4_comes_116 (by decide) (fun h116 => ?_) (fun h116 => ?_)
              · skip
                refine x_iload_n C dX4_comes_123 rfl ?_
                refine x_iload C dX4_comes_124 rfl ?_
                refine x_icmp_ge C 133 dX4_comes_126 (by decide) (fun h126 => ?_) (fun h126 => ?_)
                · skip
                  have q126 : ¬ a < r := fun z => absurd h126 (nI_ge z (by omega))
                  refine x_iconst C (-1) (by decide) dX4_comes_133 ?_
                  exact x_iret C (po_r (by unfold cms; rw [if_neg (fun z => z.elim (fun w => w h28) (fun w => absurd w.1 (by decide)))]; rw [if_neg (fun z => absurd z.2.1 q60)]; rw [if_neg (fun z => absurd z.1 (by decide))]; rw [if_pos (Or.inl (by decide))]; rw [if_neg q126])) dX4_comes_134
                · skip
                  have q126 : a < r := Nat.not_le.mp (fun z => h126 (nI_le z (by omega)))
                  refine x_iload_n C dX4_comes_129 rfl ?_
                  refine x_goto C 134 dX4_comes_130 (by decide) ?_
                  exact x_iret C (po_r (by unfold cms; rw [if_neg (fun z => z.elim (fun w => w h28) (fun w => absurd w.1 (by decide)))]; rw [if_neg (fun z => absurd z.2.1 q60)]; rw [if_neg (fun z => absurd z.1 (by decide))]; rw [if_pos (Or.inl (by decide))]; rw [if_pos q126])) dX4_comes_134
              · skip
                rw [hf] at h116
                exact absurd h116 (by decide)
            · skip
              rw [hf] at h85
              exact absurd h85 (by decide)
          · skip
            have q60 : 0 < a := (Nat.eq_zero_or_pos a).elim (fun z => absurd (by rw [z]; decide) h60) id
            refine x_aload_n C dX4_comes_63 rfl ?_
            refine x_iload_n C dX4_comes_64 rfl ?_
            refine x_iload_n C dX4_comes_65 rfl ?_
            refine x_iconst C 1 (by decide) dX4_comes_66 ?_
            refine x_isub C dX4_comes_67 ?_
            rw [nI_m1 q60]
            refine x_cV1 C yo_X4_taken m_X4_130 rfl rfl (by first | assumption | exact Nat.one_pos) (c_X4_taken l D dA base n ad I J R hT e0 (a - 1) k a pls ys he hk hon ht (by omega) (by omega)) dX4_comes_68 rfl rfl (Nat.le_of_ble_eq_true rfl) ⟨by decide, by decide⟩ ⟨by decide, by decide⟩ ?_
            refine x_lconst C 0 (by decide) dX4_comes_71 ?_
            refine x_lcmp C dX4_comes_72 ?_
            refine x_if_eq C 78 dX4_comes_73 (by decide) (fun h73 => ?_) (fun h73 => ?_)
            · skip
              rw [lg_cmp_eq] at h73
              refine x_aload_n C dX4_comes_78 rfl ?_
              refine x_getF C hT f_X4_7 rfl rfl (by first | assumption | exact Nat.one_pos) dX4_comes_79 ?_
              refine x_iload_n C dX4_comes_82 rfl ?_
              refine x_ialdN C (k) rfl rfl rfl (by first | assumption | exact Nat.one_pos) hk (by decide) dX4_comes_83 ?_
              refine x_iconst C 3 (by decide) dX4_comes_84 ?_
              refine x_icmp_ne C 109 dX4_comes_85 (by decide) (fun h85 => ?_) (fun h85 => ?_)
              · skip
                refine x_aload_n C dX4_comes_109 rfl ?_
                refine x_getF C hT f_X4_7 rfl rfl (by first | assumption | exact Nat.one_pos) dX4_comes_110 ?_
                refine x_iload_n C dX4_comes_113 rfl ?_
                refine x_ialdN C (k) rfl rfl rfl (by first | assumption | exact Nat.one_pos) hk (by decide) dX4_comes_114 ?_
                refine x_iconst C 2 (by decide) dX4_comes_115 ?_
                refine x_icmp_ne C 123 dX4_comes_116 (by decide) (fun h116 => ?_) (fun h116 => ?_)
                · skip
                  refine x_iload_n C dX4_comes_123 rfl ?_
                  refine x_iload C dX4_comes_124 rfl ?_
                  refine x_icmp_ge C 133 dX4_comes_126 (by decide) (fun h126 => ?_) (fun h126 => ?_)
                  · skip
                    have q126 : ¬ a < r := fun z => absurd h126 (nI_ge z (by omega))
                    refine x_iconst C (-1) (by decide) dX4_comes_133 ?_
                    exact x_iret C (po_r (by unfold cms; rw [if_neg (fun z => z.elim (fun w => w h28) (fun w => absurd w.1 (by decide)))]; rw [if_neg (fun z => z.2.2 h73)]; rw [if_neg (fun z => absurd z.1 (by decide))]; rw [if_pos (Or.inl (by decide))]; rw [if_neg q126])) dX4_comes_134
                  · skip
                    have q126 : a < r := Nat.not_le.mp (fun z => h126 (nI_le z (by omega)))
                    refine x_iload_n C dX4_comes_129 rfl ?_
                    refine x_goto C 134 dX4_comes_130 (by decide) ?_
                    exact x_iret C (po_r (by unfold cms; rw [if_neg (fun z => z.elim (fun w => w h28) (fun w => absurd w.1 (by decide)))]; rw [if_neg (fun z => z.2.2 h73)]; rw [if_neg (fun z => absurd z.1 (by decide))]; rw [if_pos (Or.inl (by decide))]; rw [if_pos q126])) dX4_comes_134
                · skip
                  rw [hf] at h116
                  exact absurd h116 (by decide)
              · skip
                rw [hf] at h85
                exact absurd h85 (by decide)
            · skip
              rw [lg_cmp_eq] at h73
              refine x_iconst C (-1) (by decide) dX4_comes_76 ?_
              exact x_iret C (po_r (by unfold cms; rw [if_neg (fun z => z.elim (fun w => w h28) (fun w => absurd w.1 (by decide)))]; rw [if_pos ⟨rfl, q60, h73⟩])) dX4_comes_77
      · skip
        rw [hf] at h38
        exact absurd h38 (by decide)
  · skip
    refine x_aload_n C dX4_comes_22 rfl ?_
    refine x_getF C hT f_X4_47 rfl rfl (by first | assumption | exact Nat.one_pos) dX4_comes_23 ?_
    refine x_iload_n C dX4_comes_26 rfl ?_
    refine x_zaldN C (k) rfl rfl rfl (by first | assumption | exact Nat.one_pos) hk (by decide) dX4_comes_27 ?_
    refine x_if_ne C 46 dX4_comes_28 (by decide) (fun h28 => ?_) (fun h28 => ?_)
    · skip
      refine x_bipush C (-2) (by decide) dX4_comes_46 ?_
      exact x_iret C (po_r (by unfold cms; rw [if_pos (Or.inl h28)])) dX4_comes_48
    · skip
      refine x_aload_n C dX4_comes_31 rfl ?_
      refine x_getF C hT f_X4_7 rfl rfl (by first | assumption | exact Nat.one_pos) dX4_comes_32 ?_
      refine x_iload_n C dX4_comes_35 rfl ?_
      refine x_ialdN C (k) rfl rfl rfl (by first | assumption | exact Nat.one_pos) hk (by decide) dX4_comes_36 ?_
      refine x_iconst C 5 (by decide) dX4_comes_37 ?_
      refine x_icmp_ne C 49 dX4_comes_38 (by decide) (fun h38 => ?_) (fun h38 => ?_)
      · skip
        refine x_aload_n C dX4_comes_49 rfl ?_
        refine x_getF C hT f_X4_7 rfl rfl (by first | assumption | exact Nat.one_pos) dX4_comes_50 ?_
        refine x_iload_n C dX4_comes_53 rfl ?_
        refine x_ialdN C (k) rfl rfl rfl (by first | assumption | exact Nat.one_pos) hk (by decide) dX4_comes_54 ?_
        refine x_iconst C 1 (by decide) dX4_comes_55 ?_
        refine x_icmp_ne C 78 dX4_comes_56 (by decide) (fun h56 => ?_) (fun h56 => ?_)
        · skip
          refine x_aload_n C dX4_comes_78 rfl ?_
          refine x_getF C hT f_X4_7 rfl rfl (by first | assumption | exact Nat.one_pos) dX4_comes_79 ?_
          refine x_iload_n C dX4_comes_82 rfl ?_
          refine x_ialdN C (k) rfl rfl rfl (by first | assumption | exact Nat.one_pos) hk (by decide) dX4_comes_83 ?_
          refine x_iconst C 3 (by decide) dX4_comes_84 ?_
          refine x_icmp_ne C 109 dX4_comes_85 (by decide) (fun h85 => ?_) (fun h85 => ?_)
          · skip
            refine x_aload_n C dX4_comes_109 rfl ?_
            refine x_getF C hT f_X4_7 rfl rfl (by first | assumption | exact Nat.one_pos) dX4_comes_110 ?_
            refine x_iload_n C dX4_comes_113 rfl ?_
            refine x_ialdN C (k) rfl rfl rfl (by first | assumption | exact Nat.one_pos) hk (by decide) dX4_comes_114 ?_
            refine x_iconst C 2 (by decide) dX4_comes_115 ?_
            refine x_icmp_ne C 123 dX4_comes_116 (by decide) (fun h116 => ?_) (fun h116 => ?_)
            · skip
              rw [hf] at h116
              exact absurd rfl h116
            · skip
              refine x_iload_n C dX4_comes_119 rfl ?_
              refine x_if_ne C 135 dX4_comes_120 (by decide) (fun h120 => ?_) (fun h120 => ?_)
              · skip
                have q120 : ¬ a = 0 := fun z => h120 (by rw [z]; rfl)
                refine x_iload_n C dX4_comes_135 rfl ?_
                refine x_iconst C 1 (by decide) dX4_comes_136 ?_
                refine x_icmp_ne C 164 dX4_comes_137 (by decide) (fun h137 => ?_) (fun h137 => ?_)
                · skip
                  have q137 : ¬ a = 1 := fun z => h137 (by rw [z]; rfl)
                  refine x_iconst C (-1) (by decide) dX4_comes_164 ?_
                  exact x_iret C (po_r (by unfold cms; rw [if_neg (fun z => z.elim (fun w => w h28) (fun w => absurd w.1 (by decide)))]; rw [if_neg (fun z => absurd z.1 (by decide))]; rw [if_neg (fun z => absurd z.1 (by decide))]; rw [if_neg (fun z => z.elim (fun w => w rfl) q120)]; rw [if_neg (fun z => q137 z.1)])) dX4_comes_165
                · skip
                  have q137 : a = 1 := (nI_eq (b := 1) (by omega) (by decide)).mp h137
                  refine x_iload C dX4_comes_140 rfl ?_
                  refine x_iconst C 1 (by decide) dX4_comes_142 ?_
                  refine x_icmp_le C 164 dX4_comes_143 (by decide) (fun h143 => ?_) (fun h143 => ?_)
                  · skip
                    have q143 : ¬ 1 < r := fun z => absurd h143 (nI_ge (a := 1) z (by omega))
                    refine x_iconst C (-1) (by decide) dX4_comes_164 ?_
                    exact x_iret C (po_r (by unfold cms; rw [if_neg (fun z => z.elim (fun w => w h28) (fun w => absurd w.1 (by decide)))]; rw [if_neg (fun z => absurd z.1 (by decide))]; rw [if_neg (fun z => absurd z.1 (by decide))]; rw [if_neg (fun z => z.elim (fun w => w rfl) q120)]; rw [if_neg (fun z => q143 z.2)])) dX4_comes_165
                  · skip
                    have q143 : 1 < r := Nat.not_le.mp (fun z => h143 (nI_le (b := 1) z (by decide)))
                    refine x_iconst C 1 (by decide) dX4_comes_146 ?_
                    refine x_aload_n C dX4_comes_147 rfl ?_
                    refine x_iload_n C dX4_comes_148 rfl ?_
                    refine x_iconst C 0 (by decide) dX4_comes_149 ?_
                    refine x_cV1 C yo_X4_taken m_X4_130 rfl rfl (by first | assumption | exact Nat.one_pos) (c_X4_taken l D dA base n ad I J R hT e0 (0) k a pls ys he hk hon ht (by omega) (by decide)) dX4_comes_150 rfl rfl (Nat.le_of_ble_eq_true rfl) ⟨by decide, by decide⟩ ⟨by decide, by decide⟩ ?_
                    refine x_iload C dX4_comes_153 rfl ?_
                    refine x_iconst C 1 (by decide) dX4_comes_155 ?_
                    refine x_isub C dX4_comes_156 ?_
                    rw [nI_m1 (by omega)]
                    refine x_cS1 C yo_X4_remainder rfl m_X4_134 (c_X4_remainder l D dA base n ad I J R (J 34 0 (ys 0)) (r - 1) (by omega) (by omega)) dX4_comes_157 rfl rfl (Nat.le_of_ble_eq_true rfl) ⟨by decide, by decide⟩ ⟨by decide, by decide⟩ ?_
                    refine x_iadd C dX4_comes_160 ?_
                    refine x_goto C 165 dX4_comes_161 (by decide) ?_
                    exact x_iret C (po_r (by unfold cms; rw [if_neg (fun z => z.elim (fun w => w h28) (fun w => absurd w.1 (by decide)))]; rw [if_neg (fun z => absurd z.1 (by decide))]; rw [if_neg (fun z => absurd z.1 (by decide))]; rw [if_neg (fun z => z.elim (fun w => w rfl) q120)]; rw [if_pos ⟨q137, q143⟩])) dX4_comes_165
              · skip
                have q120 : a = 0 := (nI_eq (b := 0) (by omega) (by decide)).mp h120
                refine x_iload_n C dX4_comes_123 rfl ?_
                refine x_iload C dX4_comes_124 rfl ?_
                refine x_icmp_ge C 133 dX4_comes_126 (by decide) (fun h126 => ?_) (fun h126 => ?_)
                · skip
                  have q126 : ¬ a < r := fun z => absurd h126 (nI_ge z (by omega))
                  refine x_iconst C (-1) (by decide) dX4_comes_133 ?_
                  exact x_iret C (po_r (by unfold cms; rw [if_neg (fun z => z.elim (fun w => w h28) (fun w => absurd w.1 (by decide)))]; rw [if_neg (fun z => absurd z.1 (by decide))]; rw [if_neg (fun z => absurd z.1 (by decide))]; rw [if_pos (Or.inr q120)]; rw [if_neg q126])) dX4_comes_134
                · skip
                  have q126 : a < r := Nat.not_le.mp (fun z => h126 (nI_le z (by omega)))
                  refine x_iload_n C dX4_comes_129 rfl ?_
                  refine x_goto C 134 dX4_comes_130 (by decide) ?_
                  exact x_iret C (po_r (by unfold cms; rw [if_neg (fun z => z.elim (fun w => w h28) (fun w => absurd w.1 (by decide)))]; rw [if_neg (fun z => absurd z.1 (by decide))]; rw [if_neg (fun z => absurd z.1 (by decide))]; rw [if_pos (Or.inr q120)]; rw [if_pos q126])) dX4_comes_134
          · skip
            rw [hf] at h85
            exact absurd h85 (by decide)
        · skip
          rw [hf] at h56
          exact absurd h56 (by decide)
      · skip
        rw [hf] at h38
        exact absurd h38 (by decide)
  · skip
    refine x_aload_n C dX4_comes_22 rfl ?_
    refine x_getF C hT f_X4_47 rfl rfl (by first | assumption | exact Nat.one_pos) dX4_comes_23 ?_
    refine x_iload_n C dX4_comes_26 rfl ?_
    refine x_zaldN C (k) rfl rfl rfl (by first | assumption | exact Nat.one_pos) hk (by decide) dX4_comes_27 ?_
    refine x_if_ne C 46 dX4_comes_28 (by decide) (fun h28 => ?_) (fun h28 => ?_)
    · skip
      refine x_bipush C (-2) (by decide) dX4_comes_46 ?_
      exact x_iret C (po_r (by unfold cms; rw [if_pos (Or.inl h28)])) dX4_comes_48
    · skip
      refine x_aload_n C dX4_comes_31 rfl ?_
      refine x_getF C hT f_X4_7 rfl rfl (by first | assumption | exact Nat.one_pos) dX4_comes_32 ?_
      refine x_iload_n C dX4_comes_35 rfl ?_
      refine x_ialdN C (k) rfl rfl rfl (by first | assumption | exact Nat.one_pos) hk (by decide) dX4_comes_36 ?_
      refine x_iconst C 5 (by decide) dX4_comes_37 ?_
      refine x_icmp_ne C 49 dX4_comes_38 (by decide) (fun h38 => ?_) (fun h38 => ?_)
      · skip
        refine x_aload_n C dX4_comes_49 rfl ?_
        refine x_getF C hT f_X4_7 rfl rfl (by first | assumption | exact Nat.one_pos) dX4_comes_50 ?_
        refine x_iload_n C dX4_comes_53 rfl ?_
        refine x_ialdN C (k) rfl rfl rfl (by first | assumption | exact Nat.one_pos) hk (by decide) dX4_comes_54 ?_
        refine x_iconst C 1 (by decide) dX4_comes_55 ?_
        refine x_icmp_ne C 78 dX4_comes_56 (by decide) (fun h56 => ?_) (fun h56 => ?_)
        · skip
          refine x_aload_n C dX4_comes_78 rfl ?_
          refine x_getF C hT f_X4_7 rfl rfl (by first | assumption | exact Nat.one_pos) dX4_comes_79 ?_
          refine x_iload_n C dX4_comes_82 rfl ?_
          refine x_ialdN C (k) rfl rfl rfl (by first | assumption | exact Nat.one_pos) hk (by decide) dX4_comes_83 ?_
          refine x_iconst C 3 (by decide) dX4_comes_84 ?_
          refine x_icmp_ne C 109 dX4_comes_85 (by decide) (fun h85 => ?_) (fun h85 => ?_)
          · skip
            rw [hf] at h85
            exact absurd rfl h85
          · skip
            refine x_iload_n C dX4_comes_88 rfl ?_
            refine x_iconst C 1 (by decide) dX4_comes_89 ?_
            refine x_icmp_le C 109 dX4_comes_90 (by decide) (fun h90 => ?_) (fun h90 => ?_)
            · skip
              have q90 : ¬ 1 < a := fun z => absurd h90 (nI_ge (a := 1) z (by omega))
              refine x_aload_n C dX4_comes_109 rfl ?_
              refine x_getF C hT f_X4_7 rfl rfl (by first | assumption | exact Nat.one_pos) dX4_comes_110 ?_
              refine x_iload_n C dX4_comes_113 rfl ?_
              refine x_ialdN C (k) rfl rfl rfl (by first | assumption | exact Nat.one_pos) hk (by decide) dX4_comes_114 ?_
              refine x_iconst C 2 (by decide) dX4_comes_115 ?_
              refine x_icmp_ne C 123 dX4_comes_116 (by decide) (fun h116 => ?_) (fun h116 => ?_)
              · skip
                refine x_iload_n C dX4_comes_123 rfl ?_
                refine x_iload C dX4_comes_124 rfl ?_
                refine x_icmp_ge C 133 dX4_comes_126 (by decide) (fun h126 => ?_) (fun h126 => ?_)
                · skip
                  have q126 : ¬ a < r := fun z => absurd h126 (nI_ge z (by omega))
                  refine x_iconst C (-1) (by decide) dX4_comes_133 ?_
                  exact x_iret C (po_r (by unfold cms; rw [if_neg (fun z => z.elim (fun w => w h28) (fun w => absurd w.1 (by decide)))]; rw [if_neg (fun z => absurd z.1 (by decide))]; rw [if_neg (fun z => absurd z.2.1 q90)]; rw [if_pos (Or.inl (by decide))]; rw [if_neg q126])) dX4_comes_134
                · skip
                  have q126 : a < r := Nat.not_le.mp (fun z => h126 (nI_le z (by omega)))
                  refine x_iload_n C dX4_comes_129 rfl ?_
                  refine x_goto C 134 dX4_comes_130 (by decide) ?_
                  exact x_iret C (po_r (by unfold cms; rw [if_neg (fun z => z.elim (fun w => w h28) (fun w => absurd w.1 (by decide)))]; rw [if_neg (fun z => absurd z.1 (by decide))]; rw [if_neg (fun z => absurd z.2.1 q90)]; rw [if_pos (Or.inl (by decide))]; rw [if_pos q126])) dX4_comes_134
              · skip
                rw [hf] at h116
                exact absurd h116 (by decide)
            · skip
              have q90 : 1 < a := Nat.not_le.mp (fun z => h90 (nI_le (b := 1) z (by decide)))
              refine x_aload_n C dX4_comes_93 rfl ?_
              refine x_iload_n C dX4_comes_94 rfl ?_
              refine x_iload_n C dX4_comes_95 rfl ?_
              refine x_iconst C 1 (by decide) dX4_comes_96 ?_
              refine x_isub C dX4_comes_97 ?_
              rw [nI_m1 (by omega)]
              refine x_cV1 C yo_X4_taken m_X4_130 rfl rfl (by first | assumption | exact Nat.one_pos) (c_X4_taken l D dA base n ad I J R hT e0 (a - 1) k a pls ys he hk hon ht (by omega) (by omega)) dX4_comes_98 rfl rfl (Nat.le_of_ble_eq_true rfl) ⟨by decide, by decide⟩ ⟨by decide, by decide⟩ ?_
              refine x_lconst C 0 (by decide) dX4_comes_101 ?_
              refine x_lcmp C dX4_comes_102 ?_
              refine x_if_ne C 109 dX4_comes_103 (by decide) (fun h103 => ?_) (fun h103 => ?_)
              · skip
                rw [lg_ne] at h103
                refine x_aload_n C dX4_comes_109 rfl ?_
                refine x_getF C hT f_X4_7 rfl rfl (by first | assumption | exact Nat.one_pos) dX4_comes_110 ?_
                refine x_iload_n C dX4_comes_113 rfl ?_
                refine x_ialdN C (k) rfl rfl rfl (by first | assumption | exact Nat.one_pos) hk (by decide) dX4_comes_114 ?_
                refine x_iconst C 2 (by decide) dX4_comes_115 ?_
                refine x_icmp_ne C 123 dX4_comes_116 (by decide) (fun h116 => ?_) (fun h116 => ?_)
                · skip
                  refine x_iload_n C dX4_comes_123 rfl ?_
                  refine x_iload C dX4_comes_124 rfl ?_
                  refine x_icmp_ge C 133 dX4_comes_126 (by decide) (fun h126 => ?_) (fun h126 => ?_)
                  · skip
                    have q126 : ¬ a < r := fun z => absurd h126 (nI_ge z (by omega))
                    refine x_iconst C (-1) (by decide) dX4_comes_133 ?_
                    exact x_iret C (po_r (by unfold cms; rw [if_neg (fun z => z.elim (fun w => w h28) (fun w => absurd w.1 (by decide)))]; rw [if_neg (fun z => absurd z.1 (by decide))]; rw [if_neg (fun z => h103 z.2.2)]; rw [if_pos (Or.inl (by decide))]; rw [if_neg q126])) dX4_comes_134
                  · skip
                    have q126 : a < r := Nat.not_le.mp (fun z => h126 (nI_le z (by omega)))
                    refine x_iload_n C dX4_comes_129 rfl ?_
                    refine x_goto C 134 dX4_comes_130 (by decide) ?_
                    exact x_iret C (po_r (by unfold cms; rw [if_neg (fun z => z.elim (fun w => w h28) (fun w => absurd w.1 (by decide)))]; rw [if_neg (fun z => absurd z.1 (by decide))]; rw [if_neg (fun z => h103 z.2.2)]; rw [if_pos (Or.inl (by decide))]; rw [if_pos q126])) dX4_comes_134
                · skip
                  rw [hf] at h116
                  exact absurd h116 (by decide)
              · skip
                rw [lg_cmp_eq] at h103
                refine x_bipush C (-2) (by decide) dX4_comes_106 ?_
                exact x_iret C (po_r (by unfold cms; rw [if_neg (fun z => z.elim (fun w => w h28) (fun w => absurd w.1 (by decide)))]; rw [if_neg (fun z => absurd z.1 (by decide))]; rw [if_pos ⟨rfl, q90, h103⟩])) dX4_comes_108
        · skip
          rw [hf] at h56
          exact absurd h56 (by decide)
      · skip
        rw [hf] at h38
        exact absurd h38 (by decide)
  · skip
    refine x_aload_n C dX4_comes_22 rfl ?_
    refine x_getF C hT f_X4_47 rfl rfl (by first | assumption | exact Nat.one_pos) dX4_comes_23 ?_
    refine x_iload_n C dX4_comes_26 rfl ?_
    refine x_zaldN C (k) rfl rfl rfl (by first | assumption | exact Nat.one_pos) hk (by decide) dX4_comes_27 ?_
    refine x_if_ne C 46 dX4_comes_28 (by decide) (fun h28 => ?_) (fun h28 => ?_)
    · skip
      refine x_bipush C (-2) (by decide) dX4_comes_46 ?_
      exact x_iret C (po_r (by unfold cms; rw [if_pos (Or.inl h28)])) dX4_comes_48
    · skip
      refine x_aload_n C dX4_comes_31 rfl ?_
      refine x_getF C hT f_X4_7 rfl rfl (by first | assumption | exact Nat.one_pos) dX4_comes_32 ?_
      refine x_iload_n C dX4_comes_35 rfl ?_
      refine x_ialdN C (k) rfl rfl rfl (by first | assumption | exact Nat.one_pos) hk (by decide) dX4_comes_36 ?_
      refine x_iconst C 5 (by decide) dX4_comes_37 ?_
      refine x_icmp_ne C 49 dX4_comes_38 (by decide) (fun h38 => ?_) (fun h38 => ?_)
      · skip
        refine x_aload_n C dX4_comes_49 rfl ?_
        refine x_getF C hT f_X4_7 rfl rfl (by first | assumption | exact Nat.one_pos) dX4_comes_50 ?_
        refine x_iload_n C dX4_comes_53 rfl ?_
        refine x_ialdN C (k) rfl rfl rfl (by first | assumption | exact Nat.one_pos) hk (by decide) dX4_comes_54 ?_
        refine x_iconst C 1 (by decide) dX4_comes_55 ?_
        refine x_icmp_ne C 78 dX4_comes_56 (by decide) (fun h56 => ?_) (fun h56 => ?_)
        · skip
          refine x_aload_n C dX4_comes_78 rfl ?_
          refine x_getF C hT f_X4_7 rfl rfl (by first | assumption | exact Nat.one_pos) dX4_comes_79 ?_
          refine x_iload_n C dX4_comes_82 rfl ?_
          refine x_ialdN C (k) rfl rfl rfl (by first | assumption | exact Nat.one_pos) hk (by decide) dX4_comes_83 ?_
          refine x_iconst C 3 (by decide) dX4_comes_84 ?_
          refine x_icmp_ne C 109 dX4_comes_85 (by decide) (fun h85 => ?_) (fun h85 => ?_)
          · skip
            refine x_aload_n C dX4_comes_109 rfl ?_
            refine x_getF C hT f_X4_7 rfl rfl (by first | assumption | exact Nat.one_pos) dX4_comes_110 ?_
            refine x_iload_n C dX4_comes_113 rfl ?_
            refine x_ialdN C (k) rfl rfl rfl (by first | assumption | exact Nat.one_pos) hk (by decide) dX4_comes_114 ?_
            refine x_iconst C 2 (by decide) dX4_comes_115 ?_
            refine x_icmp_ne C 123 dX4_comes_116 (by decide) (fun h116 => ?_) (fun h116 => ?_)
            · skip
              refine x_iload_n C dX4_comes_123 rfl ?_
              refine x_iload C dX4_comes_124 rfl ?_
              refine x_icmp_ge C 133 dX4_comes_126 (by decide) (fun h126 => ?_) (fun h126 => ?_)
              · skip
                have q126 : ¬ a < r := fun z => absurd h126 (nI_ge z (by omega))
                refine x_iconst C (-1) (by decide) dX4_comes_133 ?_
                exact x_iret C (po_r (by unfold cms; rw [if_neg (fun z => z.elim (fun w => w h28) (fun w => absurd w.1 (by decide)))]; rw [if_neg (fun z => absurd z.1 (by decide))]; rw [if_neg (fun z => absurd z.1 (by decide))]; rw [if_pos (Or.inl (by decide))]; rw [if_neg q126])) dX4_comes_134
              · skip
                have q126 : a < r := Nat.not_le.mp (fun z => h126 (nI_le z (by omega)))
                refine x_iload_n C dX4_comes_129 rfl ?_
                refine x_goto C 134 dX4_comes_130 (by decide) ?_
                exact x_iret C (po_r (by unfold cms; rw [if_neg (fun z => z.elim (fun w => w h28) (fun w => absurd w.1 (by decide)))]; rw [if_neg (fun z => absurd z.1 (by decide))]; rw [if_neg (fun z => absurd z.1 (by decide))]; rw [if_pos (Or.inl (by decide))]; rw [if_pos q126])) dX4_comes_134
            · skip
              rw [hf] at h116
              exact absurd h116 (by decide)
          · skip
            rw [hf] at h85
            exact absurd h85 (by decide)
        · skip
          rw [hf] at h56
          exact absurd h56 (by decide)
      · skip
        rw [hf] at h38
        exact absurd h38 (by decide)
  · skip
    refine x_aload_n C dX4_comes_22 rfl ?_
    refine x_getF C hT f_X4_47 rfl rfl (by first | assumption | exact Nat.one_pos) dX4_comes_23 ?_
    refine x_iload_n C dX4_comes_26 rfl ?_
    refine x_zaldN C (k) rfl rfl rfl (by first | assumption | exact Nat.one_pos) hk (by decide) dX4_comes_27 ?_
    refine x_if_ne C 46 dX4_comes_28 (by decide) (fun h28 => ?_) (fun h28 => ?_)
    · skip
      refine x_bipush C (-2) (by decide) dX4_comes_46 ?_
      exact x_iret C (po_r (by unfold cms; rw [if_pos (Or.inl h28)])) dX4_comes_48
    · skip
      refine x_aload_n C dX4_comes_31 rfl ?_
      refine x_getF C hT f_X4_7 rfl rfl (by first | assumption | exact Nat.one_pos) dX4_comes_32 ?_
      refine x_iload_n C dX4_comes_35 rfl ?_
      refine x_ialdN C (k) rfl rfl rfl (by first | assumption | exact Nat.one_pos) hk (by decide) dX4_comes_36 ?_
      refine x_iconst C 5 (by decide) dX4_comes_37 ?_
      refine x_icmp_ne C 49 dX4_comes_38 (by decide) (fun h38 => ?_) (fun h38 => ?_)
      · skip
        rw [hf] at h38
        exact absurd rfl h38
      · skip
        refine x_iload C dX4_comes_41 rfl ?_
        refine x_if_ne C 49 dX4_comes_43 (by decide) (fun h43 => ?_) (fun h43 => ?_)
        · skip
          have q43 : ¬ r = 0 := fun z => h43 (by rw [z]; rfl)
          refine x_aload_n C dX4_comes_49 rfl ?_
          refine x_getF C hT f_X4_7 rfl rfl (by first | assumption | exact Nat.one_pos) dX4_comes_50 ?_
          refine x_iload_n C dX4_comes_53 rfl ?_
          refine x_ialdN C (k) rfl rfl rfl (by first | assumption | exact Nat.one_pos) hk (by decide) dX4_comes_54 ?_
          refine x_iconst C 1 (by decide) dX4_comes_55 ?_
          refine x_icmp_ne C 78 dX4_comes_56 (by decide) (fun h56 => ?_) (fun h56 => ?_)
          · skip
            refine x_aload_n C dX4_comes_78 rfl ?_
            refine x_getF C hT f_X4_7 rfl rfl (by first | assumption | exact Nat.one_pos) dX4_comes_79 ?_
            refine x_iload_n C dX4_comes_82 rfl ?_
            refine x_ialdN C (k) rfl rfl rfl (by first | assumption | exact Nat.one_pos) hk (by decide) dX4_comes_83 ?_
            refine x_iconst C 3 (by decide) dX4_comes_84 ?_
            refine x_icmp_ne C 109 dX4_comes_85 (by decide) (fun h85 => ?_) (fun h85 => ?_)
            · skip
              refine x_aload_n C dX4_comes_109 rfl ?_
              refine x_getF C hT f_X4_7 rfl rfl (by first | assumption | exact Nat.one_pos) dX4_comes_110 ?_
              refine x_iload_n C dX4_comes_113 rfl ?_
              refine x_ialdN C (k) rfl rfl rfl (by first | assumption | exact Nat.one_pos) hk (by decide) dX4_comes_114 ?_
              refine x_iconst C 2 (by decide) dX4_comes_115 ?_
              refine x_icmp_ne C 123 dX4_comes_116 (by decide) (fun h116 => ?_) (fun h116 => ?_)
              · skip
                refine x_iload_n C dX4_comes_123 rfl ?_
                refine x_iload C dX4_comes_124 rfl ?_
                refine x_icmp_ge C 133 dX4_comes_126 (by decide) (fun h126 => ?_) (fun h126 => ?_)
                · skip
                  have q126 : ¬ a < r := fun z => absurd h126 (nI_ge z (by omega))
                  refine x_iconst C (-1) (by decide) dX4_comes_133 ?_
                  exact x_iret C (po_r (by unfold cms; rw [if_neg (fun z => z.elim (fun w => w h28) (fun w => q43 w.2))]; rw [if_neg (fun z => absurd z.1 (by decide))]; rw [if_neg (fun z => absurd z.1 (by decide))]; rw [if_pos (Or.inl (by decide))]; rw [if_neg q126])) dX4_comes_134
                · skip
                  have q126 : a < r := Nat.not_le.mp (fun z => h126 (nI_le z (by omega)))
                  refine x_iload_n C dX4_comes_129 rfl ?_
                  refine x_goto C 134 dX4_comes_130 (by decide) ?_
                  exact x_iret C (po_r (by unfold cms; rw [if_neg (fun z => z.elim (fun w => w h28) (fun w => q43 w.2))]; rw [if_neg (fun z => absurd z.1 (by decide))]; rw [if_neg (fun z => absurd z.1 (by decide))]; rw [if_pos (Or.inl (by decide))]; rw [if_pos q126])) dX4_comes_134
              · skip
                rw [hf] at h116
                exact absurd h116 (by decide)
            · skip
              rw [hf] at h85
              exact absurd h85 (by decide)
          · skip
            rw [hf] at h56
            exact absurd h56 (by decide)
        · skip
          have q43 : r = 0 := (nI_eq (b := 0) (by omega) (by decide)).mp h43
          refine x_bipush C (-2) (by decide) dX4_comes_46 ?_
          exact x_iret C (po_r (by unfold cms; rw [if_pos (Or.inr ⟨rfl, q43⟩)])) dX4_comes_48

set_option maxRecDepth 100000 in
set_option maxHeartbeats 4000000 in
theorem c_X4_outcome (l : Launch) (D : va_G) (dA : Nat → ClassId) (base n : Nat) (ad : Fa) (I : Fi) (J : Fj) (R : Fr) (hT : ST n R) (e0 f : Nat) (k a : Nat) (pls ys : Nat → Nat) (he : e0 < 200) (hk : k < 40) (hon : I 38 0 e0 = nI k) (ht : TKX I e0 k a pls ys) (hfar : I 39 0 e0 = nI a) (ha8 : a ≤ 8) (hf : I 23 0 k = nI f) (hf6 : f < 6) (h3 : f = 3 → ∀ i, 0 < i → i < a → ¬ J 34 0 (ys i) = 0) : CT l D dA base yX4_outcome cX4_outcome 9 (some .long) 2 0 0 [.ref (ad 11 0), .int (nI e0)] ad (Nn n) I J R (po (some (.long (ocm f a (fun i => J 34 0 (ys i))))) ad (Nn n) I J R) := by
  refine CT.of 7 (L0 := [some (.ref (ad 11 0)), some (.int (nI e0)), none, none, none, none, none, none, none]) (by decide +kernel) rfl (Nat.le_of_ble_eq_true rfl) ?_
  intro p e s m args below meth c C
  have fin : ∀ v : Int64, rsl f v = ocm f a (fun i => J 34 0 (ys i)) → GX p l e (rmX 2 0 0) s m args below meth c (MQ below (CQ D dA base (po (some (.long (ocm f a (fun i => J 34 0 (ys i))))) ad (Nn n) I J R)) args s 0 0 (fun q => base ≤ q)) D dA base 9 ad (Nn n) I J R 0 0 151 [some (.ref (ad 11 0)), some (.int (nI e0)), some (.int (nI f)), some (.int (nI a)), some (.long v), none, none, none, none] [] := by
    intro v hv
    refine x_iload_n C dX4_outcome_151 rfl ?_
    refine x_iconst C 4 (by decide) dX4_outcome_152 ?_
    refine x_icmp_ne C 163 dX4_outcome_153 (by decide) (fun h153 => ?_) (fun h153 => ?_)
    · skip
      have q : ¬ f = 4 := fun z => h153 (by rw [z]; rfl)
      refine x_lload C dX4_outcome_163 rfl ?_
      exact x_lret C (po_r (by rw [← hv]; simp [rsl, q])) dX4_outcome_165
    · skip
      have q : f = 4 := (nI_eq (b := 4) (by omega) (by decide)).mp h153
      refine x_lload C dX4_outcome_156 rfl ?_
      refine x_lconst C 1 (by decide) dX4_outcome_158 ?_
      refine x_land C dX4_outcome_159 ?_
      refine x_goto C 165 dX4_outcome_160 (by decide) ?_
      exact x_lret C (po_r (by rw [← hv]; simp [rsl, q])) dX4_outcome_165
  have loop : ∀ (v0 : Int64), oc0 f a (fun i => J 34 0 (ys i)) = v0 → ∀ (g t : Nat), t + 1 + g = a → GX p l e (rmX 2 0 0) s m args below meth c (MQ below (CQ D dA base (po (some (.long (ocm f a (fun i => J 34 0 (ys i))))) ad (Nn n) I J R)) args s 0 0 (fun q => base ≤ q)) D dA base 9 ad (Nn n) I J R 0 0 59 [some (.ref (ad 11 0)), some (.int (nI e0)), some (.int (nI f)), some (.int (nI a)), some (.long (oub f (fun i => J 34 0 (ys i)) v0 t)), none, some (.int (nI (t + 1))), none, none] [] := by
    intro v0 hv0 g
    induction g with
    | zero =>
      intro t hta
      refine x_iload C dX4_outcome_59 rfl ?_
      refine x_iload_n C dX4_outcome_61 rfl ?_
      refine x_icmp_ge C 151 dX4_outcome_62 (by decide) (fun h62 => ?_) (fun h62 => ?_)
      · skip
        exact x_drop 6 rfl (fin _ (by rw [ocm, hv0, show a - 1 = t by omega]))
      · skip
        exact absurd (nI_le (show a ≤ t + 1 by omega) (by omega)) h62
    | succ g ih =>
      intro t hta
      refine x_iload C dX4_outcome_59 rfl ?_
      refine x_iload_n C dX4_outcome_61 rfl ?_
      refine x_icmp_ge C 151 dX4_outcome_62 (by decide) (fun h62 => ?_) (fun h62 => ?_)
      · skip
        exact absurd h62 (nI_ge (show t + 1 < a by omega) (by omega))
      · skip
        refine x_aload_n C dX4_outcome_65 rfl ?_
        refine x_iload_n C dX4_outcome_66 rfl ?_
        refine x_iload C dX4_outcome_67 rfl ?_
        refine x_cV1 C yo_X4_taken m_X4_130 rfl rfl (by first | assumption | exact Nat.one_pos) (c_X4_taken l D dA base n ad I J R hT e0 (t + 1) k a pls ys he hk hon ht (by omega) (by omega)) dX4_outcome_69 rfl rfl (Nat.le_of_ble_eq_true rfl) ⟨by decide, by decide⟩ ⟨by decide, by decide⟩ ?_
        refine x_lstore C dX4_outcome_72 (by decide) rfl rfl ?_
        rcases (show f = 0 ∨ f = 1 ∨ f = 2 ∨ f = 3 ∨ f = 4 ∨ f = 5 by omega) with rfl | rfl | rfl | rfl | rfl | rfl
        · skip
          refine x_iload_n C dX4_outcome_74 rfl ?_
          refine x_if_eq C 83 dX4_outcome_75 (by decide) (fun h75 => ?_) (fun h75 => ?_)
          · skip
            refine x_lload C dX4_outcome_83 rfl ?_
            refine x_lload C dX4_outcome_85 rfl ?_
            refine x_ladd C dX4_outcome_87 ?_
            refine x_lstore C dX4_outcome_88 (by decide) rfl rfl ?_
            refine x_goto C 145 dX4_outcome_90 (by decide) ?_
            refine x_iinc C _ dX4_outcome_145 rfl rfl (by decide) rfl rfl ?_
            refine x_goto C 59 dX4_outcome_148 (by decide) ?_
            exact x_drop 7 rfl (x_eqL (ih (t + 1) (by omega)) rfl (by rw [← nI_1 (t + 1), show oub _ (fun i => J 34 0 (ys i)) v0 (t + 1) = _ from by rw [oub, ost, if_pos (by decide)]]; rfl) rfl rfl rfl rfl)
          · skip
            exact absurd rfl h75
        · skip
          refine x_iload_n C dX4_outcome_74 rfl ?_
          refine x_if_eq C 83 dX4_outcome_75 (by decide) (fun h75 => ?_) (fun h75 => ?_)
          · skip
            exact absurd h75 (by decide)
          · skip
            refine x_iload_n C dX4_outcome_78 rfl ?_
            refine x_iconst C 4 (by decide) dX4_outcome_79 ?_
            refine x_icmp_ne C 93 dX4_outcome_80 (by decide) (fun h80 => ?_) (fun h80 => ?_)
            · skip
              refine x_iload_n C dX4_outcome_93 rfl ?_
              refine x_iconst C 3 (by decide) dX4_outcome_94 ?_
              refine x_icmp_ne C 123 dX4_outcome_95 (by decide) (fun h95 => ?_) (fun h95 => ?_)
              · skip
                refine x_iload_n C dX4_outcome_123 rfl ?_
                refine x_iconst C 5 (by decide) dX4_outcome_124 ?_
                refine x_icmp_ne C 145 dX4_outcome_125 (by decide) (fun h125 => ?_) (fun h125 => ?_)
                · skip
                  refine x_iinc C _ dX4_outcome_145 rfl rfl (by decide) rfl rfl ?_
                  refine x_goto C 59 dX4_outcome_148 (by decide) ?_
                  exact x_drop 7 rfl (x_eqL (ih (t + 1) (by omega)) rfl (by rw [← nI_1 (t + 1), show oub _ (fun i => J 34 0 (ys i)) v0 (t + 1) = _ from by rw [oub, ost, if_neg (by decide), if_neg (by decide), if_neg (by decide)]]; rfl) rfl rfl rfl rfl)
                · skip
                  exact absurd h125 (by decide)
              · skip
                exact absurd h95 (by decide)
            · skip
              exact absurd h80 (by decide)
        · skip
          refine x_iload_n C dX4_outcome_74 rfl ?_
          refine x_if_eq C 83 dX4_outcome_75 (by decide) (fun h75 => ?_) (fun h75 => ?_)
          · skip
            exact absurd h75 (by decide)
          · skip
            refine x_iload_n C dX4_outcome_78 rfl ?_
            refine x_iconst C 4 (by decide) dX4_outcome_79 ?_
            refine x_icmp_ne C 93 dX4_outcome_80 (by decide) (fun h80 => ?_) (fun h80 => ?_)
            · skip
              refine x_iload_n C dX4_outcome_93 rfl ?_
              refine x_iconst C 3 (by decide) dX4_outcome_94 ?_
              refine x_icmp_ne C 123 dX4_outcome_95 (by decide) (fun h95 => ?_) (fun h95 => ?_)
              · skip
                refine x_iload_n C dX4_outcome_123 rfl ?_
                refine x_iconst C 5 (by decide) dX4_outcome_124 ?_
                refine x_icmp_ne C 145 dX4_outcome_125 (by decide) (fun h125 => ?_) (fun h125 => ?_)
                · skip
                  refine x_iinc C _ dX4_outcome_145 rfl rfl (by decide) rfl rfl ?_
                  refine x_goto C 59 dX4_outcome_148 (by decide) ?_
                  exact x_drop 7 rfl (x_eqL (ih (t + 1) (by omega)) rfl (by rw [← nI_1 (t + 1), show oub _ (fun i => J 34 0 (ys i)) v0 (t + 1) = _ from by rw [oub, ost, if_neg (by decide), if_neg (by decide), if_neg (by decide)]]; rfl) rfl rfl rfl rfl)
                · skip
                  exact absurd h125 (by decide)
              · skip
                exact absurd h95 (by decide)
            · skip
              exact absurd h80 (by decide)
        · skip
          refine x_iload_n C dX4_outcome_74 rfl ?_
          refine x_if_eq C 83 dX4_outcome_75 (by decide) (fun h75 => ?_) (fun h75 => ?_)
          · skip
            exact absurd h75 (by decide)
          · skip
            refine x_iload_n C dX4_outcome_78 rfl ?_
            refine x_iconst C 4 (by decide) dX4_outcome_79 ?_
            refine x_icmp_ne C 93 dX4_outcome_80 (by decide) (fun h80 => ?_) (fun h80 => ?_)
            · skip
              refine x_iload_n C dX4_outcome_93 rfl ?_
              refine x_iconst C 3 (by decide) dX4_outcome_94 ?_
              refine x_icmp_ne C 123 dX4_outcome_95 (by decide) (fun h95 => ?_) (fun h95 => ?_)
              · skip
                exact absurd rfl h95
              · skip
                refine x_lload C dX4_outcome_98 rfl ?_
                refine x_ldc2 C (-1) (gd_in (by decide +kernel) rfl) dX4_outcome_100 ?_
                refine x_lcmp C dX4_outcome_103 ?_
                refine x_if_ne C 113 dX4_outcome_104 (by decide) (fun h104 => ?_) (fun h104 => ?_)
                · skip
                  rw [lg_ne] at h104
                  refine x_lload C dX4_outcome_113 rfl ?_
                  refine x_lload C dX4_outcome_115 rfl ?_
                  refine x_ldiv C (h3 rfl (t + 1) (by omega) (by omega)) dX4_outcome_117 ?_
                  refine x_lstore C dX4_outcome_118 (by decide) rfl rfl ?_
                  refine x_goto C 145 dX4_outcome_120 (by decide) ?_
                  refine x_iinc C _ dX4_outcome_145 rfl rfl (by decide) rfl rfl ?_
                  refine x_goto C 59 dX4_outcome_148 (by decide) ?_
                  exact x_drop 7 rfl (x_eqL (ih (t + 1) (by omega)) rfl (by rw [← nI_1 (t + 1), show oub _ (fun i => J 34 0 (ys i)) v0 (t + 1) = _ from by rw [oub, ost, if_neg (by decide), if_pos rfl, if_neg h104]]; rfl) rfl rfl rfl rfl)
                · skip
                  rw [lg_cmp_eq] at h104
                  refine x_lload C dX4_outcome_107 rfl ?_
                  refine x_lneg C dX4_outcome_109 ?_
                  refine x_goto C 118 dX4_outcome_110 (by decide) ?_
                  refine x_lstore C dX4_outcome_118 (by decide) rfl rfl ?_
                  refine x_goto C 145 dX4_outcome_120 (by decide) ?_
                  refine x_iinc C _ dX4_outcome_145 rfl rfl (by decide) rfl rfl ?_
                  refine x_goto C 59 dX4_outcome_148 (by decide) ?_
                  exact x_drop 7 rfl (x_eqL (ih (t + 1) (by omega)) rfl (by rw [← nI_1 (t + 1), show oub _ (fun i => J 34 0 (ys i)) v0 (t + 1) = _ from by rw [oub, ost, if_neg (by decide), if_pos rfl, if_pos h104]]; rfl) rfl rfl rfl rfl)
            · skip
              exact absurd h80 (by decide)
        · skip
          refine x_iload_n C dX4_outcome_74 rfl ?_
          refine x_if_eq C 83 dX4_outcome_75 (by decide) (fun h75 => ?_) (fun h75 => ?_)
          · skip
            exact absurd h75 (by decide)
          · skip
            refine x_iload_n C dX4_outcome_78 rfl ?_
            refine x_iconst C 4 (by decide) dX4_outcome_79 ?_
            refine x_icmp_ne C 93 dX4_outcome_80 (by decide) (fun h80 => ?_) (fun h80 => ?_)
            · skip
              exact absurd rfl h80
            · skip
              refine x_lload C dX4_outcome_83 rfl ?_
              refine x_lload C dX4_outcome_85 rfl ?_
              refine x_ladd C dX4_outcome_87 ?_
              refine x_lstore C dX4_outcome_88 (by decide) rfl rfl ?_
              refine x_goto C 145 dX4_outcome_90 (by decide) ?_
              refine x_iinc C _ dX4_outcome_145 rfl rfl (by decide) rfl rfl ?_
              refine x_goto C 59 dX4_outcome_148 (by decide) ?_
              exact x_drop 7 rfl (x_eqL (ih (t + 1) (by omega)) rfl (by rw [← nI_1 (t + 1), show oub _ (fun i => J 34 0 (ys i)) v0 (t + 1) = _ from by rw [oub, ost, if_pos (by decide)]]; rfl) rfl rfl rfl rfl)
        · skip
          refine x_iload_n C dX4_outcome_74 rfl ?_
          refine x_if_eq C 83 dX4_outcome_75 (by decide) (fun h75 => ?_) (fun h75 => ?_)
          · skip
            exact absurd h75 (by decide)
          · skip
            refine x_iload_n C dX4_outcome_78 rfl ?_
            refine x_iconst C 4 (by decide) dX4_outcome_79 ?_
            refine x_icmp_ne C 93 dX4_outcome_80 (by decide) (fun h80 => ?_) (fun h80 => ?_)
            · skip
              refine x_iload_n C dX4_outcome_93 rfl ?_
              refine x_iconst C 3 (by decide) dX4_outcome_94 ?_
              refine x_icmp_ne C 123 dX4_outcome_95 (by decide) (fun h95 => ?_) (fun h95 => ?_)
              · skip
                refine x_iload_n C dX4_outcome_123 rfl ?_
                refine x_iconst C 5 (by decide) dX4_outcome_124 ?_
                refine x_icmp_ne C 145 dX4_outcome_125 (by decide) (fun h125 => ?_) (fun h125 => ?_)
                · skip
                  exact absurd rfl h125
                · skip
                  refine x_lload C dX4_outcome_128 rfl ?_
                  refine x_lload C dX4_outcome_130 rfl ?_
                  refine x_lcmp C dX4_outcome_132 ?_
                  refine x_if_le C 141 dX4_outcome_133 (by decide) (fun h133 => ?_) (fun h133 => ?_)
                  · skip
                    rw [lg_cmp_le] at h133
                    have q133 : ¬ oub 5 (fun i => J 34 0 (ys i)) v0 t < J 34 0 (ys (t + 1)) := Int64.not_lt.mpr h133
                    refine x_lload C dX4_outcome_141 rfl ?_
                    refine x_lstore C dX4_outcome_143 (by decide) rfl rfl ?_
                    refine x_iinc C _ dX4_outcome_145 rfl rfl (by decide) rfl rfl ?_
                    refine x_goto C 59 dX4_outcome_148 (by decide) ?_
                    exact x_drop 7 rfl (x_eqL (ih (t + 1) (by omega)) rfl (by rw [← nI_1 (t + 1), show oub _ (fun i => J 34 0 (ys i)) v0 (t + 1) = _ from by rw [oub, ost, if_neg (by decide), if_neg (by decide), if_pos rfl, if_neg q133]]; rfl) rfl rfl rfl rfl)
                  · skip
                    rw [lg_cmp_le] at h133
                    have q133 : oub 5 (fun i => J 34 0 (ys i)) v0 t < J 34 0 (ys (t + 1)) := Int64.not_le.mp h133
                    refine x_lload C dX4_outcome_136 rfl ?_
                    refine x_goto C 143 dX4_outcome_138 (by decide) ?_
                    refine x_lstore C dX4_outcome_143 (by decide) rfl rfl ?_
                    refine x_iinc C _ dX4_outcome_145 rfl rfl (by decide) rfl rfl ?_
                    refine x_goto C 59 dX4_outcome_148 (by decide) ?_
                    exact x_drop 7 rfl (x_eqL (ih (t + 1) (by omega)) rfl (by rw [← nI_1 (t + 1), show oub _ (fun i => J 34 0 (ys i)) v0 (t + 1) = _ from by rw [oub, ost, if_neg (by decide), if_neg (by decide), if_pos rfl, if_pos q133]]; rfl) rfl rfl rfl rfl)
              · skip
                exact absurd h95 (by decide)
            · skip
              exact absurd h80 (by decide)
  have start : ∀ (v0 : Int64), oc0 f a (fun i => J 34 0 (ys i)) = v0 → GX p l e (rmX 2 0 0) s m args below meth c (MQ below (CQ D dA base (po (some (.long (ocm f a (fun i => J 34 0 (ys i))))) ad (Nn n) I J R)) args s 0 0 (fun q => base ≤ q)) D dA base 9 ad (Nn n) I J R 0 0 56 [some (.ref (ad 11 0)), some (.int (nI e0)), some (.int (nI f)), some (.int (nI a)), some (.long v0), none, none, none, none] [] := by
    intro v0 hv0
    refine x_iconst C 1 (by decide) dX4_outcome_56 ?_
    refine x_istore C dX4_outcome_57 (by decide) rfl rfl ?_
    skip
    rcases Nat.eq_zero_or_pos a with ha0 | ha0
    · skip
      refine x_iload C dX4_outcome_59 rfl ?_
      refine x_iload_n C dX4_outcome_61 rfl ?_
      refine x_icmp_ge C 151 dX4_outcome_62 (by decide) (fun h62 => ?_) (fun h62 => ?_)
      · skip
        exact x_drop 6 rfl (fin _ (by rw [ocm, hv0, ha0]; rfl))
      · skip
        exact absurd (nI_le (b := 1) (show a ≤ 1 by omega) (by decide)) h62
    · exact loop v0 hv0 (a - 1) 0 (by omega)
  refine x_aload_n C dX4_outcome_0 rfl ?_
  refine x_getF C hT f_X4_7 rfl rfl (by first | assumption | exact Nat.one_pos) dX4_outcome_1 ?_
  refine x_aload_n C dX4_outcome_4 rfl ?_
  refine x_getF C hT f_X4_57 rfl rfl (by first | assumption | exact Nat.one_pos) dX4_outcome_5 ?_
  refine x_iload_n C dX4_outcome_8 rfl ?_
  refine x_ialdN C (e0) rfl rfl rfl (by first | assumption | exact Nat.one_pos) he (by decide) dX4_outcome_9 ?_
  rw [hon]
  refine x_ialdN C (k) rfl rfl rfl (by first | assumption | exact Nat.one_pos) hk (by decide) dX4_outcome_10 ?_
  rw [hf]
  refine x_istore_n C dX4_outcome_11 (by decide) rfl rfl ?_
  refine x_aload_n C dX4_outcome_12 rfl ?_
  refine x_getF C hT f_X4_60 rfl rfl (by first | assumption | exact Nat.one_pos) dX4_outcome_13 ?_
  refine x_iload_n C dX4_outcome_16 rfl ?_
  refine x_ialdN C (e0) rfl rfl rfl (by first | assumption | exact Nat.one_pos) he (by decide) dX4_outcome_17 ?_
  rw [hfar]
  refine x_istore_n C dX4_outcome_18 (by decide) rfl rfl ?_
  refine x_iload_n C dX4_outcome_19 rfl ?_
  refine x_if_ne C 27 dX4_outcome_20 (by decide) (fun h20 => ?_) (fun h20 => ?_)
  · skip
    have q20 : ¬ a = 0 := fun z => h20 (by rw [z]; rfl)
    refine x_iload_n C dX4_outcome_27 rfl ?_
    refine x_iconst C 1 (by decide) dX4_outcome_28 ?_
    refine x_icmp_eq C 37 dX4_outcome_29 (by decide) (fun h29 => ?_) (fun h29 => ?_)
    · skip
      have q29 : f = 1 := (nI_eq (b := 1) (by omega) (by decide)).mp h29
      refine x_aload_n C dX4_outcome_37 rfl ?_
      refine x_iload_n C dX4_outcome_38 rfl ?_
      refine x_iload_n C dX4_outcome_39 rfl ?_
      refine x_iconst C 1 (by decide) dX4_outcome_40 ?_
      refine x_isub C dX4_outcome_41 ?_
      rw [nI_m1 (by omega)]
      refine x_cV1 C yo_X4_taken m_X4_130 rfl rfl (by first | assumption | exact Nat.one_pos) (c_X4_taken l D dA base n ad I J R hT e0 (a - 1) k a pls ys he hk hon ht (by omega) (by omega)) dX4_outcome_42 rfl rfl (Nat.le_of_ble_eq_true rfl) ⟨by decide, by decide⟩ ⟨by decide, by decide⟩ ?_
      refine x_goto C 54 dX4_outcome_45 (by decide) ?_
      refine x_lstore C dX4_outcome_54 (by decide) rfl rfl ?_
      exact start _ (by rw [oc0, if_neg q20, if_pos (Or.inl q29)])
    · skip
      have q29 : ¬ f = 1 := fun z => h29 (by rw [z]; rfl)
      refine x_iload_n C dX4_outcome_32 rfl ?_
      refine x_iconst C 2 (by decide) dX4_outcome_33 ?_
      refine x_icmp_ne C 48 dX4_outcome_34 (by decide) (fun h34 => ?_) (fun h34 => ?_)
      · skip
        have q34 : ¬ f = 2 := fun z => h34 (by rw [z]; rfl)
        refine x_aload_n C dX4_outcome_48 rfl ?_
        refine x_iload_n C dX4_outcome_49 rfl ?_
        refine x_iconst C 0 (by decide) dX4_outcome_50 ?_
        refine x_cV1 C yo_X4_taken m_X4_130 rfl rfl (by first | assumption | exact Nat.one_pos) (c_X4_taken l D dA base n ad I J R hT e0 (0) k a pls ys he hk hon ht (by omega) (by decide)) dX4_outcome_51 rfl rfl (Nat.le_of_ble_eq_true rfl) ⟨by decide, by decide⟩ ⟨by decide, by decide⟩ ?_
        refine x_lstore C dX4_outcome_54 (by decide) rfl rfl ?_
        exact start _ (by rw [oc0, if_neg q20, if_neg (fun z => z.elim q29 q34)])
      · skip
        have q34 : f = 2 := (nI_eq (b := 2) (by omega) (by decide)).mp h34
        refine x_aload_n C dX4_outcome_37 rfl ?_
        refine x_iload_n C dX4_outcome_38 rfl ?_
        refine x_iload_n C dX4_outcome_39 rfl ?_
        refine x_iconst C 1 (by decide) dX4_outcome_40 ?_
        refine x_isub C dX4_outcome_41 ?_
        rw [nI_m1 (by omega)]
        refine x_cV1 C yo_X4_taken m_X4_130 rfl rfl (by first | assumption | exact Nat.one_pos) (c_X4_taken l D dA base n ad I J R hT e0 (a - 1) k a pls ys he hk hon ht (by omega) (by omega)) dX4_outcome_42 rfl rfl (Nat.le_of_ble_eq_true rfl) ⟨by decide, by decide⟩ ⟨by decide, by decide⟩ ?_
        refine x_goto C 54 dX4_outcome_45 (by decide) ?_
        refine x_lstore C dX4_outcome_54 (by decide) rfl rfl ?_
        exact start _ (by rw [oc0, if_neg q20, if_pos (Or.inr q34)])
  · skip
    have q20 : a = 0 := (nI_eq (b := 0) (by omega) (by decide)).mp h20
    refine x_lconst C 0 (by decide) dX4_outcome_23 ?_
    refine x_goto C 54 dX4_outcome_24 (by decide) ?_
    refine x_lstore C dX4_outcome_54 (by decide) rfl rfl ?_
    exact start _ (by rw [oc0, if_pos q20])
end
section
/-! the reference: steps -/
def eaS (I : Fi) (k e0 : Nat) : Nat → Fi
  | 0 => I
  | t + 1 => up3 (eaS I k e0 t) 31 0 (8 * k + t) (I 40 0 (8 * e0 + t))
theorem eaS_o (I : Fi) (k e0 : Nat) {c b d : Nat} (h : ¬ c = 31) : ∀ t, eaS I k e0 t c b d = I c b d
  | 0 => rfl
  | t + 1 => by rw [eaS, up3_c _ _ _ _ _ h, eaS_o I k e0 h t]
def meA (I : Fi) (J : Fj) (k a : Nat) (x : Int32) (v : Int64) : Fi := up3 (up3 (up3 (up3 (up3 I 28 0 k (if ¬ I 36 0 k = 0 ∧ I 26 0 k = x ∧ (¬ x = 1 ∨ J 34 0 k = v) then I 28 0 k else I 11 0 1)) 26 0 k x) 36 0 k 1) 27 0 k (I 11 0 1)) 30 0 k (nI a)
def meI (I : Fi) (J : Fj) (p0 z k a : Nat) (x : Int32) (v : Int64) : Fi := up3 (up3 (eaS (meA I J k a x v) k (40 * p0 + z) a) 32 0 k (I 32 0 k + 1)) 37 0 p0 (nI z)
set_option maxRecDepth 100000 in
set_option maxHeartbeats 4000000 in
theorem c_X4_end_v (l : Launch) (D : va_G) (dA : Nat → ClassId) (base n : Nat) (ad : Fa) (I : Fi) (J : Fj) (R : Fr) (hT : ST n R) (p0 z k a : Nat) (hp : p0 < 5) (hz : z < 40) (hs : I 37 0 p0 = nI (z + 1)) (hk : k < 40) (hon : I 38 0 (40 * p0 + z) = nI k) (hfar : I 39 0 (40 * p0 + z) = nI a) (ha8 : a ≤ 8) (v : Int64) : CT l D dA base yX4_end cX4_end 9 (some .int) 0 0 0 [.ref (ad 11 0), .int (nI p0), .int 1, .long v] ad (Nn n) I J R (po (some (.int 2)) ad (Nn n) (meI I J p0 z k a 1 v) (up3 J 34 0 k v) R) := by
  refine CT.of 4 (L0 := [some (.ref (ad 11 0)), some (.int (nI p0)), some (.int 1), some (.long v), none, none, none, none, none]) (by decide +kernel) rfl (Nat.le_of_ble_eq_true rfl) ?_
  intro p e s m args below meth c C
  have he : 40 * p0 + z < 200 := by omega
  have loop : ∀ (g t : Nat), t + g = a → GX p l e (rmX 0 0 0) s m args below meth c (MQ below (CQ D dA base (po (some (.int 2)) ad (Nn n) (meI I J p0 z k a 1 v) (up3 J 34 0 k v) R)) args s 0 0 (fun q => base ≤ q)) D dA base 9 ad (Nn n) (eaS (meA I J k a 1 v) k (40 * p0 + z) t) (up3 J 34 0 k v) R 0 0 147 [some (.ref (ad 11 0)), some (.int (nI p0)), some (.int 1), some (.long v), none, some (.int (nI (40 * p0 + z))), some (.int (nI k)), none, some (.int (nI t))] [] := by
    intro g
    have hf1 : ∀ t, eaS (meA I J k a 1 v) k (40 * p0 + z) t 39 0 (40 * p0 + z) = nI a := fun t => by rw [eaS_o _ _ _ (by decide)]; simp [meA, up3, hfar]
    have hf4 : ∀ t q, eaS (meA I J k a 1 v) k (40 * p0 + z) t 40 0 q = meA I J k a 1 v 40 0 q := fun t q => by rw [eaS_o _ _ _ (by decide)]
    induction g with
    | zero =>
      intro t ht
      have ht2 : t = a := by omega
      subst ht2
      have h32 : eaS (meA I J k t 1 v) k (40 * p0 + z) t 32 0 k = I 32 0 k := by rw [eaS_o _ _ _ (by decide)]; simp [meA, up3]
      have h37 : eaS (meA I J k t 1 v) k (40 * p0 + z) t 37 0 p0 = nI (z + 1) := by rw [eaS_o _ _ _ (by decide)]; simp [meA, up3, hs]
      refine x_iload C dX4_end_147 rfl ?_
      refine x_aload_n C dX4_end_149 rfl ?_
      refine x_getF C hT f_X4_60 rfl rfl (by first | assumption | exact Nat.one_pos) dX4_end_150 ?_
      refine x_iload C dX4_end_153 rfl ?_
      refine x_ialdN C (40 * p0 + z) rfl rfl rfl (by first | assumption | exact Nat.one_pos) he (by decide) dX4_end_155 ?_
      refine x_icmp_ge C 191 dX4_end_156 (by decide) (fun h156 => ?_) (fun h156 => ?_)
      · skip
        refine x_aload_n C dX4_end_191 rfl ?_
        refine x_getF C hT f_X4_37 rfl rfl (by first | assumption | exact Nat.one_pos) dX4_end_192 ?_
        refine x_iload C dX4_end_195 rfl ?_
        refine x_dup2 C rfl rfl dX4_end_197 ?_
        refine x_ialdN C (k) rfl rfl rfl (by first | assumption | exact Nat.one_pos) hk (by decide) dX4_end_198 ?_
        rw [h32]
        refine x_iconst C 1 (by decide) dX4_end_199 ?_
        refine x_iadd C dX4_end_200 ?_
        refine x_iastN C (k) rfl rfl rfl (by first | assumption | exact Nat.one_pos) hk (by decide) dX4_end_201 ?_
        refine x_aload_n C dX4_end_202 rfl ?_
        refine x_getF C hT f_X4_54 rfl rfl (by first | assumption | exact Nat.one_pos) dX4_end_203 ?_
        refine x_iload_n C dX4_end_206 rfl ?_
        refine x_dup2 C rfl rfl dX4_end_207 ?_
        refine x_ialdN C (p0) rfl rfl rfl (by first | assumption | exact Nat.one_pos) hp (by decide) dX4_end_208 ?_
        rw [up3_c _ _ _ _ _ (by decide), h37]
        refine x_iconst C 1 (by decide) dX4_end_209 ?_
        refine x_isub C dX4_end_210 ?_
        rw [nI_pred]
        refine x_iastN C (p0) rfl rfl rfl (by first | assumption | exact Nat.one_pos) hp (by decide) dX4_end_211 ?_
        refine x_iconst C 2 (by decide) dX4_end_212 ?_
        exact x_iret C (po_i _ _ _ _ _ _) dX4_end_213
      · skip
        rw [hf1] at h156
        exact absurd (Int32.le_refl _) h156
    | succ g ih =>
      intro t ht
      refine x_iload C dX4_end_147 rfl ?_
      refine x_aload_n C dX4_end_149 rfl ?_
      refine x_getF C hT f_X4_60 rfl rfl (by first | assumption | exact Nat.one_pos) dX4_end_150 ?_
      refine x_iload C dX4_end_153 rfl ?_
      refine x_ialdN C (40 * p0 + z) rfl rfl rfl (by first | assumption | exact Nat.one_pos) he (by decide) dX4_end_155 ?_
      refine x_icmp_ge C 191 dX4_end_156 (by decide) (fun h156 => ?_) (fun h156 => ?_)
      · skip
        rw [hf1] at h156
        exact absurd h156 (nI_ge (show t < a by omega) (by omega))
      · skip
        refine x_aload_n C dX4_end_159 rfl ?_
        refine x_getF C hT f_X4_34 rfl rfl (by first | assumption | exact Nat.one_pos) dX4_end_160 ?_
        refine x_bipush C 8 (by decide) dX4_end_163 ?_
        refine x_iload C dX4_end_165 rfl ?_
        refine x_imul C dX4_end_167 ?_
        refine x_iload C dX4_end_168 rfl ?_
        refine x_iadd C dX4_end_170 ?_
        refine x_aload_n C dX4_end_171 rfl ?_
        refine x_getF C hT f_X4_63 rfl rfl (by first | assumption | exact Nat.one_pos) dX4_end_172 ?_
        refine x_bipush C 8 (by decide) dX4_end_175 ?_
        refine x_iload C dX4_end_177 rfl ?_
        refine x_imul C dX4_end_179 ?_
        refine x_iload C dX4_end_180 rfl ?_
        refine x_iadd C dX4_end_182 ?_
        refine x_ialdN C (8 * (40 * p0 + z) + t) (ix8 (40 * p0 + z) t) rfl rfl (by first | assumption | exact Nat.one_pos) (by omega) (by decide) dX4_end_183 ?_
        rw [hf4]
        refine x_iastN C (8 * k + t) (ix8 k t) rfl rfl (by first | assumption | exact Nat.one_pos) (by omega) (by decide) dX4_end_184 ?_
        refine x_iinc C _ dX4_end_185 rfl rfl (by decide) rfl rfl ?_
        refine x_goto C 147 dX4_end_188 (by decide) ?_
        exact x_eqL (ih (t + 1) (by omega)) rfl (by rw [← nI_1]; rfl) rfl rfl rfl rfl
  refine x_bipush C 40 (by decide) dX4_end_0 ?_
  refine x_iload_n C dX4_end_2 rfl ?_
  refine x_imul C dX4_end_3 ?_
  refine x_aload_n C dX4_end_4 rfl ?_
  refine x_getF C hT f_X4_54 rfl rfl (by first | assumption | exact Nat.one_pos) dX4_end_5 ?_
  refine x_iload_n C dX4_end_8 rfl ?_
  refine x_ialdN C (p0) rfl rfl rfl (by first | assumption | exact Nat.one_pos) hp (by decide) dX4_end_9 ?_
  try simp only [up3_r, Nat.reduceEqDiff, and_false, false_and, and_self, and_true, true_and, reduceIte]
  refine x_iadd C dX4_end_10 ?_
  refine x_iconst C 1 (by decide) dX4_end_11 ?_
  refine x_isub C dX4_end_12 ?_
  rw [hs, ix40, show 40 * p0 + (z + 1) = (40 * p0 + z) + 1 from rfl, nI_pred]
  refine x_istore C dX4_end_13 (by decide) rfl rfl ?_
  refine x_aload_n C dX4_end_15 rfl ?_
  refine x_getF C hT f_X4_57 rfl rfl (by first | assumption | exact Nat.one_pos) dX4_end_16 ?_
  refine x_iload C dX4_end_19 rfl ?_
  refine x_ialdN C (40 * p0 + z) rfl rfl rfl (by first | assumption | exact Nat.one_pos) he (by decide) dX4_end_21 ?_
  try simp only [up3_r, Nat.reduceEqDiff, and_false, false_and, and_self, and_true, true_and, reduceIte]
  rw [hon]
  refine x_istore C dX4_end_22 (by decide) rfl rfl ?_
  refine x_aload_n C dX4_end_24 rfl ?_
  refine x_getF C hT f_X4_51 rfl rfl (by first | assumption | exact Nat.one_pos) dX4_end_25 ?_
  refine x_iload C dX4_end_28 rfl ?_
  refine x_zaldN C (k) rfl rfl rfl (by first | assumption | exact Nat.one_pos) hk (by decide) dX4_end_30 ?_
  try simp only [up3_r, Nat.reduceEqDiff, and_false, false_and, and_self, and_true, true_and, reduceIte]
  refine x_if_eq C 66 dX4_end_31 (by decide) (fun h31 => ?_) (fun h31 => ?_)
  · skip
    refine x_iconst C 0 (by decide) dX4_end_66 ?_
    refine x_istore C dX4_end_67 (by decide) rfl rfl ?_
    refine x_aload_n C dX4_end_69 rfl ?_
    refine x_getF C hT f_X4_25 rfl rfl (by first | assumption | exact Nat.one_pos) dX4_end_70 ?_
    refine x_iload C dX4_end_73 rfl ?_
    refine x_iload C dX4_end_75 rfl ?_
    refine x_if_eq C 90 dX4_end_77 (by decide) (fun h77 => ?_) (fun h77 => ?_)
    · skip
      refine x_aload_n C dX4_end_90 rfl ?_
      refine x_getI C f_X4_86 rfl (by first | assumption | exact Nat.one_pos) dX4_end_91 ?_
      try simp only [up3_r, Nat.reduceEqDiff, and_false, false_and, and_self, and_true, true_and, reduceIte]
      refine x_iastN C (k) rfl rfl rfl (by first | assumption | exact Nat.one_pos) hk (by decide) dX4_end_94 ?_
      refine x_aload_n C dX4_end_95 rfl ?_
      refine x_getF C hT f_X4_19 rfl rfl (by first | assumption | exact Nat.one_pos) dX4_end_96 ?_
      refine x_iload C dX4_end_99 rfl ?_
      refine x_iload_n C dX4_end_101 rfl ?_
      refine x_iastN C (k) rfl rfl rfl (by first | assumption | exact Nat.one_pos) hk (by decide) dX4_end_102 ?_
      refine x_aload_n C dX4_end_103 rfl ?_
      refine x_getF C hT f_X4_43 rfl rfl (by first | assumption | exact Nat.one_pos) dX4_end_104 ?_
      refine x_iload C dX4_end_107 rfl ?_
      refine x_lload_n C dX4_end_109 rfl ?_
      refine x_lastN C (k) rfl rfl rfl (by first | assumption | exact Nat.one_pos) hk (by decide) dX4_end_110 ?_
      refine x_aload_n C dX4_end_111 rfl ?_
      refine x_getF C hT f_X4_51 rfl rfl (by first | assumption | exact Nat.one_pos) dX4_end_112 ?_
      refine x_iload C dX4_end_115 rfl ?_
      refine x_iconst C 1 (by decide) dX4_end_117 ?_
      refine x_zastN C (k) rfl rfl rfl (by first | assumption | exact Nat.one_pos) hk (by decide) (by first | exact Or.inl rfl | exact Or.inr rfl | assumption) dX4_end_118 ?_
      refine x_aload_n C dX4_end_119 rfl ?_
      refine x_getF C hT f_X4_22 rfl rfl (by first | assumption | exact Nat.one_pos) dX4_end_120 ?_
      refine x_iload C dX4_end_123 rfl ?_
      refine x_aload_n C dX4_end_125 rfl ?_
      refine x_getI C f_X4_86 rfl (by first | assumption | exact Nat.one_pos) dX4_end_126 ?_
      try simp only [up3_r, Nat.reduceEqDiff, and_false, false_and, and_self, and_true, true_and, reduceIte]
      refine x_iastN C (k) rfl rfl rfl (by first | assumption | exact Nat.one_pos) hk (by decide) dX4_end_129 ?_
      refine x_aload_n C dX4_end_130 rfl ?_
      refine x_getF C hT f_X4_31 rfl rfl (by first | assumption | exact Nat.one_pos) dX4_end_131 ?_
      refine x_iload C dX4_end_134 rfl ?_
      refine x_aload_n C dX4_end_136 rfl ?_
      refine x_getF C hT f_X4_60 rfl rfl (by first | assumption | exact Nat.one_pos) dX4_end_137 ?_
      refine x_iload C dX4_end_140 rfl ?_
      refine x_ialdN C (40 * p0 + z) rfl rfl rfl (by first | assumption | exact Nat.one_pos) he (by decide) dX4_end_142 ?_
      try simp only [up3_r, Nat.reduceEqDiff, and_false, false_and, and_self, and_true, true_and, reduceIte]
      rw [hfar]
      refine x_iastN C (k) rfl rfl rfl (by first | assumption | exact Nat.one_pos) hk (by decide) dX4_end_143 ?_
      refine x_iconst C 0 (by decide) dX4_end_144 ?_
      refine x_istore C dX4_end_145 (by decide) rfl rfl ?_
      refine x_drop 7 rfl ?_
      exact x_eqL (loop a 0 (by omega)) rfl rfl rfl (by rw [eaS, meA, if_neg (fun q => q.1 h31)]) rfl rfl
    · skip
      exact absurd rfl h77
  · skip
    refine x_aload_n C dX4_end_34 rfl ?_
    refine x_getF C hT f_X4_19 rfl rfl (by first | assumption | exact Nat.one_pos) dX4_end_35 ?_
    refine x_iload C dX4_end_38 rfl ?_
    refine x_ialdN C (k) rfl rfl rfl (by first | assumption | exact Nat.one_pos) hk (by decide) dX4_end_40 ?_
    try simp only [up3_r, Nat.reduceEqDiff, and_false, false_and, and_self, and_true, true_and, reduceIte]
    refine x_iload_n C dX4_end_41 rfl ?_
    refine x_icmp_ne C 66 dX4_end_42 (by decide) (fun h42 => ?_) (fun h42 => ?_)
    · skip
      refine x_iconst C 0 (by decide) dX4_end_66 ?_
      refine x_istore C dX4_end_67 (by decide) rfl rfl ?_
      refine x_aload_n C dX4_end_69 rfl ?_
      refine x_getF C hT f_X4_25 rfl rfl (by first | assumption | exact Nat.one_pos) dX4_end_70 ?_
      refine x_iload C dX4_end_73 rfl ?_
      refine x_iload C dX4_end_75 rfl ?_
      refine x_if_eq C 90 dX4_end_77 (by decide) (fun h77 => ?_) (fun h77 => ?_)
      · skip
        refine x_aload_n C dX4_end_90 rfl ?_
        refine x_getI C f_X4_86 rfl (by first | assumption | exact Nat.one_pos) dX4_end_91 ?_
        try simp only [up3_r, Nat.reduceEqDiff, and_false, false_and, and_self, and_true, true_and, reduceIte]
        refine x_iastN C (k) rfl rfl rfl (by first | assumption | exact Nat.one_pos) hk (by decide) dX4_end_94 ?_
        refine x_aload_n C dX4_end_95 rfl ?_
        refine x_getF C hT f_X4_19 rfl rfl (by first | assumption | exact Nat.one_pos) dX4_end_96 ?_
        refine x_iload C dX4_end_99 rfl ?_
        refine x_iload_n C dX4_end_101 rfl ?_
        refine x_iastN C (k) rfl rfl rfl (by first | assumption | exact Nat.one_pos) hk (by decide) dX4_end_102 ?_
        refine x_aload_n C dX4_end_103 rfl ?_
        refine x_getF C hT f_X4_43 rfl rfl (by first | assumption | exact Nat.one_pos) dX4_end_104 ?_
        refine x_iload C dX4_end_107 rfl ?_
        refine x_lload_n C dX4_end_109 rfl ?_
        refine x_lastN C (k) rfl rfl rfl (by first | assumption | exact Nat.one_pos) hk (by decide) dX4_end_110 ?_
        refine x_aload_n C dX4_end_111 rfl ?_
        refine x_getF C hT f_X4_51 rfl rfl (by first | assumption | exact Nat.one_pos) dX4_end_112 ?_
        refine x_iload C dX4_end_115 rfl ?_
        refine x_iconst C 1 (by decide) dX4_end_117 ?_
        refine x_zastN C (k) rfl rfl rfl (by first | assumption | exact Nat.one_pos) hk (by decide) (by first | exact Or.inl rfl | exact Or.inr rfl | assumption) dX4_end_118 ?_
        refine x_aload_n C dX4_end_119 rfl ?_
        refine x_getF C hT f_X4_22 rfl rfl (by first | assumption | exact Nat.one_pos) dX4_end_120 ?_
        refine x_iload C dX4_end_123 rfl ?_
        refine x_aload_n C dX4_end_125 rfl ?_
        refine x_getI C f_X4_86 rfl (by first | assumption | exact Nat.one_pos) dX4_end_126 ?_
        try simp only [up3_r, Nat.reduceEqDiff, and_false, false_and, and_self, and_true, true_and, reduceIte]
        refine x_iastN C (k) rfl rfl rfl (by first | assumption | exact Nat.one_pos) hk (by decide) dX4_end_129 ?_
        refine x_aload_n C dX4_end_130 rfl ?_
        refine x_getF C hT f_X4_31 rfl rfl (by first | assumption | exact Nat.one_pos) dX4_end_131 ?_
        refine x_iload C dX4_end_134 rfl ?_
        refine x_aload_n C dX4_end_136 rfl ?_
        refine x_getF C hT f_X4_60 rfl rfl (by first | assumption | exact Nat.one_pos) dX4_end_137 ?_
        refine x_iload C dX4_end_140 rfl ?_
        refine x_ialdN C (40 * p0 + z) rfl rfl rfl (by first | assumption | exact Nat.one_pos) he (by decide) dX4_end_142 ?_
        try simp only [up3_r, Nat.reduceEqDiff, and_false, false_and, and_self, and_true, true_and, reduceIte]
        rw [hfar]
        refine x_iastN C (k) rfl rfl rfl (by first | assumption | exact Nat.one_pos) hk (by decide) dX4_end_143 ?_
        refine x_iconst C 0 (by decide) dX4_end_144 ?_
        refine x_istore C dX4_end_145 (by decide) rfl rfl ?_
        refine x_drop 7 rfl ?_
        exact x_eqL (loop a 0 (by omega)) rfl rfl rfl (by rw [eaS, meA, if_neg (fun q => h42 q.2.1)]) rfl rfl
      · skip
        exact absurd rfl h77
    · skip
      refine x_iload_n C dX4_end_45 rfl ?_
      refine x_iconst C 1 (by decide) dX4_end_46 ?_
      refine x_icmp_ne C 62 dX4_end_47 (by decide) (fun h47 => ?_) (fun h47 => ?_)
      · skip
        exact absurd rfl h47
      · skip
        refine x_aload_n C dX4_end_50 rfl ?_
        refine x_getF C hT f_X4_43 rfl rfl (by first | assumption | exact Nat.one_pos) dX4_end_51 ?_
        refine x_iload C dX4_end_54 rfl ?_
        refine x_laldN C (k) rfl rfl rfl (by first | assumption | exact Nat.one_pos) hk (by decide) dX4_end_56 ?_
        try simp only [up3_r, Nat.reduceEqDiff, and_false, false_and, and_self, and_true, true_and, reduceIte]
        refine x_lload_n C dX4_end_57 rfl ?_
        refine x_lcmp C dX4_end_58 ?_
        refine x_if_ne C 66 dX4_end_59 (by decide) (fun h59 => ?_) (fun h59 => ?_)
        · skip
          rw [lg_ne] at h59
          refine x_iconst C 0 (by decide) dX4_end_66 ?_
          refine x_istore C dX4_end_67 (by decide) rfl rfl ?_
          refine x_aload_n C dX4_end_69 rfl ?_
          refine x_getF C hT f_X4_25 rfl rfl (by first | assumption | exact Nat.one_pos) dX4_end_70 ?_
          refine x_iload C dX4_end_73 rfl ?_
          refine x_iload C dX4_end_75 rfl ?_
          refine x_if_eq C 90 dX4_end_77 (by decide) (fun h77 => ?_) (fun h77 => ?_)
          · skip
            refine x_aload_n C dX4_end_90 rfl ?_
            refine x_getI C f_X4_86 rfl (by first | assumption | exact Nat.one_pos) dX4_end_91 ?_
            try simp only [up3_r, Nat.reduceEqDiff, and_false, false_and, and_self, and_true, true_and, reduceIte]
            refine x_iastN C (k) rfl rfl rfl (by first | assumption | exact Nat.one_pos) hk (by decide) dX4_end_94 ?_
            refine x_aload_n C dX4_end_95 rfl ?_
            refine x_getF C hT f_X4_19 rfl rfl (by first | assumption | exact Nat.one_pos) dX4_end_96 ?_
            refine x_iload C dX4_end_99 rfl ?_
            refine x_iload_n C dX4_end_101 rfl ?_
            refine x_iastN C (k) rfl rfl rfl (by first | assumption | exact Nat.one_pos) hk (by decide) dX4_end_102 ?_
            refine x_aload_n C dX4_end_103 rfl ?_
            refine x_getF C hT f_X4_43 rfl rfl (by first | assumption | exact Nat.one_pos) dX4_end_104 ?_
            refine x_iload C dX4_end_107 rfl ?_
            refine x_lload_n C dX4_end_109 rfl ?_
            refine x_lastN C (k) rfl rfl rfl (by first | assumption | exact Nat.one_pos) hk (by decide) dX4_end_110 ?_
            refine x_aload_n C dX4_end_111 rfl ?_
            refine x_getF C hT f_X4_51 rfl rfl (by first | assumption | exact Nat.one_pos) dX4_end_112 ?_
            refine x_iload C dX4_end_115 rfl ?_
            refine x_iconst C 1 (by decide) dX4_end_117 ?_
            refine x_zastN C (k) rfl rfl rfl (by first | assumption | exact Nat.one_pos) hk (by decide) (by first | exact Or.inl rfl | exact Or.inr rfl | assumption) dX4_end_118 ?_
            refine x_aload_n C dX4_end_119 rfl ?_
            refine x_getF C hT f_X4_22 rfl rfl (by first | assumption | exact Nat.one_pos) dX4_end_120 ?_
            refine x_iload C dX4_end_123 rfl ?_
            refine x_aload_n C dX4_end_125 rfl ?_
            refine x_getI C f_X4_86 rfl (by first | assumption | exact Nat.one_pos) dX4_end_126 ?_
            try simp only [up3_r, Nat.reduceEqDiff, and_false, false_and, and_self, and_true, true_and, reduceIte]
            refine x_iastN C (k) rfl rfl rfl (by first | assumption | exact Nat.one_pos) hk (by decide) dX4_end_129 ?_
            refine x_aload_n C dX4_end_130 rfl ?_
            refine x_getF C hT f_X4_31 rfl rfl (by first | assumption | exact Nat.one_pos) dX4_end_131 ?_
            refine x_iload C dX4_end_134 rfl ?_
            refine x_aload_n C dX4_end_136 rfl ?_
            refine x_getF C hT f_X4_60 rfl rfl (by first | assumption | exact Nat.one_pos) dX4_end_137 ?_
            refine x_iload C dX4_end_140 rfl ?_
            refine x_ialdN C (40 * p0 + z) rfl rfl rfl (by first | assumption | exact Nat.one_pos) he (by decide) dX4_end_142 ?_
            try simp only [up3_r, Nat.reduceEqDiff, and_false, false_and, and_self, and_true, true_and, reduceIte]
            rw [hfar]
            refine x_iastN C (k) rfl rfl rfl (by first | assumption | exact Nat.one_pos) hk (by decide) dX4_end_143 ?_
            refine x_iconst C 0 (by decide) dX4_end_144 ?_
            refine x_istore C dX4_end_145 (by decide) rfl rfl ?_
            refine x_drop 7 rfl ?_
            exact x_eqL (loop a 0 (by omega)) rfl rfl rfl (by rw [eaS, meA, if_neg (fun q => q.2.2.elim (fun w => w rfl) h59)]) rfl rfl
          · skip
            exact absurd rfl h77
        · skip
          rw [lg_cmp_eq] at h59
          refine x_iconst C 1 (by decide) dX4_end_62 ?_
          refine x_goto C 67 dX4_end_63 (by decide) ?_
          refine x_istore C dX4_end_67 (by decide) rfl rfl ?_
          refine x_aload_n C dX4_end_69 rfl ?_
          refine x_getF C hT f_X4_25 rfl rfl (by first | assumption | exact Nat.one_pos) dX4_end_70 ?_
          refine x_iload C dX4_end_73 rfl ?_
          refine x_iload C dX4_end_75 rfl ?_
          refine x_if_eq C 90 dX4_end_77 (by decide) (fun h77 => ?_) (fun h77 => ?_)
          · skip
            exact absurd h77 (by decide)
          · skip
            refine x_aload_n C dX4_end_80 rfl ?_
            refine x_getF C hT f_X4_25 rfl rfl (by first | assumption | exact Nat.one_pos) dX4_end_81 ?_
            refine x_iload C dX4_end_84 rfl ?_
            refine x_ialdN C (k) rfl rfl rfl (by first | assumption | exact Nat.one_pos) hk (by decide) dX4_end_86 ?_
            try simp only [up3_r, Nat.reduceEqDiff, and_false, false_and, and_self, and_true, true_and, reduceIte]
            refine x_goto C 94 dX4_end_87 (by decide) ?_
            refine x_iastN C (k) rfl rfl rfl (by first | assumption | exact Nat.one_pos) hk (by decide) dX4_end_94 ?_
            refine x_aload_n C dX4_end_95 rfl ?_
            refine x_getF C hT f_X4_19 rfl rfl (by first | assumption | exact Nat.one_pos) dX4_end_96 ?_
            refine x_iload C dX4_end_99 rfl ?_
            refine x_iload_n C dX4_end_101 rfl ?_
            refine x_iastN C (k) rfl rfl rfl (by first | assumption | exact Nat.one_pos) hk (by decide) dX4_end_102 ?_
            refine x_aload_n C dX4_end_103 rfl ?_
            refine x_getF C hT f_X4_43 rfl rfl (by first | assumption | exact Nat.one_pos) dX4_end_104 ?_
            refine x_iload C dX4_end_107 rfl ?_
            refine x_lload_n C dX4_end_109 rfl ?_
            refine x_lastN C (k) rfl rfl rfl (by first | assumption | exact Nat.one_pos) hk (by decide) dX4_end_110 ?_
            refine x_aload_n C dX4_end_111 rfl ?_
            refine x_getF C hT f_X4_51 rfl rfl (by first | assumption | exact Nat.one_pos) dX4_end_112 ?_
            refine x_iload C dX4_end_115 rfl ?_
            refine x_iconst C 1 (by decide) dX4_end_117 ?_
            refine x_zastN C (k) rfl rfl rfl (by first | assumption | exact Nat.one_pos) hk (by decide) (by first | exact Or.inl rfl | exact Or.inr rfl | assumption) dX4_end_118 ?_
            refine x_aload_n C dX4_end_119 rfl ?_
            refine x_getF C hT f_X4_22 rfl rfl (by first | assumption | exact Nat.one_pos) dX4_end_120 ?_
            refine x_iload C dX4_end_123 rfl ?_
            refine x_aload_n C dX4_end_125 rfl ?_
            refine x_getI C f_X4_86 rfl (by first | assumption | exact Nat.one_pos) dX4_end_126 ?_
            try simp only [up3_r, Nat.reduceEqDiff, and_false, false_and, and_self, and_true, true_and, reduceIte]
            refine x_iastN C (k) rfl rfl rfl (by first | assumption | exact Nat.one_pos) hk (by decide) dX4_end_129 ?_
            refine x_aload_n C dX4_end_130 rfl ?_
            refine x_getF C hT f_X4_31 rfl rfl (by first | assumption | exact Nat.one_pos) dX4_end_131 ?_
            refine x_iload C dX4_end_134 rfl ?_
            refine x_aload_n C dX4_end_136 rfl ?_
            refine x_getF C hT f_X4_60 rfl rfl (by first | assumption | exact Nat.one_pos) dX4_end_137 ?_
            refine x_iload C dX4_end_140 rfl ?_
            refine x_ialdN C (40 * p0 + z) rfl rfl rfl (by first | assumption | exact Nat.one_pos) he (by decide) dX4_end_142 ?_
            try simp only [up3_r, Nat.reduceEqDiff, and_false, false_and, and_self, and_true, true_and, reduceIte]
            rw [hfar]
            refine x_iastN C (k) rfl rfl rfl (by first | assumption | exact Nat.one_pos) hk (by decide) dX4_end_143 ?_
            refine x_iconst C 0 (by decide) dX4_end_144 ?_
            refine x_istore C dX4_end_145 (by decide) rfl rfl ?_
            refine x_drop 7 rfl ?_
            exact x_eqL (loop a 0 (by omega)) rfl rfl rfl (by rw [eaS, meA, if_pos ⟨h31, h42, Or.inr h59⟩]) rfl rfl

set_option maxRecDepth 100000 in
set_option maxHeartbeats 4000000 in
theorem c_X4_end_f (l : Launch) (D : va_G) (dA : Nat → ClassId) (base n : Nat) (ad : Fa) (I : Fi) (J : Fj) (R : Fr) (hT : ST n R) (p0 z k a : Nat) (hp : p0 < 5) (hz : z < 40) (hs : I 37 0 p0 = nI (z + 1)) (hk : k < 40) (hon : I 38 0 (40 * p0 + z) = nI k) (hfar : I 39 0 (40 * p0 + z) = nI a) (ha8 : a ≤ 8) (x : Int32) (hx : ¬ x = 1) (v : Int64) : CT l D dA base yX4_end cX4_end 9 (some .int) 0 0 0 [.ref (ad 11 0), .int (nI p0), .int x, .long v] ad (Nn n) I J R (po (some (.int 2)) ad (Nn n) (meI I J p0 z k a x v) (up3 J 34 0 k v) R) := by
  refine CT.of 4 (L0 := [some (.ref (ad 11 0)), some (.int (nI p0)), some (.int x), some (.long v), none, none, none, none, none]) (by decide +kernel) rfl (Nat.le_of_ble_eq_true rfl) ?_
  intro p e s m args below meth c C
  have he : 40 * p0 + z < 200 := by omega
  have loop : ∀ (g t : Nat), t + g = a → GX p l e (rmX 0 0 0) s m args below meth c (MQ below (CQ D dA base (po (some (.int 2)) ad (Nn n) (meI I J p0 z k a x v) (up3 J 34 0 k v) R)) args s 0 0 (fun q => base ≤ q)) D dA base 9 ad (Nn n) (eaS (meA I J k a x v) k (40 * p0 + z) t) (up3 J 34 0 k v) R 0 0 147 [some (.ref (ad 11 0)), some (.int (nI p0)), some (.int x), some (.long v), none, some (.int (nI (40 * p0 + z))), some (.int (nI k)), none, some (.int (nI t))] [] := by
    intro g
    have hf1 : ∀ t, eaS (meA I J k a x v) k (40 * p0 + z) t 39 0 (40 * p0 + z) = nI a := fun t => by rw [eaS_o _ _ _ (by decide)]; simp [meA, up3, hfar]
    have hf4 : ∀ t q, eaS (meA I J k a x v) k (40 * p0 + z) t 40 0 q = meA I J k a x v 40 0 q := fun t q => by rw [eaS_o _ _ _ (by decide)]
    induction g with
    | zero =>
      intro t ht
      have ht2 : t = a := by omega
      subst ht2
      have h32 : eaS (meA I J k t x v) k (40 * p0 + z) t 32 0 k = I 32 0 k := by rw [eaS_o _ _ _ (by decide)]; simp [meA, up3]
      have h37 : eaS (meA I J k t x v) k (40 * p0 + z) t 37 0 p0 = nI (z + 1) := by rw [eaS_o _ _ _ (by decide)]; simp [meA, up3, hs]
      refine x_iload C dX4_end_147 rfl ?_
      refine x_aload_n C dX4_end_149 rfl ?_
      refine x_getF C hT f_X4_60 rfl rfl (by first | assumption | exact Nat.one_pos) dX4_end_150 ?_
      refine x_iload C dX4_end_153 rfl ?_
      refine x_ialdN C (40 * p0 + z) rfl rfl rfl (by first | assumption | exact Nat.one_pos) he (by decide) dX4_end_155 ?_
      refine x_icmp_ge C 191 dX4_end_156 (by decide) (fun h156 => ?_) (fun h156 => ?_)
      · skip
        refine x_aload_n C dX4_end_191 rfl ?_
        refine x_getF C hT f_X4_37 rfl rfl (by first | assumption | exact Nat.one_pos) dX4_end_192 ?_
        refine x_iload C dX4_end_195 rfl ?_
        refine x_dup2 C rfl rfl dX4_end_197 ?_
        refine x_ialdN C (k) rfl rfl rfl (by first | assumption | exact Nat.one_pos) hk (by decide) dX4_end_198 ?_
        rw [h32]
        refine x_iconst C 1 (by decide) dX4_end_199 ?_
        refine x_iadd C dX4_end_200 ?_
        refine x_iastN C (k) rfl rfl rfl (by first | assumption | exact Nat.one_pos) hk (by decide) dX4_end_201 ?_
        refine x_aload_n C dX4_end_202 rfl ?_
        refine x_getF C hT f_X4_54 rfl rfl (by first | assumption | exact Nat.one_pos) dX4_end_203 ?_
        refine x_iload_n C dX4_end_206 rfl ?_
        refine x_dup2 C rfl rfl dX4_end_207 ?_
        refine x_ialdN C (p0) rfl rfl rfl (by first | assumption | exact Nat.one_pos) hp (by decide) dX4_end_208 ?_
        rw [up3_c _ _ _ _ _ (by decide), h37]
        refine x_iconst C 1 (by decide) dX4_end_209 ?_
        refine x_isub C dX4_end_210 ?_
        rw [nI_pred]
        refine x_iastN C (p0) rfl rfl rfl (by first | assumption | exact Nat.one_pos) hp (by decide) dX4_end_211 ?_
        refine x_iconst C 2 (by decide) dX4_end_212 ?_
        exact x_iret C (po_i _ _ _ _ _ _) dX4_end_213
      · skip
        rw [hf1] at h156
        exact absurd (Int32.le_refl _) h156
    | succ g ih =>
      intro t ht
      refine x_iload C dX4_end_147 rfl ?_
      refine x_aload_n C dX4_end_149 rfl ?_
      refine x_getF C hT f_X4_60 rfl rfl (by first | assumption | exact Nat.one_pos) dX4_end_150 ?_
      refine x_iload C dX4_end_153 rfl ?_
      refine x_ialdN C (40 * p0 + z) rfl rfl rfl (by first | assumption | exact Nat.one_pos) he (by decide) dX4_end_155 ?_
      refine x_icmp_ge C 191 dX4_end_156 (by decide) (fun h156 => ?_) (fun h156 => ?_)
      · skip
        rw [hf1] at h156
        exact absurd h156 (nI_ge (show t < a by omega) (by omega))
      · skip
        refine x_aload_n C dX4_end_159 rfl ?_
        refine x_getF C hT f_X4_34 rfl rfl (by first | assumption | exact Nat.one_pos) dX4_end_160 ?_
        refine x_bipush C 8 (by decide) dX4_end_163 ?_
        refine x_iload C dX4_end_165 rfl ?_
        refine x_imul C dX4_end_167 ?_
        refine x_iload C dX4_end_168 rfl ?_
        refine x_iadd C dX4_end_170 ?_
        refine x_aload_n C dX4_end_171 rfl ?_
        refine x_getF C hT f_X4_63 rfl rfl (by first | assumption | exact Nat.one_pos) dX4_end_172 ?_
        refine x_bipush C 8 (by decide) dX4_end_175 ?_
        refine x_iload C dX4_end_177 rfl ?_
        refine x_imul C dX4_end_179 ?_
        refine x_iload C dX4_end_180 rfl ?_
        refine x_iadd C dX4_end_182 ?_
        refine x_ialdN C (8 * (40 * p0 + z) + t) (ix8 (40 * p0 + z) t) rfl rfl (by first | assumption | exact Nat.one_pos) (by omega) (by decide) dX4_end_183 ?_
        rw [hf4]
        refine x_iastN C (8 * k + t) (ix8 k t) rfl rfl (by first | assumption | exact Nat.one_pos) (by omega) (by decide) dX4_end_184 ?_
        refine x_iinc C _ dX4_end_185 rfl rfl (by decide) rfl rfl ?_
        refine x_goto C 147 dX4_end_188 (by decide) ?_
        exact x_eqL (ih (t + 1) (by omega)) rfl (by rw [← nI_1]; rfl) rfl rfl rfl rfl
  refine x_bipush C 40 (by decide) dX4_end_0 ?_
  refine x_iload_n C dX4_end_2 rfl ?_
  refine x_imul C dX4_end_3 ?_
  refine x_aload_n C dX4_end_4 rfl ?_
  refine x_getF C hT f_X4_54 rfl rfl (by first | assumption | exact Nat.one_pos) dX4_end_5 ?_
  refine x_iload_n C dX4_end_8 rfl ?_
  refine x_ialdN C (p0) rfl rfl rfl (by first | assumption | exact Nat.one_pos) hp (by decide) dX4_end_9 ?_
  try simp only [up3_r, Nat.reduceEqDiff, and_false, false_and, and_self, and_true, true_and, reduceIte]
  refine x_iadd C dX4_end_10 ?_
  refine x_iconst C 1 (by decide) dX4_end_11 ?_
  refine x_isub C dX4_end_12 ?_
  rw [hs, ix40, show 40 * p0 + (z + 1) = (40 * p0 + z) + 1 from rfl, nI_pred]
  refine x_istore C dX4_end_13 (by decide) rfl rfl ?_
  refine x_aload_n C dX4_end_15 rfl ?_
  refine x_getF C hT f_X4_57 rfl rfl (by first | assumption | exact Nat.one_pos) dX4_end_16 ?_
  refine x_iload C dX4_end_19 rfl ?_
  refine x_ialdN C (40 * p0 + z) rfl rfl rfl (by first | assumption | exact Nat.one_pos) he (by decide) dX4_end_21 ?_
  try simp only [up3_r, Nat.reduceEqDiff, and_false, false_and, and_self, and_true, true_and, reduceIte]
  rw [hon]
  refine x_istore C dX4_end_22 (by decide) rfl rfl ?_
  refine x_aload_n C dX4_end_24 rfl ?_
  refine x_getF C hT f_X4_51 rfl rfl (by first | assumption | exact Nat.one_pos) dX4_end_25 ?_
  refine x_iload C dX4_end_28 rfl ?_
  refine x_zaldN C (k) rfl rfl rfl (by first | assumption | exact Nat.one_pos) hk (by decide) dX4_end_30 ?_
  try simp only [up3_r, Nat.reduceEqDiff, and_false, false_and, and_self, and_true, true_and, reduceIte]
  refine x_if_eq C 66 dX4_end_31 (by decide) (fun h31 => ?_) (fun h31 => ?_)
  · skip
    refine x_iconst C 0 (by decide) dX4_end_66 ?_
    refine x_istore C dX4_end_67 (by decide) rfl rfl ?_
    refine x_aload_n C dX4_end_69 rfl ?_
    refine x_getF C hT f_X4_25 rfl rfl (by first | assumption | exact Nat.one_pos) dX4_end_70 ?_
    refine x_iload C dX4_end_73 rfl ?_
    refine x_iload C dX4_end_75 rfl ?_
    refine x_if_eq C 90 dX4_end_77 (by decide) (fun h77 => ?_) (fun h77 => ?_)
    · skip
      refine x_aload_n C dX4_end_90 rfl ?_
      refine x_getI C f_X4_86 rfl (by first | assumption | exact Nat.one_pos) dX4_end_91 ?_
      try simp only [up3_r, Nat.reduceEqDiff, and_false, false_and, and_self, and_true, true_and, reduceIte]
      refine x_iastN C (k) rfl rfl rfl (by first | assumption | exact Nat.one_pos) hk (by decide) dX4_end_94 ?_
      refine x_aload_n C dX4_end_95 rfl ?_
      refine x_getF C hT f_X4_19 rfl rfl (by first | assumption | exact Nat.one_pos) dX4_end_96 ?_
      refine x_iload C dX4_end_99 rfl ?_
      refine x_iload_n C dX4_end_101 rfl ?_
      refine x_iastN C (k) rfl rfl rfl (by first | assumption | exact Nat.one_pos) hk (by decide) dX4_end_102 ?_
      refine x_aload_n C dX4_end_103 rfl ?_
      refine x_getF C hT f_X4_43 rfl rfl (by first | assumption | exact Nat.one_pos) dX4_end_104 ?_
      refine x_iload C dX4_end_107 rfl ?_
      refine x_lload_n C dX4_end_109 rfl ?_
      refine x_lastN C (k) rfl rfl rfl (by first | assumption | exact Nat.one_pos) hk (by decide) dX4_end_110 ?_
      refine x_aload_n C dX4_end_111 rfl ?_
      refine x_getF C hT f_X4_51 rfl rfl (by first | assumption | exact Nat.one_pos) dX4_end_112 ?_
      refine x_iload C dX4_end_115 rfl ?_
      refine x_iconst C 1 (by decide) dX4_end_117 ?_
      refine x_zastN C (k) rfl rfl rfl (by first | assumption | exact Nat.one_pos) hk (by decide) (by first | exact Or.inl rfl | exact Or.inr rfl | assumption) dX4_end_118 ?_
      refine x_aload_n C dX4_end_119 rfl ?_
      refine x_getF C hT f_X4_22 rfl rfl (by first | assumption | exact Nat.one_pos) dX4_end_120 ?_
      refine x_iload C dX4_end_123 rfl ?_
      refine x_aload_n C dX4_end_125 rfl ?_
      refine x_getI C f_X4_86 rfl (by first | assumption | exact Nat.one_pos) dX4_end_126 ?_
      try simp only [up3_r, Nat.reduceEqDiff, and_false, false_and, and_self, and_true, true_and, reduceIte]
      refine x_iastN C (k) rfl rfl rfl (by first | assumption | exact Nat.one_pos) hk (by decide) dX4_end_129 ?_
      refine x_aload_n C dX4_end_130 rfl ?_
      refine x_getF C hT f_X4_31 rfl rfl (by first | assumption | exact Nat.one_pos) dX4_end_131 ?_
      refine x_iload C dX4_end_134 rfl ?_
      refine x_aload_n C dX4_end_136 rfl ?_
      refine x_getF C hT f_X4_60 rfl rfl (by first | assumption | exact Nat.one_pos) dX4_end_137 ?_
      refine x_iload C dX4_end_140 rfl ?_
      refine x_ialdN C (40 * p0 + z) rfl rfl rfl (by first | assumption | exact Nat.one_pos) he (by decide) dX4_end_142 ?_
      try simp only [up3_r, Nat.reduceEqDiff, and_false, false_and, and_self, and_true, true_and, reduceIte]
      rw [hfar]
      refine x_iastN C (k) rfl rfl rfl (by first | assumption | exact Nat.one_pos) hk (by decide) dX4_end_143 ?_
      refine x_iconst C 0 (by decide) dX4_end_144 ?_
      refine x_istore C dX4_end_145 (by decide) rfl rfl ?_
      refine x_drop 7 rfl ?_
      exact x_eqL (loop a 0 (by omega)) rfl rfl rfl (by rw [eaS, meA, if_neg (fun q => q.1 h31)]) rfl rfl
    · skip
      exact absurd rfl h77
  · skip
    refine x_aload_n C dX4_end_34 rfl ?_
    refine x_getF C hT f_X4_19 rfl rfl (by first | assumption | exact Nat.one_pos) dX4_end_35 ?_
    refine x_iload C dX4_end_38 rfl ?_
    refine x_ialdN C (k) rfl rfl rfl (by first | assumption | exact Nat.one_pos) hk (by decide) dX4_end_40 ?_
    try simp only [up3_r, Nat.reduceEqDiff, and_false, false_and, and_self, and_true, true_and, reduceIte]
    refine x_iload_n C dX4_end_41 rfl ?_
    refine x_icmp_ne C 66 dX4_end_42 (by decide) (fun h42 => ?_) (fun h42 => ?_)
    · skip
      refine x_iconst C 0 (by decide) dX4_end_66 ?_
      refine x_istore C dX4_end_67 (by decide) rfl rfl ?_
      refine x_aload_n C dX4_end_69 rfl ?_
      refine x_getF C hT f_X4_25 rfl rfl (by first | assumption | exact Nat.one_pos) dX4_end_70 ?_
      refine x_iload C dX4_end_73 rfl ?_
      refine x_iload C dX4_end_75 rfl ?_
      refine x_if_eq C 90 dX4_end_77 (by decide) (fun h77 => ?_) (fun h77 => ?_)
      · skip
        refine x_aload_n C dX4_end_90 rfl ?_
        refine x_getI C f_X4_86 rfl (by first | assumption | exact Nat.one_pos) dX4_end_91 ?_
        try simp only [up3_r, Nat.reduceEqDiff, and_false, false_and, and_self, and_true, true_and, reduceIte]
        refine x_iastN C (k) rfl rfl rfl (by first | assumption | exact Nat.one_pos) hk (by decide) dX4_end_94 ?_
        refine x_aload_n C dX4_end_95 rfl ?_
        refine x_getF C hT f_X4_19 rfl rfl (by first | assumption | exact Nat.one_pos) dX4_end_96 ?_
        refine x_iload C dX4_end_99 rfl ?_
        refine x_iload_n C dX4_end_101 rfl ?_
        refine x_iastN C (k) rfl rfl rfl (by first | assumption | exact Nat.one_pos) hk (by decide) dX4_end_102 ?_
        refine x_aload_n C dX4_end_103 rfl ?_
        refine x_getF C hT f_X4_43 rfl rfl (by first | assumption | exact Nat.one_pos) dX4_end_104 ?_
        refine x_iload C dX4_end_107 rfl ?_
        refine x_lload_n C dX4_end_109 rfl ?_
        refine x_lastN C (k) rfl rfl rfl (by first | assumption | exact Nat.one_pos) hk (by decide) dX4_end_110 ?_
        refine x_aload_n C dX4_end_111 rfl ?_
        refine x_getF C hT f_X4_51 rfl rfl (by first | assumption | exact Nat.one_pos) dX4_end_112 ?_
        refine x_iload C dX4_end_115 rfl ?_
        refine x_iconst C 1 (by decide) dX4_end_117 ?_
        refine x_zastN C (k) rfl rfl rfl (by first | assumption | exact Nat.one_pos) hk (by decide) (by first | exact Or.inl rfl | exact Or.inr rfl | assumption) dX4_end_118 ?_
        refine x_aload_n C dX4_end_119 rfl ?_
        refine x_getF C hT f_X4_22 rfl rfl (by first | assumption | exact Nat.one_pos) dX4_end_120 ?_
        refine x_iload C dX4_end_123 rfl ?_
        refine x_aload_n C dX4_end_125 rfl ?_
        refine x_getI C f_X4_86 rfl (by first | assumption | exact Nat.one_pos) dX4_end_126 ?_
        try simp only [up3_r, Nat.reduceEqDiff, and_false, false_and, and_self, and_true, true_and, reduceIte]
        refine x_iastN C (k) rfl rfl rfl (by first | assumption | exact Nat.one_pos) hk (by decide) dX4_end_129 ?_
        refine x_aload_n C dX4_end_130 rfl ?_
        refine x_getF C hT f_X4_31 rfl rfl (by first | assumption | exact Nat.one_pos) dX4_end_131 ?_
        refine x_iload C dX4_end_134 rfl ?_
        refine x_aload_n C dX4_end_136 rfl ?_
        refine x_getF C hT f_X4_60 rfl rfl (by first | assumption | exact Nat.one_pos) dX4_end_137 ?_
        refine x_iload C dX4_end_140 rfl ?_
        refine x_ialdN C (40 * p0 + z) rfl rfl rfl (by first | assumption | exact Nat.one_pos) he (by decide) dX4_end_142 ?_
        try simp only [up3_r, Nat.reduceEqDiff, and_false, false_and, and_self, and_true, true_and, reduceIte]
        rw [hfar]
        refine x_iastN C (k) rfl rfl rfl (by first | assumption | exact Nat.one_pos) hk (by decide) dX4_end_143 ?_
        refine x_iconst C 0 (by decide) dX4_end_144 ?_
        refine x_istore C dX4_end_145 (by decide) rfl rfl ?_
        refine x_drop 7 rfl ?_
        exact x_eqL (loop a 0 (by omega)) rfl rfl rfl (by rw [eaS, meA, if_neg (fun q => h42 q.2.1)]) rfl rfl
      · skip
        exact absurd rfl h77
    · skip
      refine x_iload_n C dX4_end_45 rfl ?_
      refine x_iconst C 1 (by decide) dX4_end_46 ?_
      refine x_icmp_ne C 62 dX4_end_47 (by decide) (fun h47 => ?_) (fun h47 => ?_)
      · skip
        refine x_iconst C 1 (by decide) dX4_end_62 ?_
        refine x_goto C 67 dX4_end_63 (by decide) ?_
        refine x_istore C dX4_end_67 (by decide) rfl rfl ?_
        refine x_aload_n C dX4_end_69 rfl ?_
        refine x_getF C hT f_X4_25 rfl rfl (by first | assumption | exact Nat.one_pos) dX4_end_70 ?_
        refine x_iload C dX4_end_73 rfl ?_
        refine x_iload C dX4_end_75 rfl ?_
        refine x_if_eq C 90 dX4_end_77 (by decide) (fun h77 => ?_) (fun h77 => ?_)
        · skip
          exact absurd h77 (by decide)
        · skip
          refine x_aload_n C dX4_end_80 rfl ?_
          refine x_getF C hT f_X4_25 rfl rfl (by first | assumption | exact Nat.one_pos) dX4_end_81 ?_
          refine x_iload C dX4_end_84 rfl ?_
          refine x_ialdN C (k) rfl rfl rfl (by first | assumption | exact Nat.one_pos) hk (by decide) dX4_end_86 ?_
          try simp only [up3_r, Nat.reduceEqDiff, and_false, false_and, and_self, and_true, true_and, reduceIte]
          refine x_goto C 94 dX4_end_87 (by decide) ?_
          refine x_iastN C (k) rfl rfl rfl (by first | assumption | exact Nat.one_pos) hk (by decide) dX4_end_94 ?_
          refine x_aload_n C dX4_end_95 rfl ?_
          refine x_getF C hT f_X4_19 rfl rfl (by first | assumption | exact Nat.one_pos) dX4_end_96 ?_
          refine x_iload C dX4_end_99 rfl ?_
          refine x_iload_n C dX4_end_101 rfl ?_
          refine x_iastN C (k) rfl rfl rfl (by first | assumption | exact Nat.one_pos) hk (by decide) dX4_end_102 ?_
          refine x_aload_n C dX4_end_103 rfl ?_
          refine x_getF C hT f_X4_43 rfl rfl (by first | assumption | exact Nat.one_pos) dX4_end_104 ?_
          refine x_iload C dX4_end_107 rfl ?_
          refine x_lload_n C dX4_end_109 rfl ?_
          refine x_lastN C (k) rfl rfl rfl (by first | assumption | exact Nat.one_pos) hk (by decide) dX4_end_110 ?_
          refine x_aload_n C dX4_end_111 rfl ?_
          refine x_getF C hT f_X4_51 rfl rfl (by first | assumption | exact Nat.one_pos) dX4_end_112 ?_
          refine x_iload C dX4_end_115 rfl ?_
          refine x_iconst C 1 (by decide) dX4_end_117 ?_
          refine x_zastN C (k) rfl rfl rfl (by first | assumption | exact Nat.one_pos) hk (by decide) (by first | exact Or.inl rfl | exact Or.inr rfl | assumption) dX4_end_118 ?_
          refine x_aload_n C dX4_end_119 rfl ?_
          refine x_getF C hT f_X4_22 rfl rfl (by first | assumption | exact Nat.one_pos) dX4_end_120 ?_
          refine x_iload C dX4_end_123 rfl ?_
          refine x_aload_n C dX4_end_125 rfl ?_
          refine x_getI C f_X4_86 rfl (by first | assumption | exact Nat.one_pos) dX4_end_126 ?_
          try simp only [up3_r, Nat.reduceEqDiff, and_false, false_and, and_self, and_true, true_and, reduceIte]
          refine x_iastN C (k) rfl rfl rfl (by first | assumption | exact Nat.one_pos) hk (by decide) dX4_end_129 ?_
          refine x_aload_n C dX4_end_130 rfl ?_
          refine x_getF C hT f_X4_31 rfl rfl (by first | assumption | exact Nat.one_pos) dX4_end_131 ?_
          refine x_iload C dX4_end_134 rfl ?_
          refine x_aload_n C dX4_end_136 rfl ?_
          refine x_getF C hT f_X4_60 rfl rfl (by first | assumption | exact Nat.one_pos) dX4_end_137 ?_
          refine x_iload C dX4_end_140 rfl ?_
          refine x_ialdN C (40 * p0 + z) rfl rfl rfl (by first | assumption | exact Nat.one_pos) he (by decide) dX4_end_142 ?_
          try simp only [up3_r, Nat.reduceEqDiff, and_false, false_and, and_self, and_true, true_and, reduceIte]
          rw [hfar]
          refine x_iastN C (k) rfl rfl rfl (by first | assumption | exact Nat.one_pos) hk (by decide) dX4_end_143 ?_
          refine x_iconst C 0 (by decide) dX4_end_144 ?_
          refine x_istore C dX4_end_145 (by decide) rfl rfl ?_
          refine x_drop 7 rfl ?_
          exact x_eqL (loop a 0 (by omega)) rfl rfl rfl (by rw [eaS, meA, if_pos ⟨h31, h42, Or.inl h47⟩]) rfl rfl
      · skip
        exact absurd h47 hx

set_option maxRecDepth 100000 in
set_option maxHeartbeats 4000000 in
theorem c_X4_await_w (l : Launch) (D : va_G) (dA : Nat → ClassId) (base n : Nat) (ad : Fa) (I : Fi) (J : Fj) (R : Fr) (hT : ST n R) (p0 j : Nat) (zs : Nat → Nat) (hH : HI I zs) (hw : ¬ pofP I (nI j) zs 5 = -1) : CT l D dA base yX4_await cX4_await 3 (some .int) 1 0 0 [.ref (ad 11 0), .int (nI p0), .int (nI j)] ad (Nn n) I J R (po (some (.int 3)) ad (Nn n) I J R) := by
  refine CT.of 0 (L0 := [some (.ref (ad 11 0)), some (.int (nI p0)), some (.int (nI j))]) (by decide +kernel) rfl (Nat.le_of_ble_eq_true rfl) ?_
  intro p e s m args below meth c C
  refine x_aload_n C dX4_await_0 rfl ?_
  refine x_iload_n C dX4_await_1 rfl ?_
  refine x_cV1 C yo_X4_pileOf m_X4_120 rfl rfl (by first | assumption | exact Nat.one_pos) (c_X4_pileOf l D dA base n ad I J R hT (nI j) zs hH) dX4_await_2 rfl rfl (Nat.le_of_ble_eq_true rfl) ⟨by decide, by decide⟩ ⟨by decide, by decide⟩ ?_
  refine x_iconst C (-1) (by decide) dX4_await_5 ?_
  refine x_icmp_eq C 11 dX4_await_6 (by decide) (fun h6 => ?_) (fun h6 => ?_)
  · skip
    exact absurd h6 hw
  · skip
    refine x_iconst C 3 (by decide) dX4_await_9 ?_
    exact x_iret C (po_i _ _ _ _ _ _) dX4_await_10

set_option maxRecDepth 100000 in
set_option maxHeartbeats 4000000 in
theorem c_X4_await_p (l : Launch) (D : va_G) (dA : Nat → ClassId) (base n : Nat) (ad : Fa) (I : Fi) (J : Fj) (R : Fr) (hT : ST n R) (p0 j : Nat) (zs : Nat → Nat) (hH : HI I zs) (hw : pofP I (nI j) zs 5 = -1) (hp : p0 < 5) (hj : j < 40) (hz : zs p0 < 40) : CT l D dA base yX4_await cX4_await 3 (some .int) 1 0 0 [.ref (ad 11 0), .int (nI p0), .int (nI j)] ad (Nn n) I J R (po (some (.int 1)) ad (Nn n) (lyI I p0 j (zs p0)) J R) := by
  refine CT.of 0 (L0 := [some (.ref (ad 11 0)), some (.int (nI p0)), some (.int (nI j))]) (by decide +kernel) rfl (Nat.le_of_ble_eq_true rfl) ?_
  intro p e s m args below meth c C
  refine x_aload_n C dX4_await_0 rfl ?_
  refine x_iload_n C dX4_await_1 rfl ?_
  refine x_cV1 C yo_X4_pileOf m_X4_120 rfl rfl (by first | assumption | exact Nat.one_pos) (c_X4_pileOf l D dA base n ad I J R hT (nI j) zs hH) dX4_await_2 rfl rfl (Nat.le_of_ble_eq_true rfl) ⟨by decide, by decide⟩ ⟨by decide, by decide⟩ ?_
  refine x_iconst C (-1) (by decide) dX4_await_5 ?_
  refine x_icmp_eq C 11 dX4_await_6 (by decide) (fun h6 => ?_) (fun h6 => ?_)
  · skip
    refine x_aload_n C dX4_await_11 rfl ?_
    refine x_iload_n C dX4_await_12 rfl ?_
    refine x_iload_n C dX4_await_13 rfl ?_
    refine x_cV0 C yo_X4_lay m_X4_126 rfl rfl (by first | assumption | exact Nat.one_pos) (c_X4_lay l D dA base n ad I J R hT p0 j (zs p0) hp hj (hH p0 hp).1 hz) dX4_await_14 rfl rfl (Nat.le_of_ble_eq_true rfl) ⟨by decide, by decide⟩ ⟨by decide, by decide⟩ ?_
    refine x_iconst C 1 (by decide) dX4_await_17 ?_
    exact x_iret C (po_i _ _ _ _ _ _) dX4_await_18
  · skip
    exact absurd hw h6

set_option maxRecDepth 100000 in
set_option maxHeartbeats 4000000 in
theorem c_X4_check_end (l : Launch) (D : va_G) (dA : Nat → ClassId) (base n : Nat) (ad : Fa) (I : Fi) (J : Fj) (R : Fr) (hT : ST n R) (p0 z k a q : Nat) (zs : Nat → Nat) (hH : HI I zs) (hzs : zs p0 = z + 1) (hp : p0 < 5) (hz : z < 40) (hk : k < 40) (hon : I 38 0 (40 * p0 + z) = nI k) (hfar : I 39 0 (40 * p0 + z) = nI a) (hq : I 30 0 k = nI q) (hq8 : q ≤ 8) (hka : a = q) : CT l D dA base yX4_check cX4_check 5 (some .int) 2 0 0 [.ref (ad 11 0), .int (nI p0), .int (nI (40 * p0 + z))] ad (Nn n) I J R (po (some (.int 2)) ad (Nn n) (up3 (up3 (up3 I 27 0 k (I 11 0 1)) 33 0 k (I 33 0 k + 1)) 37 0 p0 (nI z)) J R) := by
  refine CT.of 2 (L0 := [some (.ref (ad 11 0)), some (.int (nI p0)), some (.int (nI (40 * p0 + z))), none, none]) (by decide +kernel) rfl (Nat.le_of_ble_eq_true rfl) ?_
  intro p e s m args below meth c C
  have he : 40 * p0 + z < 200 := by omega
  have hs : I 37 0 p0 = nI (z + 1) := by rw [(hH p0 hp).1, hzs]
  refine x_aload_n C dX4_check_0 rfl ?_
  refine x_getF C hT f_X4_57 rfl rfl (by first | assumption | exact Nat.one_pos) dX4_check_1 ?_
  refine x_iload_n C dX4_check_4 rfl ?_
  refine x_ialdN C (40 * p0 + z) rfl rfl rfl (by first | assumption | exact Nat.one_pos) he (by decide) dX4_check_5 ?_
  try simp only [up3_r, Nat.reduceEqDiff, and_false, false_and, and_self, and_true, true_and, reduceIte]
  rw [hon]
  refine x_istore_n C dX4_check_6 (by decide) rfl rfl ?_
  refine x_aload_n C dX4_check_7 rfl ?_
  refine x_getF C hT f_X4_60 rfl rfl (by first | assumption | exact Nat.one_pos) dX4_check_8 ?_
  refine x_iload_n C dX4_check_11 rfl ?_
  refine x_ialdN C (40 * p0 + z) rfl rfl rfl (by first | assumption | exact Nat.one_pos) he (by decide) dX4_check_12 ?_
  try simp only [up3_r, Nat.reduceEqDiff, and_false, false_and, and_self, and_true, true_and, reduceIte]
  refine x_aload_n C dX4_check_13 rfl ?_
  refine x_getF C hT f_X4_31 rfl rfl (by first | assumption | exact Nat.one_pos) dX4_check_14 ?_
  refine x_iload_n C dX4_check_17 rfl ?_
  refine x_ialdN C (k) rfl rfl rfl (by first | assumption | exact Nat.one_pos) hk (by decide) dX4_check_18 ?_
  try simp only [up3_r, Nat.reduceEqDiff, and_false, false_and, and_self, and_true, true_and, reduceIte]
  refine x_icmp_ne C 54 dX4_check_19 (by decide) (fun h19 => ?_) (fun h19 => ?_)
  · skip
    rw [hfar, hq, hka] at h19
    exact absurd rfl h19
  · skip
    refine x_aload_n C dX4_check_22 rfl ?_
    refine x_getF C hT f_X4_22 rfl rfl (by first | assumption | exact Nat.one_pos) dX4_check_23 ?_
    refine x_iload_n C dX4_check_26 rfl ?_
    refine x_aload_n C dX4_check_27 rfl ?_
    refine x_getI C f_X4_86 rfl (by first | assumption | exact Nat.one_pos) dX4_check_28 ?_
    try simp only [up3_r, Nat.reduceEqDiff, and_false, false_and, and_self, and_true, true_and, reduceIte]
    refine x_iastN C (k) rfl rfl rfl (by first | assumption | exact Nat.one_pos) hk (by decide) dX4_check_31 ?_
    refine x_aload_n C dX4_check_32 rfl ?_
    refine x_getF C hT f_X4_40 rfl rfl (by first | assumption | exact Nat.one_pos) dX4_check_33 ?_
    refine x_iload_n C dX4_check_36 rfl ?_
    refine x_dup2 C rfl rfl dX4_check_37 ?_
    refine x_ialdN C (k) rfl rfl rfl (by first | assumption | exact Nat.one_pos) hk (by decide) dX4_check_38 ?_
    try simp only [up3_r, Nat.reduceEqDiff, and_false, false_and, and_self, and_true, true_and, reduceIte]
    refine x_iconst C 1 (by decide) dX4_check_39 ?_
    refine x_iadd C dX4_check_40 ?_
    refine x_iastN C (k) rfl rfl rfl (by first | assumption | exact Nat.one_pos) hk (by decide) dX4_check_41 ?_
    refine x_aload_n C dX4_check_42 rfl ?_
    refine x_getF C hT f_X4_54 rfl rfl (by first | assumption | exact Nat.one_pos) dX4_check_43 ?_
    refine x_iload_n C dX4_check_46 rfl ?_
    refine x_dup2 C rfl rfl dX4_check_47 ?_
    refine x_ialdN C (p0) rfl rfl rfl (by first | assumption | exact Nat.one_pos) hp (by decide) dX4_check_48 ?_
    try simp only [up3_r, Nat.reduceEqDiff, and_false, false_and, and_self, and_true, true_and, reduceIte]
    refine x_iconst C 1 (by decide) dX4_check_49 ?_
    refine x_isub C dX4_check_50 ?_
    rw [hs, nI_pred]
    refine x_iastN C (p0) rfl rfl rfl (by first | assumption | exact Nat.one_pos) hp (by decide) dX4_check_51 ?_
    refine x_iconst C 2 (by decide) dX4_check_52 ?_
    exact x_iret C (po_i _ _ _ _ _ _) dX4_check_53

set_option maxRecDepth 100000 in
set_option maxHeartbeats 4000000 in
theorem c_X4_check_wait (l : Launch) (D : va_G) (dA : Nat → ClassId) (base n : Nat) (ad : Fa) (I : Fi) (J : Fj) (R : Fr) (hT : ST n R) (p0 z k a q : Nat) (zs : Nat → Nat) (hH : HI I zs) (hzs : zs p0 = z + 1) (hp : p0 < 5) (hz : z < 40) (hk : k < 40) (hon : I 38 0 (40 * p0 + z) = nI k) (hfar : I 39 0 (40 * p0 + z) = nI a) (hq : I 30 0 k = nI q) (hq8 : q ≤ 8) (pl j : Nat) (hka : a < q) (hpl : I 31 0 (8 * k + a) = nI pl) (hpl8 : pl < 8) (hj : I 25 0 (8 * k + pl) = nI j) (hj40 : j < 40) (hsu : msure I j = false) (hw : ¬ pofP I (nI j) zs 5 = -1) : CT l D dA base yX4_check cX4_check 5 (some .int) 2 0 0 [.ref (ad 11 0), .int (nI p0), .int (nI (40 * p0 + z))] ad (Nn n) I J R (po (some (.int 3)) ad (Nn n) I J R) := by
  refine CT.of 2 (L0 := [some (.ref (ad 11 0)), some (.int (nI p0)), some (.int (nI (40 * p0 + z))), none, none]) (by decide +kernel) rfl (Nat.le_of_ble_eq_true rfl) ?_
  intro p e s m args below meth c C
  have he : 40 * p0 + z < 200 := by omega
  have hs : I 37 0 p0 = nI (z + 1) := by rw [(hH p0 hp).1, hzs]
  refine x_aload_n C dX4_check_0 rfl ?_
  refine x_getF C hT f_X4_57 rfl rfl (by first | assumption | exact Nat.one_pos) dX4_check_1 ?_
  refine x_iload_n C dX4_check_4 rfl ?_
  refine x_ialdN C (40 * p0 + z) rfl rfl rfl (by first | assumption | exact Nat.one_pos) he (by decide) dX4_check_5 ?_
  rw [hon]
  refine x_istore_n C dX4_check_6 (by decide) rfl rfl ?_
  refine x_aload_n C dX4_check_7 rfl ?_
  refine x_getF C hT f_X4_60 rfl rfl (by first | assumption | exact Nat.one_pos) dX4_check_8 ?_
  refine x_iload_n C dX4_check_11 rfl ?_
  refine x_ialdN C (40 * p0 + z) rfl rfl rfl (by first | assumption | exact Nat.one_pos) he (by decide) dX4_check_12 ?_
  refine x_aload_n C dX4_check_13 rfl ?_
  refine x_getF C hT f_X4_31 rfl rfl (by first | assumption | exact Nat.one_pos) dX4_check_14 ?_
  refine x_iload_n C dX4_check_17 rfl ?_
  refine x_ialdN C (k) rfl rfl rfl (by first | assumption | exact Nat.one_pos) hk (by decide) dX4_check_18 ?_
  refine x_icmp_ne C 54 dX4_check_19 (by decide) (fun h19 => ?_) (fun h19 => ?_)
  · skip
    refine x_aload_n C dX4_check_54 rfl ?_
    refine x_iload_n C dX4_check_55 rfl ?_
    refine x_aload_n C dX4_check_56 rfl ?_
    refine x_getF C hT f_X4_34 rfl rfl (by first | assumption | exact Nat.one_pos) dX4_check_57 ?_
    refine x_bipush C 8 (by decide) dX4_check_60 ?_
    refine x_iload_n C dX4_check_62 rfl ?_
    refine x_imul C dX4_check_63 ?_
    refine x_aload_n C dX4_check_64 rfl ?_
    refine x_getF C hT f_X4_60 rfl rfl (by first | assumption | exact Nat.one_pos) dX4_check_65 ?_
    refine x_iload_n C dX4_check_68 rfl ?_
    refine x_ialdN C (40 * p0 + z) rfl rfl rfl (by first | assumption | exact Nat.one_pos) he (by decide) dX4_check_69 ?_
    rw [hfar]
    refine x_iadd C dX4_check_70 ?_
    refine x_ialdN C (8 * k + a) (ix8 k a) rfl rfl (by first | assumption | exact Nat.one_pos) (by omega) (by decide) dX4_check_71 ?_
    rw [hpl]
    refine x_cV1 C yo_X4_rowKey m_X4_97 rfl rfl (by first | assumption | exact Nat.one_pos) (c_X4_rowKey l D dA base n ad I J R hT k pl hk hpl8) dX4_check_72 rfl rfl (Nat.le_of_ble_eq_true rfl) ⟨by decide, by decide⟩ ⟨by decide, by decide⟩ ?_
    rw [hj]
    refine x_istore C dX4_check_75 (by decide) rfl rfl ?_
    refine x_aload_n C dX4_check_77 rfl ?_
    refine x_iload C dX4_check_78 rfl ?_
    refine x_cV1 C yo_X4_isSure m_X4_123 rfl rfl (by first | assumption | exact Nat.one_pos) (c_X4_isSure l D dA base n ad I J R hT j hj40) dX4_check_80 rfl rfl (Nat.le_of_ble_eq_true rfl) ⟨by decide, by decide⟩ ⟨by decide, by decide⟩ ?_
    refine x_if_ne C 94 dX4_check_83 (by decide) (fun h83 => ?_) (fun h83 => ?_)
    · skip
      rw [hsu] at h83
      exact absurd rfl h83
    · skip
      refine x_aload_n C dX4_check_86 rfl ?_
      refine x_iload_n C dX4_check_87 rfl ?_
      refine x_iload C dX4_check_88 rfl ?_
      refine x_cV1 C yo_X4_await m_X4_140 rfl rfl (by first | assumption | exact Nat.one_pos) (c_X4_await_w l D dA base n ad I J R hT p0 j zs hH hw) dX4_check_90 rfl rfl (Nat.le_of_ble_eq_true rfl) ⟨by decide, by decide⟩ ⟨by decide, by decide⟩ ?_
      exact x_iret C (po_i _ _ _ _ _ _) dX4_check_93
  · skip
    rw [hfar, hq] at h19
    exact absurd ((nI_eq (by omega) (by omega)).mp h19) (by omega)

set_option maxRecDepth 100000 in
set_option maxHeartbeats 4000000 in
theorem c_X4_check_put (l : Launch) (D : va_G) (dA : Nat → ClassId) (base n : Nat) (ad : Fa) (I : Fi) (J : Fj) (R : Fr) (hT : ST n R) (p0 z k a q : Nat) (zs : Nat → Nat) (hH : HI I zs) (hzs : zs p0 = z + 1) (hp : p0 < 5) (hz : z < 40) (hk : k < 40) (hon : I 38 0 (40 * p0 + z) = nI k) (hfar : I 39 0 (40 * p0 + z) = nI a) (hq : I 30 0 k = nI q) (hq8 : q ≤ 8) (pl j : Nat) (hka : a < q) (hpl : I 31 0 (8 * k + a) = nI pl) (hpl8 : pl < 8) (hj : I 25 0 (8 * k + pl) = nI j) (hj40 : j < 40) (hsu : msure I j = false) (hw : pofP I (nI j) zs 5 = -1) (hz2 : zs p0 < 40) : CT l D dA base yX4_check cX4_check 5 (some .int) 2 0 0 [.ref (ad 11 0), .int (nI p0), .int (nI (40 * p0 + z))] ad (Nn n) I J R (po (some (.int 1)) ad (Nn n) (lyI I p0 j (zs p0)) J R) := by
  refine CT.of 2 (L0 := [some (.ref (ad 11 0)), some (.int (nI p0)), some (.int (nI (40 * p0 + z))), none, none]) (by decide +kernel) rfl (Nat.le_of_ble_eq_true rfl) ?_
  intro p e s m args below meth c C
  have he : 40 * p0 + z < 200 := by omega
  have hs : I 37 0 p0 = nI (z + 1) := by rw [(hH p0 hp).1, hzs]
  refine x_aload_n C dX4_check_0 rfl ?_
  refine x_getF C hT f_X4_57 rfl rfl (by first | assumption | exact Nat.one_pos) dX4_check_1 ?_
  refine x_iload_n C dX4_check_4 rfl ?_
  refine x_ialdN C (40 * p0 + z) rfl rfl rfl (by first | assumption | exact Nat.one_pos) he (by decide) dX4_check_5 ?_
  rw [hon]
  refine x_istore_n C dX4_check_6 (by decide) rfl rfl ?_
  refine x_aload_n C dX4_check_7 rfl ?_
  refine x_getF C hT f_X4_60 rfl rfl (by first | assumption | exact Nat.one_pos) dX4_check_8 ?_
  refine x_iload_n C dX4_check_11 rfl ?_
  refine x_ialdN C (40 * p0 + z) rfl rfl rfl (by first | assumption | exact Nat.one_pos) he (by decide) dX4_check_12 ?_
  refine x_aload_n C dX4_check_13 rfl ?_
  refine x_getF C hT f_X4_31 rfl rfl (by first | assumption | exact Nat.one_pos) dX4_check_14 ?_
  refine x_iload_n C dX4_check_17 rfl ?_
  refine x_ialdN C (k) rfl rfl rfl (by first | assumption | exact Nat.one_pos) hk (by decide) dX4_check_18 ?_
  refine x_icmp_ne C 54 dX4_check_19 (by decide) (fun h19 => ?_) (fun h19 => ?_)
  · skip
    refine x_aload_n C dX4_check_54 rfl ?_
    refine x_iload_n C dX4_check_55 rfl ?_
    refine x_aload_n C dX4_check_56 rfl ?_
    refine x_getF C hT f_X4_34 rfl rfl (by first | assumption | exact Nat.one_pos) dX4_check_57 ?_
    refine x_bipush C 8 (by decide) dX4_check_60 ?_
    refine x_iload_n C dX4_check_62 rfl ?_
    refine x_imul C dX4_check_63 ?_
    refine x_aload_n C dX4_check_64 rfl ?_
    refine x_getF C hT f_X4_60 rfl rfl (by first | assumption | exact Nat.one_pos) dX4_check_65 ?_
    refine x_iload_n C dX4_check_68 rfl ?_
    refine x_ialdN C (40 * p0 + z) rfl rfl rfl (by first | assumption | exact Nat.one_pos) he (by decide) dX4_check_69 ?_
    rw [hfar]
    refine x_iadd C dX4_check_70 ?_
    refine x_ialdN C (8 * k + a) (ix8 k a) rfl rfl (by first | assumption | exact Nat.one_pos) (by omega) (by decide) dX4_check_71 ?_
    rw [hpl]
    refine x_cV1 C yo_X4_rowKey m_X4_97 rfl rfl (by first | assumption | exact Nat.one_pos) (c_X4_rowKey l D dA base n ad I J R hT k pl hk hpl8) dX4_check_72 rfl rfl (Nat.le_of_ble_eq_true rfl) ⟨by decide, by decide⟩ ⟨by decide, by decide⟩ ?_
    rw [hj]
    refine x_istore C dX4_check_75 (by decide) rfl rfl ?_
    refine x_aload_n C dX4_check_77 rfl ?_
    refine x_iload C dX4_check_78 rfl ?_
    refine x_cV1 C yo_X4_isSure m_X4_123 rfl rfl (by first | assumption | exact Nat.one_pos) (c_X4_isSure l D dA base n ad I J R hT j hj40) dX4_check_80 rfl rfl (Nat.le_of_ble_eq_true rfl) ⟨by decide, by decide⟩ ⟨by decide, by decide⟩ ?_
    refine x_if_ne C 94 dX4_check_83 (by decide) (fun h83 => ?_) (fun h83 => ?_)
    · skip
      rw [hsu] at h83
      exact absurd rfl h83
    · skip
      refine x_aload_n C dX4_check_86 rfl ?_
      refine x_iload_n C dX4_check_87 rfl ?_
      refine x_iload C dX4_check_88 rfl ?_
      refine x_cV1 C yo_X4_await m_X4_140 rfl rfl (by first | assumption | exact Nat.one_pos) (c_X4_await_p l D dA base n ad I J R hT p0 j zs hH hw hp hj40 hz2) dX4_check_90 rfl rfl (Nat.le_of_ble_eq_true rfl) ⟨by decide, by decide⟩ ⟨by decide, by decide⟩ ?_
      exact x_iret C (po_i _ _ _ _ _ _) dX4_check_93
  · skip
    rw [hfar, hq] at h19
    exact absurd ((nI_eq (by omega) (by omega)).mp h19) (by omega)

set_option maxRecDepth 100000 in
set_option maxHeartbeats 4000000 in
theorem c_X4_check_chg (l : Launch) (D : va_G) (dA : Nat → ClassId) (base n : Nat) (ad : Fa) (I : Fi) (J : Fj) (R : Fr) (hT : ST n R) (p0 z k a q : Nat) (zs : Nat → Nat) (hH : HI I zs) (hzs : zs p0 = z + 1) (hp : p0 < 5) (hz : z < 40) (hk : k < 40) (hon : I 38 0 (40 * p0 + z) = nI k) (hfar : I 39 0 (40 * p0 + z) = nI a) (hq : I 30 0 k = nI q) (hq8 : q ≤ 8) (pl j : Nat) (hka : a < q) (hpl : I 31 0 (8 * k + a) = nI pl) (hpl8 : pl < 8) (hj : I 25 0 (8 * k + pl) = nI j) (hj40 : j < 40) (hsu : msure I j = true) (hc : I 27 0 k < I 28 0 j) : CT l D dA base yX4_check cX4_check 5 (some .int) 2 0 0 [.ref (ad 11 0), .int (nI p0), .int (nI (40 * p0 + z))] ad (Nn n) I J R (po (some (.int 5)) ad (Nn n) (up3 (up3 I 41 0 (40 * p0 + z) 1) 39 0 (40 * p0 + z) 0) J R) := by
  refine CT.of 2 (L0 := [some (.ref (ad 11 0)), some (.int (nI p0)), some (.int (nI (40 * p0 + z))), none, none]) (by decide +kernel) rfl (Nat.le_of_ble_eq_true rfl) ?_
  intro p e s m args below meth c C
  have he : 40 * p0 + z < 200 := by omega
  have hs : I 37 0 p0 = nI (z + 1) := by rw [(hH p0 hp).1, hzs]
  refine x_aload_n C dX4_check_0 rfl ?_
  refine x_getF C hT f_X4_57 rfl rfl (by first | assumption | exact Nat.one_pos) dX4_check_1 ?_
  refine x_iload_n C dX4_check_4 rfl ?_
  refine x_ialdN C (40 * p0 + z) rfl rfl rfl (by first | assumption | exact Nat.one_pos) he (by decide) dX4_check_5 ?_
  rw [hon]
  refine x_istore_n C dX4_check_6 (by decide) rfl rfl ?_
  refine x_aload_n C dX4_check_7 rfl ?_
  refine x_getF C hT f_X4_60 rfl rfl (by first | assumption | exact Nat.one_pos) dX4_check_8 ?_
  refine x_iload_n C dX4_check_11 rfl ?_
  refine x_ialdN C (40 * p0 + z) rfl rfl rfl (by first | assumption | exact Nat.one_pos) he (by decide) dX4_check_12 ?_
  refine x_aload_n C dX4_check_13 rfl ?_
  refine x_getF C hT f_X4_31 rfl rfl (by first | assumption | exact Nat.one_pos) dX4_check_14 ?_
  refine x_iload_n C dX4_check_17 rfl ?_
  refine x_ialdN C (k) rfl rfl rfl (by first | assumption | exact Nat.one_pos) hk (by decide) dX4_check_18 ?_
  refine x_icmp_ne C 54 dX4_check_19 (by decide) (fun h19 => ?_) (fun h19 => ?_)
  · skip
    refine x_aload_n C dX4_check_54 rfl ?_
    refine x_iload_n C dX4_check_55 rfl ?_
    refine x_aload_n C dX4_check_56 rfl ?_
    refine x_getF C hT f_X4_34 rfl rfl (by first | assumption | exact Nat.one_pos) dX4_check_57 ?_
    refine x_bipush C 8 (by decide) dX4_check_60 ?_
    refine x_iload_n C dX4_check_62 rfl ?_
    refine x_imul C dX4_check_63 ?_
    refine x_aload_n C dX4_check_64 rfl ?_
    refine x_getF C hT f_X4_60 rfl rfl (by first | assumption | exact Nat.one_pos) dX4_check_65 ?_
    refine x_iload_n C dX4_check_68 rfl ?_
    refine x_ialdN C (40 * p0 + z) rfl rfl rfl (by first | assumption | exact Nat.one_pos) he (by decide) dX4_check_69 ?_
    rw [hfar]
    refine x_iadd C dX4_check_70 ?_
    refine x_ialdN C (8 * k + a) (ix8 k a) rfl rfl (by first | assumption | exact Nat.one_pos) (by omega) (by decide) dX4_check_71 ?_
    rw [hpl]
    refine x_cV1 C yo_X4_rowKey m_X4_97 rfl rfl (by first | assumption | exact Nat.one_pos) (c_X4_rowKey l D dA base n ad I J R hT k pl hk hpl8) dX4_check_72 rfl rfl (Nat.le_of_ble_eq_true rfl) ⟨by decide, by decide⟩ ⟨by decide, by decide⟩ ?_
    rw [hj]
    refine x_istore C dX4_check_75 (by decide) rfl rfl ?_
    refine x_aload_n C dX4_check_77 rfl ?_
    refine x_iload C dX4_check_78 rfl ?_
    refine x_cV1 C yo_X4_isSure m_X4_123 rfl rfl (by first | assumption | exact Nat.one_pos) (c_X4_isSure l D dA base n ad I J R hT j hj40) dX4_check_80 rfl rfl (Nat.le_of_ble_eq_true rfl) ⟨by decide, by decide⟩ ⟨by decide, by decide⟩ ?_
    refine x_if_ne C 94 dX4_check_83 (by decide) (fun h83 => ?_) (fun h83 => ?_)
    · skip
      refine x_aload_n C dX4_check_94 rfl ?_
      refine x_getF C hT f_X4_25 rfl rfl (by first | assumption | exact Nat.one_pos) dX4_check_95 ?_
      refine x_iload C dX4_check_98 rfl ?_
      refine x_ialdN C (j) rfl rfl rfl (by first | assumption | exact Nat.one_pos) hj40 (by decide) dX4_check_100 ?_
      refine x_aload_n C dX4_check_101 rfl ?_
      refine x_getF C hT f_X4_22 rfl rfl (by first | assumption | exact Nat.one_pos) dX4_check_102 ?_
      refine x_iload_n C dX4_check_105 rfl ?_
      refine x_ialdN C (k) rfl rfl rfl (by first | assumption | exact Nat.one_pos) hk (by decide) dX4_check_106 ?_
      refine x_icmp_le C 126 dX4_check_107 (by decide) (fun h107 => ?_) (fun h107 => ?_)
      · skip
        exact absurd hc (Int32.not_lt.mpr h107)
      · skip
        refine x_aload_n C dX4_check_110 rfl ?_
        refine x_getF C hT f_X4_66 rfl rfl (by first | assumption | exact Nat.one_pos) dX4_check_111 ?_
        refine x_iload_n C dX4_check_114 rfl ?_
        refine x_iconst C 1 (by decide) dX4_check_115 ?_
        refine x_zastN C (40 * p0 + z) rfl rfl rfl (by first | assumption | exact Nat.one_pos) he (by decide) (by first | exact Or.inl rfl | exact Or.inr rfl | assumption) dX4_check_116 ?_
        refine x_aload_n C dX4_check_117 rfl ?_
        refine x_getF C hT f_X4_60 rfl rfl (by first | assumption | exact Nat.one_pos) dX4_check_118 ?_
        refine x_iload_n C dX4_check_121 rfl ?_
        refine x_iconst C 0 (by decide) dX4_check_122 ?_
        refine x_iastN C (40 * p0 + z) rfl rfl rfl (by first | assumption | exact Nat.one_pos) he (by decide) dX4_check_123 ?_
        refine x_iconst C 5 (by decide) dX4_check_124 ?_
        exact x_iret C (po_i _ _ _ _ _ _) dX4_check_125
    · skip
      rw [hsu] at h83
      exact absurd h83 (by decide)
  · skip
    rw [hfar, hq] at h19
    exact absurd ((nI_eq (by omega) (by omega)).mp h19) (by omega)

set_option maxRecDepth 100000 in
set_option maxHeartbeats 4000000 in
theorem c_X4_check_pass (l : Launch) (D : va_G) (dA : Nat → ClassId) (base n : Nat) (ad : Fa) (I : Fi) (J : Fj) (R : Fr) (hT : ST n R) (p0 z k a q : Nat) (zs : Nat → Nat) (hH : HI I zs) (hzs : zs p0 = z + 1) (hp : p0 < 5) (hz : z < 40) (hk : k < 40) (hon : I 38 0 (40 * p0 + z) = nI k) (hfar : I 39 0 (40 * p0 + z) = nI a) (hq : I 30 0 k = nI q) (hq8 : q ≤ 8) (pl j : Nat) (hka : a < q) (hpl : I 31 0 (8 * k + a) = nI pl) (hpl8 : pl < 8) (hj : I 25 0 (8 * k + pl) = nI j) (hj40 : j < 40) (hsu : msure I j = true) (hc : ¬ I 27 0 k < I 28 0 j) : CT l D dA base yX4_check cX4_check 5 (some .int) 2 0 0 [.ref (ad 11 0), .int (nI p0), .int (nI (40 * p0 + z))] ad (Nn n) I J R (po (some (.int 4)) ad (Nn n) (up3 I 39 0 (40 * p0 + z) (nI (a + 1))) J R) := by
  refine CT.of 2 (L0 := [some (.ref (ad 11 0)), some (.int (nI p0)), some (.int (nI (40 * p0 + z))), none, none]) (by decide +kernel) rfl (Nat.le_of_ble_eq_true rfl) ?_
  intro p e s m args below meth c C
  have he : 40 * p0 + z < 200 := by omega
  have hs : I 37 0 p0 = nI (z + 1) := by rw [(hH p0 hp).1, hzs]
  refine x_aload_n C dX4_check_0 rfl ?_
  refine x_getF C hT f_X4_57 rfl rfl (by first | assumption | exact Nat.one_pos) dX4_check_1 ?_
  refine x_iload_n C dX4_check_4 rfl ?_
  refine x_ialdN C (40 * p0 + z) rfl rfl rfl (by first | assumption | exact Nat.one_pos) he (by decide) dX4_check_5 ?_
  rw [hon]
  refine x_istore_n C dX4_check_6 (by decide) rfl rfl ?_
  refine x_aload_n C dX4_check_7 rfl ?_
  refine x_getF C hT f_X4_60 rfl rfl (by first | assumption | exact Nat.one_pos) dX4_check_8 ?_
  refine x_iload_n C dX4_check_11 rfl ?_
  refine x_ialdN C (40 * p0 + z) rfl rfl rfl (by first | assumption | exact Nat.one_pos) he (by decide) dX4_check_12 ?_
  refine x_aload_n C dX4_check_13 rfl ?_
  refine x_getF C hT f_X4_31 rfl rfl (by first | assumption | exact Nat.one_pos) dX4_check_14 ?_
  refine x_iload_n C dX4_check_17 rfl ?_
  refine x_ialdN C (k) rfl rfl rfl (by first | assumption | exact Nat.one_pos) hk (by decide) dX4_check_18 ?_
  refine x_icmp_ne C 54 dX4_check_19 (by decide) (fun h19 => ?_) (fun h19 => ?_)
  · skip
    refine x_aload_n C dX4_check_54 rfl ?_
    refine x_iload_n C dX4_check_55 rfl ?_
    refine x_aload_n C dX4_check_56 rfl ?_
    refine x_getF C hT f_X4_34 rfl rfl (by first | assumption | exact Nat.one_pos) dX4_check_57 ?_
    refine x_bipush C 8 (by decide) dX4_check_60 ?_
    refine x_iload_n C dX4_check_62 rfl ?_
    refine x_imul C dX4_check_63 ?_
    refine x_aload_n C dX4_check_64 rfl ?_
    refine x_getF C hT f_X4_60 rfl rfl (by first | assumption | exact Nat.one_pos) dX4_check_65 ?_
    refine x_iload_n C dX4_check_68 rfl ?_
    refine x_ialdN C (40 * p0 + z) rfl rfl rfl (by first | assumption | exact Nat.one_pos) he (by decide) dX4_check_69 ?_
    rw [hfar]
    refine x_iadd C dX4_check_70 ?_
    refine x_ialdN C (8 * k + a) (ix8 k a) rfl rfl (by first | assumption | exact Nat.one_pos) (by omega) (by decide) dX4_check_71 ?_
    rw [hpl]
    refine x_cV1 C yo_X4_rowKey m_X4_97 rfl rfl (by first | assumption | exact Nat.one_pos) (c_X4_rowKey l D dA base n ad I J R hT k pl hk hpl8) dX4_check_72 rfl rfl (Nat.le_of_ble_eq_true rfl) ⟨by decide, by decide⟩ ⟨by decide, by decide⟩ ?_
    rw [hj]
    refine x_istore C dX4_check_75 (by decide) rfl rfl ?_
    refine x_aload_n C dX4_check_77 rfl ?_
    refine x_iload C dX4_check_78 rfl ?_
    refine x_cV1 C yo_X4_isSure m_X4_123 rfl rfl (by first | assumption | exact Nat.one_pos) (c_X4_isSure l D dA base n ad I J R hT j hj40) dX4_check_80 rfl rfl (Nat.le_of_ble_eq_true rfl) ⟨by decide, by decide⟩ ⟨by decide, by decide⟩ ?_
    refine x_if_ne C 94 dX4_check_83 (by decide) (fun h83 => ?_) (fun h83 => ?_)
    · skip
      refine x_aload_n C dX4_check_94 rfl ?_
      refine x_getF C hT f_X4_25 rfl rfl (by first | assumption | exact Nat.one_pos) dX4_check_95 ?_
      refine x_iload C dX4_check_98 rfl ?_
      refine x_ialdN C (j) rfl rfl rfl (by first | assumption | exact Nat.one_pos) hj40 (by decide) dX4_check_100 ?_
      refine x_aload_n C dX4_check_101 rfl ?_
      refine x_getF C hT f_X4_22 rfl rfl (by first | assumption | exact Nat.one_pos) dX4_check_102 ?_
      refine x_iload_n C dX4_check_105 rfl ?_
      refine x_ialdN C (k) rfl rfl rfl (by first | assumption | exact Nat.one_pos) hk (by decide) dX4_check_106 ?_
      refine x_icmp_le C 126 dX4_check_107 (by decide) (fun h107 => ?_) (fun h107 => ?_)
      · skip
        refine x_aload_n C dX4_check_126 rfl ?_
        refine x_getF C hT f_X4_60 rfl rfl (by first | assumption | exact Nat.one_pos) dX4_check_127 ?_
        refine x_iload_n C dX4_check_130 rfl ?_
        refine x_dup2 C rfl rfl dX4_check_131 ?_
        refine x_ialdN C (40 * p0 + z) rfl rfl rfl (by first | assumption | exact Nat.one_pos) he (by decide) dX4_check_132 ?_
        refine x_iconst C 1 (by decide) dX4_check_133 ?_
        refine x_iadd C dX4_check_134 ?_
        refine x_iastN C (40 * p0 + z) rfl rfl rfl (by first | assumption | exact Nat.one_pos) he (by decide) dX4_check_135 ?_
        refine x_iconst C 4 (by decide) dX4_check_136 ?_
        exact x_iret C (⟨rfl, rfl, rfl, by rw [hfar, nI_1], rfl, rfl⟩) dX4_check_137
      · skip
        exact absurd (Int32.not_lt.mp hc) h107
    · skip
      rw [hsu] at h83
      exact absurd h83 (by decide)
  · skip
    rw [hfar, hq] at h19
    exact absurd ((nI_eq (by omega) (by omega)).mp h19) (by omega)

set_option maxRecDepth 100000 in
set_option maxHeartbeats 4000000 in
theorem c_X4_go_0 (l : Launch) (D : va_G) (dA : Nat → ClassId) (base n : Nat) (ad : Fa) (I : Fi) (J : Fj) (R : Fr) (hT : ST n R) (p0 : Nat) (hp : p0 < 5) (hs : I 37 0 p0 = nI 0) : CT l D dA base yX4_go cX4_go 5 (some .int) 3 0 0 [.ref (ad 11 0), .int (nI p0)] ad (Nn n) I J R (po (some (.int 0)) ad (Nn n) I J R) := by
  refine CT.of 3 (L0 := [some (.ref (ad 11 0)), some (.int (nI p0)), none, none, none]) (by decide +kernel) rfl (Nat.le_of_ble_eq_true rfl) ?_
  intro p e s m args below meth c C
  refine x_aload_n C dX4_go_0 rfl ?_
  refine x_getF C hT f_X4_54 rfl rfl (by first | assumption | exact Nat.one_pos) dX4_go_1 ?_
  refine x_iload_n C dX4_go_4 rfl ?_
  refine x_ialdN C (p0) rfl rfl rfl (by first | assumption | exact Nat.one_pos) hp (by decide) dX4_go_5 ?_
  refine x_if_ne C 11 dX4_go_6 (by decide) (fun h6 => ?_) (fun h6 => ?_)
  · skip
    rw [hs] at h6
    exact absurd rfl h6
  · skip
    refine x_iconst C 0 (by decide) dX4_go_9 ?_
    exact x_iret C (po_i _ _ _ _ _ _) dX4_go_10

set_option maxRecDepth 100000 in
set_option maxHeartbeats 4000000 in
theorem c_X4_go_c (l : Launch) (D : va_G) (dA : Nat → ClassId) (base n : Nat) (ad : Fa) (I : Fi) (J : Fj) (R : Fr) (hT : ST n R) (p0 z : Nat) (zs : Nat → Nat) (hH : HI I zs) (hzs : zs p0 = z + 1) (hp : p0 < 5) (hz : z < 40) (hc : I 41 0 (40 * p0 + z) = 0) (x : Int32) (I1 : Fi) (J1 : Fj) (R1 : Fr) (hM : CT l D dA base yX4_check cX4_check 5 (some .int) 2 0 0 [.ref (ad 11 0), .int (nI p0), .int (nI (40 * p0 + z))] ad (Nn n) I J R (po (some (.int x)) ad (Nn n) I1 J1 R1)) : CT l D dA base yX4_go cX4_go 5 (some .int) 3 0 0 [.ref (ad 11 0), .int (nI p0)] ad (Nn n) I J R (po (some (.int x)) ad (Nn n) I1 J1 R1) := by
  refine CT.of 3 (L0 := [some (.ref (ad 11 0)), some (.int (nI p0)), none, none, none]) (by decide +kernel) rfl (Nat.le_of_ble_eq_true rfl) ?_
  intro p e s m args below meth c C
  have he : 40 * p0 + z < 200 := by omega
  have hs : I 37 0 p0 = nI (z + 1) := by rw [(hH p0 hp).1, hzs]
  refine x_aload_n C dX4_go_0 rfl ?_
  refine x_getF C hT f_X4_54 rfl rfl (by first | assumption | exact Nat.one_pos) dX4_go_1 ?_
  refine x_iload_n C dX4_go_4 rfl ?_
  refine x_ialdN C (p0) rfl rfl rfl (by first | assumption | exact Nat.one_pos) hp (by decide) dX4_go_5 ?_
  refine x_if_ne C 11 dX4_go_6 (by decide) (fun h6 => ?_) (fun h6 => ?_)
  · skip
    refine x_bipush C 40 (by decide) dX4_go_11 ?_
    refine x_iload_n C dX4_go_13 rfl ?_
    refine x_imul C dX4_go_14 ?_
    refine x_aload_n C dX4_go_15 rfl ?_
    refine x_getF C hT f_X4_54 rfl rfl (by first | assumption | exact Nat.one_pos) dX4_go_16 ?_
    refine x_iload_n C dX4_go_19 rfl ?_
    refine x_ialdN C (p0) rfl rfl rfl (by first | assumption | exact Nat.one_pos) hp (by decide) dX4_go_20 ?_
    refine x_iadd C dX4_go_21 ?_
    refine x_iconst C 1 (by decide) dX4_go_22 ?_
    refine x_isub C dX4_go_23 ?_
    rw [hs, ix40, show 40 * p0 + (z + 1) = (40 * p0 + z) + 1 from rfl, nI_pred]
    refine x_istore_n C dX4_go_24 (by decide) rfl rfl ?_
    refine x_aload_n C dX4_go_25 rfl ?_
    refine x_getF C hT f_X4_66 rfl rfl (by first | assumption | exact Nat.one_pos) dX4_go_26 ?_
    refine x_iload_n C dX4_go_29 rfl ?_
    refine x_zaldN C (40 * p0 + z) rfl rfl rfl (by first | assumption | exact Nat.one_pos) he (by decide) dX4_go_30 ?_
    refine x_if_ne C 41 dX4_go_31 (by decide) (fun h31 => ?_) (fun h31 => ?_)
    · skip
      exact absurd hc h31
    · skip
      refine x_aload_n C dX4_go_34 rfl ?_
      refine x_iload_n C dX4_go_35 rfl ?_
      refine x_iload_n C dX4_go_36 rfl ?_
      refine x_cV1 C yo_X4_check m_X4_143 rfl rfl (by first | assumption | exact Nat.one_pos) (hM) dX4_go_37 rfl rfl (Nat.le_of_ble_eq_true rfl) ⟨by decide, by decide⟩ ⟨by decide, by decide⟩ ?_
      exact x_iret C (po_i _ _ _ _ _ _) dX4_go_40
  · skip
    rw [hs] at h6
    exact absurd h6 (nI_ne0 (Nat.succ_pos z) (by omega))

set_option maxRecDepth 100000 in
set_option maxHeartbeats 4000000 in
theorem c_X4_go_f (l : Launch) (D : va_G) (dA : Nat → ClassId) (base n : Nat) (ad : Fa) (I : Fi) (J : Fj) (R : Fr) (hT : ST n R) (p0 z : Nat) (zs : Nat → Nat) (hH : HI I zs) (hzs : zs p0 = z + 1) (hp : p0 < 5) (hz : z < 40) (hc : ¬ I 41 0 (40 * p0 + z) = 0) (f r k a : Nat) (pls ys : Nat → Nat) (hk : k < 40) (hon : I 38 0 (40 * p0 + z) = nI k) (ht : TKX I (40 * p0 + z) k a pls ys) (hfar : I 39 0 (40 * p0 + z) = nI a) (ha8 : a ≤ 8) (hf : I 23 0 k = nI f) (hf6 : f < 6) (hr : I 24 0 k = nI r) (hr8 : r ≤ 8) (hx : cms (I 35 0 k) f a r (fun i => J 34 0 (ys i)) = -2) : CT l D dA base yX4_go cX4_go 5 (some .int) 3 0 0 [.ref (ad 11 0), .int (nI p0)] ad (Nn n) I J R (po (some (.int 2)) ad (Nn n) (meI I J p0 z k a 2 0) (up3 J 34 0 k 0) R) := by
  refine CT.of 3 (L0 := [some (.ref (ad 11 0)), some (.int (nI p0)), none, none, none]) (by decide +kernel) rfl (Nat.le_of_ble_eq_true rfl) ?_
  intro p e s m args below meth c C
  have he : 40 * p0 + z < 200 := by omega
  have hs : I 37 0 p0 = nI (z + 1) := by rw [(hH p0 hp).1, hzs]
  refine x_aload_n C dX4_go_0 rfl ?_
  refine x_getF C hT f_X4_54 rfl rfl (by first | assumption | exact Nat.one_pos) dX4_go_1 ?_
  refine x_iload_n C dX4_go_4 rfl ?_
  refine x_ialdN C (p0) rfl rfl rfl (by first | assumption | exact Nat.one_pos) hp (by decide) dX4_go_5 ?_
  refine x_if_ne C 11 dX4_go_6 (by decide) (fun h6 => ?_) (fun h6 => ?_)
  · skip
    refine x_bipush C 40 (by decide) dX4_go_11 ?_
    refine x_iload_n C dX4_go_13 rfl ?_
    refine x_imul C dX4_go_14 ?_
    refine x_aload_n C dX4_go_15 rfl ?_
    refine x_getF C hT f_X4_54 rfl rfl (by first | assumption | exact Nat.one_pos) dX4_go_16 ?_
    refine x_iload_n C dX4_go_19 rfl ?_
    refine x_ialdN C (p0) rfl rfl rfl (by first | assumption | exact Nat.one_pos) hp (by decide) dX4_go_20 ?_
    refine x_iadd C dX4_go_21 ?_
    refine x_iconst C 1 (by decide) dX4_go_22 ?_
    refine x_isub C dX4_go_23 ?_
    rw [hs, ix40, show 40 * p0 + (z + 1) = (40 * p0 + z) + 1 from rfl, nI_pred]
    refine x_istore_n C dX4_go_24 (by decide) rfl rfl ?_
    refine x_aload_n C dX4_go_25 rfl ?_
    refine x_getF C hT f_X4_66 rfl rfl (by first | assumption | exact Nat.one_pos) dX4_go_26 ?_
    refine x_iload_n C dX4_go_29 rfl ?_
    refine x_zaldN C (40 * p0 + z) rfl rfl rfl (by first | assumption | exact Nat.one_pos) he (by decide) dX4_go_30 ?_
    refine x_if_ne C 41 dX4_go_31 (by decide) (fun h31 => ?_) (fun h31 => ?_)
    · skip
      refine x_aload_n C dX4_go_41 rfl ?_
      refine x_iload_n C dX4_go_42 rfl ?_
      refine x_cV1 C yo_X4_comes m_X4_146 rfl rfl (by first | assumption | exact Nat.one_pos) (c_X4_comes l D dA base n ad I J R hT (40 * p0 + z) f r k a pls ys he hk hon ht hfar ha8 hf hf6 hr hr8) dX4_go_43 rfl rfl (Nat.le_of_ble_eq_true rfl) ⟨by decide, by decide⟩ ⟨by decide, by decide⟩ ?_
      rw [hx]
      refine x_istore_n C dX4_go_46 (by decide) rfl rfl ?_
      refine x_iload_n C dX4_go_47 rfl ?_
      refine x_bipush C (-2) (by decide) dX4_go_48 ?_
      refine x_icmp_ne C 61 dX4_go_50 (by decide) (fun h50 => ?_) (fun h50 => ?_)
      · skip
        exact absurd rfl h50
      · skip
        refine x_aload_n C dX4_go_53 rfl ?_
        refine x_iload_n C dX4_go_54 rfl ?_
        refine x_iconst C 2 (by decide) dX4_go_55 ?_
        refine x_lconst C 0 (by decide) dX4_go_56 ?_
        refine x_cV1 C yo_X4_end m_X4_149 rfl rfl (by first | assumption | exact Nat.one_pos) (c_X4_end_f l D dA base n ad I J R hT p0 z k a hp hz hs hk hon hfar ha8 2 (by decide) 0) dX4_go_57 rfl rfl (Nat.le_of_ble_eq_true rfl) ⟨by decide, by decide⟩ ⟨by decide, by decide⟩ ?_
        exact x_iret C (po_i _ _ _ _ _ _) dX4_go_60
    · skip
      exact absurd h31 hc
  · skip
    rw [hs] at h6
    exact absurd h6 (nI_ne0 (Nat.succ_pos z) (by omega))

set_option maxRecDepth 100000 in
set_option maxHeartbeats 4000000 in
theorem c_X4_go_v (l : Launch) (D : va_G) (dA : Nat → ClassId) (base n : Nat) (ad : Fa) (I : Fi) (J : Fj) (R : Fr) (hT : ST n R) (p0 z : Nat) (zs : Nat → Nat) (hH : HI I zs) (hzs : zs p0 = z + 1) (hp : p0 < 5) (hz : z < 40) (hc : ¬ I 41 0 (40 * p0 + z) = 0) (f r k a : Nat) (pls ys : Nat → Nat) (hk : k < 40) (hon : I 38 0 (40 * p0 + z) = nI k) (ht : TKX I (40 * p0 + z) k a pls ys) (hfar : I 39 0 (40 * p0 + z) = nI a) (ha8 : a ≤ 8) (hf : I 23 0 k = nI f) (hf6 : f < 6) (hr : I 24 0 k = nI r) (hr8 : r ≤ 8) (hx : cms (I 35 0 k) f a r (fun i => J 34 0 (ys i)) = -1) (h3 : f = 3 → ∀ i, 0 < i → i < a → ¬ J 34 0 (ys i) = 0) : CT l D dA base yX4_go cX4_go 5 (some .int) 3 0 0 [.ref (ad 11 0), .int (nI p0)] ad (Nn n) I J R (po (some (.int 2)) ad (Nn n) (meI I J p0 z k a 1 (ocm f a (fun i => J 34 0 (ys i)))) (up3 J 34 0 k (ocm f a (fun i => J 34 0 (ys i)))) R) := by
  refine CT.of 3 (L0 := [some (.ref (ad 11 0)), some (.int (nI p0)), none, none, none]) (by decide +kernel) rfl (Nat.le_of_ble_eq_true rfl) ?_
  intro p e s m args below meth c C
  have he : 40 * p0 + z < 200 := by omega
  have hs : I 37 0 p0 = nI (z + 1) := by rw [(hH p0 hp).1, hzs]
  refine x_aload_n C dX4_go_0 rfl ?_
  refine x_getF C hT f_X4_54 rfl rfl (by first | assumption | exact Nat.one_pos) dX4_go_1 ?_
  refine x_iload_n C dX4_go_4 rfl ?_
  refine x_ialdN C (p0) rfl rfl rfl (by first | assumption | exact Nat.one_pos) hp (by decide) dX4_go_5 ?_
  refine x_if_ne C 11 dX4_go_6 (by decide) (fun h6 => ?_) (fun h6 => ?_)
  · skip
    refine x_bipush C 40 (by decide) dX4_go_11 ?_
    refine x_iload_n C dX4_go_13 rfl ?_
    refine x_imul C dX4_go_14 ?_
    refine x_aload_n C dX4_go_15 rfl ?_
    refine x_getF C hT f_X4_54 rfl rfl (by first | assumption | exact Nat.one_pos) dX4_go_16 ?_
    refine x_iload_n C dX4_go_19 rfl ?_
    refine x_ialdN C (p0) rfl rfl rfl (by first | assumption | exact Nat.one_pos) hp (by decide) dX4_go_20 ?_
    refine x_iadd C dX4_go_21 ?_
    refine x_iconst C 1 (by decide) dX4_go_22 ?_
    refine x_isub C dX4_go_23 ?_
    rw [hs, ix40, show 40 * p0 + (z + 1) = (40 * p0 + z) + 1 from rfl, nI_pred]
    refine x_istore_n C dX4_go_24 (by decide) rfl rfl ?_
    refine x_aload_n C dX4_go_25 rfl ?_
    refine x_getF C hT f_X4_66 rfl rfl (by first | assumption | exact Nat.one_pos) dX4_go_26 ?_
    refine x_iload_n C dX4_go_29 rfl ?_
    refine x_zaldN C (40 * p0 + z) rfl rfl rfl (by first | assumption | exact Nat.one_pos) he (by decide) dX4_go_30 ?_
    refine x_if_ne C 41 dX4_go_31 (by decide) (fun h31 => ?_) (fun h31 => ?_)
    · skip
      refine x_aload_n C dX4_go_41 rfl ?_
      refine x_iload_n C dX4_go_42 rfl ?_
      refine x_cV1 C yo_X4_comes m_X4_146 rfl rfl (by first | assumption | exact Nat.one_pos) (c_X4_comes l D dA base n ad I J R hT (40 * p0 + z) f r k a pls ys he hk hon ht hfar ha8 hf hf6 hr hr8) dX4_go_43 rfl rfl (Nat.le_of_ble_eq_true rfl) ⟨by decide, by decide⟩ ⟨by decide, by decide⟩ ?_
      rw [hx]
      refine x_istore_n C dX4_go_46 (by decide) rfl rfl ?_
      refine x_iload_n C dX4_go_47 rfl ?_
      refine x_bipush C (-2) (by decide) dX4_go_48 ?_
      refine x_icmp_ne C 61 dX4_go_50 (by decide) (fun h50 => ?_) (fun h50 => ?_)
      · skip
        refine x_iload_n C dX4_go_61 rfl ?_
        refine x_iconst C (-1) (by decide) dX4_go_62 ?_
        refine x_icmp_ne C 78 dX4_go_63 (by decide) (fun h63 => ?_) (fun h63 => ?_)
        · skip
          exact absurd rfl h63
        · skip
          refine x_aload_n C dX4_go_66 rfl ?_
          refine x_iload_n C dX4_go_67 rfl ?_
          refine x_iconst C 1 (by decide) dX4_go_68 ?_
          refine x_aload_n C dX4_go_69 rfl ?_
          refine x_iload_n C dX4_go_70 rfl ?_
          refine x_cV1 C yo_X4_outcome m_X4_153 rfl rfl (by first | assumption | exact Nat.one_pos) (c_X4_outcome l D dA base n ad I J R hT (40 * p0 + z) f k a pls ys he hk hon ht hfar ha8 hf hf6 h3) dX4_go_71 rfl rfl (Nat.le_of_ble_eq_true rfl) ⟨by decide, by decide⟩ ⟨by decide, by decide⟩ ?_
          refine x_cV1 C yo_X4_end m_X4_149 rfl rfl (by first | assumption | exact Nat.one_pos) (c_X4_end_v l D dA base n ad I J R hT p0 z k a hp hz hs hk hon hfar ha8 _) dX4_go_74 rfl rfl (Nat.le_of_ble_eq_true rfl) ⟨by decide, by decide⟩ ⟨by decide, by decide⟩ ?_
          exact x_iret C (po_i _ _ _ _ _ _) dX4_go_77
      · skip
        exact absurd h50 (by decide)
    · skip
      exact absurd h31 hc
  · skip
    rw [hs] at h6
    exact absurd h6 (nI_ne0 (Nat.succ_pos z) (by omega))

set_option maxRecDepth 100000 in
set_option maxHeartbeats 4000000 in
theorem c_X4_go_wait (l : Launch) (D : va_G) (dA : Nat → ClassId) (base n : Nat) (ad : Fa) (I : Fi) (J : Fj) (R : Fr) (hT : ST n R) (p0 z : Nat) (zs : Nat → Nat) (hH : HI I zs) (hzs : zs p0 = z + 1) (hp : p0 < 5) (hz : z < 40) (hc : ¬ I 41 0 (40 * p0 + z) = 0) (f r k a : Nat) (pls ys : Nat → Nat) (hk : k < 40) (hon : I 38 0 (40 * p0 + z) = nI k) (ht : TKX I (40 * p0 + z) k a pls ys) (hfar : I 39 0 (40 * p0 + z) = nI a) (ha8 : a ≤ 8) (hf : I 23 0 k = nI f) (hf6 : f < 6) (hr : I 24 0 k = nI r) (hr8 : r ≤ 8) (pl j : Nat) (hx : cms (I 35 0 k) f a r (fun i => J 34 0 (ys i)) = nI pl) (hpl8 : pl < 8) (hj : I 25 0 (8 * k + pl) = nI j) (hj40 : j < 40) (hsu : msure I j = false) (hw : ¬ pofP I (nI j) zs 5 = -1) : CT l D dA base yX4_go cX4_go 5 (some .int) 3 0 0 [.ref (ad 11 0), .int (nI p0)] ad (Nn n) I J R (po (some (.int 3)) ad (Nn n) I J R) := by
  refine CT.of 3 (L0 := [some (.ref (ad 11 0)), some (.int (nI p0)), none, none, none]) (by decide +kernel) rfl (Nat.le_of_ble_eq_true rfl) ?_
  intro p e s m args below meth c C
  have he : 40 * p0 + z < 200 := by omega
  have hs : I 37 0 p0 = nI (z + 1) := by rw [(hH p0 hp).1, hzs]
  refine x_aload_n C dX4_go_0 rfl ?_
  refine x_getF C hT f_X4_54 rfl rfl (by first | assumption | exact Nat.one_pos) dX4_go_1 ?_
  refine x_iload_n C dX4_go_4 rfl ?_
  refine x_ialdN C (p0) rfl rfl rfl (by first | assumption | exact Nat.one_pos) hp (by decide) dX4_go_5 ?_
  refine x_if_ne C 11 dX4_go_6 (by decide) (fun h6 => ?_) (fun h6 => ?_)
  · skip
    refine x_bipush C 40 (by decide) dX4_go_11 ?_
    refine x_iload_n C dX4_go_13 rfl ?_
    refine x_imul C dX4_go_14 ?_
    refine x_aload_n C dX4_go_15 rfl ?_
    refine x_getF C hT f_X4_54 rfl rfl (by first | assumption | exact Nat.one_pos) dX4_go_16 ?_
    refine x_iload_n C dX4_go_19 rfl ?_
    refine x_ialdN C (p0) rfl rfl rfl (by first | assumption | exact Nat.one_pos) hp (by decide) dX4_go_20 ?_
    refine x_iadd C dX4_go_21 ?_
    refine x_iconst C 1 (by decide) dX4_go_22 ?_
    refine x_isub C dX4_go_23 ?_
    rw [hs, ix40, show 40 * p0 + (z + 1) = (40 * p0 + z) + 1 from rfl, nI_pred]
    refine x_istore_n C dX4_go_24 (by decide) rfl rfl ?_
    refine x_aload_n C dX4_go_25 rfl ?_
    refine x_getF C hT f_X4_66 rfl rfl (by first | assumption | exact Nat.one_pos) dX4_go_26 ?_
    refine x_iload_n C dX4_go_29 rfl ?_
    refine x_zaldN C (40 * p0 + z) rfl rfl rfl (by first | assumption | exact Nat.one_pos) he (by decide) dX4_go_30 ?_
    refine x_if_ne C 41 dX4_go_31 (by decide) (fun h31 => ?_) (fun h31 => ?_)
    · skip
      refine x_aload_n C dX4_go_41 rfl ?_
      refine x_iload_n C dX4_go_42 rfl ?_
      refine x_cV1 C yo_X4_comes m_X4_146 rfl rfl (by first | assumption | exact Nat.one_pos) (c_X4_comes l D dA base n ad I J R hT (40 * p0 + z) f r k a pls ys he hk hon ht hfar ha8 hf hf6 hr hr8) dX4_go_43 rfl rfl (Nat.le_of_ble_eq_true rfl) ⟨by decide, by decide⟩ ⟨by decide, by decide⟩ ?_
      rw [hx]
      refine x_istore_n C dX4_go_46 (by decide) rfl rfl ?_
      refine x_iload_n C dX4_go_47 rfl ?_
      refine x_bipush C (-2) (by decide) dX4_go_48 ?_
      refine x_icmp_ne C 61 dX4_go_50 (by decide) (fun h50 => ?_) (fun h50 => ?_)
      · skip
        refine x_iload_n C dX4_go_61 rfl ?_
        refine x_iconst C (-1) (by decide) dX4_go_62 ?_
        refine x_icmp_ne C 78 dX4_go_63 (by decide) (fun h63 => ?_) (fun h63 => ?_)
        · skip
          refine x_aload_n C dX4_go_78 rfl ?_
          refine x_aload_n C dX4_go_79 rfl ?_
          refine x_getF C hT f_X4_57 rfl rfl (by first | assumption | exact Nat.one_pos) dX4_go_80 ?_
          refine x_iload_n C dX4_go_83 rfl ?_
          refine x_ialdN C (40 * p0 + z) rfl rfl rfl (by first | assumption | exact Nat.one_pos) he (by decide) dX4_go_84 ?_
          rw [hon]
          refine x_iload_n C dX4_go_85 rfl ?_
          refine x_cV1 C yo_X4_rowKey m_X4_97 rfl rfl (by first | assumption | exact Nat.one_pos) (c_X4_rowKey l D dA base n ad I J R hT k pl hk hpl8) dX4_go_86 rfl rfl (Nat.le_of_ble_eq_true rfl) ⟨by decide, by decide⟩ ⟨by decide, by decide⟩ ?_
          rw [hj]
          refine x_istore C dX4_go_89 (by decide) rfl rfl ?_
          refine x_aload_n C dX4_go_91 rfl ?_
          refine x_iload C dX4_go_92 rfl ?_
          refine x_cV1 C yo_X4_isSure m_X4_123 rfl rfl (by first | assumption | exact Nat.one_pos) (c_X4_isSure l D dA base n ad I J R hT j hj40) dX4_go_94 rfl rfl (Nat.le_of_ble_eq_true rfl) ⟨by decide, by decide⟩ ⟨by decide, by decide⟩ ?_
          refine x_if_ne C 108 dX4_go_97 (by decide) (fun h97 => ?_) (fun h97 => ?_)
          · skip
            rw [hsu] at h97
            exact absurd rfl h97
          · skip
            refine x_aload_n C dX4_go_100 rfl ?_
            refine x_iload_n C dX4_go_101 rfl ?_
            refine x_iload C dX4_go_102 rfl ?_
            refine x_cV1 C yo_X4_await m_X4_140 rfl rfl (by first | assumption | exact Nat.one_pos) (c_X4_await_w l D dA base n ad I J R hT p0 j zs hH hw) dX4_go_104 rfl rfl (Nat.le_of_ble_eq_true rfl) ⟨by decide, by decide⟩ ⟨by decide, by decide⟩ ?_
            exact x_iret C (po_i _ _ _ _ _ _) dX4_go_107
        · skip
          exact absurd (show nI pl < 0 by rw [h63]; decide) (nI_pos (by omega))
      · skip
        exact absurd (show nI pl < 0 by rw [h50]; decide) (nI_pos (by omega))
    · skip
      exact absurd h31 hc
  · skip
    rw [hs] at h6
    exact absurd h6 (nI_ne0 (Nat.succ_pos z) (by omega))

set_option maxRecDepth 100000 in
set_option maxHeartbeats 4000000 in
theorem c_X4_go_put (l : Launch) (D : va_G) (dA : Nat → ClassId) (base n : Nat) (ad : Fa) (I : Fi) (J : Fj) (R : Fr) (hT : ST n R) (p0 z : Nat) (zs : Nat → Nat) (hH : HI I zs) (hzs : zs p0 = z + 1) (hp : p0 < 5) (hz : z < 40) (hc : ¬ I 41 0 (40 * p0 + z) = 0) (f r k a : Nat) (pls ys : Nat → Nat) (hk : k < 40) (hon : I 38 0 (40 * p0 + z) = nI k) (ht : TKX I (40 * p0 + z) k a pls ys) (hfar : I 39 0 (40 * p0 + z) = nI a) (ha8 : a ≤ 8) (hf : I 23 0 k = nI f) (hf6 : f < 6) (hr : I 24 0 k = nI r) (hr8 : r ≤ 8) (pl j : Nat) (hx : cms (I 35 0 k) f a r (fun i => J 34 0 (ys i)) = nI pl) (hpl8 : pl < 8) (hj : I 25 0 (8 * k + pl) = nI j) (hj40 : j < 40) (hsu : msure I j = false) (hw : pofP I (nI j) zs 5 = -1) (hz2 : zs p0 < 40) : CT l D dA base yX4_go cX4_go 5 (some .int) 3 0 0 [.ref (ad 11 0), .int (nI p0)] ad (Nn n) I J R (po (some (.int 1)) ad (Nn n) (lyI I p0 j (zs p0)) J R) := by
  refine CT.of 3 (L0 := [some (.ref (ad 11 0)), some (.int (nI p0)), none, none, none]) (by decide +kernel) rfl (Nat.le_of_ble_eq_true rfl) ?_
  intro p e s m args below meth c C
  have he : 40 * p0 + z < 200 := by omega
  have hs : I 37 0 p0 = nI (z + 1) := by rw [(hH p0 hp).1, hzs]
  refine x_aload_n C dX4_go_0 rfl ?_
  refine x_getF C hT f_X4_54 rfl rfl (by first | assumption | exact Nat.one_pos) dX4_go_1 ?_
  refine x_iload_n C dX4_go_4 rfl ?_
  refine x_ialdN C (p0) rfl rfl rfl (by first | assumption | exact Nat.one_pos) hp (by decide) dX4_go_5 ?_
  refine x_if_ne C 11 dX4_go_6 (by decide) (fun h6 => ?_) (fun h6 => ?_)
  · skip
    refine x_bipush C 40 (by decide) dX4_go_11 ?_
    refine x_iload_n C dX4_go_13 rfl ?_
    refine x_imul C dX4_go_14 ?_
    refine x_aload_n C dX4_go_15 rfl ?_
    refine x_getF C hT f_X4_54 rfl rfl (by first | assumption | exact Nat.one_pos) dX4_go_16 ?_
    refine x_iload_n C dX4_go_19 rfl ?_
    refine x_ialdN C (p0) rfl rfl rfl (by first | assumption | exact Nat.one_pos) hp (by decide) dX4_go_20 ?_
    refine x_iadd C dX4_go_21 ?_
    refine x_iconst C 1 (by decide) dX4_go_22 ?_
    refine x_isub C dX4_go_23 ?_
    rw [hs, ix40, show 40 * p0 + (z + 1) = (40 * p0 + z) + 1 from rfl, nI_pred]
    refine x_istore_n C dX4_go_24 (by decide) rfl rfl ?_
    refine x_aload_n C dX4_go_25 rfl ?_
    refine x_getF C hT f_X4_66 rfl rfl (by first | assumption | exact Nat.one_pos) dX4_go_26 ?_
    refine x_iload_n C dX4_go_29 rfl ?_
    refine x_zaldN C (40 * p0 + z) rfl rfl rfl (by first | assumption | exact Nat.one_pos) he (by decide) dX4_go_30 ?_
    refine x_if_ne C 41 dX4_go_31 (by decide) (fun h31 => ?_) (fun h31 => ?_)
    · skip
      refine x_aload_n C dX4_go_41 rfl ?_
      refine x_iload_n C dX4_go_42 rfl ?_
      refine x_cV1 C yo_X4_comes m_X4_146 rfl rfl (by first | assumption | exact Nat.one_pos) (c_X4_comes l D dA base n ad I J R hT (40 * p0 + z) f r k a pls ys he hk hon ht hfar ha8 hf hf6 hr hr8) dX4_go_43 rfl rfl (Nat.le_of_ble_eq_true rfl) ⟨by decide, by decide⟩ ⟨by decide, by decide⟩ ?_
      rw [hx]
      refine x_istore_n C dX4_go_46 (by decide) rfl rfl ?_
      refine x_iload_n C dX4_go_47 rfl ?_
      refine x_bipush C (-2) (by decide) dX4_go_48 ?_
      refine x_icmp_ne C 61 dX4_go_50 (by decide) (fun h50 => ?_) (fun h50 => ?_)
      · skip
        refine x_iload_n C dX4_go_61 rfl ?_
        refine x_iconst C (-1) (by decide) dX4_go_62 ?_
        refine x_icmp_ne C 78 dX4_go_63 (by decide) (fun h63 => ?_) (fun h63 => ?_)
        · skip
          refine x_aload_n C dX4_go_78 rfl ?_
          refine x_aload_n C dX4_go_79 rfl ?_
          refine x_getF C hT f_X4_57 rfl rfl (by first | assumption | exact Nat.one_pos) dX4_go_80 ?_
          refine x_iload_n C dX4_go_83 rfl ?_
          refine x_ialdN C (40 * p0 + z) rfl rfl rfl (by first | assumption | exact Nat.one_pos) he (by decide) dX4_go_84 ?_
          rw [hon]
          refine x_iload_n C dX4_go_85 rfl ?_
          refine x_cV1 C yo_X4_rowKey m_X4_97 rfl rfl (by first | assumption | exact Nat.one_pos) (c_X4_rowKey l D dA base n ad I J R hT k pl hk hpl8) dX4_go_86 rfl rfl (Nat.le_of_ble_eq_true rfl) ⟨by decide, by decide⟩ ⟨by decide, by decide⟩ ?_
          rw [hj]
          refine x_istore C dX4_go_89 (by decide) rfl rfl ?_
          refine x_aload_n C dX4_go_91 rfl ?_
          refine x_iload C dX4_go_92 rfl ?_
          refine x_cV1 C yo_X4_isSure m_X4_123 rfl rfl (by first | assumption | exact Nat.one_pos) (c_X4_isSure l D dA base n ad I J R hT j hj40) dX4_go_94 rfl rfl (Nat.le_of_ble_eq_true rfl) ⟨by decide, by decide⟩ ⟨by decide, by decide⟩ ?_
          refine x_if_ne C 108 dX4_go_97 (by decide) (fun h97 => ?_) (fun h97 => ?_)
          · skip
            rw [hsu] at h97
            exact absurd rfl h97
          · skip
            refine x_aload_n C dX4_go_100 rfl ?_
            refine x_iload_n C dX4_go_101 rfl ?_
            refine x_iload C dX4_go_102 rfl ?_
            refine x_cV1 C yo_X4_await m_X4_140 rfl rfl (by first | assumption | exact Nat.one_pos) (c_X4_await_p l D dA base n ad I J R hT p0 j zs hH hw hp hj40 hz2) dX4_go_104 rfl rfl (Nat.le_of_ble_eq_true rfl) ⟨by decide, by decide⟩ ⟨by decide, by decide⟩ ?_
            exact x_iret C (po_i _ _ _ _ _ _) dX4_go_107
        · skip
          exact absurd (show nI pl < 0 by rw [h63]; decide) (nI_pos (by omega))
      · skip
        exact absurd (show nI pl < 0 by rw [h50]; decide) (nI_pos (by omega))
    · skip
      exact absurd h31 hc
  · skip
    rw [hs] at h6
    exact absurd h6 (nI_ne0 (Nat.succ_pos z) (by omega))

set_option maxRecDepth 100000 in
set_option maxHeartbeats 4000000 in
theorem c_X4_go_take (l : Launch) (D : va_G) (dA : Nat → ClassId) (base n : Nat) (ad : Fa) (I : Fi) (J : Fj) (R : Fr) (hT : ST n R) (p0 z : Nat) (zs : Nat → Nat) (hH : HI I zs) (hzs : zs p0 = z + 1) (hp : p0 < 5) (hz : z < 40) (hc : ¬ I 41 0 (40 * p0 + z) = 0) (f r k a : Nat) (pls ys : Nat → Nat) (hk : k < 40) (hon : I 38 0 (40 * p0 + z) = nI k) (ht : TKX I (40 * p0 + z) k a pls ys) (hfar : I 39 0 (40 * p0 + z) = nI a) (ha8 : a ≤ 8) (hf : I 23 0 k = nI f) (hf6 : f < 6) (hr : I 24 0 k = nI r) (hr8 : r ≤ 8) (pl j : Nat) (hx : cms (I 35 0 k) f a r (fun i => J 34 0 (ys i)) = nI pl) (hpl8 : pl < 8) (hj : I 25 0 (8 * k + pl) = nI j) (hj40 : j < 40) (ha7 : a < 8) (hsu : msure I j = true) (hh : I 26 0 j = 1) : CT l D dA base yX4_go cX4_go 5 (some .int) 3 0 0 [.ref (ad 11 0), .int (nI p0)] ad (Nn n) I J R (po (some (.int 6)) ad (Nn n) (up3 (up3 I 40 0 (8 * (40 * p0 + z) + a) (nI pl)) 39 0 (40 * p0 + z) (nI (a + 1))) J R) := by
  refine CT.of 3 (L0 := [some (.ref (ad 11 0)), some (.int (nI p0)), none, none, none]) (by decide +kernel) rfl (Nat.le_of_ble_eq_true rfl) ?_
  intro p e s m args below meth c C
  have he : 40 * p0 + z < 200 := by omega
  have hs : I 37 0 p0 = nI (z + 1) := by rw [(hH p0 hp).1, hzs]
  refine x_aload_n C dX4_go_0 rfl ?_
  refine x_getF C hT f_X4_54 rfl rfl (by first | assumption | exact Nat.one_pos) dX4_go_1 ?_
  refine x_iload_n C dX4_go_4 rfl ?_
  refine x_ialdN C (p0) rfl rfl rfl (by first | assumption | exact Nat.one_pos) hp (by decide) dX4_go_5 ?_
  refine x_if_ne C 11 dX4_go_6 (by decide) (fun h6 => ?_) (fun h6 => ?_)
  · skip
    refine x_bipush C 40 (by decide) dX4_go_11 ?_
    refine x_iload_n C dX4_go_13 rfl ?_
    refine x_imul C dX4_go_14 ?_
    refine x_aload_n C dX4_go_15 rfl ?_
    refine x_getF C hT f_X4_54 rfl rfl (by first | assumption | exact Nat.one_pos) dX4_go_16 ?_
    refine x_iload_n C dX4_go_19 rfl ?_
    refine x_ialdN C (p0) rfl rfl rfl (by first | assumption | exact Nat.one_pos) hp (by decide) dX4_go_20 ?_
    refine x_iadd C dX4_go_21 ?_
    refine x_iconst C 1 (by decide) dX4_go_22 ?_
    refine x_isub C dX4_go_23 ?_
    rw [hs, ix40, show 40 * p0 + (z + 1) = (40 * p0 + z) + 1 from rfl, nI_pred]
    refine x_istore_n C dX4_go_24 (by decide) rfl rfl ?_
    refine x_aload_n C dX4_go_25 rfl ?_
    refine x_getF C hT f_X4_66 rfl rfl (by first | assumption | exact Nat.one_pos) dX4_go_26 ?_
    refine x_iload_n C dX4_go_29 rfl ?_
    refine x_zaldN C (40 * p0 + z) rfl rfl rfl (by first | assumption | exact Nat.one_pos) he (by decide) dX4_go_30 ?_
    refine x_if_ne C 41 dX4_go_31 (by decide) (fun h31 => ?_) (fun h31 => ?_)
    · skip
      refine x_aload_n C dX4_go_41 rfl ?_
      refine x_iload_n C dX4_go_42 rfl ?_
      refine x_cV1 C yo_X4_comes m_X4_146 rfl rfl (by first | assumption | exact Nat.one_pos) (c_X4_comes l D dA base n ad I J R hT (40 * p0 + z) f r k a pls ys he hk hon ht hfar ha8 hf hf6 hr hr8) dX4_go_43 rfl rfl (Nat.le_of_ble_eq_true rfl) ⟨by decide, by decide⟩ ⟨by decide, by decide⟩ ?_
      rw [hx]
      refine x_istore_n C dX4_go_46 (by decide) rfl rfl ?_
      refine x_iload_n C dX4_go_47 rfl ?_
      refine x_bipush C (-2) (by decide) dX4_go_48 ?_
      refine x_icmp_ne C 61 dX4_go_50 (by decide) (fun h50 => ?_) (fun h50 => ?_)
      · skip
        refine x_iload_n C dX4_go_61 rfl ?_
        refine x_iconst C (-1) (by decide) dX4_go_62 ?_
        refine x_icmp_ne C 78 dX4_go_63 (by decide) (fun h63 => ?_) (fun h63 => ?_)
        · skip
          refine x_aload_n C dX4_go_78 rfl ?_
          refine x_aload_n C dX4_go_79 rfl ?_
          refine x_getF C hT f_X4_57 rfl rfl (by first | assumption | exact Nat.one_pos) dX4_go_80 ?_
          refine x_iload_n C dX4_go_83 rfl ?_
          refine x_ialdN C (40 * p0 + z) rfl rfl rfl (by first | assumption | exact Nat.one_pos) he (by decide) dX4_go_84 ?_
          rw [hon]
          refine x_iload_n C dX4_go_85 rfl ?_
          refine x_cV1 C yo_X4_rowKey m_X4_97 rfl rfl (by first | assumption | exact Nat.one_pos) (c_X4_rowKey l D dA base n ad I J R hT k pl hk hpl8) dX4_go_86 rfl rfl (Nat.le_of_ble_eq_true rfl) ⟨by decide, by decide⟩ ⟨by decide, by decide⟩ ?_
          rw [hj]
          refine x_istore C dX4_go_89 (by decide) rfl rfl ?_
          refine x_aload_n C dX4_go_91 rfl ?_
          refine x_iload C dX4_go_92 rfl ?_
          refine x_cV1 C yo_X4_isSure m_X4_123 rfl rfl (by first | assumption | exact Nat.one_pos) (c_X4_isSure l D dA base n ad I J R hT j hj40) dX4_go_94 rfl rfl (Nat.le_of_ble_eq_true rfl) ⟨by decide, by decide⟩ ⟨by decide, by decide⟩ ?_
          refine x_if_ne C 108 dX4_go_97 (by decide) (fun h97 => ?_) (fun h97 => ?_)
          · skip
            refine x_aload_n C dX4_go_108 rfl ?_
            refine x_getF C hT f_X4_63 rfl rfl (by first | assumption | exact Nat.one_pos) dX4_go_109 ?_
            refine x_bipush C 8 (by decide) dX4_go_112 ?_
            refine x_iload_n C dX4_go_114 rfl ?_
            refine x_imul C dX4_go_115 ?_
            refine x_aload_n C dX4_go_116 rfl ?_
            refine x_getF C hT f_X4_60 rfl rfl (by first | assumption | exact Nat.one_pos) dX4_go_117 ?_
            refine x_iload_n C dX4_go_120 rfl ?_
            refine x_ialdN C (40 * p0 + z) rfl rfl rfl (by first | assumption | exact Nat.one_pos) he (by decide) dX4_go_121 ?_
            rw [hfar]
            refine x_iadd C dX4_go_122 ?_
            refine x_iload_n C dX4_go_123 rfl ?_
            refine x_iastN C (8 * (40 * p0 + z) + a) (ix8 (40 * p0 + z) a) rfl rfl (by first | assumption | exact Nat.one_pos) (by omega) (by decide) dX4_go_124 ?_
            refine x_aload_n C dX4_go_125 rfl ?_
            refine x_getF C hT f_X4_60 rfl rfl (by first | assumption | exact Nat.one_pos) dX4_go_126 ?_
            refine x_iload_n C dX4_go_129 rfl ?_
            refine x_dup2 C rfl rfl dX4_go_130 ?_
            refine x_ialdN C (40 * p0 + z) rfl rfl rfl (by first | assumption | exact Nat.one_pos) he (by decide) dX4_go_131 ?_
            rw [up3_c _ _ _ _ _ (by decide), hfar]
            refine x_iconst C 1 (by decide) dX4_go_132 ?_
            refine x_iadd C dX4_go_133 ?_
            rw [nI_1]
            refine x_iastN C (40 * p0 + z) rfl rfl rfl (by first | assumption | exact Nat.one_pos) he (by decide) dX4_go_134 ?_
            refine x_aload_n C dX4_go_135 rfl ?_
            refine x_getF C hT f_X4_19 rfl rfl (by first | assumption | exact Nat.one_pos) dX4_go_136 ?_
            refine x_iload C dX4_go_139 rfl ?_
            refine x_ialdN C (j) rfl rfl rfl (by first | assumption | exact Nat.one_pos) hj40 (by decide) dX4_go_141 ?_
            rw [show (up3 (up3 I 40 0 (8 * (40 * p0 + z) + a) (nI pl)) 39 0 (40 * p0 + z) (nI (a + 1))) 26 0 j = I 26 0 j by simp [up3]]
            refine x_iconst C 1 (by decide) dX4_go_142 ?_
            refine x_icmp_ne C 151 dX4_go_143 (by decide) (fun h143 => ?_) (fun h143 => ?_)
            · skip
              exact absurd hh h143
            · skip
              refine x_bipush C 6 (by decide) dX4_go_146 ?_
              refine x_goto C 158 dX4_go_148 (by decide) ?_
              exact x_iret C (po_i _ _ _ _ _ _) dX4_go_158
          · skip
            rw [hsu] at h97
            exact absurd h97 (by decide)
        · skip
          exact absurd (show nI pl < 0 by rw [h63]; decide) (nI_pos (by omega))
      · skip
        exact absurd (show nI pl < 0 by rw [h50]; decide) (nI_pos (by omega))
    · skip
      exact absurd h31 hc
  · skip
    rw [hs] at h6
    exact absurd h6 (nI_ne0 (Nat.succ_pos z) (by omega))

set_option maxRecDepth 100000 in
set_option maxHeartbeats 4000000 in
theorem c_X4_go_by (l : Launch) (D : va_G) (dA : Nat → ClassId) (base n : Nat) (ad : Fa) (I : Fi) (J : Fj) (R : Fr) (hT : ST n R) (p0 z : Nat) (zs : Nat → Nat) (hH : HI I zs) (hzs : zs p0 = z + 1) (hp : p0 < 5) (hz : z < 40) (hc : ¬ I 41 0 (40 * p0 + z) = 0) (f r k a : Nat) (pls ys : Nat → Nat) (hk : k < 40) (hon : I 38 0 (40 * p0 + z) = nI k) (ht : TKX I (40 * p0 + z) k a pls ys) (hfar : I 39 0 (40 * p0 + z) = nI a) (ha8 : a ≤ 8) (hf : I 23 0 k = nI f) (hf6 : f < 6) (hr : I 24 0 k = nI r) (hr8 : r ≤ 8) (pl j : Nat) (hx : cms (I 35 0 k) f a r (fun i => J 34 0 (ys i)) = nI pl) (hpl8 : pl < 8) (hj : I 25 0 (8 * k + pl) = nI j) (hj40 : j < 40) (ha7 : a < 8) (hsu : msure I j = true) (hh : ¬ I 26 0 j = 1) : CT l D dA base yX4_go cX4_go 5 (some .int) 3 0 0 [.ref (ad 11 0), .int (nI p0)] ad (Nn n) I J R (po (some (.int 2)) ad (Nn n) (meI (up3 (up3 I 40 0 (8 * (40 * p0 + z) + a) (nI pl)) 39 0 (40 * p0 + z) (nI (a + 1))) J p0 z k (a + 1) 3 0) (up3 J 34 0 k 0) R) := by
  refine CT.of 3 (L0 := [some (.ref (ad 11 0)), some (.int (nI p0)), none, none, none]) (by decide +kernel) rfl (Nat.le_of_ble_eq_true rfl) ?_
  intro p e s m args below meth c C
  have he : 40 * p0 + z < 200 := by omega
  have hs : I 37 0 p0 = nI (z + 1) := by rw [(hH p0 hp).1, hzs]
  refine x_aload_n C dX4_go_0 rfl ?_
  refine x_getF C hT f_X4_54 rfl rfl (by first | assumption | exact Nat.one_pos) dX4_go_1 ?_
  refine x_iload_n C dX4_go_4 rfl ?_
  refine x_ialdN C (p0) rfl rfl rfl (by first | assumption | exact Nat.one_pos) hp (by decide) dX4_go_5 ?_
  refine x_if_ne C 11 dX4_go_6 (by decide) (fun h6 => ?_) (fun h6 => ?_)
  · skip
    refine x_bipush C 40 (by decide) dX4_go_11 ?_
    refine x_iload_n C dX4_go_13 rfl ?_
    refine x_imul C dX4_go_14 ?_
    refine x_aload_n C dX4_go_15 rfl ?_
    refine x_getF C hT f_X4_54 rfl rfl (by first | assumption | exact Nat.one_pos) dX4_go_16 ?_
    refine x_iload_n C dX4_go_19 rfl ?_
    refine x_ialdN C (p0) rfl rfl rfl (by first | assumption | exact Nat.one_pos) hp (by decide) dX4_go_20 ?_
    refine x_iadd C dX4_go_21 ?_
    refine x_iconst C 1 (by decide) dX4_go_22 ?_
    refine x_isub C dX4_go_23 ?_
    rw [hs, ix40, show 40 * p0 + (z + 1) = (40 * p0 + z) + 1 from rfl, nI_pred]
    refine x_istore_n C dX4_go_24 (by decide) rfl rfl ?_
    refine x_aload_n C dX4_go_25 rfl ?_
    refine x_getF C hT f_X4_66 rfl rfl (by first | assumption | exact Nat.one_pos) dX4_go_26 ?_
    refine x_iload_n C dX4_go_29 rfl ?_
    refine x_zaldN C (40 * p0 + z) rfl rfl rfl (by first | assumption | exact Nat.one_pos) he (by decide) dX4_go_30 ?_
    refine x_if_ne C 41 dX4_go_31 (by decide) (fun h31 => ?_) (fun h31 => ?_)
    · skip
      refine x_aload_n C dX4_go_41 rfl ?_
      refine x_iload_n C dX4_go_42 rfl ?_
      refine x_cV1 C yo_X4_comes m_X4_146 rfl rfl (by first | assumption | exact Nat.one_pos) (c_X4_comes l D dA base n ad I J R hT (40 * p0 + z) f r k a pls ys he hk hon ht hfar ha8 hf hf6 hr hr8) dX4_go_43 rfl rfl (Nat.le_of_ble_eq_true rfl) ⟨by decide, by decide⟩ ⟨by decide, by decide⟩ ?_
      rw [hx]
      refine x_istore_n C dX4_go_46 (by decide) rfl rfl ?_
      refine x_iload_n C dX4_go_47 rfl ?_
      refine x_bipush C (-2) (by decide) dX4_go_48 ?_
      refine x_icmp_ne C 61 dX4_go_50 (by decide) (fun h50 => ?_) (fun h50 => ?_)
      · skip
        refine x_iload_n C dX4_go_61 rfl ?_
        refine x_iconst C (-1) (by decide) dX4_go_62 ?_
        refine x_icmp_ne C 78 dX4_go_63 (by decide) (fun h63 => ?_) (fun h63 => ?_)
        · skip
          refine x_aload_n C dX4_go_78 rfl ?_
          refine x_aload_n C dX4_go_79 rfl ?_
          refine x_getF C hT f_X4_57 rfl rfl (by first | assumption | exact Nat.one_pos) dX4_go_80 ?_
          refine x_iload_n C dX4_go_83 rfl ?_
          refine x_ialdN C (40 * p0 + z) rfl rfl rfl (by first | assumption | exact Nat.one_pos) he (by decide) dX4_go_84 ?_
          rw [hon]
          refine x_iload_n C dX4_go_85 rfl ?_
          refine x_cV1 C yo_X4_rowKey m_X4_97 rfl rfl (by first | assumption | exact Nat.one_pos) (c_X4_rowKey l D dA base n ad I J R hT k pl hk hpl8) dX4_go_86 rfl rfl (Nat.le_of_ble_eq_true rfl) ⟨by decide, by decide⟩ ⟨by decide, by decide⟩ ?_
          rw [hj]
          refine x_istore C dX4_go_89 (by decide) rfl rfl ?_
          refine x_aload_n C dX4_go_91 rfl ?_
          refine x_iload C dX4_go_92 rfl ?_
          refine x_cV1 C yo_X4_isSure m_X4_123 rfl rfl (by first | assumption | exact Nat.one_pos) (c_X4_isSure l D dA base n ad I J R hT j hj40) dX4_go_94 rfl rfl (Nat.le_of_ble_eq_true rfl) ⟨by decide, by decide⟩ ⟨by decide, by decide⟩ ?_
          refine x_if_ne C 108 dX4_go_97 (by decide) (fun h97 => ?_) (fun h97 => ?_)
          · skip
            refine x_aload_n C dX4_go_108 rfl ?_
            refine x_getF C hT f_X4_63 rfl rfl (by first | assumption | exact Nat.one_pos) dX4_go_109 ?_
            refine x_bipush C 8 (by decide) dX4_go_112 ?_
            refine x_iload_n C dX4_go_114 rfl ?_
            refine x_imul C dX4_go_115 ?_
            refine x_aload_n C dX4_go_116 rfl ?_
            refine x_getF C hT f_X4_60 rfl rfl (by first | assumption | exact Nat.one_pos) dX4_go_117 ?_
            refine x_iload_n C dX4_go_120 rfl ?_
            refine x_ialdN C (40 * p0 + z) rfl rfl rfl (by first | assumption | exact Nat.one_pos) he (by decide) dX4_go_121 ?_
            rw [hfar]
            refine x_iadd C dX4_go_122 ?_
            refine x_iload_n C dX4_go_123 rfl ?_
            refine x_iastN C (8 * (40 * p0 + z) + a) (ix8 (40 * p0 + z) a) rfl rfl (by first | assumption | exact Nat.one_pos) (by omega) (by decide) dX4_go_124 ?_
            refine x_aload_n C dX4_go_125 rfl ?_
            refine x_getF C hT f_X4_60 rfl rfl (by first | assumption | exact Nat.one_pos) dX4_go_126 ?_
            refine x_iload_n C dX4_go_129 rfl ?_
            refine x_dup2 C rfl rfl dX4_go_130 ?_
            refine x_ialdN C (40 * p0 + z) rfl rfl rfl (by first | assumption | exact Nat.one_pos) he (by decide) dX4_go_131 ?_
            rw [up3_c _ _ _ _ _ (by decide), hfar]
            refine x_iconst C 1 (by decide) dX4_go_132 ?_
            refine x_iadd C dX4_go_133 ?_
            rw [nI_1]
            refine x_iastN C (40 * p0 + z) rfl rfl rfl (by first | assumption | exact Nat.one_pos) he (by decide) dX4_go_134 ?_
            refine x_aload_n C dX4_go_135 rfl ?_
            refine x_getF C hT f_X4_19 rfl rfl (by first | assumption | exact Nat.one_pos) dX4_go_136 ?_
            refine x_iload C dX4_go_139 rfl ?_
            refine x_ialdN C (j) rfl rfl rfl (by first | assumption | exact Nat.one_pos) hj40 (by decide) dX4_go_141 ?_
            rw [show (up3 (up3 I 40 0 (8 * (40 * p0 + z) + a) (nI pl)) 39 0 (40 * p0 + z) (nI (a + 1))) 26 0 j = I 26 0 j by simp [up3]]
            refine x_iconst C 1 (by decide) dX4_go_142 ?_
            refine x_icmp_ne C 151 dX4_go_143 (by decide) (fun h143 => ?_) (fun h143 => ?_)
            · skip
              refine x_aload_n C dX4_go_151 rfl ?_
              refine x_iload_n C dX4_go_152 rfl ?_
              refine x_iconst C 3 (by decide) dX4_go_153 ?_
              refine x_lconst C 0 (by decide) dX4_go_154 ?_
              refine x_cV1 C yo_X4_end m_X4_149 rfl rfl (by first | assumption | exact Nat.one_pos) (c_X4_end_f l D dA base n ad (up3 (up3 I 40 0 (8 * (40 * p0 + z) + a) (nI pl)) 39 0 (40 * p0 + z) (nI (a + 1))) J R hT p0 z k (a + 1) hp hz (by simp [up3, hs]) hk (by simp [up3, hon]) (by rw [up3_s]) (by omega) 3 (by decide) 0) dX4_go_155 rfl rfl (Nat.le_of_ble_eq_true rfl) ⟨by decide, by decide⟩ ⟨by decide, by decide⟩ ?_
              exact x_iret C (po_i _ _ _ _ _ _) dX4_go_158
            · skip
              exact absurd h143 hh
          · skip
            rw [hsu] at h97
            exact absurd h97 (by decide)
        · skip
          exact absurd (show nI pl < 0 by rw [h63]; decide) (nI_pos (by omega))
      · skip
        exact absurd (show nI pl < 0 by rw [h50]; decide) (nI_pos (by omega))
    · skip
      exact absurd h31 hc
  · skip
    rw [hs] at h6
    exact absurd h6 (nI_ne0 (Nat.succ_pos z) (by omega))
end
