section
-- ===== PART A: goes FIRST, ahead of the names: the tables' words, and 'selects' of the private methods out of them =====
/-- a private method of a class that the tables say can be made, by its rows of tables_1 -/
def lw_okq (q : MethodName × Nat) : Prop := (q.1.cls ≠ "java/lang/invoke/MethodHandle" ∧ q.1.cls ≠ "java/lang/invoke/VarHandle") ∧ Cond.instantiable q.1.cls q.2 ∈ tables_1 ∧ Cond.privateMethod q.1 ∈ tables_1 ∧ Cond.instanceMethod q.1 ∈ tables_1
theorem lw_p0 : lw_okq (⟨"BatchLinks", "isFull", "()Z"⟩, 10) := ⟨⟨by decide +kernel, by decide +kernel⟩, List.mem_of_getElem? (i := 12) (by decide +kernel), List.mem_of_getElem? (i := 156) (by decide +kernel), List.mem_of_getElem? (i := 157) (by decide +kernel)⟩
theorem lw_p1 : lw_okq (⟨"BatchLinks", "keep", "(LBatchLinks$Thing;)I"⟩, 10) := ⟨⟨by decide +kernel, by decide +kernel⟩, List.mem_of_getElem? (i := 12) (by decide +kernel), List.mem_of_getElem? (i := 217) (by decide +kernel), List.mem_of_getElem? (i := 218) (by decide +kernel)⟩
theorem lw_p2 : lw_okq (⟨"BatchLinks", "find", "(I)LBatchLinks$Thing;"⟩, 10) := ⟨⟨by decide +kernel, by decide +kernel⟩, List.mem_of_getElem? (i := 12) (by decide +kernel), List.mem_of_getElem? (i := 229) (by decide +kernel), List.mem_of_getElem? (i := 230) (by decide +kernel)⟩
theorem lw_p3 : lw_okq (⟨"BatchLinks$Layers", "dropLayers", "(I)V"⟩, 3) := ⟨⟨by decide +kernel, by decide +kernel⟩, List.mem_of_getElem? (i := 165) (by decide +kernel), List.mem_of_getElem? (i := 269) (by decide +kernel), List.mem_of_getElem? (i := 270) (by decide +kernel)⟩
theorem lw_p4 : lw_okq (⟨"BatchLinks", "findHaul", "(I)LBatchLinks$Thing;"⟩, 10) := ⟨⟨by decide +kernel, by decide +kernel⟩, List.mem_of_getElem? (i := 12) (by decide +kernel), List.mem_of_getElem? (i := 293) (by decide +kernel), List.mem_of_getElem? (i := 294) (by decide +kernel)⟩
theorem lw_p5 : lw_okq (⟨"BatchLinks", "countBoxesWith", "(I)V"⟩, 10) := ⟨⟨by decide +kernel, by decide +kernel⟩, List.mem_of_getElem? (i := 12) (by decide +kernel), List.mem_of_getElem? (i := 358) (by decide +kernel), List.mem_of_getElem? (i := 359) (by decide +kernel)⟩
theorem lw_p6 : lw_okq (⟨"BatchLinks$NamesReader", "skipBlanks", "()V"⟩, 3) := ⟨⟨by decide +kernel, by decide +kernel⟩, List.mem_of_getElem? (i := 49) (by decide +kernel), List.mem_of_getElem? (i := 394) (by decide +kernel), List.mem_of_getElem? (i := 395) (by decide +kernel)⟩
theorem lw_p7 : lw_okq (⟨"BatchLinks$NamesReader", "isBlank", "()Z"⟩, 3) := ⟨⟨by decide +kernel, by decide +kernel⟩, List.mem_of_getElem? (i := 49) (by decide +kernel), List.mem_of_getElem? (i := 398) (by decide +kernel), List.mem_of_getElem? (i := 399) (by decide +kernel)⟩
theorem lw_p8 : lw_okq (⟨"BatchLinks$NamesReader", "readRule", "(LBatchLinks$Rules;)V"⟩, 3) := ⟨⟨by decide +kernel, by decide +kernel⟩, List.mem_of_getElem? (i := 49) (by decide +kernel), List.mem_of_getElem? (i := 410) (by decide +kernel), List.mem_of_getElem? (i := 411) (by decide +kernel)⟩
theorem lw_p9 : lw_okq (⟨"BatchLinks$NamesReader", "readNumber", "(II)I"⟩, 3) := ⟨⟨by decide +kernel, by decide +kernel⟩, List.mem_of_getElem? (i := 49) (by decide +kernel), List.mem_of_getElem? (i := 418) (by decide +kernel), List.mem_of_getElem? (i := 419) (by decide +kernel)⟩
theorem lw_p10 : lw_okq (⟨"BatchLinks$NamesReader", "isDigit", "()Z"⟩, 3) := ⟨⟨by decide +kernel, by decide +kernel⟩, List.mem_of_getElem? (i := 49) (by decide +kernel), List.mem_of_getElem? (i := 422) (by decide +kernel), List.mem_of_getElem? (i := 423) (by decide +kernel)⟩
theorem lw_p11 : lw_okq (⟨"BatchLinks$NamesReader", "fail", "(I)V"⟩, 3) := ⟨⟨by decide +kernel, by decide +kernel⟩, List.mem_of_getElem? (i := 49) (by decide +kernel), List.mem_of_getElem? (i := 426) (by decide +kernel), List.mem_of_getElem? (i := 427) (by decide +kernel)⟩
theorem lw_p12 : lw_okq (⟨"BatchLinks$NamesReader", "readSign", "(C)V"⟩, 3) := ⟨⟨by decide +kernel, by decide +kernel⟩, List.mem_of_getElem? (i := 49) (by decide +kernel), List.mem_of_getElem? (i := 430) (by decide +kernel), List.mem_of_getElem? (i := 431) (by decide +kernel)⟩
theorem lw_p13 : lw_okq (⟨"BatchLinks", "canEnter", "(IJI)Z"⟩, 10) := ⟨⟨by decide +kernel, by decide +kernel⟩, List.mem_of_getElem? (i := 12) (by decide +kernel), List.mem_of_getElem? (i := 472) (by decide +kernel), List.mem_of_getElem? (i := 473) (by decide +kernel)⟩
theorem lw_p14 : lw_okq (⟨"BatchLinks", "sumOfFact", "(I)J"⟩, 10) := ⟨⟨by decide +kernel, by decide +kernel⟩, List.mem_of_getElem? (i := 12) (by decide +kernel), List.mem_of_getElem? (i := 533) (by decide +kernel), List.mem_of_getElem? (i := 534) (by decide +kernel)⟩
theorem lw_p15 : lw_okq (⟨"BatchLinks", "sumInside", "(I)J"⟩, 10) := ⟨⟨by decide +kernel, by decide +kernel⟩, List.mem_of_getElem? (i := 12) (by decide +kernel), List.mem_of_getElem? (i := 537) (by decide +kernel), List.mem_of_getElem? (i := 538) (by decide +kernel)⟩
def lw_privs_1 : List (MethodName × Nat) := [(⟨"BatchLinks", "isFull", "()Z"⟩, 10), (⟨"BatchLinks", "keep", "(LBatchLinks$Thing;)I"⟩, 10), (⟨"BatchLinks", "find", "(I)LBatchLinks$Thing;"⟩, 10), (⟨"BatchLinks$Layers", "dropLayers", "(I)V"⟩, 3), (⟨"BatchLinks", "findHaul", "(I)LBatchLinks$Thing;"⟩, 10), (⟨"BatchLinks", "countBoxesWith", "(I)V"⟩, 10), (⟨"BatchLinks$NamesReader", "skipBlanks", "()V"⟩, 3), (⟨"BatchLinks$NamesReader", "isBlank", "()Z"⟩, 3), (⟨"BatchLinks$NamesReader", "readRule", "(LBatchLinks$Rules;)V"⟩, 3), (⟨"BatchLinks$NamesReader", "readNumber", "(II)I"⟩, 3), (⟨"BatchLinks$NamesReader", "isDigit", "()Z"⟩, 3), (⟨"BatchLinks$NamesReader", "fail", "(I)V"⟩, 3), (⟨"BatchLinks$NamesReader", "readSign", "(C)V"⟩, 3), (⟨"BatchLinks", "canEnter", "(IJI)Z"⟩, 10), (⟨"BatchLinks", "sumOfFact", "(I)J"⟩, 10), (⟨"BatchLinks", "sumInside", "(I)J"⟩, 10)]
theorem lw_r1 : ∀ q ∈ lw_privs_1, lw_okq q := List.forall_mem_cons.mpr ⟨lw_p0, List.forall_mem_cons.mpr ⟨lw_p1, List.forall_mem_cons.mpr ⟨lw_p2, List.forall_mem_cons.mpr ⟨lw_p3, List.forall_mem_cons.mpr ⟨lw_p4, List.forall_mem_cons.mpr ⟨lw_p5, List.forall_mem_cons.mpr ⟨lw_p6, List.forall_mem_cons.mpr ⟨lw_p7, List.forall_mem_cons.mpr ⟨lw_p8, List.forall_mem_cons.mpr ⟨lw_p9, List.forall_mem_cons.mpr ⟨lw_p10, List.forall_mem_cons.mpr ⟨lw_p11, List.forall_mem_cons.mpr ⟨lw_p12, List.forall_mem_cons.mpr ⟨lw_p13, List.forall_mem_cons.mpr ⟨lw_p14, List.forall_mem_cons.mpr ⟨lw_p15, fun _ h => absurd h List.not_mem_nil⟩⟩⟩⟩⟩⟩⟩⟩⟩⟩⟩⟩⟩⟩⟩⟩
theorem lw_p16 : lw_okq (⟨"BatchLinksModel", "make", "(IIIJ)I"⟩, 36) := ⟨⟨by decide +kernel, by decide +kernel⟩, List.mem_of_getElem? (i := 545) (by decide +kernel), List.mem_of_getElem? (i := 667) (by decide +kernel), List.mem_of_getElem? (i := 668) (by decide +kernel)⟩
theorem lw_p17 : lw_okq (⟨"BatchLinksModel", "isOf", "(II)Z"⟩, 36) := ⟨⟨by decide +kernel, by decide +kernel⟩, List.mem_of_getElem? (i := 545) (by decide +kernel), List.mem_of_getElem? (i := 679) (by decide +kernel), List.mem_of_getElem? (i := 680) (by decide +kernel)⟩
theorem lw_p18 : lw_okq (⟨"BatchLinksModel", "isThing", "(I)Z"⟩, 36) := ⟨⟨by decide +kernel, by decide +kernel⟩, List.mem_of_getElem? (i := 545) (by decide +kernel), List.mem_of_getElem? (i := 683) (by decide +kernel), List.mem_of_getElem? (i := 684) (by decide +kernel)⟩
theorem lw_p19 : lw_okq (⟨"BatchLinksModel", "isSource", "(I)Z"⟩, 36) := ⟨⟨by decide +kernel, by decide +kernel⟩, List.mem_of_getElem? (i := 545) (by decide +kernel), List.mem_of_getElem? (i := 687) (by decide +kernel), List.mem_of_getElem? (i := 688) (by decide +kernel)⟩
theorem lw_p20 : lw_okq (⟨"BatchLinksModel", "has", "(IJ)Z"⟩, 36) := ⟨⟨by decide +kernel, by decide +kernel⟩, List.mem_of_getElem? (i := 545) (by decide +kernel), List.mem_of_getElem? (i := 691) (by decide +kernel), List.mem_of_getElem? (i := 692) (by decide +kernel)⟩
theorem lw_p21 : lw_okq (⟨"BatchLinksModel", "gramsIn", "(I)J"⟩, 36) := ⟨⟨by decide +kernel, by decide +kernel⟩, List.mem_of_getElem? (i := 545) (by decide +kernel), List.mem_of_getElem? (i := 695) (by decide +kernel), List.mem_of_getElem? (i := 696) (by decide +kernel)⟩
theorem lw_p22 : lw_okq (⟨"BatchLinksModel", "layBy", "(IIJ)V"⟩, 36) := ⟨⟨by decide +kernel, by decide +kernel⟩, List.mem_of_getElem? (i := 545) (by decide +kernel), List.mem_of_getElem? (i := 699) (by decide +kernel), List.mem_of_getElem? (i := 700) (by decide +kernel)⟩
theorem lw_p23 : lw_okq (⟨"BatchLinksModel", "lay", "(IJ)V"⟩, 36) := ⟨⟨by decide +kernel, by decide +kernel⟩, List.mem_of_getElem? (i := 545) (by decide +kernel), List.mem_of_getElem? (i := 703) (by decide +kernel), List.mem_of_getElem? (i := 704) (by decide +kernel)⟩
theorem lw_p24 : lw_okq (⟨"BatchLinksModel", "putDown", "(I)V"⟩, 36) := ⟨⟨by decide +kernel, by decide +kernel⟩, List.mem_of_getElem? (i := 545) (by decide +kernel), List.mem_of_getElem? (i := 707) (by decide +kernel), List.mem_of_getElem? (i := 708) (by decide +kernel)⟩
theorem lw_p25 : lw_okq (⟨"BatchLinksModel", "takeOut", "(IJ)V"⟩, 36) := ⟨⟨by decide +kernel, by decide +kernel⟩, List.mem_of_getElem? (i := 545) (by decide +kernel), List.mem_of_getElem? (i := 711) (by decide +kernel), List.mem_of_getElem? (i := 712) (by decide +kernel)⟩
theorem lw_p26 : lw_okq (⟨"BatchLinksModel", "gramsFrom", "(II)J"⟩, 36) := ⟨⟨by decide +kernel, by decide +kernel⟩, List.mem_of_getElem? (i := 545) (by decide +kernel), List.mem_of_getElem? (i := 744) (by decide +kernel), List.mem_of_getElem? (i := 745) (by decide +kernel)⟩
theorem lw_p27 : lw_okq (⟨"BatchLinksModel", "boxesOf", "(II)I"⟩, 36) := ⟨⟨by decide +kernel, by decide +kernel⟩, List.mem_of_getElem? (i := 545) (by decide +kernel), List.mem_of_getElem? (i := 756) (by decide +kernel), List.mem_of_getElem? (i := 757) (by decide +kernel)⟩
theorem lw_p28 : lw_okq (⟨"BatchLinksModel", "skip", "()Z"⟩, 36) := ⟨⟨by decide +kernel, by decide +kernel⟩, List.mem_of_getElem? (i := 545) (by decide +kernel), List.mem_of_getElem? (i := 776) (by decide +kernel), List.mem_of_getElem? (i := 777) (by decide +kernel)⟩
theorem lw_p29 : lw_okq (⟨"BatchLinksModel", "number", "(II)I"⟩, 36) := ⟨⟨by decide +kernel, by decide +kernel⟩, List.mem_of_getElem? (i := 545) (by decide +kernel), List.mem_of_getElem? (i := 781) (by decide +kernel), List.mem_of_getElem? (i := 782) (by decide +kernel)⟩
theorem lw_p30 : lw_okq (⟨"BatchLinksModel", "isDigit", "(I)Z"⟩, 36) := ⟨⟨by decide +kernel, by decide +kernel⟩, List.mem_of_getElem? (i := 545) (by decide +kernel), List.mem_of_getElem? (i := 785) (by decide +kernel), List.mem_of_getElem? (i := 786) (by decide +kernel)⟩
theorem lw_p31 : lw_okq (⟨"BatchLinksModel", "sign", "(I)V"⟩, 36) := ⟨⟨by decide +kernel, by decide +kernel⟩, List.mem_of_getElem? (i := 545) (by decide +kernel), List.mem_of_getElem? (i := 789) (by decide +kernel), List.mem_of_getElem? (i := 790) (by decide +kernel)⟩
def lw_privs_2 : List (MethodName × Nat) := [(⟨"BatchLinksModel", "make", "(IIIJ)I"⟩, 36), (⟨"BatchLinksModel", "isOf", "(II)Z"⟩, 36), (⟨"BatchLinksModel", "isThing", "(I)Z"⟩, 36), (⟨"BatchLinksModel", "isSource", "(I)Z"⟩, 36), (⟨"BatchLinksModel", "has", "(IJ)Z"⟩, 36), (⟨"BatchLinksModel", "gramsIn", "(I)J"⟩, 36), (⟨"BatchLinksModel", "layBy", "(IIJ)V"⟩, 36), (⟨"BatchLinksModel", "lay", "(IJ)V"⟩, 36), (⟨"BatchLinksModel", "putDown", "(I)V"⟩, 36), (⟨"BatchLinksModel", "takeOut", "(IJ)V"⟩, 36), (⟨"BatchLinksModel", "gramsFrom", "(II)J"⟩, 36), (⟨"BatchLinksModel", "boxesOf", "(II)I"⟩, 36), (⟨"BatchLinksModel", "skip", "()Z"⟩, 36), (⟨"BatchLinksModel", "number", "(II)I"⟩, 36), (⟨"BatchLinksModel", "isDigit", "(I)Z"⟩, 36), (⟨"BatchLinksModel", "sign", "(I)V"⟩, 36)]
theorem lw_r2 : ∀ q ∈ lw_privs_2, lw_okq q := List.forall_mem_cons.mpr ⟨lw_p16, List.forall_mem_cons.mpr ⟨lw_p17, List.forall_mem_cons.mpr ⟨lw_p18, List.forall_mem_cons.mpr ⟨lw_p19, List.forall_mem_cons.mpr ⟨lw_p20, List.forall_mem_cons.mpr ⟨lw_p21, List.forall_mem_cons.mpr ⟨lw_p22, List.forall_mem_cons.mpr ⟨lw_p23, List.forall_mem_cons.mpr ⟨lw_p24, List.forall_mem_cons.mpr ⟨lw_p25, List.forall_mem_cons.mpr ⟨lw_p26, List.forall_mem_cons.mpr ⟨lw_p27, List.forall_mem_cons.mpr ⟨lw_p28, List.forall_mem_cons.mpr ⟨lw_p29, List.forall_mem_cons.mpr ⟨lw_p30, List.forall_mem_cons.mpr ⟨lw_p31, fun _ h => absurd h List.not_mem_nil⟩⟩⟩⟩⟩⟩⟩⟩⟩⟩⟩⟩⟩⟩⟩⟩
theorem lw_p32 : lw_okq (⟨"BatchLinksModel", "mayAct", "(IJI)Z"⟩, 36) := ⟨⟨by decide +kernel, by decide +kernel⟩, List.mem_of_getElem? (i := 545) (by decide +kernel), List.mem_of_getElem? (i := 806) (by decide +kernel), List.mem_of_getElem? (i := 807) (by decide +kernel)⟩
theorem lw_p33 : lw_okq (⟨"BatchLinksModel", "act", "(IJI)V"⟩, 36) := ⟨⟨by decide +kernel, by decide +kernel⟩, List.mem_of_getElem? (i := 545) (by decide +kernel), List.mem_of_getElem? (i := 810) (by decide +kernel), List.mem_of_getElem? (i := 811) (by decide +kernel)⟩
theorem lw_p34 : lw_okq (⟨"BatchLinksModel", "balanceOf", "(II)J"⟩, 36) := ⟨⟨by decide +kernel, by decide +kernel⟩, List.mem_of_getElem? (i := 545) (by decide +kernel), List.mem_of_getElem? (i := 818) (by decide +kernel), List.mem_of_getElem? (i := 819) (by decide +kernel)⟩
theorem lw_p35 : lw_okq (⟨"BatchLinksModel", "writeNumber", "(J)V"⟩, 36) := ⟨⟨by decide +kernel, by decide +kernel⟩, List.mem_of_getElem? (i := 545) (by decide +kernel), List.mem_of_getElem? (i := 834) (by decide +kernel), List.mem_of_getElem? (i := 835) (by decide +kernel)⟩
theorem lw_p36 : lw_okq (⟨"BatchLinksModel", "write", "(I)V"⟩, 36) := ⟨⟨by decide +kernel, by decide +kernel⟩, List.mem_of_getElem? (i := 545) (by decide +kernel), List.mem_of_getElem? (i := 840) (by decide +kernel), List.mem_of_getElem? (i := 841) (by decide +kernel)⟩
theorem lw_p37 : lw_okq (⟨"BatchLinksModel", "allIn", "(I)J"⟩, 36) := ⟨⟨by decide +kernel, by decide +kernel⟩, List.mem_of_getElem? (i := 545) (by decide +kernel), List.mem_of_getElem? (i := 848) (by decide +kernel), List.mem_of_getElem? (i := 849) (by decide +kernel)⟩
def lw_privs_3 : List (MethodName × Nat) := [(⟨"BatchLinksModel", "mayAct", "(IJI)Z"⟩, 36), (⟨"BatchLinksModel", "act", "(IJI)V"⟩, 36), (⟨"BatchLinksModel", "balanceOf", "(II)J"⟩, 36), (⟨"BatchLinksModel", "writeNumber", "(J)V"⟩, 36), (⟨"BatchLinksModel", "write", "(I)V"⟩, 36), (⟨"BatchLinksModel", "allIn", "(I)J"⟩, 36)]
theorem lw_r3 : ∀ q ∈ lw_privs_3, lw_okq q := List.forall_mem_cons.mpr ⟨lw_p32, List.forall_mem_cons.mpr ⟨lw_p33, List.forall_mem_cons.mpr ⟨lw_p34, List.forall_mem_cons.mpr ⟨lw_p35, List.forall_mem_cons.mpr ⟨lw_p36, List.forall_mem_cons.mpr ⟨lw_p37, fun _ h => absurd h List.not_mem_nil⟩⟩⟩⟩⟩⟩
def lw_privs : List (MethodName × Nat) := lw_privs_1 ++ (lw_privs_2 ++ (lw_privs_3))
def lw_tbl : List Cond := k2_sels lw_privs ++ tables_1
theorem lw_privs_ok : ∀ q ∈ lw_privs, lw_okq q := by
  show ∀ q ∈ lw_privs_1 ++ (lw_privs_2 ++ (lw_privs_3)), lw_okq q
  exact List.forall_mem_append.mpr ⟨lw_r1, List.forall_mem_append.mpr ⟨lw_r2, lw_r3⟩⟩
end
section
/-! names: classes, their fields, methods; written by wip/whole/gen_names.py out of the task -/
def TBy : u_T := fun k => match k with
  | 0 => ("BatchLinks$Bytes", "row", "[I", true)
  | _ => ("BatchLinks$Bytes", "count", "I", false)
def tyBy : Nat → FieldType := fun k => match k with
  | 0 => .array .int
  | _ => .int
theorem nmBy : ∀ a, a < 2 → ∀ b, b < 2 → a ≠ b → (TBy a).2.1 ≠ (TBy b).2.1 := by decide +kernel
theorem okBy : ∀ k, k < 2 → parseFieldDescriptor (TBy k).2.2.1 = some (tyBy k) := by decide +kernel
def TLa : u_T := fun k => match k with
  | 0 => ("BatchLinks$Layers", "hauls", "[I", true)
  | 1 => ("BatchLinks$Layers", "grams", "[J", true)
  | _ => ("BatchLinks$Layers", "count", "I", false)
def tyLa : Nat → FieldType := fun k => match k with
  | 0 => .array .int
  | 1 => .array .long
  | _ => .int
theorem nmLa : ∀ a, a < 3 → ∀ b, b < 3 → a ≠ b → (TLa a).2.1 ≠ (TLa b).2.1 := by decide +kernel
theorem okLa : ∀ k, k < 3 → parseFieldDescriptor (TLa k).2.2.1 = some (tyLa k) := by decide +kernel
def TLe : u_T := fun k => match k with
  | 0 => ("BatchLinks$Ledger", "untils", "[I", true)
  | 1 => ("BatchLinks$Ledger", "certificates", "I", false)
  | 2 => ("BatchLinks$Ledger", "owners", "[I", true)
  | 3 => ("BatchLinks$Ledger", "days", "[I", true)
  | 4 => ("BatchLinks$Ledger", "amounts", "[J", true)
  | _ => ("BatchLinks$Ledger", "entries", "I", false)
def tyLe : Nat → FieldType := fun k => match k with
  | 0 => .array .int
  | 1 => .int
  | 2 => .array .int
  | 3 => .array .int
  | 4 => .array .long
  | _ => .int
theorem nmLe : ∀ a, a < 6 → ∀ b, b < 6 → a ≠ b → (TLe a).2.1 ≠ (TLe b).2.1 := by decide +kernel
theorem okLe : ∀ k, k < 6 → parseFieldDescriptor (TLe k).2.2.1 = some (tyLe k) := by decide +kernel
def TNa : u_T := fun k => match k with
  | 0 => ("BatchLinks$NamesReader", "tape", "LBatchLinks$Bytes;", true)
  | 1 => ("BatchLinks$NamesReader", "at", "I", false)
  | _ => ("BatchLinks$NamesReader", "fault", "I", false)
def tyNa : Nat → FieldType := fun k => match k with
  | 0 => .object "BatchLinks$Bytes"
  | 1 => .int
  | _ => .int
theorem nmNa : ∀ a, a < 3 → ∀ b, b < 3 → a ≠ b → (TNa a).2.1 ≠ (TNa b).2.1 := by decide +kernel
theorem okNa : ∀ k, k < 3 → parseFieldDescriptor (TNa k).2.2.1 = some (tyNa k) := by decide +kernel
def TRu : u_T := fun k => match k with
  | 0 => ("BatchLinks$Rules", "codes", "[I", true)
  | 1 => ("BatchLinks$Rules", "firsts", "[I", true)
  | 2 => ("BatchLinks$Rules", "seconds", "[I", true)
  | 3 => ("BatchLinks$Rules", "days", "[I", true)
  | _ => ("BatchLinks$Rules", "count", "I", false)
def tyRu : Nat → FieldType := fun k => match k with
  | 0 => .array .int
  | 1 => .array .int
  | 2 => .array .int
  | 3 => .array .int
  | _ => .int
theorem nmRu : ∀ a, a < 5 → ∀ b, b < 5 → a ≠ b → (TRu a).2.1 ≠ (TRu b).2.1 := by decide +kernel
theorem okRu : ∀ k, k < 5 → parseFieldDescriptor (TRu k).2.2.1 = some (tyRu k) := by decide +kernel
def TTa : u_T := fun k => match k with
  | _ => ("BatchLinks$Tally", "counts", "[I", true)
def tyTa : Nat → FieldType := fun k => match k with
  | _ => .array .int
theorem nmTa : ∀ a, a < 1 → ∀ b, b < 1 → a ≠ b → (TTa a).2.1 ≠ (TTa b).2.1 := by decide +kernel
theorem okTa : ∀ k, k < 1 → parseFieldDescriptor (TTa k).2.2.1 = some (tyTa k) := by decide +kernel
def TTh : u_T := fun k => match k with
  | 0 => ("BatchLinks$Thing", "kind", "I", true)
  | 1 => ("BatchLinks$Thing", "mark", "I", true)
  | 2 => ("BatchLinks$Thing", "day", "I", true)
  | 3 => ("BatchLinks$Thing", "layers", "LBatchLinks$Layers;", true)
  | 4 => ("BatchLinks$Thing", "grams", "J", false)
  | 5 => ("BatchLinks$Thing", "lost", "J", false)
  | 6 => ("BatchLinks$Thing", "held", "Z", false)
  | _ => ("BatchLinks$Thing", "warmest", "I", false)
def tyTh : Nat → FieldType := fun k => match k with
  | 0 => .int
  | 1 => .int
  | 2 => .int
  | 3 => .object "BatchLinks$Layers"
  | 4 => .long
  | 5 => .long
  | 6 => .boolean
  | _ => .int
theorem nmTh : ∀ a, a < 8 → ∀ b, b < 8 → a ≠ b → (TTh a).2.1 ≠ (TTh b).2.1 := by decide +kernel
theorem okTh : ∀ k, k < 8 → parseFieldDescriptor (TTh k).2.2.1 = some (tyTh k) := by decide +kernel
def TBL : u_T := fun k => match k with
  | 0 => ("BatchLinks", "things", "[LBatchLinks$Thing;", true)
  | 1 => ("BatchLinks", "thingCount", "I", false)
  | 2 => ("BatchLinks", "hauls", "LBatchLinks$Tally;", true)
  | 3 => ("BatchLinks", "boxesOfCustomers", "LBatchLinks$Tally;", true)
  | 4 => ("BatchLinks", "tape", "LBatchLinks$Bytes;", true)
  | 5 => ("BatchLinks", "namesReader", "LBatchLinks$NamesReader;", true)
  | 6 => ("BatchLinks", "rules", "LBatchLinks$Rules;", false)
  | 7 => ("BatchLinks", "spareRules", "LBatchLinks$Rules;", false)
  | 8 => ("BatchLinks", "ledger", "LBatchLinks$Ledger;", true)
  | _ => ("BatchLinks", "page", "LBatchLinks$Bytes;", true)
def tyBL : Nat → FieldType := fun k => match k with
  | 0 => .array (.object "BatchLinks$Thing")
  | 1 => .int
  | 2 => .object "BatchLinks$Tally"
  | 3 => .object "BatchLinks$Tally"
  | 4 => .object "BatchLinks$Bytes"
  | 5 => .object "BatchLinks$NamesReader"
  | 6 => .object "BatchLinks$Rules"
  | 7 => .object "BatchLinks$Rules"
  | 8 => .object "BatchLinks$Ledger"
  | _ => .object "BatchLinks$Bytes"
theorem nmBL : ∀ a, a < 10 → ∀ b, b < 10 → a ≠ b → (TBL a).2.1 ≠ (TBL b).2.1 := by decide +kernel
theorem okBL : ∀ k, k < 10 → parseFieldDescriptor (TBL k).2.2.1 = some (tyBL k) := by decide +kernel
def TMo : u_T := fun k => match k with
  | 0 => ("BatchLinksModel", "things", "I", false)
  | 1 => ("BatchLinksModel", "kind", "[I", true)
  | 2 => ("BatchLinksModel", "layers", "[I", true)
  | 3 => ("BatchLinksModel", "haulOf", "[I", true)
  | 4 => ("BatchLinksModel", "gramsOf", "[J", true)
  | 5 => ("BatchLinksModel", "lost", "[J", true)
  | 6 => ("BatchLinksModel", "held", "[Z", true)
  | 7 => ("BatchLinksModel", "warmest", "[I", true)
  | 8 => ("BatchLinksModel", "where", "[I", true)
  | 9 => ("BatchLinksModel", "dayOf", "[I", true)
  | 10 => ("BatchLinksModel", "toldGrams", "[J", true)
  | 11 => ("BatchLinksModel", "laid", "I", false)
  | 12 => ("BatchLinksModel", "laidHaul", "[I", true)
  | 13 => ("BatchLinksModel", "laidGrams", "[J", true)
  | 14 => ("BatchLinksModel", "size", "I", false)
  | 15 => ("BatchLinksModel", "tape", "[I", true)
  | 16 => ("BatchLinksModel", "rules", "I", false)
  | 17 => ("BatchLinksModel", "ruleCode", "[I", true)
  | 18 => ("BatchLinksModel", "ruleLow", "[I", true)
  | 19 => ("BatchLinksModel", "ruleHigh", "[I", true)
  | 20 => ("BatchLinksModel", "ruleDay", "[I", true)
  | 21 => ("BatchLinksModel", "read", "I", false)
  | 22 => ("BatchLinksModel", "readCode", "[I", true)
  | 23 => ("BatchLinksModel", "readLow", "[I", true)
  | 24 => ("BatchLinksModel", "readHigh", "[I", true)
  | 25 => ("BatchLinksModel", "readDay", "[I", true)
  | 26 => ("BatchLinksModel", "at", "I", false)
  | 27 => ("BatchLinksModel", "fault", "I", false)
  | 28 => ("BatchLinksModel", "certificates", "I", false)
  | 29 => ("BatchLinksModel", "untilOf", "[I", true)
  | 30 => ("BatchLinksModel", "acts", "I", false)
  | 31 => ("BatchLinksModel", "actOf", "[I", true)
  | 32 => ("BatchLinksModel", "actDay", "[I", true)
  | 33 => ("BatchLinksModel", "actGrams", "[J", true)
  | 34 => ("BatchLinksModel", "written", "I", false)
  | _ => ("BatchLinksModel", "paper", "[I", true)
def tyMo : Nat → FieldType := fun k => match k with
  | 0 => .int
  | 1 => .array .int
  | 2 => .array .int
  | 3 => .array .int
  | 4 => .array .long
  | 5 => .array .long
  | 6 => .array .boolean
  | 7 => .array .int
  | 8 => .array .int
  | 9 => .array .int
  | 10 => .array .long
  | 11 => .int
  | 12 => .array .int
  | 13 => .array .long
  | 14 => .int
  | 15 => .array .int
  | 16 => .int
  | 17 => .array .int
  | 18 => .array .int
  | 19 => .array .int
  | 20 => .array .int
  | 21 => .int
  | 22 => .array .int
  | 23 => .array .int
  | 24 => .array .int
  | 25 => .array .int
  | 26 => .int
  | 27 => .int
  | 28 => .int
  | 29 => .array .int
  | 30 => .int
  | 31 => .array .int
  | 32 => .array .int
  | 33 => .array .long
  | 34 => .int
  | _ => .array .int
theorem nmMo : ∀ a, a < 36 → ∀ b, b < 36 → a ≠ b → (TMo a).2.1 ≠ (TMo b).2.1 := by decide +kernel
theorem okMo : ∀ k, k < 36 → parseFieldDescriptor (TMo k).2.2.1 = some (tyMo k) := by decide +kernel
abbrev vwCl : List vw_C := [("BatchLinks$Bytes", TBy, 2), ("BatchLinks$Layers", TLa, 3), ("BatchLinks$Ledger", TLe, 6), ("BatchLinks$NamesReader", TNa, 3), ("BatchLinks$Rules", TRu, 5), ("BatchLinks$Tally", TTa, 1), ("BatchLinks$Thing", TTh, 8), ("BatchLinks", TBL, 10), ("BatchLinksModel", TMo, 36)]
abbrev ev_tys : List FieldType := [.int, .long, .boolean, .object "BatchLinks$Thing"]
abbrev ev_nm : List (String × Nat × MethodName × String) := [("BatchLinks", 21, ⟨"BatchLinks$Tally", "<init>", "()V"⟩, "BatchLinks"), ("BatchLinks", 49, ⟨"BatchLinks$Rules", "<init>", "()V"⟩, "BatchLinks"), ("BatchLinks", 59, ⟨"BatchLinks$Ledger", "<init>", "()V"⟩, "BatchLinks"), ("BatchLinks$Thing", 23, ⟨"BatchLinks$Layers", "<init>", "()V"⟩, "BatchLinks")]
abbrev ev_ao : List String := ["BatchLinks$Thing"]
abbrev xM : Type := MethodName × ByteArray × Nat × Option FieldType
abbrev mBL_init : xM := (⟨"BatchLinks", "<init>", "()V"⟩, prog_1_method_1_code, 1, none)
abbrev mTa_init : xM := (⟨"BatchLinks$Tally", "<init>", "()V"⟩, prog_7_method_1_code, 1, none)
abbrev mBy_init : xM := (⟨"BatchLinks$Bytes", "<init>", "(I)V"⟩, prog_2_method_1_code, 2, none)
abbrev mNa_init : xM := (⟨"BatchLinks$NamesReader", "<init>", "(LBatchLinks$Bytes;)V"⟩, prog_5_method_1_code, 2, none)
abbrev mRu_init : xM := (⟨"BatchLinks$Rules", "<init>", "()V"⟩, prog_6_method_1_code, 1, none)
abbrev mLe_init : xM := (⟨"BatchLinks$Ledger", "<init>", "()V"⟩, prog_4_method_1_code, 1, none)
abbrev mBL_haul : xM := (⟨"BatchLinks", "haul", "(JII)I"⟩, prog_1_method_2_code, 6, some (.int))
abbrev mBL_isWeight : xM := (⟨"BatchLinks", "isWeight", "(J)Z"⟩, prog_1_method_26_code, 2, some (.boolean))
abbrev mBL_isWithin : xM := (⟨"BatchLinks", "isWithin", "(II)Z"⟩, prog_1_method_27_code, 2, some (.boolean))
abbrev mBL_isFull : xM := (⟨"BatchLinks", "isFull", "()Z"⟩, prog_1_method_29_code, 1, some (.boolean))
abbrev mTh_init : xM := (⟨"BatchLinks$Thing", "<init>", "(III)V"⟩, prog_8_method_1_code, 4, none)
abbrev mLa_init : xM := (⟨"BatchLinks$Layers", "<init>", "()V"⟩, prog_3_method_1_code, 1, none)
abbrev mLa_append : xM := (⟨"BatchLinks$Layers", "append", "(IJ)V"⟩, prog_3_method_11_code, 4, none)
abbrev mBL_keep : xM := (⟨"BatchLinks", "keep", "(LBatchLinks$Thing;)I"⟩, prog_1_method_30_code, 2, some (.int))
abbrev mBL_batch : xM := (⟨"BatchLinks", "batch", "()I"⟩, prog_1_method_3_code, 1, some (.int))
abbrev mBL_into : xM := (⟨"BatchLinks", "into", "(IIJ)Z"⟩, prog_1_method_4_code, 7, some (.boolean))
abbrev mBL_find : xM := (⟨"BatchLinks", "find", "(I)LBatchLinks$Thing;"⟩, prog_1_method_31_code, 2, some (.object "BatchLinks$Thing"))
abbrev mLa_have : xM := (⟨"BatchLinks$Layers", "have", "(J)Z"⟩, prog_3_method_7_code, 3, some (.boolean))
abbrev mLa_total : xM := (⟨"BatchLinks$Layers", "total", "()J"⟩, prog_3_method_5_code, 4, some (.long))
abbrev mLa_sizeWith : xM := (⟨"BatchLinks$Layers", "sizeWith", "(LBatchLinks$Layers;J)I"⟩, prog_3_method_9_code, 5, some (.int))
abbrev mLa_sizeOf : xM := (⟨"BatchLinks$Layers", "sizeOf", "(J)I"⟩, prog_3_method_8_code, 7, some (.int))
abbrev mLa_haulAt : xM := (⟨"BatchLinks$Layers", "haulAt", "(I)I"⟩, prog_3_method_3_code, 2, some (.int))
abbrev mTh_takeFrom : xM := (⟨"BatchLinks$Thing", "takeFrom", "(LBatchLinks$Thing;J)V"⟩, prog_8_method_2_code, 4, none)
abbrev mLa_appendFront : xM := (⟨"BatchLinks$Layers", "appendFront", "(LBatchLinks$Layers;J)V"⟩, prog_3_method_12_code, 9, none)
abbrev mLa_dropFront : xM := (⟨"BatchLinks$Layers", "dropFront", "(J)V"⟩, prog_3_method_13_code, 9, none)
abbrev mLa_dropLayers : xM := (⟨"BatchLinks$Layers", "dropLayers", "(I)V"⟩, prog_3_method_14_code, 3, none)
abbrev mBL_box : xM := (⟨"BatchLinks", "box", "(IJI)I"⟩, prog_1_method_5_code, 7, some (.int))
abbrev mBL_waste : xM := (⟨"BatchLinks", "waste", "(IJ)J"⟩, prog_1_method_6_code, 5, some (.long))
abbrev mBL_hold : xM := (⟨"BatchLinks", "hold", "(IZ)Z"⟩, prog_1_method_7_code, 4, some (.boolean))
abbrev mBL_correct : xM := (⟨"BatchLinks", "correct", "(IJ)Z"⟩, prog_1_method_8_code, 7, some (.boolean))
abbrev mBL_findHaul : xM := (⟨"BatchLinks", "findHaul", "(I)LBatchLinks$Thing;"⟩, prog_1_method_32_code, 3, some (.object "BatchLinks$Thing"))
abbrev mLa_clear : xM := (⟨"BatchLinks$Layers", "clear", "()V"⟩, prog_3_method_10_code, 1, none)
abbrev mBL_told : xM := (⟨"BatchLinks", "told", "(II)J"⟩, prog_1_method_9_code, 4, some (.long))
abbrev mTh_fact : xM := (⟨"BatchLinks$Thing", "fact", "(I)J"⟩, prog_8_method_3_code, 2, some (.long))
abbrev mLa_size : xM := (⟨"BatchLinks$Layers", "size", "()I"⟩, prog_3_method_2_code, 1, some (.int))
abbrev mBL_layer : xM := (⟨"BatchLinks", "layer", "(III)J"⟩, prog_1_method_10_code, 5, some (.long))
abbrev mLa_gramsAt : xM := (⟨"BatchLinks$Layers", "gramsAt", "(I)J"⟩, prog_3_method_4_code, 2, some (.long))
abbrev mBL_share : xM := (⟨"BatchLinks", "share", "(III)J"⟩, prog_1_method_11_code, 11, some (.long))
abbrev mLa_gramsOf : xM := (⟨"BatchLinks$Layers", "gramsOf", "(I)J"⟩, prog_3_method_6_code, 5, some (.long))
abbrev mBL_greatestDivisor : xM := (⟨"BatchLinks", "greatestDivisor", "(JJ)J"⟩, prog_1_method_28_code, 11, some (.long))
abbrev mBL_back : xM := (⟨"BatchLinks", "back", "(II)I"⟩, prog_1_method_12_code, 5, some (.int))
abbrev mTa_clear : xM := (⟨"BatchLinks$Tally", "clear", "()V"⟩, prog_7_method_2_code, 2, none)
abbrev mTa_count : xM := (⟨"BatchLinks$Tally", "count", "(I)V"⟩, prog_7_method_3_code, 2, none)
abbrev mTa_pick : xM := (⟨"BatchLinks$Tally", "pick", "(I)I"⟩, prog_7_method_5_code, 4, some (.int))
abbrev mBL_recall : xM := (⟨"BatchLinks", "recall", "(I)I"⟩, prog_1_method_13_code, 2, some (.int))
abbrev mBL_countBoxesWith : xM := (⟨"BatchLinks", "countBoxesWith", "(I)V"⟩, prog_1_method_33_code, 4, none)
abbrev mTa_countedAtLeast : xM := (⟨"BatchLinks$Tally", "countedAtLeast", "(I)I"⟩, prog_7_method_4_code, 4, some (.int))
abbrev mBL_recalled : xM := (⟨"BatchLinks", "recalled", "(II)I"⟩, prog_1_method_14_code, 3, some (.int))
abbrev mBL_doubled : xM := (⟨"BatchLinks", "doubled", "(I)I"⟩, prog_1_method_15_code, 3, some (.int))
abbrev mBL_unit : xM := (⟨"BatchLinks", "unit", "(I)Z"⟩, prog_1_method_16_code, 2, some (.boolean))
abbrev mBy_put : xM := (⟨"BatchLinks$Bytes", "put", "(I)Z"⟩, prog_2_method_5_code, 2, some (.boolean))
abbrev mBL_names : xM := (⟨"BatchLinks", "names", "()I"⟩, prog_1_method_17_code, 3, some (.int))
abbrev mNa_read : xM := (⟨"BatchLinks$NamesReader", "read", "(LBatchLinks$Rules;)I"⟩, prog_5_method_2_code, 3, some (.int))
abbrev mRu_clear : xM := (⟨"BatchLinks$Rules", "clear", "()V"⟩, prog_6_method_4_code, 1, none)
abbrev mNa_skipBlanks : xM := (⟨"BatchLinks$NamesReader", "skipBlanks", "()V"⟩, prog_5_method_9_code, 2, none)
abbrev mNa_isBlank : xM := (⟨"BatchLinks$NamesReader", "isBlank", "()Z"⟩, prog_5_method_8_code, 2, some (.boolean))
abbrev mBy_byteAt : xM := (⟨"BatchLinks$Bytes", "byteAt", "(I)I"⟩, prog_2_method_4_code, 2, some (.int))
abbrev mBy_size : xM := (⟨"BatchLinks$Bytes", "size", "()I"⟩, prog_2_method_2_code, 1, some (.int))
abbrev mNa_readRule : xM := (⟨"BatchLinks$NamesReader", "readRule", "(LBatchLinks$Rules;)V"⟩, prog_5_method_3_code, 6, none)
abbrev mRu_isFull : xM := (⟨"BatchLinks$Rules", "isFull", "()Z"⟩, prog_6_method_3_code, 1, some (.boolean))
abbrev mNa_readNumber : xM := (⟨"BatchLinks$NamesReader", "readNumber", "(II)I"⟩, prog_5_method_4_code, 6, some (.int))
abbrev mNa_isDigit : xM := (⟨"BatchLinks$NamesReader", "isDigit", "()Z"⟩, prog_5_method_7_code, 2, some (.boolean))
abbrev mNa_fail : xM := (⟨"BatchLinks$NamesReader", "fail", "(I)V"⟩, prog_5_method_6_code, 2, none)
abbrev mNa_readSign : xM := (⟨"BatchLinks$NamesReader", "readSign", "(C)V"⟩, prog_5_method_5_code, 2, none)
abbrev mRu_add : xM := (⟨"BatchLinks$Rules", "add", "(IIII)V"⟩, prog_6_method_5_code, 5, none)
abbrev mBy_clear : xM := (⟨"BatchLinks$Bytes", "clear", "()V"⟩, prog_2_method_3_code, 1, none)
abbrev mRu_size : xM := (⟨"BatchLinks$Rules", "size", "()I"⟩, prog_6_method_2_code, 1, some (.int))
abbrev mBL_name : xM := (⟨"BatchLinks", "name", "(III)Z"⟩, prog_1_method_18_code, 8, some (.boolean))
abbrev mRu_inForce : xM := (⟨"BatchLinks$Rules", "inForce", "(II)I"⟩, prog_6_method_6_code, 6, some (.int))
abbrev mRu_allows : xM := (⟨"BatchLinks$Rules", "allows", "(II)Z"⟩, prog_6_method_7_code, 3, some (.boolean))
abbrev mBL_certificate : xM := (⟨"BatchLinks", "certificate", "(I)I"⟩, prog_1_method_19_code, 2, some (.int))
abbrev mLe_open : xM := (⟨"BatchLinks$Ledger", "open", "(I)I"⟩, prog_4_method_5_code, 2, some (.int))
abbrev mBL_credit : xM := (⟨"BatchLinks", "credit", "(IJI)Z"⟩, prog_1_method_20_code, 5, some (.boolean))
abbrev mBL_canEnter : xM := (⟨"BatchLinks", "canEnter", "(IJI)Z"⟩, prog_1_method_34_code, 5, some (.boolean))
abbrev mLe_has : xM := (⟨"BatchLinks$Ledger", "has", "(I)Z"⟩, prog_4_method_3_code, 2, some (.boolean))
abbrev mLe_isFull : xM := (⟨"BatchLinks$Ledger", "isFull", "()Z"⟩, prog_4_method_4_code, 1, some (.boolean))
abbrev mLe_enter : xM := (⟨"BatchLinks$Ledger", "enter", "(IJI)V"⟩, prog_4_method_7_code, 5, none)
abbrev mBL_claim : xM := (⟨"BatchLinks", "claim", "(IJI)I"⟩, prog_1_method_21_code, 5, some (.int))
abbrev mLe_isOver : xM := (⟨"BatchLinks$Ledger", "isOver", "(II)Z"⟩, prog_4_method_6_code, 3, some (.boolean))
abbrev mLe_covers : xM := (⟨"BatchLinks$Ledger", "covers", "(IJI)Z"⟩, prog_4_method_9_code, 7, some (.boolean))
abbrev mLe_sumUpTo : xM := (⟨"BatchLinks$Ledger", "sumUpTo", "(II)J"⟩, prog_4_method_8_code, 6, some (.long))
abbrev mBL_balance : xM := (⟨"BatchLinks", "balance", "(II)J"⟩, prog_1_method_22_code, 3, some (.long))
abbrev mBL_warm : xM := (⟨"BatchLinks", "warm", "(II)Z"⟩, prog_1_method_23_code, 4, some (.boolean))
abbrev mBL_paper : xM := (⟨"BatchLinks", "paper", "(III)I"⟩, prog_1_method_24_code, 6, some (.int))
abbrev mBy_putNumber : xM := (⟨"BatchLinks$Bytes", "putNumber", "(J)V"⟩, prog_2_method_6_code, 7, none)
abbrev mBy_digitsOf : xM := (⟨"BatchLinks$Bytes", "digitsOf", "(J)I"⟩, prog_2_method_7_code, 5, some (.int))
abbrev mBL_all : xM := (⟨"BatchLinks", "all", "(I)J"⟩, prog_1_method_25_code, 2, some (.long))
abbrev mBL_sumOfFact : xM := (⟨"BatchLinks", "sumOfFact", "(I)J"⟩, prog_1_method_35_code, 6, some (.long))
abbrev mBL_sumInside : xM := (⟨"BatchLinks", "sumInside", "(I)J"⟩, prog_1_method_36_code, 6, some (.long))
abbrev mLe_size : xM := (⟨"BatchLinks$Ledger", "size", "()I"⟩, prog_4_method_2_code, 1, some (.int))
abbrev mMo_init : xM := (⟨"BatchLinksModel", "<init>", "()V"⟩, prog_10_method_1_code, 1, none)
abbrev mMo_haul : xM := (⟨"BatchLinksModel", "haul", "(JII)I"⟩, prog_10_method_6_code, 6, some (.int))
abbrev mMo_make : xM := (⟨"BatchLinksModel", "make", "(IIIJ)I"⟩, prog_10_method_4_code, 7, some (.int))
abbrev mMo_batch : xM := (⟨"BatchLinksModel", "batch", "()I"⟩, prog_10_method_7_code, 1, some (.int))
abbrev mMo_into : xM := (⟨"BatchLinksModel", "into", "(IIJ)Z"⟩, prog_10_method_14_code, 5, some (.boolean))
abbrev mMo_isOf : xM := (⟨"BatchLinksModel", "isOf", "(II)Z"⟩, prog_10_method_3_code, 3, some (.boolean))
abbrev mMo_isThing : xM := (⟨"BatchLinksModel", "isThing", "(I)Z"⟩, prog_10_method_2_code, 2, some (.boolean))
abbrev mMo_isSource : xM := (⟨"BatchLinksModel", "isSource", "(I)Z"⟩, prog_10_method_13_code, 2, some (.boolean))
abbrev mMo_has : xM := (⟨"BatchLinksModel", "has", "(IJ)Z"⟩, prog_10_method_12_code, 4, some (.boolean))
abbrev mMo_gramsIn : xM := (⟨"BatchLinksModel", "gramsIn", "(I)J"⟩, prog_10_method_5_code, 5, some (.long))
abbrev mMo_layBy : xM := (⟨"BatchLinksModel", "layBy", "(IIJ)V"⟩, prog_10_method_9_code, 10, none)
abbrev mMo_lay : xM := (⟨"BatchLinksModel", "lay", "(IJ)V"⟩, prog_10_method_8_code, 4, none)
abbrev mMo_putDown : xM := (⟨"BatchLinksModel", "putDown", "(I)V"⟩, prog_10_method_10_code, 3, none)
abbrev mMo_takeOut : xM := (⟨"BatchLinksModel", "takeOut", "(IJ)V"⟩, prog_10_method_11_code, 12, none)
abbrev mMo_box : xM := (⟨"BatchLinksModel", "box", "(IJI)I"⟩, prog_10_method_15_code, 6, some (.int))
abbrev mMo_waste : xM := (⟨"BatchLinksModel", "waste", "(IJ)J"⟩, prog_10_method_16_code, 4, some (.long))
abbrev mMo_hold : xM := (⟨"BatchLinksModel", "hold", "(IZ)Z"⟩, prog_10_method_17_code, 3, some (.boolean))
abbrev mMo_correct : xM := (⟨"BatchLinksModel", "correct", "(IJ)Z"⟩, prog_10_method_18_code, 6, some (.boolean))
abbrev mMo_told : xM := (⟨"BatchLinksModel", "told", "(II)J"⟩, prog_10_method_19_code, 3, some (.long))
abbrev mMo_layer : xM := (⟨"BatchLinksModel", "layer", "(III)J"⟩, prog_10_method_20_code, 4, some (.long))
abbrev mMo_share : xM := (⟨"BatchLinksModel", "share", "(III)J"⟩, prog_10_method_22_code, 14, some (.long))
abbrev mMo_gramsFrom : xM := (⟨"BatchLinksModel", "gramsFrom", "(II)J"⟩, prog_10_method_21_code, 6, some (.long))
abbrev mMo_back : xM := (⟨"BatchLinksModel", "back", "(II)I"⟩, prog_10_method_23_code, 5, some (.int))
abbrev mMo_recall : xM := (⟨"BatchLinksModel", "recall", "(I)I"⟩, prog_10_method_25_code, 4, some (.int))
abbrev mMo_boxesOf : xM := (⟨"BatchLinksModel", "boxesOf", "(II)I"⟩, prog_10_method_24_code, 5, some (.int))
abbrev mMo_recalled : xM := (⟨"BatchLinksModel", "recalled", "(II)I"⟩, prog_10_method_26_code, 5, some (.int))
abbrev mMo_doubled : xM := (⟨"BatchLinksModel", "doubled", "(I)I"⟩, prog_10_method_27_code, 6, some (.int))
abbrev mMo_unit : xM := (⟨"BatchLinksModel", "unit", "(I)Z"⟩, prog_10_method_28_code, 2, some (.boolean))
abbrev mMo_names : xM := (⟨"BatchLinksModel", "names", "()I"⟩, prog_10_method_33_code, 5, some (.int))
abbrev mMo_skip : xM := (⟨"BatchLinksModel", "skip", "()Z"⟩, prog_10_method_29_code, 1, some (.boolean))
abbrev mMo_number : xM := (⟨"BatchLinksModel", "number", "(II)I"⟩, prog_10_method_31_code, 6, some (.int))
abbrev mMo_isDigit : xM := (⟨"BatchLinksModel", "isDigit", "(I)Z"⟩, prog_10_method_30_code, 2, some (.boolean))
abbrev mMo_sign : xM := (⟨"BatchLinksModel", "sign", "(I)V"⟩, prog_10_method_32_code, 3, none)
abbrev mMo_name : xM := (⟨"BatchLinksModel", "name", "(III)Z"⟩, prog_10_method_34_code, 8, some (.boolean))
abbrev mMo_certificate : xM := (⟨"BatchLinksModel", "certificate", "(I)I"⟩, prog_10_method_35_code, 2, some (.int))
abbrev mMo_credit : xM := (⟨"BatchLinksModel", "credit", "(IJI)Z"⟩, prog_10_method_38_code, 5, some (.boolean))
abbrev mMo_mayAct : xM := (⟨"BatchLinksModel", "mayAct", "(IJI)Z"⟩, prog_10_method_36_code, 5, some (.boolean))
abbrev mMo_act : xM := (⟨"BatchLinksModel", "act", "(IJI)V"⟩, prog_10_method_37_code, 5, none)
abbrev mMo_claim : xM := (⟨"BatchLinksModel", "claim", "(IJI)I"⟩, prog_10_method_40_code, 7, some (.int))
abbrev mMo_balanceOf : xM := (⟨"BatchLinksModel", "balanceOf", "(II)J"⟩, prog_10_method_39_code, 6, some (.long))
abbrev mMo_balance : xM := (⟨"BatchLinksModel", "balance", "(II)J"⟩, prog_10_method_41_code, 3, some (.long))
abbrev mMo_warm : xM := (⟨"BatchLinksModel", "warm", "(II)Z"⟩, prog_10_method_42_code, 3, some (.boolean))
abbrev mMo_paper : xM := (⟨"BatchLinksModel", "paper", "(III)I"⟩, prog_10_method_45_code, 5, some (.int))
abbrev mMo_writeNumber : xM := (⟨"BatchLinksModel", "writeNumber", "(J)V"⟩, prog_10_method_44_code, 5, none)
abbrev mMo_write : xM := (⟨"BatchLinksModel", "write", "(I)V"⟩, prog_10_method_43_code, 2, none)
abbrev mMo_all : xM := (⟨"BatchLinksModel", "all", "(I)J"⟩, prog_10_method_47_code, 5, some (.long))
abbrev mMo_allIn : xM := (⟨"BatchLinksModel", "allIn", "(I)J"⟩, prog_10_method_46_code, 5, some (.long))
abbrev mLw_law : xM := (⟨"BatchLinksLaw", "law", "([I)Z"⟩, code, 4, some (.boolean))
end
section
/-! THE JUDGEMENT: ev_Run: from this place of a method, over this abstract heap, the machine comes to the method's end with P.
An abstract heap: a cell for an address. A cell: an array (place of its type in ev_tys, length, contents) or an object (number in vwCl, fields). -/
abbrev xE : Type := (Nat × vp_A) ⊕ (Nat × List Value)
abbrev xH : Type := Nat → Option xE
abbrev xG : Type := va_G × List (ClassId × FieldType) × Nat × Nat × Nat × (Nat → Int32) × Cell
abbrev xD (G : xG) : va_G := G.1
abbrev xTy (G : xG) : List (ClassId × FieldType) := G.2.1
abbrev xB (G : xG) : Nat := G.2.2.1
abbrev xb (G : xG) : Nat := G.2.2.2.1
abbrev xN (G : xG) : Nat := G.2.2.2.2.1
abbrev xX (G : xG) : Nat → Int32 := G.2.2.2.2.2.1
abbrev xS (G : xG) : Cell := G.2.2.2.2.2.2
def ev_T : List Cond := lw_tbl.filter goodWord
theorem ev_T_in : ∀ w ∈ ev_T, w ∈ lw_tbl := fun _ h => (List.mem_filter.mp h).1
theorem ev_T_good : ∀ w ∈ ev_T, (w.onTables && w.keeps) = true ∨ ∃ ty, w = .arrayClass ty := fun _ h => good_of_word (List.mem_filter.mp h).2
abbrev ev_ws (M : xM) : List Cond := .code M.1 M.2.1 M.2.2.1 M.2.2.2 :: ev_T
/-! heaps -/
def hp_cell (G : xG) (a : Nat) (e : xE) (H : Heap) : Prop := match e with
  | .inl x => ∃ q : ClassId × FieldType, (xTy G)[x.1]? = some q ∧ H[a]? = some (vp_cell q.1 x.2)
  | .inr o => va_at (xD G) vwCl (a, .inr o) H
def hp_R (G : xG) (h : xH) (n : Nat) (H : Heap) : Prop := H.size = n ∧ xB G ≤ n ∧ H[xb G]? = some (xS G) ∧ ∀ (a : Nat) (e : xE), h a = some e → xB G ≤ a ∧ hp_cell G a e H
def hp_set (h : xH) (a : Nat) (e : xE) : xH := fun q => if q = a then some e else h q
theorem hp_set_self (h : xH) (a : Nat) (e : xE) : hp_set h a e a = some e := if_pos rfl
theorem hp_set_ne (h : xH) {a b : Nat} (e : xE) (hb : b ≠ a) : hp_set h a e b = h b := if_neg hb
theorem hp_set_set (h : xH) (a : Nat) (e e' : xE) : hp_set (hp_set h a e) a e' = hp_set h a e' := by
  funext q
  unfold hp_set
  by_cases hq : q = a <;> simp [hq]
theorem hp_set_comm (h : xH) {a b : Nat} (e e' : xE) (hab : a ≠ b) : hp_set (hp_set h a e) b e' = hp_set (hp_set h b e') a e := by
  funext q
  unfold hp_set
  by_cases hq : q = a
  · subst hq
    simp [hab]
  · simp [hq]
theorem hp_set_eta (h : xH) {a : Nat} {e : xE} (ha : h a = some e) : hp_set h a e = h := by
  funext q
  unfold hp_set
  by_cases hq : q = a
  · subst hq
    simp [ha]
  · simp [hq]
theorem hp_cell.kept {G : xG} {a : Nat} {e : xE} {H H1 : Heap} (h : hp_cell G a e H) (hq : H1[a]? = H[a]?) : hp_cell G a e H1 := by
  cases e with
  | inl x =>
    obtain ⟨q, h1, h2⟩ := h
    exact ⟨q, h1, hq.trans h2⟩
  | inr o => exact va_at.kept (q := (a, .inr o)) h hq
theorem hp_cell.lt {G : xG} {a : Nat} {e : xE} {H : Heap} (h : hp_cell G a e H) : a < H.size := by
  cases e with
  | inl x =>
    obtain ⟨q, h1, h2⟩ := h
    exact (Array.getElem?_eq_some_iff.mp h2).1
  | inr o => exact va_at.lt (q := (a, .inr o)) h
theorem hp_R.put {G : xG} {h : xH} {n : Nat} {H H1 : Heap} {a : Nat} {e : xE} (hR : hp_R G h n H) (ha : xB G ≤ a) (hb : xb G < xB G) (z : H1.size = H.size) (oq : ∀ q : Nat, q ≠ a → H1[q]? = H[q]?) (he : hp_cell G a e H1) : hp_R G (hp_set h a e) n H1 := by
  refine ⟨z.trans hR.1, hR.2.1, (oq _ (by omega)).trans hR.2.2.1, fun b e' hb' => ?_⟩
  by_cases hq : b = a
  · subst hq
    rw [hp_set_self] at hb'
    cases hb'
    exact ⟨ha, he⟩
  · rw [hp_set_ne _ _ hq] at hb'
    obtain ⟨h1, h2⟩ := hR.2.2.2 b e' hb'
    exact ⟨h1, h2.kept (oq b hq)⟩
theorem hp_R.push {G : xG} {h : xH} {n : Nat} {H H1 : Heap} {e : xE} (hR : hp_R G h n H) (hb : xb G < xB G) (z : H1.size = n + 1) (oq : ∀ q : Nat, q < n → H1[q]? = H[q]?) (he : hp_cell G n e H1) : hp_R G (hp_set h n e) (n + 1) H1 := by
  refine ⟨z, Nat.le_succ_of_le hR.2.1, (oq _ (Nat.lt_of_lt_of_le hb hR.2.1)).trans hR.2.2.1, fun b e' hb' => ?_⟩
  by_cases hq : b = n
  · subst hq
    rw [hp_set_self] at hb'
    cases hb'
    exact ⟨hR.2.1, he⟩
  · rw [hp_set_ne _ _ hq] at hb'
    obtain ⟨h1, h2⟩ := hR.2.2.2 b e' hb'
    exact ⟨h1, h2.kept (oq b (by have := h2.lt; rw [hR.1] at this; exact this))⟩
theorem hp_R.lt {G : xG} {h : xH} {n : Nat} {H : Heap} {a : Nat} {e : xE} (hR : hp_R G h n H) (ha : h a = some e) : a < n := by
  have := (hR.2.2.2 a e ha).2.lt
  rw [hR.1] at this
  exact this
/-! what holds of the tables at a method's start -/
def ev_K (G : xG) (U : State) : Prop := va_K (xD G) vwCl (xTy G) U ∧ (∀ q ∈ ev_nm, va_Nw (.methodLinkNest q.1 q.2.1 q.2.2.1 q.2.2.2) U) ∧ (∀ C ∈ ev_ao, va_AO C U) ∧ U.isArrayOf (xS G) .int ∧ (xS G).vm ≠ .unknown ∧ (xS G).slots.size = xN G ∧ (∀ j : Nat, j < xN G → (xS G).slots[j]? = some (.int (xX G j))) ∧ xb G < xB G ∧ (xTy G).map Prod.snd = ev_tys
theorem ev_K.warm {G : xG} {s U : State} (hW : s.WarmedH U.vm) (h : ev_K G s) : ev_K G U := ⟨va_K.moved hW.alike h.1, fun q hq => va_Nw.warmM hW (h.2.1 q hq), fun C hC => va_AO.moved hW.alike (h.2.2.1 C hC), State.isArrayOf_alike hW.alike h.2.2.2.1, h.2.2.2.2⟩
theorem ev_K.same {G : xG} {s U : State} (hv : s.vm = U.vm) (h : ev_K G s) : ev_K G U := ⟨va_K.moved (by rw [hv]; exact Vm.Alike.refl _) h.1, fun q hq => va_Nw.same rfl hv (h.2.1 q hq), fun C hC => va_AO.moved (by rw [hv]; exact Vm.Alike.refl _) (h.2.2.1 C hC), State.isArrayOf_alike (by rw [hv]; exact Vm.Alike.refl _) h.2.2.2.1, h.2.2.2.2⟩
/-! locals -/
def ev_LR (ls : Array Slot) (nL : Nat) (L : List (Option Value)) : Prop := ls.size = nL ∧ lv_wf ls ∧ ∀ (i : Nat) (v : Value), L[i]? = some (some v) → ls[i]? = some (.val v)
def ev_lv (L : List (Option Value)) : List (Nat × Value) := (List.range L.length).filterMap (fun i => match L[i]? with
  | some (some v) => some (i, v)
  | _ => none)
theorem ev_lv_mem {L : List (Option Value)} {q : Nat × Value} : q ∈ ev_lv L ↔ L[q.1]? = some (some q.2) := by
  unfold ev_lv
  rw [List.mem_filterMap]
  constructor
  · rintro ⟨i, -, hi⟩
    revert hi
    split
    · rename_i v hv
      intro hi
      cases hi
      exact hv
    · intro hi
      cases hi
  · intro hq
    refine ⟨q.1, List.mem_range.mpr (List.getElem?_eq_some_iff.mp hq).1, ?_⟩
    rw [hq]
theorem ev_LR.has {ls : Array Slot} {nL : Nat} {L : List (Option Value)} (h : ev_LR ls nL L) : lv_has ls nL (ev_lv L) := ⟨h.1, h.2.1, fun q hq => h.2.2 _ _ (ev_lv_mem.mp hq)⟩
def ev_lo (o : Option Value) : Option Value := match o with
  | some (.long _) => none
  | some (.double _) => none
  | x => x
def ev_nx : List (Option Value) → List (Option Value)
  | [] => []
  | _ :: t => none :: t
def ev_st1 : List (Option Value) → Nat → Value → List (Option Value)
  | [], _, _ => []
  | _ :: t, 0, v => some v :: t
  | o :: t, 1, v => ev_lo o :: ev_st1 t 0 v
  | o :: t, i + 2, v => o :: ev_st1 t (i + 1) v
def ev_st2 : List (Option Value) → Nat → Value → List (Option Value)
  | [], _, _ => []
  | _ :: t, 0, v => some v :: ev_nx t
  | o :: t, 1, v => ev_lo o :: ev_st2 t 0 v
  | o :: t, i + 2, v => o :: ev_st2 t (i + 1) v
theorem ev_lo_some {o : Option Value} {w : Value} (h : ev_lo o = some w) : o = some w ∧ ¬ w.category = 2 := by
  cases o with
  | none => cases h
  | some x => cases x <;> simp [ev_lo] at h <;> (subst h; simp [Value.category])
theorem ev_st1_get : ∀ (L : List (Option Value)) (i : Nat) (v : Value) (j : Nat) (w : Value), (ev_st1 L i v)[j]? = some (some w) → (j = i ∧ w = v) ∨ (L[j]? = some (some w) ∧ j ≠ i ∧ ¬ (j + 1 = i ∧ w.category = 2)) := by
  intro L
  induction L with
  | nil => intro i v j w h; simp [ev_st1] at h
  | cons o t ih =>
    intro i v j w h
    match i with
    | 0 =>
      cases j with
      | zero => simp [ev_st1] at h; exact Or.inl ⟨rfl, h.symm⟩
      | succ j => simp [ev_st1] at h; exact Or.inr ⟨by simpa using h, by omega, by omega⟩
    | 1 =>
      cases j with
      | zero =>
        simp [ev_st1] at h
        obtain ⟨h1, h2⟩ := ev_lo_some h
        exact Or.inr ⟨by simp [h1], by omega, fun q => h2 q.2⟩
      | succ j =>
        simp [ev_st1] at h
        rcases ih 0 v j w h with ⟨h1, h2⟩ | ⟨h1, h2, h3⟩
        · exact Or.inl ⟨by omega, h2⟩
        · exact Or.inr ⟨by simpa using h1, by omega, by omega⟩
    | i + 2 =>
      cases j with
      | zero => simp [ev_st1] at h; exact Or.inr ⟨by simp [h], by omega, by omega⟩
      | succ j =>
        simp [ev_st1] at h
        rcases ih (i + 1) v j w h with ⟨h1, h2⟩ | ⟨h1, h2, h3⟩
        · exact Or.inl ⟨by omega, h2⟩
        · exact Or.inr ⟨by simpa using h1, by omega, fun q => h3 ⟨by omega, q.2⟩⟩
theorem ev_st2_get : ∀ (L : List (Option Value)) (i : Nat) (v : Value) (j : Nat) (w : Value), (ev_st2 L i v)[j]? = some (some w) → (j = i ∧ w = v) ∨ (L[j]? = some (some w) ∧ j ≠ i ∧ j ≠ i + 1 ∧ ¬ (j + 1 = i ∧ w.category = 2)) := by
  intro L
  induction L with
  | nil => intro i v j w h; simp [ev_st2] at h
  | cons o t ih =>
    intro i v j w h
    match i with
    | 0 =>
      cases j with
      | zero => simp [ev_st2] at h; exact Or.inl ⟨rfl, h.symm⟩
      | succ j =>
        cases t with
        | nil => simp [ev_st2, ev_nx] at h
        | cons o2 t2 =>
          cases j with
          | zero => simp [ev_st2, ev_nx] at h
          | succ j => simp [ev_st2, ev_nx] at h; exact Or.inr ⟨by simpa using h, by omega, by omega, by omega⟩
    | 1 =>
      cases j with
      | zero =>
        simp [ev_st2] at h
        obtain ⟨h1, h2⟩ := ev_lo_some h
        exact Or.inr ⟨by simp [h1], by omega, by omega, fun q => h2 q.2⟩
      | succ j =>
        simp [ev_st2] at h
        rcases ih 0 v j w h with ⟨h1, h2⟩ | ⟨h1, h2, h3, h4⟩
        · exact Or.inl ⟨by omega, h2⟩
        · exact Or.inr ⟨by simpa using h1, by omega, by omega, by omega⟩
    | i + 2 =>
      cases j with
      | zero => simp [ev_st2] at h; exact Or.inr ⟨by simp [h], by omega, by omega, by omega⟩
      | succ j =>
        simp [ev_st2] at h
        rcases ih (i + 1) v j w h with ⟨h1, h2⟩ | ⟨h1, h2, h3, h4⟩
        · exact Or.inl ⟨by omega, h2⟩
        · exact Or.inr ⟨by simpa using h1, by omega, by omega, fun q => h4 ⟨by omega, q.2⟩⟩
theorem ev_LR.st1 {ls' : Array Slot} {nL i : Nat} {L : List (Option Value)} {v : Value} (h' : lv_has ls' nL ((i, v) :: (ev_lv L).filter (fun q => !(q.1 == i) && !(q.1 + 1 == i && q.2.category == 2)))) : ev_LR ls' nL (ev_st1 L i v) := by
  refine ⟨h'.1, h'.2.1, fun j w hj => ?_⟩
  rcases ev_st1_get L i v j w hj with ⟨rfl, rfl⟩ | ⟨h1, h2, h3⟩
  · exact h'.2.2 (j, w) List.mem_cons_self
  · refine h'.2.2 (j, w) (List.mem_cons_of_mem _ (List.mem_filter.mpr ⟨ev_lv_mem.mpr h1, ?_⟩))
    simp only [Bool.and_eq_true, Bool.not_eq_true', beq_eq_false_iff_ne, Bool.and_eq_false_iff]
    refine ⟨h2, ?_⟩
    by_cases hq : j + 1 = i
    · exact Or.inr (fun z => h3 ⟨hq, z⟩)
    · exact Or.inl hq
theorem ev_LR.st2 {ls' : Array Slot} {nL i : Nat} {L : List (Option Value)} {v : Value} (h' : lv_has ls' nL ((i, v) :: (ev_lv L).filter (fun q => !(q.1 == i) && (!(q.1 == i + 1) && !(q.1 + 1 == i && q.2.category == 2))))) : ev_LR ls' nL (ev_st2 L i v) := by
  refine ⟨h'.1, h'.2.1, fun j w hj => ?_⟩
  rcases ev_st2_get L i v j w hj with ⟨rfl, rfl⟩ | ⟨h1, h2, h3, h4⟩
  · exact h'.2.2 (j, w) List.mem_cons_self
  · refine h'.2.2 (j, w) (List.mem_cons_of_mem _ (List.mem_filter.mpr ⟨ev_lv_mem.mpr h1, ?_⟩))
    simp only [Bool.and_eq_true, Bool.not_eq_true', beq_eq_false_iff_ne, Bool.and_eq_false_iff]
    refine ⟨h2, h3, ?_⟩
    by_cases hq : j + 1 = i
    · exact Or.inr (fun z => h4 ⟨hq, z⟩)
    · exact Or.inl hq
/-- the locals with which a method begins -/
def ev_ent : List Value → List (Option Value)
  | [] => []
  | v :: t => if v.category = 2 then some v :: none :: ev_ent t else some v :: ev_ent t
theorem ev_ent_get : ∀ (vs : List Value) (k j : Nat) (w : Value), (ev_ent vs)[j]? = some (some w) → (k + j, w) ∈ lv_args k vs := by
  intro vs
  induction vs with
  | nil => intro k j w h; simp [ev_ent] at h
  | cons v t ih =>
    intro k j w h
    unfold ev_ent at h
    unfold lv_args
    by_cases hc : v.category = 2
    · rw [if_pos hc] at h
      rw [if_pos hc]
      match j with
      | 0 => simp at h; subst h; exact List.mem_cons_self
      | 1 => simp at h
      | j + 2 =>
        simp at h
        have := ih (k + 2) j w h
        rw [show k + 2 + j = k + (j + 2) by omega] at this
        exact List.mem_cons_of_mem _ this
    · rw [if_neg hc] at h
      rw [if_neg hc]
      match j with
      | 0 => simp at h; subst h; exact List.mem_cons_self
      | j + 1 =>
        simp at h
        have := ih (k + 1) j w h
        rw [show k + 1 + j = k + (j + 1) by omega] at this
        exact List.mem_cons_of_mem _ this
theorem ev_LR.ent {vs : List Value} {n : Nat} (h : (lg_sl vs).length ≤ n) (m : Nat) : ev_LR ((lg_sl vs ++ List.replicate (n - (lg_sl vs).length) Slot.unset).toArray) n (ev_ent vs ++ List.replicate m none) := by
  have h1 := lv_entry vs h
  refine ⟨h1.1, h1.2.1, fun j w hj => ?_⟩
  by_cases hl : j < (ev_ent vs).length
  · rw [List.getElem?_append_left hl] at hj
    have := ev_ent_get vs 0 j w hj
    rw [Nat.zero_add] at this
    exact h1.2.2 _ this
  · rw [List.getElem?_append_right (by omega), List.getElem?_replicate] at hj
    split at hj
    · cases hj
    · cases hj
end
section
def ev_ret (M : xM) (pc : Nat) (v : Option Value) : Prop := match v with
  | none => decode M.2.1 pc = .ok (.return_, 1) ∧ M.2.2.2 = none
  | some (.int x) => decode M.2.1 pc = .ok (.ireturn, 1) ∧ ∃ ty : FieldType, M.2.2.2 = some ty ∧ narrow ty (.int x) = .int x
  | some (.long _) => decode M.2.1 pc = .ok (.lreturn, 1) ∧ M.2.2.2 = some .long
  | some (.ref _) => decode M.2.1 pc = .ok (.areturn, 1) ∧ ∃ nm : String, M.2.2.2 = some (.object nm)
  | some .null => decode M.2.1 pc = .ok (.areturn, 1) ∧ ∃ nm : String, M.2.2.2 = some (.object nm)
  | _ => False
abbrev ev_A (G : xG) : Nat → Prop := fun q => xB G ≤ q
def ev_Ctx (G : xG) (M : xM) (p : Program) (s : State) (m : MethodId) (args : Array Value) (meth : Method) (c : Code) : Prop :=
  p.tables.exec = Jvm.exec ∧ c.code = M.2.1 ∧ meth.sig.returnType = M.2.2.2 ∧ meth.locks = false ∧ c.maxLocals = M.2.2.1 ∧ s.vm.findClass M.1.cls = some m.cls ∧ (∀ w ∈ ev_T, w.before args s = true) ∧ ev_K G s ∧ meth.name = M.1.name ∧ xB G ≤ s.heap.size
/-- from this place the machine comes to the method's end with P; d: frames that may lie above, bc bs: cells and slots that may still be made -/
def ev_Run (G : xG) (l : Launch) (d bc bs : Nat) (M : xM) (pc : Nat) (L : List (Option Value)) (st : List Value) (h : xH) (n : Nat) (P : Option Value → xH → Nat → Prop) : Prop :=
  ∀ (p : Program) (e : Env) (s : State) (m : MethodId) (args : Array Value) (below : List Frame) (meth : Method) (c : Code) (R : Room) (Q : State → Prop) (H : Heap) (locs : List Loc) (cells slots : Nat) (ls : Array Slot),
    ev_Ctx G M p s m args meth c → d ≤ R.frames → d * 40 ≤ R.locals → cells + bc ≤ R.cells → slots + bs ≤ R.slots → ev_LR ls M.2.2.1 L → hp_R G h n H → va_S (ev_A G) s.heap H locs →
    (∀ (v : Option Value) (h' : xH) (n' : Nat) (H' : Heap) (locs' : List Loc) (cells' slots' pc' : Nat) (ls' : Array Slot), P v h' n' → hp_R G h' n' H' → va_S (ev_A G) s.heap H' locs' → cells' ≤ cells + bc → slots' ≤ slots + bs → ev_ret M pc' v →
      W p l e R s m args below meth c H' locs' cells' slots' Q (F0 m pc' ls' v.toList)) →
    W p l e R s m args below meth c H locs cells slots Q (F0 m pc ls st)
section EV
variable {G : xG} {l : Launch} {d bc bs : Nat} {M : xM} {pc : Nat} {L : List (Option Value)} {st : List Value} {h : xH} {n : Nat} {P : Option Value → xH → Nat → Prop}
theorem ev_Run.post {P' : Option Value → xH → Nat → Prop} (k : ev_Run G l d bc bs M pc L st h n P) (hP : ∀ v h' n', P v h' n' → P' v h' n') : ev_Run G l d bc bs M pc L st h n P' :=
  fun p e s m args below meth c R Q H locs cells slots ls C hf hlo hc hs hL hH hS hk => k p e s m args below meth c R Q H locs cells slots ls C hf hlo hc hs hL hH hS (fun v h' n' H' locs' cells' slots' pc' ls' q => hk v h' n' H' locs' cells' slots' pc' ls' (hP v h' n' q))
theorem ev_Run.deep {d' : Nat} (hd : d ≤ d') (k : ev_Run G l d bc bs M pc L st h n P) : ev_Run G l d' bc bs M pc L st h n P :=
  fun p e s m args below meth c R Q H locs cells slots ls C hf hlo hc hs hL hH hS hk => k p e s m args below meth c R Q H locs cells slots ls C (Nat.le_trans hd hf) (by omega) hc hs hL hH hS hk
theorem ev_Run.wide {bc' bs' : Nat} (h1 : bc ≤ bc') (h2 : bs ≤ bs') (k : ev_Run G l d bc bs M pc L st h n P) : ev_Run G l d bc' bs' M pc L st h n P :=
  fun p e s m args below meth c R Q H locs cells slots ls C hf hlo hc hs hL hH hS hk => k p e s m args below meth c R Q H locs cells slots ls C hf hlo (by omega) (by omega) hL hH hS (fun v h' n' H' locs' cells' slots' pc' ls' q q1 q2 q3 q4 q5 => hk v h' n' H' locs' cells' slots' pc' ls' q q1 q2 (by omega) (by omega) q5)
theorem ev_Run.loc {L' : List (Option Value)} (hl : L = L') (k : ev_Run G l d bc bs M pc L' st h n P) : ev_Run G l d bc bs M pc L st h n P := by
  subst hl; exact k
theorem ev_Run.heap {h' : xH} (hl : h = h') (k : ev_Run G l d bc bs M pc L st h' n P) : ev_Run G l d bc bs M pc L st h n P := by
  subst hl; exact k
theorem ev_iconst {z : Int} {v : Int32} (hd : decode M.2.1 pc = .ok (.iconst z, 1)) (hv : Int32.ofInt z = v) (k : ev_Run G l d bc bs M (pc + 1) L (.int v :: st) h n P) : ev_Run G l d bc bs M pc L st h n P :=
  fun p e s m args below meth c R Q H locs cells slots ls C hf hlo hc hs hL hH hS hk => lv_iconst C.1 C.2.1 hd hv (k p e s m args below meth c R Q H locs cells slots ls C hf hlo hc hs hL hH hS hk)
theorem ev_bipush {z : Int} {v : Int32} (hd : decode M.2.1 pc = .ok (.bipush z, 2)) (hv : (Int8.ofInt z).toInt32 = v) (k : ev_Run G l d bc bs M (pc + 2) L (.int v :: st) h n P) : ev_Run G l d bc bs M pc L st h n P :=
  fun p e s m args below meth c R Q H locs cells slots ls C hf hlo hc hs hL hH hS hk => lv_bipush C.1 C.2.1 hd hv (k p e s m args below meth c R Q H locs cells slots ls C hf hlo hc hs hL hH hS hk)
theorem ev_sipush {z : Int} {v : Int32} (hd : decode M.2.1 pc = .ok (.sipush z, 3)) (hv : (Int16.ofInt z).toInt32 = v) (k : ev_Run G l d bc bs M (pc + 3) L (.int v :: st) h n P) : ev_Run G l d bc bs M pc L st h n P :=
  fun p e s m args below meth c R Q H locs cells slots ls C hf hlo hc hs hL hH hS hk => lv_sipush C.1 C.2.1 hd hv (k p e s m args below meth c R Q H locs cells slots ls C hf hlo hc hs hL hH hS hk)
theorem ev_lconst {z : Fin 2} {v : Int64} (hd : decode M.2.1 pc = .ok (.lconst z, 1)) (hv : Int64.ofNat (z : Nat) = v) (k : ev_Run G l d bc bs M (pc + 1) L (.long v :: st) h n P) : ev_Run G l d bc bs M pc L st h n P :=
  fun p e s m args below meth c R Q H locs cells slots ls C hf hlo hc hs hL hH hS hk => lv_lconst C.1 C.2.1 hd hv (k p e s m args below meth c R Q H locs cells slots ls C hf hlo hc hs hL hH hS hk)
theorem ev_null (hd : decode M.2.1 pc = .ok (.aconst_null, 1)) (k : ev_Run G l d bc bs M (pc + 1) L (.null :: st) h n P) : ev_Run G l d bc bs M pc L st h n P :=
  fun p e s m args below meth c R Q H locs cells slots ls C hf hlo hc hs hL hH hS hk => lv_null C.1 C.2.1 hd (k p e s m args below meth c R Q H locs cells slots ls C hf hlo hc hs hL hH hS hk)
theorem ev_ldc {i : Nat} {v : Int32} (hd : decode M.2.1 pc = .ok (.ldc i, 2)) (hw : Jvm.Cond.constant M.1.cls i v ∈ ev_T) (k : ev_Run G l d bc bs M (pc + 2) L (.int v :: st) h n P) : ev_Run G l d bc bs M pc L st h n P :=
  fun p e s m args below meth c R Q H locs cells slots ls C hf hlo hc hs hL hH hS hk => lv_ldc C.1 C.2.1 C.2.2.2.2.2.1 (C.2.2.2.2.2.2.1 _ hw) hd (k p e s m args below meth c R Q H locs cells slots ls C hf hlo hc hs hL hH hS hk)
theorem ev_ldcw {i : Nat} {v : Int32} (hd : decode M.2.1 pc = .ok (.ldc_w i, 3)) (hw : Jvm.Cond.constant M.1.cls i v ∈ ev_T) (k : ev_Run G l d bc bs M (pc + 3) L (.int v :: st) h n P) : ev_Run G l d bc bs M pc L st h n P :=
  fun p e s m args below meth c R Q H locs cells slots ls C hf hlo hc hs hL hH hS hk => lv_ldcw C.1 C.2.1 C.2.2.2.2.2.1 (C.2.2.2.2.2.2.1 _ hw) hd (k p e s m args below meth c R Q H locs cells slots ls C hf hlo hc hs hL hH hS hk)
theorem ev_ldc2 {i : Nat} {v : Int64} (hd : decode M.2.1 pc = .ok (.ldc2_w i, 3)) (hw : Jvm.Cond.constantLong M.1.cls i v ∈ ev_T) (k : ev_Run G l d bc bs M (pc + 3) L (.long v :: st) h n P) : ev_Run G l d bc bs M pc L st h n P :=
  fun p e s m args below meth c R Q H locs cells slots ls C hf hlo hc hs hL hH hS hk => lv_ldc2 C.1 C.2.1 C.2.2.2.2.2.1 (C.2.2.2.2.2.2.1 _ hw) hd (k p e s m args below meth c R Q H locs cells slots ls C hf hlo hc hs hL hH hS hk)
theorem ev_iload_n {q : Fin 4} {i : Nat} {x : Int32} (hd : decode M.2.1 pc = .ok (.iload_n q, 1)) (hi : (q : Nat) = i) (hv : L[i]? = some (some (.int x))) (k : ev_Run G l d bc bs M (pc + 1) L (.int x :: st) h n P) : ev_Run G l d bc bs M pc L st h n P :=
  fun p e s m args below meth c R Q H locs cells slots ls C hf hlo hc hs hL hH hS hk => lv_iload_n C.1 C.2.1 hd hi (hL.2.2 _ _ hv) (k p e s m args below meth c R Q H locs cells slots ls C hf hlo hc hs hL hH hS hk)
theorem ev_iload {i : Nat} {x : Int32} (hd : decode M.2.1 pc = .ok (.iload i, 2)) (hv : L[i]? = some (some (.int x))) (k : ev_Run G l d bc bs M (pc + 2) L (.int x :: st) h n P) : ev_Run G l d bc bs M pc L st h n P :=
  fun p e s m args below meth c R Q H locs cells slots ls C hf hlo hc hs hL hH hS hk => lv_iload C.1 C.2.1 hd (hL.2.2 _ _ hv) (k p e s m args below meth c R Q H locs cells slots ls C hf hlo hc hs hL hH hS hk)
theorem ev_lload_n {q : Fin 4} {i : Nat} {x : Int64} (hd : decode M.2.1 pc = .ok (.lload_n q, 1)) (hi : (q : Nat) = i) (hv : L[i]? = some (some (.long x))) (k : ev_Run G l d bc bs M (pc + 1) L (.long x :: st) h n P) : ev_Run G l d bc bs M pc L st h n P :=
  fun p e s m args below meth c R Q H locs cells slots ls C hf hlo hc hs hL hH hS hk => lv_lload_n C.1 C.2.1 hd hi (hL.2.2 _ _ hv) (k p e s m args below meth c R Q H locs cells slots ls C hf hlo hc hs hL hH hS hk)
theorem ev_lload {i : Nat} {x : Int64} (hd : decode M.2.1 pc = .ok (.lload i, 2)) (hv : L[i]? = some (some (.long x))) (k : ev_Run G l d bc bs M (pc + 2) L (.long x :: st) h n P) : ev_Run G l d bc bs M pc L st h n P :=
  fun p e s m args below meth c R Q H locs cells slots ls C hf hlo hc hs hL hH hS hk => lv_lload C.1 C.2.1 hd (hL.2.2 _ _ hv) (k p e s m args below meth c R Q H locs cells slots ls C hf hlo hc hs hL hH hS hk)
theorem ev_aload_n {q : Fin 4} {i : Nat} {x : Nat} (hd : decode M.2.1 pc = .ok (.aload_n q, 1)) (hi : (q : Nat) = i) (hv : L[i]? = some (some (.ref x))) (k : ev_Run G l d bc bs M (pc + 1) L (.ref x :: st) h n P) : ev_Run G l d bc bs M pc L st h n P :=
  fun p e s m args below meth c R Q H locs cells slots ls C hf hlo hc hs hL hH hS hk => lv_aload_n C.1 C.2.1 hd hi (hL.2.2 _ _ hv) (k p e s m args below meth c R Q H locs cells slots ls C hf hlo hc hs hL hH hS hk)
theorem ev_aload {i : Nat} {x : Nat} (hd : decode M.2.1 pc = .ok (.aload i, 2)) (hv : L[i]? = some (some (.ref x))) (k : ev_Run G l d bc bs M (pc + 2) L (.ref x :: st) h n P) : ev_Run G l d bc bs M pc L st h n P :=
  fun p e s m args below meth c R Q H locs cells slots ls C hf hlo hc hs hL hH hS hk => lv_aload C.1 C.2.1 hd (hL.2.2 _ _ hv) (k p e s m args below meth c R Q H locs cells slots ls C hf hlo hc hs hL hH hS hk)
theorem ev_aload_nN {q : Fin 4} {i : Nat} (hd : decode M.2.1 pc = .ok (.aload_n q, 1)) (hi : (q : Nat) = i) (hv : L[i]? = some (some .null)) (k : ev_Run G l d bc bs M (pc + 1) L (.null :: st) h n P) : ev_Run G l d bc bs M pc L st h n P :=
  fun p e s m args below meth c R Q H locs cells slots ls C hf hlo hc hs hL hH hS hk => lv_aload_nN C.1 C.2.1 hd hi (hL.2.2 _ _ hv) (k p e s m args below meth c R Q H locs cells slots ls C hf hlo hc hs hL hH hS hk)
theorem ev_aloadN {i : Nat} (hd : decode M.2.1 pc = .ok (.aload i, 2)) (hv : L[i]? = some (some .null)) (k : ev_Run G l d bc bs M (pc + 2) L (.null :: st) h n P) : ev_Run G l d bc bs M pc L st h n P :=
  fun p e s m args below meth c R Q H locs cells slots ls C hf hlo hc hs hL hH hS hk => lv_aloadN C.1 C.2.1 hd (hL.2.2 _ _ hv) (k p e s m args below meth c R Q H locs cells slots ls C hf hlo hc hs hL hH hS hk)
theorem ev_istore_n {q : Fin 4} {i : Nat} {x : Int32} (hd : decode M.2.1 pc = .ok (.istore_n q, 1)) (hi : (q : Nat) = i) (hn : i < M.2.2.1) (k : ev_Run G l d bc bs M (pc + 1) (ev_st1 L i (.int x)) st h n P) : ev_Run G l d bc bs M pc L ((.int x) :: st) h n P :=
  fun p e s m args below meth c R Q H locs cells slots ls C hf hlo hc hs hL hH hS hk => lv_istore_n C.1 C.2.1 hd hi hL.has hn rfl (fun ls' hl' => k p e s m args below meth c R Q H locs cells slots ls' C hf hlo hc hs (ev_LR.st1 hl') hH hS hk)
theorem ev_istore {i : Nat} {x : Int32} (hd : decode M.2.1 pc = .ok (.istore i, 2)) (hn : i < M.2.2.1) (k : ev_Run G l d bc bs M (pc + 2) (ev_st1 L i (.int x)) st h n P) : ev_Run G l d bc bs M pc L ((.int x) :: st) h n P :=
  fun p e s m args below meth c R Q H locs cells slots ls C hf hlo hc hs hL hH hS hk => lv_istore C.1 C.2.1 hd hL.has hn rfl (fun ls' hl' => k p e s m args below meth c R Q H locs cells slots ls' C hf hlo hc hs (ev_LR.st1 hl') hH hS hk)
theorem ev_lstore_n {q : Fin 4} {i : Nat} {x : Int64} (hd : decode M.2.1 pc = .ok (.lstore_n q, 1)) (hi : (q : Nat) = i) (hn : i + 1 < M.2.2.1) (k : ev_Run G l d bc bs M (pc + 1) (ev_st2 L i (.long x)) st h n P) : ev_Run G l d bc bs M pc L ((.long x) :: st) h n P :=
  fun p e s m args below meth c R Q H locs cells slots ls C hf hlo hc hs hL hH hS hk => lv_lstore_n C.1 C.2.1 hd hi hL.has hn rfl (fun ls' hl' => k p e s m args below meth c R Q H locs cells slots ls' C hf hlo hc hs (ev_LR.st2 hl') hH hS hk)
theorem ev_lstore {i : Nat} {x : Int64} (hd : decode M.2.1 pc = .ok (.lstore i, 2)) (hn : i + 1 < M.2.2.1) (k : ev_Run G l d bc bs M (pc + 2) (ev_st2 L i (.long x)) st h n P) : ev_Run G l d bc bs M pc L ((.long x) :: st) h n P :=
  fun p e s m args below meth c R Q H locs cells slots ls C hf hlo hc hs hL hH hS hk => lv_lstore C.1 C.2.1 hd hL.has hn rfl (fun ls' hl' => k p e s m args below meth c R Q H locs cells slots ls' C hf hlo hc hs (ev_LR.st2 hl') hH hS hk)
theorem ev_astore_n {q : Fin 4} {i : Nat} {x : Nat} (hd : decode M.2.1 pc = .ok (.astore_n q, 1)) (hi : (q : Nat) = i) (hn : i < M.2.2.1) (k : ev_Run G l d bc bs M (pc + 1) (ev_st1 L i (.ref x)) st h n P) : ev_Run G l d bc bs M pc L ((.ref x) :: st) h n P :=
  fun p e s m args below meth c R Q H locs cells slots ls C hf hlo hc hs hL hH hS hk => lv_astore_n C.1 C.2.1 hd hi hL.has hn rfl (fun ls' hl' => k p e s m args below meth c R Q H locs cells slots ls' C hf hlo hc hs (ev_LR.st1 hl') hH hS hk)
theorem ev_astore {i : Nat} {x : Nat} (hd : decode M.2.1 pc = .ok (.astore i, 2)) (hn : i < M.2.2.1) (k : ev_Run G l d bc bs M (pc + 2) (ev_st1 L i (.ref x)) st h n P) : ev_Run G l d bc bs M pc L ((.ref x) :: st) h n P :=
  fun p e s m args below meth c R Q H locs cells slots ls C hf hlo hc hs hL hH hS hk => lv_astore C.1 C.2.1 hd hL.has hn rfl (fun ls' hl' => k p e s m args below meth c R Q H locs cells slots ls' C hf hlo hc hs (ev_LR.st1 hl') hH hS hk)
theorem ev_astore_nN {q : Fin 4} {i : Nat} (hd : decode M.2.1 pc = .ok (.astore_n q, 1)) (hi : (q : Nat) = i) (hn : i < M.2.2.1) (k : ev_Run G l d bc bs M (pc + 1) (ev_st1 L i .null) st h n P) : ev_Run G l d bc bs M pc L (.null :: st) h n P :=
  fun p e s m args below meth c R Q H locs cells slots ls C hf hlo hc hs hL hH hS hk => lv_astore_nN C.1 C.2.1 hd hi hL.has hn rfl (fun ls' hl' => k p e s m args below meth c R Q H locs cells slots ls' C hf hlo hc hs (ev_LR.st1 hl') hH hS hk)
theorem ev_astoreN {i : Nat} (hd : decode M.2.1 pc = .ok (.astore i, 2)) (hn : i < M.2.2.1) (k : ev_Run G l d bc bs M (pc + 2) (ev_st1 L i .null) st h n P) : ev_Run G l d bc bs M pc L (.null :: st) h n P :=
  fun p e s m args below meth c R Q H locs cells slots ls C hf hlo hc hs hL hH hS hk => lv_astoreN C.1 C.2.1 hd hL.has hn rfl (fun ls' hl' => k p e s m args below meth c R Q H locs cells slots ls' C hf hlo hc hs (ev_LR.st1 hl') hH hS hk)
theorem ev_iinc {i : Nat} {z : Int} {x v : Int32} (hd : decode M.2.1 pc = .ok (.iinc i z, 3)) (hx : L[i]? = some (some (.int x))) (hv : x + Int32.ofInt z = v) (hn : i < M.2.2.1) (k : ev_Run G l d bc bs M (pc + 3) (ev_st1 L i (.int v)) st h n P) : ev_Run G l d bc bs M pc L st h n P := by
  intro p e s m args below meth c R Q H locs cells slots ls C hf hlo hc hs hL hH hS hk
  obtain ⟨j, hj⟩ := List.getElem?_of_mem (ev_lv_mem (q := (i, .int x)).mpr hx)
  exact lv_iinc C.1 C.2.1 hd hL.has hj hv hn rfl (fun ls' hl' => k p e s m args below meth c R Q H locs cells slots ls' C hf hlo hc hs (ev_LR.st1 hl') hH hS hk)
theorem ev_iadd {x y : Int32} (hd : decode M.2.1 pc = .ok (.iadd, 1)) (k : ev_Run G l d bc bs M (pc + 1) L (.int (x + y) :: st) h n P) : ev_Run G l d bc bs M pc L (.int y :: .int x :: st) h n P :=
  fun p e s m args below meth c R Q H locs cells slots ls C hf hlo hc hs hL hH hS hk => lv_iadd C.1 C.2.1 hd (k p e s m args below meth c R Q H locs cells slots ls C hf hlo hc hs hL hH hS hk)
theorem ev_isub {x y : Int32} (hd : decode M.2.1 pc = .ok (.isub, 1)) (k : ev_Run G l d bc bs M (pc + 1) L (.int (x - y) :: st) h n P) : ev_Run G l d bc bs M pc L (.int y :: .int x :: st) h n P :=
  fun p e s m args below meth c R Q H locs cells slots ls C hf hlo hc hs hL hH hS hk => lv_isub C.1 C.2.1 hd (k p e s m args below meth c R Q H locs cells slots ls C hf hlo hc hs hL hH hS hk)
theorem ev_imul {x y : Int32} (hd : decode M.2.1 pc = .ok (.imul, 1)) (k : ev_Run G l d bc bs M (pc + 1) L (.int (x * y) :: st) h n P) : ev_Run G l d bc bs M pc L (.int y :: .int x :: st) h n P :=
  fun p e s m args below meth c R Q H locs cells slots ls C hf hlo hc hs hL hH hS hk => lv_imul C.1 C.2.1 hd (k p e s m args below meth c R Q H locs cells slots ls C hf hlo hc hs hL hH hS hk)
theorem ev_iand {x y : Int32} (hd : decode M.2.1 pc = .ok (.iand, 1)) (k : ev_Run G l d bc bs M (pc + 1) L (.int (x &&& y) :: st) h n P) : ev_Run G l d bc bs M pc L (.int y :: .int x :: st) h n P :=
  fun p e s m args below meth c R Q H locs cells slots ls C hf hlo hc hs hL hH hS hk => lv_iand C.1 C.2.1 hd (k p e s m args below meth c R Q H locs cells slots ls C hf hlo hc hs hL hH hS hk)
theorem ev_ior {x y : Int32} (hd : decode M.2.1 pc = .ok (.ior, 1)) (k : ev_Run G l d bc bs M (pc + 1) L (.int (x ||| y) :: st) h n P) : ev_Run G l d bc bs M pc L (.int y :: .int x :: st) h n P :=
  fun p e s m args below meth c R Q H locs cells slots ls C hf hlo hc hs hL hH hS hk => lv_ior C.1 C.2.1 hd (k p e s m args below meth c R Q H locs cells slots ls C hf hlo hc hs hL hH hS hk)
theorem ev_ixor {x y : Int32} (hd : decode M.2.1 pc = .ok (.ixor, 1)) (k : ev_Run G l d bc bs M (pc + 1) L (.int (x ^^^ y) :: st) h n P) : ev_Run G l d bc bs M pc L (.int y :: .int x :: st) h n P :=
  fun p e s m args below meth c R Q H locs cells slots ls C hf hlo hc hs hL hH hS hk => lv_ixor C.1 C.2.1 hd (k p e s m args below meth c R Q H locs cells slots ls C hf hlo hc hs hL hH hS hk)
theorem ev_ishl {x y : Int32} (hd : decode M.2.1 pc = .ok (.ishl, 1)) (k : ev_Run G l d bc bs M (pc + 1) L (.int (x <<< (y &&& 31)) :: st) h n P) : ev_Run G l d bc bs M pc L (.int y :: .int x :: st) h n P :=
  fun p e s m args below meth c R Q H locs cells slots ls C hf hlo hc hs hL hH hS hk => lv_ishl C.1 C.2.1 hd (k p e s m args below meth c R Q H locs cells slots ls C hf hlo hc hs hL hH hS hk)
theorem ev_ishr {x y : Int32} (hd : decode M.2.1 pc = .ok (.ishr, 1)) (k : ev_Run G l d bc bs M (pc + 1) L (.int (x >>> (y &&& 31)) :: st) h n P) : ev_Run G l d bc bs M pc L (.int y :: .int x :: st) h n P :=
  fun p e s m args below meth c R Q H locs cells slots ls C hf hlo hc hs hL hH hS hk => lv_ishr C.1 C.2.1 hd (k p e s m args below meth c R Q H locs cells slots ls C hf hlo hc hs hL hH hS hk)
theorem ev_idiv {x y : Int32} (hd : decode M.2.1 pc = .ok (.idiv, 1)) (hne : ¬ y = 0) (k : ev_Run G l d bc bs M (pc + 1) L (.int (x / y) :: st) h n P) : ev_Run G l d bc bs M pc L (.int y :: .int x :: st) h n P :=
  fun p e s m args below meth c R Q H locs cells slots ls C hf hlo hc hs hL hH hS hk => lv_idiv C.1 C.2.1 hd hne (k p e s m args below meth c R Q H locs cells slots ls C hf hlo hc hs hL hH hS hk)
theorem ev_irem {x y : Int32} (hd : decode M.2.1 pc = .ok (.irem, 1)) (hne : ¬ y = 0) (k : ev_Run G l d bc bs M (pc + 1) L (.int (x - x / y * y) :: st) h n P) : ev_Run G l d bc bs M pc L (.int y :: .int x :: st) h n P :=
  fun p e s m args below meth c R Q H locs cells slots ls C hf hlo hc hs hL hH hS hk => lv_irem C.1 C.2.1 hd hne (k p e s m args below meth c R Q H locs cells slots ls C hf hlo hc hs hL hH hS hk)
theorem ev_ineg {x : Int32} (hd : decode M.2.1 pc = .ok (.ineg, 1)) (k : ev_Run G l d bc bs M (pc + 1) L (.int (-x) :: st) h n P) : ev_Run G l d bc bs M pc L (.int x :: st) h n P :=
  fun p e s m args below meth c R Q H locs cells slots ls C hf hlo hc hs hL hH hS hk => lv_ineg C.1 C.2.1 hd (k p e s m args below meth c R Q H locs cells slots ls C hf hlo hc hs hL hH hS hk)
theorem ev_ladd {x y : Int64} (hd : decode M.2.1 pc = .ok (.ladd, 1)) (k : ev_Run G l d bc bs M (pc + 1) L (.long (x + y) :: st) h n P) : ev_Run G l d bc bs M pc L (.long y :: .long x :: st) h n P :=
  fun p e s m args below meth c R Q H locs cells slots ls C hf hlo hc hs hL hH hS hk => lv_ladd C.1 C.2.1 hd (k p e s m args below meth c R Q H locs cells slots ls C hf hlo hc hs hL hH hS hk)
theorem ev_lsub {x y : Int64} (hd : decode M.2.1 pc = .ok (.lsub, 1)) (k : ev_Run G l d bc bs M (pc + 1) L (.long (x - y) :: st) h n P) : ev_Run G l d bc bs M pc L (.long y :: .long x :: st) h n P :=
  fun p e s m args below meth c R Q H locs cells slots ls C hf hlo hc hs hL hH hS hk => lv_lsub C.1 C.2.1 hd (k p e s m args below meth c R Q H locs cells slots ls C hf hlo hc hs hL hH hS hk)
theorem ev_lmul {x y : Int64} (hd : decode M.2.1 pc = .ok (.lmul, 1)) (k : ev_Run G l d bc bs M (pc + 1) L (.long (x * y) :: st) h n P) : ev_Run G l d bc bs M pc L (.long y :: .long x :: st) h n P :=
  fun p e s m args below meth c R Q H locs cells slots ls C hf hlo hc hs hL hH hS hk => lv_lmul C.1 C.2.1 hd (k p e s m args below meth c R Q H locs cells slots ls C hf hlo hc hs hL hH hS hk)
theorem ev_land {x y : Int64} (hd : decode M.2.1 pc = .ok (.land, 1)) (k : ev_Run G l d bc bs M (pc + 1) L (.long (x &&& y) :: st) h n P) : ev_Run G l d bc bs M pc L (.long y :: .long x :: st) h n P :=
  fun p e s m args below meth c R Q H locs cells slots ls C hf hlo hc hs hL hH hS hk => lv_land C.1 C.2.1 hd (k p e s m args below meth c R Q H locs cells slots ls C hf hlo hc hs hL hH hS hk)
theorem ev_lor {x y : Int64} (hd : decode M.2.1 pc = .ok (.lor, 1)) (k : ev_Run G l d bc bs M (pc + 1) L (.long (x ||| y) :: st) h n P) : ev_Run G l d bc bs M pc L (.long y :: .long x :: st) h n P :=
  fun p e s m args below meth c R Q H locs cells slots ls C hf hlo hc hs hL hH hS hk => lv_lor C.1 C.2.1 hd (k p e s m args below meth c R Q H locs cells slots ls C hf hlo hc hs hL hH hS hk)
theorem ev_lxor {x y : Int64} (hd : decode M.2.1 pc = .ok (.lxor, 1)) (k : ev_Run G l d bc bs M (pc + 1) L (.long (x ^^^ y) :: st) h n P) : ev_Run G l d bc bs M pc L (.long y :: .long x :: st) h n P :=
  fun p e s m args below meth c R Q H locs cells slots ls C hf hlo hc hs hL hH hS hk => lv_lxor C.1 C.2.1 hd (k p e s m args below meth c R Q H locs cells slots ls C hf hlo hc hs hL hH hS hk)
theorem ev_ldiv {x y : Int64} (hd : decode M.2.1 pc = .ok (.ldiv, 1)) (hne : ¬ y = 0) (k : ev_Run G l d bc bs M (pc + 1) L (.long (x / y) :: st) h n P) : ev_Run G l d bc bs M pc L (.long y :: .long x :: st) h n P :=
  fun p e s m args below meth c R Q H locs cells slots ls C hf hlo hc hs hL hH hS hk => lv_ldiv C.1 C.2.1 hd hne (k p e s m args below meth c R Q H locs cells slots ls C hf hlo hc hs hL hH hS hk)
theorem ev_lrem {x y : Int64} (hd : decode M.2.1 pc = .ok (.lrem, 1)) (hne : ¬ y = 0) (k : ev_Run G l d bc bs M (pc + 1) L (.long (x - x / y * y) :: st) h n P) : ev_Run G l d bc bs M pc L (.long y :: .long x :: st) h n P :=
  fun p e s m args below meth c R Q H locs cells slots ls C hf hlo hc hs hL hH hS hk => lv_lrem C.1 C.2.1 hd hne (k p e s m args below meth c R Q H locs cells slots ls C hf hlo hc hs hL hH hS hk)
theorem ev_lneg {x : Int64} (hd : decode M.2.1 pc = .ok (.lneg, 1)) (k : ev_Run G l d bc bs M (pc + 1) L (.long (-x) :: st) h n P) : ev_Run G l d bc bs M pc L (.long x :: st) h n P :=
  fun p e s m args below meth c R Q H locs cells slots ls C hf hlo hc hs hL hH hS hk => lv_lneg C.1 C.2.1 hd (k p e s m args below meth c R Q H locs cells slots ls C hf hlo hc hs hL hH hS hk)
theorem ev_lshl {x : Int64} {y : Int32} (hd : decode M.2.1 pc = .ok (.lshl, 1)) (k : ev_Run G l d bc bs M (pc + 1) L (.long (x <<< (y.toInt64 &&& 63)) :: st) h n P) : ev_Run G l d bc bs M pc L (.int y :: .long x :: st) h n P :=
  fun p e s m args below meth c R Q H locs cells slots ls C hf hlo hc hs hL hH hS hk => lv_lshl C.1 C.2.1 hd rfl (k p e s m args below meth c R Q H locs cells slots ls C hf hlo hc hs hL hH hS hk)
theorem ev_i2l {x : Int32} (hd : decode M.2.1 pc = .ok (.i2l, 1)) (k : ev_Run G l d bc bs M (pc + 1) L (.long x.toInt64 :: st) h n P) : ev_Run G l d bc bs M pc L (.int x :: st) h n P :=
  fun p e s m args below meth c R Q H locs cells slots ls C hf hlo hc hs hL hH hS hk => lv_i2l C.1 C.2.1 hd rfl (k p e s m args below meth c R Q H locs cells slots ls C hf hlo hc hs hL hH hS hk)
theorem ev_l2i {x : Int64} (hd : decode M.2.1 pc = .ok (.l2i, 1)) (k : ev_Run G l d bc bs M (pc + 1) L (.int x.toInt32 :: st) h n P) : ev_Run G l d bc bs M pc L (.long x :: st) h n P :=
  fun p e s m args below meth c R Q H locs cells slots ls C hf hlo hc hs hL hH hS hk => lv_l2i C.1 C.2.1 hd rfl (k p e s m args below meth c R Q H locs cells slots ls C hf hlo hc hs hL hH hS hk)
theorem ev_i2c {x : Int32} (hd : decode M.2.1 pc = .ok (.i2c, 1)) (k : ev_Run G l d bc bs M (pc + 1) L (.int (x.toUInt32 % 65536).toInt32 :: st) h n P) : ev_Run G l d bc bs M pc L (.int x :: st) h n P :=
  fun p e s m args below meth c R Q H locs cells slots ls C hf hlo hc hs hL hH hS hk => lv_i2c C.1 C.2.1 hd rfl (k p e s m args below meth c R Q H locs cells slots ls C hf hlo hc hs hL hH hS hk)
theorem ev_i2b {x : Int32} (hd : decode M.2.1 pc = .ok (.i2b, 1)) (k : ev_Run G l d bc bs M (pc + 1) L (.int x.toInt8.toInt32 :: st) h n P) : ev_Run G l d bc bs M pc L (.int x :: st) h n P :=
  fun p e s m args below meth c R Q H locs cells slots ls C hf hlo hc hs hL hH hS hk => lv_i2b C.1 C.2.1 hd rfl (k p e s m args below meth c R Q H locs cells slots ls C hf hlo hc hs hL hH hS hk)
theorem ev_lcmp {x y : Int64} (hd : decode M.2.1 pc = .ok (.lcmp, 1)) (k : ev_Run G l d bc bs M (pc + 1) L (.int (lg_cmp x y) :: st) h n P) : ev_Run G l d bc bs M pc L (.long y :: .long x :: st) h n P :=
  fun p e s m args below meth c R Q H locs cells slots ls C hf hlo hc hs hL hH hS hk => W.lcmp C.1 C.2.1 hd (k p e s m args below meth c R Q H locs cells slots ls C hf hlo hc hs hL hH hS hk)
theorem ev_dup {va : Value} (hd : decode M.2.1 pc = .ok (.dup, 1)) (hva : va.category = 1) (k : ev_Run G l d bc bs M (pc + 1) L (va :: va :: st) h n P) : ev_Run G l d bc bs M pc L (va :: st) h n P :=
  fun p e s m args below meth c R Q H locs cells slots ls C hf hlo hc hs hL hH hS hk => lv_dup C.1 C.2.1 hd hva (k p e s m args below meth c R Q H locs cells slots ls C hf hlo hc hs hL hH hS hk)
theorem ev_pop {va : Value} (hd : decode M.2.1 pc = .ok (.pop, 1)) (hva : va.category = 1) (k : ev_Run G l d bc bs M (pc + 1) L st h n P) : ev_Run G l d bc bs M pc L (va :: st) h n P :=
  fun p e s m args below meth c R Q H locs cells slots ls C hf hlo hc hs hL hH hS hk => lv_pop C.1 C.2.1 hd hva (k p e s m args below meth c R Q H locs cells slots ls C hf hlo hc hs hL hH hS hk)
theorem ev_dup_x1 {va vb : Value} (hd : decode M.2.1 pc = .ok (.dup_x1, 1)) (hva : va.category = 1) (hvb : vb.category = 1) (k : ev_Run G l d bc bs M (pc + 1) L (va :: vb :: va :: st) h n P) : ev_Run G l d bc bs M pc L (va :: vb :: st) h n P :=
  fun p e s m args below meth c R Q H locs cells slots ls C hf hlo hc hs hL hH hS hk => lv_dup_x1 C.1 C.2.1 hd hva hvb (k p e s m args below meth c R Q H locs cells slots ls C hf hlo hc hs hL hH hS hk)
theorem ev_dup_x2 {va vb vd : Value} (hd : decode M.2.1 pc = .ok (.dup_x2, 1)) (hva : va.category = 1) (hvb : vb.category = 1) (hvd : vd.category = 1) (k : ev_Run G l d bc bs M (pc + 1) L (va :: vb :: vd :: va :: st) h n P) : ev_Run G l d bc bs M pc L (va :: vb :: vd :: st) h n P :=
  fun p e s m args below meth c R Q H locs cells slots ls C hf hlo hc hs hL hH hS hk => lv_dup_x2 C.1 C.2.1 hd hva hvb hvd (k p e s m args below meth c R Q H locs cells slots ls C hf hlo hc hs hL hH hS hk)
theorem ev_dup2_11 {va vb : Value} (hd : decode M.2.1 pc = .ok (.dup2, 1)) (hva : va.category = 1) (hvb : vb.category = 1) (k : ev_Run G l d bc bs M (pc + 1) L (va :: vb :: va :: vb :: st) h n P) : ev_Run G l d bc bs M pc L (va :: vb :: st) h n P :=
  fun p e s m args below meth c R Q H locs cells slots ls C hf hlo hc hs hL hH hS hk => lv_dup2_11 C.1 C.2.1 hd hva hvb (k p e s m args below meth c R Q H locs cells slots ls C hf hlo hc hs hL hH hS hk)
theorem ev_dup2_2 {va : Value} (hd : decode M.2.1 pc = .ok (.dup2, 1)) (hva : va.category = 2) (k : ev_Run G l d bc bs M (pc + 1) L (va :: va :: st) h n P) : ev_Run G l d bc bs M pc L (va :: st) h n P :=
  fun p e s m args below meth c R Q H locs cells slots ls C hf hlo hc hs hL hH hS hk => lv_dup2_2 C.1 C.2.1 hd hva (k p e s m args below meth c R Q H locs cells slots ls C hf hlo hc hs hL hH hS hk)
theorem ev_pop2_2 {va : Value} (hd : decode M.2.1 pc = .ok (.pop2, 1)) (hva : va.category = 2) (k : ev_Run G l d bc bs M (pc + 1) L st h n P) : ev_Run G l d bc bs M pc L (va :: st) h n P :=
  fun p e s m args below meth c R Q H locs cells slots ls C hf hlo hc hs hL hH hS hk => lv_pop2_2 C.1 C.2.1 hd hva (k p e s m args below meth c R Q H locs cells slots ls C hf hlo hc hs hL hH hS hk)
theorem ev_dup2_x1_2 {va vb : Value} (hd : decode M.2.1 pc = .ok (.dup2_x1, 1)) (hva : va.category = 2) (hvb : vb.category = 1) (k : ev_Run G l d bc bs M (pc + 1) L (va :: vb :: va :: st) h n P) : ev_Run G l d bc bs M pc L (va :: vb :: st) h n P :=
  fun p e s m args below meth c R Q H locs cells slots ls C hf hlo hc hs hL hH hS hk => lv_dup2_x1_2 C.1 C.2.1 hd hva hvb (k p e s m args below meth c R Q H locs cells slots ls C hf hlo hc hs hL hH hS hk)
theorem ev_dup2_x2_2 {va vb vd : Value} (hd : decode M.2.1 pc = .ok (.dup2_x2, 1)) (hva : va.category = 2) (hvb : vb.category = 1) (hvd : vd.category = 1) (k : ev_Run G l d bc bs M (pc + 1) L (va :: vb :: vd :: va :: st) h n P) : ev_Run G l d bc bs M pc L (va :: vb :: vd :: st) h n P :=
  fun p e s m args below meth c R Q H locs cells slots ls C hf hlo hc hs hL hH hS hk => lv_dup2_x2_2 C.1 C.2.1 hd hva hvb hvd (k p e s m args below meth c R Q H locs cells slots ls C hf hlo hc hs hL hH hS hk)
theorem ev_goto {off : Int} {tgt : Nat} (hd : decode M.2.1 pc = .ok (.goto off, 3)) (ht : (pc : Int) + off = (tgt : Int)) (k : ev_Run G l d bc bs M tgt L st h n P) : ev_Run G l d bc bs M pc L st h n P :=
  fun p e s m args below meth c R Q H locs cells slots ls C hf hlo hc hs hL hH hS hk => lv_goto C.1 C.2.1 hd ht (k p e s m args below meth c R Q H locs cells slots ls C hf hlo hc hs hL hH hS hk)
theorem ev_if_eq {x : Int32} {off : Int} {tgt : Nat} (hd : decode M.2.1 pc = .ok (.ifCond .eq off, 3)) (ht : (pc : Int) + off = (tgt : Int)) (kt : x = 0 → ev_Run G l d bc bs M tgt L st h n P) (kf : ¬ x = 0 → ev_Run G l d bc bs M (pc + 3) L st h n P) : ev_Run G l d bc bs M pc L (.int x :: st) h n P :=
  fun p e s m args below meth c R Q H locs cells slots ls C hf hlo hc hs hL hH hS hk => lv_if_eq C.1 C.2.1 hd ht (fun q => kt q p e s m args below meth c R Q H locs cells slots ls C hf hlo hc hs hL hH hS hk) (fun q => kf q p e s m args below meth c R Q H locs cells slots ls C hf hlo hc hs hL hH hS hk)
theorem ev_icmp_eq {x y : Int32} {off : Int} {tgt : Nat} (hd : decode M.2.1 pc = .ok (.if_icmp .eq off, 3)) (ht : (pc : Int) + off = (tgt : Int)) (kt : x = y → ev_Run G l d bc bs M tgt L st h n P) (kf : ¬ x = y → ev_Run G l d bc bs M (pc + 3) L st h n P) : ev_Run G l d bc bs M pc L (.int y :: .int x :: st) h n P :=
  fun p e s m args below meth c R Q H locs cells slots ls C hf hlo hc hs hL hH hS hk => lv_icmp_eq C.1 C.2.1 hd ht (fun q => kt q p e s m args below meth c R Q H locs cells slots ls C hf hlo hc hs hL hH hS hk) (fun q => kf q p e s m args below meth c R Q H locs cells slots ls C hf hlo hc hs hL hH hS hk)
theorem ev_if_ne {x : Int32} {off : Int} {tgt : Nat} (hd : decode M.2.1 pc = .ok (.ifCond .ne off, 3)) (ht : (pc : Int) + off = (tgt : Int)) (kt : ¬ x = 0 → ev_Run G l d bc bs M tgt L st h n P) (kf : x = 0 → ev_Run G l d bc bs M (pc + 3) L st h n P) : ev_Run G l d bc bs M pc L (.int x :: st) h n P :=
  fun p e s m args below meth c R Q H locs cells slots ls C hf hlo hc hs hL hH hS hk => lv_if_ne C.1 C.2.1 hd ht (fun q => kt q p e s m args below meth c R Q H locs cells slots ls C hf hlo hc hs hL hH hS hk) (fun q => kf q p e s m args below meth c R Q H locs cells slots ls C hf hlo hc hs hL hH hS hk)
theorem ev_icmp_ne {x y : Int32} {off : Int} {tgt : Nat} (hd : decode M.2.1 pc = .ok (.if_icmp .ne off, 3)) (ht : (pc : Int) + off = (tgt : Int)) (kt : ¬ x = y → ev_Run G l d bc bs M tgt L st h n P) (kf : x = y → ev_Run G l d bc bs M (pc + 3) L st h n P) : ev_Run G l d bc bs M pc L (.int y :: .int x :: st) h n P :=
  fun p e s m args below meth c R Q H locs cells slots ls C hf hlo hc hs hL hH hS hk => lv_icmp_ne C.1 C.2.1 hd ht (fun q => kt q p e s m args below meth c R Q H locs cells slots ls C hf hlo hc hs hL hH hS hk) (fun q => kf q p e s m args below meth c R Q H locs cells slots ls C hf hlo hc hs hL hH hS hk)
theorem ev_if_lt {x : Int32} {off : Int} {tgt : Nat} (hd : decode M.2.1 pc = .ok (.ifCond .lt off, 3)) (ht : (pc : Int) + off = (tgt : Int)) (kt : x < 0 → ev_Run G l d bc bs M tgt L st h n P) (kf : ¬ x < 0 → ev_Run G l d bc bs M (pc + 3) L st h n P) : ev_Run G l d bc bs M pc L (.int x :: st) h n P :=
  fun p e s m args below meth c R Q H locs cells slots ls C hf hlo hc hs hL hH hS hk => lv_if_lt C.1 C.2.1 hd ht (fun q => kt q p e s m args below meth c R Q H locs cells slots ls C hf hlo hc hs hL hH hS hk) (fun q => kf q p e s m args below meth c R Q H locs cells slots ls C hf hlo hc hs hL hH hS hk)
theorem ev_icmp_lt {x y : Int32} {off : Int} {tgt : Nat} (hd : decode M.2.1 pc = .ok (.if_icmp .lt off, 3)) (ht : (pc : Int) + off = (tgt : Int)) (kt : x < y → ev_Run G l d bc bs M tgt L st h n P) (kf : ¬ x < y → ev_Run G l d bc bs M (pc + 3) L st h n P) : ev_Run G l d bc bs M pc L (.int y :: .int x :: st) h n P :=
  fun p e s m args below meth c R Q H locs cells slots ls C hf hlo hc hs hL hH hS hk => lv_icmp_lt C.1 C.2.1 hd ht (fun q => kt q p e s m args below meth c R Q H locs cells slots ls C hf hlo hc hs hL hH hS hk) (fun q => kf q p e s m args below meth c R Q H locs cells slots ls C hf hlo hc hs hL hH hS hk)
theorem ev_if_ge {x : Int32} {off : Int} {tgt : Nat} (hd : decode M.2.1 pc = .ok (.ifCond .ge off, 3)) (ht : (pc : Int) + off = (tgt : Int)) (kt : 0 ≤ x → ev_Run G l d bc bs M tgt L st h n P) (kf : ¬ 0 ≤ x → ev_Run G l d bc bs M (pc + 3) L st h n P) : ev_Run G l d bc bs M pc L (.int x :: st) h n P :=
  fun p e s m args below meth c R Q H locs cells slots ls C hf hlo hc hs hL hH hS hk => lv_if_ge C.1 C.2.1 hd ht (fun q => kt q p e s m args below meth c R Q H locs cells slots ls C hf hlo hc hs hL hH hS hk) (fun q => kf q p e s m args below meth c R Q H locs cells slots ls C hf hlo hc hs hL hH hS hk)
theorem ev_icmp_ge {x y : Int32} {off : Int} {tgt : Nat} (hd : decode M.2.1 pc = .ok (.if_icmp .ge off, 3)) (ht : (pc : Int) + off = (tgt : Int)) (kt : y ≤ x → ev_Run G l d bc bs M tgt L st h n P) (kf : ¬ y ≤ x → ev_Run G l d bc bs M (pc + 3) L st h n P) : ev_Run G l d bc bs M pc L (.int y :: .int x :: st) h n P :=
  fun p e s m args below meth c R Q H locs cells slots ls C hf hlo hc hs hL hH hS hk => lv_icmp_ge C.1 C.2.1 hd ht (fun q => kt q p e s m args below meth c R Q H locs cells slots ls C hf hlo hc hs hL hH hS hk) (fun q => kf q p e s m args below meth c R Q H locs cells slots ls C hf hlo hc hs hL hH hS hk)
theorem ev_if_gt {x : Int32} {off : Int} {tgt : Nat} (hd : decode M.2.1 pc = .ok (.ifCond .gt off, 3)) (ht : (pc : Int) + off = (tgt : Int)) (kt : 0 < x → ev_Run G l d bc bs M tgt L st h n P) (kf : ¬ 0 < x → ev_Run G l d bc bs M (pc + 3) L st h n P) : ev_Run G l d bc bs M pc L (.int x :: st) h n P :=
  fun p e s m args below meth c R Q H locs cells slots ls C hf hlo hc hs hL hH hS hk => lv_if_gt C.1 C.2.1 hd ht (fun q => kt q p e s m args below meth c R Q H locs cells slots ls C hf hlo hc hs hL hH hS hk) (fun q => kf q p e s m args below meth c R Q H locs cells slots ls C hf hlo hc hs hL hH hS hk)
theorem ev_icmp_gt {x y : Int32} {off : Int} {tgt : Nat} (hd : decode M.2.1 pc = .ok (.if_icmp .gt off, 3)) (ht : (pc : Int) + off = (tgt : Int)) (kt : y < x → ev_Run G l d bc bs M tgt L st h n P) (kf : ¬ y < x → ev_Run G l d bc bs M (pc + 3) L st h n P) : ev_Run G l d bc bs M pc L (.int y :: .int x :: st) h n P :=
  fun p e s m args below meth c R Q H locs cells slots ls C hf hlo hc hs hL hH hS hk => lv_icmp_gt C.1 C.2.1 hd ht (fun q => kt q p e s m args below meth c R Q H locs cells slots ls C hf hlo hc hs hL hH hS hk) (fun q => kf q p e s m args below meth c R Q H locs cells slots ls C hf hlo hc hs hL hH hS hk)
theorem ev_if_le {x : Int32} {off : Int} {tgt : Nat} (hd : decode M.2.1 pc = .ok (.ifCond .le off, 3)) (ht : (pc : Int) + off = (tgt : Int)) (kt : x ≤ 0 → ev_Run G l d bc bs M tgt L st h n P) (kf : ¬ x ≤ 0 → ev_Run G l d bc bs M (pc + 3) L st h n P) : ev_Run G l d bc bs M pc L (.int x :: st) h n P :=
  fun p e s m args below meth c R Q H locs cells slots ls C hf hlo hc hs hL hH hS hk => lv_if_le C.1 C.2.1 hd ht (fun q => kt q p e s m args below meth c R Q H locs cells slots ls C hf hlo hc hs hL hH hS hk) (fun q => kf q p e s m args below meth c R Q H locs cells slots ls C hf hlo hc hs hL hH hS hk)
theorem ev_icmp_le {x y : Int32} {off : Int} {tgt : Nat} (hd : decode M.2.1 pc = .ok (.if_icmp .le off, 3)) (ht : (pc : Int) + off = (tgt : Int)) (kt : x ≤ y → ev_Run G l d bc bs M tgt L st h n P) (kf : ¬ x ≤ y → ev_Run G l d bc bs M (pc + 3) L st h n P) : ev_Run G l d bc bs M pc L (.int y :: .int x :: st) h n P :=
  fun p e s m args below meth c R Q H locs cells slots ls C hf hlo hc hs hL hH hS hk => lv_icmp_le C.1 C.2.1 hd ht (fun q => kt q p e s m args below meth c R Q H locs cells slots ls C hf hlo hc hs hL hH hS hk) (fun q => kf q p e s m args below meth c R Q H locs cells slots ls C hf hlo hc hs hL hH hS hk)
theorem ev_lcmp_eq {x y : Int64} {off : Int} {tgt : Nat} (hd : decode M.2.1 pc = .ok (.lcmp, 1)) (hd2 : decode M.2.1 (pc + 1) = .ok (.ifCond .eq off, 3)) (ht : ((pc + 1 : Nat) : Int) + off = (tgt : Int)) (kt : x = y → ev_Run G l d bc bs M tgt L st h n P) (kf : ¬ x = y → ev_Run G l d bc bs M (pc + 4) L st h n P) : ev_Run G l d bc bs M pc L (.long y :: .long x :: st) h n P :=
  ev_lcmp hd (ev_if_eq hd2 ht (fun q => kt ((lg_cmp_eq x y).mp q)) (fun q => kf (fun z => q ((lg_cmp_eq x y).mpr z))))
theorem ev_lcmp_ne {x y : Int64} {off : Int} {tgt : Nat} (hd : decode M.2.1 pc = .ok (.lcmp, 1)) (hd2 : decode M.2.1 (pc + 1) = .ok (.ifCond .ne off, 3)) (ht : ((pc + 1 : Nat) : Int) + off = (tgt : Int)) (kt : ¬ x = y → ev_Run G l d bc bs M tgt L st h n P) (kf : x = y → ev_Run G l d bc bs M (pc + 4) L st h n P) : ev_Run G l d bc bs M pc L (.long y :: .long x :: st) h n P :=
  ev_lcmp hd (ev_if_ne hd2 ht (fun q => kt (fun z => q ((lg_cmp_eq x y).mpr z))) (fun q => kf ((lg_cmp_eq x y).mp q)))
theorem ev_lcmp_lt {x y : Int64} {off : Int} {tgt : Nat} (hd : decode M.2.1 pc = .ok (.lcmp, 1)) (hd2 : decode M.2.1 (pc + 1) = .ok (.ifCond .lt off, 3)) (ht : ((pc + 1 : Nat) : Int) + off = (tgt : Int)) (kt : x < y → ev_Run G l d bc bs M tgt L st h n P) (kf : ¬ x < y → ev_Run G l d bc bs M (pc + 4) L st h n P) : ev_Run G l d bc bs M pc L (.long y :: .long x :: st) h n P :=
  ev_lcmp hd (ev_if_lt hd2 ht (fun q => kt ((lg_cmp_lt x y).mp q)) (fun q => kf (fun z => q ((lg_cmp_lt x y).mpr z))))
theorem ev_lcmp_ge {x y : Int64} {off : Int} {tgt : Nat} (hd : decode M.2.1 pc = .ok (.lcmp, 1)) (hd2 : decode M.2.1 (pc + 1) = .ok (.ifCond .ge off, 3)) (ht : ((pc + 1 : Nat) : Int) + off = (tgt : Int)) (kt : y ≤ x → ev_Run G l d bc bs M tgt L st h n P) (kf : ¬ y ≤ x → ev_Run G l d bc bs M (pc + 4) L st h n P) : ev_Run G l d bc bs M pc L (.long y :: .long x :: st) h n P :=
  ev_lcmp hd (ev_if_ge hd2 ht (fun q => kt ((lg_cmp_ge x y).mp q)) (fun q => kf (fun z => q ((lg_cmp_ge x y).mpr z))))
theorem ev_lcmp_gt {x y : Int64} {off : Int} {tgt : Nat} (hd : decode M.2.1 pc = .ok (.lcmp, 1)) (hd2 : decode M.2.1 (pc + 1) = .ok (.ifCond .gt off, 3)) (ht : ((pc + 1 : Nat) : Int) + off = (tgt : Int)) (kt : y < x → ev_Run G l d bc bs M tgt L st h n P) (kf : ¬ y < x → ev_Run G l d bc bs M (pc + 4) L st h n P) : ev_Run G l d bc bs M pc L (.long y :: .long x :: st) h n P :=
  ev_lcmp hd (ev_if_gt hd2 ht (fun q => kt ((lg_cmp_gt x y).mp q)) (fun q => kf (fun z => q ((lg_cmp_gt x y).mpr z))))
theorem ev_lcmp_le {x y : Int64} {off : Int} {tgt : Nat} (hd : decode M.2.1 pc = .ok (.lcmp, 1)) (hd2 : decode M.2.1 (pc + 1) = .ok (.ifCond .le off, 3)) (ht : ((pc + 1 : Nat) : Int) + off = (tgt : Int)) (kt : x ≤ y → ev_Run G l d bc bs M tgt L st h n P) (kf : ¬ x ≤ y → ev_Run G l d bc bs M (pc + 4) L st h n P) : ev_Run G l d bc bs M pc L (.long y :: .long x :: st) h n P :=
  ev_lcmp hd (ev_if_le hd2 ht (fun q => kt ((lg_cmp_le x y).mp q)) (fun q => kf (fun z => q ((lg_cmp_le x y).mpr z))))
theorem ev_ifnonnull {x : Nat} {off : Int} {tgt : Nat} (hd : decode M.2.1 pc = .ok (.ifnonnull off, 3)) (ht : (pc : Int) + off = (tgt : Int)) (k : ev_Run G l d bc bs M tgt L st h n P) : ev_Run G l d bc bs M pc L (.ref x :: st) h n P :=
  fun p e s m args below meth c R Q H locs cells slots ls C hf hlo hc hs hL hH hS hk => lv_ifnonnull C.1 C.2.1 hd ht (k p e s m args below meth c R Q H locs cells slots ls C hf hlo hc hs hL hH hS hk)
theorem ev_ifnull {x : Nat} {off : Int} (hd : decode M.2.1 pc = .ok (.ifnull off, 3)) (k : ev_Run G l d bc bs M (pc + 3) L st h n P) : ev_Run G l d bc bs M pc L (.ref x :: st) h n P :=
  fun p e s m args below meth c R Q H locs cells slots ls C hf hlo hc hs hL hH hS hk => lv_ifnull C.1 C.2.1 hd (k p e s m args below meth c R Q H locs cells slots ls C hf hlo hc hs hL hH hS hk)
theorem ev_ifnullN {off : Int} {tgt : Nat} (hd : decode M.2.1 pc = .ok (.ifnull off, 3)) (ht : (pc : Int) + off = (tgt : Int)) (k : ev_Run G l d bc bs M tgt L st h n P) : ev_Run G l d bc bs M pc L (.null :: st) h n P :=
  fun p e s m args below meth c R Q H locs cells slots ls C hf hlo hc hs hL hH hS hk => lv_ifnullN C.1 C.2.1 hd ht (k p e s m args below meth c R Q H locs cells slots ls C hf hlo hc hs hL hH hS hk)
theorem ev_ifnonnullN {off : Int} (hd : decode M.2.1 pc = .ok (.ifnonnull off, 3)) (k : ev_Run G l d bc bs M (pc + 3) L st h n P) : ev_Run G l d bc bs M pc L (.null :: st) h n P :=
  fun p e s m args below meth c R Q H locs cells slots ls C hf hlo hc hs hL hH hS hk => lv_ifnonnullN C.1 C.2.1 hd (k p e s m args below meth c R Q H locs cells slots ls C hf hlo hc hs hL hH hS hk)
theorem ev_acmp_eq {x y : Nat} {off : Int} {tgt : Nat} (hd : decode M.2.1 pc = .ok (.if_acmp .eq off, 3)) (ht : (pc : Int) + off = (tgt : Int)) (kt : x = y → ev_Run G l d bc bs M tgt L st h n P) (kf : ¬ x = y → ev_Run G l d bc bs M (pc + 3) L st h n P) : ev_Run G l d bc bs M pc L (.ref y :: .ref x :: st) h n P :=
  fun p e s m args below meth c R Q H locs cells slots ls C hf hlo hc hs hL hH hS hk => lv_acmp_eq (rx := some x) (ry := some y) C.1 C.2.1 hd ht (fun q => kt (Option.some.inj q) p e s m args below meth c R Q H locs cells slots ls C hf hlo hc hs hL hH hS hk) (fun q => kf (fun z => q (congrArg some z)) p e s m args below meth c R Q H locs cells slots ls C hf hlo hc hs hL hH hS hk)
theorem ev_acmp_ne {x y : Nat} {off : Int} {tgt : Nat} (hd : decode M.2.1 pc = .ok (.if_acmp .ne off, 3)) (ht : (pc : Int) + off = (tgt : Int)) (kt : ¬ x = y → ev_Run G l d bc bs M tgt L st h n P) (kf : x = y → ev_Run G l d bc bs M (pc + 3) L st h n P) : ev_Run G l d bc bs M pc L (.ref y :: .ref x :: st) h n P :=
  fun p e s m args below meth c R Q H locs cells slots ls C hf hlo hc hs hL hH hS hk => lv_acmp_ne (rx := some x) (ry := some y) C.1 C.2.1 hd ht (fun q => kt (fun z => q (congrArg some z)) p e s m args below meth c R Q H locs cells slots ls C hf hlo hc hs hL hH hS hk) (fun q => kf (Option.some.inj q) p e s m args below meth c R Q H locs cells slots ls C hf hlo hc hs hL hH hS hk)
theorem ev_tin {dflt lo hi : Int} {offs : Array Int} {len : Nat} {x : Int32} {off : Int} {tgt : Nat} (hd : decode M.2.1 pc = .ok (.tableswitch dflt lo hi offs, len)) (h1 : ¬ x.toInt < lo) (h2 : ¬ hi < x.toInt) (ho : offs[(x.toInt - lo).toNat]? = some off) (ht : (pc : Int) + off = (tgt : Int)) (k : ev_Run G l d bc bs M tgt L st h n P) : ev_Run G l d bc bs M pc L (.int x :: st) h n P :=
  fun p e s m args below meth c R Q H locs cells slots ls C hf hlo hc hs hL hH hS hk => lv_tableIn C.1 C.2.1 hd h1 h2 ho ht (k p e s m args below meth c R Q H locs cells slots ls C hf hlo hc hs hL hH hS hk)
theorem ev_tout {dflt lo hi : Int} {offs : Array Int} {len : Nat} {x : Int32} {tgt : Nat} (hd : decode M.2.1 pc = .ok (.tableswitch dflt lo hi offs, len)) (hx : x.toInt < lo ∨ hi < x.toInt) (ht : (pc : Int) + dflt = (tgt : Int)) (k : ev_Run G l d bc bs M tgt L st h n P) : ev_Run G l d bc bs M pc L (.int x :: st) h n P :=
  fun p e s m args below meth c R Q H locs cells slots ls C hf hlo hc hs hL hH hS hk => lv_tableOut C.1 C.2.1 hd hx ht (k p e s m args below meth c R Q H locs cells slots ls C hf hlo hc hs hL hH hS hk)
theorem ev_look {dflt : Int} {ps : Array (Int × Int)} {len : Nat} {x : Int32} {off : Int} {tgt : Nat} (hd : decode M.2.1 pc = .ok (.lookupswitch dflt ps, len)) (hp : (ps.toList.zip (ps.toList.drop 1)).all (fun (a, next) => a.1 < next.1) = true) (ho : Op.lookupswitch.offset ps.toList dflt x.toInt = off) (ht : (pc : Int) + off = (tgt : Int)) (k : ev_Run G l d bc bs M tgt L st h n P) : ev_Run G l d bc bs M pc L (.int x :: st) h n P :=
  fun p e s m args below meth c R Q H locs cells slots ls C hf hlo hc hs hL hH hS hk => lv_lookup C.1 C.2.1 hd hp ho ht (k p e s m args below meth c R Q H locs cells slots ls C hf hlo hc hs hL hH hS hk)
theorem ev_iret {v : Int32} {ty : FieldType} (hd : decode M.2.1 pc = .ok (.ireturn, 1)) (hr : M.2.2.2 = some ty) (hn : narrow ty (.int v) = .int v) (k : P (some (.int v)) h n) : ev_Run G l d bc bs M pc L [.int v] h n P :=
  fun p e s m args below meth c R Q H locs cells slots ls C hf hlo hc hs hL hH hS hk => hk (some (.int v)) h n H locs cells slots pc ls k hH hS (Nat.le_add_right _ _) (Nat.le_add_right _ _) ⟨hd, ty, hr, hn⟩
theorem ev_lret {v : Int64} (hd : decode M.2.1 pc = .ok (.lreturn, 1)) (hr : M.2.2.2 = some .long) (k : P (some (.long v)) h n) : ev_Run G l d bc bs M pc L [.long v] h n P :=
  fun p e s m args below meth c R Q H locs cells slots ls C hf hlo hc hs hL hH hS hk => hk (some (.long v)) h n H locs cells slots pc ls k hH hS (Nat.le_add_right _ _) (Nat.le_add_right _ _) ⟨hd, hr⟩
theorem ev_vret (hd : decode M.2.1 pc = .ok (.return_, 1)) (hr : M.2.2.2 = none) (k : P none h n) : ev_Run G l d bc bs M pc L [] h n P :=
  fun p e s m args below meth c R Q H locs cells slots ls C hf hlo hc hs hL hH hS hk => hk none h n H locs cells slots pc ls k hH hS (Nat.le_add_right _ _) (Nat.le_add_right _ _) ⟨hd, hr⟩
theorem ev_aret {v : Nat} {nm : String} (hd : decode M.2.1 pc = .ok (.areturn, 1)) (hr : M.2.2.2 = some (.object nm)) (k : P (some (.ref v)) h n) : ev_Run G l d bc bs M pc L [.ref v] h n P :=
  fun p e s m args below meth c R Q H locs cells slots ls C hf hlo hc hs hL hH hS hk => hk (some (.ref v)) h n H locs cells slots pc ls k hH hS (Nat.le_add_right _ _) (Nat.le_add_right _ _) ⟨hd, nm, hr⟩
theorem ev_aretN {nm : String} (hd : decode M.2.1 pc = .ok (.areturn, 1)) (hr : M.2.2.2 = some (.object nm)) (k : P (some .null) h n) : ev_Run G l d bc bs M pc L [.null] h n P :=
  fun p e s m args below meth c R Q H locs cells slots ls C hf hlo hc hs hL hH hS hk => hk (some .null) h n H locs cells slots pc ls k hH hS (Nat.le_add_right _ _) (Nat.le_add_right _ _) ⟨hd, nm, hr⟩
end EV
end
section
/-! rows that touch the heap; calls -/
theorem ev_one {D : va_G} {cl : List vw_C} {q : Nat × va_E} {H : Heap} (hq : va_at D cl q H) : va_P D cl [q] H := fun k x hk => by
  cases k with
  | zero => cases hk; exact hq
  | succ k => simp at hk
theorem ev_tyOf {G : xG} {U : State} (hK : ev_K G U) {t : Nat} {ty : FieldType} (ht : ev_tys[t]? = some ty) : ∃ cA : ClassId, (xTy G)[t]? = some (cA, ty) ∧ ArrOfT U cA ty ∧ va_RA U cA ty := by
  have hm := hK.2.2.2.2.2.2.2.2
  rw [← hm, List.getElem?_map] at ht
  cases hq : (xTy G)[t]? with
  | none => rw [hq] at ht; cases ht
  | some q =>
    rw [hq] at ht
    obtain ⟨cA, ty'⟩ := q
    cases ht
    exact ⟨cA, rfl, hK.1.2 t _ hq⟩
def ev_fld (own : String) (index ci k : Nat) : Prop := ∃ (C : String) (T : u_T) (N : Nat), vwCl[ci]? = some (C, T, N) ∧ k < N ∧ Cond.fieldLink own index (T k).1 (T k).2.1 (T k).2.2.1 ∈ ev_T ∧ ∀ w ∈ u_ws C T N, w ∈ ev_T
def ev_fty (ci k : Nat) (ty : FieldType) (fin : Bool) (own : String) : Prop := ∃ (C : String) (T : u_T) (N : Nat) (ty0 : Nat → FieldType), vwCl[ci]? = some (C, T, N) ∧ (∀ j, j < N → parseFieldDescriptor (T j).2.2.1 = some (ty0 j)) ∧ (∀ a, a < N → ∀ b, b < N → a ≠ b → (T a).2.1 ≠ (T b).2.1) ∧ parseFieldDescriptor (T k).2.2.1 = some ty ∧ (T k).2.2.2 = fin ∧ (T k).1 = own
def ev_cls (own : String) (index ci N : Nat) (fs : List Value) : Prop := ∃ (C : String) (T : u_T) (ty : Nat → FieldType), vwCl[ci]? = some (C, T, N) ∧ (∀ k, k < N → parseFieldDescriptor (T k).2.2.1 = some (ty k)) ∧ (∀ j, j < N → defaultValue (ty j) = vp_V fs j) ∧ Cond.classLink own index C ∈ ev_T ∧ Cond.instantiable C N ∈ ev_T ∧ Cond.initialized C ∈ ev_T ∧ ∀ w ∈ u_ws C T N, w ∈ ev_T
section EVH
variable {G : xG} {l : Launch} {d bc bs : Nat} {M : xM} {pc : Nat} {L : List (Option Value)} {st : List Value} {h : xH} {n : Nat} {P : Option Value → xH → Nat → Prop}
theorem ev_get {i ci k a : Nat} {fs : List Value} {v : Value} (hd : decode M.2.1 pc = .ok (.getfield i, 3)) (hq : ev_fld M.1.cls i ci k) (ha : h a = some (.inr (ci, fs))) (hv : fs[k]? = some v) (kk : ev_Run G l d bc bs M (pc + 3) L (v :: st) h n P) : ev_Run G l d bc bs M pc L (.ref a :: st) h n P := by
  intro p e s m args below meth c R Q H locs cells slots ls C hf hlo hc hs hL hH hS hk
  obtain ⟨CC, T, N, hcl, hkN, hw, hin⟩ := hq
  exact va_get (D := xD G) (cl := vwCl) (tys := xTy G) (ws := [(a, .inr (ci, fs))]) C.1 C.2.1 C.2.2.2.2.2.2.1 hin C.2.2.2.2.2.1 C.2.2.2.2.2.2.2.1.1 (ev_one (hH.2.2.2 a _ ha).2) 0 rfl hcl k hkN (C.2.2.2.2.2.2.1 _ hw) (fun _ h9 => h9) hv hd (kk p e s m args below meth c R Q H locs cells slots ls C hf hlo hc hs hL hH hS hk)
theorem ev_put {i ci k a : Nat} {fs : List Value} {v : Value} {ty : FieldType} {own : String} (hd : decode M.2.1 pc = .ok (.putfield i, 3)) (hq : ev_fld M.1.cls i ci k) (hq2 : ev_fty ci k ty false own) (ha : h a = some (.inr (ci, fs))) (hn : narrow ty v = v) (hfit : fits ty v = true) (hl : k < fs.length) (kk : ev_Run G l d bc bs M (pc + 3) L st (hp_set h a (.inr (ci, fs.set k v))) n P) : ev_Run G l d bc bs M pc L (v :: .ref a :: st) h n P := by
  intro p e s m args below meth c R Q H locs cells slots ls C hf hlo hc hs hL hH hS hk
  obtain ⟨CC, T, N, hcl, hkN, hw, hin⟩ := hq
  obtain ⟨C2, T2, N2, ty0, hcl2, hty, hnm, hd2, hfin, -⟩ := hq2
  cases hcl.symm.trans hcl2
  obtain ⟨hab, hat⟩ := hH.2.2.2 a _ ha
  have hts := C.2.2.2.2.2.2.1
  have hown := C.2.2.2.2.2.1
  have hK := C.2.2.2.2.2.2.2.1.1
  have hbb := C.2.2.2.2.2.2.2.1.2.2.2.2.2.2.2.1
  have hap := va_apart (own := M.1.cls) hts hin ty0 hty hnm hK hcl
  obtain ⟨r, h1, cell, q1, q2, q3, q4⟩ := hat
  have hr : r = (CC, T, N) := Option.some.inj (h1.symm.trans hcl)
  subst hr
  obtain ⟨hSl, hfc, kC, hkC, hkind⟩ := hK.1 ci _ hcl
  obtain ⟨cf, kf, fi, f, hi, hsl⟩ := hSl k hkN
  have hlay := hts _ (hin _ (u_in_lay hkN))
  unfold u_lay at hlay
  rw [if_neg (by rw [hfin]; decide)] at hlay
  have hst := (u_facts hfc hkC (u_lays hts hin hkN) hi).1
  have h6 := u_store hfc hkC hkind hlay hi hd2 hn hfit
  refine W.putK C.1 C.2.1 (f := f) ⟨hown, hts _ hw, ⟨_, _, _, hi⟩, hst⟩ (by rw [q2]; exact h6) q1 q3 (by rw [hsl]; exact k2_hasslot (q4 k hkN)) rfl rfl hd fun H' e1 e2 e3 => ?_
  refine kk p e s m args below meth c R Q H' _ cells slots ls C hf hlo hc hs hL (hH.put hab hbb e2 e3 ?_) (hS.put e2 e3 hab) hk
  rw [hsl] at e1
  exact ⟨_, hcl, t_OB.to (V := updV (vp_V fs) k v) ⟨_, e1, q2, q3, t_set q4 hap hkN v⟩ (fun j _ => vp_updV_set hl v j)⟩
theorem ev_putF {i ci k a : Nat} {fs : List Value} {v : Value} {ty : FieldType} (hd : decode M.2.1 pc = .ok (.putfield i, 3)) (hq : ev_fld M.1.cls i ci k) (hq2 : ev_fty ci k ty true M.1.cls) (hini : M.1.name = "<init>") (ha : h a = some (.inr (ci, fs))) (hn : narrow ty v = v) (hfit : fits ty v = true) (hl : k < fs.length) (kk : ev_Run G l d bc bs M (pc + 3) L st (hp_set h a (.inr (ci, fs.set k v))) n P) : ev_Run G l d bc bs M pc L (v :: .ref a :: st) h n P := by
  intro p e s m args below meth c R Q H locs cells slots ls C hf hlo hc hs hL hH hS hk
  obtain ⟨CC, T, N, hcl, hkN, hw, hin⟩ := hq
  obtain ⟨C2, T2, N2, ty0, hcl2, hty, hnm, hd2, hfin, hdecl⟩ := hq2
  cases hcl.symm.trans hcl2
  obtain ⟨hab, hat⟩ := hH.2.2.2 a _ ha
  have hts := C.2.2.2.2.2.2.1
  have hown := C.2.2.2.2.2.1
  have hK := C.2.2.2.2.2.2.2.1.1
  have hbb := C.2.2.2.2.2.2.2.1.2.2.2.2.2.2.2.1
  have hin2 : meth.name = "<init>" := C.2.2.2.2.2.2.2.2.1.trans hini
  have hap := va_apart (own := M.1.cls) hts hin ty0 hty hnm hK hcl
  obtain ⟨r, h1, cell, q1, q2, q3, q4⟩ := hat
  have hr : r = (CC, T, N) := Option.some.inj (h1.symm.trans hcl)
  subst hr
  obtain ⟨hSl, hfc, kC, hkC, hkind⟩ := hK.1 ci _ hcl
  obtain ⟨cf, kf, fi, f, hi, hsl⟩ := hSl k hkN
  have hlay := hts _ (hin _ (u_in_lay hkN))
  unfold u_lay at hlay
  rw [if_pos hfin] at hlay
  have hst := (u_facts hfc hkC (u_lays hts hin hkN) hi).1
  have hcf : m.cls = cf := by
    obtain ⟨_, _, c', _, _, _, -, -, hf', -, -, -, hown2, -⟩ := Cond.laysFinal_spec hlay
    have e1 : c' = cf := by have := hi.symm.trans hf'; simp at this; exact this.1.symm
    rw [hdecl] at hown2
    rw [← e1]; exact Option.some.inj (hown.symm.trans hown2)
  have h6 := u_fits hfc hkC hkind (Or.inr hlay) hi hd2 hn hfit
  refine W.putFinK C.1 C.2.1 hown (hts _ hw) hi hst hcf hin2 (by rw [q2]; exact h6) q1 q3 (by rw [hsl]; exact k2_hasslot (q4 k hkN)) rfl rfl hd fun H' e1 e2 e3 => ?_
  refine kk p e s m args below meth c R Q H' _ cells slots ls C hf hlo hc hs hL (hH.put hab hbb e2 e3 ?_) (hS.put e2 e3 hab) hk
  rw [hsl] at e1
  exact ⟨_, hcl, t_OB.to (V := updV (vp_V fs) k v) ⟨_, e1, q2, q3, t_set q4 hap hkN v⟩ (fun j _ => vp_updV_set hl v j)⟩
/-! arrays -/
theorem ev_alen {t a : Nat} {x : vp_A} {ty : FieldType} (hd : decode M.2.1 pc = .ok (.arraylength, 1)) (ha : h a = some (.inl (t, x))) (ht : ev_tys[t]? = some ty) (kk : ev_Run G l d bc bs M (pc + 1) L (.int (nI x.1) :: st) h n P) : ev_Run G l d bc bs M pc L (.ref a :: st) h n P := by
  intro p e s m args below meth c R Q H locs cells slots ls C hf hlo hc hs hL hH hS hk
  obtain ⟨q, hq, hcell⟩ := (hH.2.2.2 a _ ha).2
  obtain ⟨cA, hq', -, -⟩ := ev_tyOf C.2.2.2.2.2.2.2.1 ht
  cases hq.symm.trans hq'
  exact va_alen (D := xD G) (cl := vwCl) (tys := xTy G) (ws := [(a, .inl (cA, x))]) C.1 C.2.1 C.2.2.2.2.2.2.2.1.1 (ev_one hcell) 0 t rfl hq rfl hd (kk p e s m args below meth c R Q H locs cells slots ls C hf hlo hc hs hL hH hS hk)
theorem ev_iald {t a N j : Nat} {f : Nat → Int32} {i : Int32} (hd : decode M.2.1 pc = .ok (.iaload, 1)) (ha : h a = some (.inl (t, N, .inl f))) (ht : ev_tys[t]? = some .int) (hi : i = nI j) (hj : j < N) (hN : N < 2 ^ 31) (kk : ev_Run G l d bc bs M (pc + 1) L (.int (f j) :: st) h n P) : ev_Run G l d bc bs M pc L (.int i :: .ref a :: st) h n P := by
  subst hi
  intro p e s m args below meth c R Q H locs cells slots ls C hf hlo hc hs hL hH hS hk
  obtain ⟨q, hq, hcell⟩ := (hH.2.2.2 a _ ha).2
  obtain ⟨cA, hq', -, -⟩ := ev_tyOf C.2.2.2.2.2.2.2.1 ht
  cases hq.symm.trans hq'
  have hin : vp_in (nI j) N := vp_in_nI hj hN
  refine va_iald (D := xD G) (cl := vwCl) (tys := xTy G) (ws := [(a, .inl (cA, N, .inl f))]) C.1 C.2.1 C.2.2.2.2.2.2.2.1.1 (ev_one hcell) 0 t rfl hq hin hd ?_
  rw [nI_clamp (by omega)]
  exact kk p e s m args below meth c R Q H locs cells slots ls C hf hlo hc hs hL hH hS hk
theorem ev_lald {t a N j : Nat} {f : Nat → Int64} {i : Int32} (hd : decode M.2.1 pc = .ok (.laload, 1)) (ha : h a = some (.inl (t, N, .inr (.inl f)))) (ht : ev_tys[t]? = some .long) (hi : i = nI j) (hj : j < N) (hN : N < 2 ^ 31) (kk : ev_Run G l d bc bs M (pc + 1) L (.long (f j) :: st) h n P) : ev_Run G l d bc bs M pc L (.int i :: .ref a :: st) h n P := by
  subst hi
  intro p e s m args below meth c R Q H locs cells slots ls C hf hlo hc hs hL hH hS hk
  obtain ⟨q, hq, hcell⟩ := (hH.2.2.2 a _ ha).2
  obtain ⟨cA, hq', -, -⟩ := ev_tyOf C.2.2.2.2.2.2.2.1 ht
  cases hq.symm.trans hq'
  have hin : vp_in (nI j) N := vp_in_nI hj hN
  refine va_lald (D := xD G) (cl := vwCl) (tys := xTy G) (ws := [(a, .inl (cA, N, .inr (.inl f)))]) C.1 C.2.1 C.2.2.2.2.2.2.2.1.1 (ev_one hcell) 0 t rfl hq hin hd ?_
  rw [nI_clamp (by omega)]
  exact kk p e s m args below meth c R Q H locs cells slots ls C hf hlo hc hs hL hH hS hk
theorem ev_aald {t a N j b : Nat} {E : String} {f : Nat → Option Nat} {i : Int32} (hd : decode M.2.1 pc = .ok (.aaload, 1)) (ha : h a = some (.inl (t, N, .inr (.inr (.inr (.inr f)))))) (ht : ev_tys[t]? = some (.object E)) (hi : i = nI j) (hj : j < N) (hN : N < 2 ^ 31) (hv : f j = some b) (kk : ev_Run G l d bc bs M (pc + 1) L (.ref b :: st) h n P) : ev_Run G l d bc bs M pc L (.int i :: .ref a :: st) h n P := by
  subst hi
  intro p e s m args below meth c R Q H locs cells slots ls C hf hlo hc hs hL hH hS hk
  obtain ⟨q, hq, hcell⟩ := (hH.2.2.2 a _ ha).2
  obtain ⟨cA, hq', -, -⟩ := ev_tyOf C.2.2.2.2.2.2.2.1 ht
  cases hq.symm.trans hq'
  have hin : vp_in (nI j) N := vp_in_nI hj hN
  refine va_aldq (D := xD G) (cl := vwCl) (tys := xTy G) (C := E) (ws := [(a, .inl (cA, N, .inr (.inr (.inr (.inr f)))))]) C.1 C.2.1 C.2.2.2.2.2.2.2.1.1 (ev_one hcell) 0 t rfl hq hin hd ?_
  rw [nI_clamp (by omega), hv]
  exact kk p e s m args below meth c R Q H locs cells slots ls C hf hlo hc hs hL hH hS hk
theorem ev_iast {t a N j : Nat} {f : Nat → Int32} {i x : Int32} (hd : decode M.2.1 pc = .ok (.iastore, 1)) (ha : h a = some (.inl (t, N, .inl f))) (ht : ev_tys[t]? = some .int) (hi : i = nI j) (hj : j < N) (hN : N < 2 ^ 31) (kk : ev_Run G l d bc bs M (pc + 1) L st (hp_set h a (.inl (t, N, .inl (upd f j x)))) n P) : ev_Run G l d bc bs M pc L (.int x :: .int i :: .ref a :: st) h n P := by
  subst hi
  intro p e s m args below meth c R Q H locs cells slots ls C hf hlo hc hs hL hH hS hk
  obtain ⟨hab, q, hq, hcell⟩ := hH.2.2.2 a _ ha
  obtain ⟨cA, hq', hAr, -⟩ := ev_tyOf C.2.2.2.2.2.2.2.1 ht
  cases hq.symm.trans hq'
  have hbb := C.2.2.2.2.2.2.2.1.2.2.2.2.2.2.2.1
  have hin : vp_in (nI j) N := vp_in_nI hj hN
  refine W.iast C.1 C.2.1 hcell (hAr N (fun j => .int (f j))) (fun q => by cases q) (by show ¬ (nI j < 0 ∨ (arrV _ _ _).slots.size ≤ _); rw [arrV_size]; exact hin) rfl rfl hd fun H1 e1 z oq => ?_
  refine kk p e s m args below meth c R Q H1 _ cells slots ls C hf hlo hc hs hL (hH.put hab hbb z oq ⟨_, hq, ?_⟩) (hS.put z oq hab) hk
  rw [e1, vp_cell_i, vp_cell_i, arrV_store, nI_clamp (by omega)]
  congr 2
  funext y
  by_cases hy : y = j
  · subst hy
    simp [updV, upd]
  · simp [updV, upd, hy]
theorem ev_last {t a N j : Nat} {f : Nat → Int64} {i : Int32} {x : Int64} (hd : decode M.2.1 pc = .ok (.lastore, 1)) (ha : h a = some (.inl (t, N, .inr (.inl f)))) (ht : ev_tys[t]? = some .long) (hi : i = nI j) (hj : j < N) (hN : N < 2 ^ 31) (kk : ev_Run G l d bc bs M (pc + 1) L st (hp_set h a (.inl (t, N, .inr (.inl (vp_updL f j x))))) n P) : ev_Run G l d bc bs M pc L (.long x :: .int i :: .ref a :: st) h n P := by
  subst hi
  intro p e s m args below meth c R Q H locs cells slots ls C hf hlo hc hs hL hH hS hk
  obtain ⟨hab, q, hq, hcell⟩ := hH.2.2.2 a _ ha
  obtain ⟨cA, hq', hAr, -⟩ := ev_tyOf C.2.2.2.2.2.2.2.1 ht
  cases hq.symm.trans hq'
  have hbb := C.2.2.2.2.2.2.2.1.2.2.2.2.2.2.2.1
  have hin : vp_in (nI j) N := vp_in_nI hj hN
  refine W.last C.1 C.2.1 hcell (hAr N (fun j => .long (f j))) (fun q => by cases q) (by show ¬ (nI j < 0 ∨ (arrV _ _ _).slots.size ≤ _); rw [arrV_size]; exact hin) rfl rfl hd fun H1 e1 z oq => ?_
  refine kk p e s m args below meth c R Q H1 _ cells slots ls C hf hlo hc hs hL (hH.put hab hbb z oq ⟨_, hq, ?_⟩) (hS.put z oq hab) hk
  rw [e1, vp_cell_l, vp_cell_l, arrV_store, nI_clamp (by omega)]
  congr 2
  funext y
  by_cases hy : y = j
  · subst hy
    simp [updV, vp_updL]
  · simp [updV, vp_updL, hy]
theorem ev_aast {t a N j v ci : Nat} {fs : List Value} {E : String} {T : u_T} {NN : Nat} {f : Nat → Option Nat} {i : Int32} (hd : decode M.2.1 pc = .ok (.aastore, 1)) (ha : h a = some (.inl (t, N, .inr (.inr (.inr (.inr f)))))) (ht : ev_tys[t]? = some (.object E)) (hv : h v = some (.inr (ci, fs))) (hci : vwCl[ci]? = some (E, T, NN)) (hi : i = nI j) (hj : j < N) (hN : N < 2 ^ 31) (kk : ev_Run G l d bc bs M (pc + 1) L st (hp_set h a (.inl (t, N, .inr (.inr (.inr (.inr (va_up f j (some v)))))))) n P) : ev_Run G l d bc bs M pc L (.ref v :: .int i :: .ref a :: st) h n P := by
  subst hi
  intro p e s m args below meth c R Q H locs cells slots ls C hf hlo hc hs hL hH hS hk
  obtain ⟨hab, q, hq, hcell⟩ := hH.2.2.2 a _ ha
  obtain ⟨cA, hq', hAr, hRA⟩ := ev_tyOf C.2.2.2.2.2.2.2.1 ht
  cases hq.symm.trans hq'
  have hbb := C.2.2.2.2.2.2.2.1.2.2.2.2.2.2.2.1
  have hK := C.2.2.2.2.2.2.2.1.1
  have hlt : (nI j).toNatClampNeg < N := by rw [nI_clamp (by omega)]; exact hj
  have h0 : ¬ nI j < 0 := nI_pos (by omega)
  obtain ⟨r', hr', cellV, g1, g2, g3, -⟩ := (hH.2.2.2 v _ hv).2
  have hcls := (hK.1 ci _ hci).2
  obtain ⟨kA, comp, k1, k2, k3, -⟩ := hRA
  have hcomp : comp = (xD G).1 ci := Option.some.inj (k3.symm.trans hcls.1)
  subst hcomp
  obtain ⟨kC, hkC, -⟩ := hcls.2
  refine W.aast C.1 C.2.1 hcell (fun q h => by cases h) (fun h => by cases h) k1 k2 rfl hkC ⟨h0, by show _ < (arrV _ _ _).slots.size; rw [arrV_size]; exact hlt⟩ g1 (fun q h => by rw [g3] at h; cases h) (by rw [g2]; exact hkC) (by rw [g2]; exact va_assign hcls) rfl rfl hd fun H1 e1 z oq => ?_
  refine kk p e s m args below meth c R Q H1 _ cells slots ls C hf hlo hc hs hL (hH.put hab hbb z oq ⟨_, hq, ?_⟩) (hS.put z oq hab) hk
  rw [e1, vp_cell_q, vp_cell_q, arrV_store, nI_clamp (by omega)]
  congr 2
  funext y
  by_cases hy : y = j
  · subst hy
    simp [updV, va_up, va_rf]
  · simp [updV, va_up, hy]
/-! the law's own script -/
theorem ev_slen (hd : decode M.2.1 pc = .ok (.arraylength, 1)) (kk : ev_Run G l d bc bs M (pc + 1) L (.int (nI (xN G)) :: st) h n P) : ev_Run G l d bc bs M pc L (.ref (xb G) :: st) h n P := by
  intro p e s m args below meth c R Q H locs cells slots ls C hf hlo hc hs hL hH hS hk
  obtain ⟨-, -, -, k1, k2, k3, k4, -, -⟩ := C.2.2.2.2.2.2.2.1
  exact W.alen (n := nI (xN G)) C.1 C.2.1 hH.2.2.1 k1 (by rw [k3]; rfl) rfl rfl hd (kk p e s m args below meth c R Q H locs cells slots ls C hf hlo hc hs hL hH hS hk)
theorem ev_sld {i : Int32} {j : Nat} (hd : decode M.2.1 pc = .ok (.iaload, 1)) (hi : i = nI j) (hj : j < xN G) (hN : xN G < 2 ^ 31) (kk : ev_Run G l d bc bs M (pc + 1) L (.int (xX G j) :: st) h n P) : ev_Run G l d bc bs M pc L (.int i :: .ref (xb G) :: st) h n P := by
  subst hi
  intro p e s m args below meth c R Q H locs cells slots ls C hf hlo hc hs hL hH hS hk
  obtain ⟨-, -, -, k1, k2, k3, k4, -, -⟩ := C.2.2.2.2.2.2.2.1
  exact W.iald (v := .int (xX G j)) C.1 C.2.1 hH.2.2.1 k1 k2 (by rw [k3]; exact vp_in_nI hj hN) (by rw [nI_clamp (by omega)]; exact k4 j hj) rfl rfl hd (kk p e s m args below meth c R Q H locs cells slots ls C hf hlo hc hs hL hH hS hk)
/-! making -/
theorem ev_new {i ci N : Nat} {fs : List Value} (hd : decode M.2.1 pc = .ok (.new i, 3)) (hq : ev_cls M.1.cls i ci N fs) (kk : ev_Run G l d bc bs M (pc + 3) L (.ref n :: st) (hp_set h n (.inr (ci, fs))) (n + 1) P) : ev_Run G l d (bc + 1) (bs + N) M pc L st h n P := by
  intro p e s m args below meth c R Q H locs cells slots ls C hf hlo hc hs hL hH hS hk
  obtain ⟨CC, T, ty, hcl, hty, hfs, w1, w2, w3, hin⟩ := hq
  have hts := C.2.2.2.2.2.2.1
  have hK := C.2.2.2.2.2.2.2.1.1
  have hbb := C.2.2.2.2.2.2.2.1.2.2.2.2.2.2.2.1
  have hKn := hK.1 ci _ hcl
  refine W.newcK C.1 C.2.1 C.2.2.2.2.2.1 (hts _ w1) (hts _ w2) (hts _ w3) rfl hd (by omega) (by omega) hKn.2.1 hH.1 fun H1 kC hkC e1 z1 o1 => ?_
  refine kk p e s m args below meth c R Q H1 locs (cells + 1) (slots + N) ls C hf hlo (by omega) (by omega) hL (hH.push hbb z1 o1 ?_) ⟨by have := hS.1; have := hH.1; omega, fun x h1 h2 => (o1 x (by have := hS.1; have := hH.1; omega)).trans (hS.2.1 x h1 h2), hS.2.2⟩ (fun v h' n' H' locs' cells' slots' pc' ls' q q1 q2 q3 q4 q5 => hk v h' n' H' locs' cells' slots' pc' ls' q q1 q2 (by omega) (by omega) q5)
  exact ⟨_, hcl, (u_born ty hts hin hKn hkC e1 hty).to hfs⟩
theorem ev_newa {atype : ArrayType} {ty : FieldType} {t N : Nat} {x : Int32} {a0 : vp_A} (hd : decode M.2.1 pc = .ok (.newarray atype, 2)) (hty : newarray.typeOf atype = ty) (hno : ∀ C : String, ty ≠ .object C) (ht : ev_tys[t]? = some ty) (hw : Cond.arrayClass ty ∈ ev_T) (ha : ∀ cA : ClassId, vp_cell cA a0 = arrV cA N (fun _ => defaultValue ty)) (hx : x = nI N) (hN : N * componentBytes ty ≤ 536870912) (hN2 : N < 2 ^ 31) (kk : ev_Run G l d bc bs M (pc + 2) L (.ref n :: st) (hp_set h n (.inl (t, a0))) (n + 1) P) : ev_Run G l d (bc + 1) (bs + N) M pc L (.int x :: st) h n P := by
  subst hty
  subst hx
  intro p e s m args below meth c R Q H locs cells slots ls C hf hlo hc hs hL hH hS hk
  have hbb := C.2.2.2.2.2.2.2.1.2.2.2.2.2.2.2.1
  obtain ⟨cA, hq, -, hRA⟩ := ev_tyOf C.2.2.2.2.2.2.2.1 ht
  refine va_newaK C.1 C.2.1 (C.2.2.2.2.2.2.1 _ hw) rfl hd rfl (nI_pos hN2) (nI_clamp hN2) hN (by omega) (by omega) hH.1 fun H1 cA' e1 z1 o1 hAr hNm => ?_
  have hcA : cA' = cA := by
    have hRA' : s.vm.findClass ("[" ++ (newarray.typeOf atype).toString) = some cA := by
      cases atype <;> exact hRA
    exact Option.some.inj (hNm.symm.trans hRA')
  subst hcA
  refine kk p e s m args below meth c R Q H1 locs (cells + 1) (slots + N) ls C hf hlo (by omega) (by omega) hL (hH.push hbb z1 o1 ⟨_, hq, ?_⟩) ⟨by have := hS.1; have := hH.1; omega, fun x h1 h2 => (o1 x (by have := hS.1; have := hH.1; omega)).trans (hS.2.1 x h1 h2), hS.2.2⟩ (fun v h' n' H' locs' cells' slots' pc' ls' q q1 q2 q3 q4 q5 => hk v h' n' H' locs' cells' slots' pc' ls' q q1 q2 (by omega) (by omega) q5)
  rw [ha]
  exact e1
theorem ev_newq {i t N : Nat} {E : String} {x : Int32} (hd : decode M.2.1 pc = .ok (.anewarray i, 3)) (ht : ev_tys[t]? = some (.object E)) (hw : Cond.classLink M.1.cls i E ∈ ev_T) (hao : E ∈ ev_ao) (hx : x = nI N) (hN : N * 4 ≤ 536870912) (kk : ev_Run G l d bc bs M (pc + 3) L (.ref n :: st) (hp_set h n (.inl (t, N, .inr (.inr (.inr (.inr (fun _ => none))))))) (n + 1) P) : ev_Run G l d (bc + 1) (bs + N) M pc L (.int x :: st) h n P := by
  subst hx
  intro p e s m args below meth c R Q H locs cells slots ls C hf hlo hc hs hL hH hS hk
  have hbb := C.2.2.2.2.2.2.2.1.2.2.2.2.2.2.2.1
  obtain ⟨cA, hq, -, kA, comp, r1, r2, r3, r4⟩ := ev_tyOf C.2.2.2.2.2.2.2.1 ht
  have hcl : (nI N).toNatClampNeg = N := nI_clamp (by omega)
  refine W.anew C.1 C.2.1 C.2.2.2.2.2.1 (C.2.2.2.2.2.2.1 _ hw) (va_AO.use (C.2.2.2.2.2.2.2.1.2.2.1 E hao)) rfl hd rfl (nI_pos (by omega)) (by rw [hcl]; exact hN) (by omega) (by rw [hcl]; omega) fun cA' kA' comp' f1 f2 f3 f4 => ?_
  have hcA : cA' = cA := Option.some.inj (f1.symm.trans r4)
  subst hcA
  rw [hcl]
  generalize hH1 : H.push ({ cls := cA', slots := Array.replicate N .null, vm := .none } : Cell) = H1
  have z1 : H1.size = n + 1 := by rw [← hH1, Array.size_push, hH.1]
  have e1 : H1[n]? = some (arrV cA' N (fun _ => .null)) := by rw [← hH1, ← hH.1, Array.getElem?_push_size, ← arrV_new]
  have o1 : ∀ q : Nat, q < n → H1[q]? = H[q]? := fun q hq => by rw [← hH1, Array.getElem?_push, if_neg (by rw [hH.1]; exact Nat.ne_of_lt hq)]
  rw [hH.1]
  refine kk p e s m args below meth c R Q H1 locs (cells + 1) (slots + N) ls C hf hlo (by omega) (by omega) hL (hH.push hbb z1 o1 ⟨_, hq, ?_⟩) ⟨by have := hS.1; have := hH.1; omega, fun x h1 h2 => (o1 x (by have := hS.1; have := hH.1; omega)).trans (hS.2.1 x h1 h2), hS.2.2⟩ (fun v h' n' H' locs' cells' slots' pc' ls' q q1 q2 q3 q4 q5 => hk v h' n' H' locs' cells' slots' pc' ls' q q1 q2 (by omega) (by omega) q5)
  rw [vp_cell_q]
  exact e1
end EVH
/-! a method's contract for the kit; calls -/
def ev_Pc (G : xG) (As : List Value) (h : xH) (n : Nat) : Array Value → State → Prop := fun v U => v = As.toArray ∧ hp_R G h n U.heap ∧ ev_K G U
def ev_Qc (G : xG) (P : Option Value → xH → Nat → Prop) : Array Value → State → Outcome → State → Prop := fun _ st o t => (∃ (v : Option Value) (h' : xH) (n' : Nat), o = .returned v ∧ P v h' n' ∧ hp_R G h' n' t.heap) ∧ va_F (ev_A G) st t
theorem ev_blind {G : xG} {As : List Value} {h : xH} {n : Nat} : FrameBlind (ev_Pc G As h n) := fun _ _ _ _ q => ⟨q.1, q.2.1, ev_K.same rfl q.2.2⟩
def ev_psh (v : Option Value) (st : List Value) : List Value := match v with
  | none => st
  | some x => x :: st
theorem ev_psh_eq (v : Option Value) (st : List Value) : v.toList ++ st = ev_psh v st := by
  cases v <;> rfl
theorem ev_met {G : xG} {l : Launch} {d bc bs : Nat} {M : xM} {As : List Value} {mm : Nat} {h : xH} {n : Nat} {P : Option Value → xH → Nat → Prop} (hy : plainName M.1.cls = true) (hl : (lg_sl As).length ≤ M.2.2.1) (k : ev_Run G l d bc bs M 0 (ev_ent As ++ List.replicate mm none) [] h n P) :
    Met l M.1 (ev_ws M) ({ frames := d, cells := bc, slots := bs, locals := d * 40 }) (ev_Pc G As h n) (ev_Qc G P) bc bs (ev_A G) := by
  refine Met.ofW (cc := M.2.1) (maxL := M.2.2.1) (ret := M.2.2.2) hy rfl ?_
  intro p e s m args below meth c s₁ B hml hv
  obtain ⟨rfl, hR, hK⟩ := hv
  have hpre := atoms_spec (ws := ev_ws M) B.pre
  have hC : ev_Ctx G M p s m As.toArray meth c := ⟨B.exec, B.bytes, B.returns, B.notSynchronized, hml, findClass_of_methodNamed B.named, fun w hw => hpre w (List.mem_cons_of_mem _ hw), hK, (name_of_methodNamed B.named B.method).1, by rw [hR.1]; exact hR.2.1⟩
  have hlocks := B.notSynchronized
  rw [lg_entry_eq]
  refine k p e s m As.toArray below meth c _ _ s.heap [] 0 0 _ hC (Nat.le_refl _) (Nat.le_refl _) (by rw [Nat.zero_add]; exact Nat.le_refl _) (by rw [Nat.zero_add]; exact Nat.le_refl _) (ev_LR.ent hl mm) hR va_S.rf ?_
  intro v h' n' H' locs' cells' slots' pc' ls' hP hH' hS' hc' hs' hret
  refine W.widen (k := bc) (n := bs) (by omega) (by omega) ?_
  have hq : ∀ t : State, t.heap = H' → s.WarmedH t.vm → ev_Qc G P As.toArray s (.returned v) t := fun t ht hW => ⟨⟨v, h', n', rfl, hP, by rw [ht]; exact hH'⟩, hS'.F ht⟩
  cases v with
  | none => exact W.vret hC.1 hC.2.1 (hC.2.2.1.trans hret.2) hq hS'.2.2 hret.1
  | some x =>
    cases x with
    | int x =>
      obtain ⟨hd, ty, ht, hn⟩ := hret
      exact W.zret hC.1 hC.2.1 (hC.2.2.1.trans ht) hn hq hS'.2.2 hd
    | long x => exact W.lret hC.1 hC.2.1 (hC.2.2.1.trans hret.2) hq hS'.2.2 hret.1
    | float x => exact hret.elim
    | double x => exact hret.elim
    | null =>
      obtain ⟨hd, nm, ht⟩ := hret
      exact W.aret hC.1 hC.2.1 (hC.2.2.1.trans ht) (Or.inl ⟨nm, rfl⟩) (Or.inl rfl) hq hS'.2.2 hd
    | ref x =>
      obtain ⟨hd, nm, ht⟩ := hret
      exact W.aret hC.1 hC.2.1 (hC.2.2.1.trans ht) (Or.inl ⟨nm, rfl⟩) (Or.inr ⟨x, rfl⟩) hq hS'.2.2 hd
    | retAddr x => exact hret.elim
/-- what the tables say of a method that is called -/
def ev_ok (M : xM) (na : Nat) : Prop := Cond.code M.1 M.2.1 M.2.2.1 M.2.2.2 ∈ ev_T ∧ Cond.initialized M.1.cls ∈ ev_T ∧ (M.1.cls ≠ "java/lang/invoke/MethodHandle" ∧ M.1.cls ≠ "java/lang/invoke/VarHandle" ∧ (parseMethodDescriptor M.1.desc).map (fun d => d.parameters.length) = some na) ∧ plainName M.1.cls = true ∧ M.2.2.1 ≤ 21
theorem ev_goodIn {M : xM} {na : Nat} (hok : ev_ok M na) : GoodIn ev_T (ev_ws M) := fun w hw => by
  rcases List.mem_cons.mp hw with rfl | hw
  · exact ⟨hok.1, Or.inl rfl⟩
  · exact ⟨hw, ev_T_good w hw⟩
/-- behind a call -/
theorem ev_back {G : xG} {l : Launch} {d bc bs bc1 bs1 bc2 bs2 : Nat} {M : xM} {pc : Nat} {L : List (Option Value)} {st rest : List Value} {h : xH} {n : Nat} {P : Option Value → xH → Nat → Prop} {p : Program} {e : Env} {s : State} {m : MethodId} {args : Array Value} {below : List Frame} {meth : Method} {c : Code} {R : Room} {Q : State → Prop} {H : Heap} {locs : List Loc} {cells slots : Nat} {ls : Array Slot} {a : Array Value}
    (C : ev_Ctx G M p s m args meth c) (hf : d ≤ R.frames) (hlo : d * 40 ≤ R.locals) (hc : cells + bc ≤ R.cells) (hs : slots + bs ≤ R.slots) (hL : ev_LR ls M.2.2.1 L) (hH : hp_R G h n H) (hS : va_S (ev_A G) s.heap H locs)
    (hk : ∀ (v : Option Value) (h' : xH) (n' : Nat) (H' : Heap) (locs' : List Loc) (cells' slots' pc' : Nat) (ls' : Array Slot), P v h' n' → hp_R G h' n' H' → va_S (ev_A G) s.heap H' locs' → cells' ≤ cells + bc → slots' ≤ slots + bs → ev_ret M pc' v → W p l e R s m args below meth c H' locs' cells' slots' Q (F0 m pc' ls' v.toList))
    (hb1 : bc1 + bc2 = bc) (hb2 : bs1 + bs2 = bs)
    (hr : va_Run p l e R s m args below meth c H locs cells slots bc1 bs1 (F0 m pc ls st) rest (ev_Qc G (fun v h' n' => ev_Run G l d bc2 bs2 M (pc + 3) L (ev_psh v rest) h' n' P) a) (ev_A G)) :
    W p l e R s m args below meth c H locs cells slots Q (F0 m pc ls st) := by
  intro T hT X
  obtain ⟨v, st₀, t, T', LL, h0, X', hLL, e1, e2, ⟨⟨v', h', n', hv, hp, hR'⟩, hF⟩, stp⟩ := hr T hT X
  cases hv
  have hz : H.size ≤ T'.heap.size := by rw [e1, ← h0]; exact hF.1
  have hkp : ∀ q : Nat, q < H.size → ¬ ev_A G q → T'.heap[q]? = H[q]? := fun q h1 h2 => by rw [e1, ← h0]; exact hF.2 q (by rw [h0]; exact h1) h2
  have hS' : va_S (ev_A G) s.heap T'.heap (locs ++ LL) := ⟨Nat.le_trans hS.1 hz, fun q h1 h2 => (hkp q (Nat.lt_of_lt_of_le h1 hS.1) h2).trans (hS.2.1 q h1 h2), fun q hq => by
    rcases List.mem_append.mp hq with hq | hq
    · exact hS.2.2 q hq
    · exact hLL q hq⟩
  rw [ev_psh_eq] at stp
  obtain ⟨t2, a1, b1⟩ := hp p e s m args below meth c R Q T'.heap (locs ++ LL) (cells + bc1) (slots + bs1) ls C hf hlo (by omega) (by omega) hL (by rw [e1]; exact hR') hS' (fun v h' n' H' locs' cells' slots' pc' ls' q q1 q2 q3 q4 q5 => hk v h' n' H' locs' cells' slots' pc' ls' q q1 q2 (by omega) (by omega) q5) T' rfl X'
  exact ⟨t2, stp t2 a1, b1⟩
section EVC
variable {G : xG} {l : Launch} {d bc bs bc1 bs1 bc2 bs2 : Nat} {M M' : xM} {pc : Nat} {L : List (Option Value)} {st rest : List Value} {h : xH} {n : Nat} {P : Option Value → xH → Nat → Prop} {i na mm b ci : Nat} {As : List Value} {fs : List Value}
theorem ev_callV (hd : decode M.2.1 pc = .ok (.invokevirtual i, 3)) (hok : ev_ok M' na) (hin : Cond.instanceMethod M'.1 ∈ ev_T) (hse : Cond.selects M'.1.cls M'.1 M'.1 ∈ ev_T) (hl : Cond.methodLink M.1.cls i M'.1 ∈ ev_T) (hb : h b = some (.inr (ci, fs))) (hci : (vwCl[ci]?).map (fun q => q.1) = some M'.1.cls) (hst : st = As.reverse ++ .ref b :: rest) (hn : As.length = na) (hW : (rest.map fun v => v.category).sum ≤ 8) (hsl : (lg_sl (.ref b :: As)).length ≤ M'.2.2.1) (hb1 : bc1 + bc2 = bc) (hb2 : bs1 + bs2 = bs)
    (k : ev_Run G l d bc1 bs1 M' 0 (ev_ent (.ref b :: As) ++ List.replicate mm none) [] h n (fun v h' n' => ev_Run G l (d + 1) bc2 bs2 M (pc + 3) L (ev_psh v rest) h' n' P)) : ev_Run G l (d + 1) bc bs M pc L st h n P := by
  intro p e s m args below meth c R Q H locs cells slots ls C hf hlo hc hs hL hH hS hk
  subst hst
  have hts := C.2.2.2.2.2.2.1
  have hM := ev_met (bc := bc1) (bs := bs1) hok.2.2.2.1 hsl k
  refine ev_back C hf hlo hc hs hL hH hS hk hb1 hb2 (va_runV (C := M'.1.cls) (As := As) (b := b) ⟨C.1, C.2.1, C.2.2.2.2.1, C.2.2.2.2.2.1, hts⟩ hM ⟨callB_of na hts (ev_goodIn hok) rfl rfl rfl (hts _ hok.2.1) (hts _ hl) hok.2.2.1 ⟨hf, by have := hok.2.2.2.2; show 8 + (M'.2.2.1 + 11) + d * 40 ≤ _; omega⟩, hts _ hin, hts _ hse⟩ ⟨ev_blind, ?_, fun U hU hW' => ⟨rfl, by rw [hU]; exact hH, C.2.2.2.2.2.2.2.1.warm hW'⟩⟩ rfl hn hL.1 rfl (lv_room hW) hd ⟨by omega, by omega⟩)
  cases hq : vwCl[ci]? with
  | none => rw [hq] at hci; cases hci
  | some q =>
    rw [hq] at hci
    have hq1 : q.1 = M'.1.cls := Option.some.inj hci
    have := va_recv (ws := [(b, .inr (ci, fs))]) (q0 := 0) C.2.2.2.2.2.2.2.1.1 (ev_one (hH.2.2.2 b _ hb).2) hq rfl
    rw [hq1] at this
    exact this
theorem ev_callS (hd : decode M.2.1 pc = .ok (.invokestatic i, 3)) (hok : ev_ok M' na) (hst' : Cond.static M'.1 ∈ ev_T) (hl : Cond.methodLink M.1.cls i M'.1 ∈ ev_T) (hst : st = As.reverse ++ rest) (hn : As.length = na) (hW : (rest.map fun v => v.category).sum ≤ 8) (hsl : (lg_sl As).length ≤ M'.2.2.1) (hb1 : bc1 + bc2 = bc) (hb2 : bs1 + bs2 = bs)
    (k : ev_Run G l d bc1 bs1 M' 0 (ev_ent As ++ List.replicate mm none) [] h n (fun v h' n' => ev_Run G l (d + 1) bc2 bs2 M (pc + 3) L (ev_psh v rest) h' n' P)) : ev_Run G l (d + 1) bc bs M pc L st h n P := by
  intro p e s m args below meth c R Q H locs cells slots ls C hf hlo hc hs hL hH hS hk
  subst hst
  have hts := C.2.2.2.2.2.2.1
  have hM := ev_met (bc := bc1) (bs := bs1) hok.2.2.2.1 hsl k
  exact ev_back C hf hlo hc hs hL hH hS hk hb1 hb2 (va_runS (As := As) ⟨C.1, C.2.1, C.2.2.2.2.1, C.2.2.2.2.2.1, hts⟩ hM ⟨callB_of na hts (ev_goodIn hok) rfl rfl rfl (hts _ hok.2.1) (hts _ hl) hok.2.2.1 ⟨hf, by have := hok.2.2.2.2; show 8 + (M'.2.2.1 + 11) + d * 40 ≤ _; omega⟩, hts _ hst'⟩ ⟨ev_blind, fun U hU hW' => ⟨rfl, by rw [hU]; exact hH, C.2.2.2.2.2.2.2.1.warm hW'⟩⟩ rfl hn hL.1 rfl (lv_room hW) hd ⟨by omega, by omega⟩)
theorem ev_callI (hd : decode M.2.1 pc = .ok (.invokespecial i, 3)) (hok : ev_ok M' na) (hrt : M'.2.2.2 = none) (hnm : M'.1.name = "<init>") (hin : Cond.instanceMethod M'.1 ∈ ev_T) (hl : Cond.methodLink M.1.cls i M'.1 ∈ ev_T) (hst : st = As.reverse ++ .ref b :: rest) (hn : As.length = na) (hW : (rest.map fun v => v.category).sum ≤ 8) (hsl : (lg_sl (.ref b :: As)).length ≤ M'.2.2.1) (hb1 : bc1 + bc2 = bc) (hb2 : bs1 + bs2 = bs)
    (k : ev_Run G l d bc1 bs1 M' 0 (ev_ent (.ref b :: As) ++ List.replicate mm none) [] h n (fun v h' n' => ev_Run G l (d + 1) bc2 bs2 M (pc + 3) L (ev_psh v rest) h' n' P)) : ev_Run G l (d + 1) bc bs M pc L st h n P := by
  intro p e s m args below meth c R Q H locs cells slots ls C hf hlo hc hs hL hH hS hk
  subst hst
  obtain ⟨y, cc, ml, rt⟩ := M'
  cases hrt
  have hts := C.2.2.2.2.2.2.1
  have hM := ev_met (bc := bc1) (bs := bs1) hok.2.2.2.1 hsl k
  exact ev_back C hf hlo hc hs hL hH hS hk hb1 hb2 (va_runI (As := As) (b := b) ⟨C.1, C.2.1, C.2.2.2.2.1, C.2.2.2.2.2.1, hts⟩ hM ⟨callB_of na hts (ev_goodIn hok) rfl rfl rfl (hts _ hok.2.1) (hts _ hl) hok.2.2.1 ⟨hf, by have : ml ≤ 21 := hok.2.2.2.2; show 8 + (ml + 11) + d * 40 ≤ _; omega⟩, hnm, hts _ hin⟩ ⟨ev_blind, fun U hU hW' => ⟨rfl, by rw [hU]; exact hH, C.2.2.2.2.2.2.2.1.warm hW'⟩⟩ rfl hn hL.1 rfl (lv_room hW) hd ⟨by omega, by omega⟩)
theorem ev_callIN {host : String} (hd : decode M.2.1 pc = .ok (.invokespecial i, 3)) (hok : ev_ok M' na) (hrt : M'.2.2.2 = none) (hnm : M'.1.name = "<init>") (hin : Cond.instanceMethod M'.1 ∈ ev_T) (hl : (M.1.cls, i, M'.1, host) ∈ ev_nm) (hst : st = As.reverse ++ .ref b :: rest) (hn : As.length = na) (hW : (rest.map fun v => v.category).sum ≤ 8) (hsl : (lg_sl (.ref b :: As)).length ≤ M'.2.2.1) (hb1 : bc1 + bc2 = bc) (hb2 : bs1 + bs2 = bs)
    (k : ev_Run G l d bc1 bs1 M' 0 (ev_ent (.ref b :: As) ++ List.replicate mm none) [] h n (fun v h' n' => ev_Run G l (d + 1) bc2 bs2 M (pc + 3) L (ev_psh v rest) h' n' P)) : ev_Run G l (d + 1) bc bs M pc L st h n P := by
  intro p e s m args below meth c R Q H locs cells slots ls C hf hlo hc hs hL hH hS hk
  subst hst
  obtain ⟨y, cc, ml, rt⟩ := M'
  cases hrt
  have hts := C.2.2.2.2.2.2.1
  have hM := ev_met (bc := bc1) (bs := bs1) hok.2.2.2.1 hsl k
  exact ev_back C hf hlo hc hs hL hH hS hk hb1 hb2 (va_runIN (As := As) (b := b) ⟨C.1, C.2.1, C.2.2.2.2.1, C.2.2.2.2.2.1, hts⟩ hM ⟨va_cnB na hts (ev_goodIn hok) rfl rfl rfl (C.2.2.2.2.2.2.2.1.2.1 _ hl) (hts _ hok.2.1) hok.2.2.1 ⟨hf, by have : ml ≤ 21 := hok.2.2.2.2; show 8 + (ml + 11) + d * 40 ≤ _; omega⟩, hnm, hts _ hin⟩ ⟨ev_blind, fun U hU hW' => ⟨rfl, by rw [hU]; exact hH, C.2.2.2.2.2.2.2.1.warm hW'⟩⟩ rfl hn hL.1 rfl (lv_room hW) hd ⟨by omega, by omega⟩)
/-- Object.<init> -/
theorem ev_obj (hd : decode M.2.1 pc = .ok (.invokespecial i, 3)) (hl : Cond.methodLink M.1.cls i Lib.objectInit ∈ ev_T) (hin : Cond.instanceMethod Lib.objectInit ∈ ev_T) (hco : Cond.code Lib.objectInit ⟨#[0xb1]⟩ 1 none ∈ ev_T) (hW : (rest.map fun v => v.category).sum ≤ 8) (k : ev_Run G l (d + 1) bc bs M (pc + 3) L rest h n P) : ev_Run G l (d + 1) bc bs M pc L (.ref b :: rest) h n P := by
  intro p e s m args below meth c R Q H locs cells slots ls C hf hlo hc hs hL hH hS hk
  have hts := C.2.2.2.2.2.2.1
  exact W.objInit C.1 C.2.1 C.2.2.2.2.2.1 (hts _ hl) (hts _ hin) (hts _ hco) rfl (hL.1.trans C.2.2.2.2.1.symm) rfl hd (by omega) (by show 2 * 0 + _ + 12 ≤ _; omega) (k p e s m args below meth c R Q H locs cells slots ls C hf hlo hc hs hL hH hS hk)
end EVC
section EVX
variable {G : xG} {l : Launch} {d bc bs : Nat} {M : xM} {pc : Nat} {L : List (Option Value)} {st : List Value} {h : xH} {n : Nat} {P : Option Value → xH → Nat → Prop}
theorem ev_zald {t a N j : Nat} {f : Nat → Int32} {i : Int32} (hd : decode M.2.1 pc = .ok (.baload, 1)) (ha : h a = some (.inl (t, N, .inl f))) (ht : ev_tys[t]? = some .boolean) (hi : i = nI j) (hj : j < N) (hN : N < 2 ^ 31) (kk : ev_Run G l d bc bs M (pc + 1) L (.int (f j) :: st) h n P) : ev_Run G l d bc bs M pc L (.int i :: .ref a :: st) h n P := by
  subst hi
  intro p e s m args below meth c R Q H locs cells slots ls C hf hlo hc hs hL hH hS hk
  obtain ⟨q, hq, hcell⟩ := (hH.2.2.2 a _ ha).2
  obtain ⟨cA, hq', -, -⟩ := ev_tyOf C.2.2.2.2.2.2.2.1 ht
  cases hq.symm.trans hq'
  have hin : vp_in (nI j) N := vp_in_nI hj hN
  refine va_zald (D := xD G) (cl := vwCl) (tys := xTy G) (ws := [(a, .inl (cA, N, .inl f))]) C.1 C.2.1 C.2.2.2.2.2.2.2.1.1 (ev_one hcell) 0 t rfl hq hin hd ?_
  rw [nI_clamp (by omega)]
  exact kk p e s m args below meth c R Q H locs cells slots ls C hf hlo hc hs hL hH hS hk
theorem ev_zast {t a N j : Nat} {f : Nat → Int32} {i x : Int32} (hd : decode M.2.1 pc = .ok (.bastore, 1)) (ha : h a = some (.inl (t, N, .inl f))) (ht : ev_tys[t]? = some .boolean) (hi : i = nI j) (hj : j < N) (hN : N < 2 ^ 31) (hx : narrow .boolean (.int x) = .int x) (kk : ev_Run G l d bc bs M (pc + 1) L st (hp_set h a (.inl (t, N, .inl (upd f j x)))) n P) : ev_Run G l d bc bs M pc L (.int x :: .int i :: .ref a :: st) h n P := by
  subst hi
  intro p e s m args below meth c R Q H locs cells slots ls C hf hlo hc hs hL hH hS hk
  obtain ⟨hab, q, hq, hcell⟩ := hH.2.2.2 a _ ha
  obtain ⟨cA, hq', hAr, -⟩ := ev_tyOf C.2.2.2.2.2.2.2.1 ht
  cases hq.symm.trans hq'
  have hbb := C.2.2.2.2.2.2.2.1.2.2.2.2.2.2.2.1
  have hin : vp_in (nI j) N := vp_in_nI hj hN
  refine W.zast C.1 C.2.1 hcell (hAr N (fun j => .int (f j))) (fun q => by cases q) (by show ¬ (nI j < 0 ∨ (arrV _ _ _).slots.size ≤ _); rw [arrV_size]; exact hin) rfl rfl hd fun H1 e1 z oq => ?_
  refine kk p e s m args below meth c R Q H1 _ cells slots ls C hf hlo hc hs hL (hH.put hab hbb z oq ⟨_, hq, ?_⟩) (hS.put z oq hab) hk
  rw [e1, vp_cell_i, vp_cell_i, hx, arrV_store, nI_clamp (by omega)]
  congr 2
  funext y
  by_cases hy : y = j
  · subst hy
    simp [updV, upd]
  · simp [updV, upd, hy]
theorem ev_mmax {i : Nat} {x y : Int32} (hd : decode M.2.1 pc = .ok (.invokestatic i, 3)) (hl : Cond.methodLink M.1.cls i Lib.Math.max.name ∈ ev_T) (h1 : Cond.static Lib.Math.max.name ∈ ev_T) (h2 : Cond.initialized "java/lang/Math" ∈ ev_T) (h3 : Cond.code Lib.Math.max.name Lib.Math.max.code 2 (some .int) ∈ ev_T) (hW : (st.map fun v => v.category).sum ≤ 8) (k : ev_Run G l (d + 1) bc bs M (pc + 3) L (.int (if x < y then y else x) :: st) h n P) : ev_Run G l (d + 1) bc bs M pc L (.int y :: .int x :: st) h n P := by
  intro p e s m args below meth c R Q H locs cells slots ls C hf hlo hc hs hL hH hS hk
  have hts := C.2.2.2.2.2.2.1
  exact va_mmax C.1 C.2.1 (C.2.2.2.2.1.trans hL.1.symm) C.2.2.2.2.2.1 (hts _ hl) (hts _ h1) (hts _ h2) (hts _ h3) (by omega) (by omega) (by omega) (by omega) hd (k p e s m args below meth c R Q H locs cells slots ls C hf hlo hc hs hL hH hS hk)
theorem ev_mminl {i : Nat} {x y : Int64} (hd : decode M.2.1 pc = .ok (.invokestatic i, 3)) (hl : Cond.methodLink M.1.cls i Lib.MathLoose.min_long.x ∈ ev_T) (h1 : Cond.static Lib.MathLoose.min_long.x ∈ ev_T) (h2 : Cond.initialized "java/lang/Math" ∈ ev_T) (h3 : Cond.code Lib.MathLoose.min_long.x Lib.MathLoose.min_long.code 4 (some .long) ∈ ev_T) (hW : (st.map fun v => v.category).sum ≤ 8) (k : ev_Run G l (d + 1) bc bs M (pc + 3) L (.long (if y < x then y else x) :: st) h n P) : ev_Run G l (d + 1) bc bs M pc L (.long y :: .long x :: st) h n P := by
  intro p e s m args below meth c R Q H locs cells slots ls C hf hlo hc hs hL hH hS hk
  have hts := C.2.2.2.2.2.2.1
  exact va_mmin_long C.1 C.2.1 (C.2.2.2.2.1.trans hL.1.symm) C.2.2.2.2.2.1 (hts _ hl) (hts _ h1) (hts _ h2) (hts _ h3) (by omega) (by omega) (by omega) (by omega) hd (k p e s m args below meth c R Q H locs cells slots ls C hf hlo hc hs hL hH hS hk)
/-- every cell that there is lies below n -/
theorem ev_lt (k : (∀ (a : Nat) (e : xE), h a = some e → a < n) → ev_Run G l d bc bs M pc L st h n P) : ev_Run G l d bc bs M pc L st h n P :=
  fun p e s m args below meth c R Q H locs cells slots ls C hf hlo hc hs hL hH hS hk => k (fun _ _ ha => hH.lt ha) p e s m args below meth c R Q H locs cells slots ls C hf hlo hc hs hL hH hS hk
end EVX
end
section
theorem ev_at (i : Nat) {w : Cond} (h : lw_tbl[i]? = some w) (hg : goodWord w = true) : w ∈ ev_T := List.mem_filter.mpr ⟨List.mem_of_getElem? h, hg⟩
theorem ev_sub {ws : List Cond} (h : ws.all (fun w => decide (w ∈ lw_tbl) && goodWord w) = true) : ∀ w ∈ ws, w ∈ ev_T := fun w hw => by
  have h1 := List.all_eq_true.mp h w hw
  simp only [Bool.and_eq_true, decide_eq_true_eq] at h1
  exact List.mem_filter.mpr ⟨h1.1, h1.2⟩
theorem inBy : ∀ w ∈ u_ws "BatchLinks$Bytes" TBy 2, w ∈ ev_T := ev_sub (by decide +kernel)
theorem tBy_0 : ev_fty 0 0 (.array .int) true "BatchLinks$Bytes" := ⟨_, _, _, tyBy, rfl, okBy, nmBy, by decide +kernel, rfl, rfl⟩
theorem tBy_1 : ev_fty 0 1 (.int) false "BatchLinks$Bytes" := ⟨_, _, _, tyBy, rfl, okBy, nmBy, by decide +kernel, rfl, rfl⟩
theorem inLa : ∀ w ∈ u_ws "BatchLinks$Layers" TLa 3, w ∈ ev_T := ev_sub (by decide +kernel)
theorem tLa_0 : ev_fty 1 0 (.array .int) true "BatchLinks$Layers" := ⟨_, _, _, tyLa, rfl, okLa, nmLa, by decide +kernel, rfl, rfl⟩
theorem tLa_1 : ev_fty 1 1 (.array .long) true "BatchLinks$Layers" := ⟨_, _, _, tyLa, rfl, okLa, nmLa, by decide +kernel, rfl, rfl⟩
theorem tLa_2 : ev_fty 1 2 (.int) false "BatchLinks$Layers" := ⟨_, _, _, tyLa, rfl, okLa, nmLa, by decide +kernel, rfl, rfl⟩
theorem inLe : ∀ w ∈ u_ws "BatchLinks$Ledger" TLe 6, w ∈ ev_T := ev_sub (by decide +kernel)
theorem tLe_0 : ev_fty 2 0 (.array .int) true "BatchLinks$Ledger" := ⟨_, _, _, tyLe, rfl, okLe, nmLe, by decide +kernel, rfl, rfl⟩
theorem tLe_1 : ev_fty 2 1 (.int) false "BatchLinks$Ledger" := ⟨_, _, _, tyLe, rfl, okLe, nmLe, by decide +kernel, rfl, rfl⟩
theorem tLe_2 : ev_fty 2 2 (.array .int) true "BatchLinks$Ledger" := ⟨_, _, _, tyLe, rfl, okLe, nmLe, by decide +kernel, rfl, rfl⟩
theorem tLe_3 : ev_fty 2 3 (.array .int) true "BatchLinks$Ledger" := ⟨_, _, _, tyLe, rfl, okLe, nmLe, by decide +kernel, rfl, rfl⟩
theorem tLe_4 : ev_fty 2 4 (.array .long) true "BatchLinks$Ledger" := ⟨_, _, _, tyLe, rfl, okLe, nmLe, by decide +kernel, rfl, rfl⟩
theorem tLe_5 : ev_fty 2 5 (.int) false "BatchLinks$Ledger" := ⟨_, _, _, tyLe, rfl, okLe, nmLe, by decide +kernel, rfl, rfl⟩
theorem inNa : ∀ w ∈ u_ws "BatchLinks$NamesReader" TNa 3, w ∈ ev_T := ev_sub (by decide +kernel)
theorem tNa_0 : ev_fty 3 0 (.object "BatchLinks$Bytes") true "BatchLinks$NamesReader" := ⟨_, _, _, tyNa, rfl, okNa, nmNa, by decide +kernel, rfl, rfl⟩
theorem tNa_1 : ev_fty 3 1 (.int) false "BatchLinks$NamesReader" := ⟨_, _, _, tyNa, rfl, okNa, nmNa, by decide +kernel, rfl, rfl⟩
theorem tNa_2 : ev_fty 3 2 (.int) false "BatchLinks$NamesReader" := ⟨_, _, _, tyNa, rfl, okNa, nmNa, by decide +kernel, rfl, rfl⟩
theorem inRu : ∀ w ∈ u_ws "BatchLinks$Rules" TRu 5, w ∈ ev_T := ev_sub (by decide +kernel)
theorem tRu_0 : ev_fty 4 0 (.array .int) true "BatchLinks$Rules" := ⟨_, _, _, tyRu, rfl, okRu, nmRu, by decide +kernel, rfl, rfl⟩
theorem tRu_1 : ev_fty 4 1 (.array .int) true "BatchLinks$Rules" := ⟨_, _, _, tyRu, rfl, okRu, nmRu, by decide +kernel, rfl, rfl⟩
theorem tRu_2 : ev_fty 4 2 (.array .int) true "BatchLinks$Rules" := ⟨_, _, _, tyRu, rfl, okRu, nmRu, by decide +kernel, rfl, rfl⟩
theorem tRu_3 : ev_fty 4 3 (.array .int) true "BatchLinks$Rules" := ⟨_, _, _, tyRu, rfl, okRu, nmRu, by decide +kernel, rfl, rfl⟩
theorem tRu_4 : ev_fty 4 4 (.int) false "BatchLinks$Rules" := ⟨_, _, _, tyRu, rfl, okRu, nmRu, by decide +kernel, rfl, rfl⟩
theorem inTa : ∀ w ∈ u_ws "BatchLinks$Tally" TTa 1, w ∈ ev_T := ev_sub (by decide +kernel)
theorem tTa_0 : ev_fty 5 0 (.array .int) true "BatchLinks$Tally" := ⟨_, _, _, tyTa, rfl, okTa, nmTa, by decide +kernel, rfl, rfl⟩
theorem inTh : ∀ w ∈ u_ws "BatchLinks$Thing" TTh 8, w ∈ ev_T := ev_sub (by decide +kernel)
theorem tTh_0 : ev_fty 6 0 (.int) true "BatchLinks$Thing" := ⟨_, _, _, tyTh, rfl, okTh, nmTh, by decide +kernel, rfl, rfl⟩
theorem tTh_1 : ev_fty 6 1 (.int) true "BatchLinks$Thing" := ⟨_, _, _, tyTh, rfl, okTh, nmTh, by decide +kernel, rfl, rfl⟩
theorem tTh_2 : ev_fty 6 2 (.int) true "BatchLinks$Thing" := ⟨_, _, _, tyTh, rfl, okTh, nmTh, by decide +kernel, rfl, rfl⟩
theorem tTh_3 : ev_fty 6 3 (.object "BatchLinks$Layers") true "BatchLinks$Thing" := ⟨_, _, _, tyTh, rfl, okTh, nmTh, by decide +kernel, rfl, rfl⟩
theorem tTh_4 : ev_fty 6 4 (.long) false "BatchLinks$Thing" := ⟨_, _, _, tyTh, rfl, okTh, nmTh, by decide +kernel, rfl, rfl⟩
theorem tTh_5 : ev_fty 6 5 (.long) false "BatchLinks$Thing" := ⟨_, _, _, tyTh, rfl, okTh, nmTh, by decide +kernel, rfl, rfl⟩
theorem tTh_6 : ev_fty 6 6 (.boolean) false "BatchLinks$Thing" := ⟨_, _, _, tyTh, rfl, okTh, nmTh, by decide +kernel, rfl, rfl⟩
theorem tTh_7 : ev_fty 6 7 (.int) false "BatchLinks$Thing" := ⟨_, _, _, tyTh, rfl, okTh, nmTh, by decide +kernel, rfl, rfl⟩
theorem inBL : ∀ w ∈ u_ws "BatchLinks" TBL 10, w ∈ ev_T := ev_sub (by decide +kernel)
theorem tBL_0 : ev_fty 7 0 (.array (.object "BatchLinks$Thing")) true "BatchLinks" := ⟨_, _, _, tyBL, rfl, okBL, nmBL, by decide +kernel, rfl, rfl⟩
theorem tBL_1 : ev_fty 7 1 (.int) false "BatchLinks" := ⟨_, _, _, tyBL, rfl, okBL, nmBL, by decide +kernel, rfl, rfl⟩
theorem tBL_2 : ev_fty 7 2 (.object "BatchLinks$Tally") true "BatchLinks" := ⟨_, _, _, tyBL, rfl, okBL, nmBL, by decide +kernel, rfl, rfl⟩
theorem tBL_3 : ev_fty 7 3 (.object "BatchLinks$Tally") true "BatchLinks" := ⟨_, _, _, tyBL, rfl, okBL, nmBL, by decide +kernel, rfl, rfl⟩
theorem tBL_4 : ev_fty 7 4 (.object "BatchLinks$Bytes") true "BatchLinks" := ⟨_, _, _, tyBL, rfl, okBL, nmBL, by decide +kernel, rfl, rfl⟩
theorem tBL_5 : ev_fty 7 5 (.object "BatchLinks$NamesReader") true "BatchLinks" := ⟨_, _, _, tyBL, rfl, okBL, nmBL, by decide +kernel, rfl, rfl⟩
theorem tBL_6 : ev_fty 7 6 (.object "BatchLinks$Rules") false "BatchLinks" := ⟨_, _, _, tyBL, rfl, okBL, nmBL, by decide +kernel, rfl, rfl⟩
theorem tBL_7 : ev_fty 7 7 (.object "BatchLinks$Rules") false "BatchLinks" := ⟨_, _, _, tyBL, rfl, okBL, nmBL, by decide +kernel, rfl, rfl⟩
theorem tBL_8 : ev_fty 7 8 (.object "BatchLinks$Ledger") true "BatchLinks" := ⟨_, _, _, tyBL, rfl, okBL, nmBL, by decide +kernel, rfl, rfl⟩
theorem tBL_9 : ev_fty 7 9 (.object "BatchLinks$Bytes") true "BatchLinks" := ⟨_, _, _, tyBL, rfl, okBL, nmBL, by decide +kernel, rfl, rfl⟩
theorem inMo : ∀ w ∈ u_ws "BatchLinksModel" TMo 36, w ∈ ev_T := ev_sub (by decide +kernel)
theorem tMo_0 : ev_fty 8 0 (.int) false "BatchLinksModel" := ⟨_, _, _, tyMo, rfl, okMo, nmMo, by decide +kernel, rfl, rfl⟩
theorem tMo_1 : ev_fty 8 1 (.array .int) true "BatchLinksModel" := ⟨_, _, _, tyMo, rfl, okMo, nmMo, by decide +kernel, rfl, rfl⟩
theorem tMo_2 : ev_fty 8 2 (.array .int) true "BatchLinksModel" := ⟨_, _, _, tyMo, rfl, okMo, nmMo, by decide +kernel, rfl, rfl⟩
theorem tMo_3 : ev_fty 8 3 (.array .int) true "BatchLinksModel" := ⟨_, _, _, tyMo, rfl, okMo, nmMo, by decide +kernel, rfl, rfl⟩
theorem tMo_4 : ev_fty 8 4 (.array .long) true "BatchLinksModel" := ⟨_, _, _, tyMo, rfl, okMo, nmMo, by decide +kernel, rfl, rfl⟩
theorem tMo_5 : ev_fty 8 5 (.array .long) true "BatchLinksModel" := ⟨_, _, _, tyMo, rfl, okMo, nmMo, by decide +kernel, rfl, rfl⟩
theorem tMo_6 : ev_fty 8 6 (.array .boolean) true "BatchLinksModel" := ⟨_, _, _, tyMo, rfl, okMo, nmMo, by decide +kernel, rfl, rfl⟩
theorem tMo_7 : ev_fty 8 7 (.array .int) true "BatchLinksModel" := ⟨_, _, _, tyMo, rfl, okMo, nmMo, by decide +kernel, rfl, rfl⟩
theorem tMo_8 : ev_fty 8 8 (.array .int) true "BatchLinksModel" := ⟨_, _, _, tyMo, rfl, okMo, nmMo, by decide +kernel, rfl, rfl⟩
theorem tMo_9 : ev_fty 8 9 (.array .int) true "BatchLinksModel" := ⟨_, _, _, tyMo, rfl, okMo, nmMo, by decide +kernel, rfl, rfl⟩
theorem tMo_10 : ev_fty 8 10 (.array .long) true "BatchLinksModel" := ⟨_, _, _, tyMo, rfl, okMo, nmMo, by decide +kernel, rfl, rfl⟩
theorem tMo_11 : ev_fty 8 11 (.int) false "BatchLinksModel" := ⟨_, _, _, tyMo, rfl, okMo, nmMo, by decide +kernel, rfl, rfl⟩
theorem tMo_12 : ev_fty 8 12 (.array .int) true "BatchLinksModel" := ⟨_, _, _, tyMo, rfl, okMo, nmMo, by decide +kernel, rfl, rfl⟩
theorem tMo_13 : ev_fty 8 13 (.array .long) true "BatchLinksModel" := ⟨_, _, _, tyMo, rfl, okMo, nmMo, by decide +kernel, rfl, rfl⟩
theorem tMo_14 : ev_fty 8 14 (.int) false "BatchLinksModel" := ⟨_, _, _, tyMo, rfl, okMo, nmMo, by decide +kernel, rfl, rfl⟩
theorem tMo_15 : ev_fty 8 15 (.array .int) true "BatchLinksModel" := ⟨_, _, _, tyMo, rfl, okMo, nmMo, by decide +kernel, rfl, rfl⟩
theorem tMo_16 : ev_fty 8 16 (.int) false "BatchLinksModel" := ⟨_, _, _, tyMo, rfl, okMo, nmMo, by decide +kernel, rfl, rfl⟩
theorem tMo_17 : ev_fty 8 17 (.array .int) true "BatchLinksModel" := ⟨_, _, _, tyMo, rfl, okMo, nmMo, by decide +kernel, rfl, rfl⟩
theorem tMo_18 : ev_fty 8 18 (.array .int) true "BatchLinksModel" := ⟨_, _, _, tyMo, rfl, okMo, nmMo, by decide +kernel, rfl, rfl⟩
theorem tMo_19 : ev_fty 8 19 (.array .int) true "BatchLinksModel" := ⟨_, _, _, tyMo, rfl, okMo, nmMo, by decide +kernel, rfl, rfl⟩
theorem tMo_20 : ev_fty 8 20 (.array .int) true "BatchLinksModel" := ⟨_, _, _, tyMo, rfl, okMo, nmMo, by decide +kernel, rfl, rfl⟩
theorem tMo_21 : ev_fty 8 21 (.int) false "BatchLinksModel" := ⟨_, _, _, tyMo, rfl, okMo, nmMo, by decide +kernel, rfl, rfl⟩
theorem tMo_22 : ev_fty 8 22 (.array .int) true "BatchLinksModel" := ⟨_, _, _, tyMo, rfl, okMo, nmMo, by decide +kernel, rfl, rfl⟩
theorem tMo_23 : ev_fty 8 23 (.array .int) true "BatchLinksModel" := ⟨_, _, _, tyMo, rfl, okMo, nmMo, by decide +kernel, rfl, rfl⟩
theorem tMo_24 : ev_fty 8 24 (.array .int) true "BatchLinksModel" := ⟨_, _, _, tyMo, rfl, okMo, nmMo, by decide +kernel, rfl, rfl⟩
theorem tMo_25 : ev_fty 8 25 (.array .int) true "BatchLinksModel" := ⟨_, _, _, tyMo, rfl, okMo, nmMo, by decide +kernel, rfl, rfl⟩
theorem tMo_26 : ev_fty 8 26 (.int) false "BatchLinksModel" := ⟨_, _, _, tyMo, rfl, okMo, nmMo, by decide +kernel, rfl, rfl⟩
theorem tMo_27 : ev_fty 8 27 (.int) false "BatchLinksModel" := ⟨_, _, _, tyMo, rfl, okMo, nmMo, by decide +kernel, rfl, rfl⟩
theorem tMo_28 : ev_fty 8 28 (.int) false "BatchLinksModel" := ⟨_, _, _, tyMo, rfl, okMo, nmMo, by decide +kernel, rfl, rfl⟩
theorem tMo_29 : ev_fty 8 29 (.array .int) true "BatchLinksModel" := ⟨_, _, _, tyMo, rfl, okMo, nmMo, by decide +kernel, rfl, rfl⟩
theorem tMo_30 : ev_fty 8 30 (.int) false "BatchLinksModel" := ⟨_, _, _, tyMo, rfl, okMo, nmMo, by decide +kernel, rfl, rfl⟩
theorem tMo_31 : ev_fty 8 31 (.array .int) true "BatchLinksModel" := ⟨_, _, _, tyMo, rfl, okMo, nmMo, by decide +kernel, rfl, rfl⟩
theorem tMo_32 : ev_fty 8 32 (.array .int) true "BatchLinksModel" := ⟨_, _, _, tyMo, rfl, okMo, nmMo, by decide +kernel, rfl, rfl⟩
theorem tMo_33 : ev_fty 8 33 (.array .long) true "BatchLinksModel" := ⟨_, _, _, tyMo, rfl, okMo, nmMo, by decide +kernel, rfl, rfl⟩
theorem tMo_34 : ev_fty 8 34 (.int) false "BatchLinksModel" := ⟨_, _, _, tyMo, rfl, okMo, nmMo, by decide +kernel, rfl, rfl⟩
theorem tMo_35 : ev_fty 8 35 (.array .int) true "BatchLinksModel" := ⟨_, _, _, tyMo, rfl, okMo, nmMo, by decide +kernel, rfl, rfl⟩
theorem fBL_11 : ev_fld "BatchLinks" 11 7 0 := ⟨_, _, _, rfl, by decide, ev_at 150 (by decide +kernel) (by decide +kernel), inBL⟩
theorem fBL_15 : ev_fld "BatchLinks" 15 7 1 := ⟨_, _, _, rfl, by decide, ev_at 151 (by decide +kernel) (by decide +kernel), inBL⟩
theorem fBL_22 : ev_fld "BatchLinks" 22 7 2 := ⟨_, _, _, rfl, by decide, ev_at 152 (by decide +kernel) (by decide +kernel), inBL⟩
theorem fBL_26 : ev_fld "BatchLinks" 26 7 3 := ⟨_, _, _, rfl, by decide, ev_at 153 (by decide +kernel) (by decide +kernel), inBL⟩
theorem fBL_34 : ev_fld "BatchLinks" 34 7 4 := ⟨_, _, _, rfl, by decide, ev_at 154 (by decide +kernel) (by decide +kernel), inBL⟩
theorem fBL_43 : ev_fld "BatchLinks" 43 7 5 := ⟨_, _, _, rfl, by decide, ev_at 155 (by decide +kernel) (by decide +kernel), inBL⟩
theorem fBL_50 : ev_fld "BatchLinks" 50 7 6 := ⟨_, _, _, rfl, by decide, ev_at 156 (by decide +kernel) (by decide +kernel), inBL⟩
theorem fBL_54 : ev_fld "BatchLinks" 54 7 7 := ⟨_, _, _, rfl, by decide, ev_at 157 (by decide +kernel) (by decide +kernel), inBL⟩
theorem fBL_60 : ev_fld "BatchLinks" 60 7 8 := ⟨_, _, _, rfl, by decide, ev_at 158 (by decide +kernel) (by decide +kernel), inBL⟩
theorem fBL_64 : ev_fld "BatchLinks" 64 7 9 := ⟨_, _, _, rfl, by decide, ev_at 159 (by decide +kernel) (by decide +kernel), inBL⟩
theorem fBL_83 : ev_fld "BatchLinks" 83 6 4 := ⟨_, _, _, rfl, by decide, ev_at 225 (by decide +kernel) (by decide +kernel), inTh⟩
theorem fBL_87 : ev_fld "BatchLinks" 87 6 3 := ⟨_, _, _, rfl, by decide, ev_at 224 (by decide +kernel) (by decide +kernel), inTh⟩
theorem fBL_105 : ev_fld "BatchLinks" 105 6 0 := ⟨_, _, _, rfl, by decide, ev_at 219 (by decide +kernel) (by decide +kernel), inTh⟩
theorem fBL_108 : ev_fld "BatchLinks" 108 6 6 := ⟨_, _, _, rfl, by decide, ev_at 230 (by decide +kernel) (by decide +kernel), inTh⟩
theorem fBL_133 : ev_fld "BatchLinks" 133 6 5 := ⟨_, _, _, rfl, by decide, ev_at 228 (by decide +kernel) (by decide +kernel), inTh⟩
theorem fBL_195 : ev_fld "BatchLinks" 195 6 1 := ⟨_, _, _, rfl, by decide, ev_at 221 (by decide +kernel) (by decide +kernel), inTh⟩
theorem fBL_225 : ev_fld "BatchLinks" 225 6 7 := ⟨_, _, _, rfl, by decide, ev_at 232 (by decide +kernel) (by decide +kernel), inTh⟩
theorem fBy_15 : ev_fld "BatchLinks$Bytes" 15 0 0 := ⟨_, _, _, rfl, by decide, ev_at 79 (by decide +kernel) (by decide +kernel), inBy⟩
theorem fBy_21 : ev_fld "BatchLinks$Bytes" 21 0 1 := ⟨_, _, _, rfl, by decide, ev_at 80 (by decide +kernel) (by decide +kernel), inBy⟩
theorem fLa_9 : ev_fld "BatchLinks$Layers" 9 1 0 := ⟨_, _, _, rfl, by decide, ev_at 208 (by decide +kernel) (by decide +kernel), inLa⟩
theorem fLa_15 : ev_fld "BatchLinks$Layers" 15 1 1 := ⟨_, _, _, rfl, by decide, ev_at 209 (by decide +kernel) (by decide +kernel), inLa⟩
theorem fLa_19 : ev_fld "BatchLinks$Layers" 19 1 2 := ⟨_, _, _, rfl, by decide, ev_at 210 (by decide +kernel) (by decide +kernel), inLa⟩
theorem fLe_11 : ev_fld "BatchLinks$Ledger" 11 2 0 := ⟨_, _, _, rfl, by decide, ev_at 130 (by decide +kernel) (by decide +kernel), inLe⟩
theorem fLe_15 : ev_fld "BatchLinks$Ledger" 15 2 2 := ⟨_, _, _, rfl, by decide, ev_at 132 (by decide +kernel) (by decide +kernel), inLe⟩
theorem fLe_18 : ev_fld "BatchLinks$Ledger" 18 2 3 := ⟨_, _, _, rfl, by decide, ev_at 133 (by decide +kernel) (by decide +kernel), inLe⟩
theorem fLe_21 : ev_fld "BatchLinks$Ledger" 21 2 4 := ⟨_, _, _, rfl, by decide, ev_at 134 (by decide +kernel) (by decide +kernel), inLe⟩
theorem fLe_25 : ev_fld "BatchLinks$Ledger" 25 2 1 := ⟨_, _, _, rfl, by decide, ev_at 131 (by decide +kernel) (by decide +kernel), inLe⟩
theorem fLe_29 : ev_fld "BatchLinks$Ledger" 29 2 5 := ⟨_, _, _, rfl, by decide, ev_at 135 (by decide +kernel) (by decide +kernel), inLe⟩
theorem fNa_9 : ev_fld "BatchLinks$NamesReader" 9 3 0 := ⟨_, _, _, rfl, by decide, ev_at 92 (by decide +kernel) (by decide +kernel), inNa⟩
theorem fNa_15 : ev_fld "BatchLinks$NamesReader" 15 3 1 := ⟨_, _, _, rfl, by decide, ev_at 93 (by decide +kernel) (by decide +kernel), inNa⟩
theorem fNa_19 : ev_fld "BatchLinks$NamesReader" 19 3 2 := ⟨_, _, _, rfl, by decide, ev_at 94 (by decide +kernel) (by decide +kernel), inNa⟩
theorem fRu_11 : ev_fld "BatchLinks$Rules" 11 4 0 := ⟨_, _, _, rfl, by decide, ev_at 108 (by decide +kernel) (by decide +kernel), inRu⟩
theorem fRu_15 : ev_fld "BatchLinks$Rules" 15 4 1 := ⟨_, _, _, rfl, by decide, ev_at 109 (by decide +kernel) (by decide +kernel), inRu⟩
theorem fRu_18 : ev_fld "BatchLinks$Rules" 18 4 2 := ⟨_, _, _, rfl, by decide, ev_at 110 (by decide +kernel) (by decide +kernel), inRu⟩
theorem fRu_21 : ev_fld "BatchLinks$Rules" 21 4 3 := ⟨_, _, _, rfl, by decide, ev_at 111 (by decide +kernel) (by decide +kernel), inRu⟩
theorem fRu_24 : ev_fld "BatchLinks$Rules" 24 4 4 := ⟨_, _, _, rfl, by decide, ev_at 112 (by decide +kernel) (by decide +kernel), inRu⟩
theorem fTa_11 : ev_fld "BatchLinks$Tally" 11 5 0 := ⟨_, _, _, rfl, by decide, ev_at 65 (by decide +kernel) (by decide +kernel), inTa⟩
theorem fTh_9 : ev_fld "BatchLinks$Thing" 9 6 0 := ⟨_, _, _, rfl, by decide, ev_at 218 (by decide +kernel) (by decide +kernel), inTh⟩
theorem fTh_15 : ev_fld "BatchLinks$Thing" 15 6 1 := ⟨_, _, _, rfl, by decide, ev_at 220 (by decide +kernel) (by decide +kernel), inTh⟩
theorem fTh_18 : ev_fld "BatchLinks$Thing" 18 6 2 := ⟨_, _, _, rfl, by decide, ev_at 222 (by decide +kernel) (by decide +kernel), inTh⟩
theorem fTh_24 : ev_fld "BatchLinks$Thing" 24 6 3 := ⟨_, _, _, rfl, by decide, ev_at 223 (by decide +kernel) (by decide +kernel), inTh⟩
theorem fTh_36 : ev_fld "BatchLinks$Thing" 36 6 7 := ⟨_, _, _, rfl, by decide, ev_at 231 (by decide +kernel) (by decide +kernel), inTh⟩
theorem fTh_53 : ev_fld "BatchLinks$Thing" 53 6 5 := ⟨_, _, _, rfl, by decide, ev_at 227 (by decide +kernel) (by decide +kernel), inTh⟩
theorem fTh_57 : ev_fld "BatchLinks$Thing" 57 6 6 := ⟨_, _, _, rfl, by decide, ev_at 229 (by decide +kernel) (by decide +kernel), inTh⟩
theorem fTh_61 : ev_fld "BatchLinks$Thing" 61 6 4 := ⟨_, _, _, rfl, by decide, ev_at 226 (by decide +kernel) (by decide +kernel), inTh⟩
theorem fMo_7 : ev_fld "BatchLinksModel" 7 8 1 := ⟨_, _, _, rfl, by decide, ev_at 589 (by decide +kernel) (by decide +kernel), inMo⟩
theorem fMo_13 : ev_fld "BatchLinksModel" 13 8 2 := ⟨_, _, _, rfl, by decide, ev_at 590 (by decide +kernel) (by decide +kernel), inMo⟩
theorem fMo_16 : ev_fld "BatchLinksModel" 16 8 3 := ⟨_, _, _, rfl, by decide, ev_at 591 (by decide +kernel) (by decide +kernel), inMo⟩
theorem fMo_19 : ev_fld "BatchLinksModel" 19 8 4 := ⟨_, _, _, rfl, by decide, ev_at 592 (by decide +kernel) (by decide +kernel), inMo⟩
theorem fMo_23 : ev_fld "BatchLinksModel" 23 8 5 := ⟨_, _, _, rfl, by decide, ev_at 593 (by decide +kernel) (by decide +kernel), inMo⟩
theorem fMo_26 : ev_fld "BatchLinksModel" 26 8 6 := ⟨_, _, _, rfl, by decide, ev_at 594 (by decide +kernel) (by decide +kernel), inMo⟩
theorem fMo_30 : ev_fld "BatchLinksModel" 30 8 7 := ⟨_, _, _, rfl, by decide, ev_at 595 (by decide +kernel) (by decide +kernel), inMo⟩
theorem fMo_33 : ev_fld "BatchLinksModel" 33 8 8 := ⟨_, _, _, rfl, by decide, ev_at 596 (by decide +kernel) (by decide +kernel), inMo⟩
theorem fMo_36 : ev_fld "BatchLinksModel" 36 8 9 := ⟨_, _, _, rfl, by decide, ev_at 597 (by decide +kernel) (by decide +kernel), inMo⟩
theorem fMo_39 : ev_fld "BatchLinksModel" 39 8 10 := ⟨_, _, _, rfl, by decide, ev_at 598 (by decide +kernel) (by decide +kernel), inMo⟩
theorem fMo_42 : ev_fld "BatchLinksModel" 42 8 12 := ⟨_, _, _, rfl, by decide, ev_at 600 (by decide +kernel) (by decide +kernel), inMo⟩
theorem fMo_45 : ev_fld "BatchLinksModel" 45 8 13 := ⟨_, _, _, rfl, by decide, ev_at 601 (by decide +kernel) (by decide +kernel), inMo⟩
theorem fMo_48 : ev_fld "BatchLinksModel" 48 8 15 := ⟨_, _, _, rfl, by decide, ev_at 603 (by decide +kernel) (by decide +kernel), inMo⟩
theorem fMo_51 : ev_fld "BatchLinksModel" 51 8 17 := ⟨_, _, _, rfl, by decide, ev_at 605 (by decide +kernel) (by decide +kernel), inMo⟩
theorem fMo_54 : ev_fld "BatchLinksModel" 54 8 18 := ⟨_, _, _, rfl, by decide, ev_at 606 (by decide +kernel) (by decide +kernel), inMo⟩
theorem fMo_57 : ev_fld "BatchLinksModel" 57 8 19 := ⟨_, _, _, rfl, by decide, ev_at 607 (by decide +kernel) (by decide +kernel), inMo⟩
theorem fMo_60 : ev_fld "BatchLinksModel" 60 8 20 := ⟨_, _, _, rfl, by decide, ev_at 608 (by decide +kernel) (by decide +kernel), inMo⟩
theorem fMo_63 : ev_fld "BatchLinksModel" 63 8 22 := ⟨_, _, _, rfl, by decide, ev_at 610 (by decide +kernel) (by decide +kernel), inMo⟩
theorem fMo_66 : ev_fld "BatchLinksModel" 66 8 23 := ⟨_, _, _, rfl, by decide, ev_at 611 (by decide +kernel) (by decide +kernel), inMo⟩
theorem fMo_69 : ev_fld "BatchLinksModel" 69 8 24 := ⟨_, _, _, rfl, by decide, ev_at 612 (by decide +kernel) (by decide +kernel), inMo⟩
theorem fMo_72 : ev_fld "BatchLinksModel" 72 8 25 := ⟨_, _, _, rfl, by decide, ev_at 613 (by decide +kernel) (by decide +kernel), inMo⟩
theorem fMo_75 : ev_fld "BatchLinksModel" 75 8 29 := ⟨_, _, _, rfl, by decide, ev_at 617 (by decide +kernel) (by decide +kernel), inMo⟩
theorem fMo_78 : ev_fld "BatchLinksModel" 78 8 31 := ⟨_, _, _, rfl, by decide, ev_at 619 (by decide +kernel) (by decide +kernel), inMo⟩
theorem fMo_81 : ev_fld "BatchLinksModel" 81 8 32 := ⟨_, _, _, rfl, by decide, ev_at 620 (by decide +kernel) (by decide +kernel), inMo⟩
theorem fMo_84 : ev_fld "BatchLinksModel" 84 8 33 := ⟨_, _, _, rfl, by decide, ev_at 621 (by decide +kernel) (by decide +kernel), inMo⟩
theorem fMo_87 : ev_fld "BatchLinksModel" 87 8 35 := ⟨_, _, _, rfl, by decide, ev_at 623 (by decide +kernel) (by decide +kernel), inMo⟩
theorem fMo_90 : ev_fld "BatchLinksModel" 90 8 0 := ⟨_, _, _, rfl, by decide, ev_at 588 (by decide +kernel) (by decide +kernel), inMo⟩
theorem fMo_105 : ev_fld "BatchLinksModel" 105 8 11 := ⟨_, _, _, rfl, by decide, ev_at 599 (by decide +kernel) (by decide +kernel), inMo⟩
theorem fMo_148 : ev_fld "BatchLinksModel" 148 8 14 := ⟨_, _, _, rfl, by decide, ev_at 602 (by decide +kernel) (by decide +kernel), inMo⟩
theorem fMo_151 : ev_fld "BatchLinksModel" 151 8 26 := ⟨_, _, _, rfl, by decide, ev_at 614 (by decide +kernel) (by decide +kernel), inMo⟩
theorem fMo_154 : ev_fld "BatchLinksModel" 154 8 27 := ⟨_, _, _, rfl, by decide, ev_at 615 (by decide +kernel) (by decide +kernel), inMo⟩
theorem fMo_164 : ev_fld "BatchLinksModel" 164 8 21 := ⟨_, _, _, rfl, by decide, ev_at 609 (by decide +kernel) (by decide +kernel), inMo⟩
theorem fMo_175 : ev_fld "BatchLinksModel" 175 8 16 := ⟨_, _, _, rfl, by decide, ev_at 604 (by decide +kernel) (by decide +kernel), inMo⟩
theorem fMo_178 : ev_fld "BatchLinksModel" 178 8 28 := ⟨_, _, _, rfl, by decide, ev_at 616 (by decide +kernel) (by decide +kernel), inMo⟩
theorem fMo_181 : ev_fld "BatchLinksModel" 181 8 30 := ⟨_, _, _, rfl, by decide, ev_at 618 (by decide +kernel) (by decide +kernel), inMo⟩
theorem fMo_195 : ev_fld "BatchLinksModel" 195 8 34 := ⟨_, _, _, rfl, by decide, ev_at 622 (by decide +kernel) (by decide +kernel), inMo⟩
theorem nBL_9 : ev_cls "BatchLinks" 9 6 8 [.int 0, .int 0, .int 0, .null, .long 0, .long 0, .int 0, .int 0] := ⟨_, _, tyTh, rfl, okTh, by decide +kernel, ev_at 57 (by decide +kernel) (by decide +kernel), ev_at 197 (by decide +kernel) (by decide +kernel), ev_at 47 (by decide +kernel) (by decide +kernel), inTh⟩
theorem cBL_9 : Cond.classLink "BatchLinks" 9 "BatchLinks$Thing" ∈ ev_T := ev_at 57 (by decide +kernel) (by decide +kernel)
theorem nBL_19 : ev_cls "BatchLinks" 19 5 1 [.null] := ⟨_, _, tyTa, rfl, okTa, by decide +kernel, ev_at 59 (by decide +kernel) (by decide +kernel), ev_at 60 (by decide +kernel) (by decide +kernel), ev_at 40 (by decide +kernel) (by decide +kernel), inTa⟩
theorem cBL_19 : Cond.classLink "BatchLinks" 19 "BatchLinks$Tally" ∈ ev_T := ev_at 59 (by decide +kernel) (by decide +kernel)
theorem nBL_29 : ev_cls "BatchLinks" 29 0 2 [.null, .int 0] := ⟨_, _, tyBy, rfl, okBy, by decide +kernel, ev_at 70 (by decide +kernel) (by decide +kernel), ev_at 71 (by decide +kernel) (by decide +kernel), ev_at 41 (by decide +kernel) (by decide +kernel), inBy⟩
theorem cBL_29 : Cond.classLink "BatchLinks" 29 "BatchLinks$Bytes" ∈ ev_T := ev_at 70 (by decide +kernel) (by decide +kernel)
theorem nBL_38 : ev_cls "BatchLinks" 38 3 3 [.null, .int 0, .int 0] := ⟨_, _, tyNa, rfl, okNa, by decide +kernel, ev_at 86 (by decide +kernel) (by decide +kernel), ev_at 87 (by decide +kernel) (by decide +kernel), ev_at 43 (by decide +kernel) (by decide +kernel), inNa⟩
theorem cBL_38 : Cond.classLink "BatchLinks" 38 "BatchLinks$NamesReader" ∈ ev_T := ev_at 86 (by decide +kernel) (by decide +kernel)
theorem nBL_47 : ev_cls "BatchLinks" 47 4 5 [.null, .null, .null, .null, .int 0] := ⟨_, _, tyRu, rfl, okRu, by decide +kernel, ev_at 102 (by decide +kernel) (by decide +kernel), ev_at 103 (by decide +kernel) (by decide +kernel), ev_at 44 (by decide +kernel) (by decide +kernel), inRu⟩
theorem cBL_47 : Cond.classLink "BatchLinks" 47 "BatchLinks$Rules" ∈ ev_T := ev_at 102 (by decide +kernel) (by decide +kernel)
theorem nBL_57 : ev_cls "BatchLinks" 57 2 6 [.null, .int 0, .null, .null, .null, .int 0] := ⟨_, _, tyLe, rfl, okLe, by decide +kernel, ev_at 124 (by decide +kernel) (by decide +kernel), ev_at 125 (by decide +kernel) (by decide +kernel), ev_at 45 (by decide +kernel) (by decide +kernel), inLe⟩
theorem cBL_57 : Cond.classLink "BatchLinks" 57 "BatchLinks$Ledger" ∈ ev_T := ev_at 124 (by decide +kernel) (by decide +kernel)
theorem nTh_21 : ev_cls "BatchLinks$Thing" 21 1 3 [.null, .null, .int 0] := ⟨_, _, tyLa, rfl, okLa, by decide +kernel, ev_at 202 (by decide +kernel) (by decide +kernel), ev_at 203 (by decide +kernel) (by decide +kernel), ev_at 48 (by decide +kernel) (by decide +kernel), inLa⟩
theorem cTh_21 : Cond.classLink "BatchLinks$Thing" 21 "BatchLinks$Layers" ∈ ev_T := ev_at 202 (by decide +kernel) (by decide +kernel)
theorem nLw_7 : ev_cls "BatchLinksLaw" 7 7 10 [.null, .int 0, .null, .null, .null, .null, .null, .null, .null, .null] := ⟨_, _, tyBL, rfl, okBL, by decide +kernel, ev_at 49 (by decide +kernel) (by decide +kernel), ev_at 50 (by decide +kernel) (by decide +kernel), ev_at 39 (by decide +kernel) (by decide +kernel), inBL⟩
theorem cLw_7 : Cond.classLink "BatchLinksLaw" 7 "BatchLinks" ∈ ev_T := ev_at 49 (by decide +kernel) (by decide +kernel)
theorem nLw_10 : ev_cls "BatchLinksLaw" 10 8 36 [.int 0, .null, .null, .null, .null, .null, .null, .null, .null, .null, .null, .int 0, .null, .null, .int 0, .null, .int 0, .null, .null, .null, .null, .int 0, .null, .null, .null, .null, .int 0, .int 0, .int 0, .null, .int 0, .null, .null, .null, .int 0, .null] := ⟨_, _, tyMo, rfl, okMo, by decide +kernel, ev_at 582 (by decide +kernel) (by decide +kernel), ev_at 583 (by decide +kernel) (by decide +kernel), ev_at 46 (by decide +kernel) (by decide +kernel), inMo⟩
theorem cLw_10 : Cond.classLink "BatchLinksLaw" 10 "BatchLinksModel" ∈ ev_T := ev_at 582 (by decide +kernel) (by decide +kernel)
theorem qBL_75 : Jvm.Cond.constant "BatchLinks" 75 99999 ∈ ev_T := ev_at 192 (by decide +kernel) (by decide +kernel)
theorem qBL_127 : Jvm.Cond.constantLong "BatchLinks" 127 (-1) ∈ ev_T := ev_at 320 (by decide +kernel) (by decide +kernel)
theorem qBL_246 : Jvm.Cond.constantLong "BatchLinks" 246 1000000000 ∈ ev_T := ev_at 188 (by decide +kernel) (by decide +kernel)
theorem qBy_29 : Jvm.Cond.constantLong "BatchLinks$Bytes" 29 10 ∈ ev_T := ev_at 564 (by decide +kernel) (by decide +kernel)
theorem qLa_23 : Jvm.Cond.constantLong "BatchLinks$Layers" 23 (-1) ∈ ev_T := ev_at 362 (by decide +kernel) (by decide +kernel)
theorem qNa_52 : Jvm.Cond.constant "BatchLinks$NamesReader" 52 999999 ∈ ev_T := ev_at 471 (by decide +kernel) (by decide +kernel)
theorem qTh_64 : Jvm.Cond.constantLong "BatchLinks$Thing" 64 (-1) ∈ ev_T := ev_at 352 (by decide +kernel) (by decide +kernel)
theorem qLw_13 : Jvm.Cond.constantLong "BatchLinksLaw" 13 4294967295 ∈ ev_T := ev_at 889 (by decide +kernel) (by decide +kernel)
theorem qMo_98 : Jvm.Cond.constantLong "BatchLinksModel" 98 1000000000 ∈ ev_T := ev_at 702 (by decide +kernel) (by decide +kernel)
theorem qMo_100 : Jvm.Cond.constant "BatchLinksModel" 100 99999 ∈ ev_T := ev_at 703 (by decide +kernel) (by decide +kernel)
theorem qMo_138 : Jvm.Cond.constantLong "BatchLinksModel" 138 (-1) ∈ ev_T := ev_at 760 (by decide +kernel) (by decide +kernel)
theorem qMo_167 : Jvm.Cond.constant "BatchLinksModel" 167 1000000 ∈ ev_T := ev_at 817 (by decide +kernel) (by decide +kernel)
theorem qMo_174 : Jvm.Cond.constant "BatchLinksModel" 174 999999 ∈ ev_T := ev_at 830 (by decide +kernel) (by decide +kernel)
theorem qMo_198 : Jvm.Cond.constantLong "BatchLinksModel" 198 9 ∈ ev_T := ev_at 875 (by decide +kernel) (by decide +kernel)
theorem qMo_200 : Jvm.Cond.constantLong "BatchLinksModel" 200 10 ∈ ev_T := ev_at 876 (by decide +kernel) (by decide +kernel)
theorem a_int : Cond.arrayClass .int ∈ ev_T := ev_at 69 (by decide +kernel) (by decide +kernel)
theorem a_long : Cond.arrayClass .long ∈ ev_T := ev_at 149 (by decide +kernel) (by decide +kernel)
theorem a_boolean : Cond.arrayClass .boolean ∈ ev_T := ev_at 697 (by decide +kernel) (by decide +kernel)
set_option maxRecDepth 20000 in
theorem kBL_init : ev_ok mBL_init 0 := ⟨ev_at 53 rfl rfl, ev_at 39 (by decide +kernel) (by decide +kernel), by decide +kernel, by decide +kernel, by decide⟩
theorem vBL_init : Cond.instanceMethod mBL_init.1 ∈ ev_T := ev_at 52 (by decide +kernel) (by decide +kernel)
set_option maxRecDepth 20000 in
theorem kTa_init : ev_ok mTa_init 0 := ⟨ev_at 63 rfl rfl, ev_at 40 (by decide +kernel) (by decide +kernel), by decide +kernel, by decide +kernel, by decide⟩
theorem vTa_init : Cond.instanceMethod mTa_init.1 ∈ ev_T := ev_at 62 (by decide +kernel) (by decide +kernel)
set_option maxRecDepth 20000 in
theorem kBy_init : ev_ok mBy_init 1 := ⟨ev_at 74 rfl rfl, ev_at 41 (by decide +kernel) (by decide +kernel), by decide +kernel, by decide +kernel, by decide⟩
theorem vBy_init : Cond.instanceMethod mBy_init.1 ∈ ev_T := ev_at 73 (by decide +kernel) (by decide +kernel)
set_option maxRecDepth 20000 in
theorem kNa_init : ev_ok mNa_init 1 := ⟨ev_at 90 rfl rfl, ev_at 43 (by decide +kernel) (by decide +kernel), by decide +kernel, by decide +kernel, by decide⟩
theorem vNa_init : Cond.instanceMethod mNa_init.1 ∈ ev_T := ev_at 89 (by decide +kernel) (by decide +kernel)
set_option maxRecDepth 20000 in
theorem kRu_init : ev_ok mRu_init 0 := ⟨ev_at 106 rfl rfl, ev_at 44 (by decide +kernel) (by decide +kernel), by decide +kernel, by decide +kernel, by decide⟩
theorem vRu_init : Cond.instanceMethod mRu_init.1 ∈ ev_T := ev_at 105 (by decide +kernel) (by decide +kernel)
set_option maxRecDepth 20000 in
theorem kLe_init : ev_ok mLe_init 0 := ⟨ev_at 128 rfl rfl, ev_at 45 (by decide +kernel) (by decide +kernel), by decide +kernel, by decide +kernel, by decide⟩
theorem vLe_init : Cond.instanceMethod mLe_init.1 ∈ ev_T := ev_at 127 (by decide +kernel) (by decide +kernel)
set_option maxRecDepth 20000 in
theorem kBL_haul : ev_ok mBL_haul 3 := ⟨ev_at 184 rfl rfl, ev_at 39 (by decide +kernel) (by decide +kernel), by decide +kernel, by decide +kernel, by decide⟩
theorem vBL_haul : Cond.instanceMethod mBL_haul.1 ∈ ev_T := ev_at 182 (by decide +kernel) (by decide +kernel)
theorem wBL_haul : Cond.selects mBL_haul.1.cls mBL_haul.1 mBL_haul.1 ∈ ev_T := ev_at 183 (by decide +kernel) (by decide +kernel)
set_option maxRecDepth 20000 in
theorem kBL_isWeight : ev_ok mBL_isWeight 1 := ⟨ev_at 187 rfl rfl, ev_at 39 (by decide +kernel) (by decide +kernel), by decide +kernel, by decide +kernel, by decide⟩
theorem sBL_isWeight : Cond.static mBL_isWeight.1 ∈ ev_T := ev_at 186 (by decide +kernel) (by decide +kernel)
set_option maxRecDepth 20000 in
theorem kBL_isWithin : ev_ok mBL_isWithin 2 := ⟨ev_at 191 rfl rfl, ev_at 39 (by decide +kernel) (by decide +kernel), by decide +kernel, by decide +kernel, by decide⟩
theorem sBL_isWithin : Cond.static mBL_isWithin.1 ∈ ev_T := ev_at 190 (by decide +kernel) (by decide +kernel)
set_option maxRecDepth 20000 in
theorem kBL_isFull : ev_ok mBL_isFull 0 := ⟨ev_at 196 rfl rfl, ev_at 39 (by decide +kernel) (by decide +kernel), by decide +kernel, by decide +kernel, by decide⟩
theorem vBL_isFull : Cond.instanceMethod mBL_isFull.1 ∈ ev_T := ev_at 195 (by decide +kernel) (by decide +kernel)
theorem wBL_isFull : Cond.selects mBL_isFull.1.cls mBL_isFull.1 mBL_isFull.1 ∈ ev_T := ev_at 0 (by decide +kernel) (by decide +kernel)
set_option maxRecDepth 20000 in
theorem kTh_init : ev_ok mTh_init 3 := ⟨ev_at 200 rfl rfl, ev_at 47 (by decide +kernel) (by decide +kernel), by decide +kernel, by decide +kernel, by decide⟩
theorem vTh_init : Cond.instanceMethod mTh_init.1 ∈ ev_T := ev_at 199 (by decide +kernel) (by decide +kernel)
set_option maxRecDepth 20000 in
theorem kLa_init : ev_ok mLa_init 0 := ⟨ev_at 206 rfl rfl, ev_at 48 (by decide +kernel) (by decide +kernel), by decide +kernel, by decide +kernel, by decide⟩
theorem vLa_init : Cond.instanceMethod mLa_init.1 ∈ ev_T := ev_at 205 (by decide +kernel) (by decide +kernel)
set_option maxRecDepth 20000 in
theorem kLa_append : ev_ok mLa_append 2 := ⟨ev_at 253 rfl rfl, ev_at 48 (by decide +kernel) (by decide +kernel), by decide +kernel, by decide +kernel, by decide⟩
theorem vLa_append : Cond.instanceMethod mLa_append.1 ∈ ev_T := ev_at 251 (by decide +kernel) (by decide +kernel)
theorem wLa_append : Cond.selects mLa_append.1.cls mLa_append.1 mLa_append.1 ∈ ev_T := ev_at 252 (by decide +kernel) (by decide +kernel)
set_option maxRecDepth 20000 in
theorem kBL_keep : ev_ok mBL_keep 1 := ⟨ev_at 257 rfl rfl, ev_at 39 (by decide +kernel) (by decide +kernel), by decide +kernel, by decide +kernel, by decide⟩
theorem vBL_keep : Cond.instanceMethod mBL_keep.1 ∈ ev_T := ev_at 256 (by decide +kernel) (by decide +kernel)
theorem wBL_keep : Cond.selects mBL_keep.1.cls mBL_keep.1 mBL_keep.1 ∈ ev_T := ev_at 1 (by decide +kernel) (by decide +kernel)
set_option maxRecDepth 20000 in
theorem kBL_batch : ev_ok mBL_batch 0 := ⟨ev_at 261 rfl rfl, ev_at 39 (by decide +kernel) (by decide +kernel), by decide +kernel, by decide +kernel, by decide⟩
theorem vBL_batch : Cond.instanceMethod mBL_batch.1 ∈ ev_T := ev_at 259 (by decide +kernel) (by decide +kernel)
theorem wBL_batch : Cond.selects mBL_batch.1.cls mBL_batch.1 mBL_batch.1 ∈ ev_T := ev_at 260 (by decide +kernel) (by decide +kernel)
set_option maxRecDepth 20000 in
theorem kBL_into : ev_ok mBL_into 3 := ⟨ev_at 265 rfl rfl, ev_at 39 (by decide +kernel) (by decide +kernel), by decide +kernel, by decide +kernel, by decide⟩
theorem vBL_into : Cond.instanceMethod mBL_into.1 ∈ ev_T := ev_at 263 (by decide +kernel) (by decide +kernel)
theorem wBL_into : Cond.selects mBL_into.1.cls mBL_into.1 mBL_into.1 ∈ ev_T := ev_at 264 (by decide +kernel) (by decide +kernel)
set_option maxRecDepth 20000 in
theorem kBL_find : ev_ok mBL_find 1 := ⟨ev_at 269 rfl rfl, ev_at 39 (by decide +kernel) (by decide +kernel), by decide +kernel, by decide +kernel, by decide⟩
theorem vBL_find : Cond.instanceMethod mBL_find.1 ∈ ev_T := ev_at 268 (by decide +kernel) (by decide +kernel)
theorem wBL_find : Cond.selects mBL_find.1.cls mBL_find.1 mBL_find.1 ∈ ev_T := ev_at 2 (by decide +kernel) (by decide +kernel)
set_option maxRecDepth 20000 in
theorem kLa_have : ev_ok mLa_have 1 := ⟨ev_at 273 rfl rfl, ev_at 48 (by decide +kernel) (by decide +kernel), by decide +kernel, by decide +kernel, by decide⟩
theorem vLa_have : Cond.instanceMethod mLa_have.1 ∈ ev_T := ev_at 271 (by decide +kernel) (by decide +kernel)
theorem wLa_have : Cond.selects mLa_have.1.cls mLa_have.1 mLa_have.1 ∈ ev_T := ev_at 272 (by decide +kernel) (by decide +kernel)
set_option maxRecDepth 20000 in
theorem kLa_total : ev_ok mLa_total 0 := ⟨ev_at 277 rfl rfl, ev_at 48 (by decide +kernel) (by decide +kernel), by decide +kernel, by decide +kernel, by decide⟩
theorem vLa_total : Cond.instanceMethod mLa_total.1 ∈ ev_T := ev_at 275 (by decide +kernel) (by decide +kernel)
theorem wLa_total : Cond.selects mLa_total.1.cls mLa_total.1 mLa_total.1 ∈ ev_T := ev_at 276 (by decide +kernel) (by decide +kernel)
set_option maxRecDepth 20000 in
theorem kLa_sizeWith : ev_ok mLa_sizeWith 2 := ⟨ev_at 281 rfl rfl, ev_at 48 (by decide +kernel) (by decide +kernel), by decide +kernel, by decide +kernel, by decide⟩
theorem vLa_sizeWith : Cond.instanceMethod mLa_sizeWith.1 ∈ ev_T := ev_at 279 (by decide +kernel) (by decide +kernel)
theorem wLa_sizeWith : Cond.selects mLa_sizeWith.1.cls mLa_sizeWith.1 mLa_sizeWith.1 ∈ ev_T := ev_at 280 (by decide +kernel) (by decide +kernel)
set_option maxRecDepth 20000 in
theorem kLa_sizeOf : ev_ok mLa_sizeOf 1 := ⟨ev_at 285 rfl rfl, ev_at 48 (by decide +kernel) (by decide +kernel), by decide +kernel, by decide +kernel, by decide⟩
theorem vLa_sizeOf : Cond.instanceMethod mLa_sizeOf.1 ∈ ev_T := ev_at 283 (by decide +kernel) (by decide +kernel)
theorem wLa_sizeOf : Cond.selects mLa_sizeOf.1.cls mLa_sizeOf.1 mLa_sizeOf.1 ∈ ev_T := ev_at 284 (by decide +kernel) (by decide +kernel)
set_option maxRecDepth 20000 in
theorem kLa_haulAt : ev_ok mLa_haulAt 1 := ⟨ev_at 289 rfl rfl, ev_at 48 (by decide +kernel) (by decide +kernel), by decide +kernel, by decide +kernel, by decide⟩
theorem vLa_haulAt : Cond.instanceMethod mLa_haulAt.1 ∈ ev_T := ev_at 287 (by decide +kernel) (by decide +kernel)
theorem wLa_haulAt : Cond.selects mLa_haulAt.1.cls mLa_haulAt.1 mLa_haulAt.1 ∈ ev_T := ev_at 288 (by decide +kernel) (by decide +kernel)
set_option maxRecDepth 20000 in
theorem kTh_takeFrom : ev_ok mTh_takeFrom 2 := ⟨ev_at 293 rfl rfl, ev_at 47 (by decide +kernel) (by decide +kernel), by decide +kernel, by decide +kernel, by decide⟩
theorem vTh_takeFrom : Cond.instanceMethod mTh_takeFrom.1 ∈ ev_T := ev_at 291 (by decide +kernel) (by decide +kernel)
theorem wTh_takeFrom : Cond.selects mTh_takeFrom.1.cls mTh_takeFrom.1 mTh_takeFrom.1 ∈ ev_T := ev_at 292 (by decide +kernel) (by decide +kernel)
set_option maxRecDepth 20000 in
theorem kLa_appendFront : ev_ok mLa_appendFront 2 := ⟨ev_at 297 rfl rfl, ev_at 48 (by decide +kernel) (by decide +kernel), by decide +kernel, by decide +kernel, by decide⟩
theorem vLa_appendFront : Cond.instanceMethod mLa_appendFront.1 ∈ ev_T := ev_at 295 (by decide +kernel) (by decide +kernel)
theorem wLa_appendFront : Cond.selects mLa_appendFront.1.cls mLa_appendFront.1 mLa_appendFront.1 ∈ ev_T := ev_at 296 (by decide +kernel) (by decide +kernel)
set_option maxRecDepth 20000 in
theorem kLa_dropFront : ev_ok mLa_dropFront 1 := ⟨ev_at 305 rfl rfl, ev_at 48 (by decide +kernel) (by decide +kernel), by decide +kernel, by decide +kernel, by decide⟩
theorem vLa_dropFront : Cond.instanceMethod mLa_dropFront.1 ∈ ev_T := ev_at 303 (by decide +kernel) (by decide +kernel)
theorem wLa_dropFront : Cond.selects mLa_dropFront.1.cls mLa_dropFront.1 mLa_dropFront.1 ∈ ev_T := ev_at 304 (by decide +kernel) (by decide +kernel)
set_option maxRecDepth 20000 in
theorem kLa_dropLayers : ev_ok mLa_dropLayers 1 := ⟨ev_at 309 rfl rfl, ev_at 48 (by decide +kernel) (by decide +kernel), by decide +kernel, by decide +kernel, by decide⟩
theorem vLa_dropLayers : Cond.instanceMethod mLa_dropLayers.1 ∈ ev_T := ev_at 308 (by decide +kernel) (by decide +kernel)
theorem wLa_dropLayers : Cond.selects mLa_dropLayers.1.cls mLa_dropLayers.1 mLa_dropLayers.1 ∈ ev_T := ev_at 3 (by decide +kernel) (by decide +kernel)
set_option maxRecDepth 20000 in
theorem kBL_box : ev_ok mBL_box 3 := ⟨ev_at 314 rfl rfl, ev_at 39 (by decide +kernel) (by decide +kernel), by decide +kernel, by decide +kernel, by decide⟩
theorem vBL_box : Cond.instanceMethod mBL_box.1 ∈ ev_T := ev_at 312 (by decide +kernel) (by decide +kernel)
theorem wBL_box : Cond.selects mBL_box.1.cls mBL_box.1 mBL_box.1 ∈ ev_T := ev_at 313 (by decide +kernel) (by decide +kernel)
set_option maxRecDepth 20000 in
theorem kBL_waste : ev_ok mBL_waste 2 := ⟨ev_at 319 rfl rfl, ev_at 39 (by decide +kernel) (by decide +kernel), by decide +kernel, by decide +kernel, by decide⟩
theorem vBL_waste : Cond.instanceMethod mBL_waste.1 ∈ ev_T := ev_at 317 (by decide +kernel) (by decide +kernel)
theorem wBL_waste : Cond.selects mBL_waste.1.cls mBL_waste.1 mBL_waste.1 ∈ ev_T := ev_at 318 (by decide +kernel) (by decide +kernel)
set_option maxRecDepth 20000 in
theorem kBL_hold : ev_ok mBL_hold 2 := ⟨ev_at 325 rfl rfl, ev_at 39 (by decide +kernel) (by decide +kernel), by decide +kernel, by decide +kernel, by decide⟩
theorem vBL_hold : Cond.instanceMethod mBL_hold.1 ∈ ev_T := ev_at 323 (by decide +kernel) (by decide +kernel)
theorem wBL_hold : Cond.selects mBL_hold.1.cls mBL_hold.1 mBL_hold.1 ∈ ev_T := ev_at 324 (by decide +kernel) (by decide +kernel)
set_option maxRecDepth 20000 in
theorem kBL_correct : ev_ok mBL_correct 2 := ⟨ev_at 329 rfl rfl, ev_at 39 (by decide +kernel) (by decide +kernel), by decide +kernel, by decide +kernel, by decide⟩
theorem vBL_correct : Cond.instanceMethod mBL_correct.1 ∈ ev_T := ev_at 327 (by decide +kernel) (by decide +kernel)
theorem wBL_correct : Cond.selects mBL_correct.1.cls mBL_correct.1 mBL_correct.1 ∈ ev_T := ev_at 328 (by decide +kernel) (by decide +kernel)
set_option maxRecDepth 20000 in
theorem kBL_findHaul : ev_ok mBL_findHaul 1 := ⟨ev_at 333 rfl rfl, ev_at 39 (by decide +kernel) (by decide +kernel), by decide +kernel, by decide +kernel, by decide⟩
theorem vBL_findHaul : Cond.instanceMethod mBL_findHaul.1 ∈ ev_T := ev_at 332 (by decide +kernel) (by decide +kernel)
theorem wBL_findHaul : Cond.selects mBL_findHaul.1.cls mBL_findHaul.1 mBL_findHaul.1 ∈ ev_T := ev_at 4 (by decide +kernel) (by decide +kernel)
set_option maxRecDepth 20000 in
theorem kLa_clear : ev_ok mLa_clear 0 := ⟨ev_at 338 rfl rfl, ev_at 48 (by decide +kernel) (by decide +kernel), by decide +kernel, by decide +kernel, by decide⟩
theorem vLa_clear : Cond.instanceMethod mLa_clear.1 ∈ ev_T := ev_at 336 (by decide +kernel) (by decide +kernel)
theorem wLa_clear : Cond.selects mLa_clear.1.cls mLa_clear.1 mLa_clear.1 ∈ ev_T := ev_at 337 (by decide +kernel) (by decide +kernel)
set_option maxRecDepth 20000 in
theorem kBL_told : ev_ok mBL_told 2 := ⟨ev_at 342 rfl rfl, ev_at 39 (by decide +kernel) (by decide +kernel), by decide +kernel, by decide +kernel, by decide⟩
theorem vBL_told : Cond.instanceMethod mBL_told.1 ∈ ev_T := ev_at 340 (by decide +kernel) (by decide +kernel)
theorem wBL_told : Cond.selects mBL_told.1.cls mBL_told.1 mBL_told.1 ∈ ev_T := ev_at 341 (by decide +kernel) (by decide +kernel)
set_option maxRecDepth 20000 in
theorem kTh_fact : ev_ok mTh_fact 1 := ⟨ev_at 346 rfl rfl, ev_at 47 (by decide +kernel) (by decide +kernel), by decide +kernel, by decide +kernel, by decide⟩
theorem vTh_fact : Cond.instanceMethod mTh_fact.1 ∈ ev_T := ev_at 344 (by decide +kernel) (by decide +kernel)
theorem wTh_fact : Cond.selects mTh_fact.1.cls mTh_fact.1 mTh_fact.1 ∈ ev_T := ev_at 345 (by decide +kernel) (by decide +kernel)
set_option maxRecDepth 20000 in
theorem kLa_size : ev_ok mLa_size 0 := ⟨ev_at 351 rfl rfl, ev_at 48 (by decide +kernel) (by decide +kernel), by decide +kernel, by decide +kernel, by decide⟩
theorem vLa_size : Cond.instanceMethod mLa_size.1 ∈ ev_T := ev_at 349 (by decide +kernel) (by decide +kernel)
theorem wLa_size : Cond.selects mLa_size.1.cls mLa_size.1 mLa_size.1 ∈ ev_T := ev_at 350 (by decide +kernel) (by decide +kernel)
set_option maxRecDepth 20000 in
theorem kBL_layer : ev_ok mBL_layer 3 := ⟨ev_at 356 rfl rfl, ev_at 39 (by decide +kernel) (by decide +kernel), by decide +kernel, by decide +kernel, by decide⟩
theorem vBL_layer : Cond.instanceMethod mBL_layer.1 ∈ ev_T := ev_at 354 (by decide +kernel) (by decide +kernel)
theorem wBL_layer : Cond.selects mBL_layer.1.cls mBL_layer.1 mBL_layer.1 ∈ ev_T := ev_at 355 (by decide +kernel) (by decide +kernel)
set_option maxRecDepth 20000 in
theorem kLa_gramsAt : ev_ok mLa_gramsAt 1 := ⟨ev_at 361 rfl rfl, ev_at 48 (by decide +kernel) (by decide +kernel), by decide +kernel, by decide +kernel, by decide⟩
theorem vLa_gramsAt : Cond.instanceMethod mLa_gramsAt.1 ∈ ev_T := ev_at 359 (by decide +kernel) (by decide +kernel)
theorem wLa_gramsAt : Cond.selects mLa_gramsAt.1.cls mLa_gramsAt.1 mLa_gramsAt.1 ∈ ev_T := ev_at 360 (by decide +kernel) (by decide +kernel)
set_option maxRecDepth 20000 in
theorem kBL_share : ev_ok mBL_share 3 := ⟨ev_at 366 rfl rfl, ev_at 39 (by decide +kernel) (by decide +kernel), by decide +kernel, by decide +kernel, by decide⟩
theorem vBL_share : Cond.instanceMethod mBL_share.1 ∈ ev_T := ev_at 364 (by decide +kernel) (by decide +kernel)
theorem wBL_share : Cond.selects mBL_share.1.cls mBL_share.1 mBL_share.1 ∈ ev_T := ev_at 365 (by decide +kernel) (by decide +kernel)
set_option maxRecDepth 20000 in
theorem kLa_gramsOf : ev_ok mLa_gramsOf 1 := ⟨ev_at 370 rfl rfl, ev_at 48 (by decide +kernel) (by decide +kernel), by decide +kernel, by decide +kernel, by decide⟩
theorem vLa_gramsOf : Cond.instanceMethod mLa_gramsOf.1 ∈ ev_T := ev_at 368 (by decide +kernel) (by decide +kernel)
theorem wLa_gramsOf : Cond.selects mLa_gramsOf.1.cls mLa_gramsOf.1 mLa_gramsOf.1 ∈ ev_T := ev_at 369 (by decide +kernel) (by decide +kernel)
set_option maxRecDepth 20000 in
theorem kBL_greatestDivisor : ev_ok mBL_greatestDivisor 2 := ⟨ev_at 373 rfl rfl, ev_at 39 (by decide +kernel) (by decide +kernel), by decide +kernel, by decide +kernel, by decide⟩
theorem sBL_greatestDivisor : Cond.static mBL_greatestDivisor.1 ∈ ev_T := ev_at 372 (by decide +kernel) (by decide +kernel)
set_option maxRecDepth 20000 in
theorem kBL_back : ev_ok mBL_back 2 := ⟨ev_at 377 rfl rfl, ev_at 39 (by decide +kernel) (by decide +kernel), by decide +kernel, by decide +kernel, by decide⟩
theorem vBL_back : Cond.instanceMethod mBL_back.1 ∈ ev_T := ev_at 375 (by decide +kernel) (by decide +kernel)
theorem wBL_back : Cond.selects mBL_back.1.cls mBL_back.1 mBL_back.1 ∈ ev_T := ev_at 376 (by decide +kernel) (by decide +kernel)
set_option maxRecDepth 20000 in
theorem kTa_clear : ev_ok mTa_clear 0 := ⟨ev_at 381 rfl rfl, ev_at 40 (by decide +kernel) (by decide +kernel), by decide +kernel, by decide +kernel, by decide⟩
theorem vTa_clear : Cond.instanceMethod mTa_clear.1 ∈ ev_T := ev_at 379 (by decide +kernel) (by decide +kernel)
theorem wTa_clear : Cond.selects mTa_clear.1.cls mTa_clear.1 mTa_clear.1 ∈ ev_T := ev_at 380 (by decide +kernel) (by decide +kernel)
set_option maxRecDepth 20000 in
theorem kTa_count : ev_ok mTa_count 1 := ⟨ev_at 386 rfl rfl, ev_at 40 (by decide +kernel) (by decide +kernel), by decide +kernel, by decide +kernel, by decide⟩
theorem vTa_count : Cond.instanceMethod mTa_count.1 ∈ ev_T := ev_at 384 (by decide +kernel) (by decide +kernel)
theorem wTa_count : Cond.selects mTa_count.1.cls mTa_count.1 mTa_count.1 ∈ ev_T := ev_at 385 (by decide +kernel) (by decide +kernel)
set_option maxRecDepth 20000 in
theorem kTa_pick : ev_ok mTa_pick 1 := ⟨ev_at 390 rfl rfl, ev_at 40 (by decide +kernel) (by decide +kernel), by decide +kernel, by decide +kernel, by decide⟩
theorem vTa_pick : Cond.instanceMethod mTa_pick.1 ∈ ev_T := ev_at 388 (by decide +kernel) (by decide +kernel)
theorem wTa_pick : Cond.selects mTa_pick.1.cls mTa_pick.1 mTa_pick.1 ∈ ev_T := ev_at 389 (by decide +kernel) (by decide +kernel)
set_option maxRecDepth 20000 in
theorem kBL_recall : ev_ok mBL_recall 1 := ⟨ev_at 394 rfl rfl, ev_at 39 (by decide +kernel) (by decide +kernel), by decide +kernel, by decide +kernel, by decide⟩
theorem vBL_recall : Cond.instanceMethod mBL_recall.1 ∈ ev_T := ev_at 392 (by decide +kernel) (by decide +kernel)
theorem wBL_recall : Cond.selects mBL_recall.1.cls mBL_recall.1 mBL_recall.1 ∈ ev_T := ev_at 393 (by decide +kernel) (by decide +kernel)
set_option maxRecDepth 20000 in
theorem kBL_countBoxesWith : ev_ok mBL_countBoxesWith 1 := ⟨ev_at 398 rfl rfl, ev_at 39 (by decide +kernel) (by decide +kernel), by decide +kernel, by decide +kernel, by decide⟩
theorem vBL_countBoxesWith : Cond.instanceMethod mBL_countBoxesWith.1 ∈ ev_T := ev_at 397 (by decide +kernel) (by decide +kernel)
theorem wBL_countBoxesWith : Cond.selects mBL_countBoxesWith.1.cls mBL_countBoxesWith.1 mBL_countBoxesWith.1 ∈ ev_T := ev_at 5 (by decide +kernel) (by decide +kernel)
set_option maxRecDepth 20000 in
theorem kTa_countedAtLeast : ev_ok mTa_countedAtLeast 1 := ⟨ev_at 402 rfl rfl, ev_at 40 (by decide +kernel) (by decide +kernel), by decide +kernel, by decide +kernel, by decide⟩
theorem vTa_countedAtLeast : Cond.instanceMethod mTa_countedAtLeast.1 ∈ ev_T := ev_at 400 (by decide +kernel) (by decide +kernel)
theorem wTa_countedAtLeast : Cond.selects mTa_countedAtLeast.1.cls mTa_countedAtLeast.1 mTa_countedAtLeast.1 ∈ ev_T := ev_at 401 (by decide +kernel) (by decide +kernel)
set_option maxRecDepth 20000 in
theorem kBL_recalled : ev_ok mBL_recalled 2 := ⟨ev_at 406 rfl rfl, ev_at 39 (by decide +kernel) (by decide +kernel), by decide +kernel, by decide +kernel, by decide⟩
theorem vBL_recalled : Cond.instanceMethod mBL_recalled.1 ∈ ev_T := ev_at 404 (by decide +kernel) (by decide +kernel)
theorem wBL_recalled : Cond.selects mBL_recalled.1.cls mBL_recalled.1 mBL_recalled.1 ∈ ev_T := ev_at 405 (by decide +kernel) (by decide +kernel)
set_option maxRecDepth 20000 in
theorem kBL_doubled : ev_ok mBL_doubled 1 := ⟨ev_at 410 rfl rfl, ev_at 39 (by decide +kernel) (by decide +kernel), by decide +kernel, by decide +kernel, by decide⟩
theorem vBL_doubled : Cond.instanceMethod mBL_doubled.1 ∈ ev_T := ev_at 408 (by decide +kernel) (by decide +kernel)
theorem wBL_doubled : Cond.selects mBL_doubled.1.cls mBL_doubled.1 mBL_doubled.1 ∈ ev_T := ev_at 409 (by decide +kernel) (by decide +kernel)
set_option maxRecDepth 20000 in
theorem kBL_unit : ev_ok mBL_unit 1 := ⟨ev_at 414 rfl rfl, ev_at 39 (by decide +kernel) (by decide +kernel), by decide +kernel, by decide +kernel, by decide⟩
theorem vBL_unit : Cond.instanceMethod mBL_unit.1 ∈ ev_T := ev_at 412 (by decide +kernel) (by decide +kernel)
theorem wBL_unit : Cond.selects mBL_unit.1.cls mBL_unit.1 mBL_unit.1 ∈ ev_T := ev_at 413 (by decide +kernel) (by decide +kernel)
set_option maxRecDepth 20000 in
theorem kBy_put : ev_ok mBy_put 1 := ⟨ev_at 418 rfl rfl, ev_at 41 (by decide +kernel) (by decide +kernel), by decide +kernel, by decide +kernel, by decide⟩
theorem vBy_put : Cond.instanceMethod mBy_put.1 ∈ ev_T := ev_at 416 (by decide +kernel) (by decide +kernel)
theorem wBy_put : Cond.selects mBy_put.1.cls mBy_put.1 mBy_put.1 ∈ ev_T := ev_at 417 (by decide +kernel) (by decide +kernel)
set_option maxRecDepth 20000 in
theorem kBL_names : ev_ok mBL_names 0 := ⟨ev_at 422 rfl rfl, ev_at 39 (by decide +kernel) (by decide +kernel), by decide +kernel, by decide +kernel, by decide⟩
theorem vBL_names : Cond.instanceMethod mBL_names.1 ∈ ev_T := ev_at 420 (by decide +kernel) (by decide +kernel)
theorem wBL_names : Cond.selects mBL_names.1.cls mBL_names.1 mBL_names.1 ∈ ev_T := ev_at 421 (by decide +kernel) (by decide +kernel)
set_option maxRecDepth 20000 in
theorem kNa_read : ev_ok mNa_read 1 := ⟨ev_at 426 rfl rfl, ev_at 43 (by decide +kernel) (by decide +kernel), by decide +kernel, by decide +kernel, by decide⟩
theorem vNa_read : Cond.instanceMethod mNa_read.1 ∈ ev_T := ev_at 424 (by decide +kernel) (by decide +kernel)
theorem wNa_read : Cond.selects mNa_read.1.cls mNa_read.1 mNa_read.1 ∈ ev_T := ev_at 425 (by decide +kernel) (by decide +kernel)
set_option maxRecDepth 20000 in
theorem kRu_clear : ev_ok mRu_clear 0 := ⟨ev_at 430 rfl rfl, ev_at 44 (by decide +kernel) (by decide +kernel), by decide +kernel, by decide +kernel, by decide⟩
theorem vRu_clear : Cond.instanceMethod mRu_clear.1 ∈ ev_T := ev_at 428 (by decide +kernel) (by decide +kernel)
theorem wRu_clear : Cond.selects mRu_clear.1.cls mRu_clear.1 mRu_clear.1 ∈ ev_T := ev_at 429 (by decide +kernel) (by decide +kernel)
set_option maxRecDepth 20000 in
theorem kNa_skipBlanks : ev_ok mNa_skipBlanks 0 := ⟨ev_at 434 rfl rfl, ev_at 43 (by decide +kernel) (by decide +kernel), by decide +kernel, by decide +kernel, by decide⟩
theorem vNa_skipBlanks : Cond.instanceMethod mNa_skipBlanks.1 ∈ ev_T := ev_at 433 (by decide +kernel) (by decide +kernel)
theorem wNa_skipBlanks : Cond.selects mNa_skipBlanks.1.cls mNa_skipBlanks.1 mNa_skipBlanks.1 ∈ ev_T := ev_at 6 (by decide +kernel) (by decide +kernel)
set_option maxRecDepth 20000 in
theorem kNa_isBlank : ev_ok mNa_isBlank 0 := ⟨ev_at 438 rfl rfl, ev_at 43 (by decide +kernel) (by decide +kernel), by decide +kernel, by decide +kernel, by decide⟩
theorem vNa_isBlank : Cond.instanceMethod mNa_isBlank.1 ∈ ev_T := ev_at 437 (by decide +kernel) (by decide +kernel)
theorem wNa_isBlank : Cond.selects mNa_isBlank.1.cls mNa_isBlank.1 mNa_isBlank.1 ∈ ev_T := ev_at 7 (by decide +kernel) (by decide +kernel)
set_option maxRecDepth 20000 in
theorem kBy_byteAt : ev_ok mBy_byteAt 1 := ⟨ev_at 442 rfl rfl, ev_at 41 (by decide +kernel) (by decide +kernel), by decide +kernel, by decide +kernel, by decide⟩
theorem vBy_byteAt : Cond.instanceMethod mBy_byteAt.1 ∈ ev_T := ev_at 440 (by decide +kernel) (by decide +kernel)
theorem wBy_byteAt : Cond.selects mBy_byteAt.1.cls mBy_byteAt.1 mBy_byteAt.1 ∈ ev_T := ev_at 441 (by decide +kernel) (by decide +kernel)
set_option maxRecDepth 20000 in
theorem kBy_size : ev_ok mBy_size 0 := ⟨ev_at 446 rfl rfl, ev_at 41 (by decide +kernel) (by decide +kernel), by decide +kernel, by decide +kernel, by decide⟩
theorem vBy_size : Cond.instanceMethod mBy_size.1 ∈ ev_T := ev_at 444 (by decide +kernel) (by decide +kernel)
theorem wBy_size : Cond.selects mBy_size.1.cls mBy_size.1 mBy_size.1 ∈ ev_T := ev_at 445 (by decide +kernel) (by decide +kernel)
set_option maxRecDepth 20000 in
theorem kNa_readRule : ev_ok mNa_readRule 1 := ⟨ev_at 450 rfl rfl, ev_at 43 (by decide +kernel) (by decide +kernel), by decide +kernel, by decide +kernel, by decide⟩
theorem vNa_readRule : Cond.instanceMethod mNa_readRule.1 ∈ ev_T := ev_at 449 (by decide +kernel) (by decide +kernel)
theorem wNa_readRule : Cond.selects mNa_readRule.1.cls mNa_readRule.1 mNa_readRule.1 ∈ ev_T := ev_at 8 (by decide +kernel) (by decide +kernel)
set_option maxRecDepth 20000 in
theorem kRu_isFull : ev_ok mRu_isFull 0 := ⟨ev_at 454 rfl rfl, ev_at 44 (by decide +kernel) (by decide +kernel), by decide +kernel, by decide +kernel, by decide⟩
theorem vRu_isFull : Cond.instanceMethod mRu_isFull.1 ∈ ev_T := ev_at 452 (by decide +kernel) (by decide +kernel)
theorem wRu_isFull : Cond.selects mRu_isFull.1.cls mRu_isFull.1 mRu_isFull.1 ∈ ev_T := ev_at 453 (by decide +kernel) (by decide +kernel)
set_option maxRecDepth 20000 in
theorem kNa_readNumber : ev_ok mNa_readNumber 2 := ⟨ev_at 458 rfl rfl, ev_at 43 (by decide +kernel) (by decide +kernel), by decide +kernel, by decide +kernel, by decide⟩
theorem vNa_readNumber : Cond.instanceMethod mNa_readNumber.1 ∈ ev_T := ev_at 457 (by decide +kernel) (by decide +kernel)
theorem wNa_readNumber : Cond.selects mNa_readNumber.1.cls mNa_readNumber.1 mNa_readNumber.1 ∈ ev_T := ev_at 9 (by decide +kernel) (by decide +kernel)
set_option maxRecDepth 20000 in
theorem kNa_isDigit : ev_ok mNa_isDigit 0 := ⟨ev_at 462 rfl rfl, ev_at 43 (by decide +kernel) (by decide +kernel), by decide +kernel, by decide +kernel, by decide⟩
theorem vNa_isDigit : Cond.instanceMethod mNa_isDigit.1 ∈ ev_T := ev_at 461 (by decide +kernel) (by decide +kernel)
theorem wNa_isDigit : Cond.selects mNa_isDigit.1.cls mNa_isDigit.1 mNa_isDigit.1 ∈ ev_T := ev_at 10 (by decide +kernel) (by decide +kernel)
set_option maxRecDepth 20000 in
theorem kNa_fail : ev_ok mNa_fail 1 := ⟨ev_at 466 rfl rfl, ev_at 43 (by decide +kernel) (by decide +kernel), by decide +kernel, by decide +kernel, by decide⟩
theorem vNa_fail : Cond.instanceMethod mNa_fail.1 ∈ ev_T := ev_at 465 (by decide +kernel) (by decide +kernel)
theorem wNa_fail : Cond.selects mNa_fail.1.cls mNa_fail.1 mNa_fail.1 ∈ ev_T := ev_at 11 (by decide +kernel) (by decide +kernel)
set_option maxRecDepth 20000 in
theorem kNa_readSign : ev_ok mNa_readSign 1 := ⟨ev_at 470 rfl rfl, ev_at 43 (by decide +kernel) (by decide +kernel), by decide +kernel, by decide +kernel, by decide⟩
theorem vNa_readSign : Cond.instanceMethod mNa_readSign.1 ∈ ev_T := ev_at 469 (by decide +kernel) (by decide +kernel)
theorem wNa_readSign : Cond.selects mNa_readSign.1.cls mNa_readSign.1 mNa_readSign.1 ∈ ev_T := ev_at 12 (by decide +kernel) (by decide +kernel)
set_option maxRecDepth 20000 in
theorem kRu_add : ev_ok mRu_add 4 := ⟨ev_at 475 rfl rfl, ev_at 44 (by decide +kernel) (by decide +kernel), by decide +kernel, by decide +kernel, by decide⟩
theorem vRu_add : Cond.instanceMethod mRu_add.1 ∈ ev_T := ev_at 473 (by decide +kernel) (by decide +kernel)
theorem wRu_add : Cond.selects mRu_add.1.cls mRu_add.1 mRu_add.1 ∈ ev_T := ev_at 474 (by decide +kernel) (by decide +kernel)
set_option maxRecDepth 20000 in
theorem kBy_clear : ev_ok mBy_clear 0 := ⟨ev_at 480 rfl rfl, ev_at 41 (by decide +kernel) (by decide +kernel), by decide +kernel, by decide +kernel, by decide⟩
theorem vBy_clear : Cond.instanceMethod mBy_clear.1 ∈ ev_T := ev_at 478 (by decide +kernel) (by decide +kernel)
theorem wBy_clear : Cond.selects mBy_clear.1.cls mBy_clear.1 mBy_clear.1 ∈ ev_T := ev_at 479 (by decide +kernel) (by decide +kernel)
set_option maxRecDepth 20000 in
theorem kRu_size : ev_ok mRu_size 0 := ⟨ev_at 484 rfl rfl, ev_at 44 (by decide +kernel) (by decide +kernel), by decide +kernel, by decide +kernel, by decide⟩
theorem vRu_size : Cond.instanceMethod mRu_size.1 ∈ ev_T := ev_at 482 (by decide +kernel) (by decide +kernel)
theorem wRu_size : Cond.selects mRu_size.1.cls mRu_size.1 mRu_size.1 ∈ ev_T := ev_at 483 (by decide +kernel) (by decide +kernel)
set_option maxRecDepth 20000 in
theorem kBL_name : ev_ok mBL_name 3 := ⟨ev_at 488 rfl rfl, ev_at 39 (by decide +kernel) (by decide +kernel), by decide +kernel, by decide +kernel, by decide⟩
theorem vBL_name : Cond.instanceMethod mBL_name.1 ∈ ev_T := ev_at 486 (by decide +kernel) (by decide +kernel)
theorem wBL_name : Cond.selects mBL_name.1.cls mBL_name.1 mBL_name.1 ∈ ev_T := ev_at 487 (by decide +kernel) (by decide +kernel)
set_option maxRecDepth 20000 in
theorem kRu_inForce : ev_ok mRu_inForce 2 := ⟨ev_at 492 rfl rfl, ev_at 44 (by decide +kernel) (by decide +kernel), by decide +kernel, by decide +kernel, by decide⟩
theorem vRu_inForce : Cond.instanceMethod mRu_inForce.1 ∈ ev_T := ev_at 490 (by decide +kernel) (by decide +kernel)
theorem wRu_inForce : Cond.selects mRu_inForce.1.cls mRu_inForce.1 mRu_inForce.1 ∈ ev_T := ev_at 491 (by decide +kernel) (by decide +kernel)
set_option maxRecDepth 20000 in
theorem kRu_allows : ev_ok mRu_allows 2 := ⟨ev_at 496 rfl rfl, ev_at 44 (by decide +kernel) (by decide +kernel), by decide +kernel, by decide +kernel, by decide⟩
theorem vRu_allows : Cond.instanceMethod mRu_allows.1 ∈ ev_T := ev_at 494 (by decide +kernel) (by decide +kernel)
theorem wRu_allows : Cond.selects mRu_allows.1.cls mRu_allows.1 mRu_allows.1 ∈ ev_T := ev_at 495 (by decide +kernel) (by decide +kernel)
set_option maxRecDepth 20000 in
theorem kBL_certificate : ev_ok mBL_certificate 1 := ⟨ev_at 500 rfl rfl, ev_at 39 (by decide +kernel) (by decide +kernel), by decide +kernel, by decide +kernel, by decide⟩
theorem vBL_certificate : Cond.instanceMethod mBL_certificate.1 ∈ ev_T := ev_at 498 (by decide +kernel) (by decide +kernel)
theorem wBL_certificate : Cond.selects mBL_certificate.1.cls mBL_certificate.1 mBL_certificate.1 ∈ ev_T := ev_at 499 (by decide +kernel) (by decide +kernel)
set_option maxRecDepth 20000 in
theorem kLe_open : ev_ok mLe_open 1 := ⟨ev_at 504 rfl rfl, ev_at 45 (by decide +kernel) (by decide +kernel), by decide +kernel, by decide +kernel, by decide⟩
theorem vLe_open : Cond.instanceMethod mLe_open.1 ∈ ev_T := ev_at 502 (by decide +kernel) (by decide +kernel)
theorem wLe_open : Cond.selects mLe_open.1.cls mLe_open.1 mLe_open.1 ∈ ev_T := ev_at 503 (by decide +kernel) (by decide +kernel)
set_option maxRecDepth 20000 in
theorem kBL_credit : ev_ok mBL_credit 3 := ⟨ev_at 508 rfl rfl, ev_at 39 (by decide +kernel) (by decide +kernel), by decide +kernel, by decide +kernel, by decide⟩
theorem vBL_credit : Cond.instanceMethod mBL_credit.1 ∈ ev_T := ev_at 506 (by decide +kernel) (by decide +kernel)
theorem wBL_credit : Cond.selects mBL_credit.1.cls mBL_credit.1 mBL_credit.1 ∈ ev_T := ev_at 507 (by decide +kernel) (by decide +kernel)
set_option maxRecDepth 20000 in
theorem kBL_canEnter : ev_ok mBL_canEnter 3 := ⟨ev_at 512 rfl rfl, ev_at 39 (by decide +kernel) (by decide +kernel), by decide +kernel, by decide +kernel, by decide⟩
theorem vBL_canEnter : Cond.instanceMethod mBL_canEnter.1 ∈ ev_T := ev_at 511 (by decide +kernel) (by decide +kernel)
theorem wBL_canEnter : Cond.selects mBL_canEnter.1.cls mBL_canEnter.1 mBL_canEnter.1 ∈ ev_T := ev_at 13 (by decide +kernel) (by decide +kernel)
set_option maxRecDepth 20000 in
theorem kLe_has : ev_ok mLe_has 1 := ⟨ev_at 516 rfl rfl, ev_at 45 (by decide +kernel) (by decide +kernel), by decide +kernel, by decide +kernel, by decide⟩
theorem vLe_has : Cond.instanceMethod mLe_has.1 ∈ ev_T := ev_at 514 (by decide +kernel) (by decide +kernel)
theorem wLe_has : Cond.selects mLe_has.1.cls mLe_has.1 mLe_has.1 ∈ ev_T := ev_at 515 (by decide +kernel) (by decide +kernel)
set_option maxRecDepth 20000 in
theorem kLe_isFull : ev_ok mLe_isFull 0 := ⟨ev_at 520 rfl rfl, ev_at 45 (by decide +kernel) (by decide +kernel), by decide +kernel, by decide +kernel, by decide⟩
theorem vLe_isFull : Cond.instanceMethod mLe_isFull.1 ∈ ev_T := ev_at 518 (by decide +kernel) (by decide +kernel)
theorem wLe_isFull : Cond.selects mLe_isFull.1.cls mLe_isFull.1 mLe_isFull.1 ∈ ev_T := ev_at 519 (by decide +kernel) (by decide +kernel)
set_option maxRecDepth 20000 in
theorem kLe_enter : ev_ok mLe_enter 3 := ⟨ev_at 524 rfl rfl, ev_at 45 (by decide +kernel) (by decide +kernel), by decide +kernel, by decide +kernel, by decide⟩
theorem vLe_enter : Cond.instanceMethod mLe_enter.1 ∈ ev_T := ev_at 522 (by decide +kernel) (by decide +kernel)
theorem wLe_enter : Cond.selects mLe_enter.1.cls mLe_enter.1 mLe_enter.1 ∈ ev_T := ev_at 523 (by decide +kernel) (by decide +kernel)
set_option maxRecDepth 20000 in
theorem kBL_claim : ev_ok mBL_claim 3 := ⟨ev_at 529 rfl rfl, ev_at 39 (by decide +kernel) (by decide +kernel), by decide +kernel, by decide +kernel, by decide⟩
theorem vBL_claim : Cond.instanceMethod mBL_claim.1 ∈ ev_T := ev_at 527 (by decide +kernel) (by decide +kernel)
theorem wBL_claim : Cond.selects mBL_claim.1.cls mBL_claim.1 mBL_claim.1 ∈ ev_T := ev_at 528 (by decide +kernel) (by decide +kernel)
set_option maxRecDepth 20000 in
theorem kLe_isOver : ev_ok mLe_isOver 2 := ⟨ev_at 533 rfl rfl, ev_at 45 (by decide +kernel) (by decide +kernel), by decide +kernel, by decide +kernel, by decide⟩
theorem vLe_isOver : Cond.instanceMethod mLe_isOver.1 ∈ ev_T := ev_at 531 (by decide +kernel) (by decide +kernel)
theorem wLe_isOver : Cond.selects mLe_isOver.1.cls mLe_isOver.1 mLe_isOver.1 ∈ ev_T := ev_at 532 (by decide +kernel) (by decide +kernel)
set_option maxRecDepth 20000 in
theorem kLe_covers : ev_ok mLe_covers 3 := ⟨ev_at 538 rfl rfl, ev_at 45 (by decide +kernel) (by decide +kernel), by decide +kernel, by decide +kernel, by decide⟩
theorem vLe_covers : Cond.instanceMethod mLe_covers.1 ∈ ev_T := ev_at 536 (by decide +kernel) (by decide +kernel)
theorem wLe_covers : Cond.selects mLe_covers.1.cls mLe_covers.1 mLe_covers.1 ∈ ev_T := ev_at 537 (by decide +kernel) (by decide +kernel)
set_option maxRecDepth 20000 in
theorem kLe_sumUpTo : ev_ok mLe_sumUpTo 2 := ⟨ev_at 542 rfl rfl, ev_at 45 (by decide +kernel) (by decide +kernel), by decide +kernel, by decide +kernel, by decide⟩
theorem vLe_sumUpTo : Cond.instanceMethod mLe_sumUpTo.1 ∈ ev_T := ev_at 540 (by decide +kernel) (by decide +kernel)
theorem wLe_sumUpTo : Cond.selects mLe_sumUpTo.1.cls mLe_sumUpTo.1 mLe_sumUpTo.1 ∈ ev_T := ev_at 541 (by decide +kernel) (by decide +kernel)
set_option maxRecDepth 20000 in
theorem kBL_balance : ev_ok mBL_balance 2 := ⟨ev_at 546 rfl rfl, ev_at 39 (by decide +kernel) (by decide +kernel), by decide +kernel, by decide +kernel, by decide⟩
theorem vBL_balance : Cond.instanceMethod mBL_balance.1 ∈ ev_T := ev_at 544 (by decide +kernel) (by decide +kernel)
theorem wBL_balance : Cond.selects mBL_balance.1.cls mBL_balance.1 mBL_balance.1 ∈ ev_T := ev_at 545 (by decide +kernel) (by decide +kernel)
set_option maxRecDepth 20000 in
theorem kBL_warm : ev_ok mBL_warm 2 := ⟨ev_at 551 rfl rfl, ev_at 39 (by decide +kernel) (by decide +kernel), by decide +kernel, by decide +kernel, by decide⟩
theorem vBL_warm : Cond.instanceMethod mBL_warm.1 ∈ ev_T := ev_at 549 (by decide +kernel) (by decide +kernel)
theorem wBL_warm : Cond.selects mBL_warm.1.cls mBL_warm.1 mBL_warm.1 ∈ ev_T := ev_at 550 (by decide +kernel) (by decide +kernel)
set_option maxRecDepth 20000 in
theorem kBL_paper : ev_ok mBL_paper 3 := ⟨ev_at 556 rfl rfl, ev_at 39 (by decide +kernel) (by decide +kernel), by decide +kernel, by decide +kernel, by decide⟩
theorem vBL_paper : Cond.instanceMethod mBL_paper.1 ∈ ev_T := ev_at 554 (by decide +kernel) (by decide +kernel)
theorem wBL_paper : Cond.selects mBL_paper.1.cls mBL_paper.1 mBL_paper.1 ∈ ev_T := ev_at 555 (by decide +kernel) (by decide +kernel)
set_option maxRecDepth 20000 in
theorem kBy_putNumber : ev_ok mBy_putNumber 1 := ⟨ev_at 560 rfl rfl, ev_at 41 (by decide +kernel) (by decide +kernel), by decide +kernel, by decide +kernel, by decide⟩
theorem vBy_putNumber : Cond.instanceMethod mBy_putNumber.1 ∈ ev_T := ev_at 558 (by decide +kernel) (by decide +kernel)
theorem wBy_putNumber : Cond.selects mBy_putNumber.1.cls mBy_putNumber.1 mBy_putNumber.1 ∈ ev_T := ev_at 559 (by decide +kernel) (by decide +kernel)
set_option maxRecDepth 20000 in
theorem kBy_digitsOf : ev_ok mBy_digitsOf 1 := ⟨ev_at 563 rfl rfl, ev_at 41 (by decide +kernel) (by decide +kernel), by decide +kernel, by decide +kernel, by decide⟩
theorem sBy_digitsOf : Cond.static mBy_digitsOf.1 ∈ ev_T := ev_at 562 (by decide +kernel) (by decide +kernel)
set_option maxRecDepth 20000 in
theorem kBL_all : ev_ok mBL_all 1 := ⟨ev_at 569 rfl rfl, ev_at 39 (by decide +kernel) (by decide +kernel), by decide +kernel, by decide +kernel, by decide⟩
theorem vBL_all : Cond.instanceMethod mBL_all.1 ∈ ev_T := ev_at 567 (by decide +kernel) (by decide +kernel)
theorem wBL_all : Cond.selects mBL_all.1.cls mBL_all.1 mBL_all.1 ∈ ev_T := ev_at 568 (by decide +kernel) (by decide +kernel)
set_option maxRecDepth 20000 in
theorem kBL_sumOfFact : ev_ok mBL_sumOfFact 1 := ⟨ev_at 573 rfl rfl, ev_at 39 (by decide +kernel) (by decide +kernel), by decide +kernel, by decide +kernel, by decide⟩
theorem vBL_sumOfFact : Cond.instanceMethod mBL_sumOfFact.1 ∈ ev_T := ev_at 572 (by decide +kernel) (by decide +kernel)
theorem wBL_sumOfFact : Cond.selects mBL_sumOfFact.1.cls mBL_sumOfFact.1 mBL_sumOfFact.1 ∈ ev_T := ev_at 14 (by decide +kernel) (by decide +kernel)
set_option maxRecDepth 20000 in
theorem kBL_sumInside : ev_ok mBL_sumInside 1 := ⟨ev_at 577 rfl rfl, ev_at 39 (by decide +kernel) (by decide +kernel), by decide +kernel, by decide +kernel, by decide⟩
theorem vBL_sumInside : Cond.instanceMethod mBL_sumInside.1 ∈ ev_T := ev_at 576 (by decide +kernel) (by decide +kernel)
theorem wBL_sumInside : Cond.selects mBL_sumInside.1.cls mBL_sumInside.1 mBL_sumInside.1 ∈ ev_T := ev_at 15 (by decide +kernel) (by decide +kernel)
set_option maxRecDepth 20000 in
theorem kLe_size : ev_ok mLe_size 0 := ⟨ev_at 581 rfl rfl, ev_at 45 (by decide +kernel) (by decide +kernel), by decide +kernel, by decide +kernel, by decide⟩
theorem vLe_size : Cond.instanceMethod mLe_size.1 ∈ ev_T := ev_at 579 (by decide +kernel) (by decide +kernel)
theorem wLe_size : Cond.selects mLe_size.1.cls mLe_size.1 mLe_size.1 ∈ ev_T := ev_at 580 (by decide +kernel) (by decide +kernel)
set_option maxRecDepth 20000 in
theorem kMo_init : ev_ok mMo_init 0 := ⟨ev_at 586 rfl rfl, ev_at 46 (by decide +kernel) (by decide +kernel), by decide +kernel, by decide +kernel, by decide⟩
theorem vMo_init : Cond.instanceMethod mMo_init.1 ∈ ev_T := ev_at 585 (by decide +kernel) (by decide +kernel)
set_option maxRecDepth 20000 in
theorem kMo_haul : ev_ok mMo_haul 3 := ⟨ev_at 701 rfl rfl, ev_at 46 (by decide +kernel) (by decide +kernel), by decide +kernel, by decide +kernel, by decide⟩
theorem vMo_haul : Cond.instanceMethod mMo_haul.1 ∈ ev_T := ev_at 699 (by decide +kernel) (by decide +kernel)
theorem wMo_haul : Cond.selects mMo_haul.1.cls mMo_haul.1 mMo_haul.1 ∈ ev_T := ev_at 700 (by decide +kernel) (by decide +kernel)
set_option maxRecDepth 20000 in
theorem kMo_make : ev_ok mMo_make 4 := ⟨ev_at 707 rfl rfl, ev_at 46 (by decide +kernel) (by decide +kernel), by decide +kernel, by decide +kernel, by decide⟩
theorem vMo_make : Cond.instanceMethod mMo_make.1 ∈ ev_T := ev_at 706 (by decide +kernel) (by decide +kernel)
theorem wMo_make : Cond.selects mMo_make.1.cls mMo_make.1 mMo_make.1 ∈ ev_T := ev_at 16 (by decide +kernel) (by decide +kernel)
set_option maxRecDepth 20000 in
theorem kMo_batch : ev_ok mMo_batch 0 := ⟨ev_at 711 rfl rfl, ev_at 46 (by decide +kernel) (by decide +kernel), by decide +kernel, by decide +kernel, by decide⟩
theorem vMo_batch : Cond.instanceMethod mMo_batch.1 ∈ ev_T := ev_at 709 (by decide +kernel) (by decide +kernel)
theorem wMo_batch : Cond.selects mMo_batch.1.cls mMo_batch.1 mMo_batch.1 ∈ ev_T := ev_at 710 (by decide +kernel) (by decide +kernel)
set_option maxRecDepth 20000 in
theorem kMo_into : ev_ok mMo_into 3 := ⟨ev_at 715 rfl rfl, ev_at 46 (by decide +kernel) (by decide +kernel), by decide +kernel, by decide +kernel, by decide⟩
theorem vMo_into : Cond.instanceMethod mMo_into.1 ∈ ev_T := ev_at 713 (by decide +kernel) (by decide +kernel)
theorem wMo_into : Cond.selects mMo_into.1.cls mMo_into.1 mMo_into.1 ∈ ev_T := ev_at 714 (by decide +kernel) (by decide +kernel)
set_option maxRecDepth 20000 in
theorem kMo_isOf : ev_ok mMo_isOf 2 := ⟨ev_at 719 rfl rfl, ev_at 46 (by decide +kernel) (by decide +kernel), by decide +kernel, by decide +kernel, by decide⟩
theorem vMo_isOf : Cond.instanceMethod mMo_isOf.1 ∈ ev_T := ev_at 718 (by decide +kernel) (by decide +kernel)
theorem wMo_isOf : Cond.selects mMo_isOf.1.cls mMo_isOf.1 mMo_isOf.1 ∈ ev_T := ev_at 17 (by decide +kernel) (by decide +kernel)
set_option maxRecDepth 20000 in
theorem kMo_isThing : ev_ok mMo_isThing 1 := ⟨ev_at 723 rfl rfl, ev_at 46 (by decide +kernel) (by decide +kernel), by decide +kernel, by decide +kernel, by decide⟩
theorem vMo_isThing : Cond.instanceMethod mMo_isThing.1 ∈ ev_T := ev_at 722 (by decide +kernel) (by decide +kernel)
theorem wMo_isThing : Cond.selects mMo_isThing.1.cls mMo_isThing.1 mMo_isThing.1 ∈ ev_T := ev_at 18 (by decide +kernel) (by decide +kernel)
set_option maxRecDepth 20000 in
theorem kMo_isSource : ev_ok mMo_isSource 1 := ⟨ev_at 727 rfl rfl, ev_at 46 (by decide +kernel) (by decide +kernel), by decide +kernel, by decide +kernel, by decide⟩
theorem vMo_isSource : Cond.instanceMethod mMo_isSource.1 ∈ ev_T := ev_at 726 (by decide +kernel) (by decide +kernel)
theorem wMo_isSource : Cond.selects mMo_isSource.1.cls mMo_isSource.1 mMo_isSource.1 ∈ ev_T := ev_at 19 (by decide +kernel) (by decide +kernel)
set_option maxRecDepth 20000 in
theorem kMo_has : ev_ok mMo_has 2 := ⟨ev_at 731 rfl rfl, ev_at 46 (by decide +kernel) (by decide +kernel), by decide +kernel, by decide +kernel, by decide⟩
theorem vMo_has : Cond.instanceMethod mMo_has.1 ∈ ev_T := ev_at 730 (by decide +kernel) (by decide +kernel)
theorem wMo_has : Cond.selects mMo_has.1.cls mMo_has.1 mMo_has.1 ∈ ev_T := ev_at 20 (by decide +kernel) (by decide +kernel)
set_option maxRecDepth 20000 in
theorem kMo_gramsIn : ev_ok mMo_gramsIn 1 := ⟨ev_at 735 rfl rfl, ev_at 46 (by decide +kernel) (by decide +kernel), by decide +kernel, by decide +kernel, by decide⟩
theorem vMo_gramsIn : Cond.instanceMethod mMo_gramsIn.1 ∈ ev_T := ev_at 734 (by decide +kernel) (by decide +kernel)
theorem wMo_gramsIn : Cond.selects mMo_gramsIn.1.cls mMo_gramsIn.1 mMo_gramsIn.1 ∈ ev_T := ev_at 21 (by decide +kernel) (by decide +kernel)
set_option maxRecDepth 20000 in
theorem kMo_layBy : ev_ok mMo_layBy 3 := ⟨ev_at 739 rfl rfl, ev_at 46 (by decide +kernel) (by decide +kernel), by decide +kernel, by decide +kernel, by decide⟩
theorem vMo_layBy : Cond.instanceMethod mMo_layBy.1 ∈ ev_T := ev_at 738 (by decide +kernel) (by decide +kernel)
theorem wMo_layBy : Cond.selects mMo_layBy.1.cls mMo_layBy.1 mMo_layBy.1 ∈ ev_T := ev_at 22 (by decide +kernel) (by decide +kernel)
set_option maxRecDepth 20000 in
theorem kMo_lay : ev_ok mMo_lay 2 := ⟨ev_at 743 rfl rfl, ev_at 46 (by decide +kernel) (by decide +kernel), by decide +kernel, by decide +kernel, by decide⟩
theorem vMo_lay : Cond.instanceMethod mMo_lay.1 ∈ ev_T := ev_at 742 (by decide +kernel) (by decide +kernel)
theorem wMo_lay : Cond.selects mMo_lay.1.cls mMo_lay.1 mMo_lay.1 ∈ ev_T := ev_at 23 (by decide +kernel) (by decide +kernel)
set_option maxRecDepth 20000 in
theorem kMo_putDown : ev_ok mMo_putDown 1 := ⟨ev_at 747 rfl rfl, ev_at 46 (by decide +kernel) (by decide +kernel), by decide +kernel, by decide +kernel, by decide⟩
theorem vMo_putDown : Cond.instanceMethod mMo_putDown.1 ∈ ev_T := ev_at 746 (by decide +kernel) (by decide +kernel)
theorem wMo_putDown : Cond.selects mMo_putDown.1.cls mMo_putDown.1 mMo_putDown.1 ∈ ev_T := ev_at 24 (by decide +kernel) (by decide +kernel)
set_option maxRecDepth 20000 in
theorem kMo_takeOut : ev_ok mMo_takeOut 2 := ⟨ev_at 751 rfl rfl, ev_at 46 (by decide +kernel) (by decide +kernel), by decide +kernel, by decide +kernel, by decide⟩
theorem vMo_takeOut : Cond.instanceMethod mMo_takeOut.1 ∈ ev_T := ev_at 750 (by decide +kernel) (by decide +kernel)
theorem wMo_takeOut : Cond.selects mMo_takeOut.1.cls mMo_takeOut.1 mMo_takeOut.1 ∈ ev_T := ev_at 25 (by decide +kernel) (by decide +kernel)
set_option maxRecDepth 20000 in
theorem kMo_box : ev_ok mMo_box 3 := ⟨ev_at 755 rfl rfl, ev_at 46 (by decide +kernel) (by decide +kernel), by decide +kernel, by decide +kernel, by decide⟩
theorem vMo_box : Cond.instanceMethod mMo_box.1 ∈ ev_T := ev_at 753 (by decide +kernel) (by decide +kernel)
theorem wMo_box : Cond.selects mMo_box.1.cls mMo_box.1 mMo_box.1 ∈ ev_T := ev_at 754 (by decide +kernel) (by decide +kernel)
set_option maxRecDepth 20000 in
theorem kMo_waste : ev_ok mMo_waste 2 := ⟨ev_at 759 rfl rfl, ev_at 46 (by decide +kernel) (by decide +kernel), by decide +kernel, by decide +kernel, by decide⟩
theorem vMo_waste : Cond.instanceMethod mMo_waste.1 ∈ ev_T := ev_at 757 (by decide +kernel) (by decide +kernel)
theorem wMo_waste : Cond.selects mMo_waste.1.cls mMo_waste.1 mMo_waste.1 ∈ ev_T := ev_at 758 (by decide +kernel) (by decide +kernel)
set_option maxRecDepth 20000 in
theorem kMo_hold : ev_ok mMo_hold 2 := ⟨ev_at 764 rfl rfl, ev_at 46 (by decide +kernel) (by decide +kernel), by decide +kernel, by decide +kernel, by decide⟩
theorem vMo_hold : Cond.instanceMethod mMo_hold.1 ∈ ev_T := ev_at 762 (by decide +kernel) (by decide +kernel)
theorem wMo_hold : Cond.selects mMo_hold.1.cls mMo_hold.1 mMo_hold.1 ∈ ev_T := ev_at 763 (by decide +kernel) (by decide +kernel)
set_option maxRecDepth 20000 in
theorem kMo_correct : ev_ok mMo_correct 2 := ⟨ev_at 768 rfl rfl, ev_at 46 (by decide +kernel) (by decide +kernel), by decide +kernel, by decide +kernel, by decide⟩
theorem vMo_correct : Cond.instanceMethod mMo_correct.1 ∈ ev_T := ev_at 766 (by decide +kernel) (by decide +kernel)
theorem wMo_correct : Cond.selects mMo_correct.1.cls mMo_correct.1 mMo_correct.1 ∈ ev_T := ev_at 767 (by decide +kernel) (by decide +kernel)
set_option maxRecDepth 20000 in
theorem kMo_told : ev_ok mMo_told 2 := ⟨ev_at 772 rfl rfl, ev_at 46 (by decide +kernel) (by decide +kernel), by decide +kernel, by decide +kernel, by decide⟩
theorem vMo_told : Cond.instanceMethod mMo_told.1 ∈ ev_T := ev_at 770 (by decide +kernel) (by decide +kernel)
theorem wMo_told : Cond.selects mMo_told.1.cls mMo_told.1 mMo_told.1 ∈ ev_T := ev_at 771 (by decide +kernel) (by decide +kernel)
set_option maxRecDepth 20000 in
theorem kMo_layer : ev_ok mMo_layer 3 := ⟨ev_at 776 rfl rfl, ev_at 46 (by decide +kernel) (by decide +kernel), by decide +kernel, by decide +kernel, by decide⟩
theorem vMo_layer : Cond.instanceMethod mMo_layer.1 ∈ ev_T := ev_at 774 (by decide +kernel) (by decide +kernel)
theorem wMo_layer : Cond.selects mMo_layer.1.cls mMo_layer.1 mMo_layer.1 ∈ ev_T := ev_at 775 (by decide +kernel) (by decide +kernel)
set_option maxRecDepth 20000 in
theorem kMo_share : ev_ok mMo_share 3 := ⟨ev_at 780 rfl rfl, ev_at 46 (by decide +kernel) (by decide +kernel), by decide +kernel, by decide +kernel, by decide⟩
theorem vMo_share : Cond.instanceMethod mMo_share.1 ∈ ev_T := ev_at 778 (by decide +kernel) (by decide +kernel)
theorem wMo_share : Cond.selects mMo_share.1.cls mMo_share.1 mMo_share.1 ∈ ev_T := ev_at 779 (by decide +kernel) (by decide +kernel)
set_option maxRecDepth 20000 in
theorem kMo_gramsFrom : ev_ok mMo_gramsFrom 2 := ⟨ev_at 784 rfl rfl, ev_at 46 (by decide +kernel) (by decide +kernel), by decide +kernel, by decide +kernel, by decide⟩
theorem vMo_gramsFrom : Cond.instanceMethod mMo_gramsFrom.1 ∈ ev_T := ev_at 783 (by decide +kernel) (by decide +kernel)
theorem wMo_gramsFrom : Cond.selects mMo_gramsFrom.1.cls mMo_gramsFrom.1 mMo_gramsFrom.1 ∈ ev_T := ev_at 26 (by decide +kernel) (by decide +kernel)
set_option maxRecDepth 20000 in
theorem kMo_back : ev_ok mMo_back 2 := ⟨ev_at 788 rfl rfl, ev_at 46 (by decide +kernel) (by decide +kernel), by decide +kernel, by decide +kernel, by decide⟩
theorem vMo_back : Cond.instanceMethod mMo_back.1 ∈ ev_T := ev_at 786 (by decide +kernel) (by decide +kernel)
theorem wMo_back : Cond.selects mMo_back.1.cls mMo_back.1 mMo_back.1 ∈ ev_T := ev_at 787 (by decide +kernel) (by decide +kernel)
set_option maxRecDepth 20000 in
theorem kMo_recall : ev_ok mMo_recall 1 := ⟨ev_at 792 rfl rfl, ev_at 46 (by decide +kernel) (by decide +kernel), by decide +kernel, by decide +kernel, by decide⟩
theorem vMo_recall : Cond.instanceMethod mMo_recall.1 ∈ ev_T := ev_at 790 (by decide +kernel) (by decide +kernel)
theorem wMo_recall : Cond.selects mMo_recall.1.cls mMo_recall.1 mMo_recall.1 ∈ ev_T := ev_at 791 (by decide +kernel) (by decide +kernel)
set_option maxRecDepth 20000 in
theorem kMo_boxesOf : ev_ok mMo_boxesOf 2 := ⟨ev_at 796 rfl rfl, ev_at 46 (by decide +kernel) (by decide +kernel), by decide +kernel, by decide +kernel, by decide⟩
theorem vMo_boxesOf : Cond.instanceMethod mMo_boxesOf.1 ∈ ev_T := ev_at 795 (by decide +kernel) (by decide +kernel)
theorem wMo_boxesOf : Cond.selects mMo_boxesOf.1.cls mMo_boxesOf.1 mMo_boxesOf.1 ∈ ev_T := ev_at 27 (by decide +kernel) (by decide +kernel)
set_option maxRecDepth 20000 in
theorem kMo_recalled : ev_ok mMo_recalled 2 := ⟨ev_at 800 rfl rfl, ev_at 46 (by decide +kernel) (by decide +kernel), by decide +kernel, by decide +kernel, by decide⟩
theorem vMo_recalled : Cond.instanceMethod mMo_recalled.1 ∈ ev_T := ev_at 798 (by decide +kernel) (by decide +kernel)
theorem wMo_recalled : Cond.selects mMo_recalled.1.cls mMo_recalled.1 mMo_recalled.1 ∈ ev_T := ev_at 799 (by decide +kernel) (by decide +kernel)
set_option maxRecDepth 20000 in
theorem kMo_doubled : ev_ok mMo_doubled 1 := ⟨ev_at 804 rfl rfl, ev_at 46 (by decide +kernel) (by decide +kernel), by decide +kernel, by decide +kernel, by decide⟩
theorem vMo_doubled : Cond.instanceMethod mMo_doubled.1 ∈ ev_T := ev_at 802 (by decide +kernel) (by decide +kernel)
theorem wMo_doubled : Cond.selects mMo_doubled.1.cls mMo_doubled.1 mMo_doubled.1 ∈ ev_T := ev_at 803 (by decide +kernel) (by decide +kernel)
set_option maxRecDepth 20000 in
theorem kMo_unit : ev_ok mMo_unit 1 := ⟨ev_at 808 rfl rfl, ev_at 46 (by decide +kernel) (by decide +kernel), by decide +kernel, by decide +kernel, by decide⟩
theorem vMo_unit : Cond.instanceMethod mMo_unit.1 ∈ ev_T := ev_at 806 (by decide +kernel) (by decide +kernel)
theorem wMo_unit : Cond.selects mMo_unit.1.cls mMo_unit.1 mMo_unit.1 ∈ ev_T := ev_at 807 (by decide +kernel) (by decide +kernel)
set_option maxRecDepth 20000 in
theorem kMo_names : ev_ok mMo_names 0 := ⟨ev_at 812 rfl rfl, ev_at 46 (by decide +kernel) (by decide +kernel), by decide +kernel, by decide +kernel, by decide⟩
theorem vMo_names : Cond.instanceMethod mMo_names.1 ∈ ev_T := ev_at 810 (by decide +kernel) (by decide +kernel)
theorem wMo_names : Cond.selects mMo_names.1.cls mMo_names.1 mMo_names.1 ∈ ev_T := ev_at 811 (by decide +kernel) (by decide +kernel)
set_option maxRecDepth 20000 in
theorem kMo_skip : ev_ok mMo_skip 0 := ⟨ev_at 816 rfl rfl, ev_at 46 (by decide +kernel) (by decide +kernel), by decide +kernel, by decide +kernel, by decide⟩
theorem vMo_skip : Cond.instanceMethod mMo_skip.1 ∈ ev_T := ev_at 815 (by decide +kernel) (by decide +kernel)
theorem wMo_skip : Cond.selects mMo_skip.1.cls mMo_skip.1 mMo_skip.1 ∈ ev_T := ev_at 28 (by decide +kernel) (by decide +kernel)
set_option maxRecDepth 20000 in
theorem kMo_number : ev_ok mMo_number 2 := ⟨ev_at 821 rfl rfl, ev_at 46 (by decide +kernel) (by decide +kernel), by decide +kernel, by decide +kernel, by decide⟩
theorem vMo_number : Cond.instanceMethod mMo_number.1 ∈ ev_T := ev_at 820 (by decide +kernel) (by decide +kernel)
theorem wMo_number : Cond.selects mMo_number.1.cls mMo_number.1 mMo_number.1 ∈ ev_T := ev_at 29 (by decide +kernel) (by decide +kernel)
set_option maxRecDepth 20000 in
theorem kMo_isDigit : ev_ok mMo_isDigit 1 := ⟨ev_at 825 rfl rfl, ev_at 46 (by decide +kernel) (by decide +kernel), by decide +kernel, by decide +kernel, by decide⟩
theorem vMo_isDigit : Cond.instanceMethod mMo_isDigit.1 ∈ ev_T := ev_at 824 (by decide +kernel) (by decide +kernel)
theorem wMo_isDigit : Cond.selects mMo_isDigit.1.cls mMo_isDigit.1 mMo_isDigit.1 ∈ ev_T := ev_at 30 (by decide +kernel) (by decide +kernel)
set_option maxRecDepth 20000 in
theorem kMo_sign : ev_ok mMo_sign 1 := ⟨ev_at 829 rfl rfl, ev_at 46 (by decide +kernel) (by decide +kernel), by decide +kernel, by decide +kernel, by decide⟩
theorem vMo_sign : Cond.instanceMethod mMo_sign.1 ∈ ev_T := ev_at 828 (by decide +kernel) (by decide +kernel)
theorem wMo_sign : Cond.selects mMo_sign.1.cls mMo_sign.1 mMo_sign.1 ∈ ev_T := ev_at 31 (by decide +kernel) (by decide +kernel)
set_option maxRecDepth 20000 in
theorem kMo_name : ev_ok mMo_name 3 := ⟨ev_at 834 rfl rfl, ev_at 46 (by decide +kernel) (by decide +kernel), by decide +kernel, by decide +kernel, by decide⟩
theorem vMo_name : Cond.instanceMethod mMo_name.1 ∈ ev_T := ev_at 832 (by decide +kernel) (by decide +kernel)
theorem wMo_name : Cond.selects mMo_name.1.cls mMo_name.1 mMo_name.1 ∈ ev_T := ev_at 833 (by decide +kernel) (by decide +kernel)
set_option maxRecDepth 20000 in
theorem kMo_certificate : ev_ok mMo_certificate 1 := ⟨ev_at 838 rfl rfl, ev_at 46 (by decide +kernel) (by decide +kernel), by decide +kernel, by decide +kernel, by decide⟩
theorem vMo_certificate : Cond.instanceMethod mMo_certificate.1 ∈ ev_T := ev_at 836 (by decide +kernel) (by decide +kernel)
theorem wMo_certificate : Cond.selects mMo_certificate.1.cls mMo_certificate.1 mMo_certificate.1 ∈ ev_T := ev_at 837 (by decide +kernel) (by decide +kernel)
set_option maxRecDepth 20000 in
theorem kMo_credit : ev_ok mMo_credit 3 := ⟨ev_at 842 rfl rfl, ev_at 46 (by decide +kernel) (by decide +kernel), by decide +kernel, by decide +kernel, by decide⟩
theorem vMo_credit : Cond.instanceMethod mMo_credit.1 ∈ ev_T := ev_at 840 (by decide +kernel) (by decide +kernel)
theorem wMo_credit : Cond.selects mMo_credit.1.cls mMo_credit.1 mMo_credit.1 ∈ ev_T := ev_at 841 (by decide +kernel) (by decide +kernel)
set_option maxRecDepth 20000 in
theorem kMo_mayAct : ev_ok mMo_mayAct 3 := ⟨ev_at 846 rfl rfl, ev_at 46 (by decide +kernel) (by decide +kernel), by decide +kernel, by decide +kernel, by decide⟩
theorem vMo_mayAct : Cond.instanceMethod mMo_mayAct.1 ∈ ev_T := ev_at 845 (by decide +kernel) (by decide +kernel)
theorem wMo_mayAct : Cond.selects mMo_mayAct.1.cls mMo_mayAct.1 mMo_mayAct.1 ∈ ev_T := ev_at 32 (by decide +kernel) (by decide +kernel)
set_option maxRecDepth 20000 in
theorem kMo_act : ev_ok mMo_act 3 := ⟨ev_at 850 rfl rfl, ev_at 46 (by decide +kernel) (by decide +kernel), by decide +kernel, by decide +kernel, by decide⟩
theorem vMo_act : Cond.instanceMethod mMo_act.1 ∈ ev_T := ev_at 849 (by decide +kernel) (by decide +kernel)
theorem wMo_act : Cond.selects mMo_act.1.cls mMo_act.1 mMo_act.1 ∈ ev_T := ev_at 33 (by decide +kernel) (by decide +kernel)
set_option maxRecDepth 20000 in
theorem kMo_claim : ev_ok mMo_claim 3 := ⟨ev_at 854 rfl rfl, ev_at 46 (by decide +kernel) (by decide +kernel), by decide +kernel, by decide +kernel, by decide⟩
theorem vMo_claim : Cond.instanceMethod mMo_claim.1 ∈ ev_T := ev_at 852 (by decide +kernel) (by decide +kernel)
theorem wMo_claim : Cond.selects mMo_claim.1.cls mMo_claim.1 mMo_claim.1 ∈ ev_T := ev_at 853 (by decide +kernel) (by decide +kernel)
set_option maxRecDepth 20000 in
theorem kMo_balanceOf : ev_ok mMo_balanceOf 2 := ⟨ev_at 858 rfl rfl, ev_at 46 (by decide +kernel) (by decide +kernel), by decide +kernel, by decide +kernel, by decide⟩
theorem vMo_balanceOf : Cond.instanceMethod mMo_balanceOf.1 ∈ ev_T := ev_at 857 (by decide +kernel) (by decide +kernel)
theorem wMo_balanceOf : Cond.selects mMo_balanceOf.1.cls mMo_balanceOf.1 mMo_balanceOf.1 ∈ ev_T := ev_at 34 (by decide +kernel) (by decide +kernel)
set_option maxRecDepth 20000 in
theorem kMo_balance : ev_ok mMo_balance 2 := ⟨ev_at 862 rfl rfl, ev_at 46 (by decide +kernel) (by decide +kernel), by decide +kernel, by decide +kernel, by decide⟩
theorem vMo_balance : Cond.instanceMethod mMo_balance.1 ∈ ev_T := ev_at 860 (by decide +kernel) (by decide +kernel)
theorem wMo_balance : Cond.selects mMo_balance.1.cls mMo_balance.1 mMo_balance.1 ∈ ev_T := ev_at 861 (by decide +kernel) (by decide +kernel)
set_option maxRecDepth 20000 in
theorem kMo_warm : ev_ok mMo_warm 2 := ⟨ev_at 866 rfl rfl, ev_at 46 (by decide +kernel) (by decide +kernel), by decide +kernel, by decide +kernel, by decide⟩
theorem vMo_warm : Cond.instanceMethod mMo_warm.1 ∈ ev_T := ev_at 864 (by decide +kernel) (by decide +kernel)
theorem wMo_warm : Cond.selects mMo_warm.1.cls mMo_warm.1 mMo_warm.1 ∈ ev_T := ev_at 865 (by decide +kernel) (by decide +kernel)
set_option maxRecDepth 20000 in
theorem kMo_paper : ev_ok mMo_paper 3 := ⟨ev_at 870 rfl rfl, ev_at 46 (by decide +kernel) (by decide +kernel), by decide +kernel, by decide +kernel, by decide⟩
theorem vMo_paper : Cond.instanceMethod mMo_paper.1 ∈ ev_T := ev_at 868 (by decide +kernel) (by decide +kernel)
theorem wMo_paper : Cond.selects mMo_paper.1.cls mMo_paper.1 mMo_paper.1 ∈ ev_T := ev_at 869 (by decide +kernel) (by decide +kernel)
set_option maxRecDepth 20000 in
theorem kMo_writeNumber : ev_ok mMo_writeNumber 1 := ⟨ev_at 874 rfl rfl, ev_at 46 (by decide +kernel) (by decide +kernel), by decide +kernel, by decide +kernel, by decide⟩
theorem vMo_writeNumber : Cond.instanceMethod mMo_writeNumber.1 ∈ ev_T := ev_at 873 (by decide +kernel) (by decide +kernel)
theorem wMo_writeNumber : Cond.selects mMo_writeNumber.1.cls mMo_writeNumber.1 mMo_writeNumber.1 ∈ ev_T := ev_at 35 (by decide +kernel) (by decide +kernel)
set_option maxRecDepth 20000 in
theorem kMo_write : ev_ok mMo_write 1 := ⟨ev_at 880 rfl rfl, ev_at 46 (by decide +kernel) (by decide +kernel), by decide +kernel, by decide +kernel, by decide⟩
theorem vMo_write : Cond.instanceMethod mMo_write.1 ∈ ev_T := ev_at 879 (by decide +kernel) (by decide +kernel)
theorem wMo_write : Cond.selects mMo_write.1.cls mMo_write.1 mMo_write.1 ∈ ev_T := ev_at 36 (by decide +kernel) (by decide +kernel)
set_option maxRecDepth 20000 in
theorem kMo_all : ev_ok mMo_all 1 := ⟨ev_at 884 rfl rfl, ev_at 46 (by decide +kernel) (by decide +kernel), by decide +kernel, by decide +kernel, by decide⟩
theorem vMo_all : Cond.instanceMethod mMo_all.1 ∈ ev_T := ev_at 882 (by decide +kernel) (by decide +kernel)
theorem wMo_all : Cond.selects mMo_all.1.cls mMo_all.1 mMo_all.1 ∈ ev_T := ev_at 883 (by decide +kernel) (by decide +kernel)
set_option maxRecDepth 20000 in
theorem kMo_allIn : ev_ok mMo_allIn 1 := ⟨ev_at 888 rfl rfl, ev_at 46 (by decide +kernel) (by decide +kernel), by decide +kernel, by decide +kernel, by decide⟩
theorem vMo_allIn : Cond.instanceMethod mMo_allIn.1 ∈ ev_T := ev_at 887 (by decide +kernel) (by decide +kernel)
theorem wMo_allIn : Cond.selects mMo_allIn.1.cls mMo_allIn.1 mMo_allIn.1 ∈ ev_T := ev_at 37 (by decide +kernel) (by decide +kernel)
theorem ob_1 : Cond.instanceMethod Lib.objectInit ∈ ev_T := ev_at 55 (by decide +kernel) (by decide +kernel)
theorem ob_2 : Cond.code Lib.objectInit ⟨#[0xb1]⟩ 1 none ∈ ev_T := ev_at 56 (by decide +kernel) (by decide +kernel)
theorem ma_max_1 : Cond.static Lib.Math.max.name ∈ ev_T := ev_at 77 (by decide +kernel) (by decide +kernel)
theorem ma_max_2 : Cond.code Lib.Math.max.name Lib.Math.max.code 2 (some .int) ∈ ev_T := ev_at 78 (by decide +kernel) (by decide +kernel)
theorem ma_minl_1 : Cond.static Lib.MathLoose.min_long.x ∈ ev_T := ev_at 299 (by decide +kernel) (by decide +kernel)
theorem ma_minl_2 : Cond.code Lib.MathLoose.min_long.x Lib.MathLoose.min_long.code 4 (some .long) ∈ ev_T := ev_at 300 (by decide +kernel) (by decide +kernel)
theorem ma_i : Cond.initialized "java/lang/Math" ∈ ev_T := ev_at 42 (by decide +kernel) (by decide +kernel)
theorem lBL_3 : Cond.methodLink "BatchLinks" 3 Lib.objectInit ∈ ev_T := ev_at 54 (by decide +kernel) (by decide +kernel)
theorem lBL_21 : ("BatchLinks", 21, (mTa_init).1, "BatchLinks") ∈ ev_nm := by decide +kernel
theorem lBL_31 : Cond.methodLink "BatchLinks" 31 (mBy_init).1 ∈ ev_T := ev_at 72 (by decide +kernel) (by decide +kernel)
theorem lBL_40 : Cond.methodLink "BatchLinks" 40 (mNa_init).1 ∈ ev_T := ev_at 88 (by decide +kernel) (by decide +kernel)
theorem lBL_49 : ("BatchLinks", 49, (mRu_init).1, "BatchLinks") ∈ ev_nm := by decide +kernel
theorem lBL_59 : ("BatchLinks", 59, (mLe_init).1, "BatchLinks") ∈ ev_nm := by decide +kernel
theorem lBL_67 : Cond.methodLink "BatchLinks" 67 (mBL_isWeight).1 ∈ ev_T := ev_at 185 (by decide +kernel) (by decide +kernel)
theorem lBL_71 : Cond.methodLink "BatchLinks" 71 (mBL_isWithin).1 ∈ ev_T := ev_at 189 (by decide +kernel) (by decide +kernel)
theorem lBL_76 : Cond.methodLink "BatchLinks" 76 (mBL_isFull).1 ∈ ev_T := ev_at 193 (by decide +kernel) (by decide +kernel)
theorem lBL_80 : Cond.methodLink "BatchLinks" 80 (mTh_init).1 ∈ ev_T := ev_at 198 (by decide +kernel) (by decide +kernel)
theorem lBL_91 : Cond.methodLink "BatchLinks" 91 (mLa_append).1 ∈ ev_T := ev_at 250 (by decide +kernel) (by decide +kernel)
theorem lBL_97 : Cond.methodLink "BatchLinks" 97 (mBL_keep).1 ∈ ev_T := ev_at 254 (by decide +kernel) (by decide +kernel)
theorem lBL_101 : Cond.methodLink "BatchLinks" 101 (mBL_find).1 ∈ ev_T := ev_at 266 (by decide +kernel) (by decide +kernel)
theorem lBL_112 : Cond.methodLink "BatchLinks" 112 (mLa_have).1 ∈ ev_T := ev_at 270 (by decide +kernel) (by decide +kernel)
theorem lBL_115 : Cond.methodLink "BatchLinks" 115 (mLa_sizeWith).1 ∈ ev_T := ev_at 278 (by decide +kernel) (by decide +kernel)
theorem lBL_119 : Cond.methodLink "BatchLinks" 119 (mTh_takeFrom).1 ∈ ev_T := ev_at 290 (by decide +kernel) (by decide +kernel)
theorem lBL_123 : Cond.methodLink "BatchLinks" 123 (mLa_sizeOf).1 ∈ ev_T := ev_at 315 (by decide +kernel) (by decide +kernel)
theorem lBL_129 : Cond.methodLink "BatchLinks" 129 (mLa_dropFront).1 ∈ ev_T := ev_at 321 (by decide +kernel) (by decide +kernel)
theorem lBL_136 : Cond.methodLink "BatchLinks" 136 (mBL_findHaul).1 ∈ ev_T := ev_at 330 (by decide +kernel) (by decide +kernel)
theorem lBL_139 : Cond.methodLink "BatchLinks" 139 (mLa_total).1 ∈ ev_T := ev_at 334 (by decide +kernel) (by decide +kernel)
theorem lBL_143 : Cond.methodLink "BatchLinks" 143 (mLa_clear).1 ∈ ev_T := ev_at 335 (by decide +kernel) (by decide +kernel)
theorem lBL_146 : Cond.methodLink "BatchLinks" 146 (mTh_fact).1 ∈ ev_T := ev_at 343 (by decide +kernel) (by decide +kernel)
theorem lBL_150 : Cond.methodLink "BatchLinks" 150 (mLa_haulAt).1 ∈ ev_T := ev_at 357 (by decide +kernel) (by decide +kernel)
theorem lBL_154 : Cond.methodLink "BatchLinks" 154 (mLa_gramsAt).1 ∈ ev_T := ev_at 358 (by decide +kernel) (by decide +kernel)
theorem lBL_157 : Cond.methodLink "BatchLinks" 157 (mLa_gramsOf).1 ∈ ev_T := ev_at 367 (by decide +kernel) (by decide +kernel)
theorem lBL_160 : Cond.methodLink "BatchLinks" 160 (mBL_greatestDivisor).1 ∈ ev_T := ev_at 371 (by decide +kernel) (by decide +kernel)
theorem lBL_164 : Cond.methodLink "BatchLinks" 164 (mTa_clear).1 ∈ ev_T := ev_at 378 (by decide +kernel) (by decide +kernel)
theorem lBL_165 : Cond.methodLink "BatchLinks" 165 (mLa_size).1 ∈ ev_T := ev_at 382 (by decide +kernel) (by decide +kernel)
theorem lBL_169 : Cond.methodLink "BatchLinks" 169 (mTa_count).1 ∈ ev_T := ev_at 383 (by decide +kernel) (by decide +kernel)
theorem lBL_172 : Cond.methodLink "BatchLinks" 172 (mTa_pick).1 ∈ ev_T := ev_at 387 (by decide +kernel) (by decide +kernel)
theorem lBL_175 : Cond.methodLink "BatchLinks" 175 (mBL_countBoxesWith).1 ∈ ev_T := ev_at 395 (by decide +kernel) (by decide +kernel)
theorem lBL_178 : Cond.methodLink "BatchLinks" 178 (mTa_countedAtLeast).1 ∈ ev_T := ev_at 399 (by decide +kernel) (by decide +kernel)
theorem lBL_181 : Cond.methodLink "BatchLinks" 181 (mBy_put).1 ∈ ev_T := ev_at 415 (by decide +kernel) (by decide +kernel)
theorem lBL_185 : Cond.methodLink "BatchLinks" 185 (mNa_read).1 ∈ ev_T := ev_at 423 (by decide +kernel) (by decide +kernel)
theorem lBL_189 : Cond.methodLink "BatchLinks" 189 (mBy_clear).1 ∈ ev_T := ev_at 477 (by decide +kernel) (by decide +kernel)
theorem lBL_190 : Cond.methodLink "BatchLinks" 190 (mRu_size).1 ∈ ev_T := ev_at 481 (by decide +kernel) (by decide +kernel)
theorem lBL_191 : Cond.methodLink "BatchLinks" 191 (mRu_inForce).1 ∈ ev_T := ev_at 489 (by decide +kernel) (by decide +kernel)
theorem lBL_198 : Cond.methodLink "BatchLinks" 198 (mRu_allows).1 ∈ ev_T := ev_at 493 (by decide +kernel) (by decide +kernel)
theorem lBL_201 : Cond.methodLink "BatchLinks" 201 (mLe_open).1 ∈ ev_T := ev_at 501 (by decide +kernel) (by decide +kernel)
theorem lBL_204 : Cond.methodLink "BatchLinks" 204 (mBL_canEnter).1 ∈ ev_T := ev_at 509 (by decide +kernel) (by decide +kernel)
theorem lBL_208 : Cond.methodLink "BatchLinks" 208 (mLe_enter).1 ∈ ev_T := ev_at 521 (by decide +kernel) (by decide +kernel)
theorem lBL_212 : Cond.methodLink "BatchLinks" 212 (mLe_isOver).1 ∈ ev_T := ev_at 530 (by decide +kernel) (by decide +kernel)
theorem lBL_215 : Cond.methodLink "BatchLinks" 215 (mLe_covers).1 ∈ ev_T := ev_at 535 (by decide +kernel) (by decide +kernel)
theorem lBL_218 : Cond.methodLink "BatchLinks" 218 (mLe_has).1 ∈ ev_T := ev_at 513 (by decide +kernel) (by decide +kernel)
theorem lBL_221 : Cond.methodLink "BatchLinks" 221 (mLe_sumUpTo).1 ∈ ev_T := ev_at 547 (by decide +kernel) (by decide +kernel)
theorem lBL_228 : Cond.methodLink "BatchLinks" 228 Lib.Math.max.name ∈ ev_T := ev_at 552 (by decide +kernel) (by decide +kernel)
theorem lBL_233 : Cond.methodLink "BatchLinks" 233 (mBy_putNumber).1 ∈ ev_T := ev_at 557 (by decide +kernel) (by decide +kernel)
theorem lBL_236 : Cond.methodLink "BatchLinks" 236 (mBy_byteAt).1 ∈ ev_T := ev_at 565 (by decide +kernel) (by decide +kernel)
theorem lBL_239 : Cond.methodLink "BatchLinks" 239 (mBL_sumOfFact).1 ∈ ev_T := ev_at 570 (by decide +kernel) (by decide +kernel)
theorem lBL_242 : Cond.methodLink "BatchLinks" 242 (mBL_sumInside).1 ∈ ev_T := ev_at 574 (by decide +kernel) (by decide +kernel)
theorem lBL_245 : Cond.methodLink "BatchLinks" 245 (mLe_size).1 ∈ ev_T := ev_at 578 (by decide +kernel) (by decide +kernel)
theorem lBL_248 : Cond.methodLink "BatchLinks" 248 (mLe_isFull).1 ∈ ev_T := ev_at 517 (by decide +kernel) (by decide +kernel)
theorem lBy_3 : Cond.methodLink "BatchLinks$Bytes" 3 Lib.objectInit ∈ ev_T := ev_at 75 (by decide +kernel) (by decide +kernel)
theorem lBy_9 : Cond.methodLink "BatchLinks$Bytes" 9 Lib.Math.max.name ∈ ev_T := ev_at 76 (by decide +kernel) (by decide +kernel)
theorem lBy_25 : Cond.methodLink "BatchLinks$Bytes" 25 (mBy_digitsOf).1 ∈ ev_T := ev_at 561 (by decide +kernel) (by decide +kernel)
theorem lLa_3 : Cond.methodLink "BatchLinks$Layers" 3 Lib.objectInit ∈ ev_T := ev_at 207 (by decide +kernel) (by decide +kernel)
theorem lLa_25 : Cond.methodLink "BatchLinks$Layers" 25 (mLa_total).1 ∈ ev_T := ev_at 274 (by decide +kernel) (by decide +kernel)
theorem lLa_29 : Cond.methodLink "BatchLinks$Layers" 29 (mLa_sizeOf).1 ∈ ev_T := ev_at 282 (by decide +kernel) (by decide +kernel)
theorem lLa_33 : Cond.methodLink "BatchLinks$Layers" 33 (mLa_haulAt).1 ∈ ev_T := ev_at 286 (by decide +kernel) (by decide +kernel)
theorem lLa_37 : Cond.methodLink "BatchLinks$Layers" 37 Lib.MathLoose.min_long.x ∈ ev_T := ev_at 298 (by decide +kernel) (by decide +kernel)
theorem lLa_43 : Cond.methodLink "BatchLinks$Layers" 43 (mLa_append).1 ∈ ev_T := ev_at 301 (by decide +kernel) (by decide +kernel)
theorem lLa_47 : Cond.methodLink "BatchLinks$Layers" 47 (mLa_dropLayers).1 ∈ ev_T := ev_at 306 (by decide +kernel) (by decide +kernel)
theorem lLe_3 : Cond.methodLink "BatchLinks$Ledger" 3 Lib.objectInit ∈ ev_T := ev_at 129 (by decide +kernel) (by decide +kernel)
theorem lLe_32 : Cond.methodLink "BatchLinks$Ledger" 32 (mLe_has).1 ∈ ev_T := ev_at 534 (by decide +kernel) (by decide +kernel)
theorem lLe_36 : Cond.methodLink "BatchLinks$Ledger" 36 (mLe_isFull).1 ∈ ev_T := ev_at 525 (by decide +kernel) (by decide +kernel)
theorem lLe_40 : Cond.methodLink "BatchLinks$Ledger" 40 (mLe_sumUpTo).1 ∈ ev_T := ev_at 539 (by decide +kernel) (by decide +kernel)
theorem lNa_3 : Cond.methodLink "BatchLinks$NamesReader" 3 Lib.objectInit ∈ ev_T := ev_at 91 (by decide +kernel) (by decide +kernel)
theorem lNa_22 : Cond.methodLink "BatchLinks$NamesReader" 22 (mRu_clear).1 ∈ ev_T := ev_at 427 (by decide +kernel) (by decide +kernel)
theorem lNa_27 : Cond.methodLink "BatchLinks$NamesReader" 27 (mNa_skipBlanks).1 ∈ ev_T := ev_at 431 (by decide +kernel) (by decide +kernel)
theorem lNa_30 : Cond.methodLink "BatchLinks$NamesReader" 30 (mBy_size).1 ∈ ev_T := ev_at 443 (by decide +kernel) (by decide +kernel)
theorem lNa_36 : Cond.methodLink "BatchLinks$NamesReader" 36 (mNa_readRule).1 ∈ ev_T := ev_at 447 (by decide +kernel) (by decide +kernel)
theorem lNa_40 : Cond.methodLink "BatchLinks$NamesReader" 40 (mRu_isFull).1 ∈ ev_T := ev_at 451 (by decide +kernel) (by decide +kernel)
theorem lNa_44 : Cond.methodLink "BatchLinks$NamesReader" 44 (mNa_readNumber).1 ∈ ev_T := ev_at 455 (by decide +kernel) (by decide +kernel)
theorem lNa_48 : Cond.methodLink "BatchLinks$NamesReader" 48 (mNa_readSign).1 ∈ ev_T := ev_at 467 (by decide +kernel) (by decide +kernel)
theorem lNa_53 : Cond.methodLink "BatchLinks$NamesReader" 53 (mRu_add).1 ∈ ev_T := ev_at 472 (by decide +kernel) (by decide +kernel)
theorem lNa_57 : Cond.methodLink "BatchLinks$NamesReader" 57 (mNa_isDigit).1 ∈ ev_T := ev_at 459 (by decide +kernel) (by decide +kernel)
theorem lNa_60 : Cond.methodLink "BatchLinks$NamesReader" 60 (mBy_byteAt).1 ∈ ev_T := ev_at 439 (by decide +kernel) (by decide +kernel)
theorem lNa_64 : Cond.methodLink "BatchLinks$NamesReader" 64 (mNa_fail).1 ∈ ev_T := ev_at 463 (by decide +kernel) (by decide +kernel)
theorem lNa_68 : Cond.methodLink "BatchLinks$NamesReader" 68 (mNa_isBlank).1 ∈ ev_T := ev_at 435 (by decide +kernel) (by decide +kernel)
theorem lRu_3 : Cond.methodLink "BatchLinks$Rules" 3 Lib.objectInit ∈ ev_T := ev_at 107 (by decide +kernel) (by decide +kernel)
theorem lRu_28 : Cond.methodLink "BatchLinks$Rules" 28 (mRu_isFull).1 ∈ ev_T := ev_at 476 (by decide +kernel) (by decide +kernel)
theorem lTa_3 : Cond.methodLink "BatchLinks$Tally" 3 Lib.objectInit ∈ ev_T := ev_at 64 (by decide +kernel) (by decide +kernel)
theorem lTh_3 : Cond.methodLink "BatchLinks$Thing" 3 Lib.objectInit ∈ ev_T := ev_at 201 (by decide +kernel) (by decide +kernel)
theorem lTh_23 : ("BatchLinks$Thing", 23, (mLa_init).1, "BatchLinks") ∈ ev_nm := by decide +kernel
theorem lTh_28 : Cond.methodLink "BatchLinks$Thing" 28 (mLa_appendFront).1 ∈ ev_T := ev_at 294 (by decide +kernel) (by decide +kernel)
theorem lTh_32 : Cond.methodLink "BatchLinks$Thing" 32 (mLa_dropFront).1 ∈ ev_T := ev_at 302 (by decide +kernel) (by decide +kernel)
theorem lTh_39 : Cond.methodLink "BatchLinks$Thing" 39 Lib.Math.max.name ∈ ev_T := ev_at 310 (by decide +kernel) (by decide +kernel)
theorem lTh_45 : Cond.methodLink "BatchLinks$Thing" 45 (mLa_total).1 ∈ ev_T := ev_at 347 (by decide +kernel) (by decide +kernel)
theorem lTh_49 : Cond.methodLink "BatchLinks$Thing" 49 (mLa_size).1 ∈ ev_T := ev_at 348 (by decide +kernel) (by decide +kernel)
theorem lLw_9 : Cond.methodLink "BatchLinksLaw" 9 (mBL_init).1 ∈ ev_T := ev_at 51 (by decide +kernel) (by decide +kernel)
theorem lLw_12 : Cond.methodLink "BatchLinksLaw" 12 (mMo_init).1 ∈ ev_T := ev_at 584 (by decide +kernel) (by decide +kernel)
theorem lLw_15 : Cond.methodLink "BatchLinksLaw" 15 (mBL_haul).1 ∈ ev_T := ev_at 181 (by decide +kernel) (by decide +kernel)
theorem lLw_19 : Cond.methodLink "BatchLinksLaw" 19 (mMo_haul).1 ∈ ev_T := ev_at 698 (by decide +kernel) (by decide +kernel)
theorem lLw_20 : Cond.methodLink "BatchLinksLaw" 20 (mBL_batch).1 ∈ ev_T := ev_at 258 (by decide +kernel) (by decide +kernel)
theorem lLw_24 : Cond.methodLink "BatchLinksLaw" 24 (mMo_batch).1 ∈ ev_T := ev_at 708 (by decide +kernel) (by decide +kernel)
theorem lLw_25 : Cond.methodLink "BatchLinksLaw" 25 (mBL_into).1 ∈ ev_T := ev_at 262 (by decide +kernel) (by decide +kernel)
theorem lLw_29 : Cond.methodLink "BatchLinksLaw" 29 (mMo_into).1 ∈ ev_T := ev_at 712 (by decide +kernel) (by decide +kernel)
theorem lLw_30 : Cond.methodLink "BatchLinksLaw" 30 (mBL_box).1 ∈ ev_T := ev_at 311 (by decide +kernel) (by decide +kernel)
theorem lLw_34 : Cond.methodLink "BatchLinksLaw" 34 (mMo_box).1 ∈ ev_T := ev_at 752 (by decide +kernel) (by decide +kernel)
theorem lLw_35 : Cond.methodLink "BatchLinksLaw" 35 (mBL_waste).1 ∈ ev_T := ev_at 316 (by decide +kernel) (by decide +kernel)
theorem lLw_39 : Cond.methodLink "BatchLinksLaw" 39 (mMo_waste).1 ∈ ev_T := ev_at 756 (by decide +kernel) (by decide +kernel)
theorem lLw_40 : Cond.methodLink "BatchLinksLaw" 40 (mBL_hold).1 ∈ ev_T := ev_at 322 (by decide +kernel) (by decide +kernel)
theorem lLw_44 : Cond.methodLink "BatchLinksLaw" 44 (mMo_hold).1 ∈ ev_T := ev_at 761 (by decide +kernel) (by decide +kernel)
theorem lLw_45 : Cond.methodLink "BatchLinksLaw" 45 (mBL_correct).1 ∈ ev_T := ev_at 326 (by decide +kernel) (by decide +kernel)
theorem lLw_49 : Cond.methodLink "BatchLinksLaw" 49 (mMo_correct).1 ∈ ev_T := ev_at 765 (by decide +kernel) (by decide +kernel)
theorem lLw_50 : Cond.methodLink "BatchLinksLaw" 50 (mBL_told).1 ∈ ev_T := ev_at 339 (by decide +kernel) (by decide +kernel)
theorem lLw_54 : Cond.methodLink "BatchLinksLaw" 54 (mMo_told).1 ∈ ev_T := ev_at 769 (by decide +kernel) (by decide +kernel)
theorem lLw_55 : Cond.methodLink "BatchLinksLaw" 55 (mBL_layer).1 ∈ ev_T := ev_at 353 (by decide +kernel) (by decide +kernel)
theorem lLw_59 : Cond.methodLink "BatchLinksLaw" 59 (mMo_layer).1 ∈ ev_T := ev_at 773 (by decide +kernel) (by decide +kernel)
theorem lLw_60 : Cond.methodLink "BatchLinksLaw" 60 (mBL_share).1 ∈ ev_T := ev_at 363 (by decide +kernel) (by decide +kernel)
theorem lLw_63 : Cond.methodLink "BatchLinksLaw" 63 (mMo_share).1 ∈ ev_T := ev_at 777 (by decide +kernel) (by decide +kernel)
theorem lLw_64 : Cond.methodLink "BatchLinksLaw" 64 (mBL_back).1 ∈ ev_T := ev_at 374 (by decide +kernel) (by decide +kernel)
theorem lLw_68 : Cond.methodLink "BatchLinksLaw" 68 (mMo_back).1 ∈ ev_T := ev_at 785 (by decide +kernel) (by decide +kernel)
theorem lLw_69 : Cond.methodLink "BatchLinksLaw" 69 (mBL_recall).1 ∈ ev_T := ev_at 391 (by decide +kernel) (by decide +kernel)
theorem lLw_73 : Cond.methodLink "BatchLinksLaw" 73 (mMo_recall).1 ∈ ev_T := ev_at 789 (by decide +kernel) (by decide +kernel)
theorem lLw_74 : Cond.methodLink "BatchLinksLaw" 74 (mBL_recalled).1 ∈ ev_T := ev_at 403 (by decide +kernel) (by decide +kernel)
theorem lLw_77 : Cond.methodLink "BatchLinksLaw" 77 (mMo_recalled).1 ∈ ev_T := ev_at 797 (by decide +kernel) (by decide +kernel)
theorem lLw_78 : Cond.methodLink "BatchLinksLaw" 78 (mBL_doubled).1 ∈ ev_T := ev_at 407 (by decide +kernel) (by decide +kernel)
theorem lLw_81 : Cond.methodLink "BatchLinksLaw" 81 (mMo_doubled).1 ∈ ev_T := ev_at 801 (by decide +kernel) (by decide +kernel)
theorem lLw_82 : Cond.methodLink "BatchLinksLaw" 82 (mBL_unit).1 ∈ ev_T := ev_at 411 (by decide +kernel) (by decide +kernel)
theorem lLw_86 : Cond.methodLink "BatchLinksLaw" 86 (mMo_unit).1 ∈ ev_T := ev_at 805 (by decide +kernel) (by decide +kernel)
theorem lLw_87 : Cond.methodLink "BatchLinksLaw" 87 (mBL_names).1 ∈ ev_T := ev_at 419 (by decide +kernel) (by decide +kernel)
theorem lLw_90 : Cond.methodLink "BatchLinksLaw" 90 (mMo_names).1 ∈ ev_T := ev_at 809 (by decide +kernel) (by decide +kernel)
theorem lLw_91 : Cond.methodLink "BatchLinksLaw" 91 (mBL_name).1 ∈ ev_T := ev_at 485 (by decide +kernel) (by decide +kernel)
theorem lLw_95 : Cond.methodLink "BatchLinksLaw" 95 (mMo_name).1 ∈ ev_T := ev_at 831 (by decide +kernel) (by decide +kernel)
theorem lLw_96 : Cond.methodLink "BatchLinksLaw" 96 (mBL_certificate).1 ∈ ev_T := ev_at 497 (by decide +kernel) (by decide +kernel)
theorem lLw_99 : Cond.methodLink "BatchLinksLaw" 99 (mMo_certificate).1 ∈ ev_T := ev_at 835 (by decide +kernel) (by decide +kernel)
theorem lLw_100 : Cond.methodLink "BatchLinksLaw" 100 (mBL_credit).1 ∈ ev_T := ev_at 505 (by decide +kernel) (by decide +kernel)
theorem lLw_104 : Cond.methodLink "BatchLinksLaw" 104 (mMo_credit).1 ∈ ev_T := ev_at 839 (by decide +kernel) (by decide +kernel)
theorem lLw_105 : Cond.methodLink "BatchLinksLaw" 105 (mBL_claim).1 ∈ ev_T := ev_at 526 (by decide +kernel) (by decide +kernel)
theorem lLw_108 : Cond.methodLink "BatchLinksLaw" 108 (mMo_claim).1 ∈ ev_T := ev_at 851 (by decide +kernel) (by decide +kernel)
theorem lLw_109 : Cond.methodLink "BatchLinksLaw" 109 (mBL_balance).1 ∈ ev_T := ev_at 543 (by decide +kernel) (by decide +kernel)
theorem lLw_112 : Cond.methodLink "BatchLinksLaw" 112 (mMo_balance).1 ∈ ev_T := ev_at 859 (by decide +kernel) (by decide +kernel)
theorem lLw_113 : Cond.methodLink "BatchLinksLaw" 113 (mBL_warm).1 ∈ ev_T := ev_at 548 (by decide +kernel) (by decide +kernel)
theorem lLw_117 : Cond.methodLink "BatchLinksLaw" 117 (mMo_warm).1 ∈ ev_T := ev_at 863 (by decide +kernel) (by decide +kernel)
theorem lLw_118 : Cond.methodLink "BatchLinksLaw" 118 (mBL_paper).1 ∈ ev_T := ev_at 553 (by decide +kernel) (by decide +kernel)
theorem lLw_122 : Cond.methodLink "BatchLinksLaw" 122 (mMo_paper).1 ∈ ev_T := ev_at 867 (by decide +kernel) (by decide +kernel)
theorem lLw_123 : Cond.methodLink "BatchLinksLaw" 123 (mBL_all).1 ∈ ev_T := ev_at 566 (by decide +kernel) (by decide +kernel)
theorem lLw_127 : Cond.methodLink "BatchLinksLaw" 127 (mMo_all).1 ∈ ev_T := ev_at 881 (by decide +kernel) (by decide +kernel)
theorem lMo_1 : Cond.methodLink "BatchLinksModel" 1 Lib.objectInit ∈ ev_T := ev_at 587 (by decide +kernel) (by decide +kernel)
theorem lMo_94 : Cond.methodLink "BatchLinksModel" 94 (mMo_isThing).1 ∈ ev_T := ev_at 720 (by decide +kernel) (by decide +kernel)
theorem lMo_101 : Cond.methodLink "BatchLinksModel" 101 (mMo_make).1 ∈ ev_T := ev_at 704 (by decide +kernel) (by decide +kernel)
theorem lMo_108 : Cond.methodLink "BatchLinksModel" 108 (mMo_lay).1 ∈ ev_T := ev_at 740 (by decide +kernel) (by decide +kernel)
theorem lMo_112 : Cond.methodLink "BatchLinksModel" 112 (mMo_gramsIn).1 ∈ ev_T := ev_at 732 (by decide +kernel) (by decide +kernel)
theorem lMo_116 : Cond.methodLink "BatchLinksModel" 116 (mMo_isOf).1 ∈ ev_T := ev_at 716 (by decide +kernel) (by decide +kernel)
theorem lMo_120 : Cond.methodLink "BatchLinksModel" 120 (mMo_isSource).1 ∈ ev_T := ev_at 724 (by decide +kernel) (by decide +kernel)
theorem lMo_123 : Cond.methodLink "BatchLinksModel" 123 (mMo_has).1 ∈ ev_T := ev_at 728 (by decide +kernel) (by decide +kernel)
theorem lMo_127 : Cond.methodLink "BatchLinksModel" 127 (mMo_layBy).1 ∈ ev_T := ev_at 736 (by decide +kernel) (by decide +kernel)
theorem lMo_131 : Cond.methodLink "BatchLinksModel" 131 (mMo_putDown).1 ∈ ev_T := ev_at 744 (by decide +kernel) (by decide +kernel)
theorem lMo_135 : Cond.methodLink "BatchLinksModel" 135 (mMo_takeOut).1 ∈ ev_T := ev_at 748 (by decide +kernel) (by decide +kernel)
theorem lMo_140 : Cond.methodLink "BatchLinksModel" 140 (mMo_gramsFrom).1 ∈ ev_T := ev_at 781 (by decide +kernel) (by decide +kernel)
theorem lMo_144 : Cond.methodLink "BatchLinksModel" 144 (mMo_boxesOf).1 ∈ ev_T := ev_at 793 (by decide +kernel) (by decide +kernel)
theorem lMo_157 : Cond.methodLink "BatchLinksModel" 157 (mMo_skip).1 ∈ ev_T := ev_at 813 (by decide +kernel) (by decide +kernel)
theorem lMo_161 : Cond.methodLink "BatchLinksModel" 161 (mMo_isDigit).1 ∈ ev_T := ev_at 822 (by decide +kernel) (by decide +kernel)
theorem lMo_168 : Cond.methodLink "BatchLinksModel" 168 (mMo_number).1 ∈ ev_T := ev_at 818 (by decide +kernel) (by decide +kernel)
theorem lMo_171 : Cond.methodLink "BatchLinksModel" 171 (mMo_sign).1 ∈ ev_T := ev_at 826 (by decide +kernel) (by decide +kernel)
theorem lMo_184 : Cond.methodLink "BatchLinksModel" 184 (mMo_mayAct).1 ∈ ev_T := ev_at 843 (by decide +kernel) (by decide +kernel)
theorem lMo_188 : Cond.methodLink "BatchLinksModel" 188 (mMo_act).1 ∈ ev_T := ev_at 847 (by decide +kernel) (by decide +kernel)
theorem lMo_192 : Cond.methodLink "BatchLinksModel" 192 (mMo_balanceOf).1 ∈ ev_T := ev_at 855 (by decide +kernel) (by decide +kernel)
theorem lMo_202 : Cond.methodLink "BatchLinksModel" 202 (mMo_write).1 ∈ ev_T := ev_at 877 (by decide +kernel) (by decide +kernel)
theorem lMo_205 : Cond.methodLink "BatchLinksModel" 205 (mMo_writeNumber).1 ∈ ev_T := ev_at 871 (by decide +kernel) (by decide +kernel)
theorem lMo_209 : Cond.methodLink "BatchLinksModel" 209 (mMo_allIn).1 ∈ ev_T := ev_at 885 (by decide +kernel) (by decide +kernel)
end
section
theorem dTa_init_0 : decode mTa_init.2.1 0 = .ok (.aload_n 0, 1) := by decide +kernel
theorem dTa_init_1 : decode mTa_init.2.1 1 = .ok (.invokespecial 3, 3) := by decide +kernel
theorem dTa_init_4 : decode mTa_init.2.1 4 = .ok (.aload_n 0, 1) := by decide +kernel
theorem dTa_init_5 : decode mTa_init.2.1 5 = .ok (.bipush 100, 2) := by decide +kernel
theorem dTa_init_7 : decode mTa_init.2.1 7 = .ok (.newarray .int, 2) := by decide +kernel
theorem dTa_init_9 : decode mTa_init.2.1 9 = .ok (.putfield 11, 3) := by decide +kernel
theorem dTa_init_12 : decode mTa_init.2.1 12 = .ok (.return_, 1) := by decide +kernel
theorem dBy_init_0 : decode mBy_init.2.1 0 = .ok (.aload_n 0, 1) := by decide +kernel
theorem dBy_init_1 : decode mBy_init.2.1 1 = .ok (.invokespecial 3, 3) := by decide +kernel
theorem dBy_init_4 : decode mBy_init.2.1 4 = .ok (.aload_n 0, 1) := by decide +kernel
theorem dBy_init_5 : decode mBy_init.2.1 5 = .ok (.iload_n 1, 1) := by decide +kernel
theorem dBy_init_6 : decode mBy_init.2.1 6 = .ok (.iconst 0, 1) := by decide +kernel
theorem dBy_init_7 : decode mBy_init.2.1 7 = .ok (.invokestatic 9, 3) := by decide +kernel
theorem dBy_init_10 : decode mBy_init.2.1 10 = .ok (.newarray .int, 2) := by decide +kernel
theorem dBy_init_12 : decode mBy_init.2.1 12 = .ok (.putfield 15, 3) := by decide +kernel
theorem dBy_init_15 : decode mBy_init.2.1 15 = .ok (.return_, 1) := by decide +kernel
theorem dNa_init_0 : decode mNa_init.2.1 0 = .ok (.aload_n 0, 1) := by decide +kernel
theorem dNa_init_1 : decode mNa_init.2.1 1 = .ok (.invokespecial 3, 3) := by decide +kernel
theorem dNa_init_4 : decode mNa_init.2.1 4 = .ok (.aload_n 0, 1) := by decide +kernel
theorem dNa_init_5 : decode mNa_init.2.1 5 = .ok (.aload_n 1, 1) := by decide +kernel
theorem dNa_init_6 : decode mNa_init.2.1 6 = .ok (.putfield 9, 3) := by decide +kernel
theorem dNa_init_9 : decode mNa_init.2.1 9 = .ok (.return_, 1) := by decide +kernel
theorem dRu_init_0 : decode mRu_init.2.1 0 = .ok (.aload_n 0, 1) := by decide +kernel
theorem dRu_init_1 : decode mRu_init.2.1 1 = .ok (.invokespecial 3, 3) := by decide +kernel
theorem dRu_init_4 : decode mRu_init.2.1 4 = .ok (.aload_n 0, 1) := by decide +kernel
theorem dRu_init_5 : decode mRu_init.2.1 5 = .ok (.bipush 40, 2) := by decide +kernel
theorem dRu_init_7 : decode mRu_init.2.1 7 = .ok (.newarray .int, 2) := by decide +kernel
theorem dRu_init_9 : decode mRu_init.2.1 9 = .ok (.putfield 11, 3) := by decide +kernel
theorem dRu_init_12 : decode mRu_init.2.1 12 = .ok (.aload_n 0, 1) := by decide +kernel
theorem dRu_init_13 : decode mRu_init.2.1 13 = .ok (.bipush 40, 2) := by decide +kernel
theorem dRu_init_15 : decode mRu_init.2.1 15 = .ok (.newarray .int, 2) := by decide +kernel
theorem dRu_init_17 : decode mRu_init.2.1 17 = .ok (.putfield 15, 3) := by decide +kernel
theorem dRu_init_20 : decode mRu_init.2.1 20 = .ok (.aload_n 0, 1) := by decide +kernel
theorem dRu_init_21 : decode mRu_init.2.1 21 = .ok (.bipush 40, 2) := by decide +kernel
theorem dRu_init_23 : decode mRu_init.2.1 23 = .ok (.newarray .int, 2) := by decide +kernel
theorem dRu_init_25 : decode mRu_init.2.1 25 = .ok (.putfield 18, 3) := by decide +kernel
theorem dRu_init_28 : decode mRu_init.2.1 28 = .ok (.aload_n 0, 1) := by decide +kernel
theorem dRu_init_29 : decode mRu_init.2.1 29 = .ok (.bipush 40, 2) := by decide +kernel
theorem dRu_init_31 : decode mRu_init.2.1 31 = .ok (.newarray .int, 2) := by decide +kernel
theorem dRu_init_33 : decode mRu_init.2.1 33 = .ok (.putfield 21, 3) := by decide +kernel
theorem dRu_init_36 : decode mRu_init.2.1 36 = .ok (.return_, 1) := by decide +kernel
theorem dLe_init_0 : decode mLe_init.2.1 0 = .ok (.aload_n 0, 1) := by decide +kernel
theorem dLe_init_1 : decode mLe_init.2.1 1 = .ok (.invokespecial 3, 3) := by decide +kernel
theorem dLe_init_4 : decode mLe_init.2.1 4 = .ok (.aload_n 0, 1) := by decide +kernel
theorem dLe_init_5 : decode mLe_init.2.1 5 = .ok (.bipush 10, 2) := by decide +kernel
theorem dLe_init_7 : decode mLe_init.2.1 7 = .ok (.newarray .int, 2) := by decide +kernel
theorem dLe_init_9 : decode mLe_init.2.1 9 = .ok (.putfield 11, 3) := by decide +kernel
theorem dLe_init_12 : decode mLe_init.2.1 12 = .ok (.aload_n 0, 1) := by decide +kernel
theorem dLe_init_13 : decode mLe_init.2.1 13 = .ok (.bipush 100, 2) := by decide +kernel
theorem dLe_init_15 : decode mLe_init.2.1 15 = .ok (.newarray .int, 2) := by decide +kernel
theorem dLe_init_17 : decode mLe_init.2.1 17 = .ok (.putfield 15, 3) := by decide +kernel
theorem dLe_init_20 : decode mLe_init.2.1 20 = .ok (.aload_n 0, 1) := by decide +kernel
theorem dLe_init_21 : decode mLe_init.2.1 21 = .ok (.bipush 100, 2) := by decide +kernel
theorem dLe_init_23 : decode mLe_init.2.1 23 = .ok (.newarray .int, 2) := by decide +kernel
theorem dLe_init_25 : decode mLe_init.2.1 25 = .ok (.putfield 18, 3) := by decide +kernel
theorem dLe_init_28 : decode mLe_init.2.1 28 = .ok (.aload_n 0, 1) := by decide +kernel
theorem dLe_init_29 : decode mLe_init.2.1 29 = .ok (.bipush 100, 2) := by decide +kernel
theorem dLe_init_31 : decode mLe_init.2.1 31 = .ok (.newarray .long, 2) := by decide +kernel
theorem dLe_init_33 : decode mLe_init.2.1 33 = .ok (.putfield 21, 3) := by decide +kernel
theorem dLe_init_36 : decode mLe_init.2.1 36 = .ok (.return_, 1) := by decide +kernel
theorem dTh_init_0 : decode mTh_init.2.1 0 = .ok (.aload_n 0, 1) := by decide +kernel
theorem dTh_init_1 : decode mTh_init.2.1 1 = .ok (.invokespecial 3, 3) := by decide +kernel
theorem dTh_init_4 : decode mTh_init.2.1 4 = .ok (.aload_n 0, 1) := by decide +kernel
theorem dTh_init_5 : decode mTh_init.2.1 5 = .ok (.iload_n 1, 1) := by decide +kernel
theorem dTh_init_6 : decode mTh_init.2.1 6 = .ok (.putfield 9, 3) := by decide +kernel
theorem dTh_init_9 : decode mTh_init.2.1 9 = .ok (.aload_n 0, 1) := by decide +kernel
theorem dTh_init_10 : decode mTh_init.2.1 10 = .ok (.iload_n 2, 1) := by decide +kernel
theorem dTh_init_11 : decode mTh_init.2.1 11 = .ok (.putfield 15, 3) := by decide +kernel
theorem dTh_init_14 : decode mTh_init.2.1 14 = .ok (.aload_n 0, 1) := by decide +kernel
theorem dTh_init_15 : decode mTh_init.2.1 15 = .ok (.iload_n 3, 1) := by decide +kernel
theorem dTh_init_16 : decode mTh_init.2.1 16 = .ok (.putfield 18, 3) := by decide +kernel
theorem dTh_init_19 : decode mTh_init.2.1 19 = .ok (.aload_n 0, 1) := by decide +kernel
theorem dTh_init_20 : decode mTh_init.2.1 20 = .ok (.new 21, 3) := by decide +kernel
theorem dTh_init_23 : decode mTh_init.2.1 23 = .ok (.dup, 1) := by decide +kernel
theorem dTh_init_24 : decode mTh_init.2.1 24 = .ok (.invokespecial 23, 3) := by decide +kernel
theorem dTh_init_27 : decode mTh_init.2.1 27 = .ok (.putfield 24, 3) := by decide +kernel
theorem dTh_init_30 : decode mTh_init.2.1 30 = .ok (.return_, 1) := by decide +kernel
theorem dLa_init_0 : decode mLa_init.2.1 0 = .ok (.aload_n 0, 1) := by decide +kernel
theorem dLa_init_1 : decode mLa_init.2.1 1 = .ok (.invokespecial 3, 3) := by decide +kernel
theorem dLa_init_4 : decode mLa_init.2.1 4 = .ok (.aload_n 0, 1) := by decide +kernel
theorem dLa_init_5 : decode mLa_init.2.1 5 = .ok (.bipush 80, 2) := by decide +kernel
theorem dLa_init_7 : decode mLa_init.2.1 7 = .ok (.newarray .int, 2) := by decide +kernel
theorem dLa_init_9 : decode mLa_init.2.1 9 = .ok (.putfield 9, 3) := by decide +kernel
theorem dLa_init_12 : decode mLa_init.2.1 12 = .ok (.aload_n 0, 1) := by decide +kernel
theorem dLa_init_13 : decode mLa_init.2.1 13 = .ok (.bipush 80, 2) := by decide +kernel
theorem dLa_init_15 : decode mLa_init.2.1 15 = .ok (.newarray .long, 2) := by decide +kernel
theorem dLa_init_17 : decode mLa_init.2.1 17 = .ok (.putfield 15, 3) := by decide +kernel
theorem dLa_init_20 : decode mLa_init.2.1 20 = .ok (.return_, 1) := by decide +kernel
theorem dLa_append_0 : decode mLa_append.2.1 0 = .ok (.aload_n 0, 1) := by decide +kernel
theorem dLa_append_1 : decode mLa_append.2.1 1 = .ok (.getfield 19, 3) := by decide +kernel
theorem dLa_append_4 : decode mLa_append.2.1 4 = .ok (.ifCond .le 36, 3) := by decide +kernel
theorem dLa_append_7 : decode mLa_append.2.1 7 = .ok (.aload_n 0, 1) := by decide +kernel
theorem dLa_append_8 : decode mLa_append.2.1 8 = .ok (.getfield 9, 3) := by decide +kernel
theorem dLa_append_11 : decode mLa_append.2.1 11 = .ok (.aload_n 0, 1) := by decide +kernel
theorem dLa_append_12 : decode mLa_append.2.1 12 = .ok (.getfield 19, 3) := by decide +kernel
theorem dLa_append_15 : decode mLa_append.2.1 15 = .ok (.iconst 1, 1) := by decide +kernel
theorem dLa_append_16 : decode mLa_append.2.1 16 = .ok (.isub, 1) := by decide +kernel
theorem dLa_append_17 : decode mLa_append.2.1 17 = .ok (.iaload, 1) := by decide +kernel
theorem dLa_append_18 : decode mLa_append.2.1 18 = .ok (.iload_n 1, 1) := by decide +kernel
theorem dLa_append_19 : decode mLa_append.2.1 19 = .ok (.if_icmp .ne 21, 3) := by decide +kernel
theorem dLa_append_22 : decode mLa_append.2.1 22 = .ok (.aload_n 0, 1) := by decide +kernel
theorem dLa_append_23 : decode mLa_append.2.1 23 = .ok (.getfield 15, 3) := by decide +kernel
theorem dLa_append_26 : decode mLa_append.2.1 26 = .ok (.aload_n 0, 1) := by decide +kernel
theorem dLa_append_27 : decode mLa_append.2.1 27 = .ok (.getfield 19, 3) := by decide +kernel
theorem dLa_append_30 : decode mLa_append.2.1 30 = .ok (.iconst 1, 1) := by decide +kernel
theorem dLa_append_31 : decode mLa_append.2.1 31 = .ok (.isub, 1) := by decide +kernel
theorem dLa_append_32 : decode mLa_append.2.1 32 = .ok (.dup2, 1) := by decide +kernel
theorem dLa_append_33 : decode mLa_append.2.1 33 = .ok (.laload, 1) := by decide +kernel
theorem dLa_append_34 : decode mLa_append.2.1 34 = .ok (.lload_n 2, 1) := by decide +kernel
theorem dLa_append_35 : decode mLa_append.2.1 35 = .ok (.ladd, 1) := by decide +kernel
theorem dLa_append_36 : decode mLa_append.2.1 36 = .ok (.lastore, 1) := by decide +kernel
theorem dLa_append_37 : decode mLa_append.2.1 37 = .ok (.goto 45, 3) := by decide +kernel
theorem dLa_append_40 : decode mLa_append.2.1 40 = .ok (.aload_n 0, 1) := by decide +kernel
theorem dLa_append_41 : decode mLa_append.2.1 41 = .ok (.getfield 19, 3) := by decide +kernel
theorem dLa_append_44 : decode mLa_append.2.1 44 = .ok (.aload_n 0, 1) := by decide +kernel
theorem dLa_append_45 : decode mLa_append.2.1 45 = .ok (.getfield 9, 3) := by decide +kernel
theorem dLa_append_48 : decode mLa_append.2.1 48 = .ok (.arraylength, 1) := by decide +kernel
theorem dLa_append_49 : decode mLa_append.2.1 49 = .ok (.if_icmp .ge 33, 3) := by decide +kernel
theorem dLa_append_52 : decode mLa_append.2.1 52 = .ok (.aload_n 0, 1) := by decide +kernel
theorem dLa_append_53 : decode mLa_append.2.1 53 = .ok (.getfield 9, 3) := by decide +kernel
theorem dLa_append_56 : decode mLa_append.2.1 56 = .ok (.aload_n 0, 1) := by decide +kernel
theorem dLa_append_57 : decode mLa_append.2.1 57 = .ok (.getfield 19, 3) := by decide +kernel
theorem dLa_append_60 : decode mLa_append.2.1 60 = .ok (.iload_n 1, 1) := by decide +kernel
theorem dLa_append_61 : decode mLa_append.2.1 61 = .ok (.iastore, 1) := by decide +kernel
theorem dLa_append_62 : decode mLa_append.2.1 62 = .ok (.aload_n 0, 1) := by decide +kernel
theorem dLa_append_63 : decode mLa_append.2.1 63 = .ok (.getfield 15, 3) := by decide +kernel
theorem dLa_append_66 : decode mLa_append.2.1 66 = .ok (.aload_n 0, 1) := by decide +kernel
theorem dLa_append_67 : decode mLa_append.2.1 67 = .ok (.getfield 19, 3) := by decide +kernel
theorem dLa_append_70 : decode mLa_append.2.1 70 = .ok (.lload_n 2, 1) := by decide +kernel
theorem dLa_append_71 : decode mLa_append.2.1 71 = .ok (.lastore, 1) := by decide +kernel
theorem dLa_append_72 : decode mLa_append.2.1 72 = .ok (.aload_n 0, 1) := by decide +kernel
theorem dLa_append_73 : decode mLa_append.2.1 73 = .ok (.dup, 1) := by decide +kernel
theorem dLa_append_74 : decode mLa_append.2.1 74 = .ok (.getfield 19, 3) := by decide +kernel
theorem dLa_append_77 : decode mLa_append.2.1 77 = .ok (.iconst 1, 1) := by decide +kernel
theorem dLa_append_78 : decode mLa_append.2.1 78 = .ok (.iadd, 1) := by decide +kernel
theorem dLa_append_79 : decode mLa_append.2.1 79 = .ok (.putfield 19, 3) := by decide +kernel
theorem dLa_append_82 : decode mLa_append.2.1 82 = .ok (.return_, 1) := by decide +kernel
theorem dLa_have_0 : decode mLa_have.2.1 0 = .ok (.lload_n 1, 1) := by decide +kernel
theorem dLa_have_1 : decode mLa_have.2.1 1 = .ok (.lconst 1, 1) := by decide +kernel
theorem dLa_have_2 : decode mLa_have.2.1 2 = .ok (.lcmp, 1) := by decide +kernel
theorem dLa_have_3 : decode mLa_have.2.1 3 = .ok (.ifCond .lt 16, 3) := by decide +kernel
theorem dLa_have_6 : decode mLa_have.2.1 6 = .ok (.lload_n 1, 1) := by decide +kernel
theorem dLa_have_7 : decode mLa_have.2.1 7 = .ok (.aload_n 0, 1) := by decide +kernel
theorem dLa_have_8 : decode mLa_have.2.1 8 = .ok (.invokevirtual 25, 3) := by decide +kernel
theorem dLa_have_11 : decode mLa_have.2.1 11 = .ok (.lcmp, 1) := by decide +kernel
theorem dLa_have_12 : decode mLa_have.2.1 12 = .ok (.ifCond .gt 7, 3) := by decide +kernel
theorem dLa_have_15 : decode mLa_have.2.1 15 = .ok (.iconst 1, 1) := by decide +kernel
theorem dLa_have_16 : decode mLa_have.2.1 16 = .ok (.goto 4, 3) := by decide +kernel
theorem dLa_have_19 : decode mLa_have.2.1 19 = .ok (.iconst 0, 1) := by decide +kernel
theorem dLa_have_20 : decode mLa_have.2.1 20 = .ok (.ireturn, 1) := by decide +kernel
theorem dLa_total_0 : decode mLa_total.2.1 0 = .ok (.lconst 0, 1) := by decide +kernel
theorem dLa_total_1 : decode mLa_total.2.1 1 = .ok (.lstore_n 1, 1) := by decide +kernel
theorem dLa_total_2 : decode mLa_total.2.1 2 = .ok (.iconst 0, 1) := by decide +kernel
theorem dLa_total_3 : decode mLa_total.2.1 3 = .ok (.istore_n 3, 1) := by decide +kernel
theorem dLa_total_4 : decode mLa_total.2.1 4 = .ok (.iload_n 3, 1) := by decide +kernel
theorem dLa_total_5 : decode mLa_total.2.1 5 = .ok (.aload_n 0, 1) := by decide +kernel
theorem dLa_total_6 : decode mLa_total.2.1 6 = .ok (.getfield 19, 3) := by decide +kernel
theorem dLa_total_9 : decode mLa_total.2.1 9 = .ok (.if_icmp .ge 18, 3) := by decide +kernel
theorem dLa_total_12 : decode mLa_total.2.1 12 = .ok (.lload_n 1, 1) := by decide +kernel
theorem dLa_total_13 : decode mLa_total.2.1 13 = .ok (.aload_n 0, 1) := by decide +kernel
theorem dLa_total_14 : decode mLa_total.2.1 14 = .ok (.getfield 15, 3) := by decide +kernel
theorem dLa_total_17 : decode mLa_total.2.1 17 = .ok (.iload_n 3, 1) := by decide +kernel
theorem dLa_total_18 : decode mLa_total.2.1 18 = .ok (.laload, 1) := by decide +kernel
theorem dLa_total_19 : decode mLa_total.2.1 19 = .ok (.ladd, 1) := by decide +kernel
theorem dLa_total_20 : decode mLa_total.2.1 20 = .ok (.lstore_n 1, 1) := by decide +kernel
theorem dLa_total_21 : decode mLa_total.2.1 21 = .ok (.iinc 3 1, 3) := by decide +kernel
theorem dLa_total_24 : decode mLa_total.2.1 24 = .ok (.goto (-20), 3) := by decide +kernel
theorem dLa_total_27 : decode mLa_total.2.1 27 = .ok (.lload_n 1, 1) := by decide +kernel
theorem dLa_total_28 : decode mLa_total.2.1 28 = .ok (.lreturn, 1) := by decide +kernel
theorem dLa_sizeWith_0 : decode mLa_sizeWith.2.1 0 = .ok (.aload_n 0, 1) := by decide +kernel
theorem dLa_sizeWith_1 : decode mLa_sizeWith.2.1 1 = .ok (.getfield 19, 3) := by decide +kernel
theorem dLa_sizeWith_4 : decode mLa_sizeWith.2.1 4 = .ok (.aload_n 1, 1) := by decide +kernel
theorem dLa_sizeWith_5 : decode mLa_sizeWith.2.1 5 = .ok (.lload_n 2, 1) := by decide +kernel
theorem dLa_sizeWith_6 : decode mLa_sizeWith.2.1 6 = .ok (.invokevirtual 29, 3) := by decide +kernel
theorem dLa_sizeWith_9 : decode mLa_sizeWith.2.1 9 = .ok (.iadd, 1) := by decide +kernel
theorem dLa_sizeWith_10 : decode mLa_sizeWith.2.1 10 = .ok (.istore 4, 2) := by decide +kernel
theorem dLa_sizeWith_12 : decode mLa_sizeWith.2.1 12 = .ok (.aload_n 0, 1) := by decide +kernel
theorem dLa_sizeWith_13 : decode mLa_sizeWith.2.1 13 = .ok (.getfield 19, 3) := by decide +kernel
theorem dLa_sizeWith_16 : decode mLa_sizeWith.2.1 16 = .ok (.ifCond .le 28, 3) := by decide +kernel
theorem dLa_sizeWith_19 : decode mLa_sizeWith.2.1 19 = .ok (.aload_n 0, 1) := by decide +kernel
theorem dLa_sizeWith_20 : decode mLa_sizeWith.2.1 20 = .ok (.aload_n 0, 1) := by decide +kernel
theorem dLa_sizeWith_21 : decode mLa_sizeWith.2.1 21 = .ok (.getfield 19, 3) := by decide +kernel
theorem dLa_sizeWith_24 : decode mLa_sizeWith.2.1 24 = .ok (.iconst 1, 1) := by decide +kernel
theorem dLa_sizeWith_25 : decode mLa_sizeWith.2.1 25 = .ok (.isub, 1) := by decide +kernel
theorem dLa_sizeWith_26 : decode mLa_sizeWith.2.1 26 = .ok (.invokevirtual 33, 3) := by decide +kernel
theorem dLa_sizeWith_29 : decode mLa_sizeWith.2.1 29 = .ok (.aload_n 1, 1) := by decide +kernel
theorem dLa_sizeWith_30 : decode mLa_sizeWith.2.1 30 = .ok (.iconst 0, 1) := by decide +kernel
theorem dLa_sizeWith_31 : decode mLa_sizeWith.2.1 31 = .ok (.invokevirtual 33, 3) := by decide +kernel
theorem dLa_sizeWith_34 : decode mLa_sizeWith.2.1 34 = .ok (.if_icmp .ne 10, 3) := by decide +kernel
theorem dLa_sizeWith_37 : decode mLa_sizeWith.2.1 37 = .ok (.iload 4, 2) := by decide +kernel
theorem dLa_sizeWith_39 : decode mLa_sizeWith.2.1 39 = .ok (.iconst 1, 1) := by decide +kernel
theorem dLa_sizeWith_40 : decode mLa_sizeWith.2.1 40 = .ok (.isub, 1) := by decide +kernel
theorem dLa_sizeWith_41 : decode mLa_sizeWith.2.1 41 = .ok (.goto 5, 3) := by decide +kernel
theorem dLa_sizeWith_44 : decode mLa_sizeWith.2.1 44 = .ok (.iload 4, 2) := by decide +kernel
theorem dLa_sizeWith_46 : decode mLa_sizeWith.2.1 46 = .ok (.ireturn, 1) := by decide +kernel
theorem dLa_sizeOf_0 : decode mLa_sizeOf.2.1 0 = .ok (.lload_n 1, 1) := by decide +kernel
theorem dLa_sizeOf_1 : decode mLa_sizeOf.2.1 1 = .ok (.lstore_n 3, 1) := by decide +kernel
theorem dLa_sizeOf_2 : decode mLa_sizeOf.2.1 2 = .ok (.iconst 0, 1) := by decide +kernel
theorem dLa_sizeOf_3 : decode mLa_sizeOf.2.1 3 = .ok (.istore 5, 2) := by decide +kernel
theorem dLa_sizeOf_5 : decode mLa_sizeOf.2.1 5 = .ok (.iconst 0, 1) := by decide +kernel
theorem dLa_sizeOf_6 : decode mLa_sizeOf.2.1 6 = .ok (.istore 6, 2) := by decide +kernel
theorem dLa_sizeOf_8 : decode mLa_sizeOf.2.1 8 = .ok (.iload 6, 2) := by decide +kernel
theorem dLa_sizeOf_10 : decode mLa_sizeOf.2.1 10 = .ok (.aload_n 0, 1) := by decide +kernel
theorem dLa_sizeOf_11 : decode mLa_sizeOf.2.1 11 = .ok (.getfield 19, 3) := by decide +kernel
theorem dLa_sizeOf_14 : decode mLa_sizeOf.2.1 14 = .ok (.if_icmp .ge 28, 3) := by decide +kernel
theorem dLa_sizeOf_17 : decode mLa_sizeOf.2.1 17 = .ok (.lload_n 3, 1) := by decide +kernel
theorem dLa_sizeOf_18 : decode mLa_sizeOf.2.1 18 = .ok (.lconst 0, 1) := by decide +kernel
theorem dLa_sizeOf_19 : decode mLa_sizeOf.2.1 19 = .ok (.lcmp, 1) := by decide +kernel
theorem dLa_sizeOf_20 : decode mLa_sizeOf.2.1 20 = .ok (.ifCond .le 22, 3) := by decide +kernel
theorem dLa_sizeOf_23 : decode mLa_sizeOf.2.1 23 = .ok (.lload_n 3, 1) := by decide +kernel
theorem dLa_sizeOf_24 : decode mLa_sizeOf.2.1 24 = .ok (.aload_n 0, 1) := by decide +kernel
theorem dLa_sizeOf_25 : decode mLa_sizeOf.2.1 25 = .ok (.getfield 15, 3) := by decide +kernel
theorem dLa_sizeOf_28 : decode mLa_sizeOf.2.1 28 = .ok (.iload 6, 2) := by decide +kernel
theorem dLa_sizeOf_30 : decode mLa_sizeOf.2.1 30 = .ok (.laload, 1) := by decide +kernel
theorem dLa_sizeOf_31 : decode mLa_sizeOf.2.1 31 = .ok (.lsub, 1) := by decide +kernel
theorem dLa_sizeOf_32 : decode mLa_sizeOf.2.1 32 = .ok (.lstore_n 3, 1) := by decide +kernel
theorem dLa_sizeOf_33 : decode mLa_sizeOf.2.1 33 = .ok (.iinc 5 1, 3) := by decide +kernel
theorem dLa_sizeOf_36 : decode mLa_sizeOf.2.1 36 = .ok (.iinc 6 1, 3) := by decide +kernel
theorem dLa_sizeOf_39 : decode mLa_sizeOf.2.1 39 = .ok (.goto (-31), 3) := by decide +kernel
theorem dLa_sizeOf_42 : decode mLa_sizeOf.2.1 42 = .ok (.iload 5, 2) := by decide +kernel
theorem dLa_sizeOf_44 : decode mLa_sizeOf.2.1 44 = .ok (.ireturn, 1) := by decide +kernel
theorem dLa_haulAt_0 : decode mLa_haulAt.2.1 0 = .ok (.iload_n 1, 1) := by decide +kernel
theorem dLa_haulAt_1 : decode mLa_haulAt.2.1 1 = .ok (.ifCond .lt 20, 3) := by decide +kernel
theorem dLa_haulAt_4 : decode mLa_haulAt.2.1 4 = .ok (.iload_n 1, 1) := by decide +kernel
theorem dLa_haulAt_5 : decode mLa_haulAt.2.1 5 = .ok (.aload_n 0, 1) := by decide +kernel
theorem dLa_haulAt_6 : decode mLa_haulAt.2.1 6 = .ok (.getfield 19, 3) := by decide +kernel
theorem dLa_haulAt_9 : decode mLa_haulAt.2.1 9 = .ok (.if_icmp .ge 12, 3) := by decide +kernel
theorem dLa_haulAt_12 : decode mLa_haulAt.2.1 12 = .ok (.aload_n 0, 1) := by decide +kernel
theorem dLa_haulAt_13 : decode mLa_haulAt.2.1 13 = .ok (.getfield 9, 3) := by decide +kernel
theorem dLa_haulAt_16 : decode mLa_haulAt.2.1 16 = .ok (.iload_n 1, 1) := by decide +kernel
theorem dLa_haulAt_17 : decode mLa_haulAt.2.1 17 = .ok (.iaload, 1) := by decide +kernel
theorem dLa_haulAt_18 : decode mLa_haulAt.2.1 18 = .ok (.goto 4, 3) := by decide +kernel
theorem dLa_haulAt_21 : decode mLa_haulAt.2.1 21 = .ok (.iconst (-1), 1) := by decide +kernel
theorem dLa_haulAt_22 : decode mLa_haulAt.2.1 22 = .ok (.ireturn, 1) := by decide +kernel
theorem dTh_takeFrom_0 : decode mTh_takeFrom.2.1 0 = .ok (.aload_n 0, 1) := by decide +kernel
theorem dTh_takeFrom_1 : decode mTh_takeFrom.2.1 1 = .ok (.getfield 24, 3) := by decide +kernel
theorem dTh_takeFrom_4 : decode mTh_takeFrom.2.1 4 = .ok (.aload_n 1, 1) := by decide +kernel
theorem dTh_takeFrom_5 : decode mTh_takeFrom.2.1 5 = .ok (.getfield 24, 3) := by decide +kernel
theorem dTh_takeFrom_8 : decode mTh_takeFrom.2.1 8 = .ok (.lload_n 2, 1) := by decide +kernel
theorem dTh_takeFrom_9 : decode mTh_takeFrom.2.1 9 = .ok (.invokevirtual 28, 3) := by decide +kernel
theorem dTh_takeFrom_12 : decode mTh_takeFrom.2.1 12 = .ok (.aload_n 1, 1) := by decide +kernel
theorem dTh_takeFrom_13 : decode mTh_takeFrom.2.1 13 = .ok (.getfield 24, 3) := by decide +kernel
theorem dTh_takeFrom_16 : decode mTh_takeFrom.2.1 16 = .ok (.lload_n 2, 1) := by decide +kernel
theorem dTh_takeFrom_17 : decode mTh_takeFrom.2.1 17 = .ok (.invokevirtual 32, 3) := by decide +kernel
theorem dTh_takeFrom_20 : decode mTh_takeFrom.2.1 20 = .ok (.aload_n 0, 1) := by decide +kernel
theorem dTh_takeFrom_21 : decode mTh_takeFrom.2.1 21 = .ok (.aload_n 0, 1) := by decide +kernel
theorem dTh_takeFrom_22 : decode mTh_takeFrom.2.1 22 = .ok (.getfield 36, 3) := by decide +kernel
theorem dTh_takeFrom_25 : decode mTh_takeFrom.2.1 25 = .ok (.aload_n 1, 1) := by decide +kernel
theorem dTh_takeFrom_26 : decode mTh_takeFrom.2.1 26 = .ok (.getfield 36, 3) := by decide +kernel
theorem dTh_takeFrom_29 : decode mTh_takeFrom.2.1 29 = .ok (.invokestatic 39, 3) := by decide +kernel
theorem dTh_takeFrom_32 : decode mTh_takeFrom.2.1 32 = .ok (.putfield 36, 3) := by decide +kernel
theorem dTh_takeFrom_35 : decode mTh_takeFrom.2.1 35 = .ok (.return_, 1) := by decide +kernel
theorem dLa_appendFront_0 : decode mLa_appendFront.2.1 0 = .ok (.lload_n 2, 1) := by decide +kernel
theorem dLa_appendFront_1 : decode mLa_appendFront.2.1 1 = .ok (.lstore 4, 2) := by decide +kernel
theorem dLa_appendFront_3 : decode mLa_appendFront.2.1 3 = .ok (.iconst 0, 1) := by decide +kernel
theorem dLa_appendFront_4 : decode mLa_appendFront.2.1 4 = .ok (.istore 6, 2) := by decide +kernel
theorem dLa_appendFront_6 : decode mLa_appendFront.2.1 6 = .ok (.iload 6, 2) := by decide +kernel
theorem dLa_appendFront_8 : decode mLa_appendFront.2.1 8 = .ok (.aload_n 1, 1) := by decide +kernel
theorem dLa_appendFront_9 : decode mLa_appendFront.2.1 9 = .ok (.getfield 19, 3) := by decide +kernel
theorem dLa_appendFront_12 : decode mLa_appendFront.2.1 12 = .ok (.if_icmp .ge 50, 3) := by decide +kernel
theorem dLa_appendFront_15 : decode mLa_appendFront.2.1 15 = .ok (.lload 4, 2) := by decide +kernel
theorem dLa_appendFront_17 : decode mLa_appendFront.2.1 17 = .ok (.lconst 0, 1) := by decide +kernel
theorem dLa_appendFront_18 : decode mLa_appendFront.2.1 18 = .ok (.lcmp, 1) := by decide +kernel
theorem dLa_appendFront_19 : decode mLa_appendFront.2.1 19 = .ok (.ifCond .le 43, 3) := by decide +kernel
theorem dLa_appendFront_22 : decode mLa_appendFront.2.1 22 = .ok (.lload 4, 2) := by decide +kernel
theorem dLa_appendFront_24 : decode mLa_appendFront.2.1 24 = .ok (.aload_n 1, 1) := by decide +kernel
theorem dLa_appendFront_25 : decode mLa_appendFront.2.1 25 = .ok (.getfield 15, 3) := by decide +kernel
theorem dLa_appendFront_28 : decode mLa_appendFront.2.1 28 = .ok (.iload 6, 2) := by decide +kernel
theorem dLa_appendFront_30 : decode mLa_appendFront.2.1 30 = .ok (.laload, 1) := by decide +kernel
theorem dLa_appendFront_31 : decode mLa_appendFront.2.1 31 = .ok (.invokestatic 37, 3) := by decide +kernel
theorem dLa_appendFront_34 : decode mLa_appendFront.2.1 34 = .ok (.lstore 7, 2) := by decide +kernel
theorem dLa_appendFront_36 : decode mLa_appendFront.2.1 36 = .ok (.aload_n 0, 1) := by decide +kernel
theorem dLa_appendFront_37 : decode mLa_appendFront.2.1 37 = .ok (.aload_n 1, 1) := by decide +kernel
theorem dLa_appendFront_38 : decode mLa_appendFront.2.1 38 = .ok (.getfield 9, 3) := by decide +kernel
theorem dLa_appendFront_41 : decode mLa_appendFront.2.1 41 = .ok (.iload 6, 2) := by decide +kernel
theorem dLa_appendFront_43 : decode mLa_appendFront.2.1 43 = .ok (.iaload, 1) := by decide +kernel
theorem dLa_appendFront_44 : decode mLa_appendFront.2.1 44 = .ok (.lload 7, 2) := by decide +kernel
theorem dLa_appendFront_46 : decode mLa_appendFront.2.1 46 = .ok (.invokevirtual 43, 3) := by decide +kernel
theorem dLa_appendFront_49 : decode mLa_appendFront.2.1 49 = .ok (.lload 4, 2) := by decide +kernel
theorem dLa_appendFront_51 : decode mLa_appendFront.2.1 51 = .ok (.lload 7, 2) := by decide +kernel
theorem dLa_appendFront_53 : decode mLa_appendFront.2.1 53 = .ok (.lsub, 1) := by decide +kernel
theorem dLa_appendFront_54 : decode mLa_appendFront.2.1 54 = .ok (.lstore 4, 2) := by decide +kernel
theorem dLa_appendFront_56 : decode mLa_appendFront.2.1 56 = .ok (.iinc 6 1, 3) := by decide +kernel
theorem dLa_appendFront_59 : decode mLa_appendFront.2.1 59 = .ok (.goto (-53), 3) := by decide +kernel
theorem dLa_appendFront_62 : decode mLa_appendFront.2.1 62 = .ok (.return_, 1) := by decide +kernel
theorem dLa_dropFront_0 : decode mLa_dropFront.2.1 0 = .ok (.lload_n 1, 1) := by decide +kernel
theorem dLa_dropFront_1 : decode mLa_dropFront.2.1 1 = .ok (.lstore_n 3, 1) := by decide +kernel
theorem dLa_dropFront_2 : decode mLa_dropFront.2.1 2 = .ok (.iconst 0, 1) := by decide +kernel
theorem dLa_dropFront_3 : decode mLa_dropFront.2.1 3 = .ok (.istore 5, 2) := by decide +kernel
theorem dLa_dropFront_5 : decode mLa_dropFront.2.1 5 = .ok (.iconst 0, 1) := by decide +kernel
theorem dLa_dropFront_6 : decode mLa_dropFront.2.1 6 = .ok (.istore 6, 2) := by decide +kernel
theorem dLa_dropFront_8 : decode mLa_dropFront.2.1 8 = .ok (.iload 6, 2) := by decide +kernel
theorem dLa_dropFront_10 : decode mLa_dropFront.2.1 10 = .ok (.aload_n 0, 1) := by decide +kernel
theorem dLa_dropFront_11 : decode mLa_dropFront.2.1 11 = .ok (.getfield 19, 3) := by decide +kernel
theorem dLa_dropFront_14 : decode mLa_dropFront.2.1 14 = .ok (.if_icmp .ge 60, 3) := by decide +kernel
theorem dLa_dropFront_17 : decode mLa_dropFront.2.1 17 = .ok (.lload_n 3, 1) := by decide +kernel
theorem dLa_dropFront_18 : decode mLa_dropFront.2.1 18 = .ok (.lconst 0, 1) := by decide +kernel
theorem dLa_dropFront_19 : decode mLa_dropFront.2.1 19 = .ok (.lcmp, 1) := by decide +kernel
theorem dLa_dropFront_20 : decode mLa_dropFront.2.1 20 = .ok (.ifCond .le 54, 3) := by decide +kernel
theorem dLa_dropFront_23 : decode mLa_dropFront.2.1 23 = .ok (.lload_n 3, 1) := by decide +kernel
theorem dLa_dropFront_24 : decode mLa_dropFront.2.1 24 = .ok (.aload_n 0, 1) := by decide +kernel
theorem dLa_dropFront_25 : decode mLa_dropFront.2.1 25 = .ok (.getfield 15, 3) := by decide +kernel
theorem dLa_dropFront_28 : decode mLa_dropFront.2.1 28 = .ok (.iload 6, 2) := by decide +kernel
theorem dLa_dropFront_30 : decode mLa_dropFront.2.1 30 = .ok (.laload, 1) := by decide +kernel
theorem dLa_dropFront_31 : decode mLa_dropFront.2.1 31 = .ok (.invokestatic 37, 3) := by decide +kernel
theorem dLa_dropFront_34 : decode mLa_dropFront.2.1 34 = .ok (.lstore 7, 2) := by decide +kernel
theorem dLa_dropFront_36 : decode mLa_dropFront.2.1 36 = .ok (.aload_n 0, 1) := by decide +kernel
theorem dLa_dropFront_37 : decode mLa_dropFront.2.1 37 = .ok (.getfield 15, 3) := by decide +kernel
theorem dLa_dropFront_40 : decode mLa_dropFront.2.1 40 = .ok (.iload 6, 2) := by decide +kernel
theorem dLa_dropFront_42 : decode mLa_dropFront.2.1 42 = .ok (.dup2, 1) := by decide +kernel
theorem dLa_dropFront_43 : decode mLa_dropFront.2.1 43 = .ok (.laload, 1) := by decide +kernel
theorem dLa_dropFront_44 : decode mLa_dropFront.2.1 44 = .ok (.lload 7, 2) := by decide +kernel
theorem dLa_dropFront_46 : decode mLa_dropFront.2.1 46 = .ok (.lsub, 1) := by decide +kernel
theorem dLa_dropFront_47 : decode mLa_dropFront.2.1 47 = .ok (.lastore, 1) := by decide +kernel
theorem dLa_dropFront_48 : decode mLa_dropFront.2.1 48 = .ok (.lload_n 3, 1) := by decide +kernel
theorem dLa_dropFront_49 : decode mLa_dropFront.2.1 49 = .ok (.lload 7, 2) := by decide +kernel
theorem dLa_dropFront_51 : decode mLa_dropFront.2.1 51 = .ok (.lsub, 1) := by decide +kernel
theorem dLa_dropFront_52 : decode mLa_dropFront.2.1 52 = .ok (.lstore_n 3, 1) := by decide +kernel
theorem dLa_dropFront_53 : decode mLa_dropFront.2.1 53 = .ok (.aload_n 0, 1) := by decide +kernel
theorem dLa_dropFront_54 : decode mLa_dropFront.2.1 54 = .ok (.getfield 15, 3) := by decide +kernel
theorem dLa_dropFront_57 : decode mLa_dropFront.2.1 57 = .ok (.iload 6, 2) := by decide +kernel
theorem dLa_dropFront_59 : decode mLa_dropFront.2.1 59 = .ok (.laload, 1) := by decide +kernel
theorem dLa_dropFront_60 : decode mLa_dropFront.2.1 60 = .ok (.lconst 0, 1) := by decide +kernel
theorem dLa_dropFront_61 : decode mLa_dropFront.2.1 61 = .ok (.lcmp, 1) := by decide +kernel
theorem dLa_dropFront_62 : decode mLa_dropFront.2.1 62 = .ok (.ifCond .ne 6, 3) := by decide +kernel
theorem dLa_dropFront_65 : decode mLa_dropFront.2.1 65 = .ok (.iinc 5 1, 3) := by decide +kernel
theorem dLa_dropFront_68 : decode mLa_dropFront.2.1 68 = .ok (.iinc 6 1, 3) := by decide +kernel
theorem dLa_dropFront_71 : decode mLa_dropFront.2.1 71 = .ok (.goto (-63), 3) := by decide +kernel
theorem dLa_dropFront_74 : decode mLa_dropFront.2.1 74 = .ok (.aload_n 0, 1) := by decide +kernel
theorem dLa_dropFront_75 : decode mLa_dropFront.2.1 75 = .ok (.iload 5, 2) := by decide +kernel
theorem dLa_dropFront_77 : decode mLa_dropFront.2.1 77 = .ok (.invokevirtual 47, 3) := by decide +kernel
theorem dLa_dropFront_80 : decode mLa_dropFront.2.1 80 = .ok (.return_, 1) := by decide +kernel
theorem dLa_dropLayers_0 : decode mLa_dropLayers.2.1 0 = .ok (.iload_n 1, 1) := by decide +kernel
theorem dLa_dropLayers_1 : decode mLa_dropLayers.2.1 1 = .ok (.istore_n 2, 1) := by decide +kernel
theorem dLa_dropLayers_2 : decode mLa_dropLayers.2.1 2 = .ok (.iload_n 2, 1) := by decide +kernel
theorem dLa_dropLayers_3 : decode mLa_dropLayers.2.1 3 = .ok (.aload_n 0, 1) := by decide +kernel
theorem dLa_dropLayers_4 : decode mLa_dropLayers.2.1 4 = .ok (.getfield 19, 3) := by decide +kernel
theorem dLa_dropLayers_7 : decode mLa_dropLayers.2.1 7 = .ok (.if_icmp .ge 37, 3) := by decide +kernel
theorem dLa_dropLayers_10 : decode mLa_dropLayers.2.1 10 = .ok (.aload_n 0, 1) := by decide +kernel
theorem dLa_dropLayers_11 : decode mLa_dropLayers.2.1 11 = .ok (.getfield 9, 3) := by decide +kernel
theorem dLa_dropLayers_14 : decode mLa_dropLayers.2.1 14 = .ok (.iload_n 2, 1) := by decide +kernel
theorem dLa_dropLayers_15 : decode mLa_dropLayers.2.1 15 = .ok (.iload_n 1, 1) := by decide +kernel
theorem dLa_dropLayers_16 : decode mLa_dropLayers.2.1 16 = .ok (.isub, 1) := by decide +kernel
theorem dLa_dropLayers_17 : decode mLa_dropLayers.2.1 17 = .ok (.aload_n 0, 1) := by decide +kernel
theorem dLa_dropLayers_18 : decode mLa_dropLayers.2.1 18 = .ok (.getfield 9, 3) := by decide +kernel
theorem dLa_dropLayers_21 : decode mLa_dropLayers.2.1 21 = .ok (.iload_n 2, 1) := by decide +kernel
theorem dLa_dropLayers_22 : decode mLa_dropLayers.2.1 22 = .ok (.iaload, 1) := by decide +kernel
theorem dLa_dropLayers_23 : decode mLa_dropLayers.2.1 23 = .ok (.iastore, 1) := by decide +kernel
theorem dLa_dropLayers_24 : decode mLa_dropLayers.2.1 24 = .ok (.aload_n 0, 1) := by decide +kernel
theorem dLa_dropLayers_25 : decode mLa_dropLayers.2.1 25 = .ok (.getfield 15, 3) := by decide +kernel
theorem dLa_dropLayers_28 : decode mLa_dropLayers.2.1 28 = .ok (.iload_n 2, 1) := by decide +kernel
theorem dLa_dropLayers_29 : decode mLa_dropLayers.2.1 29 = .ok (.iload_n 1, 1) := by decide +kernel
theorem dLa_dropLayers_30 : decode mLa_dropLayers.2.1 30 = .ok (.isub, 1) := by decide +kernel
theorem dLa_dropLayers_31 : decode mLa_dropLayers.2.1 31 = .ok (.aload_n 0, 1) := by decide +kernel
theorem dLa_dropLayers_32 : decode mLa_dropLayers.2.1 32 = .ok (.getfield 15, 3) := by decide +kernel
theorem dLa_dropLayers_35 : decode mLa_dropLayers.2.1 35 = .ok (.iload_n 2, 1) := by decide +kernel
theorem dLa_dropLayers_36 : decode mLa_dropLayers.2.1 36 = .ok (.laload, 1) := by decide +kernel
theorem dLa_dropLayers_37 : decode mLa_dropLayers.2.1 37 = .ok (.lastore, 1) := by decide +kernel
theorem dLa_dropLayers_38 : decode mLa_dropLayers.2.1 38 = .ok (.iinc 2 1, 3) := by decide +kernel
theorem dLa_dropLayers_41 : decode mLa_dropLayers.2.1 41 = .ok (.goto (-39), 3) := by decide +kernel
theorem dLa_dropLayers_44 : decode mLa_dropLayers.2.1 44 = .ok (.aload_n 0, 1) := by decide +kernel
theorem dLa_dropLayers_45 : decode mLa_dropLayers.2.1 45 = .ok (.dup, 1) := by decide +kernel
theorem dLa_dropLayers_46 : decode mLa_dropLayers.2.1 46 = .ok (.getfield 19, 3) := by decide +kernel
theorem dLa_dropLayers_49 : decode mLa_dropLayers.2.1 49 = .ok (.iload_n 1, 1) := by decide +kernel
theorem dLa_dropLayers_50 : decode mLa_dropLayers.2.1 50 = .ok (.isub, 1) := by decide +kernel
theorem dLa_dropLayers_51 : decode mLa_dropLayers.2.1 51 = .ok (.putfield 19, 3) := by decide +kernel
theorem dLa_dropLayers_54 : decode mLa_dropLayers.2.1 54 = .ok (.return_, 1) := by decide +kernel
theorem dLa_clear_0 : decode mLa_clear.2.1 0 = .ok (.aload_n 0, 1) := by decide +kernel
theorem dLa_clear_1 : decode mLa_clear.2.1 1 = .ok (.iconst 0, 1) := by decide +kernel
theorem dLa_clear_2 : decode mLa_clear.2.1 2 = .ok (.putfield 19, 3) := by decide +kernel
theorem dLa_clear_5 : decode mLa_clear.2.1 5 = .ok (.return_, 1) := by decide +kernel
theorem dTh_fact_0 : decode mTh_fact.2.1 0 = .ok (.iload_n 1, 1) := by decide +kernel
theorem dTh_fact_1 : decode mTh_fact.2.1 1 = .ok (.tableswitch 115 0 8 #[51, 57, 65, 74, 79, 92, 98, 104, 109], 51) := by decide +kernel
theorem dTh_fact_52 : decode mTh_fact.2.1 52 = .ok (.aload_n 0, 1) := by decide +kernel
theorem dTh_fact_53 : decode mTh_fact.2.1 53 = .ok (.getfield 9, 3) := by decide +kernel
theorem dTh_fact_56 : decode mTh_fact.2.1 56 = .ok (.i2l, 1) := by decide +kernel
theorem dTh_fact_57 : decode mTh_fact.2.1 57 = .ok (.lreturn, 1) := by decide +kernel
theorem dTh_fact_58 : decode mTh_fact.2.1 58 = .ok (.aload_n 0, 1) := by decide +kernel
theorem dTh_fact_59 : decode mTh_fact.2.1 59 = .ok (.getfield 24, 3) := by decide +kernel
theorem dTh_fact_62 : decode mTh_fact.2.1 62 = .ok (.invokevirtual 45, 3) := by decide +kernel
theorem dTh_fact_65 : decode mTh_fact.2.1 65 = .ok (.lreturn, 1) := by decide +kernel
theorem dTh_fact_66 : decode mTh_fact.2.1 66 = .ok (.aload_n 0, 1) := by decide +kernel
theorem dTh_fact_67 : decode mTh_fact.2.1 67 = .ok (.getfield 24, 3) := by decide +kernel
theorem dTh_fact_70 : decode mTh_fact.2.1 70 = .ok (.invokevirtual 49, 3) := by decide +kernel
theorem dTh_fact_73 : decode mTh_fact.2.1 73 = .ok (.i2l, 1) := by decide +kernel
theorem dTh_fact_74 : decode mTh_fact.2.1 74 = .ok (.lreturn, 1) := by decide +kernel
theorem dTh_fact_75 : decode mTh_fact.2.1 75 = .ok (.aload_n 0, 1) := by decide +kernel
theorem dTh_fact_76 : decode mTh_fact.2.1 76 = .ok (.getfield 53, 3) := by decide +kernel
theorem dTh_fact_79 : decode mTh_fact.2.1 79 = .ok (.lreturn, 1) := by decide +kernel
theorem dTh_fact_80 : decode mTh_fact.2.1 80 = .ok (.aload_n 0, 1) := by decide +kernel
theorem dTh_fact_81 : decode mTh_fact.2.1 81 = .ok (.getfield 57, 3) := by decide +kernel
theorem dTh_fact_84 : decode mTh_fact.2.1 84 = .ok (.ifCond .eq 7, 3) := by decide +kernel
theorem dTh_fact_87 : decode mTh_fact.2.1 87 = .ok (.lconst 1, 1) := by decide +kernel
theorem dTh_fact_88 : decode mTh_fact.2.1 88 = .ok (.goto 4, 3) := by decide +kernel
theorem dTh_fact_91 : decode mTh_fact.2.1 91 = .ok (.lconst 0, 1) := by decide +kernel
theorem dTh_fact_92 : decode mTh_fact.2.1 92 = .ok (.lreturn, 1) := by decide +kernel
theorem dTh_fact_93 : decode mTh_fact.2.1 93 = .ok (.aload_n 0, 1) := by decide +kernel
theorem dTh_fact_94 : decode mTh_fact.2.1 94 = .ok (.getfield 36, 3) := by decide +kernel
theorem dTh_fact_97 : decode mTh_fact.2.1 97 = .ok (.i2l, 1) := by decide +kernel
theorem dTh_fact_98 : decode mTh_fact.2.1 98 = .ok (.lreturn, 1) := by decide +kernel
theorem dTh_fact_99 : decode mTh_fact.2.1 99 = .ok (.aload_n 0, 1) := by decide +kernel
theorem dTh_fact_100 : decode mTh_fact.2.1 100 = .ok (.getfield 15, 3) := by decide +kernel
theorem dTh_fact_103 : decode mTh_fact.2.1 103 = .ok (.i2l, 1) := by decide +kernel
theorem dTh_fact_104 : decode mTh_fact.2.1 104 = .ok (.lreturn, 1) := by decide +kernel
theorem dTh_fact_105 : decode mTh_fact.2.1 105 = .ok (.aload_n 0, 1) := by decide +kernel
theorem dTh_fact_106 : decode mTh_fact.2.1 106 = .ok (.getfield 61, 3) := by decide +kernel
theorem dTh_fact_109 : decode mTh_fact.2.1 109 = .ok (.lreturn, 1) := by decide +kernel
theorem dTh_fact_110 : decode mTh_fact.2.1 110 = .ok (.aload_n 0, 1) := by decide +kernel
theorem dTh_fact_111 : decode mTh_fact.2.1 111 = .ok (.getfield 18, 3) := by decide +kernel
theorem dTh_fact_114 : decode mTh_fact.2.1 114 = .ok (.i2l, 1) := by decide +kernel
theorem dTh_fact_115 : decode mTh_fact.2.1 115 = .ok (.lreturn, 1) := by decide +kernel
theorem dTh_fact_116 : decode mTh_fact.2.1 116 = .ok (.ldc2_w 64, 3) := by decide +kernel
theorem dTh_fact_119 : decode mTh_fact.2.1 119 = .ok (.lreturn, 1) := by decide +kernel
theorem dLa_size_0 : decode mLa_size.2.1 0 = .ok (.aload_n 0, 1) := by decide +kernel
theorem dLa_size_1 : decode mLa_size.2.1 1 = .ok (.getfield 19, 3) := by decide +kernel
theorem dLa_size_4 : decode mLa_size.2.1 4 = .ok (.ireturn, 1) := by decide +kernel
theorem dLa_gramsAt_0 : decode mLa_gramsAt.2.1 0 = .ok (.iload_n 1, 1) := by decide +kernel
theorem dLa_gramsAt_1 : decode mLa_gramsAt.2.1 1 = .ok (.ifCond .lt 20, 3) := by decide +kernel
theorem dLa_gramsAt_4 : decode mLa_gramsAt.2.1 4 = .ok (.iload_n 1, 1) := by decide +kernel
theorem dLa_gramsAt_5 : decode mLa_gramsAt.2.1 5 = .ok (.aload_n 0, 1) := by decide +kernel
theorem dLa_gramsAt_6 : decode mLa_gramsAt.2.1 6 = .ok (.getfield 19, 3) := by decide +kernel
theorem dLa_gramsAt_9 : decode mLa_gramsAt.2.1 9 = .ok (.if_icmp .ge 12, 3) := by decide +kernel
theorem dLa_gramsAt_12 : decode mLa_gramsAt.2.1 12 = .ok (.aload_n 0, 1) := by decide +kernel
theorem dLa_gramsAt_13 : decode mLa_gramsAt.2.1 13 = .ok (.getfield 15, 3) := by decide +kernel
theorem dLa_gramsAt_16 : decode mLa_gramsAt.2.1 16 = .ok (.iload_n 1, 1) := by decide +kernel
theorem dLa_gramsAt_17 : decode mLa_gramsAt.2.1 17 = .ok (.laload, 1) := by decide +kernel
theorem dLa_gramsAt_18 : decode mLa_gramsAt.2.1 18 = .ok (.goto 6, 3) := by decide +kernel
theorem dLa_gramsAt_21 : decode mLa_gramsAt.2.1 21 = .ok (.ldc2_w 23, 3) := by decide +kernel
theorem dLa_gramsAt_24 : decode mLa_gramsAt.2.1 24 = .ok (.lreturn, 1) := by decide +kernel
theorem dLa_gramsOf_0 : decode mLa_gramsOf.2.1 0 = .ok (.lconst 0, 1) := by decide +kernel
theorem dLa_gramsOf_1 : decode mLa_gramsOf.2.1 1 = .ok (.lstore_n 2, 1) := by decide +kernel
theorem dLa_gramsOf_2 : decode mLa_gramsOf.2.1 2 = .ok (.iconst 0, 1) := by decide +kernel
theorem dLa_gramsOf_3 : decode mLa_gramsOf.2.1 3 = .ok (.istore 4, 2) := by decide +kernel
theorem dLa_gramsOf_5 : decode mLa_gramsOf.2.1 5 = .ok (.iload 4, 2) := by decide +kernel
theorem dLa_gramsOf_7 : decode mLa_gramsOf.2.1 7 = .ok (.aload_n 0, 1) := by decide +kernel
theorem dLa_gramsOf_8 : decode mLa_gramsOf.2.1 8 = .ok (.getfield 19, 3) := by decide +kernel
theorem dLa_gramsOf_11 : decode mLa_gramsOf.2.1 11 = .ok (.if_icmp .ge 30, 3) := by decide +kernel
theorem dLa_gramsOf_14 : decode mLa_gramsOf.2.1 14 = .ok (.aload_n 0, 1) := by decide +kernel
theorem dLa_gramsOf_15 : decode mLa_gramsOf.2.1 15 = .ok (.getfield 9, 3) := by decide +kernel
theorem dLa_gramsOf_18 : decode mLa_gramsOf.2.1 18 = .ok (.iload 4, 2) := by decide +kernel
theorem dLa_gramsOf_20 : decode mLa_gramsOf.2.1 20 = .ok (.iaload, 1) := by decide +kernel
theorem dLa_gramsOf_21 : decode mLa_gramsOf.2.1 21 = .ok (.iload_n 1, 1) := by decide +kernel
theorem dLa_gramsOf_22 : decode mLa_gramsOf.2.1 22 = .ok (.if_icmp .ne 13, 3) := by decide +kernel
theorem dLa_gramsOf_25 : decode mLa_gramsOf.2.1 25 = .ok (.lload_n 2, 1) := by decide +kernel
theorem dLa_gramsOf_26 : decode mLa_gramsOf.2.1 26 = .ok (.aload_n 0, 1) := by decide +kernel
theorem dLa_gramsOf_27 : decode mLa_gramsOf.2.1 27 = .ok (.getfield 15, 3) := by decide +kernel
theorem dLa_gramsOf_30 : decode mLa_gramsOf.2.1 30 = .ok (.iload 4, 2) := by decide +kernel
theorem dLa_gramsOf_32 : decode mLa_gramsOf.2.1 32 = .ok (.laload, 1) := by decide +kernel
theorem dLa_gramsOf_33 : decode mLa_gramsOf.2.1 33 = .ok (.ladd, 1) := by decide +kernel
theorem dLa_gramsOf_34 : decode mLa_gramsOf.2.1 34 = .ok (.lstore_n 2, 1) := by decide +kernel
theorem dLa_gramsOf_35 : decode mLa_gramsOf.2.1 35 = .ok (.iinc 4 1, 3) := by decide +kernel
theorem dLa_gramsOf_38 : decode mLa_gramsOf.2.1 38 = .ok (.goto (-33), 3) := by decide +kernel
theorem dLa_gramsOf_41 : decode mLa_gramsOf.2.1 41 = .ok (.lload_n 2, 1) := by decide +kernel
theorem dLa_gramsOf_42 : decode mLa_gramsOf.2.1 42 = .ok (.lreturn, 1) := by decide +kernel
theorem dTa_clear_0 : decode mTa_clear.2.1 0 = .ok (.iconst 0, 1) := by decide +kernel
theorem dTa_clear_1 : decode mTa_clear.2.1 1 = .ok (.istore_n 1, 1) := by decide +kernel
theorem dTa_clear_2 : decode mTa_clear.2.1 2 = .ok (.iload_n 1, 1) := by decide +kernel
theorem dTa_clear_3 : decode mTa_clear.2.1 3 = .ok (.aload_n 0, 1) := by decide +kernel
theorem dTa_clear_4 : decode mTa_clear.2.1 4 = .ok (.getfield 11, 3) := by decide +kernel
theorem dTa_clear_7 : decode mTa_clear.2.1 7 = .ok (.arraylength, 1) := by decide +kernel
theorem dTa_clear_8 : decode mTa_clear.2.1 8 = .ok (.if_icmp .ge 16, 3) := by decide +kernel
theorem dTa_clear_11 : decode mTa_clear.2.1 11 = .ok (.aload_n 0, 1) := by decide +kernel
theorem dTa_clear_12 : decode mTa_clear.2.1 12 = .ok (.getfield 11, 3) := by decide +kernel
theorem dTa_clear_15 : decode mTa_clear.2.1 15 = .ok (.iload_n 1, 1) := by decide +kernel
theorem dTa_clear_16 : decode mTa_clear.2.1 16 = .ok (.iconst 0, 1) := by decide +kernel
theorem dTa_clear_17 : decode mTa_clear.2.1 17 = .ok (.iastore, 1) := by decide +kernel
theorem dTa_clear_18 : decode mTa_clear.2.1 18 = .ok (.iinc 1 1, 3) := by decide +kernel
theorem dTa_clear_21 : decode mTa_clear.2.1 21 = .ok (.goto (-19), 3) := by decide +kernel
theorem dTa_clear_24 : decode mTa_clear.2.1 24 = .ok (.return_, 1) := by decide +kernel
theorem dTa_count_0 : decode mTa_count.2.1 0 = .ok (.iload_n 1, 1) := by decide +kernel
theorem dTa_count_1 : decode mTa_count.2.1 1 = .ok (.ifCond .lt 22, 3) := by decide +kernel
theorem dTa_count_4 : decode mTa_count.2.1 4 = .ok (.iload_n 1, 1) := by decide +kernel
theorem dTa_count_5 : decode mTa_count.2.1 5 = .ok (.aload_n 0, 1) := by decide +kernel
theorem dTa_count_6 : decode mTa_count.2.1 6 = .ok (.getfield 11, 3) := by decide +kernel
theorem dTa_count_9 : decode mTa_count.2.1 9 = .ok (.arraylength, 1) := by decide +kernel
theorem dTa_count_10 : decode mTa_count.2.1 10 = .ok (.if_icmp .ge 13, 3) := by decide +kernel
theorem dTa_count_13 : decode mTa_count.2.1 13 = .ok (.aload_n 0, 1) := by decide +kernel
theorem dTa_count_14 : decode mTa_count.2.1 14 = .ok (.getfield 11, 3) := by decide +kernel
theorem dTa_count_17 : decode mTa_count.2.1 17 = .ok (.iload_n 1, 1) := by decide +kernel
theorem dTa_count_18 : decode mTa_count.2.1 18 = .ok (.dup2, 1) := by decide +kernel
theorem dTa_count_19 : decode mTa_count.2.1 19 = .ok (.iaload, 1) := by decide +kernel
theorem dTa_count_20 : decode mTa_count.2.1 20 = .ok (.iconst 1, 1) := by decide +kernel
theorem dTa_count_21 : decode mTa_count.2.1 21 = .ok (.iadd, 1) := by decide +kernel
theorem dTa_count_22 : decode mTa_count.2.1 22 = .ok (.iastore, 1) := by decide +kernel
theorem dTa_count_23 : decode mTa_count.2.1 23 = .ok (.return_, 1) := by decide +kernel
theorem dTa_pick_0 : decode mTa_pick.2.1 0 = .ok (.iconst 0, 1) := by decide +kernel
theorem dTa_pick_1 : decode mTa_pick.2.1 1 = .ok (.istore_n 2, 1) := by decide +kernel
theorem dTa_pick_2 : decode mTa_pick.2.1 2 = .ok (.iconst 0, 1) := by decide +kernel
theorem dTa_pick_3 : decode mTa_pick.2.1 3 = .ok (.istore_n 3, 1) := by decide +kernel
theorem dTa_pick_4 : decode mTa_pick.2.1 4 = .ok (.iload_n 3, 1) := by decide +kernel
theorem dTa_pick_5 : decode mTa_pick.2.1 5 = .ok (.aload_n 0, 1) := by decide +kernel
theorem dTa_pick_6 : decode mTa_pick.2.1 6 = .ok (.getfield 11, 3) := by decide +kernel
theorem dTa_pick_9 : decode mTa_pick.2.1 9 = .ok (.arraylength, 1) := by decide +kernel
theorem dTa_pick_10 : decode mTa_pick.2.1 10 = .ok (.if_icmp .ge 28, 3) := by decide +kernel
theorem dTa_pick_13 : decode mTa_pick.2.1 13 = .ok (.aload_n 0, 1) := by decide +kernel
theorem dTa_pick_14 : decode mTa_pick.2.1 14 = .ok (.getfield 11, 3) := by decide +kernel
theorem dTa_pick_17 : decode mTa_pick.2.1 17 = .ok (.iload_n 3, 1) := by decide +kernel
theorem dTa_pick_18 : decode mTa_pick.2.1 18 = .ok (.iaload, 1) := by decide +kernel
theorem dTa_pick_19 : decode mTa_pick.2.1 19 = .ok (.ifCond .le 13, 3) := by decide +kernel
theorem dTa_pick_22 : decode mTa_pick.2.1 22 = .ok (.iload_n 2, 1) := by decide +kernel
theorem dTa_pick_23 : decode mTa_pick.2.1 23 = .ok (.iload_n 1, 1) := by decide +kernel
theorem dTa_pick_24 : decode mTa_pick.2.1 24 = .ok (.if_icmp .ne 5, 3) := by decide +kernel
theorem dTa_pick_27 : decode mTa_pick.2.1 27 = .ok (.iload_n 3, 1) := by decide +kernel
theorem dTa_pick_28 : decode mTa_pick.2.1 28 = .ok (.ireturn, 1) := by decide +kernel
theorem dTa_pick_29 : decode mTa_pick.2.1 29 = .ok (.iinc 2 1, 3) := by decide +kernel
theorem dTa_pick_32 : decode mTa_pick.2.1 32 = .ok (.iinc 3 1, 3) := by decide +kernel
theorem dTa_pick_35 : decode mTa_pick.2.1 35 = .ok (.goto (-31), 3) := by decide +kernel
theorem dTa_pick_38 : decode mTa_pick.2.1 38 = .ok (.iconst (-1), 1) := by decide +kernel
theorem dTa_pick_39 : decode mTa_pick.2.1 39 = .ok (.ireturn, 1) := by decide +kernel
theorem dTa_countedAtLeast_0 : decode mTa_countedAtLeast.2.1 0 = .ok (.iconst 0, 1) := by decide +kernel
theorem dTa_countedAtLeast_1 : decode mTa_countedAtLeast.2.1 1 = .ok (.istore_n 2, 1) := by decide +kernel
theorem dTa_countedAtLeast_2 : decode mTa_countedAtLeast.2.1 2 = .ok (.iconst 0, 1) := by decide +kernel
theorem dTa_countedAtLeast_3 : decode mTa_countedAtLeast.2.1 3 = .ok (.istore_n 3, 1) := by decide +kernel
theorem dTa_countedAtLeast_4 : decode mTa_countedAtLeast.2.1 4 = .ok (.iload_n 3, 1) := by decide +kernel
theorem dTa_countedAtLeast_5 : decode mTa_countedAtLeast.2.1 5 = .ok (.aload_n 0, 1) := by decide +kernel
theorem dTa_countedAtLeast_6 : decode mTa_countedAtLeast.2.1 6 = .ok (.getfield 11, 3) := by decide +kernel
theorem dTa_countedAtLeast_9 : decode mTa_countedAtLeast.2.1 9 = .ok (.arraylength, 1) := by decide +kernel
theorem dTa_countedAtLeast_10 : decode mTa_countedAtLeast.2.1 10 = .ok (.if_icmp .ge 22, 3) := by decide +kernel
theorem dTa_countedAtLeast_13 : decode mTa_countedAtLeast.2.1 13 = .ok (.aload_n 0, 1) := by decide +kernel
theorem dTa_countedAtLeast_14 : decode mTa_countedAtLeast.2.1 14 = .ok (.getfield 11, 3) := by decide +kernel
theorem dTa_countedAtLeast_17 : decode mTa_countedAtLeast.2.1 17 = .ok (.iload_n 3, 1) := by decide +kernel
theorem dTa_countedAtLeast_18 : decode mTa_countedAtLeast.2.1 18 = .ok (.iaload, 1) := by decide +kernel
theorem dTa_countedAtLeast_19 : decode mTa_countedAtLeast.2.1 19 = .ok (.iload_n 1, 1) := by decide +kernel
theorem dTa_countedAtLeast_20 : decode mTa_countedAtLeast.2.1 20 = .ok (.if_icmp .lt 6, 3) := by decide +kernel
theorem dTa_countedAtLeast_23 : decode mTa_countedAtLeast.2.1 23 = .ok (.iinc 2 1, 3) := by decide +kernel
theorem dTa_countedAtLeast_26 : decode mTa_countedAtLeast.2.1 26 = .ok (.iinc 3 1, 3) := by decide +kernel
theorem dTa_countedAtLeast_29 : decode mTa_countedAtLeast.2.1 29 = .ok (.goto (-25), 3) := by decide +kernel
theorem dTa_countedAtLeast_32 : decode mTa_countedAtLeast.2.1 32 = .ok (.iload_n 2, 1) := by decide +kernel
theorem dTa_countedAtLeast_33 : decode mTa_countedAtLeast.2.1 33 = .ok (.ireturn, 1) := by decide +kernel
theorem dBy_put_0 : decode mBy_put.2.1 0 = .ok (.aload_n 0, 1) := by decide +kernel
theorem dBy_put_1 : decode mBy_put.2.1 1 = .ok (.getfield 21, 3) := by decide +kernel
theorem dBy_put_4 : decode mBy_put.2.1 4 = .ok (.aload_n 0, 1) := by decide +kernel
theorem dBy_put_5 : decode mBy_put.2.1 5 = .ok (.getfield 15, 3) := by decide +kernel
theorem dBy_put_8 : decode mBy_put.2.1 8 = .ok (.arraylength, 1) := by decide +kernel
theorem dBy_put_9 : decode mBy_put.2.1 9 = .ok (.if_icmp .lt 5, 3) := by decide +kernel
theorem dBy_put_12 : decode mBy_put.2.1 12 = .ok (.iconst 0, 1) := by decide +kernel
theorem dBy_put_13 : decode mBy_put.2.1 13 = .ok (.ireturn, 1) := by decide +kernel
theorem dBy_put_14 : decode mBy_put.2.1 14 = .ok (.aload_n 0, 1) := by decide +kernel
theorem dBy_put_15 : decode mBy_put.2.1 15 = .ok (.getfield 15, 3) := by decide +kernel
theorem dBy_put_18 : decode mBy_put.2.1 18 = .ok (.aload_n 0, 1) := by decide +kernel
theorem dBy_put_19 : decode mBy_put.2.1 19 = .ok (.getfield 21, 3) := by decide +kernel
theorem dBy_put_22 : decode mBy_put.2.1 22 = .ok (.iload_n 1, 1) := by decide +kernel
theorem dBy_put_23 : decode mBy_put.2.1 23 = .ok (.iastore, 1) := by decide +kernel
theorem dBy_put_24 : decode mBy_put.2.1 24 = .ok (.aload_n 0, 1) := by decide +kernel
theorem dBy_put_25 : decode mBy_put.2.1 25 = .ok (.dup, 1) := by decide +kernel
theorem dBy_put_26 : decode mBy_put.2.1 26 = .ok (.getfield 21, 3) := by decide +kernel
theorem dBy_put_29 : decode mBy_put.2.1 29 = .ok (.iconst 1, 1) := by decide +kernel
theorem dBy_put_30 : decode mBy_put.2.1 30 = .ok (.iadd, 1) := by decide +kernel
theorem dBy_put_31 : decode mBy_put.2.1 31 = .ok (.putfield 21, 3) := by decide +kernel
theorem dBy_put_34 : decode mBy_put.2.1 34 = .ok (.iconst 1, 1) := by decide +kernel
theorem dBy_put_35 : decode mBy_put.2.1 35 = .ok (.ireturn, 1) := by decide +kernel
theorem dNa_read_0 : decode mNa_read.2.1 0 = .ok (.aload_n 0, 1) := by decide +kernel
theorem dNa_read_1 : decode mNa_read.2.1 1 = .ok (.iconst 0, 1) := by decide +kernel
theorem dNa_read_2 : decode mNa_read.2.1 2 = .ok (.putfield 15, 3) := by decide +kernel
theorem dNa_read_5 : decode mNa_read.2.1 5 = .ok (.aload_n 0, 1) := by decide +kernel
theorem dNa_read_6 : decode mNa_read.2.1 6 = .ok (.iconst (-1), 1) := by decide +kernel
theorem dNa_read_7 : decode mNa_read.2.1 7 = .ok (.putfield 19, 3) := by decide +kernel
theorem dNa_read_10 : decode mNa_read.2.1 10 = .ok (.aload_n 1, 1) := by decide +kernel
theorem dNa_read_11 : decode mNa_read.2.1 11 = .ok (.invokevirtual 22, 3) := by decide +kernel
theorem dNa_read_14 : decode mNa_read.2.1 14 = .ok (.aload_n 0, 1) := by decide +kernel
theorem dNa_read_15 : decode mNa_read.2.1 15 = .ok (.invokevirtual 27, 3) := by decide +kernel
theorem dNa_read_18 : decode mNa_read.2.1 18 = .ok (.iconst 0, 1) := by decide +kernel
theorem dNa_read_19 : decode mNa_read.2.1 19 = .ok (.istore_n 2, 1) := by decide +kernel
theorem dNa_read_20 : decode mNa_read.2.1 20 = .ok (.iload_n 2, 1) := by decide +kernel
theorem dNa_read_21 : decode mNa_read.2.1 21 = .ok (.bipush 40, 2) := by decide +kernel
theorem dNa_read_23 : decode mNa_read.2.1 23 = .ok (.if_icmp .gt 40, 3) := by decide +kernel
theorem dNa_read_26 : decode mNa_read.2.1 26 = .ok (.aload_n 0, 1) := by decide +kernel
theorem dNa_read_27 : decode mNa_read.2.1 27 = .ok (.getfield 19, 3) := by decide +kernel
theorem dNa_read_30 : decode mNa_read.2.1 30 = .ok (.iconst (-1), 1) := by decide +kernel
theorem dNa_read_31 : decode mNa_read.2.1 31 = .ok (.if_icmp .ne 32, 3) := by decide +kernel
theorem dNa_read_34 : decode mNa_read.2.1 34 = .ok (.aload_n 0, 1) := by decide +kernel
theorem dNa_read_35 : decode mNa_read.2.1 35 = .ok (.getfield 15, 3) := by decide +kernel
theorem dNa_read_38 : decode mNa_read.2.1 38 = .ok (.aload_n 0, 1) := by decide +kernel
theorem dNa_read_39 : decode mNa_read.2.1 39 = .ok (.getfield 9, 3) := by decide +kernel
theorem dNa_read_42 : decode mNa_read.2.1 42 = .ok (.invokevirtual 30, 3) := by decide +kernel
theorem dNa_read_45 : decode mNa_read.2.1 45 = .ok (.if_icmp .ge 18, 3) := by decide +kernel
theorem dNa_read_48 : decode mNa_read.2.1 48 = .ok (.aload_n 0, 1) := by decide +kernel
theorem dNa_read_49 : decode mNa_read.2.1 49 = .ok (.aload_n 1, 1) := by decide +kernel
theorem dNa_read_50 : decode mNa_read.2.1 50 = .ok (.invokevirtual 36, 3) := by decide +kernel
theorem dNa_read_53 : decode mNa_read.2.1 53 = .ok (.aload_n 0, 1) := by decide +kernel
theorem dNa_read_54 : decode mNa_read.2.1 54 = .ok (.invokevirtual 27, 3) := by decide +kernel
theorem dNa_read_57 : decode mNa_read.2.1 57 = .ok (.iinc 2 1, 3) := by decide +kernel
theorem dNa_read_60 : decode mNa_read.2.1 60 = .ok (.goto (-40), 3) := by decide +kernel
theorem dNa_read_63 : decode mNa_read.2.1 63 = .ok (.aload_n 0, 1) := by decide +kernel
theorem dNa_read_64 : decode mNa_read.2.1 64 = .ok (.getfield 19, 3) := by decide +kernel
theorem dNa_read_67 : decode mNa_read.2.1 67 = .ok (.ireturn, 1) := by decide +kernel
theorem dRu_clear_0 : decode mRu_clear.2.1 0 = .ok (.aload_n 0, 1) := by decide +kernel
theorem dRu_clear_1 : decode mRu_clear.2.1 1 = .ok (.iconst 0, 1) := by decide +kernel
theorem dRu_clear_2 : decode mRu_clear.2.1 2 = .ok (.putfield 24, 3) := by decide +kernel
theorem dRu_clear_5 : decode mRu_clear.2.1 5 = .ok (.return_, 1) := by decide +kernel
theorem dNa_skipBlanks_0 : decode mNa_skipBlanks.2.1 0 = .ok (.iconst 0, 1) := by decide +kernel
theorem dNa_skipBlanks_1 : decode mNa_skipBlanks.2.1 1 = .ok (.istore_n 1, 1) := by decide +kernel
theorem dNa_skipBlanks_2 : decode mNa_skipBlanks.2.1 2 = .ok (.iload_n 1, 1) := by decide +kernel
theorem dNa_skipBlanks_3 : decode mNa_skipBlanks.2.1 3 = .ok (.sipush 400, 3) := by decide +kernel
theorem dNa_skipBlanks_6 : decode mNa_skipBlanks.2.1 6 = .ok (.if_icmp .ge 26, 3) := by decide +kernel
theorem dNa_skipBlanks_9 : decode mNa_skipBlanks.2.1 9 = .ok (.aload_n 0, 1) := by decide +kernel
theorem dNa_skipBlanks_10 : decode mNa_skipBlanks.2.1 10 = .ok (.invokevirtual 68, 3) := by decide +kernel
theorem dNa_skipBlanks_13 : decode mNa_skipBlanks.2.1 13 = .ok (.ifCond .eq 19, 3) := by decide +kernel
theorem dNa_skipBlanks_16 : decode mNa_skipBlanks.2.1 16 = .ok (.aload_n 0, 1) := by decide +kernel
theorem dNa_skipBlanks_17 : decode mNa_skipBlanks.2.1 17 = .ok (.dup, 1) := by decide +kernel
theorem dNa_skipBlanks_18 : decode mNa_skipBlanks.2.1 18 = .ok (.getfield 15, 3) := by decide +kernel
theorem dNa_skipBlanks_21 : decode mNa_skipBlanks.2.1 21 = .ok (.iconst 1, 1) := by decide +kernel
theorem dNa_skipBlanks_22 : decode mNa_skipBlanks.2.1 22 = .ok (.iadd, 1) := by decide +kernel
theorem dNa_skipBlanks_23 : decode mNa_skipBlanks.2.1 23 = .ok (.putfield 15, 3) := by decide +kernel
theorem dNa_skipBlanks_26 : decode mNa_skipBlanks.2.1 26 = .ok (.iinc 1 1, 3) := by decide +kernel
theorem dNa_skipBlanks_29 : decode mNa_skipBlanks.2.1 29 = .ok (.goto (-27), 3) := by decide +kernel
theorem dNa_skipBlanks_32 : decode mNa_skipBlanks.2.1 32 = .ok (.return_, 1) := by decide +kernel
theorem dNa_isBlank_0 : decode mNa_isBlank.2.1 0 = .ok (.aload_n 0, 1) := by decide +kernel
theorem dNa_isBlank_1 : decode mNa_isBlank.2.1 1 = .ok (.getfield 9, 3) := by decide +kernel
theorem dNa_isBlank_4 : decode mNa_isBlank.2.1 4 = .ok (.aload_n 0, 1) := by decide +kernel
theorem dNa_isBlank_5 : decode mNa_isBlank.2.1 5 = .ok (.getfield 15, 3) := by decide +kernel
theorem dNa_isBlank_8 : decode mNa_isBlank.2.1 8 = .ok (.invokevirtual 60, 3) := by decide +kernel
theorem dNa_isBlank_11 : decode mNa_isBlank.2.1 11 = .ok (.istore_n 1, 1) := by decide +kernel
theorem dNa_isBlank_12 : decode mNa_isBlank.2.1 12 = .ok (.iload_n 1, 1) := by decide +kernel
theorem dNa_isBlank_13 : decode mNa_isBlank.2.1 13 = .ok (.bipush 9, 2) := by decide +kernel
theorem dNa_isBlank_15 : decode mNa_isBlank.2.1 15 = .ok (.if_icmp .eq 21, 3) := by decide +kernel
theorem dNa_isBlank_18 : decode mNa_isBlank.2.1 18 = .ok (.iload_n 1, 1) := by decide +kernel
theorem dNa_isBlank_19 : decode mNa_isBlank.2.1 19 = .ok (.bipush 10, 2) := by decide +kernel
theorem dNa_isBlank_21 : decode mNa_isBlank.2.1 21 = .ok (.if_icmp .eq 15, 3) := by decide +kernel
theorem dNa_isBlank_24 : decode mNa_isBlank.2.1 24 = .ok (.iload_n 1, 1) := by decide +kernel
theorem dNa_isBlank_25 : decode mNa_isBlank.2.1 25 = .ok (.bipush 13, 2) := by decide +kernel
theorem dNa_isBlank_27 : decode mNa_isBlank.2.1 27 = .ok (.if_icmp .eq 9, 3) := by decide +kernel
theorem dNa_isBlank_30 : decode mNa_isBlank.2.1 30 = .ok (.iload_n 1, 1) := by decide +kernel
theorem dNa_isBlank_31 : decode mNa_isBlank.2.1 31 = .ok (.bipush 32, 2) := by decide +kernel
theorem dNa_isBlank_33 : decode mNa_isBlank.2.1 33 = .ok (.if_icmp .ne 7, 3) := by decide +kernel
theorem dNa_isBlank_36 : decode mNa_isBlank.2.1 36 = .ok (.iconst 1, 1) := by decide +kernel
theorem dNa_isBlank_37 : decode mNa_isBlank.2.1 37 = .ok (.goto 4, 3) := by decide +kernel
theorem dNa_isBlank_40 : decode mNa_isBlank.2.1 40 = .ok (.iconst 0, 1) := by decide +kernel
theorem dNa_isBlank_41 : decode mNa_isBlank.2.1 41 = .ok (.ireturn, 1) := by decide +kernel
theorem dBy_byteAt_0 : decode mBy_byteAt.2.1 0 = .ok (.iload_n 1, 1) := by decide +kernel
theorem dBy_byteAt_1 : decode mBy_byteAt.2.1 1 = .ok (.ifCond .lt 20, 3) := by decide +kernel
theorem dBy_byteAt_4 : decode mBy_byteAt.2.1 4 = .ok (.iload_n 1, 1) := by decide +kernel
theorem dBy_byteAt_5 : decode mBy_byteAt.2.1 5 = .ok (.aload_n 0, 1) := by decide +kernel
theorem dBy_byteAt_6 : decode mBy_byteAt.2.1 6 = .ok (.getfield 21, 3) := by decide +kernel
theorem dBy_byteAt_9 : decode mBy_byteAt.2.1 9 = .ok (.if_icmp .ge 12, 3) := by decide +kernel
theorem dBy_byteAt_12 : decode mBy_byteAt.2.1 12 = .ok (.aload_n 0, 1) := by decide +kernel
theorem dBy_byteAt_13 : decode mBy_byteAt.2.1 13 = .ok (.getfield 15, 3) := by decide +kernel
theorem dBy_byteAt_16 : decode mBy_byteAt.2.1 16 = .ok (.iload_n 1, 1) := by decide +kernel
theorem dBy_byteAt_17 : decode mBy_byteAt.2.1 17 = .ok (.iaload, 1) := by decide +kernel
theorem dBy_byteAt_18 : decode mBy_byteAt.2.1 18 = .ok (.goto 4, 3) := by decide +kernel
theorem dBy_byteAt_21 : decode mBy_byteAt.2.1 21 = .ok (.iconst (-1), 1) := by decide +kernel
theorem dBy_byteAt_22 : decode mBy_byteAt.2.1 22 = .ok (.ireturn, 1) := by decide +kernel
theorem dBy_size_0 : decode mBy_size.2.1 0 = .ok (.aload_n 0, 1) := by decide +kernel
theorem dBy_size_1 : decode mBy_size.2.1 1 = .ok (.getfield 21, 3) := by decide +kernel
theorem dBy_size_4 : decode mBy_size.2.1 4 = .ok (.ireturn, 1) := by decide +kernel
theorem dNa_readRule_0 : decode mNa_readRule.2.1 0 = .ok (.aload_n 0, 1) := by decide +kernel
theorem dNa_readRule_1 : decode mNa_readRule.2.1 1 = .ok (.iconst 0, 1) := by decide +kernel
theorem dNa_readRule_2 : decode mNa_readRule.2.1 2 = .ok (.aload_n 1, 1) := by decide +kernel
theorem dNa_readRule_3 : decode mNa_readRule.2.1 3 = .ok (.invokevirtual 40, 3) := by decide +kernel
theorem dNa_readRule_6 : decode mNa_readRule.2.1 6 = .ok (.ifCond .eq 7, 3) := by decide +kernel
theorem dNa_readRule_9 : decode mNa_readRule.2.1 9 = .ok (.iconst (-1), 1) := by decide +kernel
theorem dNa_readRule_10 : decode mNa_readRule.2.1 10 = .ok (.goto 5, 3) := by decide +kernel
theorem dNa_readRule_13 : decode mNa_readRule.2.1 13 = .ok (.bipush 99, 2) := by decide +kernel
theorem dNa_readRule_15 : decode mNa_readRule.2.1 15 = .ok (.invokevirtual 44, 3) := by decide +kernel
theorem dNa_readRule_18 : decode mNa_readRule.2.1 18 = .ok (.istore_n 2, 1) := by decide +kernel
theorem dNa_readRule_19 : decode mNa_readRule.2.1 19 = .ok (.aload_n 0, 1) := by decide +kernel
theorem dNa_readRule_20 : decode mNa_readRule.2.1 20 = .ok (.bipush 58, 2) := by decide +kernel
theorem dNa_readRule_22 : decode mNa_readRule.2.1 22 = .ok (.invokevirtual 48, 3) := by decide +kernel
theorem dNa_readRule_25 : decode mNa_readRule.2.1 25 = .ok (.aload_n 0, 1) := by decide +kernel
theorem dNa_readRule_26 : decode mNa_readRule.2.1 26 = .ok (.iconst 0, 1) := by decide +kernel
theorem dNa_readRule_27 : decode mNa_readRule.2.1 27 = .ok (.sipush 999, 3) := by decide +kernel
theorem dNa_readRule_30 : decode mNa_readRule.2.1 30 = .ok (.invokevirtual 44, 3) := by decide +kernel
theorem dNa_readRule_33 : decode mNa_readRule.2.1 33 = .ok (.istore_n 3, 1) := by decide +kernel
theorem dNa_readRule_34 : decode mNa_readRule.2.1 34 = .ok (.aload_n 0, 1) := by decide +kernel
theorem dNa_readRule_35 : decode mNa_readRule.2.1 35 = .ok (.bipush 45, 2) := by decide +kernel
theorem dNa_readRule_37 : decode mNa_readRule.2.1 37 = .ok (.invokevirtual 48, 3) := by decide +kernel
theorem dNa_readRule_40 : decode mNa_readRule.2.1 40 = .ok (.aload_n 0, 1) := by decide +kernel
theorem dNa_readRule_41 : decode mNa_readRule.2.1 41 = .ok (.iload_n 3, 1) := by decide +kernel
theorem dNa_readRule_42 : decode mNa_readRule.2.1 42 = .ok (.sipush 999, 3) := by decide +kernel
theorem dNa_readRule_45 : decode mNa_readRule.2.1 45 = .ok (.invokevirtual 44, 3) := by decide +kernel
theorem dNa_readRule_48 : decode mNa_readRule.2.1 48 = .ok (.istore 4, 2) := by decide +kernel
theorem dNa_readRule_50 : decode mNa_readRule.2.1 50 = .ok (.aload_n 0, 1) := by decide +kernel
theorem dNa_readRule_51 : decode mNa_readRule.2.1 51 = .ok (.bipush 44, 2) := by decide +kernel
theorem dNa_readRule_53 : decode mNa_readRule.2.1 53 = .ok (.invokevirtual 48, 3) := by decide +kernel
theorem dNa_readRule_56 : decode mNa_readRule.2.1 56 = .ok (.aload_n 0, 1) := by decide +kernel
theorem dNa_readRule_57 : decode mNa_readRule.2.1 57 = .ok (.iconst 0, 1) := by decide +kernel
theorem dNa_readRule_58 : decode mNa_readRule.2.1 58 = .ok (.ldc 52, 2) := by decide +kernel
theorem dNa_readRule_60 : decode mNa_readRule.2.1 60 = .ok (.invokevirtual 44, 3) := by decide +kernel
theorem dNa_readRule_63 : decode mNa_readRule.2.1 63 = .ok (.istore 5, 2) := by decide +kernel
theorem dNa_readRule_65 : decode mNa_readRule.2.1 65 = .ok (.aload_n 0, 1) := by decide +kernel
theorem dNa_readRule_66 : decode mNa_readRule.2.1 66 = .ok (.bipush 59, 2) := by decide +kernel
theorem dNa_readRule_68 : decode mNa_readRule.2.1 68 = .ok (.invokevirtual 48, 3) := by decide +kernel
theorem dNa_readRule_71 : decode mNa_readRule.2.1 71 = .ok (.aload_n 0, 1) := by decide +kernel
theorem dNa_readRule_72 : decode mNa_readRule.2.1 72 = .ok (.getfield 19, 3) := by decide +kernel
theorem dNa_readRule_75 : decode mNa_readRule.2.1 75 = .ok (.iconst (-1), 1) := by decide +kernel
theorem dNa_readRule_76 : decode mNa_readRule.2.1 76 = .ok (.if_icmp .ne 13, 3) := by decide +kernel
theorem dNa_readRule_79 : decode mNa_readRule.2.1 79 = .ok (.aload_n 1, 1) := by decide +kernel
theorem dNa_readRule_80 : decode mNa_readRule.2.1 80 = .ok (.iload_n 2, 1) := by decide +kernel
theorem dNa_readRule_81 : decode mNa_readRule.2.1 81 = .ok (.iload_n 3, 1) := by decide +kernel
theorem dNa_readRule_82 : decode mNa_readRule.2.1 82 = .ok (.iload 4, 2) := by decide +kernel
theorem dNa_readRule_84 : decode mNa_readRule.2.1 84 = .ok (.iload 5, 2) := by decide +kernel
theorem dNa_readRule_86 : decode mNa_readRule.2.1 86 = .ok (.invokevirtual 53, 3) := by decide +kernel
theorem dNa_readRule_89 : decode mNa_readRule.2.1 89 = .ok (.return_, 1) := by decide +kernel
theorem dRu_isFull_0 : decode mRu_isFull.2.1 0 = .ok (.aload_n 0, 1) := by decide +kernel
theorem dRu_isFull_1 : decode mRu_isFull.2.1 1 = .ok (.getfield 24, 3) := by decide +kernel
theorem dRu_isFull_4 : decode mRu_isFull.2.1 4 = .ok (.aload_n 0, 1) := by decide +kernel
theorem dRu_isFull_5 : decode mRu_isFull.2.1 5 = .ok (.getfield 11, 3) := by decide +kernel
theorem dRu_isFull_8 : decode mRu_isFull.2.1 8 = .ok (.arraylength, 1) := by decide +kernel
theorem dRu_isFull_9 : decode mRu_isFull.2.1 9 = .ok (.if_icmp .lt 7, 3) := by decide +kernel
theorem dRu_isFull_12 : decode mRu_isFull.2.1 12 = .ok (.iconst 1, 1) := by decide +kernel
theorem dRu_isFull_13 : decode mRu_isFull.2.1 13 = .ok (.goto 4, 3) := by decide +kernel
theorem dRu_isFull_16 : decode mRu_isFull.2.1 16 = .ok (.iconst 0, 1) := by decide +kernel
theorem dRu_isFull_17 : decode mRu_isFull.2.1 17 = .ok (.ireturn, 1) := by decide +kernel
theorem dNa_readNumber_0 : decode mNa_readNumber.2.1 0 = .ok (.aload_n 0, 1) := by decide +kernel
theorem dNa_readNumber_1 : decode mNa_readNumber.2.1 1 = .ok (.invokevirtual 27, 3) := by decide +kernel
theorem dNa_readNumber_4 : decode mNa_readNumber.2.1 4 = .ok (.aload_n 0, 1) := by decide +kernel
theorem dNa_readNumber_5 : decode mNa_readNumber.2.1 5 = .ok (.getfield 15, 3) := by decide +kernel
theorem dNa_readNumber_8 : decode mNa_readNumber.2.1 8 = .ok (.istore_n 3, 1) := by decide +kernel
theorem dNa_readNumber_9 : decode mNa_readNumber.2.1 9 = .ok (.iconst 0, 1) := by decide +kernel
theorem dNa_readNumber_10 : decode mNa_readNumber.2.1 10 = .ok (.istore 4, 2) := by decide +kernel
theorem dNa_readNumber_12 : decode mNa_readNumber.2.1 12 = .ok (.iconst 0, 1) := by decide +kernel
theorem dNa_readNumber_13 : decode mNa_readNumber.2.1 13 = .ok (.istore 5, 2) := by decide +kernel
theorem dNa_readNumber_15 : decode mNa_readNumber.2.1 15 = .ok (.iload 5, 2) := by decide +kernel
theorem dNa_readNumber_17 : decode mNa_readNumber.2.1 17 = .ok (.bipush 6, 2) := by decide +kernel
theorem dNa_readNumber_19 : decode mNa_readNumber.2.1 19 = .ok (.if_icmp .ge 48, 3) := by decide +kernel
theorem dNa_readNumber_22 : decode mNa_readNumber.2.1 22 = .ok (.aload_n 0, 1) := by decide +kernel
theorem dNa_readNumber_23 : decode mNa_readNumber.2.1 23 = .ok (.invokevirtual 57, 3) := by decide +kernel
theorem dNa_readNumber_26 : decode mNa_readNumber.2.1 26 = .ok (.ifCond .eq 41, 3) := by decide +kernel
theorem dNa_readNumber_29 : decode mNa_readNumber.2.1 29 = .ok (.iload 4, 2) := by decide +kernel
theorem dNa_readNumber_31 : decode mNa_readNumber.2.1 31 = .ok (.bipush 10, 2) := by decide +kernel
theorem dNa_readNumber_33 : decode mNa_readNumber.2.1 33 = .ok (.imul, 1) := by decide +kernel
theorem dNa_readNumber_34 : decode mNa_readNumber.2.1 34 = .ok (.aload_n 0, 1) := by decide +kernel
theorem dNa_readNumber_35 : decode mNa_readNumber.2.1 35 = .ok (.getfield 9, 3) := by decide +kernel
theorem dNa_readNumber_38 : decode mNa_readNumber.2.1 38 = .ok (.aload_n 0, 1) := by decide +kernel
theorem dNa_readNumber_39 : decode mNa_readNumber.2.1 39 = .ok (.getfield 15, 3) := by decide +kernel
theorem dNa_readNumber_42 : decode mNa_readNumber.2.1 42 = .ok (.invokevirtual 60, 3) := by decide +kernel
theorem dNa_readNumber_45 : decode mNa_readNumber.2.1 45 = .ok (.iadd, 1) := by decide +kernel
theorem dNa_readNumber_46 : decode mNa_readNumber.2.1 46 = .ok (.bipush 48, 2) := by decide +kernel
theorem dNa_readNumber_48 : decode mNa_readNumber.2.1 48 = .ok (.isub, 1) := by decide +kernel
theorem dNa_readNumber_49 : decode mNa_readNumber.2.1 49 = .ok (.istore 4, 2) := by decide +kernel
theorem dNa_readNumber_51 : decode mNa_readNumber.2.1 51 = .ok (.aload_n 0, 1) := by decide +kernel
theorem dNa_readNumber_52 : decode mNa_readNumber.2.1 52 = .ok (.dup, 1) := by decide +kernel
theorem dNa_readNumber_53 : decode mNa_readNumber.2.1 53 = .ok (.getfield 15, 3) := by decide +kernel
theorem dNa_readNumber_56 : decode mNa_readNumber.2.1 56 = .ok (.iconst 1, 1) := by decide +kernel
theorem dNa_readNumber_57 : decode mNa_readNumber.2.1 57 = .ok (.iadd, 1) := by decide +kernel
theorem dNa_readNumber_58 : decode mNa_readNumber.2.1 58 = .ok (.putfield 15, 3) := by decide +kernel
theorem dNa_readNumber_61 : decode mNa_readNumber.2.1 61 = .ok (.iinc 5 1, 3) := by decide +kernel
theorem dNa_readNumber_64 : decode mNa_readNumber.2.1 64 = .ok (.goto (-49), 3) := by decide +kernel
theorem dNa_readNumber_67 : decode mNa_readNumber.2.1 67 = .ok (.aload_n 0, 1) := by decide +kernel
theorem dNa_readNumber_68 : decode mNa_readNumber.2.1 68 = .ok (.getfield 15, 3) := by decide +kernel
theorem dNa_readNumber_71 : decode mNa_readNumber.2.1 71 = .ok (.iload_n 3, 1) := by decide +kernel
theorem dNa_readNumber_72 : decode mNa_readNumber.2.1 72 = .ok (.if_icmp .eq 10, 3) := by decide +kernel
theorem dNa_readNumber_75 : decode mNa_readNumber.2.1 75 = .ok (.aload_n 0, 1) := by decide +kernel
theorem dNa_readNumber_76 : decode mNa_readNumber.2.1 76 = .ok (.invokevirtual 57, 3) := by decide +kernel
theorem dNa_readNumber_79 : decode mNa_readNumber.2.1 79 = .ok (.ifCond .eq 14, 3) := by decide +kernel
theorem dNa_readNumber_82 : decode mNa_readNumber.2.1 82 = .ok (.aload_n 0, 1) := by decide +kernel
theorem dNa_readNumber_83 : decode mNa_readNumber.2.1 83 = .ok (.aload_n 0, 1) := by decide +kernel
theorem dNa_readNumber_84 : decode mNa_readNumber.2.1 84 = .ok (.getfield 15, 3) := by decide +kernel
theorem dNa_readNumber_87 : decode mNa_readNumber.2.1 87 = .ok (.invokevirtual 64, 3) := by decide +kernel
theorem dNa_readNumber_90 : decode mNa_readNumber.2.1 90 = .ok (.goto 20, 3) := by decide +kernel
theorem dNa_readNumber_93 : decode mNa_readNumber.2.1 93 = .ok (.iload 4, 2) := by decide +kernel
theorem dNa_readNumber_95 : decode mNa_readNumber.2.1 95 = .ok (.iload_n 1, 1) := by decide +kernel
theorem dNa_readNumber_96 : decode mNa_readNumber.2.1 96 = .ok (.if_icmp .lt 9, 3) := by decide +kernel
theorem dNa_readNumber_99 : decode mNa_readNumber.2.1 99 = .ok (.iload 4, 2) := by decide +kernel
theorem dNa_readNumber_101 : decode mNa_readNumber.2.1 101 = .ok (.iload_n 2, 1) := by decide +kernel
theorem dNa_readNumber_102 : decode mNa_readNumber.2.1 102 = .ok (.if_icmp .le 8, 3) := by decide +kernel
theorem dNa_readNumber_105 : decode mNa_readNumber.2.1 105 = .ok (.aload_n 0, 1) := by decide +kernel
theorem dNa_readNumber_106 : decode mNa_readNumber.2.1 106 = .ok (.iload_n 3, 1) := by decide +kernel
theorem dNa_readNumber_107 : decode mNa_readNumber.2.1 107 = .ok (.invokevirtual 64, 3) := by decide +kernel
theorem dNa_readNumber_110 : decode mNa_readNumber.2.1 110 = .ok (.iload 4, 2) := by decide +kernel
theorem dNa_readNumber_112 : decode mNa_readNumber.2.1 112 = .ok (.ireturn, 1) := by decide +kernel
theorem dNa_isDigit_0 : decode mNa_isDigit.2.1 0 = .ok (.aload_n 0, 1) := by decide +kernel
theorem dNa_isDigit_1 : decode mNa_isDigit.2.1 1 = .ok (.getfield 9, 3) := by decide +kernel
theorem dNa_isDigit_4 : decode mNa_isDigit.2.1 4 = .ok (.aload_n 0, 1) := by decide +kernel
theorem dNa_isDigit_5 : decode mNa_isDigit.2.1 5 = .ok (.getfield 15, 3) := by decide +kernel
theorem dNa_isDigit_8 : decode mNa_isDigit.2.1 8 = .ok (.invokevirtual 60, 3) := by decide +kernel
theorem dNa_isDigit_11 : decode mNa_isDigit.2.1 11 = .ok (.istore_n 1, 1) := by decide +kernel
theorem dNa_isDigit_12 : decode mNa_isDigit.2.1 12 = .ok (.iload_n 1, 1) := by decide +kernel
theorem dNa_isDigit_13 : decode mNa_isDigit.2.1 13 = .ok (.bipush 48, 2) := by decide +kernel
theorem dNa_isDigit_15 : decode mNa_isDigit.2.1 15 = .ok (.if_icmp .lt 13, 3) := by decide +kernel
theorem dNa_isDigit_18 : decode mNa_isDigit.2.1 18 = .ok (.iload_n 1, 1) := by decide +kernel
theorem dNa_isDigit_19 : decode mNa_isDigit.2.1 19 = .ok (.bipush 57, 2) := by decide +kernel
theorem dNa_isDigit_21 : decode mNa_isDigit.2.1 21 = .ok (.if_icmp .gt 7, 3) := by decide +kernel
theorem dNa_isDigit_24 : decode mNa_isDigit.2.1 24 = .ok (.iconst 1, 1) := by decide +kernel
theorem dNa_isDigit_25 : decode mNa_isDigit.2.1 25 = .ok (.goto 4, 3) := by decide +kernel
theorem dNa_isDigit_28 : decode mNa_isDigit.2.1 28 = .ok (.iconst 0, 1) := by decide +kernel
theorem dNa_isDigit_29 : decode mNa_isDigit.2.1 29 = .ok (.ireturn, 1) := by decide +kernel
theorem dNa_fail_0 : decode mNa_fail.2.1 0 = .ok (.aload_n 0, 1) := by decide +kernel
theorem dNa_fail_1 : decode mNa_fail.2.1 1 = .ok (.getfield 19, 3) := by decide +kernel
theorem dNa_fail_4 : decode mNa_fail.2.1 4 = .ok (.iconst (-1), 1) := by decide +kernel
theorem dNa_fail_5 : decode mNa_fail.2.1 5 = .ok (.if_icmp .ne 8, 3) := by decide +kernel
theorem dNa_fail_8 : decode mNa_fail.2.1 8 = .ok (.aload_n 0, 1) := by decide +kernel
theorem dNa_fail_9 : decode mNa_fail.2.1 9 = .ok (.iload_n 1, 1) := by decide +kernel
theorem dNa_fail_10 : decode mNa_fail.2.1 10 = .ok (.putfield 19, 3) := by decide +kernel
theorem dNa_fail_13 : decode mNa_fail.2.1 13 = .ok (.return_, 1) := by decide +kernel
theorem dNa_readSign_0 : decode mNa_readSign.2.1 0 = .ok (.aload_n 0, 1) := by decide +kernel
theorem dNa_readSign_1 : decode mNa_readSign.2.1 1 = .ok (.invokevirtual 27, 3) := by decide +kernel
theorem dNa_readSign_4 : decode mNa_readSign.2.1 4 = .ok (.aload_n 0, 1) := by decide +kernel
theorem dNa_readSign_5 : decode mNa_readSign.2.1 5 = .ok (.getfield 9, 3) := by decide +kernel
theorem dNa_readSign_8 : decode mNa_readSign.2.1 8 = .ok (.aload_n 0, 1) := by decide +kernel
theorem dNa_readSign_9 : decode mNa_readSign.2.1 9 = .ok (.getfield 15, 3) := by decide +kernel
theorem dNa_readSign_12 : decode mNa_readSign.2.1 12 = .ok (.invokevirtual 60, 3) := by decide +kernel
theorem dNa_readSign_15 : decode mNa_readSign.2.1 15 = .ok (.iload_n 1, 1) := by decide +kernel
theorem dNa_readSign_16 : decode mNa_readSign.2.1 16 = .ok (.if_icmp .ne 16, 3) := by decide +kernel
theorem dNa_readSign_19 : decode mNa_readSign.2.1 19 = .ok (.aload_n 0, 1) := by decide +kernel
theorem dNa_readSign_20 : decode mNa_readSign.2.1 20 = .ok (.dup, 1) := by decide +kernel
theorem dNa_readSign_21 : decode mNa_readSign.2.1 21 = .ok (.getfield 15, 3) := by decide +kernel
theorem dNa_readSign_24 : decode mNa_readSign.2.1 24 = .ok (.iconst 1, 1) := by decide +kernel
theorem dNa_readSign_25 : decode mNa_readSign.2.1 25 = .ok (.iadd, 1) := by decide +kernel
theorem dNa_readSign_26 : decode mNa_readSign.2.1 26 = .ok (.putfield 15, 3) := by decide +kernel
theorem dNa_readSign_29 : decode mNa_readSign.2.1 29 = .ok (.goto 11, 3) := by decide +kernel
theorem dNa_readSign_32 : decode mNa_readSign.2.1 32 = .ok (.aload_n 0, 1) := by decide +kernel
theorem dNa_readSign_33 : decode mNa_readSign.2.1 33 = .ok (.aload_n 0, 1) := by decide +kernel
theorem dNa_readSign_34 : decode mNa_readSign.2.1 34 = .ok (.getfield 15, 3) := by decide +kernel
theorem dNa_readSign_37 : decode mNa_readSign.2.1 37 = .ok (.invokevirtual 64, 3) := by decide +kernel
theorem dNa_readSign_40 : decode mNa_readSign.2.1 40 = .ok (.return_, 1) := by decide +kernel
theorem dRu_add_0 : decode mRu_add.2.1 0 = .ok (.aload_n 0, 1) := by decide +kernel
theorem dRu_add_1 : decode mRu_add.2.1 1 = .ok (.invokevirtual 28, 3) := by decide +kernel
theorem dRu_add_4 : decode mRu_add.2.1 4 = .ok (.ifCond .ne 54, 3) := by decide +kernel
theorem dRu_add_7 : decode mRu_add.2.1 7 = .ok (.aload_n 0, 1) := by decide +kernel
theorem dRu_add_8 : decode mRu_add.2.1 8 = .ok (.getfield 11, 3) := by decide +kernel
theorem dRu_add_11 : decode mRu_add.2.1 11 = .ok (.aload_n 0, 1) := by decide +kernel
theorem dRu_add_12 : decode mRu_add.2.1 12 = .ok (.getfield 24, 3) := by decide +kernel
theorem dRu_add_15 : decode mRu_add.2.1 15 = .ok (.iload_n 1, 1) := by decide +kernel
theorem dRu_add_16 : decode mRu_add.2.1 16 = .ok (.iastore, 1) := by decide +kernel
theorem dRu_add_17 : decode mRu_add.2.1 17 = .ok (.aload_n 0, 1) := by decide +kernel
theorem dRu_add_18 : decode mRu_add.2.1 18 = .ok (.getfield 15, 3) := by decide +kernel
theorem dRu_add_21 : decode mRu_add.2.1 21 = .ok (.aload_n 0, 1) := by decide +kernel
theorem dRu_add_22 : decode mRu_add.2.1 22 = .ok (.getfield 24, 3) := by decide +kernel
theorem dRu_add_25 : decode mRu_add.2.1 25 = .ok (.iload_n 2, 1) := by decide +kernel
theorem dRu_add_26 : decode mRu_add.2.1 26 = .ok (.iastore, 1) := by decide +kernel
theorem dRu_add_27 : decode mRu_add.2.1 27 = .ok (.aload_n 0, 1) := by decide +kernel
theorem dRu_add_28 : decode mRu_add.2.1 28 = .ok (.getfield 18, 3) := by decide +kernel
theorem dRu_add_31 : decode mRu_add.2.1 31 = .ok (.aload_n 0, 1) := by decide +kernel
theorem dRu_add_32 : decode mRu_add.2.1 32 = .ok (.getfield 24, 3) := by decide +kernel
theorem dRu_add_35 : decode mRu_add.2.1 35 = .ok (.iload_n 3, 1) := by decide +kernel
theorem dRu_add_36 : decode mRu_add.2.1 36 = .ok (.iastore, 1) := by decide +kernel
theorem dRu_add_37 : decode mRu_add.2.1 37 = .ok (.aload_n 0, 1) := by decide +kernel
theorem dRu_add_38 : decode mRu_add.2.1 38 = .ok (.getfield 21, 3) := by decide +kernel
theorem dRu_add_41 : decode mRu_add.2.1 41 = .ok (.aload_n 0, 1) := by decide +kernel
theorem dRu_add_42 : decode mRu_add.2.1 42 = .ok (.getfield 24, 3) := by decide +kernel
theorem dRu_add_45 : decode mRu_add.2.1 45 = .ok (.iload 4, 2) := by decide +kernel
theorem dRu_add_47 : decode mRu_add.2.1 47 = .ok (.iastore, 1) := by decide +kernel
theorem dRu_add_48 : decode mRu_add.2.1 48 = .ok (.aload_n 0, 1) := by decide +kernel
theorem dRu_add_49 : decode mRu_add.2.1 49 = .ok (.dup, 1) := by decide +kernel
theorem dRu_add_50 : decode mRu_add.2.1 50 = .ok (.getfield 24, 3) := by decide +kernel
theorem dRu_add_53 : decode mRu_add.2.1 53 = .ok (.iconst 1, 1) := by decide +kernel
theorem dRu_add_54 : decode mRu_add.2.1 54 = .ok (.iadd, 1) := by decide +kernel
theorem dRu_add_55 : decode mRu_add.2.1 55 = .ok (.putfield 24, 3) := by decide +kernel
theorem dRu_add_58 : decode mRu_add.2.1 58 = .ok (.return_, 1) := by decide +kernel
theorem dBy_clear_0 : decode mBy_clear.2.1 0 = .ok (.aload_n 0, 1) := by decide +kernel
theorem dBy_clear_1 : decode mBy_clear.2.1 1 = .ok (.iconst 0, 1) := by decide +kernel
theorem dBy_clear_2 : decode mBy_clear.2.1 2 = .ok (.putfield 21, 3) := by decide +kernel
theorem dBy_clear_5 : decode mBy_clear.2.1 5 = .ok (.return_, 1) := by decide +kernel
theorem dRu_size_0 : decode mRu_size.2.1 0 = .ok (.aload_n 0, 1) := by decide +kernel
theorem dRu_size_1 : decode mRu_size.2.1 1 = .ok (.getfield 24, 3) := by decide +kernel
theorem dRu_size_4 : decode mRu_size.2.1 4 = .ok (.ireturn, 1) := by decide +kernel
theorem dRu_inForce_0 : decode mRu_inForce.2.1 0 = .ok (.iconst (-1), 1) := by decide +kernel
theorem dRu_inForce_1 : decode mRu_inForce.2.1 1 = .ok (.istore_n 3, 1) := by decide +kernel
theorem dRu_inForce_2 : decode mRu_inForce.2.1 2 = .ok (.iconst 0, 1) := by decide +kernel
theorem dRu_inForce_3 : decode mRu_inForce.2.1 3 = .ok (.istore 4, 2) := by decide +kernel
theorem dRu_inForce_5 : decode mRu_inForce.2.1 5 = .ok (.iload 4, 2) := by decide +kernel
theorem dRu_inForce_7 : decode mRu_inForce.2.1 7 = .ok (.aload_n 0, 1) := by decide +kernel
theorem dRu_inForce_8 : decode mRu_inForce.2.1 8 = .ok (.getfield 24, 3) := by decide +kernel
theorem dRu_inForce_11 : decode mRu_inForce.2.1 11 = .ok (.if_icmp .ge 67, 3) := by decide +kernel
theorem dRu_inForce_14 : decode mRu_inForce.2.1 14 = .ok (.aload_n 0, 1) := by decide +kernel
theorem dRu_inForce_15 : decode mRu_inForce.2.1 15 = .ok (.getfield 11, 3) := by decide +kernel
theorem dRu_inForce_18 : decode mRu_inForce.2.1 18 = .ok (.iload 4, 2) := by decide +kernel
theorem dRu_inForce_20 : decode mRu_inForce.2.1 20 = .ok (.iaload, 1) := by decide +kernel
theorem dRu_inForce_21 : decode mRu_inForce.2.1 21 = .ok (.iload_n 1, 1) := by decide +kernel
theorem dRu_inForce_22 : decode mRu_inForce.2.1 22 = .ok (.if_icmp .ne 18, 3) := by decide +kernel
theorem dRu_inForce_25 : decode mRu_inForce.2.1 25 = .ok (.aload_n 0, 1) := by decide +kernel
theorem dRu_inForce_26 : decode mRu_inForce.2.1 26 = .ok (.getfield 21, 3) := by decide +kernel
theorem dRu_inForce_29 : decode mRu_inForce.2.1 29 = .ok (.iload 4, 2) := by decide +kernel
theorem dRu_inForce_31 : decode mRu_inForce.2.1 31 = .ok (.iaload, 1) := by decide +kernel
theorem dRu_inForce_32 : decode mRu_inForce.2.1 32 = .ok (.iload_n 2, 1) := by decide +kernel
theorem dRu_inForce_33 : decode mRu_inForce.2.1 33 = .ok (.if_icmp .gt 7, 3) := by decide +kernel
theorem dRu_inForce_36 : decode mRu_inForce.2.1 36 = .ok (.iconst 1, 1) := by decide +kernel
theorem dRu_inForce_37 : decode mRu_inForce.2.1 37 = .ok (.goto 4, 3) := by decide +kernel
theorem dRu_inForce_40 : decode mRu_inForce.2.1 40 = .ok (.iconst 0, 1) := by decide +kernel
theorem dRu_inForce_41 : decode mRu_inForce.2.1 41 = .ok (.istore 5, 2) := by decide +kernel
theorem dRu_inForce_43 : decode mRu_inForce.2.1 43 = .ok (.iload 5, 2) := by decide +kernel
theorem dRu_inForce_45 : decode mRu_inForce.2.1 45 = .ok (.ifCond .eq 27, 3) := by decide +kernel
theorem dRu_inForce_48 : decode mRu_inForce.2.1 48 = .ok (.iload_n 3, 1) := by decide +kernel
theorem dRu_inForce_49 : decode mRu_inForce.2.1 49 = .ok (.iconst (-1), 1) := by decide +kernel
theorem dRu_inForce_50 : decode mRu_inForce.2.1 50 = .ok (.if_icmp .eq 19, 3) := by decide +kernel
theorem dRu_inForce_53 : decode mRu_inForce.2.1 53 = .ok (.aload_n 0, 1) := by decide +kernel
theorem dRu_inForce_54 : decode mRu_inForce.2.1 54 = .ok (.getfield 21, 3) := by decide +kernel
theorem dRu_inForce_57 : decode mRu_inForce.2.1 57 = .ok (.iload 4, 2) := by decide +kernel
theorem dRu_inForce_59 : decode mRu_inForce.2.1 59 = .ok (.iaload, 1) := by decide +kernel
theorem dRu_inForce_60 : decode mRu_inForce.2.1 60 = .ok (.aload_n 0, 1) := by decide +kernel
theorem dRu_inForce_61 : decode mRu_inForce.2.1 61 = .ok (.getfield 21, 3) := by decide +kernel
theorem dRu_inForce_64 : decode mRu_inForce.2.1 64 = .ok (.iload_n 3, 1) := by decide +kernel
theorem dRu_inForce_65 : decode mRu_inForce.2.1 65 = .ok (.iaload, 1) := by decide +kernel
theorem dRu_inForce_66 : decode mRu_inForce.2.1 66 = .ok (.if_icmp .lt 6, 3) := by decide +kernel
theorem dRu_inForce_69 : decode mRu_inForce.2.1 69 = .ok (.iload 4, 2) := by decide +kernel
theorem dRu_inForce_71 : decode mRu_inForce.2.1 71 = .ok (.istore_n 3, 1) := by decide +kernel
theorem dRu_inForce_72 : decode mRu_inForce.2.1 72 = .ok (.iinc 4 1, 3) := by decide +kernel
theorem dRu_inForce_75 : decode mRu_inForce.2.1 75 = .ok (.goto (-70), 3) := by decide +kernel
theorem dRu_inForce_78 : decode mRu_inForce.2.1 78 = .ok (.iload_n 3, 1) := by decide +kernel
theorem dRu_inForce_79 : decode mRu_inForce.2.1 79 = .ok (.ireturn, 1) := by decide +kernel
theorem dRu_allows_0 : decode mRu_allows.2.1 0 = .ok (.iload_n 1, 1) := by decide +kernel
theorem dRu_allows_1 : decode mRu_allows.2.1 1 = .ok (.ifCond .lt 35, 3) := by decide +kernel
theorem dRu_allows_4 : decode mRu_allows.2.1 4 = .ok (.iload_n 1, 1) := by decide +kernel
theorem dRu_allows_5 : decode mRu_allows.2.1 5 = .ok (.aload_n 0, 1) := by decide +kernel
theorem dRu_allows_6 : decode mRu_allows.2.1 6 = .ok (.getfield 24, 3) := by decide +kernel
theorem dRu_allows_9 : decode mRu_allows.2.1 9 = .ok (.if_icmp .ge 27, 3) := by decide +kernel
theorem dRu_allows_12 : decode mRu_allows.2.1 12 = .ok (.iload_n 2, 1) := by decide +kernel
theorem dRu_allows_13 : decode mRu_allows.2.1 13 = .ok (.aload_n 0, 1) := by decide +kernel
theorem dRu_allows_14 : decode mRu_allows.2.1 14 = .ok (.getfield 15, 3) := by decide +kernel
theorem dRu_allows_17 : decode mRu_allows.2.1 17 = .ok (.iload_n 1, 1) := by decide +kernel
theorem dRu_allows_18 : decode mRu_allows.2.1 18 = .ok (.iaload, 1) := by decide +kernel
theorem dRu_allows_19 : decode mRu_allows.2.1 19 = .ok (.if_icmp .lt 17, 3) := by decide +kernel
theorem dRu_allows_22 : decode mRu_allows.2.1 22 = .ok (.iload_n 2, 1) := by decide +kernel
theorem dRu_allows_23 : decode mRu_allows.2.1 23 = .ok (.aload_n 0, 1) := by decide +kernel
theorem dRu_allows_24 : decode mRu_allows.2.1 24 = .ok (.getfield 18, 3) := by decide +kernel
theorem dRu_allows_27 : decode mRu_allows.2.1 27 = .ok (.iload_n 1, 1) := by decide +kernel
theorem dRu_allows_28 : decode mRu_allows.2.1 28 = .ok (.iaload, 1) := by decide +kernel
theorem dRu_allows_29 : decode mRu_allows.2.1 29 = .ok (.if_icmp .gt 7, 3) := by decide +kernel
theorem dRu_allows_32 : decode mRu_allows.2.1 32 = .ok (.iconst 1, 1) := by decide +kernel
theorem dRu_allows_33 : decode mRu_allows.2.1 33 = .ok (.goto 4, 3) := by decide +kernel
theorem dRu_allows_36 : decode mRu_allows.2.1 36 = .ok (.iconst 0, 1) := by decide +kernel
theorem dRu_allows_37 : decode mRu_allows.2.1 37 = .ok (.ireturn, 1) := by decide +kernel
theorem dLe_open_0 : decode mLe_open.2.1 0 = .ok (.aload_n 0, 1) := by decide +kernel
theorem dLe_open_1 : decode mLe_open.2.1 1 = .ok (.getfield 25, 3) := by decide +kernel
theorem dLe_open_4 : decode mLe_open.2.1 4 = .ok (.aload_n 0, 1) := by decide +kernel
theorem dLe_open_5 : decode mLe_open.2.1 5 = .ok (.getfield 11, 3) := by decide +kernel
theorem dLe_open_8 : decode mLe_open.2.1 8 = .ok (.arraylength, 1) := by decide +kernel
theorem dLe_open_9 : decode mLe_open.2.1 9 = .ok (.if_icmp .lt 5, 3) := by decide +kernel
theorem dLe_open_12 : decode mLe_open.2.1 12 = .ok (.iconst (-1), 1) := by decide +kernel
theorem dLe_open_13 : decode mLe_open.2.1 13 = .ok (.ireturn, 1) := by decide +kernel
theorem dLe_open_14 : decode mLe_open.2.1 14 = .ok (.aload_n 0, 1) := by decide +kernel
theorem dLe_open_15 : decode mLe_open.2.1 15 = .ok (.getfield 11, 3) := by decide +kernel
theorem dLe_open_18 : decode mLe_open.2.1 18 = .ok (.aload_n 0, 1) := by decide +kernel
theorem dLe_open_19 : decode mLe_open.2.1 19 = .ok (.getfield 25, 3) := by decide +kernel
theorem dLe_open_22 : decode mLe_open.2.1 22 = .ok (.iload_n 1, 1) := by decide +kernel
theorem dLe_open_23 : decode mLe_open.2.1 23 = .ok (.iastore, 1) := by decide +kernel
theorem dLe_open_24 : decode mLe_open.2.1 24 = .ok (.aload_n 0, 1) := by decide +kernel
theorem dLe_open_25 : decode mLe_open.2.1 25 = .ok (.dup, 1) := by decide +kernel
theorem dLe_open_26 : decode mLe_open.2.1 26 = .ok (.getfield 25, 3) := by decide +kernel
theorem dLe_open_29 : decode mLe_open.2.1 29 = .ok (.iconst 1, 1) := by decide +kernel
theorem dLe_open_30 : decode mLe_open.2.1 30 = .ok (.iadd, 1) := by decide +kernel
theorem dLe_open_31 : decode mLe_open.2.1 31 = .ok (.putfield 25, 3) := by decide +kernel
theorem dLe_open_34 : decode mLe_open.2.1 34 = .ok (.aload_n 0, 1) := by decide +kernel
theorem dLe_open_35 : decode mLe_open.2.1 35 = .ok (.getfield 25, 3) := by decide +kernel
theorem dLe_open_38 : decode mLe_open.2.1 38 = .ok (.iconst 1, 1) := by decide +kernel
theorem dLe_open_39 : decode mLe_open.2.1 39 = .ok (.isub, 1) := by decide +kernel
theorem dLe_open_40 : decode mLe_open.2.1 40 = .ok (.ireturn, 1) := by decide +kernel
theorem dLe_has_0 : decode mLe_has.2.1 0 = .ok (.iload_n 1, 1) := by decide +kernel
theorem dLe_has_1 : decode mLe_has.2.1 1 = .ok (.ifCond .lt 15, 3) := by decide +kernel
theorem dLe_has_4 : decode mLe_has.2.1 4 = .ok (.iload_n 1, 1) := by decide +kernel
theorem dLe_has_5 : decode mLe_has.2.1 5 = .ok (.aload_n 0, 1) := by decide +kernel
theorem dLe_has_6 : decode mLe_has.2.1 6 = .ok (.getfield 25, 3) := by decide +kernel
theorem dLe_has_9 : decode mLe_has.2.1 9 = .ok (.if_icmp .ge 7, 3) := by decide +kernel
theorem dLe_has_12 : decode mLe_has.2.1 12 = .ok (.iconst 1, 1) := by decide +kernel
theorem dLe_has_13 : decode mLe_has.2.1 13 = .ok (.goto 4, 3) := by decide +kernel
theorem dLe_has_16 : decode mLe_has.2.1 16 = .ok (.iconst 0, 1) := by decide +kernel
theorem dLe_has_17 : decode mLe_has.2.1 17 = .ok (.ireturn, 1) := by decide +kernel
theorem dLe_isFull_0 : decode mLe_isFull.2.1 0 = .ok (.aload_n 0, 1) := by decide +kernel
theorem dLe_isFull_1 : decode mLe_isFull.2.1 1 = .ok (.getfield 29, 3) := by decide +kernel
theorem dLe_isFull_4 : decode mLe_isFull.2.1 4 = .ok (.aload_n 0, 1) := by decide +kernel
theorem dLe_isFull_5 : decode mLe_isFull.2.1 5 = .ok (.getfield 15, 3) := by decide +kernel
theorem dLe_isFull_8 : decode mLe_isFull.2.1 8 = .ok (.arraylength, 1) := by decide +kernel
theorem dLe_isFull_9 : decode mLe_isFull.2.1 9 = .ok (.if_icmp .lt 7, 3) := by decide +kernel
theorem dLe_isFull_12 : decode mLe_isFull.2.1 12 = .ok (.iconst 1, 1) := by decide +kernel
theorem dLe_isFull_13 : decode mLe_isFull.2.1 13 = .ok (.goto 4, 3) := by decide +kernel
theorem dLe_isFull_16 : decode mLe_isFull.2.1 16 = .ok (.iconst 0, 1) := by decide +kernel
theorem dLe_isFull_17 : decode mLe_isFull.2.1 17 = .ok (.ireturn, 1) := by decide +kernel
theorem dLe_enter_0 : decode mLe_enter.2.1 0 = .ok (.aload_n 0, 1) := by decide +kernel
theorem dLe_enter_1 : decode mLe_enter.2.1 1 = .ok (.invokevirtual 36, 3) := by decide +kernel
theorem dLe_enter_4 : decode mLe_enter.2.1 4 = .ok (.ifCond .ne 44, 3) := by decide +kernel
theorem dLe_enter_7 : decode mLe_enter.2.1 7 = .ok (.aload_n 0, 1) := by decide +kernel
theorem dLe_enter_8 : decode mLe_enter.2.1 8 = .ok (.getfield 15, 3) := by decide +kernel
theorem dLe_enter_11 : decode mLe_enter.2.1 11 = .ok (.aload_n 0, 1) := by decide +kernel
theorem dLe_enter_12 : decode mLe_enter.2.1 12 = .ok (.getfield 29, 3) := by decide +kernel
theorem dLe_enter_15 : decode mLe_enter.2.1 15 = .ok (.iload_n 1, 1) := by decide +kernel
theorem dLe_enter_16 : decode mLe_enter.2.1 16 = .ok (.iastore, 1) := by decide +kernel
theorem dLe_enter_17 : decode mLe_enter.2.1 17 = .ok (.aload_n 0, 1) := by decide +kernel
theorem dLe_enter_18 : decode mLe_enter.2.1 18 = .ok (.getfield 21, 3) := by decide +kernel
theorem dLe_enter_21 : decode mLe_enter.2.1 21 = .ok (.aload_n 0, 1) := by decide +kernel
theorem dLe_enter_22 : decode mLe_enter.2.1 22 = .ok (.getfield 29, 3) := by decide +kernel
theorem dLe_enter_25 : decode mLe_enter.2.1 25 = .ok (.lload_n 2, 1) := by decide +kernel
theorem dLe_enter_26 : decode mLe_enter.2.1 26 = .ok (.lastore, 1) := by decide +kernel
theorem dLe_enter_27 : decode mLe_enter.2.1 27 = .ok (.aload_n 0, 1) := by decide +kernel
theorem dLe_enter_28 : decode mLe_enter.2.1 28 = .ok (.getfield 18, 3) := by decide +kernel
theorem dLe_enter_31 : decode mLe_enter.2.1 31 = .ok (.aload_n 0, 1) := by decide +kernel
theorem dLe_enter_32 : decode mLe_enter.2.1 32 = .ok (.getfield 29, 3) := by decide +kernel
theorem dLe_enter_35 : decode mLe_enter.2.1 35 = .ok (.iload 4, 2) := by decide +kernel
theorem dLe_enter_37 : decode mLe_enter.2.1 37 = .ok (.iastore, 1) := by decide +kernel
theorem dLe_enter_38 : decode mLe_enter.2.1 38 = .ok (.aload_n 0, 1) := by decide +kernel
theorem dLe_enter_39 : decode mLe_enter.2.1 39 = .ok (.dup, 1) := by decide +kernel
theorem dLe_enter_40 : decode mLe_enter.2.1 40 = .ok (.getfield 29, 3) := by decide +kernel
theorem dLe_enter_43 : decode mLe_enter.2.1 43 = .ok (.iconst 1, 1) := by decide +kernel
theorem dLe_enter_44 : decode mLe_enter.2.1 44 = .ok (.iadd, 1) := by decide +kernel
theorem dLe_enter_45 : decode mLe_enter.2.1 45 = .ok (.putfield 29, 3) := by decide +kernel
theorem dLe_enter_48 : decode mLe_enter.2.1 48 = .ok (.return_, 1) := by decide +kernel
theorem dLe_isOver_0 : decode mLe_isOver.2.1 0 = .ok (.aload_n 0, 1) := by decide +kernel
theorem dLe_isOver_1 : decode mLe_isOver.2.1 1 = .ok (.iload_n 1, 1) := by decide +kernel
theorem dLe_isOver_2 : decode mLe_isOver.2.1 2 = .ok (.invokevirtual 32, 3) := by decide +kernel
theorem dLe_isOver_5 : decode mLe_isOver.2.1 5 = .ok (.ifCond .eq 17, 3) := by decide +kernel
theorem dLe_isOver_8 : decode mLe_isOver.2.1 8 = .ok (.iload_n 2, 1) := by decide +kernel
theorem dLe_isOver_9 : decode mLe_isOver.2.1 9 = .ok (.aload_n 0, 1) := by decide +kernel
theorem dLe_isOver_10 : decode mLe_isOver.2.1 10 = .ok (.getfield 11, 3) := by decide +kernel
theorem dLe_isOver_13 : decode mLe_isOver.2.1 13 = .ok (.iload_n 1, 1) := by decide +kernel
theorem dLe_isOver_14 : decode mLe_isOver.2.1 14 = .ok (.iaload, 1) := by decide +kernel
theorem dLe_isOver_15 : decode mLe_isOver.2.1 15 = .ok (.if_icmp .le 7, 3) := by decide +kernel
theorem dLe_isOver_18 : decode mLe_isOver.2.1 18 = .ok (.iconst 1, 1) := by decide +kernel
theorem dLe_isOver_19 : decode mLe_isOver.2.1 19 = .ok (.goto 4, 3) := by decide +kernel
theorem dLe_isOver_22 : decode mLe_isOver.2.1 22 = .ok (.iconst 0, 1) := by decide +kernel
theorem dLe_isOver_23 : decode mLe_isOver.2.1 23 = .ok (.ireturn, 1) := by decide +kernel
theorem dLe_covers_0 : decode mLe_covers.2.1 0 = .ok (.aload_n 0, 1) := by decide +kernel
theorem dLe_covers_1 : decode mLe_covers.2.1 1 = .ok (.iload_n 1, 1) := by decide +kernel
theorem dLe_covers_2 : decode mLe_covers.2.1 2 = .ok (.iload 4, 2) := by decide +kernel
theorem dLe_covers_4 : decode mLe_covers.2.1 4 = .ok (.invokevirtual 40, 3) := by decide +kernel
theorem dLe_covers_7 : decode mLe_covers.2.1 7 = .ok (.lload_n 2, 1) := by decide +kernel
theorem dLe_covers_8 : decode mLe_covers.2.1 8 = .ok (.lcmp, 1) := by decide +kernel
theorem dLe_covers_9 : decode mLe_covers.2.1 9 = .ok (.ifCond .ge 5, 3) := by decide +kernel
theorem dLe_covers_12 : decode mLe_covers.2.1 12 = .ok (.iconst 0, 1) := by decide +kernel
theorem dLe_covers_13 : decode mLe_covers.2.1 13 = .ok (.ireturn, 1) := by decide +kernel
theorem dLe_covers_14 : decode mLe_covers.2.1 14 = .ok (.iconst 0, 1) := by decide +kernel
theorem dLe_covers_15 : decode mLe_covers.2.1 15 = .ok (.istore 5, 2) := by decide +kernel
theorem dLe_covers_17 : decode mLe_covers.2.1 17 = .ok (.iload 5, 2) := by decide +kernel
theorem dLe_covers_19 : decode mLe_covers.2.1 19 = .ok (.aload_n 0, 1) := by decide +kernel
theorem dLe_covers_20 : decode mLe_covers.2.1 20 = .ok (.getfield 29, 3) := by decide +kernel
theorem dLe_covers_23 : decode mLe_covers.2.1 23 = .ok (.if_icmp .ge 63, 3) := by decide +kernel
theorem dLe_covers_26 : decode mLe_covers.2.1 26 = .ok (.aload_n 0, 1) := by decide +kernel
theorem dLe_covers_27 : decode mLe_covers.2.1 27 = .ok (.getfield 15, 3) := by decide +kernel
theorem dLe_covers_30 : decode mLe_covers.2.1 30 = .ok (.iload 5, 2) := by decide +kernel
theorem dLe_covers_32 : decode mLe_covers.2.1 32 = .ok (.iaload, 1) := by decide +kernel
theorem dLe_covers_33 : decode mLe_covers.2.1 33 = .ok (.iload_n 1, 1) := by decide +kernel
theorem dLe_covers_34 : decode mLe_covers.2.1 34 = .ok (.if_icmp .ne 19, 3) := by decide +kernel
theorem dLe_covers_37 : decode mLe_covers.2.1 37 = .ok (.aload_n 0, 1) := by decide +kernel
theorem dLe_covers_38 : decode mLe_covers.2.1 38 = .ok (.getfield 18, 3) := by decide +kernel
theorem dLe_covers_41 : decode mLe_covers.2.1 41 = .ok (.iload 5, 2) := by decide +kernel
theorem dLe_covers_43 : decode mLe_covers.2.1 43 = .ok (.iaload, 1) := by decide +kernel
theorem dLe_covers_44 : decode mLe_covers.2.1 44 = .ok (.iload 4, 2) := by decide +kernel
theorem dLe_covers_46 : decode mLe_covers.2.1 46 = .ok (.if_icmp .le 7, 3) := by decide +kernel
theorem dLe_covers_49 : decode mLe_covers.2.1 49 = .ok (.iconst 1, 1) := by decide +kernel
theorem dLe_covers_50 : decode mLe_covers.2.1 50 = .ok (.goto 4, 3) := by decide +kernel
theorem dLe_covers_53 : decode mLe_covers.2.1 53 = .ok (.iconst 0, 1) := by decide +kernel
theorem dLe_covers_54 : decode mLe_covers.2.1 54 = .ok (.istore 6, 2) := by decide +kernel
theorem dLe_covers_56 : decode mLe_covers.2.1 56 = .ok (.iload 6, 2) := by decide +kernel
theorem dLe_covers_58 : decode mLe_covers.2.1 58 = .ok (.ifCond .eq 22, 3) := by decide +kernel
theorem dLe_covers_61 : decode mLe_covers.2.1 61 = .ok (.aload_n 0, 1) := by decide +kernel
theorem dLe_covers_62 : decode mLe_covers.2.1 62 = .ok (.iload_n 1, 1) := by decide +kernel
theorem dLe_covers_63 : decode mLe_covers.2.1 63 = .ok (.aload_n 0, 1) := by decide +kernel
theorem dLe_covers_64 : decode mLe_covers.2.1 64 = .ok (.getfield 18, 3) := by decide +kernel
theorem dLe_covers_67 : decode mLe_covers.2.1 67 = .ok (.iload 5, 2) := by decide +kernel
theorem dLe_covers_69 : decode mLe_covers.2.1 69 = .ok (.iaload, 1) := by decide +kernel
theorem dLe_covers_70 : decode mLe_covers.2.1 70 = .ok (.invokevirtual 40, 3) := by decide +kernel
theorem dLe_covers_73 : decode mLe_covers.2.1 73 = .ok (.lload_n 2, 1) := by decide +kernel
theorem dLe_covers_74 : decode mLe_covers.2.1 74 = .ok (.lcmp, 1) := by decide +kernel
theorem dLe_covers_75 : decode mLe_covers.2.1 75 = .ok (.ifCond .ge 5, 3) := by decide +kernel
theorem dLe_covers_78 : decode mLe_covers.2.1 78 = .ok (.iconst 0, 1) := by decide +kernel
theorem dLe_covers_79 : decode mLe_covers.2.1 79 = .ok (.ireturn, 1) := by decide +kernel
theorem dLe_covers_80 : decode mLe_covers.2.1 80 = .ok (.iinc 5 1, 3) := by decide +kernel
theorem dLe_covers_83 : decode mLe_covers.2.1 83 = .ok (.goto (-66), 3) := by decide +kernel
theorem dLe_covers_86 : decode mLe_covers.2.1 86 = .ok (.iconst 1, 1) := by decide +kernel
theorem dLe_covers_87 : decode mLe_covers.2.1 87 = .ok (.ireturn, 1) := by decide +kernel
theorem dLe_sumUpTo_0 : decode mLe_sumUpTo.2.1 0 = .ok (.lconst 0, 1) := by decide +kernel
theorem dLe_sumUpTo_1 : decode mLe_sumUpTo.2.1 1 = .ok (.lstore_n 3, 1) := by decide +kernel
theorem dLe_sumUpTo_2 : decode mLe_sumUpTo.2.1 2 = .ok (.iconst 0, 1) := by decide +kernel
theorem dLe_sumUpTo_3 : decode mLe_sumUpTo.2.1 3 = .ok (.istore 5, 2) := by decide +kernel
theorem dLe_sumUpTo_5 : decode mLe_sumUpTo.2.1 5 = .ok (.iload 5, 2) := by decide +kernel
theorem dLe_sumUpTo_7 : decode mLe_sumUpTo.2.1 7 = .ok (.aload_n 0, 1) := by decide +kernel
theorem dLe_sumUpTo_8 : decode mLe_sumUpTo.2.1 8 = .ok (.getfield 29, 3) := by decide +kernel
theorem dLe_sumUpTo_11 : decode mLe_sumUpTo.2.1 11 = .ok (.if_icmp .ge 41, 3) := by decide +kernel
theorem dLe_sumUpTo_14 : decode mLe_sumUpTo.2.1 14 = .ok (.aload_n 0, 1) := by decide +kernel
theorem dLe_sumUpTo_15 : decode mLe_sumUpTo.2.1 15 = .ok (.getfield 15, 3) := by decide +kernel
theorem dLe_sumUpTo_18 : decode mLe_sumUpTo.2.1 18 = .ok (.iload 5, 2) := by decide +kernel
theorem dLe_sumUpTo_20 : decode mLe_sumUpTo.2.1 20 = .ok (.iaload, 1) := by decide +kernel
theorem dLe_sumUpTo_21 : decode mLe_sumUpTo.2.1 21 = .ok (.iload_n 1, 1) := by decide +kernel
theorem dLe_sumUpTo_22 : decode mLe_sumUpTo.2.1 22 = .ok (.if_icmp .ne 24, 3) := by decide +kernel
theorem dLe_sumUpTo_25 : decode mLe_sumUpTo.2.1 25 = .ok (.aload_n 0, 1) := by decide +kernel
theorem dLe_sumUpTo_26 : decode mLe_sumUpTo.2.1 26 = .ok (.getfield 18, 3) := by decide +kernel
theorem dLe_sumUpTo_29 : decode mLe_sumUpTo.2.1 29 = .ok (.iload 5, 2) := by decide +kernel
theorem dLe_sumUpTo_31 : decode mLe_sumUpTo.2.1 31 = .ok (.iaload, 1) := by decide +kernel
theorem dLe_sumUpTo_32 : decode mLe_sumUpTo.2.1 32 = .ok (.iload_n 2, 1) := by decide +kernel
theorem dLe_sumUpTo_33 : decode mLe_sumUpTo.2.1 33 = .ok (.if_icmp .gt 13, 3) := by decide +kernel
theorem dLe_sumUpTo_36 : decode mLe_sumUpTo.2.1 36 = .ok (.lload_n 3, 1) := by decide +kernel
theorem dLe_sumUpTo_37 : decode mLe_sumUpTo.2.1 37 = .ok (.aload_n 0, 1) := by decide +kernel
theorem dLe_sumUpTo_38 : decode mLe_sumUpTo.2.1 38 = .ok (.getfield 21, 3) := by decide +kernel
theorem dLe_sumUpTo_41 : decode mLe_sumUpTo.2.1 41 = .ok (.iload 5, 2) := by decide +kernel
theorem dLe_sumUpTo_43 : decode mLe_sumUpTo.2.1 43 = .ok (.laload, 1) := by decide +kernel
theorem dLe_sumUpTo_44 : decode mLe_sumUpTo.2.1 44 = .ok (.ladd, 1) := by decide +kernel
theorem dLe_sumUpTo_45 : decode mLe_sumUpTo.2.1 45 = .ok (.lstore_n 3, 1) := by decide +kernel
theorem dLe_sumUpTo_46 : decode mLe_sumUpTo.2.1 46 = .ok (.iinc 5 1, 3) := by decide +kernel
theorem dLe_sumUpTo_49 : decode mLe_sumUpTo.2.1 49 = .ok (.goto (-44), 3) := by decide +kernel
theorem dLe_sumUpTo_52 : decode mLe_sumUpTo.2.1 52 = .ok (.lload_n 3, 1) := by decide +kernel
theorem dLe_sumUpTo_53 : decode mLe_sumUpTo.2.1 53 = .ok (.lreturn, 1) := by decide +kernel
theorem dBy_putNumber_0 : decode mBy_putNumber.2.1 0 = .ok (.aload_n 0, 1) := by decide +kernel
theorem dBy_putNumber_1 : decode mBy_putNumber.2.1 1 = .ok (.getfield 21, 3) := by decide +kernel
theorem dBy_putNumber_4 : decode mBy_putNumber.2.1 4 = .ok (.lload_n 1, 1) := by decide +kernel
theorem dBy_putNumber_5 : decode mBy_putNumber.2.1 5 = .ok (.invokestatic 25, 3) := by decide +kernel
theorem dBy_putNumber_8 : decode mBy_putNumber.2.1 8 = .ok (.iadd, 1) := by decide +kernel
theorem dBy_putNumber_9 : decode mBy_putNumber.2.1 9 = .ok (.istore_n 3, 1) := by decide +kernel
theorem dBy_putNumber_10 : decode mBy_putNumber.2.1 10 = .ok (.lload_n 1, 1) := by decide +kernel
theorem dBy_putNumber_11 : decode mBy_putNumber.2.1 11 = .ok (.lconst 0, 1) := by decide +kernel
theorem dBy_putNumber_12 : decode mBy_putNumber.2.1 12 = .ok (.lcmp, 1) := by decide +kernel
theorem dBy_putNumber_13 : decode mBy_putNumber.2.1 13 = .ok (.ifCond .lt 12, 3) := by decide +kernel
theorem dBy_putNumber_16 : decode mBy_putNumber.2.1 16 = .ok (.iload_n 3, 1) := by decide +kernel
theorem dBy_putNumber_17 : decode mBy_putNumber.2.1 17 = .ok (.aload_n 0, 1) := by decide +kernel
theorem dBy_putNumber_18 : decode mBy_putNumber.2.1 18 = .ok (.getfield 15, 3) := by decide +kernel
theorem dBy_putNumber_21 : decode mBy_putNumber.2.1 21 = .ok (.arraylength, 1) := by decide +kernel
theorem dBy_putNumber_22 : decode mBy_putNumber.2.1 22 = .ok (.if_icmp .le 4, 3) := by decide +kernel
theorem dBy_putNumber_25 : decode mBy_putNumber.2.1 25 = .ok (.return_, 1) := by decide +kernel
theorem dBy_putNumber_26 : decode mBy_putNumber.2.1 26 = .ok (.lload_n 1, 1) := by decide +kernel
theorem dBy_putNumber_27 : decode mBy_putNumber.2.1 27 = .ok (.lstore 4, 2) := by decide +kernel
theorem dBy_putNumber_29 : decode mBy_putNumber.2.1 29 = .ok (.iload_n 3, 1) := by decide +kernel
theorem dBy_putNumber_30 : decode mBy_putNumber.2.1 30 = .ok (.iconst 1, 1) := by decide +kernel
theorem dBy_putNumber_31 : decode mBy_putNumber.2.1 31 = .ok (.isub, 1) := by decide +kernel
theorem dBy_putNumber_32 : decode mBy_putNumber.2.1 32 = .ok (.istore 6, 2) := by decide +kernel
theorem dBy_putNumber_34 : decode mBy_putNumber.2.1 34 = .ok (.iload 6, 2) := by decide +kernel
theorem dBy_putNumber_36 : decode mBy_putNumber.2.1 36 = .ok (.aload_n 0, 1) := by decide +kernel
theorem dBy_putNumber_37 : decode mBy_putNumber.2.1 37 = .ok (.getfield 21, 3) := by decide +kernel
theorem dBy_putNumber_40 : decode mBy_putNumber.2.1 40 = .ok (.if_icmp .lt 34, 3) := by decide +kernel
theorem dBy_putNumber_43 : decode mBy_putNumber.2.1 43 = .ok (.aload_n 0, 1) := by decide +kernel
theorem dBy_putNumber_44 : decode mBy_putNumber.2.1 44 = .ok (.getfield 15, 3) := by decide +kernel
theorem dBy_putNumber_47 : decode mBy_putNumber.2.1 47 = .ok (.iload 6, 2) := by decide +kernel
theorem dBy_putNumber_49 : decode mBy_putNumber.2.1 49 = .ok (.bipush 48, 2) := by decide +kernel
theorem dBy_putNumber_51 : decode mBy_putNumber.2.1 51 = .ok (.lload 4, 2) := by decide +kernel
theorem dBy_putNumber_53 : decode mBy_putNumber.2.1 53 = .ok (.ldc2_w 29, 3) := by decide +kernel
theorem dBy_putNumber_56 : decode mBy_putNumber.2.1 56 = .ok (.lrem, 1) := by decide +kernel
theorem dBy_putNumber_57 : decode mBy_putNumber.2.1 57 = .ok (.l2i, 1) := by decide +kernel
theorem dBy_putNumber_58 : decode mBy_putNumber.2.1 58 = .ok (.iadd, 1) := by decide +kernel
theorem dBy_putNumber_59 : decode mBy_putNumber.2.1 59 = .ok (.iastore, 1) := by decide +kernel
theorem dBy_putNumber_60 : decode mBy_putNumber.2.1 60 = .ok (.lload 4, 2) := by decide +kernel
theorem dBy_putNumber_62 : decode mBy_putNumber.2.1 62 = .ok (.ldc2_w 29, 3) := by decide +kernel
theorem dBy_putNumber_65 : decode mBy_putNumber.2.1 65 = .ok (.ldiv, 1) := by decide +kernel
theorem dBy_putNumber_66 : decode mBy_putNumber.2.1 66 = .ok (.lstore 4, 2) := by decide +kernel
theorem dBy_putNumber_68 : decode mBy_putNumber.2.1 68 = .ok (.iinc 6 (-1), 3) := by decide +kernel
theorem dBy_putNumber_71 : decode mBy_putNumber.2.1 71 = .ok (.goto (-37), 3) := by decide +kernel
theorem dBy_putNumber_74 : decode mBy_putNumber.2.1 74 = .ok (.aload_n 0, 1) := by decide +kernel
theorem dBy_putNumber_75 : decode mBy_putNumber.2.1 75 = .ok (.iload_n 3, 1) := by decide +kernel
theorem dBy_putNumber_76 : decode mBy_putNumber.2.1 76 = .ok (.putfield 21, 3) := by decide +kernel
theorem dBy_putNumber_79 : decode mBy_putNumber.2.1 79 = .ok (.return_, 1) := by decide +kernel
theorem dBy_digitsOf_0 : decode mBy_digitsOf.2.1 0 = .ok (.iconst 1, 1) := by decide +kernel
theorem dBy_digitsOf_1 : decode mBy_digitsOf.2.1 1 = .ok (.istore_n 2, 1) := by decide +kernel
theorem dBy_digitsOf_2 : decode mBy_digitsOf.2.1 2 = .ok (.lload_n 0, 1) := by decide +kernel
theorem dBy_digitsOf_3 : decode mBy_digitsOf.2.1 3 = .ok (.ldc2_w 29, 3) := by decide +kernel
theorem dBy_digitsOf_6 : decode mBy_digitsOf.2.1 6 = .ok (.ldiv, 1) := by decide +kernel
theorem dBy_digitsOf_7 : decode mBy_digitsOf.2.1 7 = .ok (.lstore_n 3, 1) := by decide +kernel
theorem dBy_digitsOf_8 : decode mBy_digitsOf.2.1 8 = .ok (.lload_n 3, 1) := by decide +kernel
theorem dBy_digitsOf_9 : decode mBy_digitsOf.2.1 9 = .ok (.lconst 0, 1) := by decide +kernel
theorem dBy_digitsOf_10 : decode mBy_digitsOf.2.1 10 = .ok (.lcmp, 1) := by decide +kernel
theorem dBy_digitsOf_11 : decode mBy_digitsOf.2.1 11 = .ok (.ifCond .le 21, 3) := by decide +kernel
theorem dBy_digitsOf_14 : decode mBy_digitsOf.2.1 14 = .ok (.iload_n 2, 1) := by decide +kernel
theorem dBy_digitsOf_15 : decode mBy_digitsOf.2.1 15 = .ok (.bipush 19, 2) := by decide +kernel
theorem dBy_digitsOf_17 : decode mBy_digitsOf.2.1 17 = .ok (.if_icmp .ge 15, 3) := by decide +kernel
theorem dBy_digitsOf_20 : decode mBy_digitsOf.2.1 20 = .ok (.lload_n 3, 1) := by decide +kernel
theorem dBy_digitsOf_21 : decode mBy_digitsOf.2.1 21 = .ok (.ldc2_w 29, 3) := by decide +kernel
theorem dBy_digitsOf_24 : decode mBy_digitsOf.2.1 24 = .ok (.ldiv, 1) := by decide +kernel
theorem dBy_digitsOf_25 : decode mBy_digitsOf.2.1 25 = .ok (.lstore_n 3, 1) := by decide +kernel
theorem dBy_digitsOf_26 : decode mBy_digitsOf.2.1 26 = .ok (.iinc 2 1, 3) := by decide +kernel
theorem dBy_digitsOf_29 : decode mBy_digitsOf.2.1 29 = .ok (.goto (-21), 3) := by decide +kernel
theorem dBy_digitsOf_32 : decode mBy_digitsOf.2.1 32 = .ok (.iload_n 2, 1) := by decide +kernel
theorem dBy_digitsOf_33 : decode mBy_digitsOf.2.1 33 = .ok (.ireturn, 1) := by decide +kernel
theorem dLe_size_0 : decode mLe_size.2.1 0 = .ok (.aload_n 0, 1) := by decide +kernel
theorem dLe_size_1 : decode mLe_size.2.1 1 = .ok (.getfield 25, 3) := by decide +kernel
theorem dLe_size_4 : decode mLe_size.2.1 4 = .ok (.ireturn, 1) := by decide +kernel
end
section
theorem dBL_init_0 : decode mBL_init.2.1 0 = .ok (.aload_n 0, 1) := by decide +kernel
theorem dBL_init_1 : decode mBL_init.2.1 1 = .ok (.invokespecial 3, 3) := by decide +kernel
theorem dBL_init_4 : decode mBL_init.2.1 4 = .ok (.aload_n 0, 1) := by decide +kernel
theorem dBL_init_5 : decode mBL_init.2.1 5 = .ok (.bipush 70, 2) := by decide +kernel
theorem dBL_init_7 : decode mBL_init.2.1 7 = .ok (.anewarray 9, 3) := by decide +kernel
theorem dBL_init_10 : decode mBL_init.2.1 10 = .ok (.putfield 11, 3) := by decide +kernel
theorem dBL_init_13 : decode mBL_init.2.1 13 = .ok (.aload_n 0, 1) := by decide +kernel
theorem dBL_init_14 : decode mBL_init.2.1 14 = .ok (.iconst 0, 1) := by decide +kernel
theorem dBL_init_15 : decode mBL_init.2.1 15 = .ok (.putfield 15, 3) := by decide +kernel
theorem dBL_init_18 : decode mBL_init.2.1 18 = .ok (.aload_n 0, 1) := by decide +kernel
theorem dBL_init_19 : decode mBL_init.2.1 19 = .ok (.new 19, 3) := by decide +kernel
theorem dBL_init_22 : decode mBL_init.2.1 22 = .ok (.dup, 1) := by decide +kernel
theorem dBL_init_23 : decode mBL_init.2.1 23 = .ok (.invokespecial 21, 3) := by decide +kernel
theorem dBL_init_26 : decode mBL_init.2.1 26 = .ok (.putfield 22, 3) := by decide +kernel
theorem dBL_init_29 : decode mBL_init.2.1 29 = .ok (.aload_n 0, 1) := by decide +kernel
theorem dBL_init_30 : decode mBL_init.2.1 30 = .ok (.new 19, 3) := by decide +kernel
theorem dBL_init_33 : decode mBL_init.2.1 33 = .ok (.dup, 1) := by decide +kernel
theorem dBL_init_34 : decode mBL_init.2.1 34 = .ok (.invokespecial 21, 3) := by decide +kernel
theorem dBL_init_37 : decode mBL_init.2.1 37 = .ok (.putfield 26, 3) := by decide +kernel
theorem dBL_init_40 : decode mBL_init.2.1 40 = .ok (.aload_n 0, 1) := by decide +kernel
theorem dBL_init_41 : decode mBL_init.2.1 41 = .ok (.new 29, 3) := by decide +kernel
theorem dBL_init_44 : decode mBL_init.2.1 44 = .ok (.dup, 1) := by decide +kernel
theorem dBL_init_45 : decode mBL_init.2.1 45 = .ok (.sipush 400, 3) := by decide +kernel
theorem dBL_init_48 : decode mBL_init.2.1 48 = .ok (.invokespecial 31, 3) := by decide +kernel
theorem dBL_init_51 : decode mBL_init.2.1 51 = .ok (.putfield 34, 3) := by decide +kernel
theorem dBL_init_54 : decode mBL_init.2.1 54 = .ok (.aload_n 0, 1) := by decide +kernel
theorem dBL_init_55 : decode mBL_init.2.1 55 = .ok (.new 38, 3) := by decide +kernel
theorem dBL_init_58 : decode mBL_init.2.1 58 = .ok (.dup, 1) := by decide +kernel
theorem dBL_init_59 : decode mBL_init.2.1 59 = .ok (.aload_n 0, 1) := by decide +kernel
theorem dBL_init_60 : decode mBL_init.2.1 60 = .ok (.getfield 34, 3) := by decide +kernel
theorem dBL_init_63 : decode mBL_init.2.1 63 = .ok (.invokespecial 40, 3) := by decide +kernel
theorem dBL_init_66 : decode mBL_init.2.1 66 = .ok (.putfield 43, 3) := by decide +kernel
theorem dBL_init_69 : decode mBL_init.2.1 69 = .ok (.aload_n 0, 1) := by decide +kernel
theorem dBL_init_70 : decode mBL_init.2.1 70 = .ok (.new 47, 3) := by decide +kernel
theorem dBL_init_73 : decode mBL_init.2.1 73 = .ok (.dup, 1) := by decide +kernel
theorem dBL_init_74 : decode mBL_init.2.1 74 = .ok (.invokespecial 49, 3) := by decide +kernel
theorem dBL_init_77 : decode mBL_init.2.1 77 = .ok (.putfield 50, 3) := by decide +kernel
theorem dBL_init_80 : decode mBL_init.2.1 80 = .ok (.aload_n 0, 1) := by decide +kernel
theorem dBL_init_81 : decode mBL_init.2.1 81 = .ok (.new 47, 3) := by decide +kernel
theorem dBL_init_84 : decode mBL_init.2.1 84 = .ok (.dup, 1) := by decide +kernel
theorem dBL_init_85 : decode mBL_init.2.1 85 = .ok (.invokespecial 49, 3) := by decide +kernel
theorem dBL_init_88 : decode mBL_init.2.1 88 = .ok (.putfield 54, 3) := by decide +kernel
theorem dBL_init_91 : decode mBL_init.2.1 91 = .ok (.aload_n 0, 1) := by decide +kernel
theorem dBL_init_92 : decode mBL_init.2.1 92 = .ok (.new 57, 3) := by decide +kernel
theorem dBL_init_95 : decode mBL_init.2.1 95 = .ok (.dup, 1) := by decide +kernel
theorem dBL_init_96 : decode mBL_init.2.1 96 = .ok (.invokespecial 59, 3) := by decide +kernel
theorem dBL_init_99 : decode mBL_init.2.1 99 = .ok (.putfield 60, 3) := by decide +kernel
theorem dBL_init_102 : decode mBL_init.2.1 102 = .ok (.aload_n 0, 1) := by decide +kernel
theorem dBL_init_103 : decode mBL_init.2.1 103 = .ok (.new 29, 3) := by decide +kernel
theorem dBL_init_106 : decode mBL_init.2.1 106 = .ok (.dup, 1) := by decide +kernel
theorem dBL_init_107 : decode mBL_init.2.1 107 = .ok (.sipush 1130, 3) := by decide +kernel
theorem dBL_init_110 : decode mBL_init.2.1 110 = .ok (.invokespecial 31, 3) := by decide +kernel
theorem dBL_init_113 : decode mBL_init.2.1 113 = .ok (.putfield 64, 3) := by decide +kernel
theorem dBL_init_116 : decode mBL_init.2.1 116 = .ok (.return_, 1) := by decide +kernel
theorem dBL_haul_0 : decode mBL_haul.2.1 0 = .ok (.lload_n 1, 1) := by decide +kernel
theorem dBL_haul_1 : decode mBL_haul.2.1 1 = .ok (.invokestatic 67, 3) := by decide +kernel
theorem dBL_haul_4 : decode mBL_haul.2.1 4 = .ok (.ifCond .eq 23, 3) := by decide +kernel
theorem dBL_haul_7 : decode mBL_haul.2.1 7 = .ok (.iload_n 3, 1) := by decide +kernel
theorem dBL_haul_8 : decode mBL_haul.2.1 8 = .ok (.sipush 999, 3) := by decide +kernel
theorem dBL_haul_11 : decode mBL_haul.2.1 11 = .ok (.invokestatic 71, 3) := by decide +kernel
theorem dBL_haul_14 : decode mBL_haul.2.1 14 = .ok (.ifCond .eq 13, 3) := by decide +kernel
theorem dBL_haul_17 : decode mBL_haul.2.1 17 = .ok (.iload 4, 2) := by decide +kernel
theorem dBL_haul_19 : decode mBL_haul.2.1 19 = .ok (.ldc 75, 2) := by decide +kernel
theorem dBL_haul_21 : decode mBL_haul.2.1 21 = .ok (.invokestatic 71, 3) := by decide +kernel
theorem dBL_haul_24 : decode mBL_haul.2.1 24 = .ok (.ifCond .ne 5, 3) := by decide +kernel
theorem dBL_haul_27 : decode mBL_haul.2.1 27 = .ok (.iconst (-1), 1) := by decide +kernel
theorem dBL_haul_28 : decode mBL_haul.2.1 28 = .ok (.ireturn, 1) := by decide +kernel
theorem dBL_haul_29 : decode mBL_haul.2.1 29 = .ok (.aload_n 0, 1) := by decide +kernel
theorem dBL_haul_30 : decode mBL_haul.2.1 30 = .ok (.invokevirtual 76, 3) := by decide +kernel
theorem dBL_haul_33 : decode mBL_haul.2.1 33 = .ok (.ifCond .eq 5, 3) := by decide +kernel
theorem dBL_haul_36 : decode mBL_haul.2.1 36 = .ok (.iconst (-1), 1) := by decide +kernel
theorem dBL_haul_37 : decode mBL_haul.2.1 37 = .ok (.ireturn, 1) := by decide +kernel
theorem dBL_haul_38 : decode mBL_haul.2.1 38 = .ok (.new 9, 3) := by decide +kernel
theorem dBL_haul_41 : decode mBL_haul.2.1 41 = .ok (.dup, 1) := by decide +kernel
theorem dBL_haul_42 : decode mBL_haul.2.1 42 = .ok (.iconst 1, 1) := by decide +kernel
theorem dBL_haul_43 : decode mBL_haul.2.1 43 = .ok (.iload_n 3, 1) := by decide +kernel
theorem dBL_haul_44 : decode mBL_haul.2.1 44 = .ok (.iload 4, 2) := by decide +kernel
theorem dBL_haul_46 : decode mBL_haul.2.1 46 = .ok (.invokespecial 80, 3) := by decide +kernel
theorem dBL_haul_49 : decode mBL_haul.2.1 49 = .ok (.astore 5, 2) := by decide +kernel
theorem dBL_haul_51 : decode mBL_haul.2.1 51 = .ok (.aload 5, 2) := by decide +kernel
theorem dBL_haul_53 : decode mBL_haul.2.1 53 = .ok (.lload_n 1, 1) := by decide +kernel
theorem dBL_haul_54 : decode mBL_haul.2.1 54 = .ok (.putfield 83, 3) := by decide +kernel
theorem dBL_haul_57 : decode mBL_haul.2.1 57 = .ok (.aload 5, 2) := by decide +kernel
theorem dBL_haul_59 : decode mBL_haul.2.1 59 = .ok (.getfield 87, 3) := by decide +kernel
theorem dBL_haul_62 : decode mBL_haul.2.1 62 = .ok (.aload_n 0, 1) := by decide +kernel
theorem dBL_haul_63 : decode mBL_haul.2.1 63 = .ok (.getfield 15, 3) := by decide +kernel
theorem dBL_haul_66 : decode mBL_haul.2.1 66 = .ok (.lload_n 1, 1) := by decide +kernel
theorem dBL_haul_67 : decode mBL_haul.2.1 67 = .ok (.invokevirtual 91, 3) := by decide +kernel
theorem dBL_haul_70 : decode mBL_haul.2.1 70 = .ok (.aload_n 0, 1) := by decide +kernel
theorem dBL_haul_71 : decode mBL_haul.2.1 71 = .ok (.aload 5, 2) := by decide +kernel
theorem dBL_haul_73 : decode mBL_haul.2.1 73 = .ok (.invokevirtual 97, 3) := by decide +kernel
theorem dBL_haul_76 : decode mBL_haul.2.1 76 = .ok (.ireturn, 1) := by decide +kernel
theorem dBL_isWeight_0 : decode mBL_isWeight.2.1 0 = .ok (.lload_n 0, 1) := by decide +kernel
theorem dBL_isWeight_1 : decode mBL_isWeight.2.1 1 = .ok (.lconst 1, 1) := by decide +kernel
theorem dBL_isWeight_2 : decode mBL_isWeight.2.1 2 = .ok (.lcmp, 1) := by decide +kernel
theorem dBL_isWeight_3 : decode mBL_isWeight.2.1 3 = .ok (.ifCond .lt 15, 3) := by decide +kernel
theorem dBL_isWeight_6 : decode mBL_isWeight.2.1 6 = .ok (.lload_n 0, 1) := by decide +kernel
theorem dBL_isWeight_7 : decode mBL_isWeight.2.1 7 = .ok (.ldc2_w 246, 3) := by decide +kernel
theorem dBL_isWeight_10 : decode mBL_isWeight.2.1 10 = .ok (.lcmp, 1) := by decide +kernel
theorem dBL_isWeight_11 : decode mBL_isWeight.2.1 11 = .ok (.ifCond .gt 7, 3) := by decide +kernel
theorem dBL_isWeight_14 : decode mBL_isWeight.2.1 14 = .ok (.iconst 1, 1) := by decide +kernel
theorem dBL_isWeight_15 : decode mBL_isWeight.2.1 15 = .ok (.goto 4, 3) := by decide +kernel
theorem dBL_isWeight_18 : decode mBL_isWeight.2.1 18 = .ok (.iconst 0, 1) := by decide +kernel
theorem dBL_isWeight_19 : decode mBL_isWeight.2.1 19 = .ok (.ireturn, 1) := by decide +kernel
theorem dBL_isWithin_0 : decode mBL_isWithin.2.1 0 = .ok (.iload_n 0, 1) := by decide +kernel
theorem dBL_isWithin_1 : decode mBL_isWithin.2.1 1 = .ok (.ifCond .lt 12, 3) := by decide +kernel
theorem dBL_isWithin_4 : decode mBL_isWithin.2.1 4 = .ok (.iload_n 0, 1) := by decide +kernel
theorem dBL_isWithin_5 : decode mBL_isWithin.2.1 5 = .ok (.iload_n 1, 1) := by decide +kernel
theorem dBL_isWithin_6 : decode mBL_isWithin.2.1 6 = .ok (.if_icmp .gt 7, 3) := by decide +kernel
theorem dBL_isWithin_9 : decode mBL_isWithin.2.1 9 = .ok (.iconst 1, 1) := by decide +kernel
theorem dBL_isWithin_10 : decode mBL_isWithin.2.1 10 = .ok (.goto 4, 3) := by decide +kernel
theorem dBL_isWithin_13 : decode mBL_isWithin.2.1 13 = .ok (.iconst 0, 1) := by decide +kernel
theorem dBL_isWithin_14 : decode mBL_isWithin.2.1 14 = .ok (.ireturn, 1) := by decide +kernel
theorem dBL_isFull_0 : decode mBL_isFull.2.1 0 = .ok (.aload_n 0, 1) := by decide +kernel
theorem dBL_isFull_1 : decode mBL_isFull.2.1 1 = .ok (.getfield 15, 3) := by decide +kernel
theorem dBL_isFull_4 : decode mBL_isFull.2.1 4 = .ok (.aload_n 0, 1) := by decide +kernel
theorem dBL_isFull_5 : decode mBL_isFull.2.1 5 = .ok (.getfield 11, 3) := by decide +kernel
theorem dBL_isFull_8 : decode mBL_isFull.2.1 8 = .ok (.arraylength, 1) := by decide +kernel
theorem dBL_isFull_9 : decode mBL_isFull.2.1 9 = .ok (.if_icmp .lt 7, 3) := by decide +kernel
theorem dBL_isFull_12 : decode mBL_isFull.2.1 12 = .ok (.iconst 1, 1) := by decide +kernel
theorem dBL_isFull_13 : decode mBL_isFull.2.1 13 = .ok (.goto 4, 3) := by decide +kernel
theorem dBL_isFull_16 : decode mBL_isFull.2.1 16 = .ok (.iconst 0, 1) := by decide +kernel
theorem dBL_isFull_17 : decode mBL_isFull.2.1 17 = .ok (.ireturn, 1) := by decide +kernel
theorem dBL_keep_0 : decode mBL_keep.2.1 0 = .ok (.aload_n 0, 1) := by decide +kernel
theorem dBL_keep_1 : decode mBL_keep.2.1 1 = .ok (.invokevirtual 76, 3) := by decide +kernel
theorem dBL_keep_4 : decode mBL_keep.2.1 4 = .ok (.ifCond .eq 5, 3) := by decide +kernel
theorem dBL_keep_7 : decode mBL_keep.2.1 7 = .ok (.iconst (-1), 1) := by decide +kernel
theorem dBL_keep_8 : decode mBL_keep.2.1 8 = .ok (.ireturn, 1) := by decide +kernel
theorem dBL_keep_9 : decode mBL_keep.2.1 9 = .ok (.aload_n 0, 1) := by decide +kernel
theorem dBL_keep_10 : decode mBL_keep.2.1 10 = .ok (.getfield 11, 3) := by decide +kernel
theorem dBL_keep_13 : decode mBL_keep.2.1 13 = .ok (.aload_n 0, 1) := by decide +kernel
theorem dBL_keep_14 : decode mBL_keep.2.1 14 = .ok (.getfield 15, 3) := by decide +kernel
theorem dBL_keep_17 : decode mBL_keep.2.1 17 = .ok (.aload_n 1, 1) := by decide +kernel
theorem dBL_keep_18 : decode mBL_keep.2.1 18 = .ok (.aastore, 1) := by decide +kernel
theorem dBL_keep_19 : decode mBL_keep.2.1 19 = .ok (.aload_n 0, 1) := by decide +kernel
theorem dBL_keep_20 : decode mBL_keep.2.1 20 = .ok (.dup, 1) := by decide +kernel
theorem dBL_keep_21 : decode mBL_keep.2.1 21 = .ok (.getfield 15, 3) := by decide +kernel
theorem dBL_keep_24 : decode mBL_keep.2.1 24 = .ok (.iconst 1, 1) := by decide +kernel
theorem dBL_keep_25 : decode mBL_keep.2.1 25 = .ok (.iadd, 1) := by decide +kernel
theorem dBL_keep_26 : decode mBL_keep.2.1 26 = .ok (.putfield 15, 3) := by decide +kernel
theorem dBL_keep_29 : decode mBL_keep.2.1 29 = .ok (.aload_n 0, 1) := by decide +kernel
theorem dBL_keep_30 : decode mBL_keep.2.1 30 = .ok (.getfield 15, 3) := by decide +kernel
theorem dBL_keep_33 : decode mBL_keep.2.1 33 = .ok (.iconst 1, 1) := by decide +kernel
theorem dBL_keep_34 : decode mBL_keep.2.1 34 = .ok (.isub, 1) := by decide +kernel
theorem dBL_keep_35 : decode mBL_keep.2.1 35 = .ok (.ireturn, 1) := by decide +kernel
theorem dBL_batch_0 : decode mBL_batch.2.1 0 = .ok (.aload_n 0, 1) := by decide +kernel
theorem dBL_batch_1 : decode mBL_batch.2.1 1 = .ok (.invokevirtual 76, 3) := by decide +kernel
theorem dBL_batch_4 : decode mBL_batch.2.1 4 = .ok (.ifCond .eq 5, 3) := by decide +kernel
theorem dBL_batch_7 : decode mBL_batch.2.1 7 = .ok (.iconst (-1), 1) := by decide +kernel
theorem dBL_batch_8 : decode mBL_batch.2.1 8 = .ok (.ireturn, 1) := by decide +kernel
theorem dBL_batch_9 : decode mBL_batch.2.1 9 = .ok (.aload_n 0, 1) := by decide +kernel
theorem dBL_batch_10 : decode mBL_batch.2.1 10 = .ok (.new 9, 3) := by decide +kernel
theorem dBL_batch_13 : decode mBL_batch.2.1 13 = .ok (.dup, 1) := by decide +kernel
theorem dBL_batch_14 : decode mBL_batch.2.1 14 = .ok (.iconst 2, 1) := by decide +kernel
theorem dBL_batch_15 : decode mBL_batch.2.1 15 = .ok (.iconst 0, 1) := by decide +kernel
theorem dBL_batch_16 : decode mBL_batch.2.1 16 = .ok (.iconst 0, 1) := by decide +kernel
theorem dBL_batch_17 : decode mBL_batch.2.1 17 = .ok (.invokespecial 80, 3) := by decide +kernel
theorem dBL_batch_20 : decode mBL_batch.2.1 20 = .ok (.invokevirtual 97, 3) := by decide +kernel
theorem dBL_batch_23 : decode mBL_batch.2.1 23 = .ok (.ireturn, 1) := by decide +kernel
theorem dBL_into_0 : decode mBL_into.2.1 0 = .ok (.aload_n 0, 1) := by decide +kernel
theorem dBL_into_1 : decode mBL_into.2.1 1 = .ok (.iload_n 1, 1) := by decide +kernel
theorem dBL_into_2 : decode mBL_into.2.1 2 = .ok (.invokevirtual 101, 3) := by decide +kernel
theorem dBL_into_5 : decode mBL_into.2.1 5 = .ok (.astore 5, 2) := by decide +kernel
theorem dBL_into_7 : decode mBL_into.2.1 7 = .ok (.aload_n 0, 1) := by decide +kernel
theorem dBL_into_8 : decode mBL_into.2.1 8 = .ok (.iload_n 2, 1) := by decide +kernel
theorem dBL_into_9 : decode mBL_into.2.1 9 = .ok (.invokevirtual 101, 3) := by decide +kernel
theorem dBL_into_12 : decode mBL_into.2.1 12 = .ok (.astore 6, 2) := by decide +kernel
theorem dBL_into_14 : decode mBL_into.2.1 14 = .ok (.aload 5, 2) := by decide +kernel
theorem dBL_into_16 : decode mBL_into.2.1 16 = .ok (.ifnull 15, 3) := by decide +kernel
theorem dBL_into_19 : decode mBL_into.2.1 19 = .ok (.aload 6, 2) := by decide +kernel
theorem dBL_into_21 : decode mBL_into.2.1 21 = .ok (.ifnull 10, 3) := by decide +kernel
theorem dBL_into_24 : decode mBL_into.2.1 24 = .ok (.aload 5, 2) := by decide +kernel
theorem dBL_into_26 : decode mBL_into.2.1 26 = .ok (.aload 6, 2) := by decide +kernel
theorem dBL_into_28 : decode mBL_into.2.1 28 = .ok (.if_acmp .ne 5, 3) := by decide +kernel
theorem dBL_into_31 : decode mBL_into.2.1 31 = .ok (.iconst 0, 1) := by decide +kernel
theorem dBL_into_32 : decode mBL_into.2.1 32 = .ok (.ireturn, 1) := by decide +kernel
theorem dBL_into_33 : decode mBL_into.2.1 33 = .ok (.aload 5, 2) := by decide +kernel
theorem dBL_into_35 : decode mBL_into.2.1 35 = .ok (.getfield 105, 3) := by decide +kernel
theorem dBL_into_38 : decode mBL_into.2.1 38 = .ok (.iconst 2, 1) := by decide +kernel
theorem dBL_into_39 : decode mBL_into.2.1 39 = .ok (.if_icmp .ne 12, 3) := by decide +kernel
theorem dBL_into_42 : decode mBL_into.2.1 42 = .ok (.aload 6, 2) := by decide +kernel
theorem dBL_into_44 : decode mBL_into.2.1 44 = .ok (.getfield 105, 3) := by decide +kernel
theorem dBL_into_47 : decode mBL_into.2.1 47 = .ok (.iconst 3, 1) := by decide +kernel
theorem dBL_into_48 : decode mBL_into.2.1 48 = .ok (.if_icmp .ne 5, 3) := by decide +kernel
theorem dBL_into_51 : decode mBL_into.2.1 51 = .ok (.iconst 0, 1) := by decide +kernel
theorem dBL_into_52 : decode mBL_into.2.1 52 = .ok (.ireturn, 1) := by decide +kernel
theorem dBL_into_53 : decode mBL_into.2.1 53 = .ok (.aload 5, 2) := by decide +kernel
theorem dBL_into_55 : decode mBL_into.2.1 55 = .ok (.getfield 108, 3) := by decide +kernel
theorem dBL_into_58 : decode mBL_into.2.1 58 = .ok (.ifCond .ne 23, 3) := by decide +kernel
theorem dBL_into_61 : decode mBL_into.2.1 61 = .ok (.aload 6, 2) := by decide +kernel
theorem dBL_into_63 : decode mBL_into.2.1 63 = .ok (.getfield 108, 3) := by decide +kernel
theorem dBL_into_66 : decode mBL_into.2.1 66 = .ok (.ifCond .ne 15, 3) := by decide +kernel
theorem dBL_into_69 : decode mBL_into.2.1 69 = .ok (.aload 6, 2) := by decide +kernel
theorem dBL_into_71 : decode mBL_into.2.1 71 = .ok (.getfield 87, 3) := by decide +kernel
theorem dBL_into_74 : decode mBL_into.2.1 74 = .ok (.lload_n 3, 1) := by decide +kernel
theorem dBL_into_75 : decode mBL_into.2.1 75 = .ok (.invokevirtual 112, 3) := by decide +kernel
theorem dBL_into_78 : decode mBL_into.2.1 78 = .ok (.ifCond .ne 5, 3) := by decide +kernel
theorem dBL_into_81 : decode mBL_into.2.1 81 = .ok (.iconst 0, 1) := by decide +kernel
theorem dBL_into_82 : decode mBL_into.2.1 82 = .ok (.ireturn, 1) := by decide +kernel
theorem dBL_into_83 : decode mBL_into.2.1 83 = .ok (.aload 5, 2) := by decide +kernel
theorem dBL_into_85 : decode mBL_into.2.1 85 = .ok (.getfield 87, 3) := by decide +kernel
theorem dBL_into_88 : decode mBL_into.2.1 88 = .ok (.aload 6, 2) := by decide +kernel
theorem dBL_into_90 : decode mBL_into.2.1 90 = .ok (.getfield 87, 3) := by decide +kernel
theorem dBL_into_93 : decode mBL_into.2.1 93 = .ok (.lload_n 3, 1) := by decide +kernel
theorem dBL_into_94 : decode mBL_into.2.1 94 = .ok (.invokevirtual 115, 3) := by decide +kernel
theorem dBL_into_97 : decode mBL_into.2.1 97 = .ok (.bipush 80, 2) := by decide +kernel
theorem dBL_into_99 : decode mBL_into.2.1 99 = .ok (.if_icmp .le 5, 3) := by decide +kernel
theorem dBL_into_102 : decode mBL_into.2.1 102 = .ok (.iconst 0, 1) := by decide +kernel
theorem dBL_into_103 : decode mBL_into.2.1 103 = .ok (.ireturn, 1) := by decide +kernel
theorem dBL_into_104 : decode mBL_into.2.1 104 = .ok (.aload 5, 2) := by decide +kernel
theorem dBL_into_106 : decode mBL_into.2.1 106 = .ok (.aload 6, 2) := by decide +kernel
theorem dBL_into_108 : decode mBL_into.2.1 108 = .ok (.lload_n 3, 1) := by decide +kernel
theorem dBL_into_109 : decode mBL_into.2.1 109 = .ok (.invokevirtual 119, 3) := by decide +kernel
theorem dBL_into_112 : decode mBL_into.2.1 112 = .ok (.iconst 1, 1) := by decide +kernel
theorem dBL_into_113 : decode mBL_into.2.1 113 = .ok (.ireturn, 1) := by decide +kernel
theorem dBL_find_0 : decode mBL_find.2.1 0 = .ok (.iload_n 1, 1) := by decide +kernel
theorem dBL_find_1 : decode mBL_find.2.1 1 = .ok (.ifCond .lt 20, 3) := by decide +kernel
theorem dBL_find_4 : decode mBL_find.2.1 4 = .ok (.iload_n 1, 1) := by decide +kernel
theorem dBL_find_5 : decode mBL_find.2.1 5 = .ok (.aload_n 0, 1) := by decide +kernel
theorem dBL_find_6 : decode mBL_find.2.1 6 = .ok (.getfield 15, 3) := by decide +kernel
theorem dBL_find_9 : decode mBL_find.2.1 9 = .ok (.if_icmp .ge 12, 3) := by decide +kernel
theorem dBL_find_12 : decode mBL_find.2.1 12 = .ok (.aload_n 0, 1) := by decide +kernel
theorem dBL_find_13 : decode mBL_find.2.1 13 = .ok (.getfield 11, 3) := by decide +kernel
theorem dBL_find_16 : decode mBL_find.2.1 16 = .ok (.iload_n 1, 1) := by decide +kernel
theorem dBL_find_17 : decode mBL_find.2.1 17 = .ok (.aaload, 1) := by decide +kernel
theorem dBL_find_18 : decode mBL_find.2.1 18 = .ok (.goto 4, 3) := by decide +kernel
theorem dBL_find_21 : decode mBL_find.2.1 21 = .ok (.aconst_null, 1) := by decide +kernel
theorem dBL_find_22 : decode mBL_find.2.1 22 = .ok (.areturn, 1) := by decide +kernel
theorem dBL_box_0 : decode mBL_box.2.1 0 = .ok (.aload_n 0, 1) := by decide +kernel
theorem dBL_box_1 : decode mBL_box.2.1 1 = .ok (.iload_n 1, 1) := by decide +kernel
theorem dBL_box_2 : decode mBL_box.2.1 2 = .ok (.invokevirtual 101, 3) := by decide +kernel
theorem dBL_box_5 : decode mBL_box.2.1 5 = .ok (.astore 5, 2) := by decide +kernel
theorem dBL_box_7 : decode mBL_box.2.1 7 = .ok (.aload 5, 2) := by decide +kernel
theorem dBL_box_9 : decode mBL_box.2.1 9 = .ok (.ifnull 22, 3) := by decide +kernel
theorem dBL_box_12 : decode mBL_box.2.1 12 = .ok (.aload 5, 2) := by decide +kernel
theorem dBL_box_14 : decode mBL_box.2.1 14 = .ok (.getfield 105, 3) := by decide +kernel
theorem dBL_box_17 : decode mBL_box.2.1 17 = .ok (.iconst 3, 1) := by decide +kernel
theorem dBL_box_18 : decode mBL_box.2.1 18 = .ok (.if_icmp .eq 13, 3) := by decide +kernel
theorem dBL_box_21 : decode mBL_box.2.1 21 = .ok (.iload 4, 2) := by decide +kernel
theorem dBL_box_23 : decode mBL_box.2.1 23 = .ok (.bipush 99, 2) := by decide +kernel
theorem dBL_box_25 : decode mBL_box.2.1 25 = .ok (.invokestatic 71, 3) := by decide +kernel
theorem dBL_box_28 : decode mBL_box.2.1 28 = .ok (.ifCond .ne 5, 3) := by decide +kernel
theorem dBL_box_31 : decode mBL_box.2.1 31 = .ok (.iconst (-1), 1) := by decide +kernel
theorem dBL_box_32 : decode mBL_box.2.1 32 = .ok (.ireturn, 1) := by decide +kernel
theorem dBL_box_33 : decode mBL_box.2.1 33 = .ok (.aload 5, 2) := by decide +kernel
theorem dBL_box_35 : decode mBL_box.2.1 35 = .ok (.getfield 108, 3) := by decide +kernel
theorem dBL_box_38 : decode mBL_box.2.1 38 = .ok (.ifCond .ne 15, 3) := by decide +kernel
theorem dBL_box_41 : decode mBL_box.2.1 41 = .ok (.aload 5, 2) := by decide +kernel
theorem dBL_box_43 : decode mBL_box.2.1 43 = .ok (.getfield 87, 3) := by decide +kernel
theorem dBL_box_46 : decode mBL_box.2.1 46 = .ok (.lload_n 2, 1) := by decide +kernel
theorem dBL_box_47 : decode mBL_box.2.1 47 = .ok (.invokevirtual 112, 3) := by decide +kernel
theorem dBL_box_50 : decode mBL_box.2.1 50 = .ok (.ifCond .ne 5, 3) := by decide +kernel
theorem dBL_box_53 : decode mBL_box.2.1 53 = .ok (.iconst (-1), 1) := by decide +kernel
theorem dBL_box_54 : decode mBL_box.2.1 54 = .ok (.ireturn, 1) := by decide +kernel
theorem dBL_box_55 : decode mBL_box.2.1 55 = .ok (.aload 5, 2) := by decide +kernel
theorem dBL_box_57 : decode mBL_box.2.1 57 = .ok (.getfield 87, 3) := by decide +kernel
theorem dBL_box_60 : decode mBL_box.2.1 60 = .ok (.lload_n 2, 1) := by decide +kernel
theorem dBL_box_61 : decode mBL_box.2.1 61 = .ok (.invokevirtual 123, 3) := by decide +kernel
theorem dBL_box_64 : decode mBL_box.2.1 64 = .ok (.bipush 80, 2) := by decide +kernel
theorem dBL_box_66 : decode mBL_box.2.1 66 = .ok (.if_icmp .gt 10, 3) := by decide +kernel
theorem dBL_box_69 : decode mBL_box.2.1 69 = .ok (.aload_n 0, 1) := by decide +kernel
theorem dBL_box_70 : decode mBL_box.2.1 70 = .ok (.invokevirtual 76, 3) := by decide +kernel
theorem dBL_box_73 : decode mBL_box.2.1 73 = .ok (.ifCond .eq 5, 3) := by decide +kernel
theorem dBL_box_76 : decode mBL_box.2.1 76 = .ok (.iconst (-1), 1) := by decide +kernel
theorem dBL_box_77 : decode mBL_box.2.1 77 = .ok (.ireturn, 1) := by decide +kernel
theorem dBL_box_78 : decode mBL_box.2.1 78 = .ok (.new 9, 3) := by decide +kernel
theorem dBL_box_81 : decode mBL_box.2.1 81 = .ok (.dup, 1) := by decide +kernel
theorem dBL_box_82 : decode mBL_box.2.1 82 = .ok (.iconst 3, 1) := by decide +kernel
theorem dBL_box_83 : decode mBL_box.2.1 83 = .ok (.iload 4, 2) := by decide +kernel
theorem dBL_box_85 : decode mBL_box.2.1 85 = .ok (.iconst 0, 1) := by decide +kernel
theorem dBL_box_86 : decode mBL_box.2.1 86 = .ok (.invokespecial 80, 3) := by decide +kernel
theorem dBL_box_89 : decode mBL_box.2.1 89 = .ok (.astore 6, 2) := by decide +kernel
theorem dBL_box_91 : decode mBL_box.2.1 91 = .ok (.aload 6, 2) := by decide +kernel
theorem dBL_box_93 : decode mBL_box.2.1 93 = .ok (.aload 5, 2) := by decide +kernel
theorem dBL_box_95 : decode mBL_box.2.1 95 = .ok (.lload_n 2, 1) := by decide +kernel
theorem dBL_box_96 : decode mBL_box.2.1 96 = .ok (.invokevirtual 119, 3) := by decide +kernel
theorem dBL_box_99 : decode mBL_box.2.1 99 = .ok (.aload_n 0, 1) := by decide +kernel
theorem dBL_box_100 : decode mBL_box.2.1 100 = .ok (.aload 6, 2) := by decide +kernel
theorem dBL_box_102 : decode mBL_box.2.1 102 = .ok (.invokevirtual 97, 3) := by decide +kernel
theorem dBL_box_105 : decode mBL_box.2.1 105 = .ok (.ireturn, 1) := by decide +kernel
theorem dBL_waste_0 : decode mBL_waste.2.1 0 = .ok (.aload_n 0, 1) := by decide +kernel
theorem dBL_waste_1 : decode mBL_waste.2.1 1 = .ok (.iload_n 1, 1) := by decide +kernel
theorem dBL_waste_2 : decode mBL_waste.2.1 2 = .ok (.invokevirtual 101, 3) := by decide +kernel
theorem dBL_waste_5 : decode mBL_waste.2.1 5 = .ok (.astore 4, 2) := by decide +kernel
theorem dBL_waste_7 : decode mBL_waste.2.1 7 = .ok (.aload 4, 2) := by decide +kernel
theorem dBL_waste_9 : decode mBL_waste.2.1 9 = .ok (.ifnull 15, 3) := by decide +kernel
theorem dBL_waste_12 : decode mBL_waste.2.1 12 = .ok (.aload 4, 2) := by decide +kernel
theorem dBL_waste_14 : decode mBL_waste.2.1 14 = .ok (.getfield 87, 3) := by decide +kernel
theorem dBL_waste_17 : decode mBL_waste.2.1 17 = .ok (.lload_n 2, 1) := by decide +kernel
theorem dBL_waste_18 : decode mBL_waste.2.1 18 = .ok (.invokevirtual 112, 3) := by decide +kernel
theorem dBL_waste_21 : decode mBL_waste.2.1 21 = .ok (.ifCond .ne 7, 3) := by decide +kernel
theorem dBL_waste_24 : decode mBL_waste.2.1 24 = .ok (.ldc2_w 127, 3) := by decide +kernel
theorem dBL_waste_27 : decode mBL_waste.2.1 27 = .ok (.lreturn, 1) := by decide +kernel
theorem dBL_waste_28 : decode mBL_waste.2.1 28 = .ok (.aload 4, 2) := by decide +kernel
theorem dBL_waste_30 : decode mBL_waste.2.1 30 = .ok (.getfield 87, 3) := by decide +kernel
theorem dBL_waste_33 : decode mBL_waste.2.1 33 = .ok (.lload_n 2, 1) := by decide +kernel
theorem dBL_waste_34 : decode mBL_waste.2.1 34 = .ok (.invokevirtual 129, 3) := by decide +kernel
theorem dBL_waste_37 : decode mBL_waste.2.1 37 = .ok (.aload 4, 2) := by decide +kernel
theorem dBL_waste_39 : decode mBL_waste.2.1 39 = .ok (.dup, 1) := by decide +kernel
theorem dBL_waste_40 : decode mBL_waste.2.1 40 = .ok (.getfield 133, 3) := by decide +kernel
theorem dBL_waste_43 : decode mBL_waste.2.1 43 = .ok (.lload_n 2, 1) := by decide +kernel
theorem dBL_waste_44 : decode mBL_waste.2.1 44 = .ok (.ladd, 1) := by decide +kernel
theorem dBL_waste_45 : decode mBL_waste.2.1 45 = .ok (.putfield 133, 3) := by decide +kernel
theorem dBL_waste_48 : decode mBL_waste.2.1 48 = .ok (.aload 4, 2) := by decide +kernel
theorem dBL_waste_50 : decode mBL_waste.2.1 50 = .ok (.getfield 133, 3) := by decide +kernel
theorem dBL_waste_53 : decode mBL_waste.2.1 53 = .ok (.lreturn, 1) := by decide +kernel
theorem dBL_hold_0 : decode mBL_hold.2.1 0 = .ok (.aload_n 0, 1) := by decide +kernel
theorem dBL_hold_1 : decode mBL_hold.2.1 1 = .ok (.iload_n 1, 1) := by decide +kernel
theorem dBL_hold_2 : decode mBL_hold.2.1 2 = .ok (.invokevirtual 101, 3) := by decide +kernel
theorem dBL_hold_5 : decode mBL_hold.2.1 5 = .ok (.astore_n 3, 1) := by decide +kernel
theorem dBL_hold_6 : decode mBL_hold.2.1 6 = .ok (.aload_n 3, 1) := by decide +kernel
theorem dBL_hold_7 : decode mBL_hold.2.1 7 = .ok (.ifnonnull 5, 3) := by decide +kernel
theorem dBL_hold_10 : decode mBL_hold.2.1 10 = .ok (.iconst 0, 1) := by decide +kernel
theorem dBL_hold_11 : decode mBL_hold.2.1 11 = .ok (.ireturn, 1) := by decide +kernel
theorem dBL_hold_12 : decode mBL_hold.2.1 12 = .ok (.aload_n 3, 1) := by decide +kernel
theorem dBL_hold_13 : decode mBL_hold.2.1 13 = .ok (.iload_n 2, 1) := by decide +kernel
theorem dBL_hold_14 : decode mBL_hold.2.1 14 = .ok (.putfield 108, 3) := by decide +kernel
theorem dBL_hold_17 : decode mBL_hold.2.1 17 = .ok (.iconst 1, 1) := by decide +kernel
theorem dBL_hold_18 : decode mBL_hold.2.1 18 = .ok (.ireturn, 1) := by decide +kernel
theorem dBL_correct_0 : decode mBL_correct.2.1 0 = .ok (.aload_n 0, 1) := by decide +kernel
theorem dBL_correct_1 : decode mBL_correct.2.1 1 = .ok (.iload_n 1, 1) := by decide +kernel
theorem dBL_correct_2 : decode mBL_correct.2.1 2 = .ok (.invokevirtual 136, 3) := by decide +kernel
theorem dBL_correct_5 : decode mBL_correct.2.1 5 = .ok (.astore 4, 2) := by decide +kernel
theorem dBL_correct_7 : decode mBL_correct.2.1 7 = .ok (.aload 4, 2) := by decide +kernel
theorem dBL_correct_9 : decode mBL_correct.2.1 9 = .ok (.ifnull 10, 3) := by decide +kernel
theorem dBL_correct_12 : decode mBL_correct.2.1 12 = .ok (.lload_n 2, 1) := by decide +kernel
theorem dBL_correct_13 : decode mBL_correct.2.1 13 = .ok (.invokestatic 67, 3) := by decide +kernel
theorem dBL_correct_16 : decode mBL_correct.2.1 16 = .ok (.ifCond .ne 5, 3) := by decide +kernel
theorem dBL_correct_19 : decode mBL_correct.2.1 19 = .ok (.iconst 0, 1) := by decide +kernel
theorem dBL_correct_20 : decode mBL_correct.2.1 20 = .ok (.ireturn, 1) := by decide +kernel
theorem dBL_correct_21 : decode mBL_correct.2.1 21 = .ok (.aload 4, 2) := by decide +kernel
theorem dBL_correct_23 : decode mBL_correct.2.1 23 = .ok (.getfield 87, 3) := by decide +kernel
theorem dBL_correct_26 : decode mBL_correct.2.1 26 = .ok (.invokevirtual 139, 3) := by decide +kernel
theorem dBL_correct_29 : decode mBL_correct.2.1 29 = .ok (.lload_n 2, 1) := by decide +kernel
theorem dBL_correct_30 : decode mBL_correct.2.1 30 = .ok (.ladd, 1) := by decide +kernel
theorem dBL_correct_31 : decode mBL_correct.2.1 31 = .ok (.aload 4, 2) := by decide +kernel
theorem dBL_correct_33 : decode mBL_correct.2.1 33 = .ok (.getfield 83, 3) := by decide +kernel
theorem dBL_correct_36 : decode mBL_correct.2.1 36 = .ok (.lsub, 1) := by decide +kernel
theorem dBL_correct_37 : decode mBL_correct.2.1 37 = .ok (.lstore 5, 2) := by decide +kernel
theorem dBL_correct_39 : decode mBL_correct.2.1 39 = .ok (.lload 5, 2) := by decide +kernel
theorem dBL_correct_41 : decode mBL_correct.2.1 41 = .ok (.lconst 0, 1) := by decide +kernel
theorem dBL_correct_42 : decode mBL_correct.2.1 42 = .ok (.lcmp, 1) := by decide +kernel
theorem dBL_correct_43 : decode mBL_correct.2.1 43 = .ok (.ifCond .ge 5, 3) := by decide +kernel
theorem dBL_correct_46 : decode mBL_correct.2.1 46 = .ok (.iconst 0, 1) := by decide +kernel
theorem dBL_correct_47 : decode mBL_correct.2.1 47 = .ok (.ireturn, 1) := by decide +kernel
theorem dBL_correct_48 : decode mBL_correct.2.1 48 = .ok (.aload 4, 2) := by decide +kernel
theorem dBL_correct_50 : decode mBL_correct.2.1 50 = .ok (.lload_n 2, 1) := by decide +kernel
theorem dBL_correct_51 : decode mBL_correct.2.1 51 = .ok (.putfield 83, 3) := by decide +kernel
theorem dBL_correct_54 : decode mBL_correct.2.1 54 = .ok (.aload 4, 2) := by decide +kernel
theorem dBL_correct_56 : decode mBL_correct.2.1 56 = .ok (.getfield 87, 3) := by decide +kernel
theorem dBL_correct_59 : decode mBL_correct.2.1 59 = .ok (.invokevirtual 143, 3) := by decide +kernel
theorem dBL_correct_62 : decode mBL_correct.2.1 62 = .ok (.lload 5, 2) := by decide +kernel
theorem dBL_correct_64 : decode mBL_correct.2.1 64 = .ok (.lconst 0, 1) := by decide +kernel
theorem dBL_correct_65 : decode mBL_correct.2.1 65 = .ok (.lcmp, 1) := by decide +kernel
theorem dBL_correct_66 : decode mBL_correct.2.1 66 = .ok (.ifCond .le 14, 3) := by decide +kernel
theorem dBL_correct_69 : decode mBL_correct.2.1 69 = .ok (.aload 4, 2) := by decide +kernel
theorem dBL_correct_71 : decode mBL_correct.2.1 71 = .ok (.getfield 87, 3) := by decide +kernel
theorem dBL_correct_74 : decode mBL_correct.2.1 74 = .ok (.iload_n 1, 1) := by decide +kernel
theorem dBL_correct_75 : decode mBL_correct.2.1 75 = .ok (.lload 5, 2) := by decide +kernel
theorem dBL_correct_77 : decode mBL_correct.2.1 77 = .ok (.invokevirtual 91, 3) := by decide +kernel
theorem dBL_correct_80 : decode mBL_correct.2.1 80 = .ok (.iconst 1, 1) := by decide +kernel
theorem dBL_correct_81 : decode mBL_correct.2.1 81 = .ok (.ireturn, 1) := by decide +kernel
theorem dBL_findHaul_0 : decode mBL_findHaul.2.1 0 = .ok (.aload_n 0, 1) := by decide +kernel
theorem dBL_findHaul_1 : decode mBL_findHaul.2.1 1 = .ok (.iload_n 1, 1) := by decide +kernel
theorem dBL_findHaul_2 : decode mBL_findHaul.2.1 2 = .ok (.invokevirtual 101, 3) := by decide +kernel
theorem dBL_findHaul_5 : decode mBL_findHaul.2.1 5 = .ok (.astore_n 2, 1) := by decide +kernel
theorem dBL_findHaul_6 : decode mBL_findHaul.2.1 6 = .ok (.aload_n 2, 1) := by decide +kernel
theorem dBL_findHaul_7 : decode mBL_findHaul.2.1 7 = .ok (.ifnull 15, 3) := by decide +kernel
theorem dBL_findHaul_10 : decode mBL_findHaul.2.1 10 = .ok (.aload_n 2, 1) := by decide +kernel
theorem dBL_findHaul_11 : decode mBL_findHaul.2.1 11 = .ok (.getfield 105, 3) := by decide +kernel
theorem dBL_findHaul_14 : decode mBL_findHaul.2.1 14 = .ok (.iconst 1, 1) := by decide +kernel
theorem dBL_findHaul_15 : decode mBL_findHaul.2.1 15 = .ok (.if_icmp .ne 7, 3) := by decide +kernel
theorem dBL_findHaul_18 : decode mBL_findHaul.2.1 18 = .ok (.aload_n 2, 1) := by decide +kernel
theorem dBL_findHaul_19 : decode mBL_findHaul.2.1 19 = .ok (.goto 4, 3) := by decide +kernel
theorem dBL_findHaul_22 : decode mBL_findHaul.2.1 22 = .ok (.aconst_null, 1) := by decide +kernel
theorem dBL_findHaul_23 : decode mBL_findHaul.2.1 23 = .ok (.areturn, 1) := by decide +kernel
theorem dBL_told_0 : decode mBL_told.2.1 0 = .ok (.aload_n 0, 1) := by decide +kernel
theorem dBL_told_1 : decode mBL_told.2.1 1 = .ok (.iload_n 1, 1) := by decide +kernel
theorem dBL_told_2 : decode mBL_told.2.1 2 = .ok (.invokevirtual 101, 3) := by decide +kernel
theorem dBL_told_5 : decode mBL_told.2.1 5 = .ok (.astore_n 3, 1) := by decide +kernel
theorem dBL_told_6 : decode mBL_told.2.1 6 = .ok (.aload_n 3, 1) := by decide +kernel
theorem dBL_told_7 : decode mBL_told.2.1 7 = .ok (.ifnonnull 9, 3) := by decide +kernel
theorem dBL_told_10 : decode mBL_told.2.1 10 = .ok (.ldc2_w 127, 3) := by decide +kernel
theorem dBL_told_13 : decode mBL_told.2.1 13 = .ok (.goto 8, 3) := by decide +kernel
theorem dBL_told_16 : decode mBL_told.2.1 16 = .ok (.aload_n 3, 1) := by decide +kernel
theorem dBL_told_17 : decode mBL_told.2.1 17 = .ok (.iload_n 2, 1) := by decide +kernel
theorem dBL_told_18 : decode mBL_told.2.1 18 = .ok (.invokevirtual 146, 3) := by decide +kernel
theorem dBL_told_21 : decode mBL_told.2.1 21 = .ok (.lreturn, 1) := by decide +kernel
theorem dBL_layer_0 : decode mBL_layer.2.1 0 = .ok (.aload_n 0, 1) := by decide +kernel
theorem dBL_layer_1 : decode mBL_layer.2.1 1 = .ok (.iload_n 1, 1) := by decide +kernel
theorem dBL_layer_2 : decode mBL_layer.2.1 2 = .ok (.invokevirtual 101, 3) := by decide +kernel
theorem dBL_layer_5 : decode mBL_layer.2.1 5 = .ok (.astore 4, 2) := by decide +kernel
theorem dBL_layer_7 : decode mBL_layer.2.1 7 = .ok (.aload 4, 2) := by decide +kernel
theorem dBL_layer_9 : decode mBL_layer.2.1 9 = .ok (.ifnonnull 7, 3) := by decide +kernel
theorem dBL_layer_12 : decode mBL_layer.2.1 12 = .ok (.ldc2_w 127, 3) := by decide +kernel
theorem dBL_layer_15 : decode mBL_layer.2.1 15 = .ok (.lreturn, 1) := by decide +kernel
theorem dBL_layer_16 : decode mBL_layer.2.1 16 = .ok (.iload_n 3, 1) := by decide +kernel
theorem dBL_layer_17 : decode mBL_layer.2.1 17 = .ok (.lookupswitch 48 #[(0, 27), (1, 38)], 27) := by decide +kernel
theorem dBL_layer_44 : decode mBL_layer.2.1 44 = .ok (.aload 4, 2) := by decide +kernel
theorem dBL_layer_46 : decode mBL_layer.2.1 46 = .ok (.getfield 87, 3) := by decide +kernel
theorem dBL_layer_49 : decode mBL_layer.2.1 49 = .ok (.iload_n 2, 1) := by decide +kernel
theorem dBL_layer_50 : decode mBL_layer.2.1 50 = .ok (.invokevirtual 150, 3) := by decide +kernel
theorem dBL_layer_53 : decode mBL_layer.2.1 53 = .ok (.i2l, 1) := by decide +kernel
theorem dBL_layer_54 : decode mBL_layer.2.1 54 = .ok (.lreturn, 1) := by decide +kernel
theorem dBL_layer_55 : decode mBL_layer.2.1 55 = .ok (.aload 4, 2) := by decide +kernel
theorem dBL_layer_57 : decode mBL_layer.2.1 57 = .ok (.getfield 87, 3) := by decide +kernel
theorem dBL_layer_60 : decode mBL_layer.2.1 60 = .ok (.iload_n 2, 1) := by decide +kernel
theorem dBL_layer_61 : decode mBL_layer.2.1 61 = .ok (.invokevirtual 154, 3) := by decide +kernel
theorem dBL_layer_64 : decode mBL_layer.2.1 64 = .ok (.lreturn, 1) := by decide +kernel
theorem dBL_layer_65 : decode mBL_layer.2.1 65 = .ok (.ldc2_w 127, 3) := by decide +kernel
theorem dBL_layer_68 : decode mBL_layer.2.1 68 = .ok (.lreturn, 1) := by decide +kernel
theorem dBL_share_0 : decode mBL_share.2.1 0 = .ok (.aload_n 0, 1) := by decide +kernel
theorem dBL_share_1 : decode mBL_share.2.1 1 = .ok (.iload_n 1, 1) := by decide +kernel
theorem dBL_share_2 : decode mBL_share.2.1 2 = .ok (.invokevirtual 101, 3) := by decide +kernel
theorem dBL_share_5 : decode mBL_share.2.1 5 = .ok (.astore 4, 2) := by decide +kernel
theorem dBL_share_7 : decode mBL_share.2.1 7 = .ok (.aload 4, 2) := by decide +kernel
theorem dBL_share_9 : decode mBL_share.2.1 9 = .ok (.ifnull 11, 3) := by decide +kernel
theorem dBL_share_12 : decode mBL_share.2.1 12 = .ok (.aload_n 0, 1) := by decide +kernel
theorem dBL_share_13 : decode mBL_share.2.1 13 = .ok (.iload_n 2, 1) := by decide +kernel
theorem dBL_share_14 : decode mBL_share.2.1 14 = .ok (.invokevirtual 136, 3) := by decide +kernel
theorem dBL_share_17 : decode mBL_share.2.1 17 = .ok (.ifnonnull 7, 3) := by decide +kernel
theorem dBL_share_20 : decode mBL_share.2.1 20 = .ok (.ldc2_w 127, 3) := by decide +kernel
theorem dBL_share_23 : decode mBL_share.2.1 23 = .ok (.lreturn, 1) := by decide +kernel
theorem dBL_share_24 : decode mBL_share.2.1 24 = .ok (.aload 4, 2) := by decide +kernel
theorem dBL_share_26 : decode mBL_share.2.1 26 = .ok (.getfield 87, 3) := by decide +kernel
theorem dBL_share_29 : decode mBL_share.2.1 29 = .ok (.invokevirtual 139, 3) := by decide +kernel
theorem dBL_share_32 : decode mBL_share.2.1 32 = .ok (.lstore 5, 2) := by decide +kernel
theorem dBL_share_34 : decode mBL_share.2.1 34 = .ok (.lload 5, 2) := by decide +kernel
theorem dBL_share_36 : decode mBL_share.2.1 36 = .ok (.lconst 1, 1) := by decide +kernel
theorem dBL_share_37 : decode mBL_share.2.1 37 = .ok (.lcmp, 1) := by decide +kernel
theorem dBL_share_38 : decode mBL_share.2.1 38 = .ok (.ifCond .lt 12, 3) := by decide +kernel
theorem dBL_share_41 : decode mBL_share.2.1 41 = .ok (.iload_n 3, 1) := by decide +kernel
theorem dBL_share_42 : decode mBL_share.2.1 42 = .ok (.ifCond .lt 8, 3) := by decide +kernel
theorem dBL_share_45 : decode mBL_share.2.1 45 = .ok (.iload_n 3, 1) := by decide +kernel
theorem dBL_share_46 : decode mBL_share.2.1 46 = .ok (.iconst 1, 1) := by decide +kernel
theorem dBL_share_47 : decode mBL_share.2.1 47 = .ok (.if_icmp .le 7, 3) := by decide +kernel
theorem dBL_share_50 : decode mBL_share.2.1 50 = .ok (.ldc2_w 127, 3) := by decide +kernel
theorem dBL_share_53 : decode mBL_share.2.1 53 = .ok (.lreturn, 1) := by decide +kernel
theorem dBL_share_54 : decode mBL_share.2.1 54 = .ok (.aload 4, 2) := by decide +kernel
theorem dBL_share_56 : decode mBL_share.2.1 56 = .ok (.getfield 87, 3) := by decide +kernel
theorem dBL_share_59 : decode mBL_share.2.1 59 = .ok (.iload_n 2, 1) := by decide +kernel
theorem dBL_share_60 : decode mBL_share.2.1 60 = .ok (.invokevirtual 157, 3) := by decide +kernel
theorem dBL_share_63 : decode mBL_share.2.1 63 = .ok (.lstore 7, 2) := by decide +kernel
theorem dBL_share_65 : decode mBL_share.2.1 65 = .ok (.lload 5, 2) := by decide +kernel
theorem dBL_share_67 : decode mBL_share.2.1 67 = .ok (.lload 7, 2) := by decide +kernel
theorem dBL_share_69 : decode mBL_share.2.1 69 = .ok (.invokestatic 160, 3) := by decide +kernel
theorem dBL_share_72 : decode mBL_share.2.1 72 = .ok (.lstore 9, 2) := by decide +kernel
theorem dBL_share_74 : decode mBL_share.2.1 74 = .ok (.lload 9, 2) := by decide +kernel
theorem dBL_share_76 : decode mBL_share.2.1 76 = .ok (.lconst 1, 1) := by decide +kernel
theorem dBL_share_77 : decode mBL_share.2.1 77 = .ok (.lcmp, 1) := by decide +kernel
theorem dBL_share_78 : decode mBL_share.2.1 78 = .ok (.ifCond .ge 7, 3) := by decide +kernel
theorem dBL_share_81 : decode mBL_share.2.1 81 = .ok (.ldc2_w 127, 3) := by decide +kernel
theorem dBL_share_84 : decode mBL_share.2.1 84 = .ok (.lreturn, 1) := by decide +kernel
theorem dBL_share_85 : decode mBL_share.2.1 85 = .ok (.iload_n 3, 1) := by decide +kernel
theorem dBL_share_86 : decode mBL_share.2.1 86 = .ok (.ifCond .ne 8, 3) := by decide +kernel
theorem dBL_share_89 : decode mBL_share.2.1 89 = .ok (.lload 7, 2) := by decide +kernel
theorem dBL_share_91 : decode mBL_share.2.1 91 = .ok (.goto 5, 3) := by decide +kernel
theorem dBL_share_94 : decode mBL_share.2.1 94 = .ok (.lload 5, 2) := by decide +kernel
theorem dBL_share_96 : decode mBL_share.2.1 96 = .ok (.lload 9, 2) := by decide +kernel
theorem dBL_share_98 : decode mBL_share.2.1 98 = .ok (.ldiv, 1) := by decide +kernel
theorem dBL_share_99 : decode mBL_share.2.1 99 = .ok (.lreturn, 1) := by decide +kernel
theorem dBL_greatestDivisor_0 : decode mBL_greatestDivisor.2.1 0 = .ok (.lload_n 0, 1) := by decide +kernel
theorem dBL_greatestDivisor_1 : decode mBL_greatestDivisor.2.1 1 = .ok (.lstore 4, 2) := by decide +kernel
theorem dBL_greatestDivisor_3 : decode mBL_greatestDivisor.2.1 3 = .ok (.lload_n 2, 1) := by decide +kernel
theorem dBL_greatestDivisor_4 : decode mBL_greatestDivisor.2.1 4 = .ok (.lstore 6, 2) := by decide +kernel
theorem dBL_greatestDivisor_6 : decode mBL_greatestDivisor.2.1 6 = .ok (.iconst 0, 1) := by decide +kernel
theorem dBL_greatestDivisor_7 : decode mBL_greatestDivisor.2.1 7 = .ok (.istore 8, 2) := by decide +kernel
theorem dBL_greatestDivisor_9 : decode mBL_greatestDivisor.2.1 9 = .ok (.iload 8, 2) := by decide +kernel
theorem dBL_greatestDivisor_11 : decode mBL_greatestDivisor.2.1 11 = .ok (.bipush 100, 2) := by decide +kernel
theorem dBL_greatestDivisor_13 : decode mBL_greatestDivisor.2.1 13 = .ok (.if_icmp .ge 31, 3) := by decide +kernel
theorem dBL_greatestDivisor_16 : decode mBL_greatestDivisor.2.1 16 = .ok (.lload 6, 2) := by decide +kernel
theorem dBL_greatestDivisor_18 : decode mBL_greatestDivisor.2.1 18 = .ok (.lconst 0, 1) := by decide +kernel
theorem dBL_greatestDivisor_19 : decode mBL_greatestDivisor.2.1 19 = .ok (.lcmp, 1) := by decide +kernel
theorem dBL_greatestDivisor_20 : decode mBL_greatestDivisor.2.1 20 = .ok (.ifCond .eq 24, 3) := by decide +kernel
theorem dBL_greatestDivisor_23 : decode mBL_greatestDivisor.2.1 23 = .ok (.lload 4, 2) := by decide +kernel
theorem dBL_greatestDivisor_25 : decode mBL_greatestDivisor.2.1 25 = .ok (.lload 6, 2) := by decide +kernel
theorem dBL_greatestDivisor_27 : decode mBL_greatestDivisor.2.1 27 = .ok (.lrem, 1) := by decide +kernel
theorem dBL_greatestDivisor_28 : decode mBL_greatestDivisor.2.1 28 = .ok (.lstore 9, 2) := by decide +kernel
theorem dBL_greatestDivisor_30 : decode mBL_greatestDivisor.2.1 30 = .ok (.lload 6, 2) := by decide +kernel
theorem dBL_greatestDivisor_32 : decode mBL_greatestDivisor.2.1 32 = .ok (.lstore 4, 2) := by decide +kernel
theorem dBL_greatestDivisor_34 : decode mBL_greatestDivisor.2.1 34 = .ok (.lload 9, 2) := by decide +kernel
theorem dBL_greatestDivisor_36 : decode mBL_greatestDivisor.2.1 36 = .ok (.lstore 6, 2) := by decide +kernel
theorem dBL_greatestDivisor_38 : decode mBL_greatestDivisor.2.1 38 = .ok (.iinc 8 1, 3) := by decide +kernel
theorem dBL_greatestDivisor_41 : decode mBL_greatestDivisor.2.1 41 = .ok (.goto (-32), 3) := by decide +kernel
theorem dBL_greatestDivisor_44 : decode mBL_greatestDivisor.2.1 44 = .ok (.lload 4, 2) := by decide +kernel
theorem dBL_greatestDivisor_46 : decode mBL_greatestDivisor.2.1 46 = .ok (.lreturn, 1) := by decide +kernel
theorem dBL_back_0 : decode mBL_back.2.1 0 = .ok (.aload_n 0, 1) := by decide +kernel
theorem dBL_back_1 : decode mBL_back.2.1 1 = .ok (.iload_n 1, 1) := by decide +kernel
theorem dBL_back_2 : decode mBL_back.2.1 2 = .ok (.invokevirtual 101, 3) := by decide +kernel
theorem dBL_back_5 : decode mBL_back.2.1 5 = .ok (.astore_n 3, 1) := by decide +kernel
theorem dBL_back_6 : decode mBL_back.2.1 6 = .ok (.aload_n 3, 1) := by decide +kernel
theorem dBL_back_7 : decode mBL_back.2.1 7 = .ok (.ifnonnull 5, 3) := by decide +kernel
theorem dBL_back_10 : decode mBL_back.2.1 10 = .ok (.iconst (-1), 1) := by decide +kernel
theorem dBL_back_11 : decode mBL_back.2.1 11 = .ok (.ireturn, 1) := by decide +kernel
theorem dBL_back_12 : decode mBL_back.2.1 12 = .ok (.aload_n 0, 1) := by decide +kernel
theorem dBL_back_13 : decode mBL_back.2.1 13 = .ok (.getfield 22, 3) := by decide +kernel
theorem dBL_back_16 : decode mBL_back.2.1 16 = .ok (.invokevirtual 164, 3) := by decide +kernel
theorem dBL_back_19 : decode mBL_back.2.1 19 = .ok (.iconst 0, 1) := by decide +kernel
theorem dBL_back_20 : decode mBL_back.2.1 20 = .ok (.istore 4, 2) := by decide +kernel
theorem dBL_back_22 : decode mBL_back.2.1 22 = .ok (.iload 4, 2) := by decide +kernel
theorem dBL_back_24 : decode mBL_back.2.1 24 = .ok (.aload_n 3, 1) := by decide +kernel
theorem dBL_back_25 : decode mBL_back.2.1 25 = .ok (.getfield 87, 3) := by decide +kernel
theorem dBL_back_28 : decode mBL_back.2.1 28 = .ok (.invokevirtual 165, 3) := by decide +kernel
theorem dBL_back_31 : decode mBL_back.2.1 31 = .ok (.if_icmp .ge 25, 3) := by decide +kernel
theorem dBL_back_34 : decode mBL_back.2.1 34 = .ok (.aload_n 0, 1) := by decide +kernel
theorem dBL_back_35 : decode mBL_back.2.1 35 = .ok (.getfield 22, 3) := by decide +kernel
theorem dBL_back_38 : decode mBL_back.2.1 38 = .ok (.aload_n 3, 1) := by decide +kernel
theorem dBL_back_39 : decode mBL_back.2.1 39 = .ok (.getfield 87, 3) := by decide +kernel
theorem dBL_back_42 : decode mBL_back.2.1 42 = .ok (.iload 4, 2) := by decide +kernel
theorem dBL_back_44 : decode mBL_back.2.1 44 = .ok (.invokevirtual 150, 3) := by decide +kernel
theorem dBL_back_47 : decode mBL_back.2.1 47 = .ok (.invokevirtual 169, 3) := by decide +kernel
theorem dBL_back_50 : decode mBL_back.2.1 50 = .ok (.iinc 4 1, 3) := by decide +kernel
theorem dBL_back_53 : decode mBL_back.2.1 53 = .ok (.goto (-31), 3) := by decide +kernel
theorem dBL_back_56 : decode mBL_back.2.1 56 = .ok (.aload_n 0, 1) := by decide +kernel
theorem dBL_back_57 : decode mBL_back.2.1 57 = .ok (.getfield 22, 3) := by decide +kernel
theorem dBL_back_60 : decode mBL_back.2.1 60 = .ok (.iload_n 2, 1) := by decide +kernel
theorem dBL_back_61 : decode mBL_back.2.1 61 = .ok (.invokevirtual 172, 3) := by decide +kernel
theorem dBL_back_64 : decode mBL_back.2.1 64 = .ok (.ireturn, 1) := by decide +kernel
theorem dBL_recall_0 : decode mBL_recall.2.1 0 = .ok (.aload_n 0, 1) := by decide +kernel
theorem dBL_recall_1 : decode mBL_recall.2.1 1 = .ok (.iload_n 1, 1) := by decide +kernel
theorem dBL_recall_2 : decode mBL_recall.2.1 2 = .ok (.invokevirtual 136, 3) := by decide +kernel
theorem dBL_recall_5 : decode mBL_recall.2.1 5 = .ok (.ifnonnull 5, 3) := by decide +kernel
theorem dBL_recall_8 : decode mBL_recall.2.1 8 = .ok (.iconst (-1), 1) := by decide +kernel
theorem dBL_recall_9 : decode mBL_recall.2.1 9 = .ok (.ireturn, 1) := by decide +kernel
theorem dBL_recall_10 : decode mBL_recall.2.1 10 = .ok (.aload_n 0, 1) := by decide +kernel
theorem dBL_recall_11 : decode mBL_recall.2.1 11 = .ok (.iload_n 1, 1) := by decide +kernel
theorem dBL_recall_12 : decode mBL_recall.2.1 12 = .ok (.invokevirtual 175, 3) := by decide +kernel
theorem dBL_recall_15 : decode mBL_recall.2.1 15 = .ok (.aload_n 0, 1) := by decide +kernel
theorem dBL_recall_16 : decode mBL_recall.2.1 16 = .ok (.getfield 26, 3) := by decide +kernel
theorem dBL_recall_19 : decode mBL_recall.2.1 19 = .ok (.iconst 1, 1) := by decide +kernel
theorem dBL_recall_20 : decode mBL_recall.2.1 20 = .ok (.invokevirtual 178, 3) := by decide +kernel
theorem dBL_recall_23 : decode mBL_recall.2.1 23 = .ok (.ireturn, 1) := by decide +kernel
theorem dBL_countBoxesWith_0 : decode mBL_countBoxesWith.2.1 0 = .ok (.aload_n 0, 1) := by decide +kernel
theorem dBL_countBoxesWith_1 : decode mBL_countBoxesWith.2.1 1 = .ok (.getfield 26, 3) := by decide +kernel
theorem dBL_countBoxesWith_4 : decode mBL_countBoxesWith.2.1 4 = .ok (.invokevirtual 164, 3) := by decide +kernel
theorem dBL_countBoxesWith_7 : decode mBL_countBoxesWith.2.1 7 = .ok (.iconst 0, 1) := by decide +kernel
theorem dBL_countBoxesWith_8 : decode mBL_countBoxesWith.2.1 8 = .ok (.istore_n 2, 1) := by decide +kernel
theorem dBL_countBoxesWith_9 : decode mBL_countBoxesWith.2.1 9 = .ok (.iload_n 2, 1) := by decide +kernel
theorem dBL_countBoxesWith_10 : decode mBL_countBoxesWith.2.1 10 = .ok (.aload_n 0, 1) := by decide +kernel
theorem dBL_countBoxesWith_11 : decode mBL_countBoxesWith.2.1 11 = .ok (.getfield 15, 3) := by decide +kernel
theorem dBL_countBoxesWith_14 : decode mBL_countBoxesWith.2.1 14 = .ok (.if_icmp .ge 51, 3) := by decide +kernel
theorem dBL_countBoxesWith_17 : decode mBL_countBoxesWith.2.1 17 = .ok (.aload_n 0, 1) := by decide +kernel
theorem dBL_countBoxesWith_18 : decode mBL_countBoxesWith.2.1 18 = .ok (.iload_n 2, 1) := by decide +kernel
theorem dBL_countBoxesWith_19 : decode mBL_countBoxesWith.2.1 19 = .ok (.invokevirtual 101, 3) := by decide +kernel
theorem dBL_countBoxesWith_22 : decode mBL_countBoxesWith.2.1 22 = .ok (.astore_n 3, 1) := by decide +kernel
theorem dBL_countBoxesWith_23 : decode mBL_countBoxesWith.2.1 23 = .ok (.aload_n 3, 1) := by decide +kernel
theorem dBL_countBoxesWith_24 : decode mBL_countBoxesWith.2.1 24 = .ok (.ifnull 35, 3) := by decide +kernel
theorem dBL_countBoxesWith_27 : decode mBL_countBoxesWith.2.1 27 = .ok (.aload_n 3, 1) := by decide +kernel
theorem dBL_countBoxesWith_28 : decode mBL_countBoxesWith.2.1 28 = .ok (.getfield 105, 3) := by decide +kernel
theorem dBL_countBoxesWith_31 : decode mBL_countBoxesWith.2.1 31 = .ok (.iconst 3, 1) := by decide +kernel
theorem dBL_countBoxesWith_32 : decode mBL_countBoxesWith.2.1 32 = .ok (.if_icmp .ne 27, 3) := by decide +kernel
theorem dBL_countBoxesWith_35 : decode mBL_countBoxesWith.2.1 35 = .ok (.aload_n 3, 1) := by decide +kernel
theorem dBL_countBoxesWith_36 : decode mBL_countBoxesWith.2.1 36 = .ok (.getfield 87, 3) := by decide +kernel
theorem dBL_countBoxesWith_39 : decode mBL_countBoxesWith.2.1 39 = .ok (.iload_n 1, 1) := by decide +kernel
theorem dBL_countBoxesWith_40 : decode mBL_countBoxesWith.2.1 40 = .ok (.invokevirtual 157, 3) := by decide +kernel
theorem dBL_countBoxesWith_43 : decode mBL_countBoxesWith.2.1 43 = .ok (.lconst 0, 1) := by decide +kernel
theorem dBL_countBoxesWith_44 : decode mBL_countBoxesWith.2.1 44 = .ok (.lcmp, 1) := by decide +kernel
theorem dBL_countBoxesWith_45 : decode mBL_countBoxesWith.2.1 45 = .ok (.ifCond .le 14, 3) := by decide +kernel
theorem dBL_countBoxesWith_48 : decode mBL_countBoxesWith.2.1 48 = .ok (.aload_n 0, 1) := by decide +kernel
theorem dBL_countBoxesWith_49 : decode mBL_countBoxesWith.2.1 49 = .ok (.getfield 26, 3) := by decide +kernel
theorem dBL_countBoxesWith_52 : decode mBL_countBoxesWith.2.1 52 = .ok (.aload_n 3, 1) := by decide +kernel
theorem dBL_countBoxesWith_53 : decode mBL_countBoxesWith.2.1 53 = .ok (.getfield 195, 3) := by decide +kernel
theorem dBL_countBoxesWith_56 : decode mBL_countBoxesWith.2.1 56 = .ok (.invokevirtual 169, 3) := by decide +kernel
theorem dBL_countBoxesWith_59 : decode mBL_countBoxesWith.2.1 59 = .ok (.iinc 2 1, 3) := by decide +kernel
theorem dBL_countBoxesWith_62 : decode mBL_countBoxesWith.2.1 62 = .ok (.goto (-53), 3) := by decide +kernel
theorem dBL_countBoxesWith_65 : decode mBL_countBoxesWith.2.1 65 = .ok (.return_, 1) := by decide +kernel
theorem dBL_recalled_0 : decode mBL_recalled.2.1 0 = .ok (.aload_n 0, 1) := by decide +kernel
theorem dBL_recalled_1 : decode mBL_recalled.2.1 1 = .ok (.iload_n 1, 1) := by decide +kernel
theorem dBL_recalled_2 : decode mBL_recalled.2.1 2 = .ok (.invokevirtual 136, 3) := by decide +kernel
theorem dBL_recalled_5 : decode mBL_recalled.2.1 5 = .ok (.ifnonnull 5, 3) := by decide +kernel
theorem dBL_recalled_8 : decode mBL_recalled.2.1 8 = .ok (.iconst (-1), 1) := by decide +kernel
theorem dBL_recalled_9 : decode mBL_recalled.2.1 9 = .ok (.ireturn, 1) := by decide +kernel
theorem dBL_recalled_10 : decode mBL_recalled.2.1 10 = .ok (.aload_n 0, 1) := by decide +kernel
theorem dBL_recalled_11 : decode mBL_recalled.2.1 11 = .ok (.iload_n 1, 1) := by decide +kernel
theorem dBL_recalled_12 : decode mBL_recalled.2.1 12 = .ok (.invokevirtual 175, 3) := by decide +kernel
theorem dBL_recalled_15 : decode mBL_recalled.2.1 15 = .ok (.aload_n 0, 1) := by decide +kernel
theorem dBL_recalled_16 : decode mBL_recalled.2.1 16 = .ok (.getfield 26, 3) := by decide +kernel
theorem dBL_recalled_19 : decode mBL_recalled.2.1 19 = .ok (.iload_n 2, 1) := by decide +kernel
theorem dBL_recalled_20 : decode mBL_recalled.2.1 20 = .ok (.invokevirtual 172, 3) := by decide +kernel
theorem dBL_recalled_23 : decode mBL_recalled.2.1 23 = .ok (.ireturn, 1) := by decide +kernel
theorem dBL_doubled_0 : decode mBL_doubled.2.1 0 = .ok (.aload_n 0, 1) := by decide +kernel
theorem dBL_doubled_1 : decode mBL_doubled.2.1 1 = .ok (.getfield 22, 3) := by decide +kernel
theorem dBL_doubled_4 : decode mBL_doubled.2.1 4 = .ok (.invokevirtual 164, 3) := by decide +kernel
theorem dBL_doubled_7 : decode mBL_doubled.2.1 7 = .ok (.iconst 0, 1) := by decide +kernel
theorem dBL_doubled_8 : decode mBL_doubled.2.1 8 = .ok (.istore_n 2, 1) := by decide +kernel
theorem dBL_doubled_9 : decode mBL_doubled.2.1 9 = .ok (.iload_n 2, 1) := by decide +kernel
theorem dBL_doubled_10 : decode mBL_doubled.2.1 10 = .ok (.aload_n 0, 1) := by decide +kernel
theorem dBL_doubled_11 : decode mBL_doubled.2.1 11 = .ok (.getfield 15, 3) := by decide +kernel
theorem dBL_doubled_14 : decode mBL_doubled.2.1 14 = .ok (.if_icmp .ge 41, 3) := by decide +kernel
theorem dBL_doubled_17 : decode mBL_doubled.2.1 17 = .ok (.aload_n 0, 1) := by decide +kernel
theorem dBL_doubled_18 : decode mBL_doubled.2.1 18 = .ok (.iload_n 2, 1) := by decide +kernel
theorem dBL_doubled_19 : decode mBL_doubled.2.1 19 = .ok (.invokevirtual 136, 3) := by decide +kernel
theorem dBL_doubled_22 : decode mBL_doubled.2.1 22 = .ok (.ifnull 27, 3) := by decide +kernel
theorem dBL_doubled_25 : decode mBL_doubled.2.1 25 = .ok (.aload_n 0, 1) := by decide +kernel
theorem dBL_doubled_26 : decode mBL_doubled.2.1 26 = .ok (.iload_n 2, 1) := by decide +kernel
theorem dBL_doubled_27 : decode mBL_doubled.2.1 27 = .ok (.invokevirtual 175, 3) := by decide +kernel
theorem dBL_doubled_30 : decode mBL_doubled.2.1 30 = .ok (.aload_n 0, 1) := by decide +kernel
theorem dBL_doubled_31 : decode mBL_doubled.2.1 31 = .ok (.getfield 26, 3) := by decide +kernel
theorem dBL_doubled_34 : decode mBL_doubled.2.1 34 = .ok (.iconst 2, 1) := by decide +kernel
theorem dBL_doubled_35 : decode mBL_doubled.2.1 35 = .ok (.invokevirtual 178, 3) := by decide +kernel
theorem dBL_doubled_38 : decode mBL_doubled.2.1 38 = .ok (.ifCond .le 11, 3) := by decide +kernel
theorem dBL_doubled_41 : decode mBL_doubled.2.1 41 = .ok (.aload_n 0, 1) := by decide +kernel
theorem dBL_doubled_42 : decode mBL_doubled.2.1 42 = .ok (.getfield 22, 3) := by decide +kernel
theorem dBL_doubled_45 : decode mBL_doubled.2.1 45 = .ok (.iload_n 2, 1) := by decide +kernel
theorem dBL_doubled_46 : decode mBL_doubled.2.1 46 = .ok (.invokevirtual 169, 3) := by decide +kernel
theorem dBL_doubled_49 : decode mBL_doubled.2.1 49 = .ok (.iinc 2 1, 3) := by decide +kernel
theorem dBL_doubled_52 : decode mBL_doubled.2.1 52 = .ok (.goto (-43), 3) := by decide +kernel
theorem dBL_doubled_55 : decode mBL_doubled.2.1 55 = .ok (.aload_n 0, 1) := by decide +kernel
theorem dBL_doubled_56 : decode mBL_doubled.2.1 56 = .ok (.getfield 22, 3) := by decide +kernel
theorem dBL_doubled_59 : decode mBL_doubled.2.1 59 = .ok (.iload_n 1, 1) := by decide +kernel
theorem dBL_doubled_60 : decode mBL_doubled.2.1 60 = .ok (.invokevirtual 172, 3) := by decide +kernel
theorem dBL_doubled_63 : decode mBL_doubled.2.1 63 = .ok (.ireturn, 1) := by decide +kernel
theorem dBL_unit_0 : decode mBL_unit.2.1 0 = .ok (.aload_n 0, 1) := by decide +kernel
theorem dBL_unit_1 : decode mBL_unit.2.1 1 = .ok (.getfield 34, 3) := by decide +kernel
theorem dBL_unit_4 : decode mBL_unit.2.1 4 = .ok (.iload_n 1, 1) := by decide +kernel
theorem dBL_unit_5 : decode mBL_unit.2.1 5 = .ok (.sipush 255, 3) := by decide +kernel
theorem dBL_unit_8 : decode mBL_unit.2.1 8 = .ok (.iand, 1) := by decide +kernel
theorem dBL_unit_9 : decode mBL_unit.2.1 9 = .ok (.invokevirtual 181, 3) := by decide +kernel
theorem dBL_unit_12 : decode mBL_unit.2.1 12 = .ok (.ireturn, 1) := by decide +kernel
theorem dBL_names_0 : decode mBL_names.2.1 0 = .ok (.aload_n 0, 1) := by decide +kernel
theorem dBL_names_1 : decode mBL_names.2.1 1 = .ok (.getfield 43, 3) := by decide +kernel
theorem dBL_names_4 : decode mBL_names.2.1 4 = .ok (.aload_n 0, 1) := by decide +kernel
theorem dBL_names_5 : decode mBL_names.2.1 5 = .ok (.getfield 54, 3) := by decide +kernel
theorem dBL_names_8 : decode mBL_names.2.1 8 = .ok (.invokevirtual 185, 3) := by decide +kernel
theorem dBL_names_11 : decode mBL_names.2.1 11 = .ok (.istore_n 1, 1) := by decide +kernel
theorem dBL_names_12 : decode mBL_names.2.1 12 = .ok (.aload_n 0, 1) := by decide +kernel
theorem dBL_names_13 : decode mBL_names.2.1 13 = .ok (.getfield 34, 3) := by decide +kernel
theorem dBL_names_16 : decode mBL_names.2.1 16 = .ok (.invokevirtual 189, 3) := by decide +kernel
theorem dBL_names_19 : decode mBL_names.2.1 19 = .ok (.iload_n 1, 1) := by decide +kernel
theorem dBL_names_20 : decode mBL_names.2.1 20 = .ok (.iconst (-1), 1) := by decide +kernel
theorem dBL_names_21 : decode mBL_names.2.1 21 = .ok (.if_icmp .eq 7, 3) := by decide +kernel
theorem dBL_names_24 : decode mBL_names.2.1 24 = .ok (.iconst (-1), 1) := by decide +kernel
theorem dBL_names_25 : decode mBL_names.2.1 25 = .ok (.iload_n 1, 1) := by decide +kernel
theorem dBL_names_26 : decode mBL_names.2.1 26 = .ok (.isub, 1) := by decide +kernel
theorem dBL_names_27 : decode mBL_names.2.1 27 = .ok (.ireturn, 1) := by decide +kernel
theorem dBL_names_28 : decode mBL_names.2.1 28 = .ok (.aload_n 0, 1) := by decide +kernel
theorem dBL_names_29 : decode mBL_names.2.1 29 = .ok (.getfield 50, 3) := by decide +kernel
theorem dBL_names_32 : decode mBL_names.2.1 32 = .ok (.astore_n 2, 1) := by decide +kernel
theorem dBL_names_33 : decode mBL_names.2.1 33 = .ok (.aload_n 0, 1) := by decide +kernel
theorem dBL_names_34 : decode mBL_names.2.1 34 = .ok (.aload_n 0, 1) := by decide +kernel
theorem dBL_names_35 : decode mBL_names.2.1 35 = .ok (.getfield 54, 3) := by decide +kernel
theorem dBL_names_38 : decode mBL_names.2.1 38 = .ok (.putfield 50, 3) := by decide +kernel
theorem dBL_names_41 : decode mBL_names.2.1 41 = .ok (.aload_n 0, 1) := by decide +kernel
theorem dBL_names_42 : decode mBL_names.2.1 42 = .ok (.aload_n 2, 1) := by decide +kernel
theorem dBL_names_43 : decode mBL_names.2.1 43 = .ok (.putfield 54, 3) := by decide +kernel
theorem dBL_names_46 : decode mBL_names.2.1 46 = .ok (.aload_n 0, 1) := by decide +kernel
theorem dBL_names_47 : decode mBL_names.2.1 47 = .ok (.getfield 50, 3) := by decide +kernel
theorem dBL_names_50 : decode mBL_names.2.1 50 = .ok (.invokevirtual 190, 3) := by decide +kernel
theorem dBL_names_53 : decode mBL_names.2.1 53 = .ok (.ireturn, 1) := by decide +kernel
theorem dBL_name_0 : decode mBL_name.2.1 0 = .ok (.aload_n 0, 1) := by decide +kernel
theorem dBL_name_1 : decode mBL_name.2.1 1 = .ok (.iload_n 1, 1) := by decide +kernel
theorem dBL_name_2 : decode mBL_name.2.1 2 = .ok (.invokevirtual 101, 3) := by decide +kernel
theorem dBL_name_5 : decode mBL_name.2.1 5 = .ok (.astore 4, 2) := by decide +kernel
theorem dBL_name_7 : decode mBL_name.2.1 7 = .ok (.aload 4, 2) := by decide +kernel
theorem dBL_name_9 : decode mBL_name.2.1 9 = .ok (.ifnull 14, 3) := by decide +kernel
theorem dBL_name_12 : decode mBL_name.2.1 12 = .ok (.aload 4, 2) := by decide +kernel
theorem dBL_name_14 : decode mBL_name.2.1 14 = .ok (.getfield 87, 3) := by decide +kernel
theorem dBL_name_17 : decode mBL_name.2.1 17 = .ok (.invokevirtual 165, 3) := by decide +kernel
theorem dBL_name_20 : decode mBL_name.2.1 20 = .ok (.ifCond .ne 5, 3) := by decide +kernel
theorem dBL_name_23 : decode mBL_name.2.1 23 = .ok (.iconst 0, 1) := by decide +kernel
theorem dBL_name_24 : decode mBL_name.2.1 24 = .ok (.ireturn, 1) := by decide +kernel
theorem dBL_name_25 : decode mBL_name.2.1 25 = .ok (.aload_n 0, 1) := by decide +kernel
theorem dBL_name_26 : decode mBL_name.2.1 26 = .ok (.getfield 50, 3) := by decide +kernel
theorem dBL_name_29 : decode mBL_name.2.1 29 = .ok (.iload_n 2, 1) := by decide +kernel
theorem dBL_name_30 : decode mBL_name.2.1 30 = .ok (.iload_n 3, 1) := by decide +kernel
theorem dBL_name_31 : decode mBL_name.2.1 31 = .ok (.invokevirtual 191, 3) := by decide +kernel
theorem dBL_name_34 : decode mBL_name.2.1 34 = .ok (.istore 5, 2) := by decide +kernel
theorem dBL_name_36 : decode mBL_name.2.1 36 = .ok (.iload 5, 2) := by decide +kernel
theorem dBL_name_38 : decode mBL_name.2.1 38 = .ok (.iconst (-1), 1) := by decide +kernel
theorem dBL_name_39 : decode mBL_name.2.1 39 = .ok (.if_icmp .ne 5, 3) := by decide +kernel
theorem dBL_name_42 : decode mBL_name.2.1 42 = .ok (.iconst 0, 1) := by decide +kernel
theorem dBL_name_43 : decode mBL_name.2.1 43 = .ok (.ireturn, 1) := by decide +kernel
theorem dBL_name_44 : decode mBL_name.2.1 44 = .ok (.iconst 0, 1) := by decide +kernel
theorem dBL_name_45 : decode mBL_name.2.1 45 = .ok (.istore 6, 2) := by decide +kernel
theorem dBL_name_47 : decode mBL_name.2.1 47 = .ok (.iload 6, 2) := by decide +kernel
theorem dBL_name_49 : decode mBL_name.2.1 49 = .ok (.aload 4, 2) := by decide +kernel
theorem dBL_name_51 : decode mBL_name.2.1 51 = .ok (.getfield 87, 3) := by decide +kernel
theorem dBL_name_54 : decode mBL_name.2.1 54 = .ok (.invokevirtual 165, 3) := by decide +kernel
theorem dBL_name_57 : decode mBL_name.2.1 57 = .ok (.if_icmp .ge 49, 3) := by decide +kernel
theorem dBL_name_60 : decode mBL_name.2.1 60 = .ok (.aload_n 0, 1) := by decide +kernel
theorem dBL_name_61 : decode mBL_name.2.1 61 = .ok (.aload 4, 2) := by decide +kernel
theorem dBL_name_63 : decode mBL_name.2.1 63 = .ok (.getfield 87, 3) := by decide +kernel
theorem dBL_name_66 : decode mBL_name.2.1 66 = .ok (.iload 6, 2) := by decide +kernel
theorem dBL_name_68 : decode mBL_name.2.1 68 = .ok (.invokevirtual 150, 3) := by decide +kernel
theorem dBL_name_71 : decode mBL_name.2.1 71 = .ok (.invokevirtual 136, 3) := by decide +kernel
theorem dBL_name_74 : decode mBL_name.2.1 74 = .ok (.astore 7, 2) := by decide +kernel
theorem dBL_name_76 : decode mBL_name.2.1 76 = .ok (.aload 7, 2) := by decide +kernel
theorem dBL_name_78 : decode mBL_name.2.1 78 = .ok (.ifnull 20, 3) := by decide +kernel
theorem dBL_name_81 : decode mBL_name.2.1 81 = .ok (.aload_n 0, 1) := by decide +kernel
theorem dBL_name_82 : decode mBL_name.2.1 82 = .ok (.getfield 50, 3) := by decide +kernel
theorem dBL_name_85 : decode mBL_name.2.1 85 = .ok (.iload 5, 2) := by decide +kernel
theorem dBL_name_87 : decode mBL_name.2.1 87 = .ok (.aload 7, 2) := by decide +kernel
theorem dBL_name_89 : decode mBL_name.2.1 89 = .ok (.getfield 195, 3) := by decide +kernel
theorem dBL_name_92 : decode mBL_name.2.1 92 = .ok (.invokevirtual 198, 3) := by decide +kernel
theorem dBL_name_95 : decode mBL_name.2.1 95 = .ok (.ifCond .ne 5, 3) := by decide +kernel
theorem dBL_name_98 : decode mBL_name.2.1 98 = .ok (.iconst 0, 1) := by decide +kernel
theorem dBL_name_99 : decode mBL_name.2.1 99 = .ok (.ireturn, 1) := by decide +kernel
theorem dBL_name_100 : decode mBL_name.2.1 100 = .ok (.iinc 6 1, 3) := by decide +kernel
theorem dBL_name_103 : decode mBL_name.2.1 103 = .ok (.goto (-56), 3) := by decide +kernel
theorem dBL_name_106 : decode mBL_name.2.1 106 = .ok (.iconst 1, 1) := by decide +kernel
theorem dBL_name_107 : decode mBL_name.2.1 107 = .ok (.ireturn, 1) := by decide +kernel
theorem dBL_certificate_0 : decode mBL_certificate.2.1 0 = .ok (.iload_n 1, 1) := by decide +kernel
theorem dBL_certificate_1 : decode mBL_certificate.2.1 1 = .ok (.ldc 75, 2) := by decide +kernel
theorem dBL_certificate_3 : decode mBL_certificate.2.1 3 = .ok (.invokestatic 71, 3) := by decide +kernel
theorem dBL_certificate_6 : decode mBL_certificate.2.1 6 = .ok (.ifCond .eq 14, 3) := by decide +kernel
theorem dBL_certificate_9 : decode mBL_certificate.2.1 9 = .ok (.aload_n 0, 1) := by decide +kernel
theorem dBL_certificate_10 : decode mBL_certificate.2.1 10 = .ok (.getfield 60, 3) := by decide +kernel
theorem dBL_certificate_13 : decode mBL_certificate.2.1 13 = .ok (.iload_n 1, 1) := by decide +kernel
theorem dBL_certificate_14 : decode mBL_certificate.2.1 14 = .ok (.invokevirtual 201, 3) := by decide +kernel
theorem dBL_certificate_17 : decode mBL_certificate.2.1 17 = .ok (.goto 4, 3) := by decide +kernel
theorem dBL_certificate_20 : decode mBL_certificate.2.1 20 = .ok (.iconst (-1), 1) := by decide +kernel
theorem dBL_certificate_21 : decode mBL_certificate.2.1 21 = .ok (.ireturn, 1) := by decide +kernel
theorem dBL_credit_0 : decode mBL_credit.2.1 0 = .ok (.aload_n 0, 1) := by decide +kernel
theorem dBL_credit_1 : decode mBL_credit.2.1 1 = .ok (.iload_n 1, 1) := by decide +kernel
theorem dBL_credit_2 : decode mBL_credit.2.1 2 = .ok (.lload_n 2, 1) := by decide +kernel
theorem dBL_credit_3 : decode mBL_credit.2.1 3 = .ok (.iload 4, 2) := by decide +kernel
theorem dBL_credit_5 : decode mBL_credit.2.1 5 = .ok (.invokevirtual 204, 3) := by decide +kernel
theorem dBL_credit_8 : decode mBL_credit.2.1 8 = .ok (.ifCond .ne 5, 3) := by decide +kernel
theorem dBL_credit_11 : decode mBL_credit.2.1 11 = .ok (.iconst 0, 1) := by decide +kernel
theorem dBL_credit_12 : decode mBL_credit.2.1 12 = .ok (.ireturn, 1) := by decide +kernel
theorem dBL_credit_13 : decode mBL_credit.2.1 13 = .ok (.aload_n 0, 1) := by decide +kernel
theorem dBL_credit_14 : decode mBL_credit.2.1 14 = .ok (.getfield 60, 3) := by decide +kernel
theorem dBL_credit_17 : decode mBL_credit.2.1 17 = .ok (.iload_n 1, 1) := by decide +kernel
theorem dBL_credit_18 : decode mBL_credit.2.1 18 = .ok (.lload_n 2, 1) := by decide +kernel
theorem dBL_credit_19 : decode mBL_credit.2.1 19 = .ok (.iload 4, 2) := by decide +kernel
theorem dBL_credit_21 : decode mBL_credit.2.1 21 = .ok (.invokevirtual 208, 3) := by decide +kernel
theorem dBL_credit_24 : decode mBL_credit.2.1 24 = .ok (.iconst 1, 1) := by decide +kernel
theorem dBL_credit_25 : decode mBL_credit.2.1 25 = .ok (.ireturn, 1) := by decide +kernel
theorem dBL_canEnter_0 : decode mBL_canEnter.2.1 0 = .ok (.aload_n 0, 1) := by decide +kernel
theorem dBL_canEnter_1 : decode mBL_canEnter.2.1 1 = .ok (.getfield 60, 3) := by decide +kernel
theorem dBL_canEnter_4 : decode mBL_canEnter.2.1 4 = .ok (.iload_n 1, 1) := by decide +kernel
theorem dBL_canEnter_5 : decode mBL_canEnter.2.1 5 = .ok (.invokevirtual 218, 3) := by decide +kernel
theorem dBL_canEnter_8 : decode mBL_canEnter.2.1 8 = .ok (.ifCond .eq 34, 3) := by decide +kernel
theorem dBL_canEnter_11 : decode mBL_canEnter.2.1 11 = .ok (.lload_n 2, 1) := by decide +kernel
theorem dBL_canEnter_12 : decode mBL_canEnter.2.1 12 = .ok (.invokestatic 67, 3) := by decide +kernel
theorem dBL_canEnter_15 : decode mBL_canEnter.2.1 15 = .ok (.ifCond .eq 27, 3) := by decide +kernel
theorem dBL_canEnter_18 : decode mBL_canEnter.2.1 18 = .ok (.iload 4, 2) := by decide +kernel
theorem dBL_canEnter_20 : decode mBL_canEnter.2.1 20 = .ok (.ldc 75, 2) := by decide +kernel
theorem dBL_canEnter_22 : decode mBL_canEnter.2.1 22 = .ok (.invokestatic 71, 3) := by decide +kernel
theorem dBL_canEnter_25 : decode mBL_canEnter.2.1 25 = .ok (.ifCond .eq 17, 3) := by decide +kernel
theorem dBL_canEnter_28 : decode mBL_canEnter.2.1 28 = .ok (.aload_n 0, 1) := by decide +kernel
theorem dBL_canEnter_29 : decode mBL_canEnter.2.1 29 = .ok (.getfield 60, 3) := by decide +kernel
theorem dBL_canEnter_32 : decode mBL_canEnter.2.1 32 = .ok (.invokevirtual 248, 3) := by decide +kernel
theorem dBL_canEnter_35 : decode mBL_canEnter.2.1 35 = .ok (.ifCond .ne 7, 3) := by decide +kernel
theorem dBL_canEnter_38 : decode mBL_canEnter.2.1 38 = .ok (.iconst 1, 1) := by decide +kernel
theorem dBL_canEnter_39 : decode mBL_canEnter.2.1 39 = .ok (.goto 4, 3) := by decide +kernel
theorem dBL_canEnter_42 : decode mBL_canEnter.2.1 42 = .ok (.iconst 0, 1) := by decide +kernel
theorem dBL_canEnter_43 : decode mBL_canEnter.2.1 43 = .ok (.ireturn, 1) := by decide +kernel
theorem dBL_claim_0 : decode mBL_claim.2.1 0 = .ok (.aload_n 0, 1) := by decide +kernel
theorem dBL_claim_1 : decode mBL_claim.2.1 1 = .ok (.iload_n 1, 1) := by decide +kernel
theorem dBL_claim_2 : decode mBL_claim.2.1 2 = .ok (.lload_n 2, 1) := by decide +kernel
theorem dBL_claim_3 : decode mBL_claim.2.1 3 = .ok (.iload 4, 2) := by decide +kernel
theorem dBL_claim_5 : decode mBL_claim.2.1 5 = .ok (.invokevirtual 204, 3) := by decide +kernel
theorem dBL_claim_8 : decode mBL_claim.2.1 8 = .ok (.ifCond .ne 5, 3) := by decide +kernel
theorem dBL_claim_11 : decode mBL_claim.2.1 11 = .ok (.iconst (-1), 1) := by decide +kernel
theorem dBL_claim_12 : decode mBL_claim.2.1 12 = .ok (.ireturn, 1) := by decide +kernel
theorem dBL_claim_13 : decode mBL_claim.2.1 13 = .ok (.aload_n 0, 1) := by decide +kernel
theorem dBL_claim_14 : decode mBL_claim.2.1 14 = .ok (.getfield 60, 3) := by decide +kernel
theorem dBL_claim_17 : decode mBL_claim.2.1 17 = .ok (.iload_n 1, 1) := by decide +kernel
theorem dBL_claim_18 : decode mBL_claim.2.1 18 = .ok (.iload 4, 2) := by decide +kernel
theorem dBL_claim_20 : decode mBL_claim.2.1 20 = .ok (.invokevirtual 212, 3) := by decide +kernel
theorem dBL_claim_23 : decode mBL_claim.2.1 23 = .ok (.ifCond .eq 5, 3) := by decide +kernel
theorem dBL_claim_26 : decode mBL_claim.2.1 26 = .ok (.iconst 1, 1) := by decide +kernel
theorem dBL_claim_27 : decode mBL_claim.2.1 27 = .ok (.ireturn, 1) := by decide +kernel
theorem dBL_claim_28 : decode mBL_claim.2.1 28 = .ok (.aload_n 0, 1) := by decide +kernel
theorem dBL_claim_29 : decode mBL_claim.2.1 29 = .ok (.getfield 60, 3) := by decide +kernel
theorem dBL_claim_32 : decode mBL_claim.2.1 32 = .ok (.iload_n 1, 1) := by decide +kernel
theorem dBL_claim_33 : decode mBL_claim.2.1 33 = .ok (.lload_n 2, 1) := by decide +kernel
theorem dBL_claim_34 : decode mBL_claim.2.1 34 = .ok (.iload 4, 2) := by decide +kernel
theorem dBL_claim_36 : decode mBL_claim.2.1 36 = .ok (.invokevirtual 215, 3) := by decide +kernel
theorem dBL_claim_39 : decode mBL_claim.2.1 39 = .ok (.ifCond .ne 5, 3) := by decide +kernel
theorem dBL_claim_42 : decode mBL_claim.2.1 42 = .ok (.iconst 2, 1) := by decide +kernel
theorem dBL_claim_43 : decode mBL_claim.2.1 43 = .ok (.ireturn, 1) := by decide +kernel
theorem dBL_claim_44 : decode mBL_claim.2.1 44 = .ok (.aload_n 0, 1) := by decide +kernel
theorem dBL_claim_45 : decode mBL_claim.2.1 45 = .ok (.getfield 60, 3) := by decide +kernel
theorem dBL_claim_48 : decode mBL_claim.2.1 48 = .ok (.iload_n 1, 1) := by decide +kernel
theorem dBL_claim_49 : decode mBL_claim.2.1 49 = .ok (.lload_n 2, 1) := by decide +kernel
theorem dBL_claim_50 : decode mBL_claim.2.1 50 = .ok (.lneg, 1) := by decide +kernel
theorem dBL_claim_51 : decode mBL_claim.2.1 51 = .ok (.iload 4, 2) := by decide +kernel
theorem dBL_claim_53 : decode mBL_claim.2.1 53 = .ok (.invokevirtual 208, 3) := by decide +kernel
theorem dBL_claim_56 : decode mBL_claim.2.1 56 = .ok (.iconst 0, 1) := by decide +kernel
theorem dBL_claim_57 : decode mBL_claim.2.1 57 = .ok (.ireturn, 1) := by decide +kernel
theorem dBL_balance_0 : decode mBL_balance.2.1 0 = .ok (.aload_n 0, 1) := by decide +kernel
theorem dBL_balance_1 : decode mBL_balance.2.1 1 = .ok (.getfield 60, 3) := by decide +kernel
theorem dBL_balance_4 : decode mBL_balance.2.1 4 = .ok (.iload_n 1, 1) := by decide +kernel
theorem dBL_balance_5 : decode mBL_balance.2.1 5 = .ok (.invokevirtual 218, 3) := by decide +kernel
theorem dBL_balance_8 : decode mBL_balance.2.1 8 = .ok (.ifCond .eq 15, 3) := by decide +kernel
theorem dBL_balance_11 : decode mBL_balance.2.1 11 = .ok (.aload_n 0, 1) := by decide +kernel
theorem dBL_balance_12 : decode mBL_balance.2.1 12 = .ok (.getfield 60, 3) := by decide +kernel
theorem dBL_balance_15 : decode mBL_balance.2.1 15 = .ok (.iload_n 1, 1) := by decide +kernel
theorem dBL_balance_16 : decode mBL_balance.2.1 16 = .ok (.iload_n 2, 1) := by decide +kernel
theorem dBL_balance_17 : decode mBL_balance.2.1 17 = .ok (.invokevirtual 221, 3) := by decide +kernel
theorem dBL_balance_20 : decode mBL_balance.2.1 20 = .ok (.goto 6, 3) := by decide +kernel
theorem dBL_balance_23 : decode mBL_balance.2.1 23 = .ok (.ldc2_w 127, 3) := by decide +kernel
theorem dBL_balance_26 : decode mBL_balance.2.1 26 = .ok (.lreturn, 1) := by decide +kernel
theorem dBL_warm_0 : decode mBL_warm.2.1 0 = .ok (.aload_n 0, 1) := by decide +kernel
theorem dBL_warm_1 : decode mBL_warm.2.1 1 = .ok (.iload_n 1, 1) := by decide +kernel
theorem dBL_warm_2 : decode mBL_warm.2.1 2 = .ok (.invokevirtual 101, 3) := by decide +kernel
theorem dBL_warm_5 : decode mBL_warm.2.1 5 = .ok (.astore_n 3, 1) := by decide +kernel
theorem dBL_warm_6 : decode mBL_warm.2.1 6 = .ok (.aload_n 3, 1) := by decide +kernel
theorem dBL_warm_7 : decode mBL_warm.2.1 7 = .ok (.ifnull 15, 3) := by decide +kernel
theorem dBL_warm_10 : decode mBL_warm.2.1 10 = .ok (.iload_n 2, 1) := by decide +kernel
theorem dBL_warm_11 : decode mBL_warm.2.1 11 = .ok (.iconst 1, 1) := by decide +kernel
theorem dBL_warm_12 : decode mBL_warm.2.1 12 = .ok (.if_icmp .lt 10, 3) := by decide +kernel
theorem dBL_warm_15 : decode mBL_warm.2.1 15 = .ok (.iload_n 2, 1) := by decide +kernel
theorem dBL_warm_16 : decode mBL_warm.2.1 16 = .ok (.sipush 4000, 3) := by decide +kernel
theorem dBL_warm_19 : decode mBL_warm.2.1 19 = .ok (.if_icmp .le 5, 3) := by decide +kernel
theorem dBL_warm_22 : decode mBL_warm.2.1 22 = .ok (.iconst 0, 1) := by decide +kernel
theorem dBL_warm_23 : decode mBL_warm.2.1 23 = .ok (.ireturn, 1) := by decide +kernel
theorem dBL_warm_24 : decode mBL_warm.2.1 24 = .ok (.aload_n 3, 1) := by decide +kernel
theorem dBL_warm_25 : decode mBL_warm.2.1 25 = .ok (.aload_n 3, 1) := by decide +kernel
theorem dBL_warm_26 : decode mBL_warm.2.1 26 = .ok (.getfield 225, 3) := by decide +kernel
theorem dBL_warm_29 : decode mBL_warm.2.1 29 = .ok (.iload_n 2, 1) := by decide +kernel
theorem dBL_warm_30 : decode mBL_warm.2.1 30 = .ok (.invokestatic 228, 3) := by decide +kernel
theorem dBL_warm_33 : decode mBL_warm.2.1 33 = .ok (.putfield 225, 3) := by decide +kernel
theorem dBL_warm_36 : decode mBL_warm.2.1 36 = .ok (.iconst 1, 1) := by decide +kernel
theorem dBL_warm_37 : decode mBL_warm.2.1 37 = .ok (.ireturn, 1) := by decide +kernel
theorem dBL_paper_0 : decode mBL_paper.2.1 0 = .ok (.aload_n 0, 1) := by decide +kernel
theorem dBL_paper_1 : decode mBL_paper.2.1 1 = .ok (.iload_n 1, 1) := by decide +kernel
theorem dBL_paper_2 : decode mBL_paper.2.1 2 = .ok (.invokevirtual 101, 3) := by decide +kernel
theorem dBL_paper_5 : decode mBL_paper.2.1 5 = .ok (.astore 4, 2) := by decide +kernel
theorem dBL_paper_7 : decode mBL_paper.2.1 7 = .ok (.aload 4, 2) := by decide +kernel
theorem dBL_paper_9 : decode mBL_paper.2.1 9 = .ok (.ifnull 21, 3) := by decide +kernel
theorem dBL_paper_12 : decode mBL_paper.2.1 12 = .ok (.aload 4, 2) := by decide +kernel
theorem dBL_paper_14 : decode mBL_paper.2.1 14 = .ok (.getfield 105, 3) := by decide +kernel
theorem dBL_paper_17 : decode mBL_paper.2.1 17 = .ok (.iconst 3, 1) := by decide +kernel
theorem dBL_paper_18 : decode mBL_paper.2.1 18 = .ok (.if_icmp .ne 12, 3) := by decide +kernel
theorem dBL_paper_21 : decode mBL_paper.2.1 21 = .ok (.iload_n 2, 1) := by decide +kernel
theorem dBL_paper_22 : decode mBL_paper.2.1 22 = .ok (.bipush 99, 2) := by decide +kernel
theorem dBL_paper_24 : decode mBL_paper.2.1 24 = .ok (.invokestatic 71, 3) := by decide +kernel
theorem dBL_paper_27 : decode mBL_paper.2.1 27 = .ok (.ifCond .ne 5, 3) := by decide +kernel
theorem dBL_paper_30 : decode mBL_paper.2.1 30 = .ok (.iconst (-1), 1) := by decide +kernel
theorem dBL_paper_31 : decode mBL_paper.2.1 31 = .ok (.ireturn, 1) := by decide +kernel
theorem dBL_paper_32 : decode mBL_paper.2.1 32 = .ok (.aload_n 0, 1) := by decide +kernel
theorem dBL_paper_33 : decode mBL_paper.2.1 33 = .ok (.getfield 64, 3) := by decide +kernel
theorem dBL_paper_36 : decode mBL_paper.2.1 36 = .ok (.invokevirtual 189, 3) := by decide +kernel
theorem dBL_paper_39 : decode mBL_paper.2.1 39 = .ok (.aload_n 0, 1) := by decide +kernel
theorem dBL_paper_40 : decode mBL_paper.2.1 40 = .ok (.getfield 64, 3) := by decide +kernel
theorem dBL_paper_43 : decode mBL_paper.2.1 43 = .ok (.iload_n 2, 1) := by decide +kernel
theorem dBL_paper_44 : decode mBL_paper.2.1 44 = .ok (.i2l, 1) := by decide +kernel
theorem dBL_paper_45 : decode mBL_paper.2.1 45 = .ok (.invokevirtual 233, 3) := by decide +kernel
theorem dBL_paper_48 : decode mBL_paper.2.1 48 = .ok (.aload_n 0, 1) := by decide +kernel
theorem dBL_paper_49 : decode mBL_paper.2.1 49 = .ok (.getfield 64, 3) := by decide +kernel
theorem dBL_paper_52 : decode mBL_paper.2.1 52 = .ok (.bipush 47, 2) := by decide +kernel
theorem dBL_paper_54 : decode mBL_paper.2.1 54 = .ok (.invokevirtual 181, 3) := by decide +kernel
theorem dBL_paper_57 : decode mBL_paper.2.1 57 = .ok (.pop, 1) := by decide +kernel
theorem dBL_paper_58 : decode mBL_paper.2.1 58 = .ok (.aload_n 0, 1) := by decide +kernel
theorem dBL_paper_59 : decode mBL_paper.2.1 59 = .ok (.getfield 64, 3) := by decide +kernel
theorem dBL_paper_62 : decode mBL_paper.2.1 62 = .ok (.iload_n 1, 1) := by decide +kernel
theorem dBL_paper_63 : decode mBL_paper.2.1 63 = .ok (.i2l, 1) := by decide +kernel
theorem dBL_paper_64 : decode mBL_paper.2.1 64 = .ok (.invokevirtual 233, 3) := by decide +kernel
theorem dBL_paper_67 : decode mBL_paper.2.1 67 = .ok (.iconst 0, 1) := by decide +kernel
theorem dBL_paper_68 : decode mBL_paper.2.1 68 = .ok (.istore 5, 2) := by decide +kernel
theorem dBL_paper_70 : decode mBL_paper.2.1 70 = .ok (.iload 5, 2) := by decide +kernel
theorem dBL_paper_72 : decode mBL_paper.2.1 72 = .ok (.aload 4, 2) := by decide +kernel
theorem dBL_paper_74 : decode mBL_paper.2.1 74 = .ok (.getfield 87, 3) := by decide +kernel
theorem dBL_paper_77 : decode mBL_paper.2.1 77 = .ok (.invokevirtual 165, 3) := by decide +kernel
theorem dBL_paper_80 : decode mBL_paper.2.1 80 = .ok (.if_icmp .ge 64, 3) := by decide +kernel
theorem dBL_paper_83 : decode mBL_paper.2.1 83 = .ok (.aload_n 0, 1) := by decide +kernel
theorem dBL_paper_84 : decode mBL_paper.2.1 84 = .ok (.getfield 64, 3) := by decide +kernel
theorem dBL_paper_87 : decode mBL_paper.2.1 87 = .ok (.bipush 32, 2) := by decide +kernel
theorem dBL_paper_89 : decode mBL_paper.2.1 89 = .ok (.invokevirtual 181, 3) := by decide +kernel
theorem dBL_paper_92 : decode mBL_paper.2.1 92 = .ok (.pop, 1) := by decide +kernel
theorem dBL_paper_93 : decode mBL_paper.2.1 93 = .ok (.aload_n 0, 1) := by decide +kernel
theorem dBL_paper_94 : decode mBL_paper.2.1 94 = .ok (.getfield 64, 3) := by decide +kernel
theorem dBL_paper_97 : decode mBL_paper.2.1 97 = .ok (.aload 4, 2) := by decide +kernel
theorem dBL_paper_99 : decode mBL_paper.2.1 99 = .ok (.getfield 87, 3) := by decide +kernel
theorem dBL_paper_102 : decode mBL_paper.2.1 102 = .ok (.iload 5, 2) := by decide +kernel
theorem dBL_paper_104 : decode mBL_paper.2.1 104 = .ok (.invokevirtual 150, 3) := by decide +kernel
theorem dBL_paper_107 : decode mBL_paper.2.1 107 = .ok (.i2l, 1) := by decide +kernel
theorem dBL_paper_108 : decode mBL_paper.2.1 108 = .ok (.invokevirtual 233, 3) := by decide +kernel
theorem dBL_paper_111 : decode mBL_paper.2.1 111 = .ok (.aload_n 0, 1) := by decide +kernel
theorem dBL_paper_112 : decode mBL_paper.2.1 112 = .ok (.getfield 64, 3) := by decide +kernel
theorem dBL_paper_115 : decode mBL_paper.2.1 115 = .ok (.bipush 58, 2) := by decide +kernel
theorem dBL_paper_117 : decode mBL_paper.2.1 117 = .ok (.invokevirtual 181, 3) := by decide +kernel
theorem dBL_paper_120 : decode mBL_paper.2.1 120 = .ok (.pop, 1) := by decide +kernel
theorem dBL_paper_121 : decode mBL_paper.2.1 121 = .ok (.aload_n 0, 1) := by decide +kernel
theorem dBL_paper_122 : decode mBL_paper.2.1 122 = .ok (.getfield 64, 3) := by decide +kernel
theorem dBL_paper_125 : decode mBL_paper.2.1 125 = .ok (.aload 4, 2) := by decide +kernel
theorem dBL_paper_127 : decode mBL_paper.2.1 127 = .ok (.getfield 87, 3) := by decide +kernel
theorem dBL_paper_130 : decode mBL_paper.2.1 130 = .ok (.iload 5, 2) := by decide +kernel
theorem dBL_paper_132 : decode mBL_paper.2.1 132 = .ok (.invokevirtual 154, 3) := by decide +kernel
theorem dBL_paper_135 : decode mBL_paper.2.1 135 = .ok (.invokevirtual 233, 3) := by decide +kernel
theorem dBL_paper_138 : decode mBL_paper.2.1 138 = .ok (.iinc 5 1, 3) := by decide +kernel
theorem dBL_paper_141 : decode mBL_paper.2.1 141 = .ok (.goto (-71), 3) := by decide +kernel
theorem dBL_paper_144 : decode mBL_paper.2.1 144 = .ok (.aload_n 0, 1) := by decide +kernel
theorem dBL_paper_145 : decode mBL_paper.2.1 145 = .ok (.getfield 64, 3) := by decide +kernel
theorem dBL_paper_148 : decode mBL_paper.2.1 148 = .ok (.iload_n 3, 1) := by decide +kernel
theorem dBL_paper_149 : decode mBL_paper.2.1 149 = .ok (.invokevirtual 236, 3) := by decide +kernel
theorem dBL_paper_152 : decode mBL_paper.2.1 152 = .ok (.ireturn, 1) := by decide +kernel
theorem dBL_all_0 : decode mBL_all.2.1 0 = .ok (.iload_n 1, 1) := by decide +kernel
theorem dBL_all_1 : decode mBL_all.2.1 1 = .ok (.tableswitch 102 0 7 #[47, 54, 60, 66, 72, 78, 84, 93], 47) := by decide +kernel
theorem dBL_all_48 : decode mBL_all.2.1 48 = .ok (.aload_n 0, 1) := by decide +kernel
theorem dBL_all_49 : decode mBL_all.2.1 49 = .ok (.bipush 7, 2) := by decide +kernel
theorem dBL_all_51 : decode mBL_all.2.1 51 = .ok (.invokevirtual 239, 3) := by decide +kernel
theorem dBL_all_54 : decode mBL_all.2.1 54 = .ok (.lreturn, 1) := by decide +kernel
theorem dBL_all_55 : decode mBL_all.2.1 55 = .ok (.aload_n 0, 1) := by decide +kernel
theorem dBL_all_56 : decode mBL_all.2.1 56 = .ok (.iconst 1, 1) := by decide +kernel
theorem dBL_all_57 : decode mBL_all.2.1 57 = .ok (.invokevirtual 242, 3) := by decide +kernel
theorem dBL_all_60 : decode mBL_all.2.1 60 = .ok (.lreturn, 1) := by decide +kernel
theorem dBL_all_61 : decode mBL_all.2.1 61 = .ok (.aload_n 0, 1) := by decide +kernel
theorem dBL_all_62 : decode mBL_all.2.1 62 = .ok (.iconst 2, 1) := by decide +kernel
theorem dBL_all_63 : decode mBL_all.2.1 63 = .ok (.invokevirtual 242, 3) := by decide +kernel
theorem dBL_all_66 : decode mBL_all.2.1 66 = .ok (.lreturn, 1) := by decide +kernel
theorem dBL_all_67 : decode mBL_all.2.1 67 = .ok (.aload_n 0, 1) := by decide +kernel
theorem dBL_all_68 : decode mBL_all.2.1 68 = .ok (.iconst 3, 1) := by decide +kernel
theorem dBL_all_69 : decode mBL_all.2.1 69 = .ok (.invokevirtual 242, 3) := by decide +kernel
theorem dBL_all_72 : decode mBL_all.2.1 72 = .ok (.lreturn, 1) := by decide +kernel
theorem dBL_all_73 : decode mBL_all.2.1 73 = .ok (.aload_n 0, 1) := by decide +kernel
theorem dBL_all_74 : decode mBL_all.2.1 74 = .ok (.iconst 3, 1) := by decide +kernel
theorem dBL_all_75 : decode mBL_all.2.1 75 = .ok (.invokevirtual 239, 3) := by decide +kernel
theorem dBL_all_78 : decode mBL_all.2.1 78 = .ok (.lreturn, 1) := by decide +kernel
theorem dBL_all_79 : decode mBL_all.2.1 79 = .ok (.aload_n 0, 1) := by decide +kernel
theorem dBL_all_80 : decode mBL_all.2.1 80 = .ok (.getfield 15, 3) := by decide +kernel
theorem dBL_all_83 : decode mBL_all.2.1 83 = .ok (.i2l, 1) := by decide +kernel
theorem dBL_all_84 : decode mBL_all.2.1 84 = .ok (.lreturn, 1) := by decide +kernel
theorem dBL_all_85 : decode mBL_all.2.1 85 = .ok (.aload_n 0, 1) := by decide +kernel
theorem dBL_all_86 : decode mBL_all.2.1 86 = .ok (.getfield 50, 3) := by decide +kernel
theorem dBL_all_89 : decode mBL_all.2.1 89 = .ok (.invokevirtual 190, 3) := by decide +kernel
theorem dBL_all_92 : decode mBL_all.2.1 92 = .ok (.i2l, 1) := by decide +kernel
theorem dBL_all_93 : decode mBL_all.2.1 93 = .ok (.lreturn, 1) := by decide +kernel
theorem dBL_all_94 : decode mBL_all.2.1 94 = .ok (.aload_n 0, 1) := by decide +kernel
theorem dBL_all_95 : decode mBL_all.2.1 95 = .ok (.getfield 60, 3) := by decide +kernel
theorem dBL_all_98 : decode mBL_all.2.1 98 = .ok (.invokevirtual 245, 3) := by decide +kernel
theorem dBL_all_101 : decode mBL_all.2.1 101 = .ok (.i2l, 1) := by decide +kernel
theorem dBL_all_102 : decode mBL_all.2.1 102 = .ok (.lreturn, 1) := by decide +kernel
theorem dBL_all_103 : decode mBL_all.2.1 103 = .ok (.ldc2_w 127, 3) := by decide +kernel
theorem dBL_all_106 : decode mBL_all.2.1 106 = .ok (.lreturn, 1) := by decide +kernel
theorem dBL_sumOfFact_0 : decode mBL_sumOfFact.2.1 0 = .ok (.lconst 0, 1) := by decide +kernel
theorem dBL_sumOfFact_1 : decode mBL_sumOfFact.2.1 1 = .ok (.lstore_n 2, 1) := by decide +kernel
theorem dBL_sumOfFact_2 : decode mBL_sumOfFact.2.1 2 = .ok (.iconst 0, 1) := by decide +kernel
theorem dBL_sumOfFact_3 : decode mBL_sumOfFact.2.1 3 = .ok (.istore 4, 2) := by decide +kernel
theorem dBL_sumOfFact_5 : decode mBL_sumOfFact.2.1 5 = .ok (.iload 4, 2) := by decide +kernel
theorem dBL_sumOfFact_7 : decode mBL_sumOfFact.2.1 7 = .ok (.aload_n 0, 1) := by decide +kernel
theorem dBL_sumOfFact_8 : decode mBL_sumOfFact.2.1 8 = .ok (.getfield 15, 3) := by decide +kernel
theorem dBL_sumOfFact_11 : decode mBL_sumOfFact.2.1 11 = .ok (.if_icmp .ge 31, 3) := by decide +kernel
theorem dBL_sumOfFact_14 : decode mBL_sumOfFact.2.1 14 = .ok (.aload_n 0, 1) := by decide +kernel
theorem dBL_sumOfFact_15 : decode mBL_sumOfFact.2.1 15 = .ok (.iload 4, 2) := by decide +kernel
theorem dBL_sumOfFact_17 : decode mBL_sumOfFact.2.1 17 = .ok (.invokevirtual 101, 3) := by decide +kernel
theorem dBL_sumOfFact_20 : decode mBL_sumOfFact.2.1 20 = .ok (.astore 5, 2) := by decide +kernel
theorem dBL_sumOfFact_22 : decode mBL_sumOfFact.2.1 22 = .ok (.aload 5, 2) := by decide +kernel
theorem dBL_sumOfFact_24 : decode mBL_sumOfFact.2.1 24 = .ok (.ifnull 12, 3) := by decide +kernel
theorem dBL_sumOfFact_27 : decode mBL_sumOfFact.2.1 27 = .ok (.lload_n 2, 1) := by decide +kernel
theorem dBL_sumOfFact_28 : decode mBL_sumOfFact.2.1 28 = .ok (.aload 5, 2) := by decide +kernel
theorem dBL_sumOfFact_30 : decode mBL_sumOfFact.2.1 30 = .ok (.iload_n 1, 1) := by decide +kernel
theorem dBL_sumOfFact_31 : decode mBL_sumOfFact.2.1 31 = .ok (.invokevirtual 146, 3) := by decide +kernel
theorem dBL_sumOfFact_34 : decode mBL_sumOfFact.2.1 34 = .ok (.ladd, 1) := by decide +kernel
theorem dBL_sumOfFact_35 : decode mBL_sumOfFact.2.1 35 = .ok (.lstore_n 2, 1) := by decide +kernel
theorem dBL_sumOfFact_36 : decode mBL_sumOfFact.2.1 36 = .ok (.iinc 4 1, 3) := by decide +kernel
theorem dBL_sumOfFact_39 : decode mBL_sumOfFact.2.1 39 = .ok (.goto (-34), 3) := by decide +kernel
theorem dBL_sumOfFact_42 : decode mBL_sumOfFact.2.1 42 = .ok (.lload_n 2, 1) := by decide +kernel
theorem dBL_sumOfFact_43 : decode mBL_sumOfFact.2.1 43 = .ok (.lreturn, 1) := by decide +kernel
theorem dBL_sumInside_0 : decode mBL_sumInside.2.1 0 = .ok (.lconst 0, 1) := by decide +kernel
theorem dBL_sumInside_1 : decode mBL_sumInside.2.1 1 = .ok (.lstore_n 2, 1) := by decide +kernel
theorem dBL_sumInside_2 : decode mBL_sumInside.2.1 2 = .ok (.iconst 0, 1) := by decide +kernel
theorem dBL_sumInside_3 : decode mBL_sumInside.2.1 3 = .ok (.istore 4, 2) := by decide +kernel
theorem dBL_sumInside_5 : decode mBL_sumInside.2.1 5 = .ok (.iload 4, 2) := by decide +kernel
theorem dBL_sumInside_7 : decode mBL_sumInside.2.1 7 = .ok (.aload_n 0, 1) := by decide +kernel
theorem dBL_sumInside_8 : decode mBL_sumInside.2.1 8 = .ok (.getfield 15, 3) := by decide +kernel
theorem dBL_sumInside_11 : decode mBL_sumInside.2.1 11 = .ok (.if_icmp .ge 42, 3) := by decide +kernel
theorem dBL_sumInside_14 : decode mBL_sumInside.2.1 14 = .ok (.aload_n 0, 1) := by decide +kernel
theorem dBL_sumInside_15 : decode mBL_sumInside.2.1 15 = .ok (.iload 4, 2) := by decide +kernel
theorem dBL_sumInside_17 : decode mBL_sumInside.2.1 17 = .ok (.invokevirtual 101, 3) := by decide +kernel
theorem dBL_sumInside_20 : decode mBL_sumInside.2.1 20 = .ok (.astore 5, 2) := by decide +kernel
theorem dBL_sumInside_22 : decode mBL_sumInside.2.1 22 = .ok (.aload 5, 2) := by decide +kernel
theorem dBL_sumInside_24 : decode mBL_sumInside.2.1 24 = .ok (.ifnull 23, 3) := by decide +kernel
theorem dBL_sumInside_27 : decode mBL_sumInside.2.1 27 = .ok (.aload 5, 2) := by decide +kernel
theorem dBL_sumInside_29 : decode mBL_sumInside.2.1 29 = .ok (.getfield 105, 3) := by decide +kernel
theorem dBL_sumInside_32 : decode mBL_sumInside.2.1 32 = .ok (.iload_n 1, 1) := by decide +kernel
theorem dBL_sumInside_33 : decode mBL_sumInside.2.1 33 = .ok (.if_icmp .ne 14, 3) := by decide +kernel
theorem dBL_sumInside_36 : decode mBL_sumInside.2.1 36 = .ok (.lload_n 2, 1) := by decide +kernel
theorem dBL_sumInside_37 : decode mBL_sumInside.2.1 37 = .ok (.aload 5, 2) := by decide +kernel
theorem dBL_sumInside_39 : decode mBL_sumInside.2.1 39 = .ok (.getfield 87, 3) := by decide +kernel
theorem dBL_sumInside_42 : decode mBL_sumInside.2.1 42 = .ok (.invokevirtual 139, 3) := by decide +kernel
theorem dBL_sumInside_45 : decode mBL_sumInside.2.1 45 = .ok (.ladd, 1) := by decide +kernel
theorem dBL_sumInside_46 : decode mBL_sumInside.2.1 46 = .ok (.lstore_n 2, 1) := by decide +kernel
theorem dBL_sumInside_47 : decode mBL_sumInside.2.1 47 = .ok (.iinc 4 1, 3) := by decide +kernel
theorem dBL_sumInside_50 : decode mBL_sumInside.2.1 50 = .ok (.goto (-45), 3) := by decide +kernel
theorem dBL_sumInside_53 : decode mBL_sumInside.2.1 53 = .ok (.lload_n 2, 1) := by decide +kernel
theorem dBL_sumInside_54 : decode mBL_sumInside.2.1 54 = .ok (.lreturn, 1) := by decide +kernel
end
section
theorem dMo_init_0 : decode mMo_init.2.1 0 = .ok (.aload_n 0, 1) := by decide +kernel
theorem dMo_init_1 : decode mMo_init.2.1 1 = .ok (.invokespecial 1, 3) := by decide +kernel
theorem dMo_init_4 : decode mMo_init.2.1 4 = .ok (.aload_n 0, 1) := by decide +kernel
theorem dMo_init_5 : decode mMo_init.2.1 5 = .ok (.bipush 70, 2) := by decide +kernel
theorem dMo_init_7 : decode mMo_init.2.1 7 = .ok (.newarray .int, 2) := by decide +kernel
theorem dMo_init_9 : decode mMo_init.2.1 9 = .ok (.putfield 7, 3) := by decide +kernel
theorem dMo_init_12 : decode mMo_init.2.1 12 = .ok (.aload_n 0, 1) := by decide +kernel
theorem dMo_init_13 : decode mMo_init.2.1 13 = .ok (.bipush 70, 2) := by decide +kernel
theorem dMo_init_15 : decode mMo_init.2.1 15 = .ok (.newarray .int, 2) := by decide +kernel
theorem dMo_init_17 : decode mMo_init.2.1 17 = .ok (.putfield 13, 3) := by decide +kernel
theorem dMo_init_20 : decode mMo_init.2.1 20 = .ok (.aload_n 0, 1) := by decide +kernel
theorem dMo_init_21 : decode mMo_init.2.1 21 = .ok (.sipush 5670, 3) := by decide +kernel
theorem dMo_init_24 : decode mMo_init.2.1 24 = .ok (.newarray .int, 2) := by decide +kernel
theorem dMo_init_26 : decode mMo_init.2.1 26 = .ok (.putfield 16, 3) := by decide +kernel
theorem dMo_init_29 : decode mMo_init.2.1 29 = .ok (.aload_n 0, 1) := by decide +kernel
theorem dMo_init_30 : decode mMo_init.2.1 30 = .ok (.sipush 5670, 3) := by decide +kernel
theorem dMo_init_33 : decode mMo_init.2.1 33 = .ok (.newarray .long, 2) := by decide +kernel
theorem dMo_init_35 : decode mMo_init.2.1 35 = .ok (.putfield 19, 3) := by decide +kernel
theorem dMo_init_38 : decode mMo_init.2.1 38 = .ok (.aload_n 0, 1) := by decide +kernel
theorem dMo_init_39 : decode mMo_init.2.1 39 = .ok (.bipush 70, 2) := by decide +kernel
theorem dMo_init_41 : decode mMo_init.2.1 41 = .ok (.newarray .long, 2) := by decide +kernel
theorem dMo_init_43 : decode mMo_init.2.1 43 = .ok (.putfield 23, 3) := by decide +kernel
theorem dMo_init_46 : decode mMo_init.2.1 46 = .ok (.aload_n 0, 1) := by decide +kernel
theorem dMo_init_47 : decode mMo_init.2.1 47 = .ok (.bipush 70, 2) := by decide +kernel
theorem dMo_init_49 : decode mMo_init.2.1 49 = .ok (.newarray .boolean, 2) := by decide +kernel
theorem dMo_init_51 : decode mMo_init.2.1 51 = .ok (.putfield 26, 3) := by decide +kernel
theorem dMo_init_54 : decode mMo_init.2.1 54 = .ok (.aload_n 0, 1) := by decide +kernel
theorem dMo_init_55 : decode mMo_init.2.1 55 = .ok (.bipush 70, 2) := by decide +kernel
theorem dMo_init_57 : decode mMo_init.2.1 57 = .ok (.newarray .int, 2) := by decide +kernel
theorem dMo_init_59 : decode mMo_init.2.1 59 = .ok (.putfield 30, 3) := by decide +kernel
theorem dMo_init_62 : decode mMo_init.2.1 62 = .ok (.aload_n 0, 1) := by decide +kernel
theorem dMo_init_63 : decode mMo_init.2.1 63 = .ok (.bipush 70, 2) := by decide +kernel
theorem dMo_init_65 : decode mMo_init.2.1 65 = .ok (.newarray .int, 2) := by decide +kernel
theorem dMo_init_67 : decode mMo_init.2.1 67 = .ok (.putfield 33, 3) := by decide +kernel
theorem dMo_init_70 : decode mMo_init.2.1 70 = .ok (.aload_n 0, 1) := by decide +kernel
theorem dMo_init_71 : decode mMo_init.2.1 71 = .ok (.bipush 70, 2) := by decide +kernel
theorem dMo_init_73 : decode mMo_init.2.1 73 = .ok (.newarray .int, 2) := by decide +kernel
theorem dMo_init_75 : decode mMo_init.2.1 75 = .ok (.putfield 36, 3) := by decide +kernel
theorem dMo_init_78 : decode mMo_init.2.1 78 = .ok (.aload_n 0, 1) := by decide +kernel
theorem dMo_init_79 : decode mMo_init.2.1 79 = .ok (.bipush 70, 2) := by decide +kernel
theorem dMo_init_81 : decode mMo_init.2.1 81 = .ok (.newarray .long, 2) := by decide +kernel
theorem dMo_init_83 : decode mMo_init.2.1 83 = .ok (.putfield 39, 3) := by decide +kernel
theorem dMo_init_86 : decode mMo_init.2.1 86 = .ok (.aload_n 0, 1) := by decide +kernel
theorem dMo_init_87 : decode mMo_init.2.1 87 = .ok (.sipush 170, 3) := by decide +kernel
theorem dMo_init_90 : decode mMo_init.2.1 90 = .ok (.newarray .int, 2) := by decide +kernel
theorem dMo_init_92 : decode mMo_init.2.1 92 = .ok (.putfield 42, 3) := by decide +kernel
theorem dMo_init_95 : decode mMo_init.2.1 95 = .ok (.aload_n 0, 1) := by decide +kernel
theorem dMo_init_96 : decode mMo_init.2.1 96 = .ok (.sipush 170, 3) := by decide +kernel
theorem dMo_init_99 : decode mMo_init.2.1 99 = .ok (.newarray .long, 2) := by decide +kernel
theorem dMo_init_101 : decode mMo_init.2.1 101 = .ok (.putfield 45, 3) := by decide +kernel
theorem dMo_init_104 : decode mMo_init.2.1 104 = .ok (.aload_n 0, 1) := by decide +kernel
theorem dMo_init_105 : decode mMo_init.2.1 105 = .ok (.sipush 400, 3) := by decide +kernel
theorem dMo_init_108 : decode mMo_init.2.1 108 = .ok (.newarray .int, 2) := by decide +kernel
theorem dMo_init_110 : decode mMo_init.2.1 110 = .ok (.putfield 48, 3) := by decide +kernel
theorem dMo_init_113 : decode mMo_init.2.1 113 = .ok (.aload_n 0, 1) := by decide +kernel
theorem dMo_init_114 : decode mMo_init.2.1 114 = .ok (.bipush 40, 2) := by decide +kernel
theorem dMo_init_116 : decode mMo_init.2.1 116 = .ok (.newarray .int, 2) := by decide +kernel
theorem dMo_init_118 : decode mMo_init.2.1 118 = .ok (.putfield 51, 3) := by decide +kernel
theorem dMo_init_121 : decode mMo_init.2.1 121 = .ok (.aload_n 0, 1) := by decide +kernel
theorem dMo_init_122 : decode mMo_init.2.1 122 = .ok (.bipush 40, 2) := by decide +kernel
theorem dMo_init_124 : decode mMo_init.2.1 124 = .ok (.newarray .int, 2) := by decide +kernel
theorem dMo_init_126 : decode mMo_init.2.1 126 = .ok (.putfield 54, 3) := by decide +kernel
theorem dMo_init_129 : decode mMo_init.2.1 129 = .ok (.aload_n 0, 1) := by decide +kernel
theorem dMo_init_130 : decode mMo_init.2.1 130 = .ok (.bipush 40, 2) := by decide +kernel
theorem dMo_init_132 : decode mMo_init.2.1 132 = .ok (.newarray .int, 2) := by decide +kernel
theorem dMo_init_134 : decode mMo_init.2.1 134 = .ok (.putfield 57, 3) := by decide +kernel
theorem dMo_init_137 : decode mMo_init.2.1 137 = .ok (.aload_n 0, 1) := by decide +kernel
theorem dMo_init_138 : decode mMo_init.2.1 138 = .ok (.bipush 40, 2) := by decide +kernel
theorem dMo_init_140 : decode mMo_init.2.1 140 = .ok (.newarray .int, 2) := by decide +kernel
theorem dMo_init_142 : decode mMo_init.2.1 142 = .ok (.putfield 60, 3) := by decide +kernel
theorem dMo_init_145 : decode mMo_init.2.1 145 = .ok (.aload_n 0, 1) := by decide +kernel
theorem dMo_init_146 : decode mMo_init.2.1 146 = .ok (.bipush 40, 2) := by decide +kernel
theorem dMo_init_148 : decode mMo_init.2.1 148 = .ok (.newarray .int, 2) := by decide +kernel
theorem dMo_init_150 : decode mMo_init.2.1 150 = .ok (.putfield 63, 3) := by decide +kernel
theorem dMo_init_153 : decode mMo_init.2.1 153 = .ok (.aload_n 0, 1) := by decide +kernel
theorem dMo_init_154 : decode mMo_init.2.1 154 = .ok (.bipush 40, 2) := by decide +kernel
theorem dMo_init_156 : decode mMo_init.2.1 156 = .ok (.newarray .int, 2) := by decide +kernel
theorem dMo_init_158 : decode mMo_init.2.1 158 = .ok (.putfield 66, 3) := by decide +kernel
theorem dMo_init_161 : decode mMo_init.2.1 161 = .ok (.aload_n 0, 1) := by decide +kernel
theorem dMo_init_162 : decode mMo_init.2.1 162 = .ok (.bipush 40, 2) := by decide +kernel
theorem dMo_init_164 : decode mMo_init.2.1 164 = .ok (.newarray .int, 2) := by decide +kernel
theorem dMo_init_166 : decode mMo_init.2.1 166 = .ok (.putfield 69, 3) := by decide +kernel
theorem dMo_init_169 : decode mMo_init.2.1 169 = .ok (.aload_n 0, 1) := by decide +kernel
theorem dMo_init_170 : decode mMo_init.2.1 170 = .ok (.bipush 40, 2) := by decide +kernel
theorem dMo_init_172 : decode mMo_init.2.1 172 = .ok (.newarray .int, 2) := by decide +kernel
theorem dMo_init_174 : decode mMo_init.2.1 174 = .ok (.putfield 72, 3) := by decide +kernel
theorem dMo_init_177 : decode mMo_init.2.1 177 = .ok (.aload_n 0, 1) := by decide +kernel
theorem dMo_init_178 : decode mMo_init.2.1 178 = .ok (.bipush 10, 2) := by decide +kernel
theorem dMo_init_180 : decode mMo_init.2.1 180 = .ok (.newarray .int, 2) := by decide +kernel
theorem dMo_init_182 : decode mMo_init.2.1 182 = .ok (.putfield 75, 3) := by decide +kernel
theorem dMo_init_185 : decode mMo_init.2.1 185 = .ok (.aload_n 0, 1) := by decide +kernel
theorem dMo_init_186 : decode mMo_init.2.1 186 = .ok (.bipush 100, 2) := by decide +kernel
theorem dMo_init_188 : decode mMo_init.2.1 188 = .ok (.newarray .int, 2) := by decide +kernel
theorem dMo_init_190 : decode mMo_init.2.1 190 = .ok (.putfield 78, 3) := by decide +kernel
theorem dMo_init_193 : decode mMo_init.2.1 193 = .ok (.aload_n 0, 1) := by decide +kernel
theorem dMo_init_194 : decode mMo_init.2.1 194 = .ok (.bipush 100, 2) := by decide +kernel
theorem dMo_init_196 : decode mMo_init.2.1 196 = .ok (.newarray .int, 2) := by decide +kernel
theorem dMo_init_198 : decode mMo_init.2.1 198 = .ok (.putfield 81, 3) := by decide +kernel
theorem dMo_init_201 : decode mMo_init.2.1 201 = .ok (.aload_n 0, 1) := by decide +kernel
theorem dMo_init_202 : decode mMo_init.2.1 202 = .ok (.bipush 100, 2) := by decide +kernel
theorem dMo_init_204 : decode mMo_init.2.1 204 = .ok (.newarray .long, 2) := by decide +kernel
theorem dMo_init_206 : decode mMo_init.2.1 206 = .ok (.putfield 84, 3) := by decide +kernel
theorem dMo_init_209 : decode mMo_init.2.1 209 = .ok (.aload_n 0, 1) := by decide +kernel
theorem dMo_init_210 : decode mMo_init.2.1 210 = .ok (.sipush 1300, 3) := by decide +kernel
theorem dMo_init_213 : decode mMo_init.2.1 213 = .ok (.newarray .int, 2) := by decide +kernel
theorem dMo_init_215 : decode mMo_init.2.1 215 = .ok (.putfield 87, 3) := by decide +kernel
theorem dMo_init_218 : decode mMo_init.2.1 218 = .ok (.return_, 1) := by decide +kernel
theorem dMo_haul_0 : decode mMo_haul.2.1 0 = .ok (.lload_n 1, 1) := by decide +kernel
theorem dMo_haul_1 : decode mMo_haul.2.1 1 = .ok (.lconst 1, 1) := by decide +kernel
theorem dMo_haul_2 : decode mMo_haul.2.1 2 = .ok (.lcmp, 1) := by decide +kernel
theorem dMo_haul_3 : decode mMo_haul.2.1 3 = .ok (.ifCond .lt 43, 3) := by decide +kernel
theorem dMo_haul_6 : decode mMo_haul.2.1 6 = .ok (.lload_n 1, 1) := by decide +kernel
theorem dMo_haul_7 : decode mMo_haul.2.1 7 = .ok (.ldc2_w 98, 3) := by decide +kernel
theorem dMo_haul_10 : decode mMo_haul.2.1 10 = .ok (.lcmp, 1) := by decide +kernel
theorem dMo_haul_11 : decode mMo_haul.2.1 11 = .ok (.ifCond .gt 35, 3) := by decide +kernel
theorem dMo_haul_14 : decode mMo_haul.2.1 14 = .ok (.iload_n 3, 1) := by decide +kernel
theorem dMo_haul_15 : decode mMo_haul.2.1 15 = .ok (.ifCond .lt 31, 3) := by decide +kernel
theorem dMo_haul_18 : decode mMo_haul.2.1 18 = .ok (.iload_n 3, 1) := by decide +kernel
theorem dMo_haul_19 : decode mMo_haul.2.1 19 = .ok (.sipush 999, 3) := by decide +kernel
theorem dMo_haul_22 : decode mMo_haul.2.1 22 = .ok (.if_icmp .gt 24, 3) := by decide +kernel
theorem dMo_haul_25 : decode mMo_haul.2.1 25 = .ok (.iload 4, 2) := by decide +kernel
theorem dMo_haul_27 : decode mMo_haul.2.1 27 = .ok (.ifCond .lt 19, 3) := by decide +kernel
theorem dMo_haul_30 : decode mMo_haul.2.1 30 = .ok (.iload 4, 2) := by decide +kernel
theorem dMo_haul_32 : decode mMo_haul.2.1 32 = .ok (.ldc 100, 2) := by decide +kernel
theorem dMo_haul_34 : decode mMo_haul.2.1 34 = .ok (.if_icmp .gt 12, 3) := by decide +kernel
theorem dMo_haul_37 : decode mMo_haul.2.1 37 = .ok (.aload_n 0, 1) := by decide +kernel
theorem dMo_haul_38 : decode mMo_haul.2.1 38 = .ok (.getfield 90, 3) := by decide +kernel
theorem dMo_haul_41 : decode mMo_haul.2.1 41 = .ok (.bipush 70, 2) := by decide +kernel
theorem dMo_haul_43 : decode mMo_haul.2.1 43 = .ok (.if_icmp .ne 5, 3) := by decide +kernel
theorem dMo_haul_46 : decode mMo_haul.2.1 46 = .ok (.iconst (-1), 1) := by decide +kernel
theorem dMo_haul_47 : decode mMo_haul.2.1 47 = .ok (.ireturn, 1) := by decide +kernel
theorem dMo_haul_48 : decode mMo_haul.2.1 48 = .ok (.aload_n 0, 1) := by decide +kernel
theorem dMo_haul_49 : decode mMo_haul.2.1 49 = .ok (.iconst 1, 1) := by decide +kernel
theorem dMo_haul_50 : decode mMo_haul.2.1 50 = .ok (.iload_n 3, 1) := by decide +kernel
theorem dMo_haul_51 : decode mMo_haul.2.1 51 = .ok (.iload 4, 2) := by decide +kernel
theorem dMo_haul_53 : decode mMo_haul.2.1 53 = .ok (.lload_n 1, 1) := by decide +kernel
theorem dMo_haul_54 : decode mMo_haul.2.1 54 = .ok (.invokevirtual 101, 3) := by decide +kernel
theorem dMo_haul_57 : decode mMo_haul.2.1 57 = .ok (.istore 5, 2) := by decide +kernel
theorem dMo_haul_59 : decode mMo_haul.2.1 59 = .ok (.aload_n 0, 1) := by decide +kernel
theorem dMo_haul_60 : decode mMo_haul.2.1 60 = .ok (.getfield 13, 3) := by decide +kernel
theorem dMo_haul_63 : decode mMo_haul.2.1 63 = .ok (.iload 5, 2) := by decide +kernel
theorem dMo_haul_65 : decode mMo_haul.2.1 65 = .ok (.iconst 1, 1) := by decide +kernel
theorem dMo_haul_66 : decode mMo_haul.2.1 66 = .ok (.iastore, 1) := by decide +kernel
theorem dMo_haul_67 : decode mMo_haul.2.1 67 = .ok (.aload_n 0, 1) := by decide +kernel
theorem dMo_haul_68 : decode mMo_haul.2.1 68 = .ok (.getfield 16, 3) := by decide +kernel
theorem dMo_haul_71 : decode mMo_haul.2.1 71 = .ok (.bipush 81, 2) := by decide +kernel
theorem dMo_haul_73 : decode mMo_haul.2.1 73 = .ok (.iload 5, 2) := by decide +kernel
theorem dMo_haul_75 : decode mMo_haul.2.1 75 = .ok (.imul, 1) := by decide +kernel
theorem dMo_haul_76 : decode mMo_haul.2.1 76 = .ok (.iload 5, 2) := by decide +kernel
theorem dMo_haul_78 : decode mMo_haul.2.1 78 = .ok (.iastore, 1) := by decide +kernel
theorem dMo_haul_79 : decode mMo_haul.2.1 79 = .ok (.aload_n 0, 1) := by decide +kernel
theorem dMo_haul_80 : decode mMo_haul.2.1 80 = .ok (.getfield 19, 3) := by decide +kernel
theorem dMo_haul_83 : decode mMo_haul.2.1 83 = .ok (.bipush 81, 2) := by decide +kernel
theorem dMo_haul_85 : decode mMo_haul.2.1 85 = .ok (.iload 5, 2) := by decide +kernel
theorem dMo_haul_87 : decode mMo_haul.2.1 87 = .ok (.imul, 1) := by decide +kernel
theorem dMo_haul_88 : decode mMo_haul.2.1 88 = .ok (.lload_n 1, 1) := by decide +kernel
theorem dMo_haul_89 : decode mMo_haul.2.1 89 = .ok (.lastore, 1) := by decide +kernel
theorem dMo_haul_90 : decode mMo_haul.2.1 90 = .ok (.iload 5, 2) := by decide +kernel
theorem dMo_haul_92 : decode mMo_haul.2.1 92 = .ok (.ireturn, 1) := by decide +kernel
theorem dMo_make_0 : decode mMo_make.2.1 0 = .ok (.aload_n 0, 1) := by decide +kernel
theorem dMo_make_1 : decode mMo_make.2.1 1 = .ok (.getfield 90, 3) := by decide +kernel
theorem dMo_make_4 : decode mMo_make.2.1 4 = .ok (.istore 6, 2) := by decide +kernel
theorem dMo_make_6 : decode mMo_make.2.1 6 = .ok (.aload_n 0, 1) := by decide +kernel
theorem dMo_make_7 : decode mMo_make.2.1 7 = .ok (.dup, 1) := by decide +kernel
theorem dMo_make_8 : decode mMo_make.2.1 8 = .ok (.getfield 90, 3) := by decide +kernel
theorem dMo_make_11 : decode mMo_make.2.1 11 = .ok (.iconst 1, 1) := by decide +kernel
theorem dMo_make_12 : decode mMo_make.2.1 12 = .ok (.iadd, 1) := by decide +kernel
theorem dMo_make_13 : decode mMo_make.2.1 13 = .ok (.putfield 90, 3) := by decide +kernel
theorem dMo_make_16 : decode mMo_make.2.1 16 = .ok (.aload_n 0, 1) := by decide +kernel
theorem dMo_make_17 : decode mMo_make.2.1 17 = .ok (.getfield 7, 3) := by decide +kernel
theorem dMo_make_20 : decode mMo_make.2.1 20 = .ok (.iload 6, 2) := by decide +kernel
theorem dMo_make_22 : decode mMo_make.2.1 22 = .ok (.iload_n 1, 1) := by decide +kernel
theorem dMo_make_23 : decode mMo_make.2.1 23 = .ok (.iastore, 1) := by decide +kernel
theorem dMo_make_24 : decode mMo_make.2.1 24 = .ok (.aload_n 0, 1) := by decide +kernel
theorem dMo_make_25 : decode mMo_make.2.1 25 = .ok (.getfield 33, 3) := by decide +kernel
theorem dMo_make_28 : decode mMo_make.2.1 28 = .ok (.iload 6, 2) := by decide +kernel
theorem dMo_make_30 : decode mMo_make.2.1 30 = .ok (.iload_n 2, 1) := by decide +kernel
theorem dMo_make_31 : decode mMo_make.2.1 31 = .ok (.iastore, 1) := by decide +kernel
theorem dMo_make_32 : decode mMo_make.2.1 32 = .ok (.aload_n 0, 1) := by decide +kernel
theorem dMo_make_33 : decode mMo_make.2.1 33 = .ok (.getfield 36, 3) := by decide +kernel
theorem dMo_make_36 : decode mMo_make.2.1 36 = .ok (.iload 6, 2) := by decide +kernel
theorem dMo_make_38 : decode mMo_make.2.1 38 = .ok (.iload_n 3, 1) := by decide +kernel
theorem dMo_make_39 : decode mMo_make.2.1 39 = .ok (.iastore, 1) := by decide +kernel
theorem dMo_make_40 : decode mMo_make.2.1 40 = .ok (.aload_n 0, 1) := by decide +kernel
theorem dMo_make_41 : decode mMo_make.2.1 41 = .ok (.getfield 39, 3) := by decide +kernel
theorem dMo_make_44 : decode mMo_make.2.1 44 = .ok (.iload 6, 2) := by decide +kernel
theorem dMo_make_46 : decode mMo_make.2.1 46 = .ok (.lload 4, 2) := by decide +kernel
theorem dMo_make_48 : decode mMo_make.2.1 48 = .ok (.lastore, 1) := by decide +kernel
theorem dMo_make_49 : decode mMo_make.2.1 49 = .ok (.iload 6, 2) := by decide +kernel
theorem dMo_make_51 : decode mMo_make.2.1 51 = .ok (.ireturn, 1) := by decide +kernel
theorem dMo_batch_0 : decode mMo_batch.2.1 0 = .ok (.aload_n 0, 1) := by decide +kernel
theorem dMo_batch_1 : decode mMo_batch.2.1 1 = .ok (.getfield 90, 3) := by decide +kernel
theorem dMo_batch_4 : decode mMo_batch.2.1 4 = .ok (.bipush 70, 2) := by decide +kernel
theorem dMo_batch_6 : decode mMo_batch.2.1 6 = .ok (.if_icmp .ne 7, 3) := by decide +kernel
theorem dMo_batch_9 : decode mMo_batch.2.1 9 = .ok (.iconst (-1), 1) := by decide +kernel
theorem dMo_batch_10 : decode mMo_batch.2.1 10 = .ok (.goto 11, 3) := by decide +kernel
theorem dMo_batch_13 : decode mMo_batch.2.1 13 = .ok (.aload_n 0, 1) := by decide +kernel
theorem dMo_batch_14 : decode mMo_batch.2.1 14 = .ok (.iconst 2, 1) := by decide +kernel
theorem dMo_batch_15 : decode mMo_batch.2.1 15 = .ok (.iconst 0, 1) := by decide +kernel
theorem dMo_batch_16 : decode mMo_batch.2.1 16 = .ok (.iconst 0, 1) := by decide +kernel
theorem dMo_batch_17 : decode mMo_batch.2.1 17 = .ok (.lconst 0, 1) := by decide +kernel
theorem dMo_batch_18 : decode mMo_batch.2.1 18 = .ok (.invokevirtual 101, 3) := by decide +kernel
theorem dMo_batch_21 : decode mMo_batch.2.1 21 = .ok (.ireturn, 1) := by decide +kernel
theorem dMo_into_0 : decode mMo_into.2.1 0 = .ok (.aload_n 0, 1) := by decide +kernel
theorem dMo_into_1 : decode mMo_into.2.1 1 = .ok (.iload_n 1, 1) := by decide +kernel
theorem dMo_into_2 : decode mMo_into.2.1 2 = .ok (.iconst 2, 1) := by decide +kernel
theorem dMo_into_3 : decode mMo_into.2.1 3 = .ok (.invokevirtual 116, 3) := by decide +kernel
theorem dMo_into_6 : decode mMo_into.2.1 6 = .ok (.ifCond .eq 43, 3) := by decide +kernel
theorem dMo_into_9 : decode mMo_into.2.1 9 = .ok (.aload_n 0, 1) := by decide +kernel
theorem dMo_into_10 : decode mMo_into.2.1 10 = .ok (.iload_n 2, 1) := by decide +kernel
theorem dMo_into_11 : decode mMo_into.2.1 11 = .ok (.invokevirtual 120, 3) := by decide +kernel
theorem dMo_into_14 : decode mMo_into.2.1 14 = .ok (.ifCond .eq 35, 3) := by decide +kernel
theorem dMo_into_17 : decode mMo_into.2.1 17 = .ok (.iload_n 1, 1) := by decide +kernel
theorem dMo_into_18 : decode mMo_into.2.1 18 = .ok (.iload_n 2, 1) := by decide +kernel
theorem dMo_into_19 : decode mMo_into.2.1 19 = .ok (.if_icmp .eq 30, 3) := by decide +kernel
theorem dMo_into_22 : decode mMo_into.2.1 22 = .ok (.aload_n 0, 1) := by decide +kernel
theorem dMo_into_23 : decode mMo_into.2.1 23 = .ok (.getfield 26, 3) := by decide +kernel
theorem dMo_into_26 : decode mMo_into.2.1 26 = .ok (.iload_n 1, 1) := by decide +kernel
theorem dMo_into_27 : decode mMo_into.2.1 27 = .ok (.baload, 1) := by decide +kernel
theorem dMo_into_28 : decode mMo_into.2.1 28 = .ok (.ifCond .ne 21, 3) := by decide +kernel
theorem dMo_into_31 : decode mMo_into.2.1 31 = .ok (.aload_n 0, 1) := by decide +kernel
theorem dMo_into_32 : decode mMo_into.2.1 32 = .ok (.getfield 26, 3) := by decide +kernel
theorem dMo_into_35 : decode mMo_into.2.1 35 = .ok (.iload_n 2, 1) := by decide +kernel
theorem dMo_into_36 : decode mMo_into.2.1 36 = .ok (.baload, 1) := by decide +kernel
theorem dMo_into_37 : decode mMo_into.2.1 37 = .ok (.ifCond .ne 12, 3) := by decide +kernel
theorem dMo_into_40 : decode mMo_into.2.1 40 = .ok (.aload_n 0, 1) := by decide +kernel
theorem dMo_into_41 : decode mMo_into.2.1 41 = .ok (.iload_n 2, 1) := by decide +kernel
theorem dMo_into_42 : decode mMo_into.2.1 42 = .ok (.lload_n 3, 1) := by decide +kernel
theorem dMo_into_43 : decode mMo_into.2.1 43 = .ok (.invokevirtual 123, 3) := by decide +kernel
theorem dMo_into_46 : decode mMo_into.2.1 46 = .ok (.ifCond .ne 5, 3) := by decide +kernel
theorem dMo_into_49 : decode mMo_into.2.1 49 = .ok (.iconst 0, 1) := by decide +kernel
theorem dMo_into_50 : decode mMo_into.2.1 50 = .ok (.ireturn, 1) := by decide +kernel
theorem dMo_into_51 : decode mMo_into.2.1 51 = .ok (.aload_n 0, 1) := by decide +kernel
theorem dMo_into_52 : decode mMo_into.2.1 52 = .ok (.iload_n 1, 1) := by decide +kernel
theorem dMo_into_53 : decode mMo_into.2.1 53 = .ok (.iload_n 2, 1) := by decide +kernel
theorem dMo_into_54 : decode mMo_into.2.1 54 = .ok (.lload_n 3, 1) := by decide +kernel
theorem dMo_into_55 : decode mMo_into.2.1 55 = .ok (.invokevirtual 127, 3) := by decide +kernel
theorem dMo_into_58 : decode mMo_into.2.1 58 = .ok (.aload_n 0, 1) := by decide +kernel
theorem dMo_into_59 : decode mMo_into.2.1 59 = .ok (.getfield 105, 3) := by decide +kernel
theorem dMo_into_62 : decode mMo_into.2.1 62 = .ok (.bipush 80, 2) := by decide +kernel
theorem dMo_into_64 : decode mMo_into.2.1 64 = .ok (.if_icmp .le 5, 3) := by decide +kernel
theorem dMo_into_67 : decode mMo_into.2.1 67 = .ok (.iconst 0, 1) := by decide +kernel
theorem dMo_into_68 : decode mMo_into.2.1 68 = .ok (.ireturn, 1) := by decide +kernel
theorem dMo_into_69 : decode mMo_into.2.1 69 = .ok (.aload_n 0, 1) := by decide +kernel
theorem dMo_into_70 : decode mMo_into.2.1 70 = .ok (.iload_n 1, 1) := by decide +kernel
theorem dMo_into_71 : decode mMo_into.2.1 71 = .ok (.invokevirtual 131, 3) := by decide +kernel
theorem dMo_into_74 : decode mMo_into.2.1 74 = .ok (.aload_n 0, 1) := by decide +kernel
theorem dMo_into_75 : decode mMo_into.2.1 75 = .ok (.iload_n 2, 1) := by decide +kernel
theorem dMo_into_76 : decode mMo_into.2.1 76 = .ok (.lload_n 3, 1) := by decide +kernel
theorem dMo_into_77 : decode mMo_into.2.1 77 = .ok (.invokevirtual 135, 3) := by decide +kernel
theorem dMo_into_80 : decode mMo_into.2.1 80 = .ok (.aload_n 0, 1) := by decide +kernel
theorem dMo_into_81 : decode mMo_into.2.1 81 = .ok (.getfield 30, 3) := by decide +kernel
theorem dMo_into_84 : decode mMo_into.2.1 84 = .ok (.iload_n 1, 1) := by decide +kernel
theorem dMo_into_85 : decode mMo_into.2.1 85 = .ok (.aload_n 0, 1) := by decide +kernel
theorem dMo_into_86 : decode mMo_into.2.1 86 = .ok (.getfield 30, 3) := by decide +kernel
theorem dMo_into_89 : decode mMo_into.2.1 89 = .ok (.iload_n 2, 1) := by decide +kernel
theorem dMo_into_90 : decode mMo_into.2.1 90 = .ok (.iaload, 1) := by decide +kernel
theorem dMo_into_91 : decode mMo_into.2.1 91 = .ok (.aload_n 0, 1) := by decide +kernel
theorem dMo_into_92 : decode mMo_into.2.1 92 = .ok (.getfield 30, 3) := by decide +kernel
theorem dMo_into_95 : decode mMo_into.2.1 95 = .ok (.iload_n 1, 1) := by decide +kernel
theorem dMo_into_96 : decode mMo_into.2.1 96 = .ok (.iaload, 1) := by decide +kernel
theorem dMo_into_97 : decode mMo_into.2.1 97 = .ok (.if_icmp .le 12, 3) := by decide +kernel
theorem dMo_into_100 : decode mMo_into.2.1 100 = .ok (.aload_n 0, 1) := by decide +kernel
theorem dMo_into_101 : decode mMo_into.2.1 101 = .ok (.getfield 30, 3) := by decide +kernel
theorem dMo_into_104 : decode mMo_into.2.1 104 = .ok (.iload_n 2, 1) := by decide +kernel
theorem dMo_into_105 : decode mMo_into.2.1 105 = .ok (.iaload, 1) := by decide +kernel
theorem dMo_into_106 : decode mMo_into.2.1 106 = .ok (.goto 9, 3) := by decide +kernel
theorem dMo_into_109 : decode mMo_into.2.1 109 = .ok (.aload_n 0, 1) := by decide +kernel
theorem dMo_into_110 : decode mMo_into.2.1 110 = .ok (.getfield 30, 3) := by decide +kernel
theorem dMo_into_113 : decode mMo_into.2.1 113 = .ok (.iload_n 1, 1) := by decide +kernel
theorem dMo_into_114 : decode mMo_into.2.1 114 = .ok (.iaload, 1) := by decide +kernel
theorem dMo_into_115 : decode mMo_into.2.1 115 = .ok (.iastore, 1) := by decide +kernel
theorem dMo_into_116 : decode mMo_into.2.1 116 = .ok (.iconst 1, 1) := by decide +kernel
theorem dMo_into_117 : decode mMo_into.2.1 117 = .ok (.ireturn, 1) := by decide +kernel
theorem dMo_isOf_0 : decode mMo_isOf.2.1 0 = .ok (.aload_n 0, 1) := by decide +kernel
theorem dMo_isOf_1 : decode mMo_isOf.2.1 1 = .ok (.iload_n 1, 1) := by decide +kernel
theorem dMo_isOf_2 : decode mMo_isOf.2.1 2 = .ok (.invokevirtual 94, 3) := by decide +kernel
theorem dMo_isOf_5 : decode mMo_isOf.2.1 5 = .ok (.ifCond .eq 17, 3) := by decide +kernel
theorem dMo_isOf_8 : decode mMo_isOf.2.1 8 = .ok (.aload_n 0, 1) := by decide +kernel
theorem dMo_isOf_9 : decode mMo_isOf.2.1 9 = .ok (.getfield 7, 3) := by decide +kernel
theorem dMo_isOf_12 : decode mMo_isOf.2.1 12 = .ok (.iload_n 1, 1) := by decide +kernel
theorem dMo_isOf_13 : decode mMo_isOf.2.1 13 = .ok (.iaload, 1) := by decide +kernel
theorem dMo_isOf_14 : decode mMo_isOf.2.1 14 = .ok (.iload_n 2, 1) := by decide +kernel
theorem dMo_isOf_15 : decode mMo_isOf.2.1 15 = .ok (.if_icmp .ne 7, 3) := by decide +kernel
theorem dMo_isOf_18 : decode mMo_isOf.2.1 18 = .ok (.iconst 1, 1) := by decide +kernel
theorem dMo_isOf_19 : decode mMo_isOf.2.1 19 = .ok (.goto 4, 3) := by decide +kernel
theorem dMo_isOf_22 : decode mMo_isOf.2.1 22 = .ok (.iconst 0, 1) := by decide +kernel
theorem dMo_isOf_23 : decode mMo_isOf.2.1 23 = .ok (.ireturn, 1) := by decide +kernel
theorem dMo_isThing_0 : decode mMo_isThing.2.1 0 = .ok (.iload_n 1, 1) := by decide +kernel
theorem dMo_isThing_1 : decode mMo_isThing.2.1 1 = .ok (.ifCond .lt 15, 3) := by decide +kernel
theorem dMo_isThing_4 : decode mMo_isThing.2.1 4 = .ok (.iload_n 1, 1) := by decide +kernel
theorem dMo_isThing_5 : decode mMo_isThing.2.1 5 = .ok (.aload_n 0, 1) := by decide +kernel
theorem dMo_isThing_6 : decode mMo_isThing.2.1 6 = .ok (.getfield 90, 3) := by decide +kernel
theorem dMo_isThing_9 : decode mMo_isThing.2.1 9 = .ok (.if_icmp .ge 7, 3) := by decide +kernel
theorem dMo_isThing_12 : decode mMo_isThing.2.1 12 = .ok (.iconst 1, 1) := by decide +kernel
theorem dMo_isThing_13 : decode mMo_isThing.2.1 13 = .ok (.goto 4, 3) := by decide +kernel
theorem dMo_isThing_16 : decode mMo_isThing.2.1 16 = .ok (.iconst 0, 1) := by decide +kernel
theorem dMo_isThing_17 : decode mMo_isThing.2.1 17 = .ok (.ireturn, 1) := by decide +kernel
theorem dMo_isSource_0 : decode mMo_isSource.2.1 0 = .ok (.aload_n 0, 1) := by decide +kernel
theorem dMo_isSource_1 : decode mMo_isSource.2.1 1 = .ok (.iload_n 1, 1) := by decide +kernel
theorem dMo_isSource_2 : decode mMo_isSource.2.1 2 = .ok (.invokevirtual 94, 3) := by decide +kernel
theorem dMo_isSource_5 : decode mMo_isSource.2.1 5 = .ok (.ifCond .eq 17, 3) := by decide +kernel
theorem dMo_isSource_8 : decode mMo_isSource.2.1 8 = .ok (.aload_n 0, 1) := by decide +kernel
theorem dMo_isSource_9 : decode mMo_isSource.2.1 9 = .ok (.getfield 7, 3) := by decide +kernel
theorem dMo_isSource_12 : decode mMo_isSource.2.1 12 = .ok (.iload_n 1, 1) := by decide +kernel
theorem dMo_isSource_13 : decode mMo_isSource.2.1 13 = .ok (.iaload, 1) := by decide +kernel
theorem dMo_isSource_14 : decode mMo_isSource.2.1 14 = .ok (.iconst 3, 1) := by decide +kernel
theorem dMo_isSource_15 : decode mMo_isSource.2.1 15 = .ok (.if_icmp .eq 7, 3) := by decide +kernel
theorem dMo_isSource_18 : decode mMo_isSource.2.1 18 = .ok (.iconst 1, 1) := by decide +kernel
theorem dMo_isSource_19 : decode mMo_isSource.2.1 19 = .ok (.goto 4, 3) := by decide +kernel
theorem dMo_isSource_22 : decode mMo_isSource.2.1 22 = .ok (.iconst 0, 1) := by decide +kernel
theorem dMo_isSource_23 : decode mMo_isSource.2.1 23 = .ok (.ireturn, 1) := by decide +kernel
theorem dMo_has_0 : decode mMo_has.2.1 0 = .ok (.lload_n 2, 1) := by decide +kernel
theorem dMo_has_1 : decode mMo_has.2.1 1 = .ok (.lconst 1, 1) := by decide +kernel
theorem dMo_has_2 : decode mMo_has.2.1 2 = .ok (.lcmp, 1) := by decide +kernel
theorem dMo_has_3 : decode mMo_has.2.1 3 = .ok (.ifCond .lt 17, 3) := by decide +kernel
theorem dMo_has_6 : decode mMo_has.2.1 6 = .ok (.lload_n 2, 1) := by decide +kernel
theorem dMo_has_7 : decode mMo_has.2.1 7 = .ok (.aload_n 0, 1) := by decide +kernel
theorem dMo_has_8 : decode mMo_has.2.1 8 = .ok (.iload_n 1, 1) := by decide +kernel
theorem dMo_has_9 : decode mMo_has.2.1 9 = .ok (.invokevirtual 112, 3) := by decide +kernel
theorem dMo_has_12 : decode mMo_has.2.1 12 = .ok (.lcmp, 1) := by decide +kernel
theorem dMo_has_13 : decode mMo_has.2.1 13 = .ok (.ifCond .gt 7, 3) := by decide +kernel
theorem dMo_has_16 : decode mMo_has.2.1 16 = .ok (.iconst 1, 1) := by decide +kernel
theorem dMo_has_17 : decode mMo_has.2.1 17 = .ok (.goto 4, 3) := by decide +kernel
theorem dMo_has_20 : decode mMo_has.2.1 20 = .ok (.iconst 0, 1) := by decide +kernel
theorem dMo_has_21 : decode mMo_has.2.1 21 = .ok (.ireturn, 1) := by decide +kernel
theorem dMo_gramsIn_0 : decode mMo_gramsIn.2.1 0 = .ok (.lconst 0, 1) := by decide +kernel
theorem dMo_gramsIn_1 : decode mMo_gramsIn.2.1 1 = .ok (.lstore_n 2, 1) := by decide +kernel
theorem dMo_gramsIn_2 : decode mMo_gramsIn.2.1 2 = .ok (.iconst 0, 1) := by decide +kernel
theorem dMo_gramsIn_3 : decode mMo_gramsIn.2.1 3 = .ok (.istore 4, 2) := by decide +kernel
theorem dMo_gramsIn_5 : decode mMo_gramsIn.2.1 5 = .ok (.iload 4, 2) := by decide +kernel
theorem dMo_gramsIn_7 : decode mMo_gramsIn.2.1 7 = .ok (.aload_n 0, 1) := by decide +kernel
theorem dMo_gramsIn_8 : decode mMo_gramsIn.2.1 8 = .ok (.getfield 13, 3) := by decide +kernel
theorem dMo_gramsIn_11 : decode mMo_gramsIn.2.1 11 = .ok (.iload_n 1, 1) := by decide +kernel
theorem dMo_gramsIn_12 : decode mMo_gramsIn.2.1 12 = .ok (.iaload, 1) := by decide +kernel
theorem dMo_gramsIn_13 : decode mMo_gramsIn.2.1 13 = .ok (.if_icmp .ge 24, 3) := by decide +kernel
theorem dMo_gramsIn_16 : decode mMo_gramsIn.2.1 16 = .ok (.lload_n 2, 1) := by decide +kernel
theorem dMo_gramsIn_17 : decode mMo_gramsIn.2.1 17 = .ok (.aload_n 0, 1) := by decide +kernel
theorem dMo_gramsIn_18 : decode mMo_gramsIn.2.1 18 = .ok (.getfield 19, 3) := by decide +kernel
theorem dMo_gramsIn_21 : decode mMo_gramsIn.2.1 21 = .ok (.bipush 81, 2) := by decide +kernel
theorem dMo_gramsIn_23 : decode mMo_gramsIn.2.1 23 = .ok (.iload_n 1, 1) := by decide +kernel
theorem dMo_gramsIn_24 : decode mMo_gramsIn.2.1 24 = .ok (.imul, 1) := by decide +kernel
theorem dMo_gramsIn_25 : decode mMo_gramsIn.2.1 25 = .ok (.iload 4, 2) := by decide +kernel
theorem dMo_gramsIn_27 : decode mMo_gramsIn.2.1 27 = .ok (.iadd, 1) := by decide +kernel
theorem dMo_gramsIn_28 : decode mMo_gramsIn.2.1 28 = .ok (.laload, 1) := by decide +kernel
theorem dMo_gramsIn_29 : decode mMo_gramsIn.2.1 29 = .ok (.ladd, 1) := by decide +kernel
theorem dMo_gramsIn_30 : decode mMo_gramsIn.2.1 30 = .ok (.lstore_n 2, 1) := by decide +kernel
theorem dMo_gramsIn_31 : decode mMo_gramsIn.2.1 31 = .ok (.iinc 4 1, 3) := by decide +kernel
theorem dMo_gramsIn_34 : decode mMo_gramsIn.2.1 34 = .ok (.goto (-29), 3) := by decide +kernel
theorem dMo_gramsIn_37 : decode mMo_gramsIn.2.1 37 = .ok (.lload_n 2, 1) := by decide +kernel
theorem dMo_gramsIn_38 : decode mMo_gramsIn.2.1 38 = .ok (.lreturn, 1) := by decide +kernel
theorem dMo_layBy_0 : decode mMo_layBy.2.1 0 = .ok (.aload_n 0, 1) := by decide +kernel
theorem dMo_layBy_1 : decode mMo_layBy.2.1 1 = .ok (.iconst 0, 1) := by decide +kernel
theorem dMo_layBy_2 : decode mMo_layBy.2.1 2 = .ok (.putfield 105, 3) := by decide +kernel
theorem dMo_layBy_5 : decode mMo_layBy.2.1 5 = .ok (.iconst 0, 1) := by decide +kernel
theorem dMo_layBy_6 : decode mMo_layBy.2.1 6 = .ok (.istore 5, 2) := by decide +kernel
theorem dMo_layBy_8 : decode mMo_layBy.2.1 8 = .ok (.iload_n 1, 1) := by decide +kernel
theorem dMo_layBy_9 : decode mMo_layBy.2.1 9 = .ok (.iconst (-1), 1) := by decide +kernel
theorem dMo_layBy_10 : decode mMo_layBy.2.1 10 = .ok (.if_icmp .eq 48, 3) := by decide +kernel
theorem dMo_layBy_13 : decode mMo_layBy.2.1 13 = .ok (.iload 5, 2) := by decide +kernel
theorem dMo_layBy_15 : decode mMo_layBy.2.1 15 = .ok (.aload_n 0, 1) := by decide +kernel
theorem dMo_layBy_16 : decode mMo_layBy.2.1 16 = .ok (.getfield 13, 3) := by decide +kernel
theorem dMo_layBy_19 : decode mMo_layBy.2.1 19 = .ok (.iload_n 1, 1) := by decide +kernel
theorem dMo_layBy_20 : decode mMo_layBy.2.1 20 = .ok (.iaload, 1) := by decide +kernel
theorem dMo_layBy_21 : decode mMo_layBy.2.1 21 = .ok (.if_icmp .ge 37, 3) := by decide +kernel
theorem dMo_layBy_24 : decode mMo_layBy.2.1 24 = .ok (.aload_n 0, 1) := by decide +kernel
theorem dMo_layBy_25 : decode mMo_layBy.2.1 25 = .ok (.aload_n 0, 1) := by decide +kernel
theorem dMo_layBy_26 : decode mMo_layBy.2.1 26 = .ok (.getfield 16, 3) := by decide +kernel
theorem dMo_layBy_29 : decode mMo_layBy.2.1 29 = .ok (.bipush 81, 2) := by decide +kernel
theorem dMo_layBy_31 : decode mMo_layBy.2.1 31 = .ok (.iload_n 1, 1) := by decide +kernel
theorem dMo_layBy_32 : decode mMo_layBy.2.1 32 = .ok (.imul, 1) := by decide +kernel
theorem dMo_layBy_33 : decode mMo_layBy.2.1 33 = .ok (.iload 5, 2) := by decide +kernel
theorem dMo_layBy_35 : decode mMo_layBy.2.1 35 = .ok (.iadd, 1) := by decide +kernel
theorem dMo_layBy_36 : decode mMo_layBy.2.1 36 = .ok (.iaload, 1) := by decide +kernel
theorem dMo_layBy_37 : decode mMo_layBy.2.1 37 = .ok (.aload_n 0, 1) := by decide +kernel
theorem dMo_layBy_38 : decode mMo_layBy.2.1 38 = .ok (.getfield 19, 3) := by decide +kernel
theorem dMo_layBy_41 : decode mMo_layBy.2.1 41 = .ok (.bipush 81, 2) := by decide +kernel
theorem dMo_layBy_43 : decode mMo_layBy.2.1 43 = .ok (.iload_n 1, 1) := by decide +kernel
theorem dMo_layBy_44 : decode mMo_layBy.2.1 44 = .ok (.imul, 1) := by decide +kernel
theorem dMo_layBy_45 : decode mMo_layBy.2.1 45 = .ok (.iload 5, 2) := by decide +kernel
theorem dMo_layBy_47 : decode mMo_layBy.2.1 47 = .ok (.iadd, 1) := by decide +kernel
theorem dMo_layBy_48 : decode mMo_layBy.2.1 48 = .ok (.laload, 1) := by decide +kernel
theorem dMo_layBy_49 : decode mMo_layBy.2.1 49 = .ok (.invokevirtual 108, 3) := by decide +kernel
theorem dMo_layBy_52 : decode mMo_layBy.2.1 52 = .ok (.iinc 5 1, 3) := by decide +kernel
theorem dMo_layBy_55 : decode mMo_layBy.2.1 55 = .ok (.goto (-47), 3) := by decide +kernel
theorem dMo_layBy_58 : decode mMo_layBy.2.1 58 = .ok (.lload_n 3, 1) := by decide +kernel
theorem dMo_layBy_59 : decode mMo_layBy.2.1 59 = .ok (.lstore 5, 2) := by decide +kernel
theorem dMo_layBy_61 : decode mMo_layBy.2.1 61 = .ok (.iconst 0, 1) := by decide +kernel
theorem dMo_layBy_62 : decode mMo_layBy.2.1 62 = .ok (.istore 7, 2) := by decide +kernel
theorem dMo_layBy_64 : decode mMo_layBy.2.1 64 = .ok (.iload 7, 2) := by decide +kernel
theorem dMo_layBy_66 : decode mMo_layBy.2.1 66 = .ok (.aload_n 0, 1) := by decide +kernel
theorem dMo_layBy_67 : decode mMo_layBy.2.1 67 = .ok (.getfield 13, 3) := by decide +kernel
theorem dMo_layBy_70 : decode mMo_layBy.2.1 70 = .ok (.iload_n 2, 1) := by decide +kernel
theorem dMo_layBy_71 : decode mMo_layBy.2.1 71 = .ok (.iaload, 1) := by decide +kernel
theorem dMo_layBy_72 : decode mMo_layBy.2.1 72 = .ok (.if_icmp .ge 78, 3) := by decide +kernel
theorem dMo_layBy_75 : decode mMo_layBy.2.1 75 = .ok (.lload 5, 2) := by decide +kernel
theorem dMo_layBy_77 : decode mMo_layBy.2.1 77 = .ok (.lconst 0, 1) := by decide +kernel
theorem dMo_layBy_78 : decode mMo_layBy.2.1 78 = .ok (.lcmp, 1) := by decide +kernel
theorem dMo_layBy_79 : decode mMo_layBy.2.1 79 = .ok (.ifCond .le 71, 3) := by decide +kernel
theorem dMo_layBy_82 : decode mMo_layBy.2.1 82 = .ok (.aload_n 0, 1) := by decide +kernel
theorem dMo_layBy_83 : decode mMo_layBy.2.1 83 = .ok (.getfield 19, 3) := by decide +kernel
theorem dMo_layBy_86 : decode mMo_layBy.2.1 86 = .ok (.bipush 81, 2) := by decide +kernel
theorem dMo_layBy_88 : decode mMo_layBy.2.1 88 = .ok (.iload_n 2, 1) := by decide +kernel
theorem dMo_layBy_89 : decode mMo_layBy.2.1 89 = .ok (.imul, 1) := by decide +kernel
theorem dMo_layBy_90 : decode mMo_layBy.2.1 90 = .ok (.iload 7, 2) := by decide +kernel
theorem dMo_layBy_92 : decode mMo_layBy.2.1 92 = .ok (.iadd, 1) := by decide +kernel
theorem dMo_layBy_93 : decode mMo_layBy.2.1 93 = .ok (.laload, 1) := by decide +kernel
theorem dMo_layBy_94 : decode mMo_layBy.2.1 94 = .ok (.lload 5, 2) := by decide +kernel
theorem dMo_layBy_96 : decode mMo_layBy.2.1 96 = .ok (.lcmp, 1) := by decide +kernel
theorem dMo_layBy_97 : decode mMo_layBy.2.1 97 = .ok (.ifCond .ge 18, 3) := by decide +kernel
theorem dMo_layBy_100 : decode mMo_layBy.2.1 100 = .ok (.aload_n 0, 1) := by decide +kernel
theorem dMo_layBy_101 : decode mMo_layBy.2.1 101 = .ok (.getfield 19, 3) := by decide +kernel
theorem dMo_layBy_104 : decode mMo_layBy.2.1 104 = .ok (.bipush 81, 2) := by decide +kernel
theorem dMo_layBy_106 : decode mMo_layBy.2.1 106 = .ok (.iload_n 2, 1) := by decide +kernel
theorem dMo_layBy_107 : decode mMo_layBy.2.1 107 = .ok (.imul, 1) := by decide +kernel
theorem dMo_layBy_108 : decode mMo_layBy.2.1 108 = .ok (.iload 7, 2) := by decide +kernel
theorem dMo_layBy_110 : decode mMo_layBy.2.1 110 = .ok (.iadd, 1) := by decide +kernel
theorem dMo_layBy_111 : decode mMo_layBy.2.1 111 = .ok (.laload, 1) := by decide +kernel
theorem dMo_layBy_112 : decode mMo_layBy.2.1 112 = .ok (.goto 5, 3) := by decide +kernel
theorem dMo_layBy_115 : decode mMo_layBy.2.1 115 = .ok (.lload 5, 2) := by decide +kernel
theorem dMo_layBy_117 : decode mMo_layBy.2.1 117 = .ok (.lstore 8, 2) := by decide +kernel
theorem dMo_layBy_119 : decode mMo_layBy.2.1 119 = .ok (.aload_n 0, 1) := by decide +kernel
theorem dMo_layBy_120 : decode mMo_layBy.2.1 120 = .ok (.aload_n 0, 1) := by decide +kernel
theorem dMo_layBy_121 : decode mMo_layBy.2.1 121 = .ok (.getfield 16, 3) := by decide +kernel
theorem dMo_layBy_124 : decode mMo_layBy.2.1 124 = .ok (.bipush 81, 2) := by decide +kernel
theorem dMo_layBy_126 : decode mMo_layBy.2.1 126 = .ok (.iload_n 2, 1) := by decide +kernel
theorem dMo_layBy_127 : decode mMo_layBy.2.1 127 = .ok (.imul, 1) := by decide +kernel
theorem dMo_layBy_128 : decode mMo_layBy.2.1 128 = .ok (.iload 7, 2) := by decide +kernel
theorem dMo_layBy_130 : decode mMo_layBy.2.1 130 = .ok (.iadd, 1) := by decide +kernel
theorem dMo_layBy_131 : decode mMo_layBy.2.1 131 = .ok (.iaload, 1) := by decide +kernel
theorem dMo_layBy_132 : decode mMo_layBy.2.1 132 = .ok (.lload 8, 2) := by decide +kernel
theorem dMo_layBy_134 : decode mMo_layBy.2.1 134 = .ok (.invokevirtual 108, 3) := by decide +kernel
theorem dMo_layBy_137 : decode mMo_layBy.2.1 137 = .ok (.lload 5, 2) := by decide +kernel
theorem dMo_layBy_139 : decode mMo_layBy.2.1 139 = .ok (.lload 8, 2) := by decide +kernel
theorem dMo_layBy_141 : decode mMo_layBy.2.1 141 = .ok (.lsub, 1) := by decide +kernel
theorem dMo_layBy_142 : decode mMo_layBy.2.1 142 = .ok (.lstore 5, 2) := by decide +kernel
theorem dMo_layBy_144 : decode mMo_layBy.2.1 144 = .ok (.iinc 7 1, 3) := by decide +kernel
theorem dMo_layBy_147 : decode mMo_layBy.2.1 147 = .ok (.goto (-83), 3) := by decide +kernel
theorem dMo_layBy_150 : decode mMo_layBy.2.1 150 = .ok (.return_, 1) := by decide +kernel
theorem dMo_lay_0 : decode mMo_lay.2.1 0 = .ok (.aload_n 0, 1) := by decide +kernel
theorem dMo_lay_1 : decode mMo_lay.2.1 1 = .ok (.getfield 105, 3) := by decide +kernel
theorem dMo_lay_4 : decode mMo_lay.2.1 4 = .ok (.ifCond .le 34, 3) := by decide +kernel
theorem dMo_lay_7 : decode mMo_lay.2.1 7 = .ok (.aload_n 0, 1) := by decide +kernel
theorem dMo_lay_8 : decode mMo_lay.2.1 8 = .ok (.getfield 42, 3) := by decide +kernel
theorem dMo_lay_11 : decode mMo_lay.2.1 11 = .ok (.aload_n 0, 1) := by decide +kernel
theorem dMo_lay_12 : decode mMo_lay.2.1 12 = .ok (.getfield 105, 3) := by decide +kernel
theorem dMo_lay_15 : decode mMo_lay.2.1 15 = .ok (.iconst 1, 1) := by decide +kernel
theorem dMo_lay_16 : decode mMo_lay.2.1 16 = .ok (.isub, 1) := by decide +kernel
theorem dMo_lay_17 : decode mMo_lay.2.1 17 = .ok (.iaload, 1) := by decide +kernel
theorem dMo_lay_18 : decode mMo_lay.2.1 18 = .ok (.iload_n 1, 1) := by decide +kernel
theorem dMo_lay_19 : decode mMo_lay.2.1 19 = .ok (.if_icmp .ne 19, 3) := by decide +kernel
theorem dMo_lay_22 : decode mMo_lay.2.1 22 = .ok (.aload_n 0, 1) := by decide +kernel
theorem dMo_lay_23 : decode mMo_lay.2.1 23 = .ok (.getfield 45, 3) := by decide +kernel
theorem dMo_lay_26 : decode mMo_lay.2.1 26 = .ok (.aload_n 0, 1) := by decide +kernel
theorem dMo_lay_27 : decode mMo_lay.2.1 27 = .ok (.getfield 105, 3) := by decide +kernel
theorem dMo_lay_30 : decode mMo_lay.2.1 30 = .ok (.iconst 1, 1) := by decide +kernel
theorem dMo_lay_31 : decode mMo_lay.2.1 31 = .ok (.isub, 1) := by decide +kernel
theorem dMo_lay_32 : decode mMo_lay.2.1 32 = .ok (.dup2, 1) := by decide +kernel
theorem dMo_lay_33 : decode mMo_lay.2.1 33 = .ok (.laload, 1) := by decide +kernel
theorem dMo_lay_34 : decode mMo_lay.2.1 34 = .ok (.lload_n 2, 1) := by decide +kernel
theorem dMo_lay_35 : decode mMo_lay.2.1 35 = .ok (.ladd, 1) := by decide +kernel
theorem dMo_lay_36 : decode mMo_lay.2.1 36 = .ok (.lastore, 1) := by decide +kernel
theorem dMo_lay_37 : decode mMo_lay.2.1 37 = .ok (.return_, 1) := by decide +kernel
theorem dMo_lay_38 : decode mMo_lay.2.1 38 = .ok (.aload_n 0, 1) := by decide +kernel
theorem dMo_lay_39 : decode mMo_lay.2.1 39 = .ok (.getfield 42, 3) := by decide +kernel
theorem dMo_lay_42 : decode mMo_lay.2.1 42 = .ok (.aload_n 0, 1) := by decide +kernel
theorem dMo_lay_43 : decode mMo_lay.2.1 43 = .ok (.getfield 105, 3) := by decide +kernel
theorem dMo_lay_46 : decode mMo_lay.2.1 46 = .ok (.iload_n 1, 1) := by decide +kernel
theorem dMo_lay_47 : decode mMo_lay.2.1 47 = .ok (.iastore, 1) := by decide +kernel
theorem dMo_lay_48 : decode mMo_lay.2.1 48 = .ok (.aload_n 0, 1) := by decide +kernel
theorem dMo_lay_49 : decode mMo_lay.2.1 49 = .ok (.getfield 45, 3) := by decide +kernel
theorem dMo_lay_52 : decode mMo_lay.2.1 52 = .ok (.aload_n 0, 1) := by decide +kernel
theorem dMo_lay_53 : decode mMo_lay.2.1 53 = .ok (.getfield 105, 3) := by decide +kernel
theorem dMo_lay_56 : decode mMo_lay.2.1 56 = .ok (.lload_n 2, 1) := by decide +kernel
theorem dMo_lay_57 : decode mMo_lay.2.1 57 = .ok (.lastore, 1) := by decide +kernel
theorem dMo_lay_58 : decode mMo_lay.2.1 58 = .ok (.aload_n 0, 1) := by decide +kernel
theorem dMo_lay_59 : decode mMo_lay.2.1 59 = .ok (.dup, 1) := by decide +kernel
theorem dMo_lay_60 : decode mMo_lay.2.1 60 = .ok (.getfield 105, 3) := by decide +kernel
theorem dMo_lay_63 : decode mMo_lay.2.1 63 = .ok (.iconst 1, 1) := by decide +kernel
theorem dMo_lay_64 : decode mMo_lay.2.1 64 = .ok (.iadd, 1) := by decide +kernel
theorem dMo_lay_65 : decode mMo_lay.2.1 65 = .ok (.putfield 105, 3) := by decide +kernel
theorem dMo_lay_68 : decode mMo_lay.2.1 68 = .ok (.return_, 1) := by decide +kernel
theorem dMo_putDown_0 : decode mMo_putDown.2.1 0 = .ok (.aload_n 0, 1) := by decide +kernel
theorem dMo_putDown_1 : decode mMo_putDown.2.1 1 = .ok (.getfield 13, 3) := by decide +kernel
theorem dMo_putDown_4 : decode mMo_putDown.2.1 4 = .ok (.iload_n 1, 1) := by decide +kernel
theorem dMo_putDown_5 : decode mMo_putDown.2.1 5 = .ok (.aload_n 0, 1) := by decide +kernel
theorem dMo_putDown_6 : decode mMo_putDown.2.1 6 = .ok (.getfield 105, 3) := by decide +kernel
theorem dMo_putDown_9 : decode mMo_putDown.2.1 9 = .ok (.iastore, 1) := by decide +kernel
theorem dMo_putDown_10 : decode mMo_putDown.2.1 10 = .ok (.iconst 0, 1) := by decide +kernel
theorem dMo_putDown_11 : decode mMo_putDown.2.1 11 = .ok (.istore_n 2, 1) := by decide +kernel
theorem dMo_putDown_12 : decode mMo_putDown.2.1 12 = .ok (.iload_n 2, 1) := by decide +kernel
theorem dMo_putDown_13 : decode mMo_putDown.2.1 13 = .ok (.aload_n 0, 1) := by decide +kernel
theorem dMo_putDown_14 : decode mMo_putDown.2.1 14 = .ok (.getfield 105, 3) := by decide +kernel
theorem dMo_putDown_17 : decode mMo_putDown.2.1 17 = .ok (.if_icmp .ge 43, 3) := by decide +kernel
theorem dMo_putDown_20 : decode mMo_putDown.2.1 20 = .ok (.aload_n 0, 1) := by decide +kernel
theorem dMo_putDown_21 : decode mMo_putDown.2.1 21 = .ok (.getfield 16, 3) := by decide +kernel
theorem dMo_putDown_24 : decode mMo_putDown.2.1 24 = .ok (.bipush 81, 2) := by decide +kernel
theorem dMo_putDown_26 : decode mMo_putDown.2.1 26 = .ok (.iload_n 1, 1) := by decide +kernel
theorem dMo_putDown_27 : decode mMo_putDown.2.1 27 = .ok (.imul, 1) := by decide +kernel
theorem dMo_putDown_28 : decode mMo_putDown.2.1 28 = .ok (.iload_n 2, 1) := by decide +kernel
theorem dMo_putDown_29 : decode mMo_putDown.2.1 29 = .ok (.iadd, 1) := by decide +kernel
theorem dMo_putDown_30 : decode mMo_putDown.2.1 30 = .ok (.aload_n 0, 1) := by decide +kernel
theorem dMo_putDown_31 : decode mMo_putDown.2.1 31 = .ok (.getfield 42, 3) := by decide +kernel
theorem dMo_putDown_34 : decode mMo_putDown.2.1 34 = .ok (.iload_n 2, 1) := by decide +kernel
theorem dMo_putDown_35 : decode mMo_putDown.2.1 35 = .ok (.iaload, 1) := by decide +kernel
theorem dMo_putDown_36 : decode mMo_putDown.2.1 36 = .ok (.iastore, 1) := by decide +kernel
theorem dMo_putDown_37 : decode mMo_putDown.2.1 37 = .ok (.aload_n 0, 1) := by decide +kernel
theorem dMo_putDown_38 : decode mMo_putDown.2.1 38 = .ok (.getfield 19, 3) := by decide +kernel
theorem dMo_putDown_41 : decode mMo_putDown.2.1 41 = .ok (.bipush 81, 2) := by decide +kernel
theorem dMo_putDown_43 : decode mMo_putDown.2.1 43 = .ok (.iload_n 1, 1) := by decide +kernel
theorem dMo_putDown_44 : decode mMo_putDown.2.1 44 = .ok (.imul, 1) := by decide +kernel
theorem dMo_putDown_45 : decode mMo_putDown.2.1 45 = .ok (.iload_n 2, 1) := by decide +kernel
theorem dMo_putDown_46 : decode mMo_putDown.2.1 46 = .ok (.iadd, 1) := by decide +kernel
theorem dMo_putDown_47 : decode mMo_putDown.2.1 47 = .ok (.aload_n 0, 1) := by decide +kernel
theorem dMo_putDown_48 : decode mMo_putDown.2.1 48 = .ok (.getfield 45, 3) := by decide +kernel
theorem dMo_putDown_51 : decode mMo_putDown.2.1 51 = .ok (.iload_n 2, 1) := by decide +kernel
theorem dMo_putDown_52 : decode mMo_putDown.2.1 52 = .ok (.laload, 1) := by decide +kernel
theorem dMo_putDown_53 : decode mMo_putDown.2.1 53 = .ok (.lastore, 1) := by decide +kernel
theorem dMo_putDown_54 : decode mMo_putDown.2.1 54 = .ok (.iinc 2 1, 3) := by decide +kernel
theorem dMo_putDown_57 : decode mMo_putDown.2.1 57 = .ok (.goto (-45), 3) := by decide +kernel
theorem dMo_putDown_60 : decode mMo_putDown.2.1 60 = .ok (.return_, 1) := by decide +kernel
theorem dMo_takeOut_0 : decode mMo_takeOut.2.1 0 = .ok (.lload_n 2, 1) := by decide +kernel
theorem dMo_takeOut_1 : decode mMo_takeOut.2.1 1 = .ok (.lstore 4, 2) := by decide +kernel
theorem dMo_takeOut_3 : decode mMo_takeOut.2.1 3 = .ok (.iconst 0, 1) := by decide +kernel
theorem dMo_takeOut_4 : decode mMo_takeOut.2.1 4 = .ok (.istore 6, 2) := by decide +kernel
theorem dMo_takeOut_6 : decode mMo_takeOut.2.1 6 = .ok (.iconst 0, 1) := by decide +kernel
theorem dMo_takeOut_7 : decode mMo_takeOut.2.1 7 = .ok (.istore 7, 2) := by decide +kernel
theorem dMo_takeOut_9 : decode mMo_takeOut.2.1 9 = .ok (.iload 7, 2) := by decide +kernel
theorem dMo_takeOut_11 : decode mMo_takeOut.2.1 11 = .ok (.aload_n 0, 1) := by decide +kernel
theorem dMo_takeOut_12 : decode mMo_takeOut.2.1 12 = .ok (.getfield 13, 3) := by decide +kernel
theorem dMo_takeOut_15 : decode mMo_takeOut.2.1 15 = .ok (.iload_n 1, 1) := by decide +kernel
theorem dMo_takeOut_16 : decode mMo_takeOut.2.1 16 = .ok (.iaload, 1) := by decide +kernel
theorem dMo_takeOut_17 : decode mMo_takeOut.2.1 17 = .ok (.if_icmp .ge 99, 3) := by decide +kernel
theorem dMo_takeOut_20 : decode mMo_takeOut.2.1 20 = .ok (.aload_n 0, 1) := by decide +kernel
theorem dMo_takeOut_21 : decode mMo_takeOut.2.1 21 = .ok (.getfield 19, 3) := by decide +kernel
theorem dMo_takeOut_24 : decode mMo_takeOut.2.1 24 = .ok (.bipush 81, 2) := by decide +kernel
theorem dMo_takeOut_26 : decode mMo_takeOut.2.1 26 = .ok (.iload_n 1, 1) := by decide +kernel
theorem dMo_takeOut_27 : decode mMo_takeOut.2.1 27 = .ok (.imul, 1) := by decide +kernel
theorem dMo_takeOut_28 : decode mMo_takeOut.2.1 28 = .ok (.iload 7, 2) := by decide +kernel
theorem dMo_takeOut_30 : decode mMo_takeOut.2.1 30 = .ok (.iadd, 1) := by decide +kernel
theorem dMo_takeOut_31 : decode mMo_takeOut.2.1 31 = .ok (.laload, 1) := by decide +kernel
theorem dMo_takeOut_32 : decode mMo_takeOut.2.1 32 = .ok (.lstore 8, 2) := by decide +kernel
theorem dMo_takeOut_34 : decode mMo_takeOut.2.1 34 = .ok (.lload 8, 2) := by decide +kernel
theorem dMo_takeOut_36 : decode mMo_takeOut.2.1 36 = .ok (.lload 4, 2) := by decide +kernel
theorem dMo_takeOut_38 : decode mMo_takeOut.2.1 38 = .ok (.lcmp, 1) := by decide +kernel
theorem dMo_takeOut_39 : decode mMo_takeOut.2.1 39 = .ok (.ifCond .ge 8, 3) := by decide +kernel
theorem dMo_takeOut_42 : decode mMo_takeOut.2.1 42 = .ok (.lload 8, 2) := by decide +kernel
theorem dMo_takeOut_44 : decode mMo_takeOut.2.1 44 = .ok (.goto 5, 3) := by decide +kernel
theorem dMo_takeOut_47 : decode mMo_takeOut.2.1 47 = .ok (.lload 4, 2) := by decide +kernel
theorem dMo_takeOut_49 : decode mMo_takeOut.2.1 49 = .ok (.lstore 10, 2) := by decide +kernel
theorem dMo_takeOut_51 : decode mMo_takeOut.2.1 51 = .ok (.lload 4, 2) := by decide +kernel
theorem dMo_takeOut_53 : decode mMo_takeOut.2.1 53 = .ok (.lload 10, 2) := by decide +kernel
theorem dMo_takeOut_55 : decode mMo_takeOut.2.1 55 = .ok (.lsub, 1) := by decide +kernel
theorem dMo_takeOut_56 : decode mMo_takeOut.2.1 56 = .ok (.lstore 4, 2) := by decide +kernel
theorem dMo_takeOut_58 : decode mMo_takeOut.2.1 58 = .ok (.lload 8, 2) := by decide +kernel
theorem dMo_takeOut_60 : decode mMo_takeOut.2.1 60 = .ok (.lload 10, 2) := by decide +kernel
theorem dMo_takeOut_62 : decode mMo_takeOut.2.1 62 = .ok (.lcmp, 1) := by decide +kernel
theorem dMo_takeOut_63 : decode mMo_takeOut.2.1 63 = .ok (.ifCond .le 47, 3) := by decide +kernel
theorem dMo_takeOut_66 : decode mMo_takeOut.2.1 66 = .ok (.aload_n 0, 1) := by decide +kernel
theorem dMo_takeOut_67 : decode mMo_takeOut.2.1 67 = .ok (.getfield 16, 3) := by decide +kernel
theorem dMo_takeOut_70 : decode mMo_takeOut.2.1 70 = .ok (.bipush 81, 2) := by decide +kernel
theorem dMo_takeOut_72 : decode mMo_takeOut.2.1 72 = .ok (.iload_n 1, 1) := by decide +kernel
theorem dMo_takeOut_73 : decode mMo_takeOut.2.1 73 = .ok (.imul, 1) := by decide +kernel
theorem dMo_takeOut_74 : decode mMo_takeOut.2.1 74 = .ok (.iload 6, 2) := by decide +kernel
theorem dMo_takeOut_76 : decode mMo_takeOut.2.1 76 = .ok (.iadd, 1) := by decide +kernel
theorem dMo_takeOut_77 : decode mMo_takeOut.2.1 77 = .ok (.aload_n 0, 1) := by decide +kernel
theorem dMo_takeOut_78 : decode mMo_takeOut.2.1 78 = .ok (.getfield 16, 3) := by decide +kernel
theorem dMo_takeOut_81 : decode mMo_takeOut.2.1 81 = .ok (.bipush 81, 2) := by decide +kernel
theorem dMo_takeOut_83 : decode mMo_takeOut.2.1 83 = .ok (.iload_n 1, 1) := by decide +kernel
theorem dMo_takeOut_84 : decode mMo_takeOut.2.1 84 = .ok (.imul, 1) := by decide +kernel
theorem dMo_takeOut_85 : decode mMo_takeOut.2.1 85 = .ok (.iload 7, 2) := by decide +kernel
theorem dMo_takeOut_87 : decode mMo_takeOut.2.1 87 = .ok (.iadd, 1) := by decide +kernel
theorem dMo_takeOut_88 : decode mMo_takeOut.2.1 88 = .ok (.iaload, 1) := by decide +kernel
theorem dMo_takeOut_89 : decode mMo_takeOut.2.1 89 = .ok (.iastore, 1) := by decide +kernel
theorem dMo_takeOut_90 : decode mMo_takeOut.2.1 90 = .ok (.aload_n 0, 1) := by decide +kernel
theorem dMo_takeOut_91 : decode mMo_takeOut.2.1 91 = .ok (.getfield 19, 3) := by decide +kernel
theorem dMo_takeOut_94 : decode mMo_takeOut.2.1 94 = .ok (.bipush 81, 2) := by decide +kernel
theorem dMo_takeOut_96 : decode mMo_takeOut.2.1 96 = .ok (.iload_n 1, 1) := by decide +kernel
theorem dMo_takeOut_97 : decode mMo_takeOut.2.1 97 = .ok (.imul, 1) := by decide +kernel
theorem dMo_takeOut_98 : decode mMo_takeOut.2.1 98 = .ok (.iload 6, 2) := by decide +kernel
theorem dMo_takeOut_100 : decode mMo_takeOut.2.1 100 = .ok (.iadd, 1) := by decide +kernel
theorem dMo_takeOut_101 : decode mMo_takeOut.2.1 101 = .ok (.lload 8, 2) := by decide +kernel
theorem dMo_takeOut_103 : decode mMo_takeOut.2.1 103 = .ok (.lload 10, 2) := by decide +kernel
theorem dMo_takeOut_105 : decode mMo_takeOut.2.1 105 = .ok (.lsub, 1) := by decide +kernel
theorem dMo_takeOut_106 : decode mMo_takeOut.2.1 106 = .ok (.lastore, 1) := by decide +kernel
theorem dMo_takeOut_107 : decode mMo_takeOut.2.1 107 = .ok (.iinc 6 1, 3) := by decide +kernel
theorem dMo_takeOut_110 : decode mMo_takeOut.2.1 110 = .ok (.iinc 7 1, 3) := by decide +kernel
theorem dMo_takeOut_113 : decode mMo_takeOut.2.1 113 = .ok (.goto (-104), 3) := by decide +kernel
theorem dMo_takeOut_116 : decode mMo_takeOut.2.1 116 = .ok (.aload_n 0, 1) := by decide +kernel
theorem dMo_takeOut_117 : decode mMo_takeOut.2.1 117 = .ok (.getfield 13, 3) := by decide +kernel
theorem dMo_takeOut_120 : decode mMo_takeOut.2.1 120 = .ok (.iload_n 1, 1) := by decide +kernel
theorem dMo_takeOut_121 : decode mMo_takeOut.2.1 121 = .ok (.iload 6, 2) := by decide +kernel
theorem dMo_takeOut_123 : decode mMo_takeOut.2.1 123 = .ok (.iastore, 1) := by decide +kernel
theorem dMo_takeOut_124 : decode mMo_takeOut.2.1 124 = .ok (.return_, 1) := by decide +kernel
theorem dMo_box_0 : decode mMo_box.2.1 0 = .ok (.aload_n 0, 1) := by decide +kernel
theorem dMo_box_1 : decode mMo_box.2.1 1 = .ok (.iload_n 1, 1) := by decide +kernel
theorem dMo_box_2 : decode mMo_box.2.1 2 = .ok (.invokevirtual 120, 3) := by decide +kernel
theorem dMo_box_5 : decode mMo_box.2.1 5 = .ok (.ifCond .eq 33, 3) := by decide +kernel
theorem dMo_box_8 : decode mMo_box.2.1 8 = .ok (.iload 4, 2) := by decide +kernel
theorem dMo_box_10 : decode mMo_box.2.1 10 = .ok (.ifCond .lt 28, 3) := by decide +kernel
theorem dMo_box_13 : decode mMo_box.2.1 13 = .ok (.iload 4, 2) := by decide +kernel
theorem dMo_box_15 : decode mMo_box.2.1 15 = .ok (.bipush 99, 2) := by decide +kernel
theorem dMo_box_17 : decode mMo_box.2.1 17 = .ok (.if_icmp .gt 21, 3) := by decide +kernel
theorem dMo_box_20 : decode mMo_box.2.1 20 = .ok (.aload_n 0, 1) := by decide +kernel
theorem dMo_box_21 : decode mMo_box.2.1 21 = .ok (.getfield 26, 3) := by decide +kernel
theorem dMo_box_24 : decode mMo_box.2.1 24 = .ok (.iload_n 1, 1) := by decide +kernel
theorem dMo_box_25 : decode mMo_box.2.1 25 = .ok (.baload, 1) := by decide +kernel
theorem dMo_box_26 : decode mMo_box.2.1 26 = .ok (.ifCond .ne 12, 3) := by decide +kernel
theorem dMo_box_29 : decode mMo_box.2.1 29 = .ok (.aload_n 0, 1) := by decide +kernel
theorem dMo_box_30 : decode mMo_box.2.1 30 = .ok (.iload_n 1, 1) := by decide +kernel
theorem dMo_box_31 : decode mMo_box.2.1 31 = .ok (.lload_n 2, 1) := by decide +kernel
theorem dMo_box_32 : decode mMo_box.2.1 32 = .ok (.invokevirtual 123, 3) := by decide +kernel
theorem dMo_box_35 : decode mMo_box.2.1 35 = .ok (.ifCond .ne 5, 3) := by decide +kernel
theorem dMo_box_38 : decode mMo_box.2.1 38 = .ok (.iconst (-1), 1) := by decide +kernel
theorem dMo_box_39 : decode mMo_box.2.1 39 = .ok (.ireturn, 1) := by decide +kernel
theorem dMo_box_40 : decode mMo_box.2.1 40 = .ok (.aload_n 0, 1) := by decide +kernel
theorem dMo_box_41 : decode mMo_box.2.1 41 = .ok (.iconst (-1), 1) := by decide +kernel
theorem dMo_box_42 : decode mMo_box.2.1 42 = .ok (.iload_n 1, 1) := by decide +kernel
theorem dMo_box_43 : decode mMo_box.2.1 43 = .ok (.lload_n 2, 1) := by decide +kernel
theorem dMo_box_44 : decode mMo_box.2.1 44 = .ok (.invokevirtual 127, 3) := by decide +kernel
theorem dMo_box_47 : decode mMo_box.2.1 47 = .ok (.aload_n 0, 1) := by decide +kernel
theorem dMo_box_48 : decode mMo_box.2.1 48 = .ok (.getfield 105, 3) := by decide +kernel
theorem dMo_box_51 : decode mMo_box.2.1 51 = .ok (.bipush 80, 2) := by decide +kernel
theorem dMo_box_53 : decode mMo_box.2.1 53 = .ok (.if_icmp .gt 12, 3) := by decide +kernel
theorem dMo_box_56 : decode mMo_box.2.1 56 = .ok (.aload_n 0, 1) := by decide +kernel
theorem dMo_box_57 : decode mMo_box.2.1 57 = .ok (.getfield 90, 3) := by decide +kernel
theorem dMo_box_60 : decode mMo_box.2.1 60 = .ok (.bipush 70, 2) := by decide +kernel
theorem dMo_box_62 : decode mMo_box.2.1 62 = .ok (.if_icmp .ne 5, 3) := by decide +kernel
theorem dMo_box_65 : decode mMo_box.2.1 65 = .ok (.iconst (-1), 1) := by decide +kernel
theorem dMo_box_66 : decode mMo_box.2.1 66 = .ok (.ireturn, 1) := by decide +kernel
theorem dMo_box_67 : decode mMo_box.2.1 67 = .ok (.aload_n 0, 1) := by decide +kernel
theorem dMo_box_68 : decode mMo_box.2.1 68 = .ok (.iconst 3, 1) := by decide +kernel
theorem dMo_box_69 : decode mMo_box.2.1 69 = .ok (.iload 4, 2) := by decide +kernel
theorem dMo_box_71 : decode mMo_box.2.1 71 = .ok (.iconst 0, 1) := by decide +kernel
theorem dMo_box_72 : decode mMo_box.2.1 72 = .ok (.lconst 0, 1) := by decide +kernel
theorem dMo_box_73 : decode mMo_box.2.1 73 = .ok (.invokevirtual 101, 3) := by decide +kernel
theorem dMo_box_76 : decode mMo_box.2.1 76 = .ok (.istore 5, 2) := by decide +kernel
theorem dMo_box_78 : decode mMo_box.2.1 78 = .ok (.aload_n 0, 1) := by decide +kernel
theorem dMo_box_79 : decode mMo_box.2.1 79 = .ok (.iload 5, 2) := by decide +kernel
theorem dMo_box_81 : decode mMo_box.2.1 81 = .ok (.invokevirtual 131, 3) := by decide +kernel
theorem dMo_box_84 : decode mMo_box.2.1 84 = .ok (.aload_n 0, 1) := by decide +kernel
theorem dMo_box_85 : decode mMo_box.2.1 85 = .ok (.iload_n 1, 1) := by decide +kernel
theorem dMo_box_86 : decode mMo_box.2.1 86 = .ok (.lload_n 2, 1) := by decide +kernel
theorem dMo_box_87 : decode mMo_box.2.1 87 = .ok (.invokevirtual 135, 3) := by decide +kernel
theorem dMo_box_90 : decode mMo_box.2.1 90 = .ok (.aload_n 0, 1) := by decide +kernel
theorem dMo_box_91 : decode mMo_box.2.1 91 = .ok (.getfield 30, 3) := by decide +kernel
theorem dMo_box_94 : decode mMo_box.2.1 94 = .ok (.iload 5, 2) := by decide +kernel
theorem dMo_box_96 : decode mMo_box.2.1 96 = .ok (.aload_n 0, 1) := by decide +kernel
theorem dMo_box_97 : decode mMo_box.2.1 97 = .ok (.getfield 30, 3) := by decide +kernel
theorem dMo_box_100 : decode mMo_box.2.1 100 = .ok (.iload_n 1, 1) := by decide +kernel
theorem dMo_box_101 : decode mMo_box.2.1 101 = .ok (.iaload, 1) := by decide +kernel
theorem dMo_box_102 : decode mMo_box.2.1 102 = .ok (.iastore, 1) := by decide +kernel
theorem dMo_box_103 : decode mMo_box.2.1 103 = .ok (.iload 5, 2) := by decide +kernel
theorem dMo_box_105 : decode mMo_box.2.1 105 = .ok (.ireturn, 1) := by decide +kernel
theorem dMo_waste_0 : decode mMo_waste.2.1 0 = .ok (.aload_n 0, 1) := by decide +kernel
theorem dMo_waste_1 : decode mMo_waste.2.1 1 = .ok (.iload_n 1, 1) := by decide +kernel
theorem dMo_waste_2 : decode mMo_waste.2.1 2 = .ok (.invokevirtual 94, 3) := by decide +kernel
theorem dMo_waste_5 : decode mMo_waste.2.1 5 = .ok (.ifCond .eq 12, 3) := by decide +kernel
theorem dMo_waste_8 : decode mMo_waste.2.1 8 = .ok (.aload_n 0, 1) := by decide +kernel
theorem dMo_waste_9 : decode mMo_waste.2.1 9 = .ok (.iload_n 1, 1) := by decide +kernel
theorem dMo_waste_10 : decode mMo_waste.2.1 10 = .ok (.lload_n 2, 1) := by decide +kernel
theorem dMo_waste_11 : decode mMo_waste.2.1 11 = .ok (.invokevirtual 123, 3) := by decide +kernel
theorem dMo_waste_14 : decode mMo_waste.2.1 14 = .ok (.ifCond .ne 7, 3) := by decide +kernel
theorem dMo_waste_17 : decode mMo_waste.2.1 17 = .ok (.ldc2_w 138, 3) := by decide +kernel
theorem dMo_waste_20 : decode mMo_waste.2.1 20 = .ok (.lreturn, 1) := by decide +kernel
theorem dMo_waste_21 : decode mMo_waste.2.1 21 = .ok (.aload_n 0, 1) := by decide +kernel
theorem dMo_waste_22 : decode mMo_waste.2.1 22 = .ok (.iload_n 1, 1) := by decide +kernel
theorem dMo_waste_23 : decode mMo_waste.2.1 23 = .ok (.lload_n 2, 1) := by decide +kernel
theorem dMo_waste_24 : decode mMo_waste.2.1 24 = .ok (.invokevirtual 135, 3) := by decide +kernel
theorem dMo_waste_27 : decode mMo_waste.2.1 27 = .ok (.aload_n 0, 1) := by decide +kernel
theorem dMo_waste_28 : decode mMo_waste.2.1 28 = .ok (.getfield 23, 3) := by decide +kernel
theorem dMo_waste_31 : decode mMo_waste.2.1 31 = .ok (.iload_n 1, 1) := by decide +kernel
theorem dMo_waste_32 : decode mMo_waste.2.1 32 = .ok (.dup2, 1) := by decide +kernel
theorem dMo_waste_33 : decode mMo_waste.2.1 33 = .ok (.laload, 1) := by decide +kernel
theorem dMo_waste_34 : decode mMo_waste.2.1 34 = .ok (.lload_n 2, 1) := by decide +kernel
theorem dMo_waste_35 : decode mMo_waste.2.1 35 = .ok (.ladd, 1) := by decide +kernel
theorem dMo_waste_36 : decode mMo_waste.2.1 36 = .ok (.lastore, 1) := by decide +kernel
theorem dMo_waste_37 : decode mMo_waste.2.1 37 = .ok (.aload_n 0, 1) := by decide +kernel
theorem dMo_waste_38 : decode mMo_waste.2.1 38 = .ok (.getfield 23, 3) := by decide +kernel
theorem dMo_waste_41 : decode mMo_waste.2.1 41 = .ok (.iload_n 1, 1) := by decide +kernel
theorem dMo_waste_42 : decode mMo_waste.2.1 42 = .ok (.laload, 1) := by decide +kernel
theorem dMo_waste_43 : decode mMo_waste.2.1 43 = .ok (.lreturn, 1) := by decide +kernel
theorem dMo_hold_0 : decode mMo_hold.2.1 0 = .ok (.aload_n 0, 1) := by decide +kernel
theorem dMo_hold_1 : decode mMo_hold.2.1 1 = .ok (.iload_n 1, 1) := by decide +kernel
theorem dMo_hold_2 : decode mMo_hold.2.1 2 = .ok (.invokevirtual 94, 3) := by decide +kernel
theorem dMo_hold_5 : decode mMo_hold.2.1 5 = .ok (.ifCond .ne 5, 3) := by decide +kernel
theorem dMo_hold_8 : decode mMo_hold.2.1 8 = .ok (.iconst 0, 1) := by decide +kernel
theorem dMo_hold_9 : decode mMo_hold.2.1 9 = .ok (.ireturn, 1) := by decide +kernel
theorem dMo_hold_10 : decode mMo_hold.2.1 10 = .ok (.aload_n 0, 1) := by decide +kernel
theorem dMo_hold_11 : decode mMo_hold.2.1 11 = .ok (.getfield 26, 3) := by decide +kernel
theorem dMo_hold_14 : decode mMo_hold.2.1 14 = .ok (.iload_n 1, 1) := by decide +kernel
theorem dMo_hold_15 : decode mMo_hold.2.1 15 = .ok (.iload_n 2, 1) := by decide +kernel
theorem dMo_hold_16 : decode mMo_hold.2.1 16 = .ok (.bastore, 1) := by decide +kernel
theorem dMo_hold_17 : decode mMo_hold.2.1 17 = .ok (.iconst 1, 1) := by decide +kernel
theorem dMo_hold_18 : decode mMo_hold.2.1 18 = .ok (.ireturn, 1) := by decide +kernel
theorem dMo_correct_0 : decode mMo_correct.2.1 0 = .ok (.aload_n 0, 1) := by decide +kernel
theorem dMo_correct_1 : decode mMo_correct.2.1 1 = .ok (.iload_n 1, 1) := by decide +kernel
theorem dMo_correct_2 : decode mMo_correct.2.1 2 = .ok (.iconst 1, 1) := by decide +kernel
theorem dMo_correct_3 : decode mMo_correct.2.1 3 = .ok (.invokevirtual 116, 3) := by decide +kernel
theorem dMo_correct_6 : decode mMo_correct.2.1 6 = .ok (.ifCond .eq 17, 3) := by decide +kernel
theorem dMo_correct_9 : decode mMo_correct.2.1 9 = .ok (.lload_n 2, 1) := by decide +kernel
theorem dMo_correct_10 : decode mMo_correct.2.1 10 = .ok (.lconst 1, 1) := by decide +kernel
theorem dMo_correct_11 : decode mMo_correct.2.1 11 = .ok (.lcmp, 1) := by decide +kernel
theorem dMo_correct_12 : decode mMo_correct.2.1 12 = .ok (.ifCond .lt 11, 3) := by decide +kernel
theorem dMo_correct_15 : decode mMo_correct.2.1 15 = .ok (.lload_n 2, 1) := by decide +kernel
theorem dMo_correct_16 : decode mMo_correct.2.1 16 = .ok (.ldc2_w 98, 3) := by decide +kernel
theorem dMo_correct_19 : decode mMo_correct.2.1 19 = .ok (.lcmp, 1) := by decide +kernel
theorem dMo_correct_20 : decode mMo_correct.2.1 20 = .ok (.ifCond .le 5, 3) := by decide +kernel
theorem dMo_correct_23 : decode mMo_correct.2.1 23 = .ok (.iconst 0, 1) := by decide +kernel
theorem dMo_correct_24 : decode mMo_correct.2.1 24 = .ok (.ireturn, 1) := by decide +kernel
theorem dMo_correct_25 : decode mMo_correct.2.1 25 = .ok (.aload_n 0, 1) := by decide +kernel
theorem dMo_correct_26 : decode mMo_correct.2.1 26 = .ok (.iload_n 1, 1) := by decide +kernel
theorem dMo_correct_27 : decode mMo_correct.2.1 27 = .ok (.invokevirtual 112, 3) := by decide +kernel
theorem dMo_correct_30 : decode mMo_correct.2.1 30 = .ok (.lload_n 2, 1) := by decide +kernel
theorem dMo_correct_31 : decode mMo_correct.2.1 31 = .ok (.ladd, 1) := by decide +kernel
theorem dMo_correct_32 : decode mMo_correct.2.1 32 = .ok (.aload_n 0, 1) := by decide +kernel
theorem dMo_correct_33 : decode mMo_correct.2.1 33 = .ok (.getfield 39, 3) := by decide +kernel
theorem dMo_correct_36 : decode mMo_correct.2.1 36 = .ok (.iload_n 1, 1) := by decide +kernel
theorem dMo_correct_37 : decode mMo_correct.2.1 37 = .ok (.laload, 1) := by decide +kernel
theorem dMo_correct_38 : decode mMo_correct.2.1 38 = .ok (.lsub, 1) := by decide +kernel
theorem dMo_correct_39 : decode mMo_correct.2.1 39 = .ok (.lstore 4, 2) := by decide +kernel
theorem dMo_correct_41 : decode mMo_correct.2.1 41 = .ok (.lload 4, 2) := by decide +kernel
theorem dMo_correct_43 : decode mMo_correct.2.1 43 = .ok (.lconst 0, 1) := by decide +kernel
theorem dMo_correct_44 : decode mMo_correct.2.1 44 = .ok (.lcmp, 1) := by decide +kernel
theorem dMo_correct_45 : decode mMo_correct.2.1 45 = .ok (.ifCond .ge 5, 3) := by decide +kernel
theorem dMo_correct_48 : decode mMo_correct.2.1 48 = .ok (.iconst 0, 1) := by decide +kernel
theorem dMo_correct_49 : decode mMo_correct.2.1 49 = .ok (.ireturn, 1) := by decide +kernel
theorem dMo_correct_50 : decode mMo_correct.2.1 50 = .ok (.aload_n 0, 1) := by decide +kernel
theorem dMo_correct_51 : decode mMo_correct.2.1 51 = .ok (.getfield 39, 3) := by decide +kernel
theorem dMo_correct_54 : decode mMo_correct.2.1 54 = .ok (.iload_n 1, 1) := by decide +kernel
theorem dMo_correct_55 : decode mMo_correct.2.1 55 = .ok (.lload_n 2, 1) := by decide +kernel
theorem dMo_correct_56 : decode mMo_correct.2.1 56 = .ok (.lastore, 1) := by decide +kernel
theorem dMo_correct_57 : decode mMo_correct.2.1 57 = .ok (.aload_n 0, 1) := by decide +kernel
theorem dMo_correct_58 : decode mMo_correct.2.1 58 = .ok (.getfield 13, 3) := by decide +kernel
theorem dMo_correct_61 : decode mMo_correct.2.1 61 = .ok (.iload_n 1, 1) := by decide +kernel
theorem dMo_correct_62 : decode mMo_correct.2.1 62 = .ok (.lload 4, 2) := by decide +kernel
theorem dMo_correct_64 : decode mMo_correct.2.1 64 = .ok (.lconst 0, 1) := by decide +kernel
theorem dMo_correct_65 : decode mMo_correct.2.1 65 = .ok (.lcmp, 1) := by decide +kernel
theorem dMo_correct_66 : decode mMo_correct.2.1 66 = .ok (.ifCond .ne 7, 3) := by decide +kernel
theorem dMo_correct_69 : decode mMo_correct.2.1 69 = .ok (.iconst 0, 1) := by decide +kernel
theorem dMo_correct_70 : decode mMo_correct.2.1 70 = .ok (.goto 4, 3) := by decide +kernel
theorem dMo_correct_73 : decode mMo_correct.2.1 73 = .ok (.iconst 1, 1) := by decide +kernel
theorem dMo_correct_74 : decode mMo_correct.2.1 74 = .ok (.iastore, 1) := by decide +kernel
theorem dMo_correct_75 : decode mMo_correct.2.1 75 = .ok (.aload_n 0, 1) := by decide +kernel
theorem dMo_correct_76 : decode mMo_correct.2.1 76 = .ok (.getfield 16, 3) := by decide +kernel
theorem dMo_correct_79 : decode mMo_correct.2.1 79 = .ok (.bipush 81, 2) := by decide +kernel
theorem dMo_correct_81 : decode mMo_correct.2.1 81 = .ok (.iload_n 1, 1) := by decide +kernel
theorem dMo_correct_82 : decode mMo_correct.2.1 82 = .ok (.imul, 1) := by decide +kernel
theorem dMo_correct_83 : decode mMo_correct.2.1 83 = .ok (.iload_n 1, 1) := by decide +kernel
theorem dMo_correct_84 : decode mMo_correct.2.1 84 = .ok (.iastore, 1) := by decide +kernel
theorem dMo_correct_85 : decode mMo_correct.2.1 85 = .ok (.aload_n 0, 1) := by decide +kernel
theorem dMo_correct_86 : decode mMo_correct.2.1 86 = .ok (.getfield 19, 3) := by decide +kernel
theorem dMo_correct_89 : decode mMo_correct.2.1 89 = .ok (.bipush 81, 2) := by decide +kernel
theorem dMo_correct_91 : decode mMo_correct.2.1 91 = .ok (.iload_n 1, 1) := by decide +kernel
theorem dMo_correct_92 : decode mMo_correct.2.1 92 = .ok (.imul, 1) := by decide +kernel
theorem dMo_correct_93 : decode mMo_correct.2.1 93 = .ok (.lload 4, 2) := by decide +kernel
theorem dMo_correct_95 : decode mMo_correct.2.1 95 = .ok (.lastore, 1) := by decide +kernel
theorem dMo_correct_96 : decode mMo_correct.2.1 96 = .ok (.iconst 1, 1) := by decide +kernel
theorem dMo_correct_97 : decode mMo_correct.2.1 97 = .ok (.ireturn, 1) := by decide +kernel
theorem dMo_told_0 : decode mMo_told.2.1 0 = .ok (.aload_n 0, 1) := by decide +kernel
theorem dMo_told_1 : decode mMo_told.2.1 1 = .ok (.iload_n 1, 1) := by decide +kernel
theorem dMo_told_2 : decode mMo_told.2.1 2 = .ok (.invokevirtual 94, 3) := by decide +kernel
theorem dMo_told_5 : decode mMo_told.2.1 5 = .ok (.ifCond .ne 7, 3) := by decide +kernel
theorem dMo_told_8 : decode mMo_told.2.1 8 = .ok (.ldc2_w 138, 3) := by decide +kernel
theorem dMo_told_11 : decode mMo_told.2.1 11 = .ok (.lreturn, 1) := by decide +kernel
theorem dMo_told_12 : decode mMo_told.2.1 12 = .ok (.iload_n 2, 1) := by decide +kernel
theorem dMo_told_13 : decode mMo_told.2.1 13 = .ok (.tableswitch 126 0 8 #[51, 59, 65, 73, 80, 95, 103, 111, 118], 51) := by decide +kernel
theorem dMo_told_64 : decode mMo_told.2.1 64 = .ok (.aload_n 0, 1) := by decide +kernel
theorem dMo_told_65 : decode mMo_told.2.1 65 = .ok (.getfield 7, 3) := by decide +kernel
theorem dMo_told_68 : decode mMo_told.2.1 68 = .ok (.iload_n 1, 1) := by decide +kernel
theorem dMo_told_69 : decode mMo_told.2.1 69 = .ok (.iaload, 1) := by decide +kernel
theorem dMo_told_70 : decode mMo_told.2.1 70 = .ok (.i2l, 1) := by decide +kernel
theorem dMo_told_71 : decode mMo_told.2.1 71 = .ok (.lreturn, 1) := by decide +kernel
theorem dMo_told_72 : decode mMo_told.2.1 72 = .ok (.aload_n 0, 1) := by decide +kernel
theorem dMo_told_73 : decode mMo_told.2.1 73 = .ok (.iload_n 1, 1) := by decide +kernel
theorem dMo_told_74 : decode mMo_told.2.1 74 = .ok (.invokevirtual 112, 3) := by decide +kernel
theorem dMo_told_77 : decode mMo_told.2.1 77 = .ok (.lreturn, 1) := by decide +kernel
theorem dMo_told_78 : decode mMo_told.2.1 78 = .ok (.aload_n 0, 1) := by decide +kernel
theorem dMo_told_79 : decode mMo_told.2.1 79 = .ok (.getfield 13, 3) := by decide +kernel
theorem dMo_told_82 : decode mMo_told.2.1 82 = .ok (.iload_n 1, 1) := by decide +kernel
theorem dMo_told_83 : decode mMo_told.2.1 83 = .ok (.iaload, 1) := by decide +kernel
theorem dMo_told_84 : decode mMo_told.2.1 84 = .ok (.i2l, 1) := by decide +kernel
theorem dMo_told_85 : decode mMo_told.2.1 85 = .ok (.lreturn, 1) := by decide +kernel
theorem dMo_told_86 : decode mMo_told.2.1 86 = .ok (.aload_n 0, 1) := by decide +kernel
theorem dMo_told_87 : decode mMo_told.2.1 87 = .ok (.getfield 23, 3) := by decide +kernel
theorem dMo_told_90 : decode mMo_told.2.1 90 = .ok (.iload_n 1, 1) := by decide +kernel
theorem dMo_told_91 : decode mMo_told.2.1 91 = .ok (.laload, 1) := by decide +kernel
theorem dMo_told_92 : decode mMo_told.2.1 92 = .ok (.lreturn, 1) := by decide +kernel
theorem dMo_told_93 : decode mMo_told.2.1 93 = .ok (.aload_n 0, 1) := by decide +kernel
theorem dMo_told_94 : decode mMo_told.2.1 94 = .ok (.getfield 26, 3) := by decide +kernel
theorem dMo_told_97 : decode mMo_told.2.1 97 = .ok (.iload_n 1, 1) := by decide +kernel
theorem dMo_told_98 : decode mMo_told.2.1 98 = .ok (.baload, 1) := by decide +kernel
theorem dMo_told_99 : decode mMo_told.2.1 99 = .ok (.ifCond .eq 7, 3) := by decide +kernel
theorem dMo_told_102 : decode mMo_told.2.1 102 = .ok (.lconst 1, 1) := by decide +kernel
theorem dMo_told_103 : decode mMo_told.2.1 103 = .ok (.goto 4, 3) := by decide +kernel
theorem dMo_told_106 : decode mMo_told.2.1 106 = .ok (.lconst 0, 1) := by decide +kernel
theorem dMo_told_107 : decode mMo_told.2.1 107 = .ok (.lreturn, 1) := by decide +kernel
theorem dMo_told_108 : decode mMo_told.2.1 108 = .ok (.aload_n 0, 1) := by decide +kernel
theorem dMo_told_109 : decode mMo_told.2.1 109 = .ok (.getfield 30, 3) := by decide +kernel
theorem dMo_told_112 : decode mMo_told.2.1 112 = .ok (.iload_n 1, 1) := by decide +kernel
theorem dMo_told_113 : decode mMo_told.2.1 113 = .ok (.iaload, 1) := by decide +kernel
theorem dMo_told_114 : decode mMo_told.2.1 114 = .ok (.i2l, 1) := by decide +kernel
theorem dMo_told_115 : decode mMo_told.2.1 115 = .ok (.lreturn, 1) := by decide +kernel
theorem dMo_told_116 : decode mMo_told.2.1 116 = .ok (.aload_n 0, 1) := by decide +kernel
theorem dMo_told_117 : decode mMo_told.2.1 117 = .ok (.getfield 33, 3) := by decide +kernel
theorem dMo_told_120 : decode mMo_told.2.1 120 = .ok (.iload_n 1, 1) := by decide +kernel
theorem dMo_told_121 : decode mMo_told.2.1 121 = .ok (.iaload, 1) := by decide +kernel
theorem dMo_told_122 : decode mMo_told.2.1 122 = .ok (.i2l, 1) := by decide +kernel
theorem dMo_told_123 : decode mMo_told.2.1 123 = .ok (.lreturn, 1) := by decide +kernel
theorem dMo_told_124 : decode mMo_told.2.1 124 = .ok (.aload_n 0, 1) := by decide +kernel
theorem dMo_told_125 : decode mMo_told.2.1 125 = .ok (.getfield 39, 3) := by decide +kernel
theorem dMo_told_128 : decode mMo_told.2.1 128 = .ok (.iload_n 1, 1) := by decide +kernel
theorem dMo_told_129 : decode mMo_told.2.1 129 = .ok (.laload, 1) := by decide +kernel
theorem dMo_told_130 : decode mMo_told.2.1 130 = .ok (.lreturn, 1) := by decide +kernel
theorem dMo_told_131 : decode mMo_told.2.1 131 = .ok (.aload_n 0, 1) := by decide +kernel
theorem dMo_told_132 : decode mMo_told.2.1 132 = .ok (.getfield 36, 3) := by decide +kernel
theorem dMo_told_135 : decode mMo_told.2.1 135 = .ok (.iload_n 1, 1) := by decide +kernel
theorem dMo_told_136 : decode mMo_told.2.1 136 = .ok (.iaload, 1) := by decide +kernel
theorem dMo_told_137 : decode mMo_told.2.1 137 = .ok (.i2l, 1) := by decide +kernel
theorem dMo_told_138 : decode mMo_told.2.1 138 = .ok (.lreturn, 1) := by decide +kernel
theorem dMo_told_139 : decode mMo_told.2.1 139 = .ok (.ldc2_w 138, 3) := by decide +kernel
theorem dMo_told_142 : decode mMo_told.2.1 142 = .ok (.lreturn, 1) := by decide +kernel
theorem dMo_layer_0 : decode mMo_layer.2.1 0 = .ok (.aload_n 0, 1) := by decide +kernel
theorem dMo_layer_1 : decode mMo_layer.2.1 1 = .ok (.iload_n 1, 1) := by decide +kernel
theorem dMo_layer_2 : decode mMo_layer.2.1 2 = .ok (.invokevirtual 94, 3) := by decide +kernel
theorem dMo_layer_5 : decode mMo_layer.2.1 5 = .ok (.ifCond .eq 17, 3) := by decide +kernel
theorem dMo_layer_8 : decode mMo_layer.2.1 8 = .ok (.iload_n 2, 1) := by decide +kernel
theorem dMo_layer_9 : decode mMo_layer.2.1 9 = .ok (.ifCond .lt 13, 3) := by decide +kernel
theorem dMo_layer_12 : decode mMo_layer.2.1 12 = .ok (.iload_n 2, 1) := by decide +kernel
theorem dMo_layer_13 : decode mMo_layer.2.1 13 = .ok (.aload_n 0, 1) := by decide +kernel
theorem dMo_layer_14 : decode mMo_layer.2.1 14 = .ok (.getfield 13, 3) := by decide +kernel
theorem dMo_layer_17 : decode mMo_layer.2.1 17 = .ok (.iload_n 1, 1) := by decide +kernel
theorem dMo_layer_18 : decode mMo_layer.2.1 18 = .ok (.iaload, 1) := by decide +kernel
theorem dMo_layer_19 : decode mMo_layer.2.1 19 = .ok (.if_icmp .lt 7, 3) := by decide +kernel
theorem dMo_layer_22 : decode mMo_layer.2.1 22 = .ok (.ldc2_w 138, 3) := by decide +kernel
theorem dMo_layer_25 : decode mMo_layer.2.1 25 = .ok (.lreturn, 1) := by decide +kernel
theorem dMo_layer_26 : decode mMo_layer.2.1 26 = .ok (.iload_n 3, 1) := by decide +kernel
theorem dMo_layer_27 : decode mMo_layer.2.1 27 = .ok (.ifCond .ne 18, 3) := by decide +kernel
theorem dMo_layer_30 : decode mMo_layer.2.1 30 = .ok (.aload_n 0, 1) := by decide +kernel
theorem dMo_layer_31 : decode mMo_layer.2.1 31 = .ok (.getfield 16, 3) := by decide +kernel
theorem dMo_layer_34 : decode mMo_layer.2.1 34 = .ok (.bipush 81, 2) := by decide +kernel
theorem dMo_layer_36 : decode mMo_layer.2.1 36 = .ok (.iload_n 1, 1) := by decide +kernel
theorem dMo_layer_37 : decode mMo_layer.2.1 37 = .ok (.imul, 1) := by decide +kernel
theorem dMo_layer_38 : decode mMo_layer.2.1 38 = .ok (.iload_n 2, 1) := by decide +kernel
theorem dMo_layer_39 : decode mMo_layer.2.1 39 = .ok (.iadd, 1) := by decide +kernel
theorem dMo_layer_40 : decode mMo_layer.2.1 40 = .ok (.iaload, 1) := by decide +kernel
theorem dMo_layer_41 : decode mMo_layer.2.1 41 = .ok (.i2l, 1) := by decide +kernel
theorem dMo_layer_42 : decode mMo_layer.2.1 42 = .ok (.goto 25, 3) := by decide +kernel
theorem dMo_layer_45 : decode mMo_layer.2.1 45 = .ok (.iload_n 3, 1) := by decide +kernel
theorem dMo_layer_46 : decode mMo_layer.2.1 46 = .ok (.iconst 1, 1) := by decide +kernel
theorem dMo_layer_47 : decode mMo_layer.2.1 47 = .ok (.if_icmp .ne 17, 3) := by decide +kernel
theorem dMo_layer_50 : decode mMo_layer.2.1 50 = .ok (.aload_n 0, 1) := by decide +kernel
theorem dMo_layer_51 : decode mMo_layer.2.1 51 = .ok (.getfield 19, 3) := by decide +kernel
theorem dMo_layer_54 : decode mMo_layer.2.1 54 = .ok (.bipush 81, 2) := by decide +kernel
theorem dMo_layer_56 : decode mMo_layer.2.1 56 = .ok (.iload_n 1, 1) := by decide +kernel
theorem dMo_layer_57 : decode mMo_layer.2.1 57 = .ok (.imul, 1) := by decide +kernel
theorem dMo_layer_58 : decode mMo_layer.2.1 58 = .ok (.iload_n 2, 1) := by decide +kernel
theorem dMo_layer_59 : decode mMo_layer.2.1 59 = .ok (.iadd, 1) := by decide +kernel
theorem dMo_layer_60 : decode mMo_layer.2.1 60 = .ok (.laload, 1) := by decide +kernel
theorem dMo_layer_61 : decode mMo_layer.2.1 61 = .ok (.goto 6, 3) := by decide +kernel
theorem dMo_layer_64 : decode mMo_layer.2.1 64 = .ok (.ldc2_w 138, 3) := by decide +kernel
theorem dMo_layer_67 : decode mMo_layer.2.1 67 = .ok (.lreturn, 1) := by decide +kernel
theorem dMo_share_0 : decode mMo_share.2.1 0 = .ok (.aload_n 0, 1) := by decide +kernel
theorem dMo_share_1 : decode mMo_share.2.1 1 = .ok (.iload_n 1, 1) := by decide +kernel
theorem dMo_share_2 : decode mMo_share.2.1 2 = .ok (.invokevirtual 94, 3) := by decide +kernel
theorem dMo_share_5 : decode mMo_share.2.1 5 = .ok (.ifCond .eq 30, 3) := by decide +kernel
theorem dMo_share_8 : decode mMo_share.2.1 8 = .ok (.aload_n 0, 1) := by decide +kernel
theorem dMo_share_9 : decode mMo_share.2.1 9 = .ok (.iload_n 2, 1) := by decide +kernel
theorem dMo_share_10 : decode mMo_share.2.1 10 = .ok (.iconst 1, 1) := by decide +kernel
theorem dMo_share_11 : decode mMo_share.2.1 11 = .ok (.invokevirtual 116, 3) := by decide +kernel
theorem dMo_share_14 : decode mMo_share.2.1 14 = .ok (.ifCond .eq 21, 3) := by decide +kernel
theorem dMo_share_17 : decode mMo_share.2.1 17 = .ok (.aload_n 0, 1) := by decide +kernel
theorem dMo_share_18 : decode mMo_share.2.1 18 = .ok (.getfield 13, 3) := by decide +kernel
theorem dMo_share_21 : decode mMo_share.2.1 21 = .ok (.iload_n 1, 1) := by decide +kernel
theorem dMo_share_22 : decode mMo_share.2.1 22 = .ok (.iaload, 1) := by decide +kernel
theorem dMo_share_23 : decode mMo_share.2.1 23 = .ok (.ifCond .eq 12, 3) := by decide +kernel
theorem dMo_share_26 : decode mMo_share.2.1 26 = .ok (.iload_n 3, 1) := by decide +kernel
theorem dMo_share_27 : decode mMo_share.2.1 27 = .ok (.ifCond .eq 12, 3) := by decide +kernel
theorem dMo_share_30 : decode mMo_share.2.1 30 = .ok (.iload_n 3, 1) := by decide +kernel
theorem dMo_share_31 : decode mMo_share.2.1 31 = .ok (.iconst 1, 1) := by decide +kernel
theorem dMo_share_32 : decode mMo_share.2.1 32 = .ok (.if_icmp .eq 7, 3) := by decide +kernel
theorem dMo_share_35 : decode mMo_share.2.1 35 = .ok (.ldc2_w 138, 3) := by decide +kernel
theorem dMo_share_38 : decode mMo_share.2.1 38 = .ok (.lreturn, 1) := by decide +kernel
theorem dMo_share_39 : decode mMo_share.2.1 39 = .ok (.aload_n 0, 1) := by decide +kernel
theorem dMo_share_40 : decode mMo_share.2.1 40 = .ok (.iload_n 1, 1) := by decide +kernel
theorem dMo_share_41 : decode mMo_share.2.1 41 = .ok (.iload_n 2, 1) := by decide +kernel
theorem dMo_share_42 : decode mMo_share.2.1 42 = .ok (.invokevirtual 140, 3) := by decide +kernel
theorem dMo_share_45 : decode mMo_share.2.1 45 = .ok (.lstore 4, 2) := by decide +kernel
theorem dMo_share_47 : decode mMo_share.2.1 47 = .ok (.aload_n 0, 1) := by decide +kernel
theorem dMo_share_48 : decode mMo_share.2.1 48 = .ok (.iload_n 1, 1) := by decide +kernel
theorem dMo_share_49 : decode mMo_share.2.1 49 = .ok (.invokevirtual 112, 3) := by decide +kernel
theorem dMo_share_52 : decode mMo_share.2.1 52 = .ok (.lstore 6, 2) := by decide +kernel
theorem dMo_share_54 : decode mMo_share.2.1 54 = .ok (.lload 6, 2) := by decide +kernel
theorem dMo_share_56 : decode mMo_share.2.1 56 = .ok (.lstore 8, 2) := by decide +kernel
theorem dMo_share_58 : decode mMo_share.2.1 58 = .ok (.lload 4, 2) := by decide +kernel
theorem dMo_share_60 : decode mMo_share.2.1 60 = .ok (.lstore 10, 2) := by decide +kernel
theorem dMo_share_62 : decode mMo_share.2.1 62 = .ok (.lload 10, 2) := by decide +kernel
theorem dMo_share_64 : decode mMo_share.2.1 64 = .ok (.lconst 0, 1) := by decide +kernel
theorem dMo_share_65 : decode mMo_share.2.1 65 = .ok (.lcmp, 1) := by decide +kernel
theorem dMo_share_66 : decode mMo_share.2.1 66 = .ok (.ifCond .le 21, 3) := by decide +kernel
theorem dMo_share_69 : decode mMo_share.2.1 69 = .ok (.lload 8, 2) := by decide +kernel
theorem dMo_share_71 : decode mMo_share.2.1 71 = .ok (.lload 10, 2) := by decide +kernel
theorem dMo_share_73 : decode mMo_share.2.1 73 = .ok (.lrem, 1) := by decide +kernel
theorem dMo_share_74 : decode mMo_share.2.1 74 = .ok (.lstore 12, 2) := by decide +kernel
theorem dMo_share_76 : decode mMo_share.2.1 76 = .ok (.lload 10, 2) := by decide +kernel
theorem dMo_share_78 : decode mMo_share.2.1 78 = .ok (.lstore 8, 2) := by decide +kernel
theorem dMo_share_80 : decode mMo_share.2.1 80 = .ok (.lload 12, 2) := by decide +kernel
theorem dMo_share_82 : decode mMo_share.2.1 82 = .ok (.lstore 10, 2) := by decide +kernel
theorem dMo_share_84 : decode mMo_share.2.1 84 = .ok (.goto (-22), 3) := by decide +kernel
theorem dMo_share_87 : decode mMo_share.2.1 87 = .ok (.iload_n 3, 1) := by decide +kernel
theorem dMo_share_88 : decode mMo_share.2.1 88 = .ok (.ifCond .ne 11, 3) := by decide +kernel
theorem dMo_share_91 : decode mMo_share.2.1 91 = .ok (.lload 4, 2) := by decide +kernel
theorem dMo_share_93 : decode mMo_share.2.1 93 = .ok (.lload 8, 2) := by decide +kernel
theorem dMo_share_95 : decode mMo_share.2.1 95 = .ok (.ldiv, 1) := by decide +kernel
theorem dMo_share_96 : decode mMo_share.2.1 96 = .ok (.goto 8, 3) := by decide +kernel
theorem dMo_share_99 : decode mMo_share.2.1 99 = .ok (.lload 6, 2) := by decide +kernel
theorem dMo_share_101 : decode mMo_share.2.1 101 = .ok (.lload 8, 2) := by decide +kernel
theorem dMo_share_103 : decode mMo_share.2.1 103 = .ok (.ldiv, 1) := by decide +kernel
theorem dMo_share_104 : decode mMo_share.2.1 104 = .ok (.lreturn, 1) := by decide +kernel
theorem dMo_gramsFrom_0 : decode mMo_gramsFrom.2.1 0 = .ok (.lconst 0, 1) := by decide +kernel
theorem dMo_gramsFrom_1 : decode mMo_gramsFrom.2.1 1 = .ok (.lstore_n 3, 1) := by decide +kernel
theorem dMo_gramsFrom_2 : decode mMo_gramsFrom.2.1 2 = .ok (.iconst 0, 1) := by decide +kernel
theorem dMo_gramsFrom_3 : decode mMo_gramsFrom.2.1 3 = .ok (.istore 5, 2) := by decide +kernel
theorem dMo_gramsFrom_5 : decode mMo_gramsFrom.2.1 5 = .ok (.iload 5, 2) := by decide +kernel
theorem dMo_gramsFrom_7 : decode mMo_gramsFrom.2.1 7 = .ok (.aload_n 0, 1) := by decide +kernel
theorem dMo_gramsFrom_8 : decode mMo_gramsFrom.2.1 8 = .ok (.getfield 13, 3) := by decide +kernel
theorem dMo_gramsFrom_11 : decode mMo_gramsFrom.2.1 11 = .ok (.iload_n 1, 1) := by decide +kernel
theorem dMo_gramsFrom_12 : decode mMo_gramsFrom.2.1 12 = .ok (.iaload, 1) := by decide +kernel
theorem dMo_gramsFrom_13 : decode mMo_gramsFrom.2.1 13 = .ok (.if_icmp .ge 44, 3) := by decide +kernel
theorem dMo_gramsFrom_16 : decode mMo_gramsFrom.2.1 16 = .ok (.lload_n 3, 1) := by decide +kernel
theorem dMo_gramsFrom_17 : decode mMo_gramsFrom.2.1 17 = .ok (.aload_n 0, 1) := by decide +kernel
theorem dMo_gramsFrom_18 : decode mMo_gramsFrom.2.1 18 = .ok (.getfield 16, 3) := by decide +kernel
theorem dMo_gramsFrom_21 : decode mMo_gramsFrom.2.1 21 = .ok (.bipush 81, 2) := by decide +kernel
theorem dMo_gramsFrom_23 : decode mMo_gramsFrom.2.1 23 = .ok (.iload_n 1, 1) := by decide +kernel
theorem dMo_gramsFrom_24 : decode mMo_gramsFrom.2.1 24 = .ok (.imul, 1) := by decide +kernel
theorem dMo_gramsFrom_25 : decode mMo_gramsFrom.2.1 25 = .ok (.iload 5, 2) := by decide +kernel
theorem dMo_gramsFrom_27 : decode mMo_gramsFrom.2.1 27 = .ok (.iadd, 1) := by decide +kernel
theorem dMo_gramsFrom_28 : decode mMo_gramsFrom.2.1 28 = .ok (.iaload, 1) := by decide +kernel
theorem dMo_gramsFrom_29 : decode mMo_gramsFrom.2.1 29 = .ok (.iload_n 2, 1) := by decide +kernel
theorem dMo_gramsFrom_30 : decode mMo_gramsFrom.2.1 30 = .ok (.if_icmp .ne 18, 3) := by decide +kernel
theorem dMo_gramsFrom_33 : decode mMo_gramsFrom.2.1 33 = .ok (.aload_n 0, 1) := by decide +kernel
theorem dMo_gramsFrom_34 : decode mMo_gramsFrom.2.1 34 = .ok (.getfield 19, 3) := by decide +kernel
theorem dMo_gramsFrom_37 : decode mMo_gramsFrom.2.1 37 = .ok (.bipush 81, 2) := by decide +kernel
theorem dMo_gramsFrom_39 : decode mMo_gramsFrom.2.1 39 = .ok (.iload_n 1, 1) := by decide +kernel
theorem dMo_gramsFrom_40 : decode mMo_gramsFrom.2.1 40 = .ok (.imul, 1) := by decide +kernel
theorem dMo_gramsFrom_41 : decode mMo_gramsFrom.2.1 41 = .ok (.iload 5, 2) := by decide +kernel
theorem dMo_gramsFrom_43 : decode mMo_gramsFrom.2.1 43 = .ok (.iadd, 1) := by decide +kernel
theorem dMo_gramsFrom_44 : decode mMo_gramsFrom.2.1 44 = .ok (.laload, 1) := by decide +kernel
theorem dMo_gramsFrom_45 : decode mMo_gramsFrom.2.1 45 = .ok (.goto 4, 3) := by decide +kernel
theorem dMo_gramsFrom_48 : decode mMo_gramsFrom.2.1 48 = .ok (.lconst 0, 1) := by decide +kernel
theorem dMo_gramsFrom_49 : decode mMo_gramsFrom.2.1 49 = .ok (.ladd, 1) := by decide +kernel
theorem dMo_gramsFrom_50 : decode mMo_gramsFrom.2.1 50 = .ok (.lstore_n 3, 1) := by decide +kernel
theorem dMo_gramsFrom_51 : decode mMo_gramsFrom.2.1 51 = .ok (.iinc 5 1, 3) := by decide +kernel
theorem dMo_gramsFrom_54 : decode mMo_gramsFrom.2.1 54 = .ok (.goto (-49), 3) := by decide +kernel
theorem dMo_gramsFrom_57 : decode mMo_gramsFrom.2.1 57 = .ok (.lload_n 3, 1) := by decide +kernel
theorem dMo_gramsFrom_58 : decode mMo_gramsFrom.2.1 58 = .ok (.lreturn, 1) := by decide +kernel
theorem dMo_back_0 : decode mMo_back.2.1 0 = .ok (.aload_n 0, 1) := by decide +kernel
theorem dMo_back_1 : decode mMo_back.2.1 1 = .ok (.iload_n 1, 1) := by decide +kernel
theorem dMo_back_2 : decode mMo_back.2.1 2 = .ok (.invokevirtual 94, 3) := by decide +kernel
theorem dMo_back_5 : decode mMo_back.2.1 5 = .ok (.ifCond .eq 7, 3) := by decide +kernel
theorem dMo_back_8 : decode mMo_back.2.1 8 = .ok (.iload_n 2, 1) := by decide +kernel
theorem dMo_back_9 : decode mMo_back.2.1 9 = .ok (.ifCond .ge 5, 3) := by decide +kernel
theorem dMo_back_12 : decode mMo_back.2.1 12 = .ok (.iconst (-1), 1) := by decide +kernel
theorem dMo_back_13 : decode mMo_back.2.1 13 = .ok (.ireturn, 1) := by decide +kernel
theorem dMo_back_14 : decode mMo_back.2.1 14 = .ok (.iload_n 2, 1) := by decide +kernel
theorem dMo_back_15 : decode mMo_back.2.1 15 = .ok (.istore_n 3, 1) := by decide +kernel
theorem dMo_back_16 : decode mMo_back.2.1 16 = .ok (.iconst 0, 1) := by decide +kernel
theorem dMo_back_17 : decode mMo_back.2.1 17 = .ok (.istore 4, 2) := by decide +kernel
theorem dMo_back_19 : decode mMo_back.2.1 19 = .ok (.iload 4, 2) := by decide +kernel
theorem dMo_back_21 : decode mMo_back.2.1 21 = .ok (.aload_n 0, 1) := by decide +kernel
theorem dMo_back_22 : decode mMo_back.2.1 22 = .ok (.getfield 90, 3) := by decide +kernel
theorem dMo_back_25 : decode mMo_back.2.1 25 = .ok (.if_icmp .ge 31, 3) := by decide +kernel
theorem dMo_back_28 : decode mMo_back.2.1 28 = .ok (.aload_n 0, 1) := by decide +kernel
theorem dMo_back_29 : decode mMo_back.2.1 29 = .ok (.iload_n 1, 1) := by decide +kernel
theorem dMo_back_30 : decode mMo_back.2.1 30 = .ok (.iload 4, 2) := by decide +kernel
theorem dMo_back_32 : decode mMo_back.2.1 32 = .ok (.invokevirtual 140, 3) := by decide +kernel
theorem dMo_back_35 : decode mMo_back.2.1 35 = .ok (.lconst 0, 1) := by decide +kernel
theorem dMo_back_36 : decode mMo_back.2.1 36 = .ok (.lcmp, 1) := by decide +kernel
theorem dMo_back_37 : decode mMo_back.2.1 37 = .ok (.ifCond .le 13, 3) := by decide +kernel
theorem dMo_back_40 : decode mMo_back.2.1 40 = .ok (.iload_n 3, 1) := by decide +kernel
theorem dMo_back_41 : decode mMo_back.2.1 41 = .ok (.ifCond .ne 6, 3) := by decide +kernel
theorem dMo_back_44 : decode mMo_back.2.1 44 = .ok (.iload 4, 2) := by decide +kernel
theorem dMo_back_46 : decode mMo_back.2.1 46 = .ok (.ireturn, 1) := by decide +kernel
theorem dMo_back_47 : decode mMo_back.2.1 47 = .ok (.iinc 3 (-1), 3) := by decide +kernel
theorem dMo_back_50 : decode mMo_back.2.1 50 = .ok (.iinc 4 1, 3) := by decide +kernel
theorem dMo_back_53 : decode mMo_back.2.1 53 = .ok (.goto (-34), 3) := by decide +kernel
theorem dMo_back_56 : decode mMo_back.2.1 56 = .ok (.iconst (-1), 1) := by decide +kernel
theorem dMo_back_57 : decode mMo_back.2.1 57 = .ok (.ireturn, 1) := by decide +kernel
theorem dMo_recall_0 : decode mMo_recall.2.1 0 = .ok (.aload_n 0, 1) := by decide +kernel
theorem dMo_recall_1 : decode mMo_recall.2.1 1 = .ok (.iload_n 1, 1) := by decide +kernel
theorem dMo_recall_2 : decode mMo_recall.2.1 2 = .ok (.iconst 1, 1) := by decide +kernel
theorem dMo_recall_3 : decode mMo_recall.2.1 3 = .ok (.invokevirtual 116, 3) := by decide +kernel
theorem dMo_recall_6 : decode mMo_recall.2.1 6 = .ok (.ifCond .ne 5, 3) := by decide +kernel
theorem dMo_recall_9 : decode mMo_recall.2.1 9 = .ok (.iconst (-1), 1) := by decide +kernel
theorem dMo_recall_10 : decode mMo_recall.2.1 10 = .ok (.ireturn, 1) := by decide +kernel
theorem dMo_recall_11 : decode mMo_recall.2.1 11 = .ok (.iconst 0, 1) := by decide +kernel
theorem dMo_recall_12 : decode mMo_recall.2.1 12 = .ok (.istore_n 2, 1) := by decide +kernel
theorem dMo_recall_13 : decode mMo_recall.2.1 13 = .ok (.iconst 0, 1) := by decide +kernel
theorem dMo_recall_14 : decode mMo_recall.2.1 14 = .ok (.istore_n 3, 1) := by decide +kernel
theorem dMo_recall_15 : decode mMo_recall.2.1 15 = .ok (.iload_n 3, 1) := by decide +kernel
theorem dMo_recall_16 : decode mMo_recall.2.1 16 = .ok (.bipush 100, 2) := by decide +kernel
theorem dMo_recall_18 : decode mMo_recall.2.1 18 = .ok (.if_icmp .ge 26, 3) := by decide +kernel
theorem dMo_recall_21 : decode mMo_recall.2.1 21 = .ok (.iload_n 2, 1) := by decide +kernel
theorem dMo_recall_22 : decode mMo_recall.2.1 22 = .ok (.aload_n 0, 1) := by decide +kernel
theorem dMo_recall_23 : decode mMo_recall.2.1 23 = .ok (.iload_n 3, 1) := by decide +kernel
theorem dMo_recall_24 : decode mMo_recall.2.1 24 = .ok (.iload_n 1, 1) := by decide +kernel
theorem dMo_recall_25 : decode mMo_recall.2.1 25 = .ok (.invokevirtual 144, 3) := by decide +kernel
theorem dMo_recall_28 : decode mMo_recall.2.1 28 = .ok (.ifCond .le 7, 3) := by decide +kernel
theorem dMo_recall_31 : decode mMo_recall.2.1 31 = .ok (.iconst 1, 1) := by decide +kernel
theorem dMo_recall_32 : decode mMo_recall.2.1 32 = .ok (.goto 4, 3) := by decide +kernel
theorem dMo_recall_35 : decode mMo_recall.2.1 35 = .ok (.iconst 0, 1) := by decide +kernel
theorem dMo_recall_36 : decode mMo_recall.2.1 36 = .ok (.iadd, 1) := by decide +kernel
theorem dMo_recall_37 : decode mMo_recall.2.1 37 = .ok (.istore_n 2, 1) := by decide +kernel
theorem dMo_recall_38 : decode mMo_recall.2.1 38 = .ok (.iinc 3 1, 3) := by decide +kernel
theorem dMo_recall_41 : decode mMo_recall.2.1 41 = .ok (.goto (-26), 3) := by decide +kernel
theorem dMo_recall_44 : decode mMo_recall.2.1 44 = .ok (.iload_n 2, 1) := by decide +kernel
theorem dMo_recall_45 : decode mMo_recall.2.1 45 = .ok (.ireturn, 1) := by decide +kernel
theorem dMo_boxesOf_0 : decode mMo_boxesOf.2.1 0 = .ok (.iconst 0, 1) := by decide +kernel
theorem dMo_boxesOf_1 : decode mMo_boxesOf.2.1 1 = .ok (.istore_n 3, 1) := by decide +kernel
theorem dMo_boxesOf_2 : decode mMo_boxesOf.2.1 2 = .ok (.iconst 0, 1) := by decide +kernel
theorem dMo_boxesOf_3 : decode mMo_boxesOf.2.1 3 = .ok (.istore 4, 2) := by decide +kernel
theorem dMo_boxesOf_5 : decode mMo_boxesOf.2.1 5 = .ok (.iload 4, 2) := by decide +kernel
theorem dMo_boxesOf_7 : decode mMo_boxesOf.2.1 7 = .ok (.aload_n 0, 1) := by decide +kernel
theorem dMo_boxesOf_8 : decode mMo_boxesOf.2.1 8 = .ok (.getfield 90, 3) := by decide +kernel
theorem dMo_boxesOf_11 : decode mMo_boxesOf.2.1 11 = .ok (.if_icmp .ge 51, 3) := by decide +kernel
theorem dMo_boxesOf_14 : decode mMo_boxesOf.2.1 14 = .ok (.iload_n 3, 1) := by decide +kernel
theorem dMo_boxesOf_15 : decode mMo_boxesOf.2.1 15 = .ok (.aload_n 0, 1) := by decide +kernel
theorem dMo_boxesOf_16 : decode mMo_boxesOf.2.1 16 = .ok (.getfield 7, 3) := by decide +kernel
theorem dMo_boxesOf_19 : decode mMo_boxesOf.2.1 19 = .ok (.iload 4, 2) := by decide +kernel
theorem dMo_boxesOf_21 : decode mMo_boxesOf.2.1 21 = .ok (.iaload, 1) := by decide +kernel
theorem dMo_boxesOf_22 : decode mMo_boxesOf.2.1 22 = .ok (.iconst 3, 1) := by decide +kernel
theorem dMo_boxesOf_23 : decode mMo_boxesOf.2.1 23 = .ok (.if_icmp .ne 30, 3) := by decide +kernel
theorem dMo_boxesOf_26 : decode mMo_boxesOf.2.1 26 = .ok (.aload_n 0, 1) := by decide +kernel
theorem dMo_boxesOf_27 : decode mMo_boxesOf.2.1 27 = .ok (.getfield 33, 3) := by decide +kernel
theorem dMo_boxesOf_30 : decode mMo_boxesOf.2.1 30 = .ok (.iload 4, 2) := by decide +kernel
theorem dMo_boxesOf_32 : decode mMo_boxesOf.2.1 32 = .ok (.iaload, 1) := by decide +kernel
theorem dMo_boxesOf_33 : decode mMo_boxesOf.2.1 33 = .ok (.iload_n 1, 1) := by decide +kernel
theorem dMo_boxesOf_34 : decode mMo_boxesOf.2.1 34 = .ok (.if_icmp .ne 19, 3) := by decide +kernel
theorem dMo_boxesOf_37 : decode mMo_boxesOf.2.1 37 = .ok (.aload_n 0, 1) := by decide +kernel
theorem dMo_boxesOf_38 : decode mMo_boxesOf.2.1 38 = .ok (.iload 4, 2) := by decide +kernel
theorem dMo_boxesOf_40 : decode mMo_boxesOf.2.1 40 = .ok (.iload_n 2, 1) := by decide +kernel
theorem dMo_boxesOf_41 : decode mMo_boxesOf.2.1 41 = .ok (.invokevirtual 140, 3) := by decide +kernel
theorem dMo_boxesOf_44 : decode mMo_boxesOf.2.1 44 = .ok (.lconst 0, 1) := by decide +kernel
theorem dMo_boxesOf_45 : decode mMo_boxesOf.2.1 45 = .ok (.lcmp, 1) := by decide +kernel
theorem dMo_boxesOf_46 : decode mMo_boxesOf.2.1 46 = .ok (.ifCond .le 7, 3) := by decide +kernel
theorem dMo_boxesOf_49 : decode mMo_boxesOf.2.1 49 = .ok (.iconst 1, 1) := by decide +kernel
theorem dMo_boxesOf_50 : decode mMo_boxesOf.2.1 50 = .ok (.goto 4, 3) := by decide +kernel
theorem dMo_boxesOf_53 : decode mMo_boxesOf.2.1 53 = .ok (.iconst 0, 1) := by decide +kernel
theorem dMo_boxesOf_54 : decode mMo_boxesOf.2.1 54 = .ok (.iadd, 1) := by decide +kernel
theorem dMo_boxesOf_55 : decode mMo_boxesOf.2.1 55 = .ok (.istore_n 3, 1) := by decide +kernel
theorem dMo_boxesOf_56 : decode mMo_boxesOf.2.1 56 = .ok (.iinc 4 1, 3) := by decide +kernel
theorem dMo_boxesOf_59 : decode mMo_boxesOf.2.1 59 = .ok (.goto (-54), 3) := by decide +kernel
theorem dMo_boxesOf_62 : decode mMo_boxesOf.2.1 62 = .ok (.iload_n 3, 1) := by decide +kernel
theorem dMo_boxesOf_63 : decode mMo_boxesOf.2.1 63 = .ok (.ireturn, 1) := by decide +kernel
theorem dMo_recalled_0 : decode mMo_recalled.2.1 0 = .ok (.aload_n 0, 1) := by decide +kernel
theorem dMo_recalled_1 : decode mMo_recalled.2.1 1 = .ok (.iload_n 1, 1) := by decide +kernel
theorem dMo_recalled_2 : decode mMo_recalled.2.1 2 = .ok (.iconst 1, 1) := by decide +kernel
theorem dMo_recalled_3 : decode mMo_recalled.2.1 3 = .ok (.invokevirtual 116, 3) := by decide +kernel
theorem dMo_recalled_6 : decode mMo_recalled.2.1 6 = .ok (.ifCond .eq 7, 3) := by decide +kernel
theorem dMo_recalled_9 : decode mMo_recalled.2.1 9 = .ok (.iload_n 2, 1) := by decide +kernel
theorem dMo_recalled_10 : decode mMo_recalled.2.1 10 = .ok (.ifCond .ge 5, 3) := by decide +kernel
theorem dMo_recalled_13 : decode mMo_recalled.2.1 13 = .ok (.iconst (-1), 1) := by decide +kernel
theorem dMo_recalled_14 : decode mMo_recalled.2.1 14 = .ok (.ireturn, 1) := by decide +kernel
theorem dMo_recalled_15 : decode mMo_recalled.2.1 15 = .ok (.iload_n 2, 1) := by decide +kernel
theorem dMo_recalled_16 : decode mMo_recalled.2.1 16 = .ok (.istore_n 3, 1) := by decide +kernel
theorem dMo_recalled_17 : decode mMo_recalled.2.1 17 = .ok (.iconst 0, 1) := by decide +kernel
theorem dMo_recalled_18 : decode mMo_recalled.2.1 18 = .ok (.istore 4, 2) := by decide +kernel
theorem dMo_recalled_20 : decode mMo_recalled.2.1 20 = .ok (.iload 4, 2) := by decide +kernel
theorem dMo_recalled_22 : decode mMo_recalled.2.1 22 = .ok (.bipush 100, 2) := by decide +kernel
theorem dMo_recalled_24 : decode mMo_recalled.2.1 24 = .ok (.if_icmp .ge 29, 3) := by decide +kernel
theorem dMo_recalled_27 : decode mMo_recalled.2.1 27 = .ok (.aload_n 0, 1) := by decide +kernel
theorem dMo_recalled_28 : decode mMo_recalled.2.1 28 = .ok (.iload 4, 2) := by decide +kernel
theorem dMo_recalled_30 : decode mMo_recalled.2.1 30 = .ok (.iload_n 1, 1) := by decide +kernel
theorem dMo_recalled_31 : decode mMo_recalled.2.1 31 = .ok (.invokevirtual 144, 3) := by decide +kernel
theorem dMo_recalled_34 : decode mMo_recalled.2.1 34 = .ok (.ifCond .le 13, 3) := by decide +kernel
theorem dMo_recalled_37 : decode mMo_recalled.2.1 37 = .ok (.iload_n 3, 1) := by decide +kernel
theorem dMo_recalled_38 : decode mMo_recalled.2.1 38 = .ok (.ifCond .ne 6, 3) := by decide +kernel
theorem dMo_recalled_41 : decode mMo_recalled.2.1 41 = .ok (.iload 4, 2) := by decide +kernel
theorem dMo_recalled_43 : decode mMo_recalled.2.1 43 = .ok (.ireturn, 1) := by decide +kernel
theorem dMo_recalled_44 : decode mMo_recalled.2.1 44 = .ok (.iinc 3 (-1), 3) := by decide +kernel
theorem dMo_recalled_47 : decode mMo_recalled.2.1 47 = .ok (.iinc 4 1, 3) := by decide +kernel
theorem dMo_recalled_50 : decode mMo_recalled.2.1 50 = .ok (.goto (-30), 3) := by decide +kernel
theorem dMo_recalled_53 : decode mMo_recalled.2.1 53 = .ok (.iconst (-1), 1) := by decide +kernel
theorem dMo_recalled_54 : decode mMo_recalled.2.1 54 = .ok (.ireturn, 1) := by decide +kernel
theorem dMo_doubled_0 : decode mMo_doubled.2.1 0 = .ok (.iload_n 1, 1) := by decide +kernel
theorem dMo_doubled_1 : decode mMo_doubled.2.1 1 = .ok (.istore_n 2, 1) := by decide +kernel
theorem dMo_doubled_2 : decode mMo_doubled.2.1 2 = .ok (.iconst 0, 1) := by decide +kernel
theorem dMo_doubled_3 : decode mMo_doubled.2.1 3 = .ok (.istore_n 3, 1) := by decide +kernel
theorem dMo_doubled_4 : decode mMo_doubled.2.1 4 = .ok (.iload_n 3, 1) := by decide +kernel
theorem dMo_doubled_5 : decode mMo_doubled.2.1 5 = .ok (.aload_n 0, 1) := by decide +kernel
theorem dMo_doubled_6 : decode mMo_doubled.2.1 6 = .ok (.getfield 90, 3) := by decide +kernel
theorem dMo_doubled_9 : decode mMo_doubled.2.1 9 = .ok (.if_icmp .ge 79, 3) := by decide +kernel
theorem dMo_doubled_12 : decode mMo_doubled.2.1 12 = .ok (.iload_n 1, 1) := by decide +kernel
theorem dMo_doubled_13 : decode mMo_doubled.2.1 13 = .ok (.ifCond .lt 75, 3) := by decide +kernel
theorem dMo_doubled_16 : decode mMo_doubled.2.1 16 = .ok (.iconst 0, 1) := by decide +kernel
theorem dMo_doubled_17 : decode mMo_doubled.2.1 17 = .ok (.istore 4, 2) := by decide +kernel
theorem dMo_doubled_19 : decode mMo_doubled.2.1 19 = .ok (.iconst 0, 1) := by decide +kernel
theorem dMo_doubled_20 : decode mMo_doubled.2.1 20 = .ok (.istore 5, 2) := by decide +kernel
theorem dMo_doubled_22 : decode mMo_doubled.2.1 22 = .ok (.iload 5, 2) := by decide +kernel
theorem dMo_doubled_24 : decode mMo_doubled.2.1 24 = .ok (.bipush 100, 2) := by decide +kernel
theorem dMo_doubled_26 : decode mMo_doubled.2.1 26 = .ok (.if_icmp .ge 42, 3) := by decide +kernel
theorem dMo_doubled_29 : decode mMo_doubled.2.1 29 = .ok (.aload_n 0, 1) := by decide +kernel
theorem dMo_doubled_30 : decode mMo_doubled.2.1 30 = .ok (.getfield 7, 3) := by decide +kernel
theorem dMo_doubled_33 : decode mMo_doubled.2.1 33 = .ok (.iload_n 3, 1) := by decide +kernel
theorem dMo_doubled_34 : decode mMo_doubled.2.1 34 = .ok (.iaload, 1) := by decide +kernel
theorem dMo_doubled_35 : decode mMo_doubled.2.1 35 = .ok (.iconst 1, 1) := by decide +kernel
theorem dMo_doubled_36 : decode mMo_doubled.2.1 36 = .ok (.if_icmp .ne 32, 3) := by decide +kernel
theorem dMo_doubled_39 : decode mMo_doubled.2.1 39 = .ok (.iload 4, 2) := by decide +kernel
theorem dMo_doubled_41 : decode mMo_doubled.2.1 41 = .ok (.ifCond .ne 27, 3) := by decide +kernel
theorem dMo_doubled_44 : decode mMo_doubled.2.1 44 = .ok (.aload_n 0, 1) := by decide +kernel
theorem dMo_doubled_45 : decode mMo_doubled.2.1 45 = .ok (.iload 5, 2) := by decide +kernel
theorem dMo_doubled_47 : decode mMo_doubled.2.1 47 = .ok (.iload_n 3, 1) := by decide +kernel
theorem dMo_doubled_48 : decode mMo_doubled.2.1 48 = .ok (.invokevirtual 144, 3) := by decide +kernel
theorem dMo_doubled_51 : decode mMo_doubled.2.1 51 = .ok (.iconst 1, 1) := by decide +kernel
theorem dMo_doubled_52 : decode mMo_doubled.2.1 52 = .ok (.if_icmp .le 7, 3) := by decide +kernel
theorem dMo_doubled_55 : decode mMo_doubled.2.1 55 = .ok (.iconst 1, 1) := by decide +kernel
theorem dMo_doubled_56 : decode mMo_doubled.2.1 56 = .ok (.goto 4, 3) := by decide +kernel
theorem dMo_doubled_59 : decode mMo_doubled.2.1 59 = .ok (.iconst 0, 1) := by decide +kernel
theorem dMo_doubled_60 : decode mMo_doubled.2.1 60 = .ok (.istore 4, 2) := by decide +kernel
theorem dMo_doubled_62 : decode mMo_doubled.2.1 62 = .ok (.iinc 5 1, 3) := by decide +kernel
theorem dMo_doubled_65 : decode mMo_doubled.2.1 65 = .ok (.goto (-43), 3) := by decide +kernel
theorem dMo_doubled_68 : decode mMo_doubled.2.1 68 = .ok (.iload 4, 2) := by decide +kernel
theorem dMo_doubled_70 : decode mMo_doubled.2.1 70 = .ok (.ifCond .eq 12, 3) := by decide +kernel
theorem dMo_doubled_73 : decode mMo_doubled.2.1 73 = .ok (.iload_n 2, 1) := by decide +kernel
theorem dMo_doubled_74 : decode mMo_doubled.2.1 74 = .ok (.ifCond .ne 5, 3) := by decide +kernel
theorem dMo_doubled_77 : decode mMo_doubled.2.1 77 = .ok (.iload_n 3, 1) := by decide +kernel
theorem dMo_doubled_78 : decode mMo_doubled.2.1 78 = .ok (.ireturn, 1) := by decide +kernel
theorem dMo_doubled_79 : decode mMo_doubled.2.1 79 = .ok (.iinc 2 (-1), 3) := by decide +kernel
theorem dMo_doubled_82 : decode mMo_doubled.2.1 82 = .ok (.iinc 3 1, 3) := by decide +kernel
theorem dMo_doubled_85 : decode mMo_doubled.2.1 85 = .ok (.goto (-81), 3) := by decide +kernel
theorem dMo_doubled_88 : decode mMo_doubled.2.1 88 = .ok (.iconst (-1), 1) := by decide +kernel
theorem dMo_doubled_89 : decode mMo_doubled.2.1 89 = .ok (.ireturn, 1) := by decide +kernel
theorem dMo_unit_0 : decode mMo_unit.2.1 0 = .ok (.aload_n 0, 1) := by decide +kernel
theorem dMo_unit_1 : decode mMo_unit.2.1 1 = .ok (.getfield 148, 3) := by decide +kernel
theorem dMo_unit_4 : decode mMo_unit.2.1 4 = .ok (.sipush 400, 3) := by decide +kernel
theorem dMo_unit_7 : decode mMo_unit.2.1 7 = .ok (.if_icmp .ne 5, 3) := by decide +kernel
theorem dMo_unit_10 : decode mMo_unit.2.1 10 = .ok (.iconst 0, 1) := by decide +kernel
theorem dMo_unit_11 : decode mMo_unit.2.1 11 = .ok (.ireturn, 1) := by decide +kernel
theorem dMo_unit_12 : decode mMo_unit.2.1 12 = .ok (.aload_n 0, 1) := by decide +kernel
theorem dMo_unit_13 : decode mMo_unit.2.1 13 = .ok (.getfield 48, 3) := by decide +kernel
theorem dMo_unit_16 : decode mMo_unit.2.1 16 = .ok (.aload_n 0, 1) := by decide +kernel
theorem dMo_unit_17 : decode mMo_unit.2.1 17 = .ok (.getfield 148, 3) := by decide +kernel
theorem dMo_unit_20 : decode mMo_unit.2.1 20 = .ok (.iload_n 1, 1) := by decide +kernel
theorem dMo_unit_21 : decode mMo_unit.2.1 21 = .ok (.sipush 255, 3) := by decide +kernel
theorem dMo_unit_24 : decode mMo_unit.2.1 24 = .ok (.iand, 1) := by decide +kernel
theorem dMo_unit_25 : decode mMo_unit.2.1 25 = .ok (.iastore, 1) := by decide +kernel
theorem dMo_unit_26 : decode mMo_unit.2.1 26 = .ok (.aload_n 0, 1) := by decide +kernel
theorem dMo_unit_27 : decode mMo_unit.2.1 27 = .ok (.dup, 1) := by decide +kernel
theorem dMo_unit_28 : decode mMo_unit.2.1 28 = .ok (.getfield 148, 3) := by decide +kernel
theorem dMo_unit_31 : decode mMo_unit.2.1 31 = .ok (.iconst 1, 1) := by decide +kernel
theorem dMo_unit_32 : decode mMo_unit.2.1 32 = .ok (.iadd, 1) := by decide +kernel
theorem dMo_unit_33 : decode mMo_unit.2.1 33 = .ok (.putfield 148, 3) := by decide +kernel
theorem dMo_unit_36 : decode mMo_unit.2.1 36 = .ok (.iconst 1, 1) := by decide +kernel
theorem dMo_unit_37 : decode mMo_unit.2.1 37 = .ok (.ireturn, 1) := by decide +kernel
theorem dMo_names_0 : decode mMo_names.2.1 0 = .ok (.aload_n 0, 1) := by decide +kernel
theorem dMo_names_1 : decode mMo_names.2.1 1 = .ok (.iconst 0, 1) := by decide +kernel
theorem dMo_names_2 : decode mMo_names.2.1 2 = .ok (.putfield 151, 3) := by decide +kernel
theorem dMo_names_5 : decode mMo_names.2.1 5 = .ok (.aload_n 0, 1) := by decide +kernel
theorem dMo_names_6 : decode mMo_names.2.1 6 = .ok (.iconst (-1), 1) := by decide +kernel
theorem dMo_names_7 : decode mMo_names.2.1 7 = .ok (.putfield 154, 3) := by decide +kernel
theorem dMo_names_10 : decode mMo_names.2.1 10 = .ok (.aload_n 0, 1) := by decide +kernel
theorem dMo_names_11 : decode mMo_names.2.1 11 = .ok (.iconst 0, 1) := by decide +kernel
theorem dMo_names_12 : decode mMo_names.2.1 12 = .ok (.putfield 164, 3) := by decide +kernel
theorem dMo_names_15 : decode mMo_names.2.1 15 = .ok (.aload_n 0, 1) := by decide +kernel
theorem dMo_names_16 : decode mMo_names.2.1 16 = .ok (.getfield 154, 3) := by decide +kernel
theorem dMo_names_19 : decode mMo_names.2.1 19 = .ok (.iconst (-1), 1) := by decide +kernel
theorem dMo_names_20 : decode mMo_names.2.1 20 = .ok (.if_icmp .ne 159, 3) := by decide +kernel
theorem dMo_names_23 : decode mMo_names.2.1 23 = .ok (.aload_n 0, 1) := by decide +kernel
theorem dMo_names_24 : decode mMo_names.2.1 24 = .ok (.invokevirtual 157, 3) := by decide +kernel
theorem dMo_names_27 : decode mMo_names.2.1 27 = .ok (.ifCond .eq 152, 3) := by decide +kernel
theorem dMo_names_30 : decode mMo_names.2.1 30 = .ok (.aload_n 0, 1) := by decide +kernel
theorem dMo_names_31 : decode mMo_names.2.1 31 = .ok (.aload_n 0, 1) := by decide +kernel
theorem dMo_names_32 : decode mMo_names.2.1 32 = .ok (.getfield 164, 3) := by decide +kernel
theorem dMo_names_35 : decode mMo_names.2.1 35 = .ok (.bipush 40, 2) := by decide +kernel
theorem dMo_names_37 : decode mMo_names.2.1 37 = .ok (.if_icmp .ne 8, 3) := by decide +kernel
theorem dMo_names_40 : decode mMo_names.2.1 40 = .ok (.ldc 167, 2) := by decide +kernel
theorem dMo_names_42 : decode mMo_names.2.1 42 = .ok (.goto 4, 3) := by decide +kernel
theorem dMo_names_45 : decode mMo_names.2.1 45 = .ok (.iconst 0, 1) := by decide +kernel
theorem dMo_names_46 : decode mMo_names.2.1 46 = .ok (.aload_n 0, 1) := by decide +kernel
theorem dMo_names_47 : decode mMo_names.2.1 47 = .ok (.getfield 164, 3) := by decide +kernel
theorem dMo_names_50 : decode mMo_names.2.1 50 = .ok (.bipush 40, 2) := by decide +kernel
theorem dMo_names_52 : decode mMo_names.2.1 52 = .ok (.if_icmp .ne 8, 3) := by decide +kernel
theorem dMo_names_55 : decode mMo_names.2.1 55 = .ok (.ldc 167, 2) := by decide +kernel
theorem dMo_names_57 : decode mMo_names.2.1 57 = .ok (.goto 5, 3) := by decide +kernel
theorem dMo_names_60 : decode mMo_names.2.1 60 = .ok (.bipush 99, 2) := by decide +kernel
theorem dMo_names_62 : decode mMo_names.2.1 62 = .ok (.invokevirtual 168, 3) := by decide +kernel
theorem dMo_names_65 : decode mMo_names.2.1 65 = .ok (.istore_n 1, 1) := by decide +kernel
theorem dMo_names_66 : decode mMo_names.2.1 66 = .ok (.aload_n 0, 1) := by decide +kernel
theorem dMo_names_67 : decode mMo_names.2.1 67 = .ok (.bipush 58, 2) := by decide +kernel
theorem dMo_names_69 : decode mMo_names.2.1 69 = .ok (.invokevirtual 171, 3) := by decide +kernel
theorem dMo_names_72 : decode mMo_names.2.1 72 = .ok (.aload_n 0, 1) := by decide +kernel
theorem dMo_names_73 : decode mMo_names.2.1 73 = .ok (.iconst 0, 1) := by decide +kernel
theorem dMo_names_74 : decode mMo_names.2.1 74 = .ok (.sipush 999, 3) := by decide +kernel
theorem dMo_names_77 : decode mMo_names.2.1 77 = .ok (.invokevirtual 168, 3) := by decide +kernel
theorem dMo_names_80 : decode mMo_names.2.1 80 = .ok (.istore_n 2, 1) := by decide +kernel
theorem dMo_names_81 : decode mMo_names.2.1 81 = .ok (.aload_n 0, 1) := by decide +kernel
theorem dMo_names_82 : decode mMo_names.2.1 82 = .ok (.bipush 45, 2) := by decide +kernel
theorem dMo_names_84 : decode mMo_names.2.1 84 = .ok (.invokevirtual 171, 3) := by decide +kernel
theorem dMo_names_87 : decode mMo_names.2.1 87 = .ok (.aload_n 0, 1) := by decide +kernel
theorem dMo_names_88 : decode mMo_names.2.1 88 = .ok (.iload_n 2, 1) := by decide +kernel
theorem dMo_names_89 : decode mMo_names.2.1 89 = .ok (.sipush 999, 3) := by decide +kernel
theorem dMo_names_92 : decode mMo_names.2.1 92 = .ok (.invokevirtual 168, 3) := by decide +kernel
theorem dMo_names_95 : decode mMo_names.2.1 95 = .ok (.istore_n 3, 1) := by decide +kernel
theorem dMo_names_96 : decode mMo_names.2.1 96 = .ok (.aload_n 0, 1) := by decide +kernel
theorem dMo_names_97 : decode mMo_names.2.1 97 = .ok (.bipush 44, 2) := by decide +kernel
theorem dMo_names_99 : decode mMo_names.2.1 99 = .ok (.invokevirtual 171, 3) := by decide +kernel
theorem dMo_names_102 : decode mMo_names.2.1 102 = .ok (.aload_n 0, 1) := by decide +kernel
theorem dMo_names_103 : decode mMo_names.2.1 103 = .ok (.iconst 0, 1) := by decide +kernel
theorem dMo_names_104 : decode mMo_names.2.1 104 = .ok (.ldc 174, 2) := by decide +kernel
theorem dMo_names_106 : decode mMo_names.2.1 106 = .ok (.invokevirtual 168, 3) := by decide +kernel
theorem dMo_names_109 : decode mMo_names.2.1 109 = .ok (.istore 4, 2) := by decide +kernel
theorem dMo_names_111 : decode mMo_names.2.1 111 = .ok (.aload_n 0, 1) := by decide +kernel
theorem dMo_names_112 : decode mMo_names.2.1 112 = .ok (.bipush 59, 2) := by decide +kernel
theorem dMo_names_114 : decode mMo_names.2.1 114 = .ok (.invokevirtual 171, 3) := by decide +kernel
theorem dMo_names_117 : decode mMo_names.2.1 117 = .ok (.aload_n 0, 1) := by decide +kernel
theorem dMo_names_118 : decode mMo_names.2.1 118 = .ok (.getfield 154, 3) := by decide +kernel
theorem dMo_names_121 : decode mMo_names.2.1 121 = .ok (.iconst (-1), 1) := by decide +kernel
theorem dMo_names_122 : decode mMo_names.2.1 122 = .ok (.if_icmp .ne 54, 3) := by decide +kernel
theorem dMo_names_125 : decode mMo_names.2.1 125 = .ok (.aload_n 0, 1) := by decide +kernel
theorem dMo_names_126 : decode mMo_names.2.1 126 = .ok (.getfield 63, 3) := by decide +kernel
theorem dMo_names_129 : decode mMo_names.2.1 129 = .ok (.aload_n 0, 1) := by decide +kernel
theorem dMo_names_130 : decode mMo_names.2.1 130 = .ok (.getfield 164, 3) := by decide +kernel
theorem dMo_names_133 : decode mMo_names.2.1 133 = .ok (.iload_n 1, 1) := by decide +kernel
theorem dMo_names_134 : decode mMo_names.2.1 134 = .ok (.iastore, 1) := by decide +kernel
theorem dMo_names_135 : decode mMo_names.2.1 135 = .ok (.aload_n 0, 1) := by decide +kernel
theorem dMo_names_136 : decode mMo_names.2.1 136 = .ok (.getfield 66, 3) := by decide +kernel
theorem dMo_names_139 : decode mMo_names.2.1 139 = .ok (.aload_n 0, 1) := by decide +kernel
theorem dMo_names_140 : decode mMo_names.2.1 140 = .ok (.getfield 164, 3) := by decide +kernel
theorem dMo_names_143 : decode mMo_names.2.1 143 = .ok (.iload_n 2, 1) := by decide +kernel
theorem dMo_names_144 : decode mMo_names.2.1 144 = .ok (.iastore, 1) := by decide +kernel
theorem dMo_names_145 : decode mMo_names.2.1 145 = .ok (.aload_n 0, 1) := by decide +kernel
theorem dMo_names_146 : decode mMo_names.2.1 146 = .ok (.getfield 69, 3) := by decide +kernel
theorem dMo_names_149 : decode mMo_names.2.1 149 = .ok (.aload_n 0, 1) := by decide +kernel
theorem dMo_names_150 : decode mMo_names.2.1 150 = .ok (.getfield 164, 3) := by decide +kernel
theorem dMo_names_153 : decode mMo_names.2.1 153 = .ok (.iload_n 3, 1) := by decide +kernel
theorem dMo_names_154 : decode mMo_names.2.1 154 = .ok (.iastore, 1) := by decide +kernel
theorem dMo_names_155 : decode mMo_names.2.1 155 = .ok (.aload_n 0, 1) := by decide +kernel
theorem dMo_names_156 : decode mMo_names.2.1 156 = .ok (.getfield 72, 3) := by decide +kernel
theorem dMo_names_159 : decode mMo_names.2.1 159 = .ok (.aload_n 0, 1) := by decide +kernel
theorem dMo_names_160 : decode mMo_names.2.1 160 = .ok (.getfield 164, 3) := by decide +kernel
theorem dMo_names_163 : decode mMo_names.2.1 163 = .ok (.iload 4, 2) := by decide +kernel
theorem dMo_names_165 : decode mMo_names.2.1 165 = .ok (.iastore, 1) := by decide +kernel
theorem dMo_names_166 : decode mMo_names.2.1 166 = .ok (.aload_n 0, 1) := by decide +kernel
theorem dMo_names_167 : decode mMo_names.2.1 167 = .ok (.dup, 1) := by decide +kernel
theorem dMo_names_168 : decode mMo_names.2.1 168 = .ok (.getfield 164, 3) := by decide +kernel
theorem dMo_names_171 : decode mMo_names.2.1 171 = .ok (.iconst 1, 1) := by decide +kernel
theorem dMo_names_172 : decode mMo_names.2.1 172 = .ok (.iadd, 1) := by decide +kernel
theorem dMo_names_173 : decode mMo_names.2.1 173 = .ok (.putfield 164, 3) := by decide +kernel
theorem dMo_names_176 : decode mMo_names.2.1 176 = .ok (.goto (-161), 3) := by decide +kernel
theorem dMo_names_179 : decode mMo_names.2.1 179 = .ok (.aload_n 0, 1) := by decide +kernel
theorem dMo_names_180 : decode mMo_names.2.1 180 = .ok (.iconst 0, 1) := by decide +kernel
theorem dMo_names_181 : decode mMo_names.2.1 181 = .ok (.putfield 148, 3) := by decide +kernel
theorem dMo_names_184 : decode mMo_names.2.1 184 = .ok (.aload_n 0, 1) := by decide +kernel
theorem dMo_names_185 : decode mMo_names.2.1 185 = .ok (.getfield 154, 3) := by decide +kernel
theorem dMo_names_188 : decode mMo_names.2.1 188 = .ok (.iconst (-1), 1) := by decide +kernel
theorem dMo_names_189 : decode mMo_names.2.1 189 = .ok (.if_icmp .eq 10, 3) := by decide +kernel
theorem dMo_names_192 : decode mMo_names.2.1 192 = .ok (.iconst (-1), 1) := by decide +kernel
theorem dMo_names_193 : decode mMo_names.2.1 193 = .ok (.aload_n 0, 1) := by decide +kernel
theorem dMo_names_194 : decode mMo_names.2.1 194 = .ok (.getfield 154, 3) := by decide +kernel
theorem dMo_names_197 : decode mMo_names.2.1 197 = .ok (.isub, 1) := by decide +kernel
theorem dMo_names_198 : decode mMo_names.2.1 198 = .ok (.ireturn, 1) := by decide +kernel
theorem dMo_names_199 : decode mMo_names.2.1 199 = .ok (.aload_n 0, 1) := by decide +kernel
theorem dMo_names_200 : decode mMo_names.2.1 200 = .ok (.aload_n 0, 1) := by decide +kernel
theorem dMo_names_201 : decode mMo_names.2.1 201 = .ok (.getfield 164, 3) := by decide +kernel
theorem dMo_names_204 : decode mMo_names.2.1 204 = .ok (.putfield 175, 3) := by decide +kernel
theorem dMo_names_207 : decode mMo_names.2.1 207 = .ok (.iconst 0, 1) := by decide +kernel
theorem dMo_names_208 : decode mMo_names.2.1 208 = .ok (.istore_n 1, 1) := by decide +kernel
theorem dMo_names_209 : decode mMo_names.2.1 209 = .ok (.iload_n 1, 1) := by decide +kernel
theorem dMo_names_210 : decode mMo_names.2.1 210 = .ok (.aload_n 0, 1) := by decide +kernel
theorem dMo_names_211 : decode mMo_names.2.1 211 = .ok (.getfield 164, 3) := by decide +kernel
theorem dMo_names_214 : decode mMo_names.2.1 214 = .ok (.if_icmp .ge 57, 3) := by decide +kernel
theorem dMo_names_217 : decode mMo_names.2.1 217 = .ok (.aload_n 0, 1) := by decide +kernel
theorem dMo_names_218 : decode mMo_names.2.1 218 = .ok (.getfield 51, 3) := by decide +kernel
theorem dMo_names_221 : decode mMo_names.2.1 221 = .ok (.iload_n 1, 1) := by decide +kernel
theorem dMo_names_222 : decode mMo_names.2.1 222 = .ok (.aload_n 0, 1) := by decide +kernel
theorem dMo_names_223 : decode mMo_names.2.1 223 = .ok (.getfield 63, 3) := by decide +kernel
theorem dMo_names_226 : decode mMo_names.2.1 226 = .ok (.iload_n 1, 1) := by decide +kernel
theorem dMo_names_227 : decode mMo_names.2.1 227 = .ok (.iaload, 1) := by decide +kernel
theorem dMo_names_228 : decode mMo_names.2.1 228 = .ok (.iastore, 1) := by decide +kernel
theorem dMo_names_229 : decode mMo_names.2.1 229 = .ok (.aload_n 0, 1) := by decide +kernel
theorem dMo_names_230 : decode mMo_names.2.1 230 = .ok (.getfield 54, 3) := by decide +kernel
theorem dMo_names_233 : decode mMo_names.2.1 233 = .ok (.iload_n 1, 1) := by decide +kernel
theorem dMo_names_234 : decode mMo_names.2.1 234 = .ok (.aload_n 0, 1) := by decide +kernel
theorem dMo_names_235 : decode mMo_names.2.1 235 = .ok (.getfield 66, 3) := by decide +kernel
theorem dMo_names_238 : decode mMo_names.2.1 238 = .ok (.iload_n 1, 1) := by decide +kernel
theorem dMo_names_239 : decode mMo_names.2.1 239 = .ok (.iaload, 1) := by decide +kernel
theorem dMo_names_240 : decode mMo_names.2.1 240 = .ok (.iastore, 1) := by decide +kernel
theorem dMo_names_241 : decode mMo_names.2.1 241 = .ok (.aload_n 0, 1) := by decide +kernel
theorem dMo_names_242 : decode mMo_names.2.1 242 = .ok (.getfield 57, 3) := by decide +kernel
theorem dMo_names_245 : decode mMo_names.2.1 245 = .ok (.iload_n 1, 1) := by decide +kernel
theorem dMo_names_246 : decode mMo_names.2.1 246 = .ok (.aload_n 0, 1) := by decide +kernel
theorem dMo_names_247 : decode mMo_names.2.1 247 = .ok (.getfield 69, 3) := by decide +kernel
theorem dMo_names_250 : decode mMo_names.2.1 250 = .ok (.iload_n 1, 1) := by decide +kernel
theorem dMo_names_251 : decode mMo_names.2.1 251 = .ok (.iaload, 1) := by decide +kernel
theorem dMo_names_252 : decode mMo_names.2.1 252 = .ok (.iastore, 1) := by decide +kernel
theorem dMo_names_253 : decode mMo_names.2.1 253 = .ok (.aload_n 0, 1) := by decide +kernel
theorem dMo_names_254 : decode mMo_names.2.1 254 = .ok (.getfield 60, 3) := by decide +kernel
theorem dMo_names_257 : decode mMo_names.2.1 257 = .ok (.iload_n 1, 1) := by decide +kernel
theorem dMo_names_258 : decode mMo_names.2.1 258 = .ok (.aload_n 0, 1) := by decide +kernel
theorem dMo_names_259 : decode mMo_names.2.1 259 = .ok (.getfield 72, 3) := by decide +kernel
theorem dMo_names_262 : decode mMo_names.2.1 262 = .ok (.iload_n 1, 1) := by decide +kernel
theorem dMo_names_263 : decode mMo_names.2.1 263 = .ok (.iaload, 1) := by decide +kernel
theorem dMo_names_264 : decode mMo_names.2.1 264 = .ok (.iastore, 1) := by decide +kernel
theorem dMo_names_265 : decode mMo_names.2.1 265 = .ok (.iinc 1 1, 3) := by decide +kernel
theorem dMo_names_268 : decode mMo_names.2.1 268 = .ok (.goto (-59), 3) := by decide +kernel
theorem dMo_names_271 : decode mMo_names.2.1 271 = .ok (.aload_n 0, 1) := by decide +kernel
theorem dMo_names_272 : decode mMo_names.2.1 272 = .ok (.getfield 175, 3) := by decide +kernel
theorem dMo_names_275 : decode mMo_names.2.1 275 = .ok (.ireturn, 1) := by decide +kernel
theorem dMo_skip_0 : decode mMo_skip.2.1 0 = .ok (.aload_n 0, 1) := by decide +kernel
theorem dMo_skip_1 : decode mMo_skip.2.1 1 = .ok (.getfield 151, 3) := by decide +kernel
theorem dMo_skip_4 : decode mMo_skip.2.1 4 = .ok (.aload_n 0, 1) := by decide +kernel
theorem dMo_skip_5 : decode mMo_skip.2.1 5 = .ok (.getfield 148, 3) := by decide +kernel
theorem dMo_skip_8 : decode mMo_skip.2.1 8 = .ok (.if_icmp .ge 72, 3) := by decide +kernel
theorem dMo_skip_11 : decode mMo_skip.2.1 11 = .ok (.aload_n 0, 1) := by decide +kernel
theorem dMo_skip_12 : decode mMo_skip.2.1 12 = .ok (.getfield 48, 3) := by decide +kernel
theorem dMo_skip_15 : decode mMo_skip.2.1 15 = .ok (.aload_n 0, 1) := by decide +kernel
theorem dMo_skip_16 : decode mMo_skip.2.1 16 = .ok (.getfield 151, 3) := by decide +kernel
theorem dMo_skip_19 : decode mMo_skip.2.1 19 = .ok (.iaload, 1) := by decide +kernel
theorem dMo_skip_20 : decode mMo_skip.2.1 20 = .ok (.bipush 9, 2) := by decide +kernel
theorem dMo_skip_22 : decode mMo_skip.2.1 22 = .ok (.if_icmp .eq 45, 3) := by decide +kernel
theorem dMo_skip_25 : decode mMo_skip.2.1 25 = .ok (.aload_n 0, 1) := by decide +kernel
theorem dMo_skip_26 : decode mMo_skip.2.1 26 = .ok (.getfield 48, 3) := by decide +kernel
theorem dMo_skip_29 : decode mMo_skip.2.1 29 = .ok (.aload_n 0, 1) := by decide +kernel
theorem dMo_skip_30 : decode mMo_skip.2.1 30 = .ok (.getfield 151, 3) := by decide +kernel
theorem dMo_skip_33 : decode mMo_skip.2.1 33 = .ok (.iaload, 1) := by decide +kernel
theorem dMo_skip_34 : decode mMo_skip.2.1 34 = .ok (.bipush 10, 2) := by decide +kernel
theorem dMo_skip_36 : decode mMo_skip.2.1 36 = .ok (.if_icmp .eq 31, 3) := by decide +kernel
theorem dMo_skip_39 : decode mMo_skip.2.1 39 = .ok (.aload_n 0, 1) := by decide +kernel
theorem dMo_skip_40 : decode mMo_skip.2.1 40 = .ok (.getfield 48, 3) := by decide +kernel
theorem dMo_skip_43 : decode mMo_skip.2.1 43 = .ok (.aload_n 0, 1) := by decide +kernel
theorem dMo_skip_44 : decode mMo_skip.2.1 44 = .ok (.getfield 151, 3) := by decide +kernel
theorem dMo_skip_47 : decode mMo_skip.2.1 47 = .ok (.iaload, 1) := by decide +kernel
theorem dMo_skip_48 : decode mMo_skip.2.1 48 = .ok (.bipush 13, 2) := by decide +kernel
theorem dMo_skip_50 : decode mMo_skip.2.1 50 = .ok (.if_icmp .eq 17, 3) := by decide +kernel
theorem dMo_skip_53 : decode mMo_skip.2.1 53 = .ok (.aload_n 0, 1) := by decide +kernel
theorem dMo_skip_54 : decode mMo_skip.2.1 54 = .ok (.getfield 48, 3) := by decide +kernel
theorem dMo_skip_57 : decode mMo_skip.2.1 57 = .ok (.aload_n 0, 1) := by decide +kernel
theorem dMo_skip_58 : decode mMo_skip.2.1 58 = .ok (.getfield 151, 3) := by decide +kernel
theorem dMo_skip_61 : decode mMo_skip.2.1 61 = .ok (.iaload, 1) := by decide +kernel
theorem dMo_skip_62 : decode mMo_skip.2.1 62 = .ok (.bipush 32, 2) := by decide +kernel
theorem dMo_skip_64 : decode mMo_skip.2.1 64 = .ok (.if_icmp .ne 16, 3) := by decide +kernel
theorem dMo_skip_67 : decode mMo_skip.2.1 67 = .ok (.aload_n 0, 1) := by decide +kernel
theorem dMo_skip_68 : decode mMo_skip.2.1 68 = .ok (.dup, 1) := by decide +kernel
theorem dMo_skip_69 : decode mMo_skip.2.1 69 = .ok (.getfield 151, 3) := by decide +kernel
theorem dMo_skip_72 : decode mMo_skip.2.1 72 = .ok (.iconst 1, 1) := by decide +kernel
theorem dMo_skip_73 : decode mMo_skip.2.1 73 = .ok (.iadd, 1) := by decide +kernel
theorem dMo_skip_74 : decode mMo_skip.2.1 74 = .ok (.putfield 151, 3) := by decide +kernel
theorem dMo_skip_77 : decode mMo_skip.2.1 77 = .ok (.goto (-77), 3) := by decide +kernel
theorem dMo_skip_80 : decode mMo_skip.2.1 80 = .ok (.aload_n 0, 1) := by decide +kernel
theorem dMo_skip_81 : decode mMo_skip.2.1 81 = .ok (.getfield 151, 3) := by decide +kernel
theorem dMo_skip_84 : decode mMo_skip.2.1 84 = .ok (.aload_n 0, 1) := by decide +kernel
theorem dMo_skip_85 : decode mMo_skip.2.1 85 = .ok (.getfield 148, 3) := by decide +kernel
theorem dMo_skip_88 : decode mMo_skip.2.1 88 = .ok (.if_icmp .ge 7, 3) := by decide +kernel
theorem dMo_skip_91 : decode mMo_skip.2.1 91 = .ok (.iconst 1, 1) := by decide +kernel
theorem dMo_skip_92 : decode mMo_skip.2.1 92 = .ok (.goto 4, 3) := by decide +kernel
theorem dMo_skip_95 : decode mMo_skip.2.1 95 = .ok (.iconst 0, 1) := by decide +kernel
theorem dMo_skip_96 : decode mMo_skip.2.1 96 = .ok (.ireturn, 1) := by decide +kernel
theorem dMo_number_0 : decode mMo_number.2.1 0 = .ok (.aload_n 0, 1) := by decide +kernel
theorem dMo_number_1 : decode mMo_number.2.1 1 = .ok (.getfield 154, 3) := by decide +kernel
theorem dMo_number_4 : decode mMo_number.2.1 4 = .ok (.iconst (-1), 1) := by decide +kernel
theorem dMo_number_5 : decode mMo_number.2.1 5 = .ok (.if_icmp .eq 5, 3) := by decide +kernel
theorem dMo_number_8 : decode mMo_number.2.1 8 = .ok (.iconst (-1), 1) := by decide +kernel
theorem dMo_number_9 : decode mMo_number.2.1 9 = .ok (.ireturn, 1) := by decide +kernel
theorem dMo_number_10 : decode mMo_number.2.1 10 = .ok (.aload_n 0, 1) := by decide +kernel
theorem dMo_number_11 : decode mMo_number.2.1 11 = .ok (.invokevirtual 157, 3) := by decide +kernel
theorem dMo_number_14 : decode mMo_number.2.1 14 = .ok (.istore_n 3, 1) := by decide +kernel
theorem dMo_number_15 : decode mMo_number.2.1 15 = .ok (.aload_n 0, 1) := by decide +kernel
theorem dMo_number_16 : decode mMo_number.2.1 16 = .ok (.getfield 151, 3) := by decide +kernel
theorem dMo_number_19 : decode mMo_number.2.1 19 = .ok (.istore 4, 2) := by decide +kernel
theorem dMo_number_21 : decode mMo_number.2.1 21 = .ok (.iconst 0, 1) := by decide +kernel
theorem dMo_number_22 : decode mMo_number.2.1 22 = .ok (.istore 5, 2) := by decide +kernel
theorem dMo_number_24 : decode mMo_number.2.1 24 = .ok (.aload_n 0, 1) := by decide +kernel
theorem dMo_number_25 : decode mMo_number.2.1 25 = .ok (.aload_n 0, 1) := by decide +kernel
theorem dMo_number_26 : decode mMo_number.2.1 26 = .ok (.getfield 151, 3) := by decide +kernel
theorem dMo_number_29 : decode mMo_number.2.1 29 = .ok (.invokevirtual 161, 3) := by decide +kernel
theorem dMo_number_32 : decode mMo_number.2.1 32 = .ok (.ifCond .eq 48, 3) := by decide +kernel
theorem dMo_number_35 : decode mMo_number.2.1 35 = .ok (.aload_n 0, 1) := by decide +kernel
theorem dMo_number_36 : decode mMo_number.2.1 36 = .ok (.getfield 151, 3) := by decide +kernel
theorem dMo_number_39 : decode mMo_number.2.1 39 = .ok (.iload 4, 2) := by decide +kernel
theorem dMo_number_41 : decode mMo_number.2.1 41 = .ok (.bipush 6, 2) := by decide +kernel
theorem dMo_number_43 : decode mMo_number.2.1 43 = .ok (.iadd, 1) := by decide +kernel
theorem dMo_number_44 : decode mMo_number.2.1 44 = .ok (.if_icmp .ge 36, 3) := by decide +kernel
theorem dMo_number_47 : decode mMo_number.2.1 47 = .ok (.bipush 10, 2) := by decide +kernel
theorem dMo_number_49 : decode mMo_number.2.1 49 = .ok (.iload 5, 2) := by decide +kernel
theorem dMo_number_51 : decode mMo_number.2.1 51 = .ok (.imul, 1) := by decide +kernel
theorem dMo_number_52 : decode mMo_number.2.1 52 = .ok (.aload_n 0, 1) := by decide +kernel
theorem dMo_number_53 : decode mMo_number.2.1 53 = .ok (.getfield 48, 3) := by decide +kernel
theorem dMo_number_56 : decode mMo_number.2.1 56 = .ok (.aload_n 0, 1) := by decide +kernel
theorem dMo_number_57 : decode mMo_number.2.1 57 = .ok (.getfield 151, 3) := by decide +kernel
theorem dMo_number_60 : decode mMo_number.2.1 60 = .ok (.iaload, 1) := by decide +kernel
theorem dMo_number_61 : decode mMo_number.2.1 61 = .ok (.iadd, 1) := by decide +kernel
theorem dMo_number_62 : decode mMo_number.2.1 62 = .ok (.bipush 48, 2) := by decide +kernel
theorem dMo_number_64 : decode mMo_number.2.1 64 = .ok (.isub, 1) := by decide +kernel
theorem dMo_number_65 : decode mMo_number.2.1 65 = .ok (.istore 5, 2) := by decide +kernel
theorem dMo_number_67 : decode mMo_number.2.1 67 = .ok (.aload_n 0, 1) := by decide +kernel
theorem dMo_number_68 : decode mMo_number.2.1 68 = .ok (.dup, 1) := by decide +kernel
theorem dMo_number_69 : decode mMo_number.2.1 69 = .ok (.getfield 151, 3) := by decide +kernel
theorem dMo_number_72 : decode mMo_number.2.1 72 = .ok (.iconst 1, 1) := by decide +kernel
theorem dMo_number_73 : decode mMo_number.2.1 73 = .ok (.iadd, 1) := by decide +kernel
theorem dMo_number_74 : decode mMo_number.2.1 74 = .ok (.putfield 151, 3) := by decide +kernel
theorem dMo_number_77 : decode mMo_number.2.1 77 = .ok (.goto (-53), 3) := by decide +kernel
theorem dMo_number_80 : decode mMo_number.2.1 80 = .ok (.aload_n 0, 1) := by decide +kernel
theorem dMo_number_81 : decode mMo_number.2.1 81 = .ok (.aload_n 0, 1) := by decide +kernel
theorem dMo_number_82 : decode mMo_number.2.1 82 = .ok (.getfield 151, 3) := by decide +kernel
theorem dMo_number_85 : decode mMo_number.2.1 85 = .ok (.iload 4, 2) := by decide +kernel
theorem dMo_number_87 : decode mMo_number.2.1 87 = .ok (.if_icmp .eq 14, 3) := by decide +kernel
theorem dMo_number_90 : decode mMo_number.2.1 90 = .ok (.aload_n 0, 1) := by decide +kernel
theorem dMo_number_91 : decode mMo_number.2.1 91 = .ok (.aload_n 0, 1) := by decide +kernel
theorem dMo_number_92 : decode mMo_number.2.1 92 = .ok (.getfield 151, 3) := by decide +kernel
theorem dMo_number_95 : decode mMo_number.2.1 95 = .ok (.invokevirtual 161, 3) := by decide +kernel
theorem dMo_number_98 : decode mMo_number.2.1 98 = .ok (.ifCond .eq 10, 3) := by decide +kernel
theorem dMo_number_101 : decode mMo_number.2.1 101 = .ok (.aload_n 0, 1) := by decide +kernel
theorem dMo_number_102 : decode mMo_number.2.1 102 = .ok (.getfield 151, 3) := by decide +kernel
theorem dMo_number_105 : decode mMo_number.2.1 105 = .ok (.goto 21, 3) := by decide +kernel
theorem dMo_number_108 : decode mMo_number.2.1 108 = .ok (.iload 5, 2) := by decide +kernel
theorem dMo_number_110 : decode mMo_number.2.1 110 = .ok (.iload_n 1, 1) := by decide +kernel
theorem dMo_number_111 : decode mMo_number.2.1 111 = .ok (.if_icmp .lt 9, 3) := by decide +kernel
theorem dMo_number_114 : decode mMo_number.2.1 114 = .ok (.iload 5, 2) := by decide +kernel
theorem dMo_number_116 : decode mMo_number.2.1 116 = .ok (.iload_n 2, 1) := by decide +kernel
theorem dMo_number_117 : decode mMo_number.2.1 117 = .ok (.if_icmp .le 8, 3) := by decide +kernel
theorem dMo_number_120 : decode mMo_number.2.1 120 = .ok (.iload 4, 2) := by decide +kernel
theorem dMo_number_122 : decode mMo_number.2.1 122 = .ok (.goto 4, 3) := by decide +kernel
theorem dMo_number_125 : decode mMo_number.2.1 125 = .ok (.iconst (-1), 1) := by decide +kernel
theorem dMo_number_126 : decode mMo_number.2.1 126 = .ok (.putfield 154, 3) := by decide +kernel
theorem dMo_number_129 : decode mMo_number.2.1 129 = .ok (.aload_n 0, 1) := by decide +kernel
theorem dMo_number_130 : decode mMo_number.2.1 130 = .ok (.getfield 154, 3) := by decide +kernel
theorem dMo_number_133 : decode mMo_number.2.1 133 = .ok (.iconst (-1), 1) := by decide +kernel
theorem dMo_number_134 : decode mMo_number.2.1 134 = .ok (.if_icmp .ne 8, 3) := by decide +kernel
theorem dMo_number_137 : decode mMo_number.2.1 137 = .ok (.iload 5, 2) := by decide +kernel
theorem dMo_number_139 : decode mMo_number.2.1 139 = .ok (.goto 4, 3) := by decide +kernel
theorem dMo_number_142 : decode mMo_number.2.1 142 = .ok (.iconst (-1), 1) := by decide +kernel
theorem dMo_number_143 : decode mMo_number.2.1 143 = .ok (.ireturn, 1) := by decide +kernel
theorem dMo_isDigit_0 : decode mMo_isDigit.2.1 0 = .ok (.iload_n 1, 1) := by decide +kernel
theorem dMo_isDigit_1 : decode mMo_isDigit.2.1 1 = .ok (.aload_n 0, 1) := by decide +kernel
theorem dMo_isDigit_2 : decode mMo_isDigit.2.1 2 = .ok (.getfield 148, 3) := by decide +kernel
theorem dMo_isDigit_5 : decode mMo_isDigit.2.1 5 = .ok (.if_icmp .ge 29, 3) := by decide +kernel
theorem dMo_isDigit_8 : decode mMo_isDigit.2.1 8 = .ok (.aload_n 0, 1) := by decide +kernel
theorem dMo_isDigit_9 : decode mMo_isDigit.2.1 9 = .ok (.getfield 48, 3) := by decide +kernel
theorem dMo_isDigit_12 : decode mMo_isDigit.2.1 12 = .ok (.iload_n 1, 1) := by decide +kernel
theorem dMo_isDigit_13 : decode mMo_isDigit.2.1 13 = .ok (.iaload, 1) := by decide +kernel
theorem dMo_isDigit_14 : decode mMo_isDigit.2.1 14 = .ok (.bipush 48, 2) := by decide +kernel
theorem dMo_isDigit_16 : decode mMo_isDigit.2.1 16 = .ok (.if_icmp .lt 18, 3) := by decide +kernel
theorem dMo_isDigit_19 : decode mMo_isDigit.2.1 19 = .ok (.aload_n 0, 1) := by decide +kernel
theorem dMo_isDigit_20 : decode mMo_isDigit.2.1 20 = .ok (.getfield 48, 3) := by decide +kernel
theorem dMo_isDigit_23 : decode mMo_isDigit.2.1 23 = .ok (.iload_n 1, 1) := by decide +kernel
theorem dMo_isDigit_24 : decode mMo_isDigit.2.1 24 = .ok (.iaload, 1) := by decide +kernel
theorem dMo_isDigit_25 : decode mMo_isDigit.2.1 25 = .ok (.bipush 57, 2) := by decide +kernel
theorem dMo_isDigit_27 : decode mMo_isDigit.2.1 27 = .ok (.if_icmp .gt 7, 3) := by decide +kernel
theorem dMo_isDigit_30 : decode mMo_isDigit.2.1 30 = .ok (.iconst 1, 1) := by decide +kernel
theorem dMo_isDigit_31 : decode mMo_isDigit.2.1 31 = .ok (.goto 4, 3) := by decide +kernel
theorem dMo_isDigit_34 : decode mMo_isDigit.2.1 34 = .ok (.iconst 0, 1) := by decide +kernel
theorem dMo_isDigit_35 : decode mMo_isDigit.2.1 35 = .ok (.ireturn, 1) := by decide +kernel
theorem dMo_sign_0 : decode mMo_sign.2.1 0 = .ok (.aload_n 0, 1) := by decide +kernel
theorem dMo_sign_1 : decode mMo_sign.2.1 1 = .ok (.getfield 154, 3) := by decide +kernel
theorem dMo_sign_4 : decode mMo_sign.2.1 4 = .ok (.iconst (-1), 1) := by decide +kernel
theorem dMo_sign_5 : decode mMo_sign.2.1 5 = .ok (.if_icmp .ne 55, 3) := by decide +kernel
theorem dMo_sign_8 : decode mMo_sign.2.1 8 = .ok (.aload_n 0, 1) := by decide +kernel
theorem dMo_sign_9 : decode mMo_sign.2.1 9 = .ok (.invokevirtual 157, 3) := by decide +kernel
theorem dMo_sign_12 : decode mMo_sign.2.1 12 = .ok (.ifCond .eq 20, 3) := by decide +kernel
theorem dMo_sign_15 : decode mMo_sign.2.1 15 = .ok (.aload_n 0, 1) := by decide +kernel
theorem dMo_sign_16 : decode mMo_sign.2.1 16 = .ok (.getfield 48, 3) := by decide +kernel
theorem dMo_sign_19 : decode mMo_sign.2.1 19 = .ok (.aload_n 0, 1) := by decide +kernel
theorem dMo_sign_20 : decode mMo_sign.2.1 20 = .ok (.getfield 151, 3) := by decide +kernel
theorem dMo_sign_23 : decode mMo_sign.2.1 23 = .ok (.iaload, 1) := by decide +kernel
theorem dMo_sign_24 : decode mMo_sign.2.1 24 = .ok (.iload_n 1, 1) := by decide +kernel
theorem dMo_sign_25 : decode mMo_sign.2.1 25 = .ok (.if_icmp .ne 7, 3) := by decide +kernel
theorem dMo_sign_28 : decode mMo_sign.2.1 28 = .ok (.iconst 1, 1) := by decide +kernel
theorem dMo_sign_29 : decode mMo_sign.2.1 29 = .ok (.goto 4, 3) := by decide +kernel
theorem dMo_sign_32 : decode mMo_sign.2.1 32 = .ok (.iconst 0, 1) := by decide +kernel
theorem dMo_sign_33 : decode mMo_sign.2.1 33 = .ok (.istore_n 2, 1) := by decide +kernel
theorem dMo_sign_34 : decode mMo_sign.2.1 34 = .ok (.aload_n 0, 1) := by decide +kernel
theorem dMo_sign_35 : decode mMo_sign.2.1 35 = .ok (.iload_n 2, 1) := by decide +kernel
theorem dMo_sign_36 : decode mMo_sign.2.1 36 = .ok (.ifCond .eq 7, 3) := by decide +kernel
theorem dMo_sign_39 : decode mMo_sign.2.1 39 = .ok (.iconst (-1), 1) := by decide +kernel
theorem dMo_sign_40 : decode mMo_sign.2.1 40 = .ok (.goto 7, 3) := by decide +kernel
theorem dMo_sign_43 : decode mMo_sign.2.1 43 = .ok (.aload_n 0, 1) := by decide +kernel
theorem dMo_sign_44 : decode mMo_sign.2.1 44 = .ok (.getfield 151, 3) := by decide +kernel
theorem dMo_sign_47 : decode mMo_sign.2.1 47 = .ok (.putfield 154, 3) := by decide +kernel
theorem dMo_sign_50 : decode mMo_sign.2.1 50 = .ok (.aload_n 0, 1) := by decide +kernel
theorem dMo_sign_51 : decode mMo_sign.2.1 51 = .ok (.dup, 1) := by decide +kernel
theorem dMo_sign_52 : decode mMo_sign.2.1 52 = .ok (.getfield 151, 3) := by decide +kernel
theorem dMo_sign_55 : decode mMo_sign.2.1 55 = .ok (.iconst 1, 1) := by decide +kernel
theorem dMo_sign_56 : decode mMo_sign.2.1 56 = .ok (.iadd, 1) := by decide +kernel
theorem dMo_sign_57 : decode mMo_sign.2.1 57 = .ok (.putfield 151, 3) := by decide +kernel
theorem dMo_sign_60 : decode mMo_sign.2.1 60 = .ok (.return_, 1) := by decide +kernel
theorem dMo_name_0 : decode mMo_name.2.1 0 = .ok (.aload_n 0, 1) := by decide +kernel
theorem dMo_name_1 : decode mMo_name.2.1 1 = .ok (.iload_n 1, 1) := by decide +kernel
theorem dMo_name_2 : decode mMo_name.2.1 2 = .ok (.invokevirtual 94, 3) := by decide +kernel
theorem dMo_name_5 : decode mMo_name.2.1 5 = .ok (.ifCond .eq 12, 3) := by decide +kernel
theorem dMo_name_8 : decode mMo_name.2.1 8 = .ok (.aload_n 0, 1) := by decide +kernel
theorem dMo_name_9 : decode mMo_name.2.1 9 = .ok (.getfield 13, 3) := by decide +kernel
theorem dMo_name_12 : decode mMo_name.2.1 12 = .ok (.iload_n 1, 1) := by decide +kernel
theorem dMo_name_13 : decode mMo_name.2.1 13 = .ok (.iaload, 1) := by decide +kernel
theorem dMo_name_14 : decode mMo_name.2.1 14 = .ok (.ifCond .ne 5, 3) := by decide +kernel
theorem dMo_name_17 : decode mMo_name.2.1 17 = .ok (.iconst 0, 1) := by decide +kernel
theorem dMo_name_18 : decode mMo_name.2.1 18 = .ok (.ireturn, 1) := by decide +kernel
theorem dMo_name_19 : decode mMo_name.2.1 19 = .ok (.iconst (-1), 1) := by decide +kernel
theorem dMo_name_20 : decode mMo_name.2.1 20 = .ok (.istore 4, 2) := by decide +kernel
theorem dMo_name_22 : decode mMo_name.2.1 22 = .ok (.iconst 0, 1) := by decide +kernel
theorem dMo_name_23 : decode mMo_name.2.1 23 = .ok (.istore 5, 2) := by decide +kernel
theorem dMo_name_25 : decode mMo_name.2.1 25 = .ok (.iload 5, 2) := by decide +kernel
theorem dMo_name_27 : decode mMo_name.2.1 27 = .ok (.aload_n 0, 1) := by decide +kernel
theorem dMo_name_28 : decode mMo_name.2.1 28 = .ok (.getfield 175, 3) := by decide +kernel
theorem dMo_name_31 : decode mMo_name.2.1 31 = .ok (.if_icmp .ge 58, 3) := by decide +kernel
theorem dMo_name_34 : decode mMo_name.2.1 34 = .ok (.aload_n 0, 1) := by decide +kernel
theorem dMo_name_35 : decode mMo_name.2.1 35 = .ok (.getfield 51, 3) := by decide +kernel
theorem dMo_name_38 : decode mMo_name.2.1 38 = .ok (.iload 5, 2) := by decide +kernel
theorem dMo_name_40 : decode mMo_name.2.1 40 = .ok (.iaload, 1) := by decide +kernel
theorem dMo_name_41 : decode mMo_name.2.1 41 = .ok (.iload_n 2, 1) := by decide +kernel
theorem dMo_name_42 : decode mMo_name.2.1 42 = .ok (.if_icmp .ne 41, 3) := by decide +kernel
theorem dMo_name_45 : decode mMo_name.2.1 45 = .ok (.aload_n 0, 1) := by decide +kernel
theorem dMo_name_46 : decode mMo_name.2.1 46 = .ok (.getfield 60, 3) := by decide +kernel
theorem dMo_name_49 : decode mMo_name.2.1 49 = .ok (.iload 5, 2) := by decide +kernel
theorem dMo_name_51 : decode mMo_name.2.1 51 = .ok (.iaload, 1) := by decide +kernel
theorem dMo_name_52 : decode mMo_name.2.1 52 = .ok (.iload_n 3, 1) := by decide +kernel
theorem dMo_name_53 : decode mMo_name.2.1 53 = .ok (.if_icmp .gt 30, 3) := by decide +kernel
theorem dMo_name_56 : decode mMo_name.2.1 56 = .ok (.iload 4, 2) := by decide +kernel
theorem dMo_name_58 : decode mMo_name.2.1 58 = .ok (.iconst (-1), 1) := by decide +kernel
theorem dMo_name_59 : decode mMo_name.2.1 59 = .ok (.if_icmp .eq 20, 3) := by decide +kernel
theorem dMo_name_62 : decode mMo_name.2.1 62 = .ok (.aload_n 0, 1) := by decide +kernel
theorem dMo_name_63 : decode mMo_name.2.1 63 = .ok (.getfield 60, 3) := by decide +kernel
theorem dMo_name_66 : decode mMo_name.2.1 66 = .ok (.iload 5, 2) := by decide +kernel
theorem dMo_name_68 : decode mMo_name.2.1 68 = .ok (.iaload, 1) := by decide +kernel
theorem dMo_name_69 : decode mMo_name.2.1 69 = .ok (.aload_n 0, 1) := by decide +kernel
theorem dMo_name_70 : decode mMo_name.2.1 70 = .ok (.getfield 60, 3) := by decide +kernel
theorem dMo_name_73 : decode mMo_name.2.1 73 = .ok (.iload 4, 2) := by decide +kernel
theorem dMo_name_75 : decode mMo_name.2.1 75 = .ok (.iaload, 1) := by decide +kernel
theorem dMo_name_76 : decode mMo_name.2.1 76 = .ok (.if_icmp .lt 7, 3) := by decide +kernel
theorem dMo_name_79 : decode mMo_name.2.1 79 = .ok (.iload 5, 2) := by decide +kernel
theorem dMo_name_81 : decode mMo_name.2.1 81 = .ok (.istore 4, 2) := by decide +kernel
theorem dMo_name_83 : decode mMo_name.2.1 83 = .ok (.iinc 5 1, 3) := by decide +kernel
theorem dMo_name_86 : decode mMo_name.2.1 86 = .ok (.goto (-61), 3) := by decide +kernel
theorem dMo_name_89 : decode mMo_name.2.1 89 = .ok (.iload 4, 2) := by decide +kernel
theorem dMo_name_91 : decode mMo_name.2.1 91 = .ok (.iconst (-1), 1) := by decide +kernel
theorem dMo_name_92 : decode mMo_name.2.1 92 = .ok (.if_icmp .eq 7, 3) := by decide +kernel
theorem dMo_name_95 : decode mMo_name.2.1 95 = .ok (.iconst 1, 1) := by decide +kernel
theorem dMo_name_96 : decode mMo_name.2.1 96 = .ok (.goto 4, 3) := by decide +kernel
theorem dMo_name_99 : decode mMo_name.2.1 99 = .ok (.iconst 0, 1) := by decide +kernel
theorem dMo_name_100 : decode mMo_name.2.1 100 = .ok (.istore 5, 2) := by decide +kernel
theorem dMo_name_102 : decode mMo_name.2.1 102 = .ok (.iconst 0, 1) := by decide +kernel
theorem dMo_name_103 : decode mMo_name.2.1 103 = .ok (.istore 6, 2) := by decide +kernel
theorem dMo_name_105 : decode mMo_name.2.1 105 = .ok (.iload 6, 2) := by decide +kernel
theorem dMo_name_107 : decode mMo_name.2.1 107 = .ok (.aload_n 0, 1) := by decide +kernel
theorem dMo_name_108 : decode mMo_name.2.1 108 = .ok (.getfield 13, 3) := by decide +kernel
theorem dMo_name_111 : decode mMo_name.2.1 111 = .ok (.iload_n 1, 1) := by decide +kernel
theorem dMo_name_112 : decode mMo_name.2.1 112 = .ok (.iaload, 1) := by decide +kernel
theorem dMo_name_113 : decode mMo_name.2.1 113 = .ok (.if_icmp .ge 64, 3) := by decide +kernel
theorem dMo_name_116 : decode mMo_name.2.1 116 = .ok (.iload 5, 2) := by decide +kernel
theorem dMo_name_118 : decode mMo_name.2.1 118 = .ok (.ifCond .eq 59, 3) := by decide +kernel
theorem dMo_name_121 : decode mMo_name.2.1 121 = .ok (.aload_n 0, 1) := by decide +kernel
theorem dMo_name_122 : decode mMo_name.2.1 122 = .ok (.getfield 33, 3) := by decide +kernel
theorem dMo_name_125 : decode mMo_name.2.1 125 = .ok (.aload_n 0, 1) := by decide +kernel
theorem dMo_name_126 : decode mMo_name.2.1 126 = .ok (.getfield 16, 3) := by decide +kernel
theorem dMo_name_129 : decode mMo_name.2.1 129 = .ok (.bipush 81, 2) := by decide +kernel
theorem dMo_name_131 : decode mMo_name.2.1 131 = .ok (.iload_n 1, 1) := by decide +kernel
theorem dMo_name_132 : decode mMo_name.2.1 132 = .ok (.imul, 1) := by decide +kernel
theorem dMo_name_133 : decode mMo_name.2.1 133 = .ok (.iload 6, 2) := by decide +kernel
theorem dMo_name_135 : decode mMo_name.2.1 135 = .ok (.iadd, 1) := by decide +kernel
theorem dMo_name_136 : decode mMo_name.2.1 136 = .ok (.iaload, 1) := by decide +kernel
theorem dMo_name_137 : decode mMo_name.2.1 137 = .ok (.iaload, 1) := by decide +kernel
theorem dMo_name_138 : decode mMo_name.2.1 138 = .ok (.istore 7, 2) := by decide +kernel
theorem dMo_name_140 : decode mMo_name.2.1 140 = .ok (.iload 7, 2) := by decide +kernel
theorem dMo_name_142 : decode mMo_name.2.1 142 = .ok (.aload_n 0, 1) := by decide +kernel
theorem dMo_name_143 : decode mMo_name.2.1 143 = .ok (.getfield 54, 3) := by decide +kernel
theorem dMo_name_146 : decode mMo_name.2.1 146 = .ok (.iload 4, 2) := by decide +kernel
theorem dMo_name_148 : decode mMo_name.2.1 148 = .ok (.iaload, 1) := by decide +kernel
theorem dMo_name_149 : decode mMo_name.2.1 149 = .ok (.if_icmp .lt 19, 3) := by decide +kernel
theorem dMo_name_152 : decode mMo_name.2.1 152 = .ok (.iload 7, 2) := by decide +kernel
theorem dMo_name_154 : decode mMo_name.2.1 154 = .ok (.aload_n 0, 1) := by decide +kernel
theorem dMo_name_155 : decode mMo_name.2.1 155 = .ok (.getfield 57, 3) := by decide +kernel
theorem dMo_name_158 : decode mMo_name.2.1 158 = .ok (.iload 4, 2) := by decide +kernel
theorem dMo_name_160 : decode mMo_name.2.1 160 = .ok (.iaload, 1) := by decide +kernel
theorem dMo_name_161 : decode mMo_name.2.1 161 = .ok (.if_icmp .gt 7, 3) := by decide +kernel
theorem dMo_name_164 : decode mMo_name.2.1 164 = .ok (.iconst 1, 1) := by decide +kernel
theorem dMo_name_165 : decode mMo_name.2.1 165 = .ok (.goto 4, 3) := by decide +kernel
theorem dMo_name_168 : decode mMo_name.2.1 168 = .ok (.iconst 0, 1) := by decide +kernel
theorem dMo_name_169 : decode mMo_name.2.1 169 = .ok (.istore 5, 2) := by decide +kernel
theorem dMo_name_171 : decode mMo_name.2.1 171 = .ok (.iinc 6 1, 3) := by decide +kernel
theorem dMo_name_174 : decode mMo_name.2.1 174 = .ok (.goto (-69), 3) := by decide +kernel
theorem dMo_name_177 : decode mMo_name.2.1 177 = .ok (.iload 5, 2) := by decide +kernel
theorem dMo_name_179 : decode mMo_name.2.1 179 = .ok (.ireturn, 1) := by decide +kernel
theorem dMo_certificate_0 : decode mMo_certificate.2.1 0 = .ok (.iload_n 1, 1) := by decide +kernel
theorem dMo_certificate_1 : decode mMo_certificate.2.1 1 = .ok (.ifCond .lt 18, 3) := by decide +kernel
theorem dMo_certificate_4 : decode mMo_certificate.2.1 4 = .ok (.iload_n 1, 1) := by decide +kernel
theorem dMo_certificate_5 : decode mMo_certificate.2.1 5 = .ok (.ldc 100, 2) := by decide +kernel
theorem dMo_certificate_7 : decode mMo_certificate.2.1 7 = .ok (.if_icmp .gt 12, 3) := by decide +kernel
theorem dMo_certificate_10 : decode mMo_certificate.2.1 10 = .ok (.aload_n 0, 1) := by decide +kernel
theorem dMo_certificate_11 : decode mMo_certificate.2.1 11 = .ok (.getfield 178, 3) := by decide +kernel
theorem dMo_certificate_14 : decode mMo_certificate.2.1 14 = .ok (.bipush 10, 2) := by decide +kernel
theorem dMo_certificate_16 : decode mMo_certificate.2.1 16 = .ok (.if_icmp .ne 5, 3) := by decide +kernel
theorem dMo_certificate_19 : decode mMo_certificate.2.1 19 = .ok (.iconst (-1), 1) := by decide +kernel
theorem dMo_certificate_20 : decode mMo_certificate.2.1 20 = .ok (.ireturn, 1) := by decide +kernel
theorem dMo_certificate_21 : decode mMo_certificate.2.1 21 = .ok (.aload_n 0, 1) := by decide +kernel
theorem dMo_certificate_22 : decode mMo_certificate.2.1 22 = .ok (.getfield 75, 3) := by decide +kernel
theorem dMo_certificate_25 : decode mMo_certificate.2.1 25 = .ok (.aload_n 0, 1) := by decide +kernel
theorem dMo_certificate_26 : decode mMo_certificate.2.1 26 = .ok (.getfield 178, 3) := by decide +kernel
theorem dMo_certificate_29 : decode mMo_certificate.2.1 29 = .ok (.iload_n 1, 1) := by decide +kernel
theorem dMo_certificate_30 : decode mMo_certificate.2.1 30 = .ok (.iastore, 1) := by decide +kernel
theorem dMo_certificate_31 : decode mMo_certificate.2.1 31 = .ok (.aload_n 0, 1) := by decide +kernel
theorem dMo_certificate_32 : decode mMo_certificate.2.1 32 = .ok (.dup, 1) := by decide +kernel
theorem dMo_certificate_33 : decode mMo_certificate.2.1 33 = .ok (.getfield 178, 3) := by decide +kernel
theorem dMo_certificate_36 : decode mMo_certificate.2.1 36 = .ok (.iconst 1, 1) := by decide +kernel
theorem dMo_certificate_37 : decode mMo_certificate.2.1 37 = .ok (.iadd, 1) := by decide +kernel
theorem dMo_certificate_38 : decode mMo_certificate.2.1 38 = .ok (.putfield 178, 3) := by decide +kernel
theorem dMo_certificate_41 : decode mMo_certificate.2.1 41 = .ok (.aload_n 0, 1) := by decide +kernel
theorem dMo_certificate_42 : decode mMo_certificate.2.1 42 = .ok (.getfield 178, 3) := by decide +kernel
theorem dMo_certificate_45 : decode mMo_certificate.2.1 45 = .ok (.iconst 1, 1) := by decide +kernel
theorem dMo_certificate_46 : decode mMo_certificate.2.1 46 = .ok (.isub, 1) := by decide +kernel
theorem dMo_certificate_47 : decode mMo_certificate.2.1 47 = .ok (.ireturn, 1) := by decide +kernel
theorem dMo_credit_0 : decode mMo_credit.2.1 0 = .ok (.aload_n 0, 1) := by decide +kernel
theorem dMo_credit_1 : decode mMo_credit.2.1 1 = .ok (.iload_n 1, 1) := by decide +kernel
theorem dMo_credit_2 : decode mMo_credit.2.1 2 = .ok (.lload_n 2, 1) := by decide +kernel
theorem dMo_credit_3 : decode mMo_credit.2.1 3 = .ok (.iload 4, 2) := by decide +kernel
theorem dMo_credit_5 : decode mMo_credit.2.1 5 = .ok (.invokevirtual 184, 3) := by decide +kernel
theorem dMo_credit_8 : decode mMo_credit.2.1 8 = .ok (.ifCond .ne 5, 3) := by decide +kernel
theorem dMo_credit_11 : decode mMo_credit.2.1 11 = .ok (.iconst 0, 1) := by decide +kernel
theorem dMo_credit_12 : decode mMo_credit.2.1 12 = .ok (.ireturn, 1) := by decide +kernel
theorem dMo_credit_13 : decode mMo_credit.2.1 13 = .ok (.aload_n 0, 1) := by decide +kernel
theorem dMo_credit_14 : decode mMo_credit.2.1 14 = .ok (.iload_n 1, 1) := by decide +kernel
theorem dMo_credit_15 : decode mMo_credit.2.1 15 = .ok (.lload_n 2, 1) := by decide +kernel
theorem dMo_credit_16 : decode mMo_credit.2.1 16 = .ok (.iload 4, 2) := by decide +kernel
theorem dMo_credit_18 : decode mMo_credit.2.1 18 = .ok (.invokevirtual 188, 3) := by decide +kernel
theorem dMo_credit_21 : decode mMo_credit.2.1 21 = .ok (.iconst 1, 1) := by decide +kernel
theorem dMo_credit_22 : decode mMo_credit.2.1 22 = .ok (.ireturn, 1) := by decide +kernel
theorem dMo_mayAct_0 : decode mMo_mayAct.2.1 0 = .ok (.iload_n 1, 1) := by decide +kernel
theorem dMo_mayAct_1 : decode mMo_mayAct.2.1 1 = .ok (.ifCond .lt 50, 3) := by decide +kernel
theorem dMo_mayAct_4 : decode mMo_mayAct.2.1 4 = .ok (.iload_n 1, 1) := by decide +kernel
theorem dMo_mayAct_5 : decode mMo_mayAct.2.1 5 = .ok (.aload_n 0, 1) := by decide +kernel
theorem dMo_mayAct_6 : decode mMo_mayAct.2.1 6 = .ok (.getfield 178, 3) := by decide +kernel
theorem dMo_mayAct_9 : decode mMo_mayAct.2.1 9 = .ok (.if_icmp .ge 42, 3) := by decide +kernel
theorem dMo_mayAct_12 : decode mMo_mayAct.2.1 12 = .ok (.lload_n 2, 1) := by decide +kernel
theorem dMo_mayAct_13 : decode mMo_mayAct.2.1 13 = .ok (.lconst 1, 1) := by decide +kernel
theorem dMo_mayAct_14 : decode mMo_mayAct.2.1 14 = .ok (.lcmp, 1) := by decide +kernel
theorem dMo_mayAct_15 : decode mMo_mayAct.2.1 15 = .ok (.ifCond .lt 36, 3) := by decide +kernel
theorem dMo_mayAct_18 : decode mMo_mayAct.2.1 18 = .ok (.lload_n 2, 1) := by decide +kernel
theorem dMo_mayAct_19 : decode mMo_mayAct.2.1 19 = .ok (.ldc2_w 98, 3) := by decide +kernel
theorem dMo_mayAct_22 : decode mMo_mayAct.2.1 22 = .ok (.lcmp, 1) := by decide +kernel
theorem dMo_mayAct_23 : decode mMo_mayAct.2.1 23 = .ok (.ifCond .gt 28, 3) := by decide +kernel
theorem dMo_mayAct_26 : decode mMo_mayAct.2.1 26 = .ok (.iload 4, 2) := by decide +kernel
theorem dMo_mayAct_28 : decode mMo_mayAct.2.1 28 = .ok (.ifCond .lt 23, 3) := by decide +kernel
theorem dMo_mayAct_31 : decode mMo_mayAct.2.1 31 = .ok (.iload 4, 2) := by decide +kernel
theorem dMo_mayAct_33 : decode mMo_mayAct.2.1 33 = .ok (.ldc 100, 2) := by decide +kernel
theorem dMo_mayAct_35 : decode mMo_mayAct.2.1 35 = .ok (.if_icmp .gt 16, 3) := by decide +kernel
theorem dMo_mayAct_38 : decode mMo_mayAct.2.1 38 = .ok (.aload_n 0, 1) := by decide +kernel
theorem dMo_mayAct_39 : decode mMo_mayAct.2.1 39 = .ok (.getfield 181, 3) := by decide +kernel
theorem dMo_mayAct_42 : decode mMo_mayAct.2.1 42 = .ok (.bipush 100, 2) := by decide +kernel
theorem dMo_mayAct_44 : decode mMo_mayAct.2.1 44 = .ok (.if_icmp .ge 7, 3) := by decide +kernel
theorem dMo_mayAct_47 : decode mMo_mayAct.2.1 47 = .ok (.iconst 1, 1) := by decide +kernel
theorem dMo_mayAct_48 : decode mMo_mayAct.2.1 48 = .ok (.goto 4, 3) := by decide +kernel
theorem dMo_mayAct_51 : decode mMo_mayAct.2.1 51 = .ok (.iconst 0, 1) := by decide +kernel
theorem dMo_mayAct_52 : decode mMo_mayAct.2.1 52 = .ok (.ireturn, 1) := by decide +kernel
theorem dMo_act_0 : decode mMo_act.2.1 0 = .ok (.aload_n 0, 1) := by decide +kernel
theorem dMo_act_1 : decode mMo_act.2.1 1 = .ok (.getfield 78, 3) := by decide +kernel
theorem dMo_act_4 : decode mMo_act.2.1 4 = .ok (.aload_n 0, 1) := by decide +kernel
theorem dMo_act_5 : decode mMo_act.2.1 5 = .ok (.getfield 181, 3) := by decide +kernel
theorem dMo_act_8 : decode mMo_act.2.1 8 = .ok (.iload_n 1, 1) := by decide +kernel
theorem dMo_act_9 : decode mMo_act.2.1 9 = .ok (.iastore, 1) := by decide +kernel
theorem dMo_act_10 : decode mMo_act.2.1 10 = .ok (.aload_n 0, 1) := by decide +kernel
theorem dMo_act_11 : decode mMo_act.2.1 11 = .ok (.getfield 84, 3) := by decide +kernel
theorem dMo_act_14 : decode mMo_act.2.1 14 = .ok (.aload_n 0, 1) := by decide +kernel
theorem dMo_act_15 : decode mMo_act.2.1 15 = .ok (.getfield 181, 3) := by decide +kernel
theorem dMo_act_18 : decode mMo_act.2.1 18 = .ok (.lload_n 2, 1) := by decide +kernel
theorem dMo_act_19 : decode mMo_act.2.1 19 = .ok (.lastore, 1) := by decide +kernel
theorem dMo_act_20 : decode mMo_act.2.1 20 = .ok (.aload_n 0, 1) := by decide +kernel
theorem dMo_act_21 : decode mMo_act.2.1 21 = .ok (.getfield 81, 3) := by decide +kernel
theorem dMo_act_24 : decode mMo_act.2.1 24 = .ok (.aload_n 0, 1) := by decide +kernel
theorem dMo_act_25 : decode mMo_act.2.1 25 = .ok (.getfield 181, 3) := by decide +kernel
theorem dMo_act_28 : decode mMo_act.2.1 28 = .ok (.iload 4, 2) := by decide +kernel
theorem dMo_act_30 : decode mMo_act.2.1 30 = .ok (.iastore, 1) := by decide +kernel
theorem dMo_act_31 : decode mMo_act.2.1 31 = .ok (.aload_n 0, 1) := by decide +kernel
theorem dMo_act_32 : decode mMo_act.2.1 32 = .ok (.dup, 1) := by decide +kernel
theorem dMo_act_33 : decode mMo_act.2.1 33 = .ok (.getfield 181, 3) := by decide +kernel
theorem dMo_act_36 : decode mMo_act.2.1 36 = .ok (.iconst 1, 1) := by decide +kernel
theorem dMo_act_37 : decode mMo_act.2.1 37 = .ok (.iadd, 1) := by decide +kernel
theorem dMo_act_38 : decode mMo_act.2.1 38 = .ok (.putfield 181, 3) := by decide +kernel
theorem dMo_act_41 : decode mMo_act.2.1 41 = .ok (.return_, 1) := by decide +kernel
theorem dMo_claim_0 : decode mMo_claim.2.1 0 = .ok (.aload_n 0, 1) := by decide +kernel
theorem dMo_claim_1 : decode mMo_claim.2.1 1 = .ok (.iload_n 1, 1) := by decide +kernel
theorem dMo_claim_2 : decode mMo_claim.2.1 2 = .ok (.lload_n 2, 1) := by decide +kernel
theorem dMo_claim_3 : decode mMo_claim.2.1 3 = .ok (.iload 4, 2) := by decide +kernel
theorem dMo_claim_5 : decode mMo_claim.2.1 5 = .ok (.invokevirtual 184, 3) := by decide +kernel
theorem dMo_claim_8 : decode mMo_claim.2.1 8 = .ok (.ifCond .ne 5, 3) := by decide +kernel
theorem dMo_claim_11 : decode mMo_claim.2.1 11 = .ok (.iconst (-1), 1) := by decide +kernel
theorem dMo_claim_12 : decode mMo_claim.2.1 12 = .ok (.ireturn, 1) := by decide +kernel
theorem dMo_claim_13 : decode mMo_claim.2.1 13 = .ok (.iload 4, 2) := by decide +kernel
theorem dMo_claim_15 : decode mMo_claim.2.1 15 = .ok (.aload_n 0, 1) := by decide +kernel
theorem dMo_claim_16 : decode mMo_claim.2.1 16 = .ok (.getfield 75, 3) := by decide +kernel
theorem dMo_claim_19 : decode mMo_claim.2.1 19 = .ok (.iload_n 1, 1) := by decide +kernel
theorem dMo_claim_20 : decode mMo_claim.2.1 20 = .ok (.iaload, 1) := by decide +kernel
theorem dMo_claim_21 : decode mMo_claim.2.1 21 = .ok (.if_icmp .le 5, 3) := by decide +kernel
theorem dMo_claim_24 : decode mMo_claim.2.1 24 = .ok (.iconst 1, 1) := by decide +kernel
theorem dMo_claim_25 : decode mMo_claim.2.1 25 = .ok (.ireturn, 1) := by decide +kernel
theorem dMo_claim_26 : decode mMo_claim.2.1 26 = .ok (.aload_n 0, 1) := by decide +kernel
theorem dMo_claim_27 : decode mMo_claim.2.1 27 = .ok (.iload_n 1, 1) := by decide +kernel
theorem dMo_claim_28 : decode mMo_claim.2.1 28 = .ok (.iload 4, 2) := by decide +kernel
theorem dMo_claim_30 : decode mMo_claim.2.1 30 = .ok (.invokevirtual 192, 3) := by decide +kernel
theorem dMo_claim_33 : decode mMo_claim.2.1 33 = .ok (.lload_n 2, 1) := by decide +kernel
theorem dMo_claim_34 : decode mMo_claim.2.1 34 = .ok (.lcmp, 1) := by decide +kernel
theorem dMo_claim_35 : decode mMo_claim.2.1 35 = .ok (.ifCond .lt 7, 3) := by decide +kernel
theorem dMo_claim_38 : decode mMo_claim.2.1 38 = .ok (.iconst 1, 1) := by decide +kernel
theorem dMo_claim_39 : decode mMo_claim.2.1 39 = .ok (.goto 4, 3) := by decide +kernel
theorem dMo_claim_42 : decode mMo_claim.2.1 42 = .ok (.iconst 0, 1) := by decide +kernel
theorem dMo_claim_43 : decode mMo_claim.2.1 43 = .ok (.istore 5, 2) := by decide +kernel
theorem dMo_claim_45 : decode mMo_claim.2.1 45 = .ok (.iconst 0, 1) := by decide +kernel
theorem dMo_claim_46 : decode mMo_claim.2.1 46 = .ok (.istore 6, 2) := by decide +kernel
theorem dMo_claim_48 : decode mMo_claim.2.1 48 = .ok (.iload 6, 2) := by decide +kernel
theorem dMo_claim_50 : decode mMo_claim.2.1 50 = .ok (.aload_n 0, 1) := by decide +kernel
theorem dMo_claim_51 : decode mMo_claim.2.1 51 = .ok (.getfield 181, 3) := by decide +kernel
theorem dMo_claim_54 : decode mMo_claim.2.1 54 = .ok (.if_icmp .ge 50, 3) := by decide +kernel
theorem dMo_claim_57 : decode mMo_claim.2.1 57 = .ok (.iload 5, 2) := by decide +kernel
theorem dMo_claim_59 : decode mMo_claim.2.1 59 = .ok (.ifCond .eq 36, 3) := by decide +kernel
theorem dMo_claim_62 : decode mMo_claim.2.1 62 = .ok (.aload_n 0, 1) := by decide +kernel
theorem dMo_claim_63 : decode mMo_claim.2.1 63 = .ok (.getfield 81, 3) := by decide +kernel
theorem dMo_claim_66 : decode mMo_claim.2.1 66 = .ok (.iload 6, 2) := by decide +kernel
theorem dMo_claim_68 : decode mMo_claim.2.1 68 = .ok (.iaload, 1) := by decide +kernel
theorem dMo_claim_69 : decode mMo_claim.2.1 69 = .ok (.iload 4, 2) := by decide +kernel
theorem dMo_claim_71 : decode mMo_claim.2.1 71 = .ok (.if_icmp .lt 20, 3) := by decide +kernel
theorem dMo_claim_74 : decode mMo_claim.2.1 74 = .ok (.aload_n 0, 1) := by decide +kernel
theorem dMo_claim_75 : decode mMo_claim.2.1 75 = .ok (.iload_n 1, 1) := by decide +kernel
theorem dMo_claim_76 : decode mMo_claim.2.1 76 = .ok (.aload_n 0, 1) := by decide +kernel
theorem dMo_claim_77 : decode mMo_claim.2.1 77 = .ok (.getfield 81, 3) := by decide +kernel
theorem dMo_claim_80 : decode mMo_claim.2.1 80 = .ok (.iload 6, 2) := by decide +kernel
theorem dMo_claim_82 : decode mMo_claim.2.1 82 = .ok (.iaload, 1) := by decide +kernel
theorem dMo_claim_83 : decode mMo_claim.2.1 83 = .ok (.invokevirtual 192, 3) := by decide +kernel
theorem dMo_claim_86 : decode mMo_claim.2.1 86 = .ok (.lload_n 2, 1) := by decide +kernel
theorem dMo_claim_87 : decode mMo_claim.2.1 87 = .ok (.lcmp, 1) := by decide +kernel
theorem dMo_claim_88 : decode mMo_claim.2.1 88 = .ok (.ifCond .lt 7, 3) := by decide +kernel
theorem dMo_claim_91 : decode mMo_claim.2.1 91 = .ok (.iconst 1, 1) := by decide +kernel
theorem dMo_claim_92 : decode mMo_claim.2.1 92 = .ok (.goto 4, 3) := by decide +kernel
theorem dMo_claim_95 : decode mMo_claim.2.1 95 = .ok (.iconst 0, 1) := by decide +kernel
theorem dMo_claim_96 : decode mMo_claim.2.1 96 = .ok (.istore 5, 2) := by decide +kernel
theorem dMo_claim_98 : decode mMo_claim.2.1 98 = .ok (.iinc 6 1, 3) := by decide +kernel
theorem dMo_claim_101 : decode mMo_claim.2.1 101 = .ok (.goto (-53), 3) := by decide +kernel
theorem dMo_claim_104 : decode mMo_claim.2.1 104 = .ok (.iload 5, 2) := by decide +kernel
theorem dMo_claim_106 : decode mMo_claim.2.1 106 = .ok (.ifCond .ne 5, 3) := by decide +kernel
theorem dMo_claim_109 : decode mMo_claim.2.1 109 = .ok (.iconst 2, 1) := by decide +kernel
theorem dMo_claim_110 : decode mMo_claim.2.1 110 = .ok (.ireturn, 1) := by decide +kernel
theorem dMo_claim_111 : decode mMo_claim.2.1 111 = .ok (.aload_n 0, 1) := by decide +kernel
theorem dMo_claim_112 : decode mMo_claim.2.1 112 = .ok (.iload_n 1, 1) := by decide +kernel
theorem dMo_claim_113 : decode mMo_claim.2.1 113 = .ok (.lload_n 2, 1) := by decide +kernel
theorem dMo_claim_114 : decode mMo_claim.2.1 114 = .ok (.lneg, 1) := by decide +kernel
theorem dMo_claim_115 : decode mMo_claim.2.1 115 = .ok (.iload 4, 2) := by decide +kernel
theorem dMo_claim_117 : decode mMo_claim.2.1 117 = .ok (.invokevirtual 188, 3) := by decide +kernel
theorem dMo_claim_120 : decode mMo_claim.2.1 120 = .ok (.iconst 0, 1) := by decide +kernel
theorem dMo_claim_121 : decode mMo_claim.2.1 121 = .ok (.ireturn, 1) := by decide +kernel
theorem dMo_balanceOf_0 : decode mMo_balanceOf.2.1 0 = .ok (.lconst 0, 1) := by decide +kernel
theorem dMo_balanceOf_1 : decode mMo_balanceOf.2.1 1 = .ok (.lstore_n 3, 1) := by decide +kernel
theorem dMo_balanceOf_2 : decode mMo_balanceOf.2.1 2 = .ok (.iconst 0, 1) := by decide +kernel
theorem dMo_balanceOf_3 : decode mMo_balanceOf.2.1 3 = .ok (.istore 5, 2) := by decide +kernel
theorem dMo_balanceOf_5 : decode mMo_balanceOf.2.1 5 = .ok (.iload 5, 2) := by decide +kernel
theorem dMo_balanceOf_7 : decode mMo_balanceOf.2.1 7 = .ok (.aload_n 0, 1) := by decide +kernel
theorem dMo_balanceOf_8 : decode mMo_balanceOf.2.1 8 = .ok (.getfield 181, 3) := by decide +kernel
theorem dMo_balanceOf_11 : decode mMo_balanceOf.2.1 11 = .ok (.if_icmp .ge 45, 3) := by decide +kernel
theorem dMo_balanceOf_14 : decode mMo_balanceOf.2.1 14 = .ok (.lload_n 3, 1) := by decide +kernel
theorem dMo_balanceOf_15 : decode mMo_balanceOf.2.1 15 = .ok (.aload_n 0, 1) := by decide +kernel
theorem dMo_balanceOf_16 : decode mMo_balanceOf.2.1 16 = .ok (.getfield 78, 3) := by decide +kernel
theorem dMo_balanceOf_19 : decode mMo_balanceOf.2.1 19 = .ok (.iload 5, 2) := by decide +kernel
theorem dMo_balanceOf_21 : decode mMo_balanceOf.2.1 21 = .ok (.iaload, 1) := by decide +kernel
theorem dMo_balanceOf_22 : decode mMo_balanceOf.2.1 22 = .ok (.iload_n 1, 1) := by decide +kernel
theorem dMo_balanceOf_23 : decode mMo_balanceOf.2.1 23 = .ok (.if_icmp .ne 24, 3) := by decide +kernel
theorem dMo_balanceOf_26 : decode mMo_balanceOf.2.1 26 = .ok (.aload_n 0, 1) := by decide +kernel
theorem dMo_balanceOf_27 : decode mMo_balanceOf.2.1 27 = .ok (.getfield 81, 3) := by decide +kernel
theorem dMo_balanceOf_30 : decode mMo_balanceOf.2.1 30 = .ok (.iload 5, 2) := by decide +kernel
theorem dMo_balanceOf_32 : decode mMo_balanceOf.2.1 32 = .ok (.iaload, 1) := by decide +kernel
theorem dMo_balanceOf_33 : decode mMo_balanceOf.2.1 33 = .ok (.iload_n 2, 1) := by decide +kernel
theorem dMo_balanceOf_34 : decode mMo_balanceOf.2.1 34 = .ok (.if_icmp .gt 13, 3) := by decide +kernel
theorem dMo_balanceOf_37 : decode mMo_balanceOf.2.1 37 = .ok (.aload_n 0, 1) := by decide +kernel
theorem dMo_balanceOf_38 : decode mMo_balanceOf.2.1 38 = .ok (.getfield 84, 3) := by decide +kernel
theorem dMo_balanceOf_41 : decode mMo_balanceOf.2.1 41 = .ok (.iload 5, 2) := by decide +kernel
theorem dMo_balanceOf_43 : decode mMo_balanceOf.2.1 43 = .ok (.laload, 1) := by decide +kernel
theorem dMo_balanceOf_44 : decode mMo_balanceOf.2.1 44 = .ok (.goto 4, 3) := by decide +kernel
theorem dMo_balanceOf_47 : decode mMo_balanceOf.2.1 47 = .ok (.lconst 0, 1) := by decide +kernel
theorem dMo_balanceOf_48 : decode mMo_balanceOf.2.1 48 = .ok (.ladd, 1) := by decide +kernel
theorem dMo_balanceOf_49 : decode mMo_balanceOf.2.1 49 = .ok (.lstore_n 3, 1) := by decide +kernel
theorem dMo_balanceOf_50 : decode mMo_balanceOf.2.1 50 = .ok (.iinc 5 1, 3) := by decide +kernel
theorem dMo_balanceOf_53 : decode mMo_balanceOf.2.1 53 = .ok (.goto (-48), 3) := by decide +kernel
theorem dMo_balanceOf_56 : decode mMo_balanceOf.2.1 56 = .ok (.lload_n 3, 1) := by decide +kernel
theorem dMo_balanceOf_57 : decode mMo_balanceOf.2.1 57 = .ok (.lreturn, 1) := by decide +kernel
theorem dMo_balance_0 : decode mMo_balance.2.1 0 = .ok (.iload_n 1, 1) := by decide +kernel
theorem dMo_balance_1 : decode mMo_balance.2.1 1 = .ok (.ifCond .lt 11, 3) := by decide +kernel
theorem dMo_balance_4 : decode mMo_balance.2.1 4 = .ok (.iload_n 1, 1) := by decide +kernel
theorem dMo_balance_5 : decode mMo_balance.2.1 5 = .ok (.aload_n 0, 1) := by decide +kernel
theorem dMo_balance_6 : decode mMo_balance.2.1 6 = .ok (.getfield 178, 3) := by decide +kernel
theorem dMo_balance_9 : decode mMo_balance.2.1 9 = .ok (.if_icmp .lt 9, 3) := by decide +kernel
theorem dMo_balance_12 : decode mMo_balance.2.1 12 = .ok (.ldc2_w 138, 3) := by decide +kernel
theorem dMo_balance_15 : decode mMo_balance.2.1 15 = .ok (.goto 9, 3) := by decide +kernel
theorem dMo_balance_18 : decode mMo_balance.2.1 18 = .ok (.aload_n 0, 1) := by decide +kernel
theorem dMo_balance_19 : decode mMo_balance.2.1 19 = .ok (.iload_n 1, 1) := by decide +kernel
theorem dMo_balance_20 : decode mMo_balance.2.1 20 = .ok (.iload_n 2, 1) := by decide +kernel
theorem dMo_balance_21 : decode mMo_balance.2.1 21 = .ok (.invokevirtual 192, 3) := by decide +kernel
theorem dMo_balance_24 : decode mMo_balance.2.1 24 = .ok (.lreturn, 1) := by decide +kernel
theorem dMo_warm_0 : decode mMo_warm.2.1 0 = .ok (.aload_n 0, 1) := by decide +kernel
theorem dMo_warm_1 : decode mMo_warm.2.1 1 = .ok (.iload_n 1, 1) := by decide +kernel
theorem dMo_warm_2 : decode mMo_warm.2.1 2 = .ok (.invokevirtual 94, 3) := by decide +kernel
theorem dMo_warm_5 : decode mMo_warm.2.1 5 = .ok (.ifCond .eq 15, 3) := by decide +kernel
theorem dMo_warm_8 : decode mMo_warm.2.1 8 = .ok (.iload_n 2, 1) := by decide +kernel
theorem dMo_warm_9 : decode mMo_warm.2.1 9 = .ok (.iconst 1, 1) := by decide +kernel
theorem dMo_warm_10 : decode mMo_warm.2.1 10 = .ok (.if_icmp .lt 10, 3) := by decide +kernel
theorem dMo_warm_13 : decode mMo_warm.2.1 13 = .ok (.iload_n 2, 1) := by decide +kernel
theorem dMo_warm_14 : decode mMo_warm.2.1 14 = .ok (.sipush 4000, 3) := by decide +kernel
theorem dMo_warm_17 : decode mMo_warm.2.1 17 = .ok (.if_icmp .le 5, 3) := by decide +kernel
theorem dMo_warm_20 : decode mMo_warm.2.1 20 = .ok (.iconst 0, 1) := by decide +kernel
theorem dMo_warm_21 : decode mMo_warm.2.1 21 = .ok (.ireturn, 1) := by decide +kernel
theorem dMo_warm_22 : decode mMo_warm.2.1 22 = .ok (.aload_n 0, 1) := by decide +kernel
theorem dMo_warm_23 : decode mMo_warm.2.1 23 = .ok (.getfield 30, 3) := by decide +kernel
theorem dMo_warm_26 : decode mMo_warm.2.1 26 = .ok (.iload_n 1, 1) := by decide +kernel
theorem dMo_warm_27 : decode mMo_warm.2.1 27 = .ok (.iload_n 2, 1) := by decide +kernel
theorem dMo_warm_28 : decode mMo_warm.2.1 28 = .ok (.aload_n 0, 1) := by decide +kernel
theorem dMo_warm_29 : decode mMo_warm.2.1 29 = .ok (.getfield 30, 3) := by decide +kernel
theorem dMo_warm_32 : decode mMo_warm.2.1 32 = .ok (.iload_n 1, 1) := by decide +kernel
theorem dMo_warm_33 : decode mMo_warm.2.1 33 = .ok (.iaload, 1) := by decide +kernel
theorem dMo_warm_34 : decode mMo_warm.2.1 34 = .ok (.if_icmp .le 7, 3) := by decide +kernel
theorem dMo_warm_37 : decode mMo_warm.2.1 37 = .ok (.iload_n 2, 1) := by decide +kernel
theorem dMo_warm_38 : decode mMo_warm.2.1 38 = .ok (.goto 9, 3) := by decide +kernel
theorem dMo_warm_41 : decode mMo_warm.2.1 41 = .ok (.aload_n 0, 1) := by decide +kernel
theorem dMo_warm_42 : decode mMo_warm.2.1 42 = .ok (.getfield 30, 3) := by decide +kernel
theorem dMo_warm_45 : decode mMo_warm.2.1 45 = .ok (.iload_n 1, 1) := by decide +kernel
theorem dMo_warm_46 : decode mMo_warm.2.1 46 = .ok (.iaload, 1) := by decide +kernel
theorem dMo_warm_47 : decode mMo_warm.2.1 47 = .ok (.iastore, 1) := by decide +kernel
theorem dMo_warm_48 : decode mMo_warm.2.1 48 = .ok (.iconst 1, 1) := by decide +kernel
theorem dMo_warm_49 : decode mMo_warm.2.1 49 = .ok (.ireturn, 1) := by decide +kernel
theorem dMo_paper_0 : decode mMo_paper.2.1 0 = .ok (.aload_n 0, 1) := by decide +kernel
theorem dMo_paper_1 : decode mMo_paper.2.1 1 = .ok (.iload_n 1, 1) := by decide +kernel
theorem dMo_paper_2 : decode mMo_paper.2.1 2 = .ok (.iconst 3, 1) := by decide +kernel
theorem dMo_paper_3 : decode mMo_paper.2.1 3 = .ok (.invokevirtual 116, 3) := by decide +kernel
theorem dMo_paper_6 : decode mMo_paper.2.1 6 = .ok (.ifCond .eq 13, 3) := by decide +kernel
theorem dMo_paper_9 : decode mMo_paper.2.1 9 = .ok (.iload_n 2, 1) := by decide +kernel
theorem dMo_paper_10 : decode mMo_paper.2.1 10 = .ok (.ifCond .lt 9, 3) := by decide +kernel
theorem dMo_paper_13 : decode mMo_paper.2.1 13 = .ok (.iload_n 2, 1) := by decide +kernel
theorem dMo_paper_14 : decode mMo_paper.2.1 14 = .ok (.bipush 99, 2) := by decide +kernel
theorem dMo_paper_16 : decode mMo_paper.2.1 16 = .ok (.if_icmp .le 5, 3) := by decide +kernel
theorem dMo_paper_19 : decode mMo_paper.2.1 19 = .ok (.iconst (-1), 1) := by decide +kernel
theorem dMo_paper_20 : decode mMo_paper.2.1 20 = .ok (.ireturn, 1) := by decide +kernel
theorem dMo_paper_21 : decode mMo_paper.2.1 21 = .ok (.aload_n 0, 1) := by decide +kernel
theorem dMo_paper_22 : decode mMo_paper.2.1 22 = .ok (.iconst 0, 1) := by decide +kernel
theorem dMo_paper_23 : decode mMo_paper.2.1 23 = .ok (.putfield 195, 3) := by decide +kernel
theorem dMo_paper_26 : decode mMo_paper.2.1 26 = .ok (.aload_n 0, 1) := by decide +kernel
theorem dMo_paper_27 : decode mMo_paper.2.1 27 = .ok (.iload_n 2, 1) := by decide +kernel
theorem dMo_paper_28 : decode mMo_paper.2.1 28 = .ok (.i2l, 1) := by decide +kernel
theorem dMo_paper_29 : decode mMo_paper.2.1 29 = .ok (.invokevirtual 205, 3) := by decide +kernel
theorem dMo_paper_32 : decode mMo_paper.2.1 32 = .ok (.aload_n 0, 1) := by decide +kernel
theorem dMo_paper_33 : decode mMo_paper.2.1 33 = .ok (.bipush 47, 2) := by decide +kernel
theorem dMo_paper_35 : decode mMo_paper.2.1 35 = .ok (.invokevirtual 202, 3) := by decide +kernel
theorem dMo_paper_38 : decode mMo_paper.2.1 38 = .ok (.aload_n 0, 1) := by decide +kernel
theorem dMo_paper_39 : decode mMo_paper.2.1 39 = .ok (.iload_n 1, 1) := by decide +kernel
theorem dMo_paper_40 : decode mMo_paper.2.1 40 = .ok (.i2l, 1) := by decide +kernel
theorem dMo_paper_41 : decode mMo_paper.2.1 41 = .ok (.invokevirtual 205, 3) := by decide +kernel
theorem dMo_paper_44 : decode mMo_paper.2.1 44 = .ok (.iconst 0, 1) := by decide +kernel
theorem dMo_paper_45 : decode mMo_paper.2.1 45 = .ok (.istore 4, 2) := by decide +kernel
theorem dMo_paper_47 : decode mMo_paper.2.1 47 = .ok (.iload 4, 2) := by decide +kernel
theorem dMo_paper_49 : decode mMo_paper.2.1 49 = .ok (.aload_n 0, 1) := by decide +kernel
theorem dMo_paper_50 : decode mMo_paper.2.1 50 = .ok (.getfield 13, 3) := by decide +kernel
theorem dMo_paper_53 : decode mMo_paper.2.1 53 = .ok (.iload_n 1, 1) := by decide +kernel
theorem dMo_paper_54 : decode mMo_paper.2.1 54 = .ok (.iaload, 1) := by decide +kernel
theorem dMo_paper_55 : decode mMo_paper.2.1 55 = .ok (.if_icmp .ge 54, 3) := by decide +kernel
theorem dMo_paper_58 : decode mMo_paper.2.1 58 = .ok (.aload_n 0, 1) := by decide +kernel
theorem dMo_paper_59 : decode mMo_paper.2.1 59 = .ok (.bipush 32, 2) := by decide +kernel
theorem dMo_paper_61 : decode mMo_paper.2.1 61 = .ok (.invokevirtual 202, 3) := by decide +kernel
theorem dMo_paper_64 : decode mMo_paper.2.1 64 = .ok (.aload_n 0, 1) := by decide +kernel
theorem dMo_paper_65 : decode mMo_paper.2.1 65 = .ok (.aload_n 0, 1) := by decide +kernel
theorem dMo_paper_66 : decode mMo_paper.2.1 66 = .ok (.getfield 16, 3) := by decide +kernel
theorem dMo_paper_69 : decode mMo_paper.2.1 69 = .ok (.bipush 81, 2) := by decide +kernel
theorem dMo_paper_71 : decode mMo_paper.2.1 71 = .ok (.iload_n 1, 1) := by decide +kernel
theorem dMo_paper_72 : decode mMo_paper.2.1 72 = .ok (.imul, 1) := by decide +kernel
theorem dMo_paper_73 : decode mMo_paper.2.1 73 = .ok (.iload 4, 2) := by decide +kernel
theorem dMo_paper_75 : decode mMo_paper.2.1 75 = .ok (.iadd, 1) := by decide +kernel
theorem dMo_paper_76 : decode mMo_paper.2.1 76 = .ok (.iaload, 1) := by decide +kernel
theorem dMo_paper_77 : decode mMo_paper.2.1 77 = .ok (.i2l, 1) := by decide +kernel
theorem dMo_paper_78 : decode mMo_paper.2.1 78 = .ok (.invokevirtual 205, 3) := by decide +kernel
theorem dMo_paper_81 : decode mMo_paper.2.1 81 = .ok (.aload_n 0, 1) := by decide +kernel
theorem dMo_paper_82 : decode mMo_paper.2.1 82 = .ok (.bipush 58, 2) := by decide +kernel
theorem dMo_paper_84 : decode mMo_paper.2.1 84 = .ok (.invokevirtual 202, 3) := by decide +kernel
theorem dMo_paper_87 : decode mMo_paper.2.1 87 = .ok (.aload_n 0, 1) := by decide +kernel
theorem dMo_paper_88 : decode mMo_paper.2.1 88 = .ok (.aload_n 0, 1) := by decide +kernel
theorem dMo_paper_89 : decode mMo_paper.2.1 89 = .ok (.getfield 19, 3) := by decide +kernel
theorem dMo_paper_92 : decode mMo_paper.2.1 92 = .ok (.bipush 81, 2) := by decide +kernel
theorem dMo_paper_94 : decode mMo_paper.2.1 94 = .ok (.iload_n 1, 1) := by decide +kernel
theorem dMo_paper_95 : decode mMo_paper.2.1 95 = .ok (.imul, 1) := by decide +kernel
theorem dMo_paper_96 : decode mMo_paper.2.1 96 = .ok (.iload 4, 2) := by decide +kernel
theorem dMo_paper_98 : decode mMo_paper.2.1 98 = .ok (.iadd, 1) := by decide +kernel
theorem dMo_paper_99 : decode mMo_paper.2.1 99 = .ok (.laload, 1) := by decide +kernel
theorem dMo_paper_100 : decode mMo_paper.2.1 100 = .ok (.invokevirtual 205, 3) := by decide +kernel
theorem dMo_paper_103 : decode mMo_paper.2.1 103 = .ok (.iinc 4 1, 3) := by decide +kernel
theorem dMo_paper_106 : decode mMo_paper.2.1 106 = .ok (.goto (-59), 3) := by decide +kernel
theorem dMo_paper_109 : decode mMo_paper.2.1 109 = .ok (.iload_n 3, 1) := by decide +kernel
theorem dMo_paper_110 : decode mMo_paper.2.1 110 = .ok (.ifCond .lt 11, 3) := by decide +kernel
theorem dMo_paper_113 : decode mMo_paper.2.1 113 = .ok (.iload_n 3, 1) := by decide +kernel
theorem dMo_paper_114 : decode mMo_paper.2.1 114 = .ok (.aload_n 0, 1) := by decide +kernel
theorem dMo_paper_115 : decode mMo_paper.2.1 115 = .ok (.getfield 195, 3) := by decide +kernel
theorem dMo_paper_118 : decode mMo_paper.2.1 118 = .ok (.if_icmp .lt 7, 3) := by decide +kernel
theorem dMo_paper_121 : decode mMo_paper.2.1 121 = .ok (.iconst (-1), 1) := by decide +kernel
theorem dMo_paper_122 : decode mMo_paper.2.1 122 = .ok (.goto 9, 3) := by decide +kernel
theorem dMo_paper_125 : decode mMo_paper.2.1 125 = .ok (.aload_n 0, 1) := by decide +kernel
theorem dMo_paper_126 : decode mMo_paper.2.1 126 = .ok (.getfield 87, 3) := by decide +kernel
theorem dMo_paper_129 : decode mMo_paper.2.1 129 = .ok (.iload_n 3, 1) := by decide +kernel
theorem dMo_paper_130 : decode mMo_paper.2.1 130 = .ok (.iaload, 1) := by decide +kernel
theorem dMo_paper_131 : decode mMo_paper.2.1 131 = .ok (.ireturn, 1) := by decide +kernel
theorem dMo_writeNumber_0 : decode mMo_writeNumber.2.1 0 = .ok (.lconst 1, 1) := by decide +kernel
theorem dMo_writeNumber_1 : decode mMo_writeNumber.2.1 1 = .ok (.lstore_n 3, 1) := by decide +kernel
theorem dMo_writeNumber_2 : decode mMo_writeNumber.2.1 2 = .ok (.lload_n 1, 1) := by decide +kernel
theorem dMo_writeNumber_3 : decode mMo_writeNumber.2.1 3 = .ok (.lload_n 3, 1) := by decide +kernel
theorem dMo_writeNumber_4 : decode mMo_writeNumber.2.1 4 = .ok (.ldiv, 1) := by decide +kernel
theorem dMo_writeNumber_5 : decode mMo_writeNumber.2.1 5 = .ok (.ldc2_w 198, 3) := by decide +kernel
theorem dMo_writeNumber_8 : decode mMo_writeNumber.2.1 8 = .ok (.lcmp, 1) := by decide +kernel
theorem dMo_writeNumber_9 : decode mMo_writeNumber.2.1 9 = .ok (.ifCond .le 12, 3) := by decide +kernel
theorem dMo_writeNumber_12 : decode mMo_writeNumber.2.1 12 = .ok (.ldc2_w 200, 3) := by decide +kernel
theorem dMo_writeNumber_15 : decode mMo_writeNumber.2.1 15 = .ok (.lload_n 3, 1) := by decide +kernel
theorem dMo_writeNumber_16 : decode mMo_writeNumber.2.1 16 = .ok (.lmul, 1) := by decide +kernel
theorem dMo_writeNumber_17 : decode mMo_writeNumber.2.1 17 = .ok (.lstore_n 3, 1) := by decide +kernel
theorem dMo_writeNumber_18 : decode mMo_writeNumber.2.1 18 = .ok (.goto (-16), 3) := by decide +kernel
theorem dMo_writeNumber_21 : decode mMo_writeNumber.2.1 21 = .ok (.lload_n 3, 1) := by decide +kernel
theorem dMo_writeNumber_22 : decode mMo_writeNumber.2.1 22 = .ok (.lconst 0, 1) := by decide +kernel
theorem dMo_writeNumber_23 : decode mMo_writeNumber.2.1 23 = .ok (.lcmp, 1) := by decide +kernel
theorem dMo_writeNumber_24 : decode mMo_writeNumber.2.1 24 = .ok (.ifCond .le 27, 3) := by decide +kernel
theorem dMo_writeNumber_27 : decode mMo_writeNumber.2.1 27 = .ok (.aload_n 0, 1) := by decide +kernel
theorem dMo_writeNumber_28 : decode mMo_writeNumber.2.1 28 = .ok (.bipush 48, 2) := by decide +kernel
theorem dMo_writeNumber_30 : decode mMo_writeNumber.2.1 30 = .ok (.lload_n 1, 1) := by decide +kernel
theorem dMo_writeNumber_31 : decode mMo_writeNumber.2.1 31 = .ok (.lload_n 3, 1) := by decide +kernel
theorem dMo_writeNumber_32 : decode mMo_writeNumber.2.1 32 = .ok (.ldiv, 1) := by decide +kernel
theorem dMo_writeNumber_33 : decode mMo_writeNumber.2.1 33 = .ok (.ldc2_w 200, 3) := by decide +kernel
theorem dMo_writeNumber_36 : decode mMo_writeNumber.2.1 36 = .ok (.lrem, 1) := by decide +kernel
theorem dMo_writeNumber_37 : decode mMo_writeNumber.2.1 37 = .ok (.l2i, 1) := by decide +kernel
theorem dMo_writeNumber_38 : decode mMo_writeNumber.2.1 38 = .ok (.iadd, 1) := by decide +kernel
theorem dMo_writeNumber_39 : decode mMo_writeNumber.2.1 39 = .ok (.invokevirtual 202, 3) := by decide +kernel
theorem dMo_writeNumber_42 : decode mMo_writeNumber.2.1 42 = .ok (.lload_n 3, 1) := by decide +kernel
theorem dMo_writeNumber_43 : decode mMo_writeNumber.2.1 43 = .ok (.ldc2_w 200, 3) := by decide +kernel
theorem dMo_writeNumber_46 : decode mMo_writeNumber.2.1 46 = .ok (.ldiv, 1) := by decide +kernel
theorem dMo_writeNumber_47 : decode mMo_writeNumber.2.1 47 = .ok (.lstore_n 3, 1) := by decide +kernel
theorem dMo_writeNumber_48 : decode mMo_writeNumber.2.1 48 = .ok (.goto (-27), 3) := by decide +kernel
theorem dMo_writeNumber_51 : decode mMo_writeNumber.2.1 51 = .ok (.return_, 1) := by decide +kernel
theorem dMo_write_0 : decode mMo_write.2.1 0 = .ok (.aload_n 0, 1) := by decide +kernel
theorem dMo_write_1 : decode mMo_write.2.1 1 = .ok (.getfield 87, 3) := by decide +kernel
theorem dMo_write_4 : decode mMo_write.2.1 4 = .ok (.aload_n 0, 1) := by decide +kernel
theorem dMo_write_5 : decode mMo_write.2.1 5 = .ok (.getfield 195, 3) := by decide +kernel
theorem dMo_write_8 : decode mMo_write.2.1 8 = .ok (.iload_n 1, 1) := by decide +kernel
theorem dMo_write_9 : decode mMo_write.2.1 9 = .ok (.iastore, 1) := by decide +kernel
theorem dMo_write_10 : decode mMo_write.2.1 10 = .ok (.aload_n 0, 1) := by decide +kernel
theorem dMo_write_11 : decode mMo_write.2.1 11 = .ok (.dup, 1) := by decide +kernel
theorem dMo_write_12 : decode mMo_write.2.1 12 = .ok (.getfield 195, 3) := by decide +kernel
theorem dMo_write_15 : decode mMo_write.2.1 15 = .ok (.iconst 1, 1) := by decide +kernel
theorem dMo_write_16 : decode mMo_write.2.1 16 = .ok (.iadd, 1) := by decide +kernel
theorem dMo_write_17 : decode mMo_write.2.1 17 = .ok (.putfield 195, 3) := by decide +kernel
theorem dMo_write_20 : decode mMo_write.2.1 20 = .ok (.return_, 1) := by decide +kernel
theorem dMo_all_0 : decode mMo_all.2.1 0 = .ok (.lconst 0, 1) := by decide +kernel
theorem dMo_all_1 : decode mMo_all.2.1 1 = .ok (.lstore_n 2, 1) := by decide +kernel
theorem dMo_all_2 : decode mMo_all.2.1 2 = .ok (.iload_n 1, 1) := by decide +kernel
theorem dMo_all_3 : decode mMo_all.2.1 3 = .ok (.tableswitch 129 0 7 #[45, 75, 75, 75, 81, 111, 117, 123], 45) := by decide +kernel
theorem dMo_all_48 : decode mMo_all.2.1 48 = .ok (.iconst 0, 1) := by decide +kernel
theorem dMo_all_49 : decode mMo_all.2.1 49 = .ok (.istore 4, 2) := by decide +kernel
theorem dMo_all_51 : decode mMo_all.2.1 51 = .ok (.iload 4, 2) := by decide +kernel
theorem dMo_all_53 : decode mMo_all.2.1 53 = .ok (.aload_n 0, 1) := by decide +kernel
theorem dMo_all_54 : decode mMo_all.2.1 54 = .ok (.getfield 90, 3) := by decide +kernel
theorem dMo_all_57 : decode mMo_all.2.1 57 = .ok (.if_icmp .ge 19, 3) := by decide +kernel
theorem dMo_all_60 : decode mMo_all.2.1 60 = .ok (.lload_n 2, 1) := by decide +kernel
theorem dMo_all_61 : decode mMo_all.2.1 61 = .ok (.aload_n 0, 1) := by decide +kernel
theorem dMo_all_62 : decode mMo_all.2.1 62 = .ok (.getfield 39, 3) := by decide +kernel
theorem dMo_all_65 : decode mMo_all.2.1 65 = .ok (.iload 4, 2) := by decide +kernel
theorem dMo_all_67 : decode mMo_all.2.1 67 = .ok (.laload, 1) := by decide +kernel
theorem dMo_all_68 : decode mMo_all.2.1 68 = .ok (.ladd, 1) := by decide +kernel
theorem dMo_all_69 : decode mMo_all.2.1 69 = .ok (.lstore_n 2, 1) := by decide +kernel
theorem dMo_all_70 : decode mMo_all.2.1 70 = .ok (.iinc 4 1, 3) := by decide +kernel
theorem dMo_all_73 : decode mMo_all.2.1 73 = .ok (.goto (-22), 3) := by decide +kernel
theorem dMo_all_76 : decode mMo_all.2.1 76 = .ok (.lload_n 2, 1) := by decide +kernel
theorem dMo_all_77 : decode mMo_all.2.1 77 = .ok (.lreturn, 1) := by decide +kernel
theorem dMo_all_78 : decode mMo_all.2.1 78 = .ok (.aload_n 0, 1) := by decide +kernel
theorem dMo_all_79 : decode mMo_all.2.1 79 = .ok (.iload_n 1, 1) := by decide +kernel
theorem dMo_all_80 : decode mMo_all.2.1 80 = .ok (.invokevirtual 209, 3) := by decide +kernel
theorem dMo_all_83 : decode mMo_all.2.1 83 = .ok (.lreturn, 1) := by decide +kernel
theorem dMo_all_84 : decode mMo_all.2.1 84 = .ok (.iconst 0, 1) := by decide +kernel
theorem dMo_all_85 : decode mMo_all.2.1 85 = .ok (.istore 4, 2) := by decide +kernel
theorem dMo_all_87 : decode mMo_all.2.1 87 = .ok (.iload 4, 2) := by decide +kernel
theorem dMo_all_89 : decode mMo_all.2.1 89 = .ok (.aload_n 0, 1) := by decide +kernel
theorem dMo_all_90 : decode mMo_all.2.1 90 = .ok (.getfield 90, 3) := by decide +kernel
theorem dMo_all_93 : decode mMo_all.2.1 93 = .ok (.if_icmp .ge 19, 3) := by decide +kernel
theorem dMo_all_96 : decode mMo_all.2.1 96 = .ok (.lload_n 2, 1) := by decide +kernel
theorem dMo_all_97 : decode mMo_all.2.1 97 = .ok (.aload_n 0, 1) := by decide +kernel
theorem dMo_all_98 : decode mMo_all.2.1 98 = .ok (.getfield 23, 3) := by decide +kernel
theorem dMo_all_101 : decode mMo_all.2.1 101 = .ok (.iload 4, 2) := by decide +kernel
theorem dMo_all_103 : decode mMo_all.2.1 103 = .ok (.laload, 1) := by decide +kernel
theorem dMo_all_104 : decode mMo_all.2.1 104 = .ok (.ladd, 1) := by decide +kernel
theorem dMo_all_105 : decode mMo_all.2.1 105 = .ok (.lstore_n 2, 1) := by decide +kernel
theorem dMo_all_106 : decode mMo_all.2.1 106 = .ok (.iinc 4 1, 3) := by decide +kernel
theorem dMo_all_109 : decode mMo_all.2.1 109 = .ok (.goto (-22), 3) := by decide +kernel
theorem dMo_all_112 : decode mMo_all.2.1 112 = .ok (.lload_n 2, 1) := by decide +kernel
theorem dMo_all_113 : decode mMo_all.2.1 113 = .ok (.lreturn, 1) := by decide +kernel
theorem dMo_all_114 : decode mMo_all.2.1 114 = .ok (.aload_n 0, 1) := by decide +kernel
theorem dMo_all_115 : decode mMo_all.2.1 115 = .ok (.getfield 90, 3) := by decide +kernel
theorem dMo_all_118 : decode mMo_all.2.1 118 = .ok (.i2l, 1) := by decide +kernel
theorem dMo_all_119 : decode mMo_all.2.1 119 = .ok (.lreturn, 1) := by decide +kernel
theorem dMo_all_120 : decode mMo_all.2.1 120 = .ok (.aload_n 0, 1) := by decide +kernel
theorem dMo_all_121 : decode mMo_all.2.1 121 = .ok (.getfield 175, 3) := by decide +kernel
theorem dMo_all_124 : decode mMo_all.2.1 124 = .ok (.i2l, 1) := by decide +kernel
theorem dMo_all_125 : decode mMo_all.2.1 125 = .ok (.lreturn, 1) := by decide +kernel
theorem dMo_all_126 : decode mMo_all.2.1 126 = .ok (.aload_n 0, 1) := by decide +kernel
theorem dMo_all_127 : decode mMo_all.2.1 127 = .ok (.getfield 178, 3) := by decide +kernel
theorem dMo_all_130 : decode mMo_all.2.1 130 = .ok (.i2l, 1) := by decide +kernel
theorem dMo_all_131 : decode mMo_all.2.1 131 = .ok (.lreturn, 1) := by decide +kernel
theorem dMo_all_132 : decode mMo_all.2.1 132 = .ok (.ldc2_w 138, 3) := by decide +kernel
theorem dMo_all_135 : decode mMo_all.2.1 135 = .ok (.lreturn, 1) := by decide +kernel
theorem dMo_allIn_0 : decode mMo_allIn.2.1 0 = .ok (.lconst 0, 1) := by decide +kernel
theorem dMo_allIn_1 : decode mMo_allIn.2.1 1 = .ok (.lstore_n 2, 1) := by decide +kernel
theorem dMo_allIn_2 : decode mMo_allIn.2.1 2 = .ok (.iconst 0, 1) := by decide +kernel
theorem dMo_allIn_3 : decode mMo_allIn.2.1 3 = .ok (.istore 4, 2) := by decide +kernel
theorem dMo_allIn_5 : decode mMo_allIn.2.1 5 = .ok (.iload 4, 2) := by decide +kernel
theorem dMo_allIn_7 : decode mMo_allIn.2.1 7 = .ok (.aload_n 0, 1) := by decide +kernel
theorem dMo_allIn_8 : decode mMo_allIn.2.1 8 = .ok (.getfield 90, 3) := by decide +kernel
theorem dMo_allIn_11 : decode mMo_allIn.2.1 11 = .ok (.if_icmp .ge 33, 3) := by decide +kernel
theorem dMo_allIn_14 : decode mMo_allIn.2.1 14 = .ok (.lload_n 2, 1) := by decide +kernel
theorem dMo_allIn_15 : decode mMo_allIn.2.1 15 = .ok (.aload_n 0, 1) := by decide +kernel
theorem dMo_allIn_16 : decode mMo_allIn.2.1 16 = .ok (.getfield 7, 3) := by decide +kernel
theorem dMo_allIn_19 : decode mMo_allIn.2.1 19 = .ok (.iload 4, 2) := by decide +kernel
theorem dMo_allIn_21 : decode mMo_allIn.2.1 21 = .ok (.iaload, 1) := by decide +kernel
theorem dMo_allIn_22 : decode mMo_allIn.2.1 22 = .ok (.iload_n 1, 1) := by decide +kernel
theorem dMo_allIn_23 : decode mMo_allIn.2.1 23 = .ok (.if_icmp .ne 12, 3) := by decide +kernel
theorem dMo_allIn_26 : decode mMo_allIn.2.1 26 = .ok (.aload_n 0, 1) := by decide +kernel
theorem dMo_allIn_27 : decode mMo_allIn.2.1 27 = .ok (.iload 4, 2) := by decide +kernel
theorem dMo_allIn_29 : decode mMo_allIn.2.1 29 = .ok (.invokevirtual 112, 3) := by decide +kernel
theorem dMo_allIn_32 : decode mMo_allIn.2.1 32 = .ok (.goto 4, 3) := by decide +kernel
theorem dMo_allIn_35 : decode mMo_allIn.2.1 35 = .ok (.lconst 0, 1) := by decide +kernel
theorem dMo_allIn_36 : decode mMo_allIn.2.1 36 = .ok (.ladd, 1) := by decide +kernel
theorem dMo_allIn_37 : decode mMo_allIn.2.1 37 = .ok (.lstore_n 2, 1) := by decide +kernel
theorem dMo_allIn_38 : decode mMo_allIn.2.1 38 = .ok (.iinc 4 1, 3) := by decide +kernel
theorem dMo_allIn_41 : decode mMo_allIn.2.1 41 = .ok (.goto (-36), 3) := by decide +kernel
theorem dMo_allIn_44 : decode mMo_allIn.2.1 44 = .ok (.lload_n 2, 1) := by decide +kernel
theorem dMo_allIn_45 : decode mMo_allIn.2.1 45 = .ok (.lreturn, 1) := by decide +kernel
end
section
theorem dLw_law_0 : decode mLw_law.2.1 0 = .ok (.new 7, 3) := by decide +kernel
theorem dLw_law_3 : decode mLw_law.2.1 3 = .ok (.dup, 1) := by decide +kernel
theorem dLw_law_4 : decode mLw_law.2.1 4 = .ok (.invokespecial 9, 3) := by decide +kernel
theorem dLw_law_7 : decode mLw_law.2.1 7 = .ok (.astore_n 1, 1) := by decide +kernel
theorem dLw_law_8 : decode mLw_law.2.1 8 = .ok (.new 10, 3) := by decide +kernel
theorem dLw_law_11 : decode mLw_law.2.1 11 = .ok (.dup, 1) := by decide +kernel
theorem dLw_law_12 : decode mLw_law.2.1 12 = .ok (.invokespecial 12, 3) := by decide +kernel
theorem dLw_law_15 : decode mLw_law.2.1 15 = .ok (.astore_n 2, 1) := by decide +kernel
theorem dLw_law_16 : decode mLw_law.2.1 16 = .ok (.iconst 0, 1) := by decide +kernel
theorem dLw_law_17 : decode mLw_law.2.1 17 = .ok (.istore_n 3, 1) := by decide +kernel
theorem dLw_law_18 : decode mLw_law.2.1 18 = .ok (.iload_n 3, 1) := by decide +kernel
theorem dLw_law_19 : decode mLw_law.2.1 19 = .ok (.aload_n 0, 1) := by decide +kernel
theorem dLw_law_20 : decode mLw_law.2.1 20 = .ok (.arraylength, 1) := by decide +kernel
theorem dLw_law_21 : decode mLw_law.2.1 21 = .ok (.iconst 5, 1) := by decide +kernel
theorem dLw_law_22 : decode mLw_law.2.1 22 = .ok (.isub, 1) := by decide +kernel
theorem dLw_law_23 : decode mLw_law.2.1 23 = .ok (.if_icmp .gt 1151, 3) := by decide +kernel
theorem dLw_law_26 : decode mLw_law.2.1 26 = .ok (.aload_n 0, 1) := by decide +kernel
theorem dLw_law_27 : decode mLw_law.2.1 27 = .ok (.iload_n 3, 1) := by decide +kernel
theorem dLw_law_28 : decode mLw_law.2.1 28 = .ok (.iaload, 1) := by decide +kernel
theorem dLw_law_29 : decode mLw_law.2.1 29 = .ok (.bipush 31, 2) := by decide +kernel
theorem dLw_law_31 : decode mLw_law.2.1 31 = .ok (.iand, 1) := by decide +kernel
theorem dLw_law_32 : decode mLw_law.2.1 32 = .ok (.tableswitch 1136 0 23 #[112, 185, 198, 271, 344, 408, 457, 520, 554, 598, 642, 675, 698, 731, 754, 777, 790, 833, 856, 929, 1002, 1036, 1069, 1112], 112) := by decide +kernel
theorem dLw_law_144 : decode mLw_law.2.1 144 = .ok (.aload_n 1, 1) := by decide +kernel
theorem dLw_law_145 : decode mLw_law.2.1 145 = .ok (.aload_n 0, 1) := by decide +kernel
theorem dLw_law_146 : decode mLw_law.2.1 146 = .ok (.iload_n 3, 1) := by decide +kernel
theorem dLw_law_147 : decode mLw_law.2.1 147 = .ok (.iconst 1, 1) := by decide +kernel
theorem dLw_law_148 : decode mLw_law.2.1 148 = .ok (.iadd, 1) := by decide +kernel
theorem dLw_law_149 : decode mLw_law.2.1 149 = .ok (.iaload, 1) := by decide +kernel
theorem dLw_law_150 : decode mLw_law.2.1 150 = .ok (.i2l, 1) := by decide +kernel
theorem dLw_law_151 : decode mLw_law.2.1 151 = .ok (.bipush 32, 2) := by decide +kernel
theorem dLw_law_153 : decode mLw_law.2.1 153 = .ok (.lshl, 1) := by decide +kernel
theorem dLw_law_154 : decode mLw_law.2.1 154 = .ok (.aload_n 0, 1) := by decide +kernel
theorem dLw_law_155 : decode mLw_law.2.1 155 = .ok (.iload_n 3, 1) := by decide +kernel
theorem dLw_law_156 : decode mLw_law.2.1 156 = .ok (.iconst 2, 1) := by decide +kernel
theorem dLw_law_157 : decode mLw_law.2.1 157 = .ok (.iadd, 1) := by decide +kernel
theorem dLw_law_158 : decode mLw_law.2.1 158 = .ok (.iaload, 1) := by decide +kernel
theorem dLw_law_159 : decode mLw_law.2.1 159 = .ok (.i2l, 1) := by decide +kernel
theorem dLw_law_160 : decode mLw_law.2.1 160 = .ok (.ldc2_w 13, 3) := by decide +kernel
theorem dLw_law_163 : decode mLw_law.2.1 163 = .ok (.land, 1) := by decide +kernel
theorem dLw_law_164 : decode mLw_law.2.1 164 = .ok (.lor, 1) := by decide +kernel
theorem dLw_law_165 : decode mLw_law.2.1 165 = .ok (.aload_n 0, 1) := by decide +kernel
theorem dLw_law_166 : decode mLw_law.2.1 166 = .ok (.iload_n 3, 1) := by decide +kernel
theorem dLw_law_167 : decode mLw_law.2.1 167 = .ok (.iconst 3, 1) := by decide +kernel
theorem dLw_law_168 : decode mLw_law.2.1 168 = .ok (.iadd, 1) := by decide +kernel
theorem dLw_law_169 : decode mLw_law.2.1 169 = .ok (.iaload, 1) := by decide +kernel
theorem dLw_law_170 : decode mLw_law.2.1 170 = .ok (.aload_n 0, 1) := by decide +kernel
theorem dLw_law_171 : decode mLw_law.2.1 171 = .ok (.iload_n 3, 1) := by decide +kernel
theorem dLw_law_172 : decode mLw_law.2.1 172 = .ok (.iconst 4, 1) := by decide +kernel
theorem dLw_law_173 : decode mLw_law.2.1 173 = .ok (.iadd, 1) := by decide +kernel
theorem dLw_law_174 : decode mLw_law.2.1 174 = .ok (.iaload, 1) := by decide +kernel
theorem dLw_law_175 : decode mLw_law.2.1 175 = .ok (.invokevirtual 15, 3) := by decide +kernel
theorem dLw_law_178 : decode mLw_law.2.1 178 = .ok (.aload_n 2, 1) := by decide +kernel
theorem dLw_law_179 : decode mLw_law.2.1 179 = .ok (.aload_n 0, 1) := by decide +kernel
theorem dLw_law_180 : decode mLw_law.2.1 180 = .ok (.iload_n 3, 1) := by decide +kernel
theorem dLw_law_181 : decode mLw_law.2.1 181 = .ok (.iconst 1, 1) := by decide +kernel
theorem dLw_law_182 : decode mLw_law.2.1 182 = .ok (.iadd, 1) := by decide +kernel
theorem dLw_law_183 : decode mLw_law.2.1 183 = .ok (.iaload, 1) := by decide +kernel
theorem dLw_law_184 : decode mLw_law.2.1 184 = .ok (.i2l, 1) := by decide +kernel
theorem dLw_law_185 : decode mLw_law.2.1 185 = .ok (.bipush 32, 2) := by decide +kernel
theorem dLw_law_187 : decode mLw_law.2.1 187 = .ok (.lshl, 1) := by decide +kernel
theorem dLw_law_188 : decode mLw_law.2.1 188 = .ok (.aload_n 0, 1) := by decide +kernel
theorem dLw_law_189 : decode mLw_law.2.1 189 = .ok (.iload_n 3, 1) := by decide +kernel
theorem dLw_law_190 : decode mLw_law.2.1 190 = .ok (.iconst 2, 1) := by decide +kernel
theorem dLw_law_191 : decode mLw_law.2.1 191 = .ok (.iadd, 1) := by decide +kernel
theorem dLw_law_192 : decode mLw_law.2.1 192 = .ok (.iaload, 1) := by decide +kernel
theorem dLw_law_193 : decode mLw_law.2.1 193 = .ok (.i2l, 1) := by decide +kernel
theorem dLw_law_194 : decode mLw_law.2.1 194 = .ok (.ldc2_w 13, 3) := by decide +kernel
theorem dLw_law_197 : decode mLw_law.2.1 197 = .ok (.land, 1) := by decide +kernel
theorem dLw_law_198 : decode mLw_law.2.1 198 = .ok (.lor, 1) := by decide +kernel
theorem dLw_law_199 : decode mLw_law.2.1 199 = .ok (.aload_n 0, 1) := by decide +kernel
theorem dLw_law_200 : decode mLw_law.2.1 200 = .ok (.iload_n 3, 1) := by decide +kernel
theorem dLw_law_201 : decode mLw_law.2.1 201 = .ok (.iconst 3, 1) := by decide +kernel
theorem dLw_law_202 : decode mLw_law.2.1 202 = .ok (.iadd, 1) := by decide +kernel
theorem dLw_law_203 : decode mLw_law.2.1 203 = .ok (.iaload, 1) := by decide +kernel
theorem dLw_law_204 : decode mLw_law.2.1 204 = .ok (.aload_n 0, 1) := by decide +kernel
theorem dLw_law_205 : decode mLw_law.2.1 205 = .ok (.iload_n 3, 1) := by decide +kernel
theorem dLw_law_206 : decode mLw_law.2.1 206 = .ok (.iconst 4, 1) := by decide +kernel
theorem dLw_law_207 : decode mLw_law.2.1 207 = .ok (.iadd, 1) := by decide +kernel
theorem dLw_law_208 : decode mLw_law.2.1 208 = .ok (.iaload, 1) := by decide +kernel
theorem dLw_law_209 : decode mLw_law.2.1 209 = .ok (.invokevirtual 19, 3) := by decide +kernel
theorem dLw_law_212 : decode mLw_law.2.1 212 = .ok (.if_icmp .eq 956, 3) := by decide +kernel
theorem dLw_law_215 : decode mLw_law.2.1 215 = .ok (.iconst 0, 1) := by decide +kernel
theorem dLw_law_216 : decode mLw_law.2.1 216 = .ok (.ireturn, 1) := by decide +kernel
theorem dLw_law_217 : decode mLw_law.2.1 217 = .ok (.aload_n 1, 1) := by decide +kernel
theorem dLw_law_218 : decode mLw_law.2.1 218 = .ok (.invokevirtual 20, 3) := by decide +kernel
theorem dLw_law_221 : decode mLw_law.2.1 221 = .ok (.aload_n 2, 1) := by decide +kernel
theorem dLw_law_222 : decode mLw_law.2.1 222 = .ok (.invokevirtual 24, 3) := by decide +kernel
theorem dLw_law_225 : decode mLw_law.2.1 225 = .ok (.if_icmp .eq 943, 3) := by decide +kernel
theorem dLw_law_228 : decode mLw_law.2.1 228 = .ok (.iconst 0, 1) := by decide +kernel
theorem dLw_law_229 : decode mLw_law.2.1 229 = .ok (.ireturn, 1) := by decide +kernel
theorem dLw_law_230 : decode mLw_law.2.1 230 = .ok (.aload_n 1, 1) := by decide +kernel
theorem dLw_law_231 : decode mLw_law.2.1 231 = .ok (.aload_n 0, 1) := by decide +kernel
theorem dLw_law_232 : decode mLw_law.2.1 232 = .ok (.iload_n 3, 1) := by decide +kernel
theorem dLw_law_233 : decode mLw_law.2.1 233 = .ok (.iconst 1, 1) := by decide +kernel
theorem dLw_law_234 : decode mLw_law.2.1 234 = .ok (.iadd, 1) := by decide +kernel
theorem dLw_law_235 : decode mLw_law.2.1 235 = .ok (.iaload, 1) := by decide +kernel
theorem dLw_law_236 : decode mLw_law.2.1 236 = .ok (.aload_n 0, 1) := by decide +kernel
theorem dLw_law_237 : decode mLw_law.2.1 237 = .ok (.iload_n 3, 1) := by decide +kernel
theorem dLw_law_238 : decode mLw_law.2.1 238 = .ok (.iconst 2, 1) := by decide +kernel
theorem dLw_law_239 : decode mLw_law.2.1 239 = .ok (.iadd, 1) := by decide +kernel
theorem dLw_law_240 : decode mLw_law.2.1 240 = .ok (.iaload, 1) := by decide +kernel
theorem dLw_law_241 : decode mLw_law.2.1 241 = .ok (.aload_n 0, 1) := by decide +kernel
theorem dLw_law_242 : decode mLw_law.2.1 242 = .ok (.iload_n 3, 1) := by decide +kernel
theorem dLw_law_243 : decode mLw_law.2.1 243 = .ok (.iconst 3, 1) := by decide +kernel
theorem dLw_law_244 : decode mLw_law.2.1 244 = .ok (.iadd, 1) := by decide +kernel
theorem dLw_law_245 : decode mLw_law.2.1 245 = .ok (.iaload, 1) := by decide +kernel
theorem dLw_law_246 : decode mLw_law.2.1 246 = .ok (.i2l, 1) := by decide +kernel
theorem dLw_law_247 : decode mLw_law.2.1 247 = .ok (.bipush 32, 2) := by decide +kernel
theorem dLw_law_249 : decode mLw_law.2.1 249 = .ok (.lshl, 1) := by decide +kernel
theorem dLw_law_250 : decode mLw_law.2.1 250 = .ok (.aload_n 0, 1) := by decide +kernel
theorem dLw_law_251 : decode mLw_law.2.1 251 = .ok (.iload_n 3, 1) := by decide +kernel
theorem dLw_law_252 : decode mLw_law.2.1 252 = .ok (.iconst 4, 1) := by decide +kernel
theorem dLw_law_253 : decode mLw_law.2.1 253 = .ok (.iadd, 1) := by decide +kernel
theorem dLw_law_254 : decode mLw_law.2.1 254 = .ok (.iaload, 1) := by decide +kernel
theorem dLw_law_255 : decode mLw_law.2.1 255 = .ok (.i2l, 1) := by decide +kernel
theorem dLw_law_256 : decode mLw_law.2.1 256 = .ok (.ldc2_w 13, 3) := by decide +kernel
theorem dLw_law_259 : decode mLw_law.2.1 259 = .ok (.land, 1) := by decide +kernel
theorem dLw_law_260 : decode mLw_law.2.1 260 = .ok (.lor, 1) := by decide +kernel
theorem dLw_law_261 : decode mLw_law.2.1 261 = .ok (.invokevirtual 25, 3) := by decide +kernel
theorem dLw_law_264 : decode mLw_law.2.1 264 = .ok (.aload_n 2, 1) := by decide +kernel
theorem dLw_law_265 : decode mLw_law.2.1 265 = .ok (.aload_n 0, 1) := by decide +kernel
theorem dLw_law_266 : decode mLw_law.2.1 266 = .ok (.iload_n 3, 1) := by decide +kernel
theorem dLw_law_267 : decode mLw_law.2.1 267 = .ok (.iconst 1, 1) := by decide +kernel
theorem dLw_law_268 : decode mLw_law.2.1 268 = .ok (.iadd, 1) := by decide +kernel
theorem dLw_law_269 : decode mLw_law.2.1 269 = .ok (.iaload, 1) := by decide +kernel
theorem dLw_law_270 : decode mLw_law.2.1 270 = .ok (.aload_n 0, 1) := by decide +kernel
theorem dLw_law_271 : decode mLw_law.2.1 271 = .ok (.iload_n 3, 1) := by decide +kernel
theorem dLw_law_272 : decode mLw_law.2.1 272 = .ok (.iconst 2, 1) := by decide +kernel
theorem dLw_law_273 : decode mLw_law.2.1 273 = .ok (.iadd, 1) := by decide +kernel
theorem dLw_law_274 : decode mLw_law.2.1 274 = .ok (.iaload, 1) := by decide +kernel
theorem dLw_law_275 : decode mLw_law.2.1 275 = .ok (.aload_n 0, 1) := by decide +kernel
theorem dLw_law_276 : decode mLw_law.2.1 276 = .ok (.iload_n 3, 1) := by decide +kernel
theorem dLw_law_277 : decode mLw_law.2.1 277 = .ok (.iconst 3, 1) := by decide +kernel
theorem dLw_law_278 : decode mLw_law.2.1 278 = .ok (.iadd, 1) := by decide +kernel
theorem dLw_law_279 : decode mLw_law.2.1 279 = .ok (.iaload, 1) := by decide +kernel
theorem dLw_law_280 : decode mLw_law.2.1 280 = .ok (.i2l, 1) := by decide +kernel
theorem dLw_law_281 : decode mLw_law.2.1 281 = .ok (.bipush 32, 2) := by decide +kernel
theorem dLw_law_283 : decode mLw_law.2.1 283 = .ok (.lshl, 1) := by decide +kernel
theorem dLw_law_284 : decode mLw_law.2.1 284 = .ok (.aload_n 0, 1) := by decide +kernel
theorem dLw_law_285 : decode mLw_law.2.1 285 = .ok (.iload_n 3, 1) := by decide +kernel
theorem dLw_law_286 : decode mLw_law.2.1 286 = .ok (.iconst 4, 1) := by decide +kernel
theorem dLw_law_287 : decode mLw_law.2.1 287 = .ok (.iadd, 1) := by decide +kernel
theorem dLw_law_288 : decode mLw_law.2.1 288 = .ok (.iaload, 1) := by decide +kernel
theorem dLw_law_289 : decode mLw_law.2.1 289 = .ok (.i2l, 1) := by decide +kernel
theorem dLw_law_290 : decode mLw_law.2.1 290 = .ok (.ldc2_w 13, 3) := by decide +kernel
theorem dLw_law_293 : decode mLw_law.2.1 293 = .ok (.land, 1) := by decide +kernel
theorem dLw_law_294 : decode mLw_law.2.1 294 = .ok (.lor, 1) := by decide +kernel
theorem dLw_law_295 : decode mLw_law.2.1 295 = .ok (.invokevirtual 29, 3) := by decide +kernel
theorem dLw_law_298 : decode mLw_law.2.1 298 = .ok (.if_icmp .eq 870, 3) := by decide +kernel
theorem dLw_law_301 : decode mLw_law.2.1 301 = .ok (.iconst 0, 1) := by decide +kernel
theorem dLw_law_302 : decode mLw_law.2.1 302 = .ok (.ireturn, 1) := by decide +kernel
theorem dLw_law_303 : decode mLw_law.2.1 303 = .ok (.aload_n 1, 1) := by decide +kernel
theorem dLw_law_304 : decode mLw_law.2.1 304 = .ok (.aload_n 0, 1) := by decide +kernel
theorem dLw_law_305 : decode mLw_law.2.1 305 = .ok (.iload_n 3, 1) := by decide +kernel
theorem dLw_law_306 : decode mLw_law.2.1 306 = .ok (.iconst 1, 1) := by decide +kernel
theorem dLw_law_307 : decode mLw_law.2.1 307 = .ok (.iadd, 1) := by decide +kernel
theorem dLw_law_308 : decode mLw_law.2.1 308 = .ok (.iaload, 1) := by decide +kernel
theorem dLw_law_309 : decode mLw_law.2.1 309 = .ok (.aload_n 0, 1) := by decide +kernel
theorem dLw_law_310 : decode mLw_law.2.1 310 = .ok (.iload_n 3, 1) := by decide +kernel
theorem dLw_law_311 : decode mLw_law.2.1 311 = .ok (.iconst 2, 1) := by decide +kernel
theorem dLw_law_312 : decode mLw_law.2.1 312 = .ok (.iadd, 1) := by decide +kernel
theorem dLw_law_313 : decode mLw_law.2.1 313 = .ok (.iaload, 1) := by decide +kernel
theorem dLw_law_314 : decode mLw_law.2.1 314 = .ok (.i2l, 1) := by decide +kernel
theorem dLw_law_315 : decode mLw_law.2.1 315 = .ok (.bipush 32, 2) := by decide +kernel
theorem dLw_law_317 : decode mLw_law.2.1 317 = .ok (.lshl, 1) := by decide +kernel
theorem dLw_law_318 : decode mLw_law.2.1 318 = .ok (.aload_n 0, 1) := by decide +kernel
theorem dLw_law_319 : decode mLw_law.2.1 319 = .ok (.iload_n 3, 1) := by decide +kernel
theorem dLw_law_320 : decode mLw_law.2.1 320 = .ok (.iconst 3, 1) := by decide +kernel
theorem dLw_law_321 : decode mLw_law.2.1 321 = .ok (.iadd, 1) := by decide +kernel
theorem dLw_law_322 : decode mLw_law.2.1 322 = .ok (.iaload, 1) := by decide +kernel
theorem dLw_law_323 : decode mLw_law.2.1 323 = .ok (.i2l, 1) := by decide +kernel
theorem dLw_law_324 : decode mLw_law.2.1 324 = .ok (.ldc2_w 13, 3) := by decide +kernel
theorem dLw_law_327 : decode mLw_law.2.1 327 = .ok (.land, 1) := by decide +kernel
theorem dLw_law_328 : decode mLw_law.2.1 328 = .ok (.lor, 1) := by decide +kernel
theorem dLw_law_329 : decode mLw_law.2.1 329 = .ok (.aload_n 0, 1) := by decide +kernel
theorem dLw_law_330 : decode mLw_law.2.1 330 = .ok (.iload_n 3, 1) := by decide +kernel
theorem dLw_law_331 : decode mLw_law.2.1 331 = .ok (.iconst 4, 1) := by decide +kernel
theorem dLw_law_332 : decode mLw_law.2.1 332 = .ok (.iadd, 1) := by decide +kernel
theorem dLw_law_333 : decode mLw_law.2.1 333 = .ok (.iaload, 1) := by decide +kernel
theorem dLw_law_334 : decode mLw_law.2.1 334 = .ok (.invokevirtual 30, 3) := by decide +kernel
theorem dLw_law_337 : decode mLw_law.2.1 337 = .ok (.aload_n 2, 1) := by decide +kernel
theorem dLw_law_338 : decode mLw_law.2.1 338 = .ok (.aload_n 0, 1) := by decide +kernel
theorem dLw_law_339 : decode mLw_law.2.1 339 = .ok (.iload_n 3, 1) := by decide +kernel
theorem dLw_law_340 : decode mLw_law.2.1 340 = .ok (.iconst 1, 1) := by decide +kernel
theorem dLw_law_341 : decode mLw_law.2.1 341 = .ok (.iadd, 1) := by decide +kernel
theorem dLw_law_342 : decode mLw_law.2.1 342 = .ok (.iaload, 1) := by decide +kernel
theorem dLw_law_343 : decode mLw_law.2.1 343 = .ok (.aload_n 0, 1) := by decide +kernel
theorem dLw_law_344 : decode mLw_law.2.1 344 = .ok (.iload_n 3, 1) := by decide +kernel
theorem dLw_law_345 : decode mLw_law.2.1 345 = .ok (.iconst 2, 1) := by decide +kernel
theorem dLw_law_346 : decode mLw_law.2.1 346 = .ok (.iadd, 1) := by decide +kernel
theorem dLw_law_347 : decode mLw_law.2.1 347 = .ok (.iaload, 1) := by decide +kernel
theorem dLw_law_348 : decode mLw_law.2.1 348 = .ok (.i2l, 1) := by decide +kernel
theorem dLw_law_349 : decode mLw_law.2.1 349 = .ok (.bipush 32, 2) := by decide +kernel
theorem dLw_law_351 : decode mLw_law.2.1 351 = .ok (.lshl, 1) := by decide +kernel
theorem dLw_law_352 : decode mLw_law.2.1 352 = .ok (.aload_n 0, 1) := by decide +kernel
theorem dLw_law_353 : decode mLw_law.2.1 353 = .ok (.iload_n 3, 1) := by decide +kernel
theorem dLw_law_354 : decode mLw_law.2.1 354 = .ok (.iconst 3, 1) := by decide +kernel
theorem dLw_law_355 : decode mLw_law.2.1 355 = .ok (.iadd, 1) := by decide +kernel
theorem dLw_law_356 : decode mLw_law.2.1 356 = .ok (.iaload, 1) := by decide +kernel
theorem dLw_law_357 : decode mLw_law.2.1 357 = .ok (.i2l, 1) := by decide +kernel
theorem dLw_law_358 : decode mLw_law.2.1 358 = .ok (.ldc2_w 13, 3) := by decide +kernel
theorem dLw_law_361 : decode mLw_law.2.1 361 = .ok (.land, 1) := by decide +kernel
theorem dLw_law_362 : decode mLw_law.2.1 362 = .ok (.lor, 1) := by decide +kernel
theorem dLw_law_363 : decode mLw_law.2.1 363 = .ok (.aload_n 0, 1) := by decide +kernel
theorem dLw_law_364 : decode mLw_law.2.1 364 = .ok (.iload_n 3, 1) := by decide +kernel
theorem dLw_law_365 : decode mLw_law.2.1 365 = .ok (.iconst 4, 1) := by decide +kernel
theorem dLw_law_366 : decode mLw_law.2.1 366 = .ok (.iadd, 1) := by decide +kernel
theorem dLw_law_367 : decode mLw_law.2.1 367 = .ok (.iaload, 1) := by decide +kernel
theorem dLw_law_368 : decode mLw_law.2.1 368 = .ok (.invokevirtual 34, 3) := by decide +kernel
theorem dLw_law_371 : decode mLw_law.2.1 371 = .ok (.if_icmp .eq 797, 3) := by decide +kernel
theorem dLw_law_374 : decode mLw_law.2.1 374 = .ok (.iconst 0, 1) := by decide +kernel
theorem dLw_law_375 : decode mLw_law.2.1 375 = .ok (.ireturn, 1) := by decide +kernel
theorem dLw_law_376 : decode mLw_law.2.1 376 = .ok (.aload_n 1, 1) := by decide +kernel
theorem dLw_law_377 : decode mLw_law.2.1 377 = .ok (.aload_n 0, 1) := by decide +kernel
theorem dLw_law_378 : decode mLw_law.2.1 378 = .ok (.iload_n 3, 1) := by decide +kernel
theorem dLw_law_379 : decode mLw_law.2.1 379 = .ok (.iconst 1, 1) := by decide +kernel
theorem dLw_law_380 : decode mLw_law.2.1 380 = .ok (.iadd, 1) := by decide +kernel
theorem dLw_law_381 : decode mLw_law.2.1 381 = .ok (.iaload, 1) := by decide +kernel
theorem dLw_law_382 : decode mLw_law.2.1 382 = .ok (.aload_n 0, 1) := by decide +kernel
theorem dLw_law_383 : decode mLw_law.2.1 383 = .ok (.iload_n 3, 1) := by decide +kernel
end
section
theorem dLw_law_384 : decode mLw_law.2.1 384 = .ok (.iconst 2, 1) := by decide +kernel
theorem dLw_law_385 : decode mLw_law.2.1 385 = .ok (.iadd, 1) := by decide +kernel
theorem dLw_law_386 : decode mLw_law.2.1 386 = .ok (.iaload, 1) := by decide +kernel
theorem dLw_law_387 : decode mLw_law.2.1 387 = .ok (.i2l, 1) := by decide +kernel
theorem dLw_law_388 : decode mLw_law.2.1 388 = .ok (.bipush 32, 2) := by decide +kernel
theorem dLw_law_390 : decode mLw_law.2.1 390 = .ok (.lshl, 1) := by decide +kernel
theorem dLw_law_391 : decode mLw_law.2.1 391 = .ok (.aload_n 0, 1) := by decide +kernel
theorem dLw_law_392 : decode mLw_law.2.1 392 = .ok (.iload_n 3, 1) := by decide +kernel
theorem dLw_law_393 : decode mLw_law.2.1 393 = .ok (.iconst 3, 1) := by decide +kernel
theorem dLw_law_394 : decode mLw_law.2.1 394 = .ok (.iadd, 1) := by decide +kernel
theorem dLw_law_395 : decode mLw_law.2.1 395 = .ok (.iaload, 1) := by decide +kernel
theorem dLw_law_396 : decode mLw_law.2.1 396 = .ok (.i2l, 1) := by decide +kernel
theorem dLw_law_397 : decode mLw_law.2.1 397 = .ok (.ldc2_w 13, 3) := by decide +kernel
theorem dLw_law_400 : decode mLw_law.2.1 400 = .ok (.land, 1) := by decide +kernel
theorem dLw_law_401 : decode mLw_law.2.1 401 = .ok (.lor, 1) := by decide +kernel
theorem dLw_law_402 : decode mLw_law.2.1 402 = .ok (.invokevirtual 35, 3) := by decide +kernel
theorem dLw_law_405 : decode mLw_law.2.1 405 = .ok (.aload_n 2, 1) := by decide +kernel
theorem dLw_law_406 : decode mLw_law.2.1 406 = .ok (.aload_n 0, 1) := by decide +kernel
theorem dLw_law_407 : decode mLw_law.2.1 407 = .ok (.iload_n 3, 1) := by decide +kernel
theorem dLw_law_408 : decode mLw_law.2.1 408 = .ok (.iconst 1, 1) := by decide +kernel
theorem dLw_law_409 : decode mLw_law.2.1 409 = .ok (.iadd, 1) := by decide +kernel
theorem dLw_law_410 : decode mLw_law.2.1 410 = .ok (.iaload, 1) := by decide +kernel
theorem dLw_law_411 : decode mLw_law.2.1 411 = .ok (.aload_n 0, 1) := by decide +kernel
theorem dLw_law_412 : decode mLw_law.2.1 412 = .ok (.iload_n 3, 1) := by decide +kernel
theorem dLw_law_413 : decode mLw_law.2.1 413 = .ok (.iconst 2, 1) := by decide +kernel
theorem dLw_law_414 : decode mLw_law.2.1 414 = .ok (.iadd, 1) := by decide +kernel
theorem dLw_law_415 : decode mLw_law.2.1 415 = .ok (.iaload, 1) := by decide +kernel
theorem dLw_law_416 : decode mLw_law.2.1 416 = .ok (.i2l, 1) := by decide +kernel
theorem dLw_law_417 : decode mLw_law.2.1 417 = .ok (.bipush 32, 2) := by decide +kernel
theorem dLw_law_419 : decode mLw_law.2.1 419 = .ok (.lshl, 1) := by decide +kernel
theorem dLw_law_420 : decode mLw_law.2.1 420 = .ok (.aload_n 0, 1) := by decide +kernel
theorem dLw_law_421 : decode mLw_law.2.1 421 = .ok (.iload_n 3, 1) := by decide +kernel
theorem dLw_law_422 : decode mLw_law.2.1 422 = .ok (.iconst 3, 1) := by decide +kernel
theorem dLw_law_423 : decode mLw_law.2.1 423 = .ok (.iadd, 1) := by decide +kernel
theorem dLw_law_424 : decode mLw_law.2.1 424 = .ok (.iaload, 1) := by decide +kernel
theorem dLw_law_425 : decode mLw_law.2.1 425 = .ok (.i2l, 1) := by decide +kernel
theorem dLw_law_426 : decode mLw_law.2.1 426 = .ok (.ldc2_w 13, 3) := by decide +kernel
theorem dLw_law_429 : decode mLw_law.2.1 429 = .ok (.land, 1) := by decide +kernel
theorem dLw_law_430 : decode mLw_law.2.1 430 = .ok (.lor, 1) := by decide +kernel
theorem dLw_law_431 : decode mLw_law.2.1 431 = .ok (.invokevirtual 39, 3) := by decide +kernel
theorem dLw_law_434 : decode mLw_law.2.1 434 = .ok (.lcmp, 1) := by decide +kernel
theorem dLw_law_435 : decode mLw_law.2.1 435 = .ok (.ifCond .eq 733, 3) := by decide +kernel
theorem dLw_law_438 : decode mLw_law.2.1 438 = .ok (.iconst 0, 1) := by decide +kernel
theorem dLw_law_439 : decode mLw_law.2.1 439 = .ok (.ireturn, 1) := by decide +kernel
theorem dLw_law_440 : decode mLw_law.2.1 440 = .ok (.aload_n 1, 1) := by decide +kernel
theorem dLw_law_441 : decode mLw_law.2.1 441 = .ok (.aload_n 0, 1) := by decide +kernel
theorem dLw_law_442 : decode mLw_law.2.1 442 = .ok (.iload_n 3, 1) := by decide +kernel
theorem dLw_law_443 : decode mLw_law.2.1 443 = .ok (.iconst 1, 1) := by decide +kernel
theorem dLw_law_444 : decode mLw_law.2.1 444 = .ok (.iadd, 1) := by decide +kernel
theorem dLw_law_445 : decode mLw_law.2.1 445 = .ok (.iaload, 1) := by decide +kernel
theorem dLw_law_446 : decode mLw_law.2.1 446 = .ok (.aload_n 0, 1) := by decide +kernel
theorem dLw_law_447 : decode mLw_law.2.1 447 = .ok (.iload_n 3, 1) := by decide +kernel
theorem dLw_law_448 : decode mLw_law.2.1 448 = .ok (.iconst 2, 1) := by decide +kernel
theorem dLw_law_449 : decode mLw_law.2.1 449 = .ok (.iadd, 1) := by decide +kernel
theorem dLw_law_450 : decode mLw_law.2.1 450 = .ok (.iaload, 1) := by decide +kernel
theorem dLw_law_451 : decode mLw_law.2.1 451 = .ok (.ifCond .eq 7, 3) := by decide +kernel
theorem dLw_law_454 : decode mLw_law.2.1 454 = .ok (.iconst 1, 1) := by decide +kernel
theorem dLw_law_455 : decode mLw_law.2.1 455 = .ok (.goto 4, 3) := by decide +kernel
theorem dLw_law_458 : decode mLw_law.2.1 458 = .ok (.iconst 0, 1) := by decide +kernel
theorem dLw_law_459 : decode mLw_law.2.1 459 = .ok (.invokevirtual 40, 3) := by decide +kernel
theorem dLw_law_462 : decode mLw_law.2.1 462 = .ok (.aload_n 2, 1) := by decide +kernel
theorem dLw_law_463 : decode mLw_law.2.1 463 = .ok (.aload_n 0, 1) := by decide +kernel
theorem dLw_law_464 : decode mLw_law.2.1 464 = .ok (.iload_n 3, 1) := by decide +kernel
theorem dLw_law_465 : decode mLw_law.2.1 465 = .ok (.iconst 1, 1) := by decide +kernel
theorem dLw_law_466 : decode mLw_law.2.1 466 = .ok (.iadd, 1) := by decide +kernel
theorem dLw_law_467 : decode mLw_law.2.1 467 = .ok (.iaload, 1) := by decide +kernel
theorem dLw_law_468 : decode mLw_law.2.1 468 = .ok (.aload_n 0, 1) := by decide +kernel
theorem dLw_law_469 : decode mLw_law.2.1 469 = .ok (.iload_n 3, 1) := by decide +kernel
theorem dLw_law_470 : decode mLw_law.2.1 470 = .ok (.iconst 2, 1) := by decide +kernel
theorem dLw_law_471 : decode mLw_law.2.1 471 = .ok (.iadd, 1) := by decide +kernel
theorem dLw_law_472 : decode mLw_law.2.1 472 = .ok (.iaload, 1) := by decide +kernel
theorem dLw_law_473 : decode mLw_law.2.1 473 = .ok (.ifCond .eq 7, 3) := by decide +kernel
theorem dLw_law_476 : decode mLw_law.2.1 476 = .ok (.iconst 1, 1) := by decide +kernel
theorem dLw_law_477 : decode mLw_law.2.1 477 = .ok (.goto 4, 3) := by decide +kernel
theorem dLw_law_480 : decode mLw_law.2.1 480 = .ok (.iconst 0, 1) := by decide +kernel
theorem dLw_law_481 : decode mLw_law.2.1 481 = .ok (.invokevirtual 44, 3) := by decide +kernel
theorem dLw_law_484 : decode mLw_law.2.1 484 = .ok (.if_icmp .eq 684, 3) := by decide +kernel
theorem dLw_law_487 : decode mLw_law.2.1 487 = .ok (.iconst 0, 1) := by decide +kernel
theorem dLw_law_488 : decode mLw_law.2.1 488 = .ok (.ireturn, 1) := by decide +kernel
theorem dLw_law_489 : decode mLw_law.2.1 489 = .ok (.aload_n 1, 1) := by decide +kernel
theorem dLw_law_490 : decode mLw_law.2.1 490 = .ok (.aload_n 0, 1) := by decide +kernel
theorem dLw_law_491 : decode mLw_law.2.1 491 = .ok (.iload_n 3, 1) := by decide +kernel
theorem dLw_law_492 : decode mLw_law.2.1 492 = .ok (.iconst 1, 1) := by decide +kernel
theorem dLw_law_493 : decode mLw_law.2.1 493 = .ok (.iadd, 1) := by decide +kernel
theorem dLw_law_494 : decode mLw_law.2.1 494 = .ok (.iaload, 1) := by decide +kernel
theorem dLw_law_495 : decode mLw_law.2.1 495 = .ok (.aload_n 0, 1) := by decide +kernel
theorem dLw_law_496 : decode mLw_law.2.1 496 = .ok (.iload_n 3, 1) := by decide +kernel
theorem dLw_law_497 : decode mLw_law.2.1 497 = .ok (.iconst 2, 1) := by decide +kernel
theorem dLw_law_498 : decode mLw_law.2.1 498 = .ok (.iadd, 1) := by decide +kernel
theorem dLw_law_499 : decode mLw_law.2.1 499 = .ok (.iaload, 1) := by decide +kernel
theorem dLw_law_500 : decode mLw_law.2.1 500 = .ok (.i2l, 1) := by decide +kernel
theorem dLw_law_501 : decode mLw_law.2.1 501 = .ok (.bipush 32, 2) := by decide +kernel
theorem dLw_law_503 : decode mLw_law.2.1 503 = .ok (.lshl, 1) := by decide +kernel
theorem dLw_law_504 : decode mLw_law.2.1 504 = .ok (.aload_n 0, 1) := by decide +kernel
theorem dLw_law_505 : decode mLw_law.2.1 505 = .ok (.iload_n 3, 1) := by decide +kernel
theorem dLw_law_506 : decode mLw_law.2.1 506 = .ok (.iconst 3, 1) := by decide +kernel
theorem dLw_law_507 : decode mLw_law.2.1 507 = .ok (.iadd, 1) := by decide +kernel
theorem dLw_law_508 : decode mLw_law.2.1 508 = .ok (.iaload, 1) := by decide +kernel
theorem dLw_law_509 : decode mLw_law.2.1 509 = .ok (.i2l, 1) := by decide +kernel
theorem dLw_law_510 : decode mLw_law.2.1 510 = .ok (.ldc2_w 13, 3) := by decide +kernel
theorem dLw_law_513 : decode mLw_law.2.1 513 = .ok (.land, 1) := by decide +kernel
theorem dLw_law_514 : decode mLw_law.2.1 514 = .ok (.lor, 1) := by decide +kernel
theorem dLw_law_515 : decode mLw_law.2.1 515 = .ok (.invokevirtual 45, 3) := by decide +kernel
theorem dLw_law_518 : decode mLw_law.2.1 518 = .ok (.aload_n 2, 1) := by decide +kernel
theorem dLw_law_519 : decode mLw_law.2.1 519 = .ok (.aload_n 0, 1) := by decide +kernel
theorem dLw_law_520 : decode mLw_law.2.1 520 = .ok (.iload_n 3, 1) := by decide +kernel
theorem dLw_law_521 : decode mLw_law.2.1 521 = .ok (.iconst 1, 1) := by decide +kernel
theorem dLw_law_522 : decode mLw_law.2.1 522 = .ok (.iadd, 1) := by decide +kernel
theorem dLw_law_523 : decode mLw_law.2.1 523 = .ok (.iaload, 1) := by decide +kernel
theorem dLw_law_524 : decode mLw_law.2.1 524 = .ok (.aload_n 0, 1) := by decide +kernel
theorem dLw_law_525 : decode mLw_law.2.1 525 = .ok (.iload_n 3, 1) := by decide +kernel
theorem dLw_law_526 : decode mLw_law.2.1 526 = .ok (.iconst 2, 1) := by decide +kernel
theorem dLw_law_527 : decode mLw_law.2.1 527 = .ok (.iadd, 1) := by decide +kernel
theorem dLw_law_528 : decode mLw_law.2.1 528 = .ok (.iaload, 1) := by decide +kernel
theorem dLw_law_529 : decode mLw_law.2.1 529 = .ok (.i2l, 1) := by decide +kernel
theorem dLw_law_530 : decode mLw_law.2.1 530 = .ok (.bipush 32, 2) := by decide +kernel
theorem dLw_law_532 : decode mLw_law.2.1 532 = .ok (.lshl, 1) := by decide +kernel
theorem dLw_law_533 : decode mLw_law.2.1 533 = .ok (.aload_n 0, 1) := by decide +kernel
theorem dLw_law_534 : decode mLw_law.2.1 534 = .ok (.iload_n 3, 1) := by decide +kernel
theorem dLw_law_535 : decode mLw_law.2.1 535 = .ok (.iconst 3, 1) := by decide +kernel
theorem dLw_law_536 : decode mLw_law.2.1 536 = .ok (.iadd, 1) := by decide +kernel
theorem dLw_law_537 : decode mLw_law.2.1 537 = .ok (.iaload, 1) := by decide +kernel
theorem dLw_law_538 : decode mLw_law.2.1 538 = .ok (.i2l, 1) := by decide +kernel
theorem dLw_law_539 : decode mLw_law.2.1 539 = .ok (.ldc2_w 13, 3) := by decide +kernel
theorem dLw_law_542 : decode mLw_law.2.1 542 = .ok (.land, 1) := by decide +kernel
theorem dLw_law_543 : decode mLw_law.2.1 543 = .ok (.lor, 1) := by decide +kernel
theorem dLw_law_544 : decode mLw_law.2.1 544 = .ok (.invokevirtual 49, 3) := by decide +kernel
theorem dLw_law_547 : decode mLw_law.2.1 547 = .ok (.if_icmp .eq 621, 3) := by decide +kernel
theorem dLw_law_550 : decode mLw_law.2.1 550 = .ok (.iconst 0, 1) := by decide +kernel
theorem dLw_law_551 : decode mLw_law.2.1 551 = .ok (.ireturn, 1) := by decide +kernel
theorem dLw_law_552 : decode mLw_law.2.1 552 = .ok (.aload_n 1, 1) := by decide +kernel
theorem dLw_law_553 : decode mLw_law.2.1 553 = .ok (.aload_n 0, 1) := by decide +kernel
theorem dLw_law_554 : decode mLw_law.2.1 554 = .ok (.iload_n 3, 1) := by decide +kernel
theorem dLw_law_555 : decode mLw_law.2.1 555 = .ok (.iconst 1, 1) := by decide +kernel
theorem dLw_law_556 : decode mLw_law.2.1 556 = .ok (.iadd, 1) := by decide +kernel
theorem dLw_law_557 : decode mLw_law.2.1 557 = .ok (.iaload, 1) := by decide +kernel
theorem dLw_law_558 : decode mLw_law.2.1 558 = .ok (.aload_n 0, 1) := by decide +kernel
theorem dLw_law_559 : decode mLw_law.2.1 559 = .ok (.iload_n 3, 1) := by decide +kernel
theorem dLw_law_560 : decode mLw_law.2.1 560 = .ok (.iconst 2, 1) := by decide +kernel
theorem dLw_law_561 : decode mLw_law.2.1 561 = .ok (.iadd, 1) := by decide +kernel
theorem dLw_law_562 : decode mLw_law.2.1 562 = .ok (.iaload, 1) := by decide +kernel
theorem dLw_law_563 : decode mLw_law.2.1 563 = .ok (.invokevirtual 50, 3) := by decide +kernel
theorem dLw_law_566 : decode mLw_law.2.1 566 = .ok (.aload_n 2, 1) := by decide +kernel
theorem dLw_law_567 : decode mLw_law.2.1 567 = .ok (.aload_n 0, 1) := by decide +kernel
theorem dLw_law_568 : decode mLw_law.2.1 568 = .ok (.iload_n 3, 1) := by decide +kernel
theorem dLw_law_569 : decode mLw_law.2.1 569 = .ok (.iconst 1, 1) := by decide +kernel
theorem dLw_law_570 : decode mLw_law.2.1 570 = .ok (.iadd, 1) := by decide +kernel
theorem dLw_law_571 : decode mLw_law.2.1 571 = .ok (.iaload, 1) := by decide +kernel
theorem dLw_law_572 : decode mLw_law.2.1 572 = .ok (.aload_n 0, 1) := by decide +kernel
theorem dLw_law_573 : decode mLw_law.2.1 573 = .ok (.iload_n 3, 1) := by decide +kernel
theorem dLw_law_574 : decode mLw_law.2.1 574 = .ok (.iconst 2, 1) := by decide +kernel
theorem dLw_law_575 : decode mLw_law.2.1 575 = .ok (.iadd, 1) := by decide +kernel
theorem dLw_law_576 : decode mLw_law.2.1 576 = .ok (.iaload, 1) := by decide +kernel
theorem dLw_law_577 : decode mLw_law.2.1 577 = .ok (.invokevirtual 54, 3) := by decide +kernel
theorem dLw_law_580 : decode mLw_law.2.1 580 = .ok (.lcmp, 1) := by decide +kernel
theorem dLw_law_581 : decode mLw_law.2.1 581 = .ok (.ifCond .eq 587, 3) := by decide +kernel
theorem dLw_law_584 : decode mLw_law.2.1 584 = .ok (.iconst 0, 1) := by decide +kernel
theorem dLw_law_585 : decode mLw_law.2.1 585 = .ok (.ireturn, 1) := by decide +kernel
theorem dLw_law_586 : decode mLw_law.2.1 586 = .ok (.aload_n 1, 1) := by decide +kernel
theorem dLw_law_587 : decode mLw_law.2.1 587 = .ok (.aload_n 0, 1) := by decide +kernel
theorem dLw_law_588 : decode mLw_law.2.1 588 = .ok (.iload_n 3, 1) := by decide +kernel
theorem dLw_law_589 : decode mLw_law.2.1 589 = .ok (.iconst 1, 1) := by decide +kernel
theorem dLw_law_590 : decode mLw_law.2.1 590 = .ok (.iadd, 1) := by decide +kernel
theorem dLw_law_591 : decode mLw_law.2.1 591 = .ok (.iaload, 1) := by decide +kernel
theorem dLw_law_592 : decode mLw_law.2.1 592 = .ok (.aload_n 0, 1) := by decide +kernel
theorem dLw_law_593 : decode mLw_law.2.1 593 = .ok (.iload_n 3, 1) := by decide +kernel
theorem dLw_law_594 : decode mLw_law.2.1 594 = .ok (.iconst 2, 1) := by decide +kernel
theorem dLw_law_595 : decode mLw_law.2.1 595 = .ok (.iadd, 1) := by decide +kernel
theorem dLw_law_596 : decode mLw_law.2.1 596 = .ok (.iaload, 1) := by decide +kernel
theorem dLw_law_597 : decode mLw_law.2.1 597 = .ok (.aload_n 0, 1) := by decide +kernel
theorem dLw_law_598 : decode mLw_law.2.1 598 = .ok (.iload_n 3, 1) := by decide +kernel
theorem dLw_law_599 : decode mLw_law.2.1 599 = .ok (.iconst 3, 1) := by decide +kernel
theorem dLw_law_600 : decode mLw_law.2.1 600 = .ok (.iadd, 1) := by decide +kernel
theorem dLw_law_601 : decode mLw_law.2.1 601 = .ok (.iaload, 1) := by decide +kernel
theorem dLw_law_602 : decode mLw_law.2.1 602 = .ok (.invokevirtual 55, 3) := by decide +kernel
theorem dLw_law_605 : decode mLw_law.2.1 605 = .ok (.aload_n 2, 1) := by decide +kernel
theorem dLw_law_606 : decode mLw_law.2.1 606 = .ok (.aload_n 0, 1) := by decide +kernel
theorem dLw_law_607 : decode mLw_law.2.1 607 = .ok (.iload_n 3, 1) := by decide +kernel
theorem dLw_law_608 : decode mLw_law.2.1 608 = .ok (.iconst 1, 1) := by decide +kernel
theorem dLw_law_609 : decode mLw_law.2.1 609 = .ok (.iadd, 1) := by decide +kernel
theorem dLw_law_610 : decode mLw_law.2.1 610 = .ok (.iaload, 1) := by decide +kernel
theorem dLw_law_611 : decode mLw_law.2.1 611 = .ok (.aload_n 0, 1) := by decide +kernel
theorem dLw_law_612 : decode mLw_law.2.1 612 = .ok (.iload_n 3, 1) := by decide +kernel
theorem dLw_law_613 : decode mLw_law.2.1 613 = .ok (.iconst 2, 1) := by decide +kernel
theorem dLw_law_614 : decode mLw_law.2.1 614 = .ok (.iadd, 1) := by decide +kernel
theorem dLw_law_615 : decode mLw_law.2.1 615 = .ok (.iaload, 1) := by decide +kernel
theorem dLw_law_616 : decode mLw_law.2.1 616 = .ok (.aload_n 0, 1) := by decide +kernel
theorem dLw_law_617 : decode mLw_law.2.1 617 = .ok (.iload_n 3, 1) := by decide +kernel
theorem dLw_law_618 : decode mLw_law.2.1 618 = .ok (.iconst 3, 1) := by decide +kernel
theorem dLw_law_619 : decode mLw_law.2.1 619 = .ok (.iadd, 1) := by decide +kernel
theorem dLw_law_620 : decode mLw_law.2.1 620 = .ok (.iaload, 1) := by decide +kernel
theorem dLw_law_621 : decode mLw_law.2.1 621 = .ok (.invokevirtual 59, 3) := by decide +kernel
theorem dLw_law_624 : decode mLw_law.2.1 624 = .ok (.lcmp, 1) := by decide +kernel
theorem dLw_law_625 : decode mLw_law.2.1 625 = .ok (.ifCond .eq 543, 3) := by decide +kernel
theorem dLw_law_628 : decode mLw_law.2.1 628 = .ok (.iconst 0, 1) := by decide +kernel
theorem dLw_law_629 : decode mLw_law.2.1 629 = .ok (.ireturn, 1) := by decide +kernel
theorem dLw_law_630 : decode mLw_law.2.1 630 = .ok (.aload_n 1, 1) := by decide +kernel
theorem dLw_law_631 : decode mLw_law.2.1 631 = .ok (.aload_n 0, 1) := by decide +kernel
theorem dLw_law_632 : decode mLw_law.2.1 632 = .ok (.iload_n 3, 1) := by decide +kernel
theorem dLw_law_633 : decode mLw_law.2.1 633 = .ok (.iconst 1, 1) := by decide +kernel
theorem dLw_law_634 : decode mLw_law.2.1 634 = .ok (.iadd, 1) := by decide +kernel
theorem dLw_law_635 : decode mLw_law.2.1 635 = .ok (.iaload, 1) := by decide +kernel
theorem dLw_law_636 : decode mLw_law.2.1 636 = .ok (.aload_n 0, 1) := by decide +kernel
theorem dLw_law_637 : decode mLw_law.2.1 637 = .ok (.iload_n 3, 1) := by decide +kernel
theorem dLw_law_638 : decode mLw_law.2.1 638 = .ok (.iconst 2, 1) := by decide +kernel
theorem dLw_law_639 : decode mLw_law.2.1 639 = .ok (.iadd, 1) := by decide +kernel
theorem dLw_law_640 : decode mLw_law.2.1 640 = .ok (.iaload, 1) := by decide +kernel
theorem dLw_law_641 : decode mLw_law.2.1 641 = .ok (.aload_n 0, 1) := by decide +kernel
theorem dLw_law_642 : decode mLw_law.2.1 642 = .ok (.iload_n 3, 1) := by decide +kernel
theorem dLw_law_643 : decode mLw_law.2.1 643 = .ok (.iconst 3, 1) := by decide +kernel
theorem dLw_law_644 : decode mLw_law.2.1 644 = .ok (.iadd, 1) := by decide +kernel
theorem dLw_law_645 : decode mLw_law.2.1 645 = .ok (.iaload, 1) := by decide +kernel
theorem dLw_law_646 : decode mLw_law.2.1 646 = .ok (.invokevirtual 60, 3) := by decide +kernel
theorem dLw_law_649 : decode mLw_law.2.1 649 = .ok (.aload_n 2, 1) := by decide +kernel
theorem dLw_law_650 : decode mLw_law.2.1 650 = .ok (.aload_n 0, 1) := by decide +kernel
theorem dLw_law_651 : decode mLw_law.2.1 651 = .ok (.iload_n 3, 1) := by decide +kernel
theorem dLw_law_652 : decode mLw_law.2.1 652 = .ok (.iconst 1, 1) := by decide +kernel
theorem dLw_law_653 : decode mLw_law.2.1 653 = .ok (.iadd, 1) := by decide +kernel
theorem dLw_law_654 : decode mLw_law.2.1 654 = .ok (.iaload, 1) := by decide +kernel
theorem dLw_law_655 : decode mLw_law.2.1 655 = .ok (.aload_n 0, 1) := by decide +kernel
end
section
theorem dLw_law_656 : decode mLw_law.2.1 656 = .ok (.iload_n 3, 1) := by decide +kernel
theorem dLw_law_657 : decode mLw_law.2.1 657 = .ok (.iconst 2, 1) := by decide +kernel
theorem dLw_law_658 : decode mLw_law.2.1 658 = .ok (.iadd, 1) := by decide +kernel
theorem dLw_law_659 : decode mLw_law.2.1 659 = .ok (.iaload, 1) := by decide +kernel
theorem dLw_law_660 : decode mLw_law.2.1 660 = .ok (.aload_n 0, 1) := by decide +kernel
theorem dLw_law_661 : decode mLw_law.2.1 661 = .ok (.iload_n 3, 1) := by decide +kernel
theorem dLw_law_662 : decode mLw_law.2.1 662 = .ok (.iconst 3, 1) := by decide +kernel
theorem dLw_law_663 : decode mLw_law.2.1 663 = .ok (.iadd, 1) := by decide +kernel
theorem dLw_law_664 : decode mLw_law.2.1 664 = .ok (.iaload, 1) := by decide +kernel
theorem dLw_law_665 : decode mLw_law.2.1 665 = .ok (.invokevirtual 63, 3) := by decide +kernel
theorem dLw_law_668 : decode mLw_law.2.1 668 = .ok (.lcmp, 1) := by decide +kernel
theorem dLw_law_669 : decode mLw_law.2.1 669 = .ok (.ifCond .eq 499, 3) := by decide +kernel
theorem dLw_law_672 : decode mLw_law.2.1 672 = .ok (.iconst 0, 1) := by decide +kernel
theorem dLw_law_673 : decode mLw_law.2.1 673 = .ok (.ireturn, 1) := by decide +kernel
theorem dLw_law_674 : decode mLw_law.2.1 674 = .ok (.aload_n 1, 1) := by decide +kernel
theorem dLw_law_675 : decode mLw_law.2.1 675 = .ok (.aload_n 0, 1) := by decide +kernel
theorem dLw_law_676 : decode mLw_law.2.1 676 = .ok (.iload_n 3, 1) := by decide +kernel
theorem dLw_law_677 : decode mLw_law.2.1 677 = .ok (.iconst 1, 1) := by decide +kernel
theorem dLw_law_678 : decode mLw_law.2.1 678 = .ok (.iadd, 1) := by decide +kernel
theorem dLw_law_679 : decode mLw_law.2.1 679 = .ok (.iaload, 1) := by decide +kernel
theorem dLw_law_680 : decode mLw_law.2.1 680 = .ok (.aload_n 0, 1) := by decide +kernel
theorem dLw_law_681 : decode mLw_law.2.1 681 = .ok (.iload_n 3, 1) := by decide +kernel
theorem dLw_law_682 : decode mLw_law.2.1 682 = .ok (.iconst 2, 1) := by decide +kernel
theorem dLw_law_683 : decode mLw_law.2.1 683 = .ok (.iadd, 1) := by decide +kernel
theorem dLw_law_684 : decode mLw_law.2.1 684 = .ok (.iaload, 1) := by decide +kernel
theorem dLw_law_685 : decode mLw_law.2.1 685 = .ok (.invokevirtual 64, 3) := by decide +kernel
theorem dLw_law_688 : decode mLw_law.2.1 688 = .ok (.aload_n 2, 1) := by decide +kernel
theorem dLw_law_689 : decode mLw_law.2.1 689 = .ok (.aload_n 0, 1) := by decide +kernel
theorem dLw_law_690 : decode mLw_law.2.1 690 = .ok (.iload_n 3, 1) := by decide +kernel
theorem dLw_law_691 : decode mLw_law.2.1 691 = .ok (.iconst 1, 1) := by decide +kernel
theorem dLw_law_692 : decode mLw_law.2.1 692 = .ok (.iadd, 1) := by decide +kernel
theorem dLw_law_693 : decode mLw_law.2.1 693 = .ok (.iaload, 1) := by decide +kernel
theorem dLw_law_694 : decode mLw_law.2.1 694 = .ok (.aload_n 0, 1) := by decide +kernel
theorem dLw_law_695 : decode mLw_law.2.1 695 = .ok (.iload_n 3, 1) := by decide +kernel
theorem dLw_law_696 : decode mLw_law.2.1 696 = .ok (.iconst 2, 1) := by decide +kernel
theorem dLw_law_697 : decode mLw_law.2.1 697 = .ok (.iadd, 1) := by decide +kernel
theorem dLw_law_698 : decode mLw_law.2.1 698 = .ok (.iaload, 1) := by decide +kernel
theorem dLw_law_699 : decode mLw_law.2.1 699 = .ok (.invokevirtual 68, 3) := by decide +kernel
theorem dLw_law_702 : decode mLw_law.2.1 702 = .ok (.if_icmp .eq 466, 3) := by decide +kernel
theorem dLw_law_705 : decode mLw_law.2.1 705 = .ok (.iconst 0, 1) := by decide +kernel
theorem dLw_law_706 : decode mLw_law.2.1 706 = .ok (.ireturn, 1) := by decide +kernel
theorem dLw_law_707 : decode mLw_law.2.1 707 = .ok (.aload_n 1, 1) := by decide +kernel
theorem dLw_law_708 : decode mLw_law.2.1 708 = .ok (.aload_n 0, 1) := by decide +kernel
theorem dLw_law_709 : decode mLw_law.2.1 709 = .ok (.iload_n 3, 1) := by decide +kernel
theorem dLw_law_710 : decode mLw_law.2.1 710 = .ok (.iconst 1, 1) := by decide +kernel
theorem dLw_law_711 : decode mLw_law.2.1 711 = .ok (.iadd, 1) := by decide +kernel
theorem dLw_law_712 : decode mLw_law.2.1 712 = .ok (.iaload, 1) := by decide +kernel
theorem dLw_law_713 : decode mLw_law.2.1 713 = .ok (.invokevirtual 69, 3) := by decide +kernel
theorem dLw_law_716 : decode mLw_law.2.1 716 = .ok (.aload_n 2, 1) := by decide +kernel
theorem dLw_law_717 : decode mLw_law.2.1 717 = .ok (.aload_n 0, 1) := by decide +kernel
theorem dLw_law_718 : decode mLw_law.2.1 718 = .ok (.iload_n 3, 1) := by decide +kernel
theorem dLw_law_719 : decode mLw_law.2.1 719 = .ok (.iconst 1, 1) := by decide +kernel
theorem dLw_law_720 : decode mLw_law.2.1 720 = .ok (.iadd, 1) := by decide +kernel
theorem dLw_law_721 : decode mLw_law.2.1 721 = .ok (.iaload, 1) := by decide +kernel
theorem dLw_law_722 : decode mLw_law.2.1 722 = .ok (.invokevirtual 73, 3) := by decide +kernel
theorem dLw_law_725 : decode mLw_law.2.1 725 = .ok (.if_icmp .eq 443, 3) := by decide +kernel
theorem dLw_law_728 : decode mLw_law.2.1 728 = .ok (.iconst 0, 1) := by decide +kernel
theorem dLw_law_729 : decode mLw_law.2.1 729 = .ok (.ireturn, 1) := by decide +kernel
theorem dLw_law_730 : decode mLw_law.2.1 730 = .ok (.aload_n 1, 1) := by decide +kernel
theorem dLw_law_731 : decode mLw_law.2.1 731 = .ok (.aload_n 0, 1) := by decide +kernel
theorem dLw_law_732 : decode mLw_law.2.1 732 = .ok (.iload_n 3, 1) := by decide +kernel
theorem dLw_law_733 : decode mLw_law.2.1 733 = .ok (.iconst 1, 1) := by decide +kernel
theorem dLw_law_734 : decode mLw_law.2.1 734 = .ok (.iadd, 1) := by decide +kernel
theorem dLw_law_735 : decode mLw_law.2.1 735 = .ok (.iaload, 1) := by decide +kernel
theorem dLw_law_736 : decode mLw_law.2.1 736 = .ok (.aload_n 0, 1) := by decide +kernel
theorem dLw_law_737 : decode mLw_law.2.1 737 = .ok (.iload_n 3, 1) := by decide +kernel
theorem dLw_law_738 : decode mLw_law.2.1 738 = .ok (.iconst 2, 1) := by decide +kernel
theorem dLw_law_739 : decode mLw_law.2.1 739 = .ok (.iadd, 1) := by decide +kernel
theorem dLw_law_740 : decode mLw_law.2.1 740 = .ok (.iaload, 1) := by decide +kernel
theorem dLw_law_741 : decode mLw_law.2.1 741 = .ok (.invokevirtual 74, 3) := by decide +kernel
theorem dLw_law_744 : decode mLw_law.2.1 744 = .ok (.aload_n 2, 1) := by decide +kernel
theorem dLw_law_745 : decode mLw_law.2.1 745 = .ok (.aload_n 0, 1) := by decide +kernel
theorem dLw_law_746 : decode mLw_law.2.1 746 = .ok (.iload_n 3, 1) := by decide +kernel
theorem dLw_law_747 : decode mLw_law.2.1 747 = .ok (.iconst 1, 1) := by decide +kernel
theorem dLw_law_748 : decode mLw_law.2.1 748 = .ok (.iadd, 1) := by decide +kernel
theorem dLw_law_749 : decode mLw_law.2.1 749 = .ok (.iaload, 1) := by decide +kernel
theorem dLw_law_750 : decode mLw_law.2.1 750 = .ok (.aload_n 0, 1) := by decide +kernel
theorem dLw_law_751 : decode mLw_law.2.1 751 = .ok (.iload_n 3, 1) := by decide +kernel
theorem dLw_law_752 : decode mLw_law.2.1 752 = .ok (.iconst 2, 1) := by decide +kernel
theorem dLw_law_753 : decode mLw_law.2.1 753 = .ok (.iadd, 1) := by decide +kernel
theorem dLw_law_754 : decode mLw_law.2.1 754 = .ok (.iaload, 1) := by decide +kernel
theorem dLw_law_755 : decode mLw_law.2.1 755 = .ok (.invokevirtual 77, 3) := by decide +kernel
theorem dLw_law_758 : decode mLw_law.2.1 758 = .ok (.if_icmp .eq 410, 3) := by decide +kernel
theorem dLw_law_761 : decode mLw_law.2.1 761 = .ok (.iconst 0, 1) := by decide +kernel
theorem dLw_law_762 : decode mLw_law.2.1 762 = .ok (.ireturn, 1) := by decide +kernel
theorem dLw_law_763 : decode mLw_law.2.1 763 = .ok (.aload_n 1, 1) := by decide +kernel
theorem dLw_law_764 : decode mLw_law.2.1 764 = .ok (.aload_n 0, 1) := by decide +kernel
theorem dLw_law_765 : decode mLw_law.2.1 765 = .ok (.iload_n 3, 1) := by decide +kernel
theorem dLw_law_766 : decode mLw_law.2.1 766 = .ok (.iconst 1, 1) := by decide +kernel
theorem dLw_law_767 : decode mLw_law.2.1 767 = .ok (.iadd, 1) := by decide +kernel
theorem dLw_law_768 : decode mLw_law.2.1 768 = .ok (.iaload, 1) := by decide +kernel
theorem dLw_law_769 : decode mLw_law.2.1 769 = .ok (.invokevirtual 78, 3) := by decide +kernel
theorem dLw_law_772 : decode mLw_law.2.1 772 = .ok (.aload_n 2, 1) := by decide +kernel
theorem dLw_law_773 : decode mLw_law.2.1 773 = .ok (.aload_n 0, 1) := by decide +kernel
theorem dLw_law_774 : decode mLw_law.2.1 774 = .ok (.iload_n 3, 1) := by decide +kernel
theorem dLw_law_775 : decode mLw_law.2.1 775 = .ok (.iconst 1, 1) := by decide +kernel
theorem dLw_law_776 : decode mLw_law.2.1 776 = .ok (.iadd, 1) := by decide +kernel
theorem dLw_law_777 : decode mLw_law.2.1 777 = .ok (.iaload, 1) := by decide +kernel
theorem dLw_law_778 : decode mLw_law.2.1 778 = .ok (.invokevirtual 81, 3) := by decide +kernel
theorem dLw_law_781 : decode mLw_law.2.1 781 = .ok (.if_icmp .eq 387, 3) := by decide +kernel
theorem dLw_law_784 : decode mLw_law.2.1 784 = .ok (.iconst 0, 1) := by decide +kernel
theorem dLw_law_785 : decode mLw_law.2.1 785 = .ok (.ireturn, 1) := by decide +kernel
theorem dLw_law_786 : decode mLw_law.2.1 786 = .ok (.aload_n 1, 1) := by decide +kernel
theorem dLw_law_787 : decode mLw_law.2.1 787 = .ok (.aload_n 0, 1) := by decide +kernel
theorem dLw_law_788 : decode mLw_law.2.1 788 = .ok (.iload_n 3, 1) := by decide +kernel
theorem dLw_law_789 : decode mLw_law.2.1 789 = .ok (.iconst 1, 1) := by decide +kernel
theorem dLw_law_790 : decode mLw_law.2.1 790 = .ok (.iadd, 1) := by decide +kernel
theorem dLw_law_791 : decode mLw_law.2.1 791 = .ok (.iaload, 1) := by decide +kernel
theorem dLw_law_792 : decode mLw_law.2.1 792 = .ok (.invokevirtual 82, 3) := by decide +kernel
theorem dLw_law_795 : decode mLw_law.2.1 795 = .ok (.aload_n 2, 1) := by decide +kernel
theorem dLw_law_796 : decode mLw_law.2.1 796 = .ok (.aload_n 0, 1) := by decide +kernel
theorem dLw_law_797 : decode mLw_law.2.1 797 = .ok (.iload_n 3, 1) := by decide +kernel
theorem dLw_law_798 : decode mLw_law.2.1 798 = .ok (.iconst 1, 1) := by decide +kernel
theorem dLw_law_799 : decode mLw_law.2.1 799 = .ok (.iadd, 1) := by decide +kernel
theorem dLw_law_800 : decode mLw_law.2.1 800 = .ok (.iaload, 1) := by decide +kernel
theorem dLw_law_801 : decode mLw_law.2.1 801 = .ok (.invokevirtual 86, 3) := by decide +kernel
theorem dLw_law_804 : decode mLw_law.2.1 804 = .ok (.if_icmp .eq 364, 3) := by decide +kernel
theorem dLw_law_807 : decode mLw_law.2.1 807 = .ok (.iconst 0, 1) := by decide +kernel
theorem dLw_law_808 : decode mLw_law.2.1 808 = .ok (.ireturn, 1) := by decide +kernel
theorem dLw_law_809 : decode mLw_law.2.1 809 = .ok (.aload_n 1, 1) := by decide +kernel
theorem dLw_law_810 : decode mLw_law.2.1 810 = .ok (.invokevirtual 87, 3) := by decide +kernel
theorem dLw_law_813 : decode mLw_law.2.1 813 = .ok (.aload_n 2, 1) := by decide +kernel
theorem dLw_law_814 : decode mLw_law.2.1 814 = .ok (.invokevirtual 90, 3) := by decide +kernel
theorem dLw_law_817 : decode mLw_law.2.1 817 = .ok (.if_icmp .eq 351, 3) := by decide +kernel
theorem dLw_law_820 : decode mLw_law.2.1 820 = .ok (.iconst 0, 1) := by decide +kernel
theorem dLw_law_821 : decode mLw_law.2.1 821 = .ok (.ireturn, 1) := by decide +kernel
theorem dLw_law_822 : decode mLw_law.2.1 822 = .ok (.aload_n 1, 1) := by decide +kernel
theorem dLw_law_823 : decode mLw_law.2.1 823 = .ok (.aload_n 0, 1) := by decide +kernel
theorem dLw_law_824 : decode mLw_law.2.1 824 = .ok (.iload_n 3, 1) := by decide +kernel
theorem dLw_law_825 : decode mLw_law.2.1 825 = .ok (.iconst 1, 1) := by decide +kernel
theorem dLw_law_826 : decode mLw_law.2.1 826 = .ok (.iadd, 1) := by decide +kernel
theorem dLw_law_827 : decode mLw_law.2.1 827 = .ok (.iaload, 1) := by decide +kernel
theorem dLw_law_828 : decode mLw_law.2.1 828 = .ok (.aload_n 0, 1) := by decide +kernel
theorem dLw_law_829 : decode mLw_law.2.1 829 = .ok (.iload_n 3, 1) := by decide +kernel
theorem dLw_law_830 : decode mLw_law.2.1 830 = .ok (.iconst 2, 1) := by decide +kernel
theorem dLw_law_831 : decode mLw_law.2.1 831 = .ok (.iadd, 1) := by decide +kernel
theorem dLw_law_832 : decode mLw_law.2.1 832 = .ok (.iaload, 1) := by decide +kernel
theorem dLw_law_833 : decode mLw_law.2.1 833 = .ok (.aload_n 0, 1) := by decide +kernel
theorem dLw_law_834 : decode mLw_law.2.1 834 = .ok (.iload_n 3, 1) := by decide +kernel
theorem dLw_law_835 : decode mLw_law.2.1 835 = .ok (.iconst 3, 1) := by decide +kernel
theorem dLw_law_836 : decode mLw_law.2.1 836 = .ok (.iadd, 1) := by decide +kernel
theorem dLw_law_837 : decode mLw_law.2.1 837 = .ok (.iaload, 1) := by decide +kernel
theorem dLw_law_838 : decode mLw_law.2.1 838 = .ok (.invokevirtual 91, 3) := by decide +kernel
theorem dLw_law_841 : decode mLw_law.2.1 841 = .ok (.aload_n 2, 1) := by decide +kernel
theorem dLw_law_842 : decode mLw_law.2.1 842 = .ok (.aload_n 0, 1) := by decide +kernel
theorem dLw_law_843 : decode mLw_law.2.1 843 = .ok (.iload_n 3, 1) := by decide +kernel
theorem dLw_law_844 : decode mLw_law.2.1 844 = .ok (.iconst 1, 1) := by decide +kernel
theorem dLw_law_845 : decode mLw_law.2.1 845 = .ok (.iadd, 1) := by decide +kernel
theorem dLw_law_846 : decode mLw_law.2.1 846 = .ok (.iaload, 1) := by decide +kernel
theorem dLw_law_847 : decode mLw_law.2.1 847 = .ok (.aload_n 0, 1) := by decide +kernel
theorem dLw_law_848 : decode mLw_law.2.1 848 = .ok (.iload_n 3, 1) := by decide +kernel
theorem dLw_law_849 : decode mLw_law.2.1 849 = .ok (.iconst 2, 1) := by decide +kernel
theorem dLw_law_850 : decode mLw_law.2.1 850 = .ok (.iadd, 1) := by decide +kernel
theorem dLw_law_851 : decode mLw_law.2.1 851 = .ok (.iaload, 1) := by decide +kernel
theorem dLw_law_852 : decode mLw_law.2.1 852 = .ok (.aload_n 0, 1) := by decide +kernel
theorem dLw_law_853 : decode mLw_law.2.1 853 = .ok (.iload_n 3, 1) := by decide +kernel
theorem dLw_law_854 : decode mLw_law.2.1 854 = .ok (.iconst 3, 1) := by decide +kernel
theorem dLw_law_855 : decode mLw_law.2.1 855 = .ok (.iadd, 1) := by decide +kernel
theorem dLw_law_856 : decode mLw_law.2.1 856 = .ok (.iaload, 1) := by decide +kernel
theorem dLw_law_857 : decode mLw_law.2.1 857 = .ok (.invokevirtual 95, 3) := by decide +kernel
theorem dLw_law_860 : decode mLw_law.2.1 860 = .ok (.if_icmp .eq 308, 3) := by decide +kernel
theorem dLw_law_863 : decode mLw_law.2.1 863 = .ok (.iconst 0, 1) := by decide +kernel
theorem dLw_law_864 : decode mLw_law.2.1 864 = .ok (.ireturn, 1) := by decide +kernel
theorem dLw_law_865 : decode mLw_law.2.1 865 = .ok (.aload_n 1, 1) := by decide +kernel
theorem dLw_law_866 : decode mLw_law.2.1 866 = .ok (.aload_n 0, 1) := by decide +kernel
theorem dLw_law_867 : decode mLw_law.2.1 867 = .ok (.iload_n 3, 1) := by decide +kernel
theorem dLw_law_868 : decode mLw_law.2.1 868 = .ok (.iconst 1, 1) := by decide +kernel
theorem dLw_law_869 : decode mLw_law.2.1 869 = .ok (.iadd, 1) := by decide +kernel
theorem dLw_law_870 : decode mLw_law.2.1 870 = .ok (.iaload, 1) := by decide +kernel
theorem dLw_law_871 : decode mLw_law.2.1 871 = .ok (.invokevirtual 96, 3) := by decide +kernel
theorem dLw_law_874 : decode mLw_law.2.1 874 = .ok (.aload_n 2, 1) := by decide +kernel
theorem dLw_law_875 : decode mLw_law.2.1 875 = .ok (.aload_n 0, 1) := by decide +kernel
theorem dLw_law_876 : decode mLw_law.2.1 876 = .ok (.iload_n 3, 1) := by decide +kernel
theorem dLw_law_877 : decode mLw_law.2.1 877 = .ok (.iconst 1, 1) := by decide +kernel
theorem dLw_law_878 : decode mLw_law.2.1 878 = .ok (.iadd, 1) := by decide +kernel
theorem dLw_law_879 : decode mLw_law.2.1 879 = .ok (.iaload, 1) := by decide +kernel
theorem dLw_law_880 : decode mLw_law.2.1 880 = .ok (.invokevirtual 99, 3) := by decide +kernel
theorem dLw_law_883 : decode mLw_law.2.1 883 = .ok (.if_icmp .eq 285, 3) := by decide +kernel
theorem dLw_law_886 : decode mLw_law.2.1 886 = .ok (.iconst 0, 1) := by decide +kernel
theorem dLw_law_887 : decode mLw_law.2.1 887 = .ok (.ireturn, 1) := by decide +kernel
theorem dLw_law_888 : decode mLw_law.2.1 888 = .ok (.aload_n 1, 1) := by decide +kernel
theorem dLw_law_889 : decode mLw_law.2.1 889 = .ok (.aload_n 0, 1) := by decide +kernel
theorem dLw_law_890 : decode mLw_law.2.1 890 = .ok (.iload_n 3, 1) := by decide +kernel
theorem dLw_law_891 : decode mLw_law.2.1 891 = .ok (.iconst 1, 1) := by decide +kernel
theorem dLw_law_892 : decode mLw_law.2.1 892 = .ok (.iadd, 1) := by decide +kernel
theorem dLw_law_893 : decode mLw_law.2.1 893 = .ok (.iaload, 1) := by decide +kernel
theorem dLw_law_894 : decode mLw_law.2.1 894 = .ok (.aload_n 0, 1) := by decide +kernel
theorem dLw_law_895 : decode mLw_law.2.1 895 = .ok (.iload_n 3, 1) := by decide +kernel
theorem dLw_law_896 : decode mLw_law.2.1 896 = .ok (.iconst 2, 1) := by decide +kernel
theorem dLw_law_897 : decode mLw_law.2.1 897 = .ok (.iadd, 1) := by decide +kernel
theorem dLw_law_898 : decode mLw_law.2.1 898 = .ok (.iaload, 1) := by decide +kernel
theorem dLw_law_899 : decode mLw_law.2.1 899 = .ok (.i2l, 1) := by decide +kernel
theorem dLw_law_900 : decode mLw_law.2.1 900 = .ok (.bipush 32, 2) := by decide +kernel
theorem dLw_law_902 : decode mLw_law.2.1 902 = .ok (.lshl, 1) := by decide +kernel
theorem dLw_law_903 : decode mLw_law.2.1 903 = .ok (.aload_n 0, 1) := by decide +kernel
theorem dLw_law_904 : decode mLw_law.2.1 904 = .ok (.iload_n 3, 1) := by decide +kernel
theorem dLw_law_905 : decode mLw_law.2.1 905 = .ok (.iconst 3, 1) := by decide +kernel
theorem dLw_law_906 : decode mLw_law.2.1 906 = .ok (.iadd, 1) := by decide +kernel
theorem dLw_law_907 : decode mLw_law.2.1 907 = .ok (.iaload, 1) := by decide +kernel
theorem dLw_law_908 : decode mLw_law.2.1 908 = .ok (.i2l, 1) := by decide +kernel
theorem dLw_law_909 : decode mLw_law.2.1 909 = .ok (.ldc2_w 13, 3) := by decide +kernel
theorem dLw_law_912 : decode mLw_law.2.1 912 = .ok (.land, 1) := by decide +kernel
theorem dLw_law_913 : decode mLw_law.2.1 913 = .ok (.lor, 1) := by decide +kernel
theorem dLw_law_914 : decode mLw_law.2.1 914 = .ok (.aload_n 0, 1) := by decide +kernel
theorem dLw_law_915 : decode mLw_law.2.1 915 = .ok (.iload_n 3, 1) := by decide +kernel
theorem dLw_law_916 : decode mLw_law.2.1 916 = .ok (.iconst 4, 1) := by decide +kernel
theorem dLw_law_917 : decode mLw_law.2.1 917 = .ok (.iadd, 1) := by decide +kernel
theorem dLw_law_918 : decode mLw_law.2.1 918 = .ok (.iaload, 1) := by decide +kernel
theorem dLw_law_919 : decode mLw_law.2.1 919 = .ok (.invokevirtual 100, 3) := by decide +kernel
theorem dLw_law_922 : decode mLw_law.2.1 922 = .ok (.aload_n 2, 1) := by decide +kernel
theorem dLw_law_923 : decode mLw_law.2.1 923 = .ok (.aload_n 0, 1) := by decide +kernel
theorem dLw_law_924 : decode mLw_law.2.1 924 = .ok (.iload_n 3, 1) := by decide +kernel
theorem dLw_law_925 : decode mLw_law.2.1 925 = .ok (.iconst 1, 1) := by decide +kernel
theorem dLw_law_926 : decode mLw_law.2.1 926 = .ok (.iadd, 1) := by decide +kernel
theorem dLw_law_927 : decode mLw_law.2.1 927 = .ok (.iaload, 1) := by decide +kernel
theorem dLw_law_928 : decode mLw_law.2.1 928 = .ok (.aload_n 0, 1) := by decide +kernel
theorem dLw_law_929 : decode mLw_law.2.1 929 = .ok (.iload_n 3, 1) := by decide +kernel
theorem dLw_law_930 : decode mLw_law.2.1 930 = .ok (.iconst 2, 1) := by decide +kernel
theorem dLw_law_931 : decode mLw_law.2.1 931 = .ok (.iadd, 1) := by decide +kernel
theorem dLw_law_932 : decode mLw_law.2.1 932 = .ok (.iaload, 1) := by decide +kernel
end
section
theorem dLw_law_933 : decode mLw_law.2.1 933 = .ok (.i2l, 1) := by decide +kernel
theorem dLw_law_934 : decode mLw_law.2.1 934 = .ok (.bipush 32, 2) := by decide +kernel
theorem dLw_law_936 : decode mLw_law.2.1 936 = .ok (.lshl, 1) := by decide +kernel
theorem dLw_law_937 : decode mLw_law.2.1 937 = .ok (.aload_n 0, 1) := by decide +kernel
theorem dLw_law_938 : decode mLw_law.2.1 938 = .ok (.iload_n 3, 1) := by decide +kernel
theorem dLw_law_939 : decode mLw_law.2.1 939 = .ok (.iconst 3, 1) := by decide +kernel
theorem dLw_law_940 : decode mLw_law.2.1 940 = .ok (.iadd, 1) := by decide +kernel
theorem dLw_law_941 : decode mLw_law.2.1 941 = .ok (.iaload, 1) := by decide +kernel
theorem dLw_law_942 : decode mLw_law.2.1 942 = .ok (.i2l, 1) := by decide +kernel
theorem dLw_law_943 : decode mLw_law.2.1 943 = .ok (.ldc2_w 13, 3) := by decide +kernel
theorem dLw_law_946 : decode mLw_law.2.1 946 = .ok (.land, 1) := by decide +kernel
theorem dLw_law_947 : decode mLw_law.2.1 947 = .ok (.lor, 1) := by decide +kernel
theorem dLw_law_948 : decode mLw_law.2.1 948 = .ok (.aload_n 0, 1) := by decide +kernel
theorem dLw_law_949 : decode mLw_law.2.1 949 = .ok (.iload_n 3, 1) := by decide +kernel
theorem dLw_law_950 : decode mLw_law.2.1 950 = .ok (.iconst 4, 1) := by decide +kernel
theorem dLw_law_951 : decode mLw_law.2.1 951 = .ok (.iadd, 1) := by decide +kernel
theorem dLw_law_952 : decode mLw_law.2.1 952 = .ok (.iaload, 1) := by decide +kernel
theorem dLw_law_953 : decode mLw_law.2.1 953 = .ok (.invokevirtual 104, 3) := by decide +kernel
theorem dLw_law_956 : decode mLw_law.2.1 956 = .ok (.if_icmp .eq 212, 3) := by decide +kernel
theorem dLw_law_959 : decode mLw_law.2.1 959 = .ok (.iconst 0, 1) := by decide +kernel
theorem dLw_law_960 : decode mLw_law.2.1 960 = .ok (.ireturn, 1) := by decide +kernel
theorem dLw_law_961 : decode mLw_law.2.1 961 = .ok (.aload_n 1, 1) := by decide +kernel
theorem dLw_law_962 : decode mLw_law.2.1 962 = .ok (.aload_n 0, 1) := by decide +kernel
theorem dLw_law_963 : decode mLw_law.2.1 963 = .ok (.iload_n 3, 1) := by decide +kernel
theorem dLw_law_964 : decode mLw_law.2.1 964 = .ok (.iconst 1, 1) := by decide +kernel
theorem dLw_law_965 : decode mLw_law.2.1 965 = .ok (.iadd, 1) := by decide +kernel
theorem dLw_law_966 : decode mLw_law.2.1 966 = .ok (.iaload, 1) := by decide +kernel
theorem dLw_law_967 : decode mLw_law.2.1 967 = .ok (.aload_n 0, 1) := by decide +kernel
theorem dLw_law_968 : decode mLw_law.2.1 968 = .ok (.iload_n 3, 1) := by decide +kernel
theorem dLw_law_969 : decode mLw_law.2.1 969 = .ok (.iconst 2, 1) := by decide +kernel
theorem dLw_law_970 : decode mLw_law.2.1 970 = .ok (.iadd, 1) := by decide +kernel
theorem dLw_law_971 : decode mLw_law.2.1 971 = .ok (.iaload, 1) := by decide +kernel
theorem dLw_law_972 : decode mLw_law.2.1 972 = .ok (.i2l, 1) := by decide +kernel
theorem dLw_law_973 : decode mLw_law.2.1 973 = .ok (.bipush 32, 2) := by decide +kernel
theorem dLw_law_975 : decode mLw_law.2.1 975 = .ok (.lshl, 1) := by decide +kernel
theorem dLw_law_976 : decode mLw_law.2.1 976 = .ok (.aload_n 0, 1) := by decide +kernel
theorem dLw_law_977 : decode mLw_law.2.1 977 = .ok (.iload_n 3, 1) := by decide +kernel
theorem dLw_law_978 : decode mLw_law.2.1 978 = .ok (.iconst 3, 1) := by decide +kernel
theorem dLw_law_979 : decode mLw_law.2.1 979 = .ok (.iadd, 1) := by decide +kernel
theorem dLw_law_980 : decode mLw_law.2.1 980 = .ok (.iaload, 1) := by decide +kernel
theorem dLw_law_981 : decode mLw_law.2.1 981 = .ok (.i2l, 1) := by decide +kernel
theorem dLw_law_982 : decode mLw_law.2.1 982 = .ok (.ldc2_w 13, 3) := by decide +kernel
theorem dLw_law_985 : decode mLw_law.2.1 985 = .ok (.land, 1) := by decide +kernel
theorem dLw_law_986 : decode mLw_law.2.1 986 = .ok (.lor, 1) := by decide +kernel
theorem dLw_law_987 : decode mLw_law.2.1 987 = .ok (.aload_n 0, 1) := by decide +kernel
theorem dLw_law_988 : decode mLw_law.2.1 988 = .ok (.iload_n 3, 1) := by decide +kernel
theorem dLw_law_989 : decode mLw_law.2.1 989 = .ok (.iconst 4, 1) := by decide +kernel
theorem dLw_law_990 : decode mLw_law.2.1 990 = .ok (.iadd, 1) := by decide +kernel
theorem dLw_law_991 : decode mLw_law.2.1 991 = .ok (.iaload, 1) := by decide +kernel
theorem dLw_law_992 : decode mLw_law.2.1 992 = .ok (.invokevirtual 105, 3) := by decide +kernel
theorem dLw_law_995 : decode mLw_law.2.1 995 = .ok (.aload_n 2, 1) := by decide +kernel
theorem dLw_law_996 : decode mLw_law.2.1 996 = .ok (.aload_n 0, 1) := by decide +kernel
theorem dLw_law_997 : decode mLw_law.2.1 997 = .ok (.iload_n 3, 1) := by decide +kernel
theorem dLw_law_998 : decode mLw_law.2.1 998 = .ok (.iconst 1, 1) := by decide +kernel
theorem dLw_law_999 : decode mLw_law.2.1 999 = .ok (.iadd, 1) := by decide +kernel
theorem dLw_law_1000 : decode mLw_law.2.1 1000 = .ok (.iaload, 1) := by decide +kernel
theorem dLw_law_1001 : decode mLw_law.2.1 1001 = .ok (.aload_n 0, 1) := by decide +kernel
theorem dLw_law_1002 : decode mLw_law.2.1 1002 = .ok (.iload_n 3, 1) := by decide +kernel
theorem dLw_law_1003 : decode mLw_law.2.1 1003 = .ok (.iconst 2, 1) := by decide +kernel
theorem dLw_law_1004 : decode mLw_law.2.1 1004 = .ok (.iadd, 1) := by decide +kernel
theorem dLw_law_1005 : decode mLw_law.2.1 1005 = .ok (.iaload, 1) := by decide +kernel
theorem dLw_law_1006 : decode mLw_law.2.1 1006 = .ok (.i2l, 1) := by decide +kernel
theorem dLw_law_1007 : decode mLw_law.2.1 1007 = .ok (.bipush 32, 2) := by decide +kernel
theorem dLw_law_1009 : decode mLw_law.2.1 1009 = .ok (.lshl, 1) := by decide +kernel
theorem dLw_law_1010 : decode mLw_law.2.1 1010 = .ok (.aload_n 0, 1) := by decide +kernel
theorem dLw_law_1011 : decode mLw_law.2.1 1011 = .ok (.iload_n 3, 1) := by decide +kernel
theorem dLw_law_1012 : decode mLw_law.2.1 1012 = .ok (.iconst 3, 1) := by decide +kernel
theorem dLw_law_1013 : decode mLw_law.2.1 1013 = .ok (.iadd, 1) := by decide +kernel
theorem dLw_law_1014 : decode mLw_law.2.1 1014 = .ok (.iaload, 1) := by decide +kernel
theorem dLw_law_1015 : decode mLw_law.2.1 1015 = .ok (.i2l, 1) := by decide +kernel
theorem dLw_law_1016 : decode mLw_law.2.1 1016 = .ok (.ldc2_w 13, 3) := by decide +kernel
theorem dLw_law_1019 : decode mLw_law.2.1 1019 = .ok (.land, 1) := by decide +kernel
theorem dLw_law_1020 : decode mLw_law.2.1 1020 = .ok (.lor, 1) := by decide +kernel
theorem dLw_law_1021 : decode mLw_law.2.1 1021 = .ok (.aload_n 0, 1) := by decide +kernel
theorem dLw_law_1022 : decode mLw_law.2.1 1022 = .ok (.iload_n 3, 1) := by decide +kernel
theorem dLw_law_1023 : decode mLw_law.2.1 1023 = .ok (.iconst 4, 1) := by decide +kernel
theorem dLw_law_1024 : decode mLw_law.2.1 1024 = .ok (.iadd, 1) := by decide +kernel
theorem dLw_law_1025 : decode mLw_law.2.1 1025 = .ok (.iaload, 1) := by decide +kernel
theorem dLw_law_1026 : decode mLw_law.2.1 1026 = .ok (.invokevirtual 108, 3) := by decide +kernel
theorem dLw_law_1029 : decode mLw_law.2.1 1029 = .ok (.if_icmp .eq 139, 3) := by decide +kernel
theorem dLw_law_1032 : decode mLw_law.2.1 1032 = .ok (.iconst 0, 1) := by decide +kernel
theorem dLw_law_1033 : decode mLw_law.2.1 1033 = .ok (.ireturn, 1) := by decide +kernel
theorem dLw_law_1034 : decode mLw_law.2.1 1034 = .ok (.aload_n 1, 1) := by decide +kernel
theorem dLw_law_1035 : decode mLw_law.2.1 1035 = .ok (.aload_n 0, 1) := by decide +kernel
theorem dLw_law_1036 : decode mLw_law.2.1 1036 = .ok (.iload_n 3, 1) := by decide +kernel
theorem dLw_law_1037 : decode mLw_law.2.1 1037 = .ok (.iconst 1, 1) := by decide +kernel
theorem dLw_law_1038 : decode mLw_law.2.1 1038 = .ok (.iadd, 1) := by decide +kernel
theorem dLw_law_1039 : decode mLw_law.2.1 1039 = .ok (.iaload, 1) := by decide +kernel
theorem dLw_law_1040 : decode mLw_law.2.1 1040 = .ok (.aload_n 0, 1) := by decide +kernel
theorem dLw_law_1041 : decode mLw_law.2.1 1041 = .ok (.iload_n 3, 1) := by decide +kernel
theorem dLw_law_1042 : decode mLw_law.2.1 1042 = .ok (.iconst 2, 1) := by decide +kernel
theorem dLw_law_1043 : decode mLw_law.2.1 1043 = .ok (.iadd, 1) := by decide +kernel
theorem dLw_law_1044 : decode mLw_law.2.1 1044 = .ok (.iaload, 1) := by decide +kernel
theorem dLw_law_1045 : decode mLw_law.2.1 1045 = .ok (.invokevirtual 109, 3) := by decide +kernel
theorem dLw_law_1048 : decode mLw_law.2.1 1048 = .ok (.aload_n 2, 1) := by decide +kernel
theorem dLw_law_1049 : decode mLw_law.2.1 1049 = .ok (.aload_n 0, 1) := by decide +kernel
theorem dLw_law_1050 : decode mLw_law.2.1 1050 = .ok (.iload_n 3, 1) := by decide +kernel
theorem dLw_law_1051 : decode mLw_law.2.1 1051 = .ok (.iconst 1, 1) := by decide +kernel
theorem dLw_law_1052 : decode mLw_law.2.1 1052 = .ok (.iadd, 1) := by decide +kernel
theorem dLw_law_1053 : decode mLw_law.2.1 1053 = .ok (.iaload, 1) := by decide +kernel
theorem dLw_law_1054 : decode mLw_law.2.1 1054 = .ok (.aload_n 0, 1) := by decide +kernel
theorem dLw_law_1055 : decode mLw_law.2.1 1055 = .ok (.iload_n 3, 1) := by decide +kernel
theorem dLw_law_1056 : decode mLw_law.2.1 1056 = .ok (.iconst 2, 1) := by decide +kernel
theorem dLw_law_1057 : decode mLw_law.2.1 1057 = .ok (.iadd, 1) := by decide +kernel
theorem dLw_law_1058 : decode mLw_law.2.1 1058 = .ok (.iaload, 1) := by decide +kernel
theorem dLw_law_1059 : decode mLw_law.2.1 1059 = .ok (.invokevirtual 112, 3) := by decide +kernel
theorem dLw_law_1062 : decode mLw_law.2.1 1062 = .ok (.lcmp, 1) := by decide +kernel
theorem dLw_law_1063 : decode mLw_law.2.1 1063 = .ok (.ifCond .eq 105, 3) := by decide +kernel
theorem dLw_law_1066 : decode mLw_law.2.1 1066 = .ok (.iconst 0, 1) := by decide +kernel
theorem dLw_law_1067 : decode mLw_law.2.1 1067 = .ok (.ireturn, 1) := by decide +kernel
theorem dLw_law_1068 : decode mLw_law.2.1 1068 = .ok (.aload_n 1, 1) := by decide +kernel
theorem dLw_law_1069 : decode mLw_law.2.1 1069 = .ok (.aload_n 0, 1) := by decide +kernel
theorem dLw_law_1070 : decode mLw_law.2.1 1070 = .ok (.iload_n 3, 1) := by decide +kernel
theorem dLw_law_1071 : decode mLw_law.2.1 1071 = .ok (.iconst 1, 1) := by decide +kernel
theorem dLw_law_1072 : decode mLw_law.2.1 1072 = .ok (.iadd, 1) := by decide +kernel
theorem dLw_law_1073 : decode mLw_law.2.1 1073 = .ok (.iaload, 1) := by decide +kernel
theorem dLw_law_1074 : decode mLw_law.2.1 1074 = .ok (.aload_n 0, 1) := by decide +kernel
theorem dLw_law_1075 : decode mLw_law.2.1 1075 = .ok (.iload_n 3, 1) := by decide +kernel
theorem dLw_law_1076 : decode mLw_law.2.1 1076 = .ok (.iconst 2, 1) := by decide +kernel
theorem dLw_law_1077 : decode mLw_law.2.1 1077 = .ok (.iadd, 1) := by decide +kernel
theorem dLw_law_1078 : decode mLw_law.2.1 1078 = .ok (.iaload, 1) := by decide +kernel
theorem dLw_law_1079 : decode mLw_law.2.1 1079 = .ok (.invokevirtual 113, 3) := by decide +kernel
theorem dLw_law_1082 : decode mLw_law.2.1 1082 = .ok (.aload_n 2, 1) := by decide +kernel
theorem dLw_law_1083 : decode mLw_law.2.1 1083 = .ok (.aload_n 0, 1) := by decide +kernel
theorem dLw_law_1084 : decode mLw_law.2.1 1084 = .ok (.iload_n 3, 1) := by decide +kernel
theorem dLw_law_1085 : decode mLw_law.2.1 1085 = .ok (.iconst 1, 1) := by decide +kernel
theorem dLw_law_1086 : decode mLw_law.2.1 1086 = .ok (.iadd, 1) := by decide +kernel
theorem dLw_law_1087 : decode mLw_law.2.1 1087 = .ok (.iaload, 1) := by decide +kernel
theorem dLw_law_1088 : decode mLw_law.2.1 1088 = .ok (.aload_n 0, 1) := by decide +kernel
theorem dLw_law_1089 : decode mLw_law.2.1 1089 = .ok (.iload_n 3, 1) := by decide +kernel
theorem dLw_law_1090 : decode mLw_law.2.1 1090 = .ok (.iconst 2, 1) := by decide +kernel
theorem dLw_law_1091 : decode mLw_law.2.1 1091 = .ok (.iadd, 1) := by decide +kernel
theorem dLw_law_1092 : decode mLw_law.2.1 1092 = .ok (.iaload, 1) := by decide +kernel
theorem dLw_law_1093 : decode mLw_law.2.1 1093 = .ok (.invokevirtual 117, 3) := by decide +kernel
theorem dLw_law_1096 : decode mLw_law.2.1 1096 = .ok (.if_icmp .eq 72, 3) := by decide +kernel
theorem dLw_law_1099 : decode mLw_law.2.1 1099 = .ok (.iconst 0, 1) := by decide +kernel
theorem dLw_law_1100 : decode mLw_law.2.1 1100 = .ok (.ireturn, 1) := by decide +kernel
theorem dLw_law_1101 : decode mLw_law.2.1 1101 = .ok (.aload_n 1, 1) := by decide +kernel
theorem dLw_law_1102 : decode mLw_law.2.1 1102 = .ok (.aload_n 0, 1) := by decide +kernel
theorem dLw_law_1103 : decode mLw_law.2.1 1103 = .ok (.iload_n 3, 1) := by decide +kernel
theorem dLw_law_1104 : decode mLw_law.2.1 1104 = .ok (.iconst 1, 1) := by decide +kernel
theorem dLw_law_1105 : decode mLw_law.2.1 1105 = .ok (.iadd, 1) := by decide +kernel
theorem dLw_law_1106 : decode mLw_law.2.1 1106 = .ok (.iaload, 1) := by decide +kernel
theorem dLw_law_1107 : decode mLw_law.2.1 1107 = .ok (.aload_n 0, 1) := by decide +kernel
theorem dLw_law_1108 : decode mLw_law.2.1 1108 = .ok (.iload_n 3, 1) := by decide +kernel
theorem dLw_law_1109 : decode mLw_law.2.1 1109 = .ok (.iconst 2, 1) := by decide +kernel
theorem dLw_law_1110 : decode mLw_law.2.1 1110 = .ok (.iadd, 1) := by decide +kernel
theorem dLw_law_1111 : decode mLw_law.2.1 1111 = .ok (.iaload, 1) := by decide +kernel
theorem dLw_law_1112 : decode mLw_law.2.1 1112 = .ok (.aload_n 0, 1) := by decide +kernel
theorem dLw_law_1113 : decode mLw_law.2.1 1113 = .ok (.iload_n 3, 1) := by decide +kernel
theorem dLw_law_1114 : decode mLw_law.2.1 1114 = .ok (.iconst 3, 1) := by decide +kernel
theorem dLw_law_1115 : decode mLw_law.2.1 1115 = .ok (.iadd, 1) := by decide +kernel
theorem dLw_law_1116 : decode mLw_law.2.1 1116 = .ok (.iaload, 1) := by decide +kernel
theorem dLw_law_1117 : decode mLw_law.2.1 1117 = .ok (.invokevirtual 118, 3) := by decide +kernel
theorem dLw_law_1120 : decode mLw_law.2.1 1120 = .ok (.aload_n 2, 1) := by decide +kernel
theorem dLw_law_1121 : decode mLw_law.2.1 1121 = .ok (.aload_n 0, 1) := by decide +kernel
theorem dLw_law_1122 : decode mLw_law.2.1 1122 = .ok (.iload_n 3, 1) := by decide +kernel
theorem dLw_law_1123 : decode mLw_law.2.1 1123 = .ok (.iconst 1, 1) := by decide +kernel
theorem dLw_law_1124 : decode mLw_law.2.1 1124 = .ok (.iadd, 1) := by decide +kernel
theorem dLw_law_1125 : decode mLw_law.2.1 1125 = .ok (.iaload, 1) := by decide +kernel
theorem dLw_law_1126 : decode mLw_law.2.1 1126 = .ok (.aload_n 0, 1) := by decide +kernel
theorem dLw_law_1127 : decode mLw_law.2.1 1127 = .ok (.iload_n 3, 1) := by decide +kernel
theorem dLw_law_1128 : decode mLw_law.2.1 1128 = .ok (.iconst 2, 1) := by decide +kernel
theorem dLw_law_1129 : decode mLw_law.2.1 1129 = .ok (.iadd, 1) := by decide +kernel
theorem dLw_law_1130 : decode mLw_law.2.1 1130 = .ok (.iaload, 1) := by decide +kernel
theorem dLw_law_1131 : decode mLw_law.2.1 1131 = .ok (.aload_n 0, 1) := by decide +kernel
theorem dLw_law_1132 : decode mLw_law.2.1 1132 = .ok (.iload_n 3, 1) := by decide +kernel
theorem dLw_law_1133 : decode mLw_law.2.1 1133 = .ok (.iconst 3, 1) := by decide +kernel
theorem dLw_law_1134 : decode mLw_law.2.1 1134 = .ok (.iadd, 1) := by decide +kernel
theorem dLw_law_1135 : decode mLw_law.2.1 1135 = .ok (.iaload, 1) := by decide +kernel
theorem dLw_law_1136 : decode mLw_law.2.1 1136 = .ok (.invokevirtual 122, 3) := by decide +kernel
theorem dLw_law_1139 : decode mLw_law.2.1 1139 = .ok (.if_icmp .eq 29, 3) := by decide +kernel
theorem dLw_law_1142 : decode mLw_law.2.1 1142 = .ok (.iconst 0, 1) := by decide +kernel
theorem dLw_law_1143 : decode mLw_law.2.1 1143 = .ok (.ireturn, 1) := by decide +kernel
theorem dLw_law_1144 : decode mLw_law.2.1 1144 = .ok (.aload_n 1, 1) := by decide +kernel
theorem dLw_law_1145 : decode mLw_law.2.1 1145 = .ok (.aload_n 0, 1) := by decide +kernel
theorem dLw_law_1146 : decode mLw_law.2.1 1146 = .ok (.iload_n 3, 1) := by decide +kernel
theorem dLw_law_1147 : decode mLw_law.2.1 1147 = .ok (.iconst 1, 1) := by decide +kernel
theorem dLw_law_1148 : decode mLw_law.2.1 1148 = .ok (.iadd, 1) := by decide +kernel
theorem dLw_law_1149 : decode mLw_law.2.1 1149 = .ok (.iaload, 1) := by decide +kernel
theorem dLw_law_1150 : decode mLw_law.2.1 1150 = .ok (.invokevirtual 123, 3) := by decide +kernel
theorem dLw_law_1153 : decode mLw_law.2.1 1153 = .ok (.aload_n 2, 1) := by decide +kernel
theorem dLw_law_1154 : decode mLw_law.2.1 1154 = .ok (.aload_n 0, 1) := by decide +kernel
theorem dLw_law_1155 : decode mLw_law.2.1 1155 = .ok (.iload_n 3, 1) := by decide +kernel
theorem dLw_law_1156 : decode mLw_law.2.1 1156 = .ok (.iconst 1, 1) := by decide +kernel
theorem dLw_law_1157 : decode mLw_law.2.1 1157 = .ok (.iadd, 1) := by decide +kernel
theorem dLw_law_1158 : decode mLw_law.2.1 1158 = .ok (.iaload, 1) := by decide +kernel
theorem dLw_law_1159 : decode mLw_law.2.1 1159 = .ok (.invokevirtual 127, 3) := by decide +kernel
theorem dLw_law_1162 : decode mLw_law.2.1 1162 = .ok (.lcmp, 1) := by decide +kernel
theorem dLw_law_1163 : decode mLw_law.2.1 1163 = .ok (.ifCond .eq 5, 3) := by decide +kernel
theorem dLw_law_1166 : decode mLw_law.2.1 1166 = .ok (.iconst 0, 1) := by decide +kernel
theorem dLw_law_1167 : decode mLw_law.2.1 1167 = .ok (.ireturn, 1) := by decide +kernel
theorem dLw_law_1168 : decode mLw_law.2.1 1168 = .ok (.iinc 3 5, 3) := by decide +kernel
theorem dLw_law_1171 : decode mLw_law.2.1 1171 = .ok (.goto (-1153), 3) := by decide +kernel
theorem dLw_law_1174 : decode mLw_law.2.1 1174 = .ok (.iconst 1, 1) := by decide +kernel
theorem dLw_law_1175 : decode mLw_law.2.1 1175 = .ok (.ireturn, 1) := by decide +kernel
end
section
theorem ev_inc1 (j : Nat) : nI j + Int32.ofInt 1 = nI (j + 1) := nI_1 j
theorem ev_top {G : xG} {l : Launch} {d bc bs : Nat} {M : xM} {pc : Nat} {L : List (Option Value)} {st : List Value} {h : xH} {n : Nat} {P : Option Value → xH → Nat → Prop} {x y : Int32} (e : x = y) (k : ev_Run G l d bc bs M pc L (.int y :: st) h n P) : ev_Run G l d bc bs M pc L (.int x :: st) h n P := by
  subst e; exact k
theorem ev_topl {G : xG} {l : Launch} {d bc bs : Nat} {M : xM} {pc : Nat} {L : List (Option Value)} {st : List Value} {h : xH} {n : Nat} {P : Option Value → xH → Nat → Prop} {x y : Int64} (e : x = y) (k : ev_Run G l d bc bs M pc L (.long y :: st) h n P) : ev_Run G l d bc bs M pc L (.long x :: st) h n P := by
  subst e; exact k
theorem cz_BL_init {G : xG} {l : Launch} {d bc bs : Nat} {M : xM} {pc i : Nat} {L : List (Option Value)} {rest : List Value} {h : xH} {n : Nat} {P : Option Value → xH → Nat → Prop} {b : Nat} (hd : decode M.2.1 pc = .ok (.invokespecial i, 3)) (hl : Cond.methodLink M.1.cls i (mBL_init).1 ∈ ev_T) (hW : (rest.map fun v => v.category).sum ≤ 8) (k : ev_Run G l d 0 0 mBL_init 0 [some (.ref b)] [] h n (fun v h' n' => ev_Run G l (d + 1) bc bs M (pc + 3) L (ev_psh v rest) h' n' P)) : ev_Run G l (d + 1) bc bs M pc L (.ref b :: rest) h n P :=
  ev_callI (As := []) (mm := 0) hd kBL_init rfl rfl vBL_init hl rfl rfl hW (Nat.le_of_ble_eq_true rfl) (Nat.zero_add _) (Nat.zero_add _) k
theorem ca_BL_init {G : xG} {l : Launch} {d bc bs bc1 bs1 bc2 bs2 : Nat} {M : xM} {pc i : Nat} {L : List (Option Value)} {rest : List Value} {h : xH} {n : Nat} {P : Option Value → xH → Nat → Prop} {b : Nat} (hd : decode M.2.1 pc = .ok (.invokespecial i, 3)) (hl : Cond.methodLink M.1.cls i (mBL_init).1 ∈ ev_T) (hW : (rest.map fun v => v.category).sum ≤ 8) (hb1 : bc1 + bc2 = bc) (hb2 : bs1 + bs2 = bs) (k : ev_Run G l d bc1 bs1 mBL_init 0 [some (.ref b)] [] h n (fun v h' n' => ev_Run G l (d + 1) bc2 bs2 M (pc + 3) L (ev_psh v rest) h' n' P)) : ev_Run G l (d + 1) bc bs M pc L (.ref b :: rest) h n P :=
  ev_callI (As := []) (mm := 0) hd kBL_init rfl rfl vBL_init hl rfl rfl hW (Nat.le_of_ble_eq_true rfl) hb1 hb2 k
theorem cz_Ta_init {G : xG} {l : Launch} {d bc bs : Nat} {M : xM} {pc i : Nat} {L : List (Option Value)} {rest : List Value} {h : xH} {n : Nat} {P : Option Value → xH → Nat → Prop} {b : Nat} (hd : decode M.2.1 pc = .ok (.invokespecial i, 3)) (hl : (M.1.cls, i, (mTa_init).1, "BatchLinks") ∈ ev_nm) (hW : (rest.map fun v => v.category).sum ≤ 8) (k : ev_Run G l d 0 0 mTa_init 0 [some (.ref b)] [] h n (fun v h' n' => ev_Run G l (d + 1) bc bs M (pc + 3) L (ev_psh v rest) h' n' P)) : ev_Run G l (d + 1) bc bs M pc L (.ref b :: rest) h n P :=
  ev_callIN (As := []) (mm := 0) hd kTa_init rfl rfl vTa_init hl rfl rfl hW (Nat.le_of_ble_eq_true rfl) (Nat.zero_add _) (Nat.zero_add _) k
theorem ca_Ta_init {G : xG} {l : Launch} {d bc bs bc1 bs1 bc2 bs2 : Nat} {M : xM} {pc i : Nat} {L : List (Option Value)} {rest : List Value} {h : xH} {n : Nat} {P : Option Value → xH → Nat → Prop} {b : Nat} (hd : decode M.2.1 pc = .ok (.invokespecial i, 3)) (hl : (M.1.cls, i, (mTa_init).1, "BatchLinks") ∈ ev_nm) (hW : (rest.map fun v => v.category).sum ≤ 8) (hb1 : bc1 + bc2 = bc) (hb2 : bs1 + bs2 = bs) (k : ev_Run G l d bc1 bs1 mTa_init 0 [some (.ref b)] [] h n (fun v h' n' => ev_Run G l (d + 1) bc2 bs2 M (pc + 3) L (ev_psh v rest) h' n' P)) : ev_Run G l (d + 1) bc bs M pc L (.ref b :: rest) h n P :=
  ev_callIN (As := []) (mm := 0) hd kTa_init rfl rfl vTa_init hl rfl rfl hW (Nat.le_of_ble_eq_true rfl) hb1 hb2 k
theorem cz_By_init {G : xG} {l : Launch} {d bc bs : Nat} {M : xM} {pc i : Nat} {L : List (Option Value)} {rest : List Value} {h : xH} {n : Nat} {P : Option Value → xH → Nat → Prop} {b : Nat} {x0 : Int32} (hd : decode M.2.1 pc = .ok (.invokespecial i, 3)) (hl : Cond.methodLink M.1.cls i (mBy_init).1 ∈ ev_T) (hW : (rest.map fun v => v.category).sum ≤ 8) (k : ev_Run G l d 0 0 mBy_init 0 [some (.ref b), some (.int x0)] [] h n (fun v h' n' => ev_Run G l (d + 1) bc bs M (pc + 3) L (ev_psh v rest) h' n' P)) : ev_Run G l (d + 1) bc bs M pc L (.int x0 :: .ref b :: rest) h n P :=
  ev_callI (As := [.int x0]) (mm := 0) hd kBy_init rfl rfl vBy_init hl rfl rfl hW (Nat.le_of_ble_eq_true rfl) (Nat.zero_add _) (Nat.zero_add _) k
theorem ca_By_init {G : xG} {l : Launch} {d bc bs bc1 bs1 bc2 bs2 : Nat} {M : xM} {pc i : Nat} {L : List (Option Value)} {rest : List Value} {h : xH} {n : Nat} {P : Option Value → xH → Nat → Prop} {b : Nat} {x0 : Int32} (hd : decode M.2.1 pc = .ok (.invokespecial i, 3)) (hl : Cond.methodLink M.1.cls i (mBy_init).1 ∈ ev_T) (hW : (rest.map fun v => v.category).sum ≤ 8) (hb1 : bc1 + bc2 = bc) (hb2 : bs1 + bs2 = bs) (k : ev_Run G l d bc1 bs1 mBy_init 0 [some (.ref b), some (.int x0)] [] h n (fun v h' n' => ev_Run G l (d + 1) bc2 bs2 M (pc + 3) L (ev_psh v rest) h' n' P)) : ev_Run G l (d + 1) bc bs M pc L (.int x0 :: .ref b :: rest) h n P :=
  ev_callI (As := [.int x0]) (mm := 0) hd kBy_init rfl rfl vBy_init hl rfl rfl hW (Nat.le_of_ble_eq_true rfl) hb1 hb2 k
theorem cz_Na_init {G : xG} {l : Launch} {d bc bs : Nat} {M : xM} {pc i : Nat} {L : List (Option Value)} {rest : List Value} {h : xH} {n : Nat} {P : Option Value → xH → Nat → Prop} {b : Nat} {x0 : Nat} (hd : decode M.2.1 pc = .ok (.invokespecial i, 3)) (hl : Cond.methodLink M.1.cls i (mNa_init).1 ∈ ev_T) (hW : (rest.map fun v => v.category).sum ≤ 8) (k : ev_Run G l d 0 0 mNa_init 0 [some (.ref b), some (.ref x0)] [] h n (fun v h' n' => ev_Run G l (d + 1) bc bs M (pc + 3) L (ev_psh v rest) h' n' P)) : ev_Run G l (d + 1) bc bs M pc L (.ref x0 :: .ref b :: rest) h n P :=
  ev_callI (As := [.ref x0]) (mm := 0) hd kNa_init rfl rfl vNa_init hl rfl rfl hW (Nat.le_of_ble_eq_true rfl) (Nat.zero_add _) (Nat.zero_add _) k
theorem ca_Na_init {G : xG} {l : Launch} {d bc bs bc1 bs1 bc2 bs2 : Nat} {M : xM} {pc i : Nat} {L : List (Option Value)} {rest : List Value} {h : xH} {n : Nat} {P : Option Value → xH → Nat → Prop} {b : Nat} {x0 : Nat} (hd : decode M.2.1 pc = .ok (.invokespecial i, 3)) (hl : Cond.methodLink M.1.cls i (mNa_init).1 ∈ ev_T) (hW : (rest.map fun v => v.category).sum ≤ 8) (hb1 : bc1 + bc2 = bc) (hb2 : bs1 + bs2 = bs) (k : ev_Run G l d bc1 bs1 mNa_init 0 [some (.ref b), some (.ref x0)] [] h n (fun v h' n' => ev_Run G l (d + 1) bc2 bs2 M (pc + 3) L (ev_psh v rest) h' n' P)) : ev_Run G l (d + 1) bc bs M pc L (.ref x0 :: .ref b :: rest) h n P :=
  ev_callI (As := [.ref x0]) (mm := 0) hd kNa_init rfl rfl vNa_init hl rfl rfl hW (Nat.le_of_ble_eq_true rfl) hb1 hb2 k
theorem cz_Ru_init {G : xG} {l : Launch} {d bc bs : Nat} {M : xM} {pc i : Nat} {L : List (Option Value)} {rest : List Value} {h : xH} {n : Nat} {P : Option Value → xH → Nat → Prop} {b : Nat} (hd : decode M.2.1 pc = .ok (.invokespecial i, 3)) (hl : (M.1.cls, i, (mRu_init).1, "BatchLinks") ∈ ev_nm) (hW : (rest.map fun v => v.category).sum ≤ 8) (k : ev_Run G l d 0 0 mRu_init 0 [some (.ref b)] [] h n (fun v h' n' => ev_Run G l (d + 1) bc bs M (pc + 3) L (ev_psh v rest) h' n' P)) : ev_Run G l (d + 1) bc bs M pc L (.ref b :: rest) h n P :=
  ev_callIN (As := []) (mm := 0) hd kRu_init rfl rfl vRu_init hl rfl rfl hW (Nat.le_of_ble_eq_true rfl) (Nat.zero_add _) (Nat.zero_add _) k
theorem ca_Ru_init {G : xG} {l : Launch} {d bc bs bc1 bs1 bc2 bs2 : Nat} {M : xM} {pc i : Nat} {L : List (Option Value)} {rest : List Value} {h : xH} {n : Nat} {P : Option Value → xH → Nat → Prop} {b : Nat} (hd : decode M.2.1 pc = .ok (.invokespecial i, 3)) (hl : (M.1.cls, i, (mRu_init).1, "BatchLinks") ∈ ev_nm) (hW : (rest.map fun v => v.category).sum ≤ 8) (hb1 : bc1 + bc2 = bc) (hb2 : bs1 + bs2 = bs) (k : ev_Run G l d bc1 bs1 mRu_init 0 [some (.ref b)] [] h n (fun v h' n' => ev_Run G l (d + 1) bc2 bs2 M (pc + 3) L (ev_psh v rest) h' n' P)) : ev_Run G l (d + 1) bc bs M pc L (.ref b :: rest) h n P :=
  ev_callIN (As := []) (mm := 0) hd kRu_init rfl rfl vRu_init hl rfl rfl hW (Nat.le_of_ble_eq_true rfl) hb1 hb2 k
theorem cz_Le_init {G : xG} {l : Launch} {d bc bs : Nat} {M : xM} {pc i : Nat} {L : List (Option Value)} {rest : List Value} {h : xH} {n : Nat} {P : Option Value → xH → Nat → Prop} {b : Nat} (hd : decode M.2.1 pc = .ok (.invokespecial i, 3)) (hl : (M.1.cls, i, (mLe_init).1, "BatchLinks") ∈ ev_nm) (hW : (rest.map fun v => v.category).sum ≤ 8) (k : ev_Run G l d 0 0 mLe_init 0 [some (.ref b)] [] h n (fun v h' n' => ev_Run G l (d + 1) bc bs M (pc + 3) L (ev_psh v rest) h' n' P)) : ev_Run G l (d + 1) bc bs M pc L (.ref b :: rest) h n P :=
  ev_callIN (As := []) (mm := 0) hd kLe_init rfl rfl vLe_init hl rfl rfl hW (Nat.le_of_ble_eq_true rfl) (Nat.zero_add _) (Nat.zero_add _) k
theorem ca_Le_init {G : xG} {l : Launch} {d bc bs bc1 bs1 bc2 bs2 : Nat} {M : xM} {pc i : Nat} {L : List (Option Value)} {rest : List Value} {h : xH} {n : Nat} {P : Option Value → xH → Nat → Prop} {b : Nat} (hd : decode M.2.1 pc = .ok (.invokespecial i, 3)) (hl : (M.1.cls, i, (mLe_init).1, "BatchLinks") ∈ ev_nm) (hW : (rest.map fun v => v.category).sum ≤ 8) (hb1 : bc1 + bc2 = bc) (hb2 : bs1 + bs2 = bs) (k : ev_Run G l d bc1 bs1 mLe_init 0 [some (.ref b)] [] h n (fun v h' n' => ev_Run G l (d + 1) bc2 bs2 M (pc + 3) L (ev_psh v rest) h' n' P)) : ev_Run G l (d + 1) bc bs M pc L (.ref b :: rest) h n P :=
  ev_callIN (As := []) (mm := 0) hd kLe_init rfl rfl vLe_init hl rfl rfl hW (Nat.le_of_ble_eq_true rfl) hb1 hb2 k
theorem cz_BL_haul {G : xG} {l : Launch} {d bc bs : Nat} {M : xM} {pc i : Nat} {L : List (Option Value)} {rest : List Value} {h : xH} {n : Nat} {P : Option Value → xH → Nat → Prop} {b : Nat} {x0 : Int64} {x1 : Int32} {x2 : Int32} (hd : decode M.2.1 pc = .ok (.invokevirtual i, 3)) (hl : Cond.methodLink M.1.cls i (mBL_haul).1 ∈ ev_T) {fs : List Value} (hb : h b = some (.inr (7, fs))) (hW : (rest.map fun v => v.category).sum ≤ 8) (k : ev_Run G l d 0 0 mBL_haul 0 [some (.ref b), some (.long x0), none, some (.int x1), some (.int x2), none] [] h n (fun v h' n' => ev_Run G l (d + 1) bc bs M (pc + 3) L (ev_psh v rest) h' n' P)) : ev_Run G l (d + 1) bc bs M pc L (.int x2 :: .int x1 :: .long x0 :: .ref b :: rest) h n P :=
  ev_callV (As := [.long x0, .int x1, .int x2]) (mm := 1) hd kBL_haul vBL_haul wBL_haul hl hb rfl rfl rfl hW (Nat.le_of_ble_eq_true rfl) (Nat.zero_add _) (Nat.zero_add _) k
theorem ca_BL_haul {G : xG} {l : Launch} {d bc bs bc1 bs1 bc2 bs2 : Nat} {M : xM} {pc i : Nat} {L : List (Option Value)} {rest : List Value} {h : xH} {n : Nat} {P : Option Value → xH → Nat → Prop} {b : Nat} {x0 : Int64} {x1 : Int32} {x2 : Int32} (hd : decode M.2.1 pc = .ok (.invokevirtual i, 3)) (hl : Cond.methodLink M.1.cls i (mBL_haul).1 ∈ ev_T) {fs : List Value} (hb : h b = some (.inr (7, fs))) (hW : (rest.map fun v => v.category).sum ≤ 8) (hb1 : bc1 + bc2 = bc) (hb2 : bs1 + bs2 = bs) (k : ev_Run G l d bc1 bs1 mBL_haul 0 [some (.ref b), some (.long x0), none, some (.int x1), some (.int x2), none] [] h n (fun v h' n' => ev_Run G l (d + 1) bc2 bs2 M (pc + 3) L (ev_psh v rest) h' n' P)) : ev_Run G l (d + 1) bc bs M pc L (.int x2 :: .int x1 :: .long x0 :: .ref b :: rest) h n P :=
  ev_callV (As := [.long x0, .int x1, .int x2]) (mm := 1) hd kBL_haul vBL_haul wBL_haul hl hb rfl rfl rfl hW (Nat.le_of_ble_eq_true rfl) hb1 hb2 k
theorem cz_BL_isWeight {G : xG} {l : Launch} {d bc bs : Nat} {M : xM} {pc i : Nat} {L : List (Option Value)} {rest : List Value} {h : xH} {n : Nat} {P : Option Value → xH → Nat → Prop} {x0 : Int64} (hd : decode M.2.1 pc = .ok (.invokestatic i, 3)) (hl : Cond.methodLink M.1.cls i (mBL_isWeight).1 ∈ ev_T) (hW : (rest.map fun v => v.category).sum ≤ 8) (k : ev_Run G l d 0 0 mBL_isWeight 0 [some (.long x0), none] [] h n (fun v h' n' => ev_Run G l (d + 1) bc bs M (pc + 3) L (ev_psh v rest) h' n' P)) : ev_Run G l (d + 1) bc bs M pc L (.long x0 :: rest) h n P :=
  ev_callS (As := [.long x0]) (mm := 0) hd kBL_isWeight sBL_isWeight hl rfl rfl hW (Nat.le_of_ble_eq_true rfl) (Nat.zero_add _) (Nat.zero_add _) k
theorem ca_BL_isWeight {G : xG} {l : Launch} {d bc bs bc1 bs1 bc2 bs2 : Nat} {M : xM} {pc i : Nat} {L : List (Option Value)} {rest : List Value} {h : xH} {n : Nat} {P : Option Value → xH → Nat → Prop} {x0 : Int64} (hd : decode M.2.1 pc = .ok (.invokestatic i, 3)) (hl : Cond.methodLink M.1.cls i (mBL_isWeight).1 ∈ ev_T) (hW : (rest.map fun v => v.category).sum ≤ 8) (hb1 : bc1 + bc2 = bc) (hb2 : bs1 + bs2 = bs) (k : ev_Run G l d bc1 bs1 mBL_isWeight 0 [some (.long x0), none] [] h n (fun v h' n' => ev_Run G l (d + 1) bc2 bs2 M (pc + 3) L (ev_psh v rest) h' n' P)) : ev_Run G l (d + 1) bc bs M pc L (.long x0 :: rest) h n P :=
  ev_callS (As := [.long x0]) (mm := 0) hd kBL_isWeight sBL_isWeight hl rfl rfl hW (Nat.le_of_ble_eq_true rfl) hb1 hb2 k
theorem cz_BL_isWithin {G : xG} {l : Launch} {d bc bs : Nat} {M : xM} {pc i : Nat} {L : List (Option Value)} {rest : List Value} {h : xH} {n : Nat} {P : Option Value → xH → Nat → Prop} {x0 : Int32} {x1 : Int32} (hd : decode M.2.1 pc = .ok (.invokestatic i, 3)) (hl : Cond.methodLink M.1.cls i (mBL_isWithin).1 ∈ ev_T) (hW : (rest.map fun v => v.category).sum ≤ 8) (k : ev_Run G l d 0 0 mBL_isWithin 0 [some (.int x0), some (.int x1)] [] h n (fun v h' n' => ev_Run G l (d + 1) bc bs M (pc + 3) L (ev_psh v rest) h' n' P)) : ev_Run G l (d + 1) bc bs M pc L (.int x1 :: .int x0 :: rest) h n P :=
  ev_callS (As := [.int x0, .int x1]) (mm := 0) hd kBL_isWithin sBL_isWithin hl rfl rfl hW (Nat.le_of_ble_eq_true rfl) (Nat.zero_add _) (Nat.zero_add _) k
theorem ca_BL_isWithin {G : xG} {l : Launch} {d bc bs bc1 bs1 bc2 bs2 : Nat} {M : xM} {pc i : Nat} {L : List (Option Value)} {rest : List Value} {h : xH} {n : Nat} {P : Option Value → xH → Nat → Prop} {x0 : Int32} {x1 : Int32} (hd : decode M.2.1 pc = .ok (.invokestatic i, 3)) (hl : Cond.methodLink M.1.cls i (mBL_isWithin).1 ∈ ev_T) (hW : (rest.map fun v => v.category).sum ≤ 8) (hb1 : bc1 + bc2 = bc) (hb2 : bs1 + bs2 = bs) (k : ev_Run G l d bc1 bs1 mBL_isWithin 0 [some (.int x0), some (.int x1)] [] h n (fun v h' n' => ev_Run G l (d + 1) bc2 bs2 M (pc + 3) L (ev_psh v rest) h' n' P)) : ev_Run G l (d + 1) bc bs M pc L (.int x1 :: .int x0 :: rest) h n P :=
  ev_callS (As := [.int x0, .int x1]) (mm := 0) hd kBL_isWithin sBL_isWithin hl rfl rfl hW (Nat.le_of_ble_eq_true rfl) hb1 hb2 k
theorem cz_BL_isFull {G : xG} {l : Launch} {d bc bs : Nat} {M : xM} {pc i : Nat} {L : List (Option Value)} {rest : List Value} {h : xH} {n : Nat} {P : Option Value → xH → Nat → Prop} {b : Nat} (hd : decode M.2.1 pc = .ok (.invokevirtual i, 3)) (hl : Cond.methodLink M.1.cls i (mBL_isFull).1 ∈ ev_T) {fs : List Value} (hb : h b = some (.inr (7, fs))) (hW : (rest.map fun v => v.category).sum ≤ 8) (k : ev_Run G l d 0 0 mBL_isFull 0 [some (.ref b)] [] h n (fun v h' n' => ev_Run G l (d + 1) bc bs M (pc + 3) L (ev_psh v rest) h' n' P)) : ev_Run G l (d + 1) bc bs M pc L (.ref b :: rest) h n P :=
  ev_callV (As := []) (mm := 0) hd kBL_isFull vBL_isFull wBL_isFull hl hb rfl rfl rfl hW (Nat.le_of_ble_eq_true rfl) (Nat.zero_add _) (Nat.zero_add _) k
theorem ca_BL_isFull {G : xG} {l : Launch} {d bc bs bc1 bs1 bc2 bs2 : Nat} {M : xM} {pc i : Nat} {L : List (Option Value)} {rest : List Value} {h : xH} {n : Nat} {P : Option Value → xH → Nat → Prop} {b : Nat} (hd : decode M.2.1 pc = .ok (.invokevirtual i, 3)) (hl : Cond.methodLink M.1.cls i (mBL_isFull).1 ∈ ev_T) {fs : List Value} (hb : h b = some (.inr (7, fs))) (hW : (rest.map fun v => v.category).sum ≤ 8) (hb1 : bc1 + bc2 = bc) (hb2 : bs1 + bs2 = bs) (k : ev_Run G l d bc1 bs1 mBL_isFull 0 [some (.ref b)] [] h n (fun v h' n' => ev_Run G l (d + 1) bc2 bs2 M (pc + 3) L (ev_psh v rest) h' n' P)) : ev_Run G l (d + 1) bc bs M pc L (.ref b :: rest) h n P :=
  ev_callV (As := []) (mm := 0) hd kBL_isFull vBL_isFull wBL_isFull hl hb rfl rfl rfl hW (Nat.le_of_ble_eq_true rfl) hb1 hb2 k
theorem cz_Th_init {G : xG} {l : Launch} {d bc bs : Nat} {M : xM} {pc i : Nat} {L : List (Option Value)} {rest : List Value} {h : xH} {n : Nat} {P : Option Value → xH → Nat → Prop} {b : Nat} {x0 : Int32} {x1 : Int32} {x2 : Int32} (hd : decode M.2.1 pc = .ok (.invokespecial i, 3)) (hl : Cond.methodLink M.1.cls i (mTh_init).1 ∈ ev_T) (hW : (rest.map fun v => v.category).sum ≤ 8) (k : ev_Run G l d 0 0 mTh_init 0 [some (.ref b), some (.int x0), some (.int x1), some (.int x2)] [] h n (fun v h' n' => ev_Run G l (d + 1) bc bs M (pc + 3) L (ev_psh v rest) h' n' P)) : ev_Run G l (d + 1) bc bs M pc L (.int x2 :: .int x1 :: .int x0 :: .ref b :: rest) h n P :=
  ev_callI (As := [.int x0, .int x1, .int x2]) (mm := 0) hd kTh_init rfl rfl vTh_init hl rfl rfl hW (Nat.le_of_ble_eq_true rfl) (Nat.zero_add _) (Nat.zero_add _) k
theorem ca_Th_init {G : xG} {l : Launch} {d bc bs bc1 bs1 bc2 bs2 : Nat} {M : xM} {pc i : Nat} {L : List (Option Value)} {rest : List Value} {h : xH} {n : Nat} {P : Option Value → xH → Nat → Prop} {b : Nat} {x0 : Int32} {x1 : Int32} {x2 : Int32} (hd : decode M.2.1 pc = .ok (.invokespecial i, 3)) (hl : Cond.methodLink M.1.cls i (mTh_init).1 ∈ ev_T) (hW : (rest.map fun v => v.category).sum ≤ 8) (hb1 : bc1 + bc2 = bc) (hb2 : bs1 + bs2 = bs) (k : ev_Run G l d bc1 bs1 mTh_init 0 [some (.ref b), some (.int x0), some (.int x1), some (.int x2)] [] h n (fun v h' n' => ev_Run G l (d + 1) bc2 bs2 M (pc + 3) L (ev_psh v rest) h' n' P)) : ev_Run G l (d + 1) bc bs M pc L (.int x2 :: .int x1 :: .int x0 :: .ref b :: rest) h n P :=
  ev_callI (As := [.int x0, .int x1, .int x2]) (mm := 0) hd kTh_init rfl rfl vTh_init hl rfl rfl hW (Nat.le_of_ble_eq_true rfl) hb1 hb2 k
theorem cz_La_init {G : xG} {l : Launch} {d bc bs : Nat} {M : xM} {pc i : Nat} {L : List (Option Value)} {rest : List Value} {h : xH} {n : Nat} {P : Option Value → xH → Nat → Prop} {b : Nat} (hd : decode M.2.1 pc = .ok (.invokespecial i, 3)) (hl : (M.1.cls, i, (mLa_init).1, "BatchLinks") ∈ ev_nm) (hW : (rest.map fun v => v.category).sum ≤ 8) (k : ev_Run G l d 0 0 mLa_init 0 [some (.ref b)] [] h n (fun v h' n' => ev_Run G l (d + 1) bc bs M (pc + 3) L (ev_psh v rest) h' n' P)) : ev_Run G l (d + 1) bc bs M pc L (.ref b :: rest) h n P :=
  ev_callIN (As := []) (mm := 0) hd kLa_init rfl rfl vLa_init hl rfl rfl hW (Nat.le_of_ble_eq_true rfl) (Nat.zero_add _) (Nat.zero_add _) k
theorem ca_La_init {G : xG} {l : Launch} {d bc bs bc1 bs1 bc2 bs2 : Nat} {M : xM} {pc i : Nat} {L : List (Option Value)} {rest : List Value} {h : xH} {n : Nat} {P : Option Value → xH → Nat → Prop} {b : Nat} (hd : decode M.2.1 pc = .ok (.invokespecial i, 3)) (hl : (M.1.cls, i, (mLa_init).1, "BatchLinks") ∈ ev_nm) (hW : (rest.map fun v => v.category).sum ≤ 8) (hb1 : bc1 + bc2 = bc) (hb2 : bs1 + bs2 = bs) (k : ev_Run G l d bc1 bs1 mLa_init 0 [some (.ref b)] [] h n (fun v h' n' => ev_Run G l (d + 1) bc2 bs2 M (pc + 3) L (ev_psh v rest) h' n' P)) : ev_Run G l (d + 1) bc bs M pc L (.ref b :: rest) h n P :=
  ev_callIN (As := []) (mm := 0) hd kLa_init rfl rfl vLa_init hl rfl rfl hW (Nat.le_of_ble_eq_true rfl) hb1 hb2 k
theorem cz_La_append {G : xG} {l : Launch} {d bc bs : Nat} {M : xM} {pc i : Nat} {L : List (Option Value)} {rest : List Value} {h : xH} {n : Nat} {P : Option Value → xH → Nat → Prop} {b : Nat} {x0 : Int32} {x1 : Int64} (hd : decode M.2.1 pc = .ok (.invokevirtual i, 3)) (hl : Cond.methodLink M.1.cls i (mLa_append).1 ∈ ev_T) {fs : List Value} (hb : h b = some (.inr (1, fs))) (hW : (rest.map fun v => v.category).sum ≤ 8) (k : ev_Run G l d 0 0 mLa_append 0 [some (.ref b), some (.int x0), some (.long x1), none] [] h n (fun v h' n' => ev_Run G l (d + 1) bc bs M (pc + 3) L (ev_psh v rest) h' n' P)) : ev_Run G l (d + 1) bc bs M pc L (.long x1 :: .int x0 :: .ref b :: rest) h n P :=
  ev_callV (As := [.int x0, .long x1]) (mm := 0) hd kLa_append vLa_append wLa_append hl hb rfl rfl rfl hW (Nat.le_of_ble_eq_true rfl) (Nat.zero_add _) (Nat.zero_add _) k
theorem ca_La_append {G : xG} {l : Launch} {d bc bs bc1 bs1 bc2 bs2 : Nat} {M : xM} {pc i : Nat} {L : List (Option Value)} {rest : List Value} {h : xH} {n : Nat} {P : Option Value → xH → Nat → Prop} {b : Nat} {x0 : Int32} {x1 : Int64} (hd : decode M.2.1 pc = .ok (.invokevirtual i, 3)) (hl : Cond.methodLink M.1.cls i (mLa_append).1 ∈ ev_T) {fs : List Value} (hb : h b = some (.inr (1, fs))) (hW : (rest.map fun v => v.category).sum ≤ 8) (hb1 : bc1 + bc2 = bc) (hb2 : bs1 + bs2 = bs) (k : ev_Run G l d bc1 bs1 mLa_append 0 [some (.ref b), some (.int x0), some (.long x1), none] [] h n (fun v h' n' => ev_Run G l (d + 1) bc2 bs2 M (pc + 3) L (ev_psh v rest) h' n' P)) : ev_Run G l (d + 1) bc bs M pc L (.long x1 :: .int x0 :: .ref b :: rest) h n P :=
  ev_callV (As := [.int x0, .long x1]) (mm := 0) hd kLa_append vLa_append wLa_append hl hb rfl rfl rfl hW (Nat.le_of_ble_eq_true rfl) hb1 hb2 k
theorem cz_BL_keep {G : xG} {l : Launch} {d bc bs : Nat} {M : xM} {pc i : Nat} {L : List (Option Value)} {rest : List Value} {h : xH} {n : Nat} {P : Option Value → xH → Nat → Prop} {b : Nat} {x0 : Nat} (hd : decode M.2.1 pc = .ok (.invokevirtual i, 3)) (hl : Cond.methodLink M.1.cls i (mBL_keep).1 ∈ ev_T) {fs : List Value} (hb : h b = some (.inr (7, fs))) (hW : (rest.map fun v => v.category).sum ≤ 8) (k : ev_Run G l d 0 0 mBL_keep 0 [some (.ref b), some (.ref x0)] [] h n (fun v h' n' => ev_Run G l (d + 1) bc bs M (pc + 3) L (ev_psh v rest) h' n' P)) : ev_Run G l (d + 1) bc bs M pc L (.ref x0 :: .ref b :: rest) h n P :=
  ev_callV (As := [.ref x0]) (mm := 0) hd kBL_keep vBL_keep wBL_keep hl hb rfl rfl rfl hW (Nat.le_of_ble_eq_true rfl) (Nat.zero_add _) (Nat.zero_add _) k
theorem ca_BL_keep {G : xG} {l : Launch} {d bc bs bc1 bs1 bc2 bs2 : Nat} {M : xM} {pc i : Nat} {L : List (Option Value)} {rest : List Value} {h : xH} {n : Nat} {P : Option Value → xH → Nat → Prop} {b : Nat} {x0 : Nat} (hd : decode M.2.1 pc = .ok (.invokevirtual i, 3)) (hl : Cond.methodLink M.1.cls i (mBL_keep).1 ∈ ev_T) {fs : List Value} (hb : h b = some (.inr (7, fs))) (hW : (rest.map fun v => v.category).sum ≤ 8) (hb1 : bc1 + bc2 = bc) (hb2 : bs1 + bs2 = bs) (k : ev_Run G l d bc1 bs1 mBL_keep 0 [some (.ref b), some (.ref x0)] [] h n (fun v h' n' => ev_Run G l (d + 1) bc2 bs2 M (pc + 3) L (ev_psh v rest) h' n' P)) : ev_Run G l (d + 1) bc bs M pc L (.ref x0 :: .ref b :: rest) h n P :=
  ev_callV (As := [.ref x0]) (mm := 0) hd kBL_keep vBL_keep wBL_keep hl hb rfl rfl rfl hW (Nat.le_of_ble_eq_true rfl) hb1 hb2 k
theorem cz_BL_batch {G : xG} {l : Launch} {d bc bs : Nat} {M : xM} {pc i : Nat} {L : List (Option Value)} {rest : List Value} {h : xH} {n : Nat} {P : Option Value → xH → Nat → Prop} {b : Nat} (hd : decode M.2.1 pc = .ok (.invokevirtual i, 3)) (hl : Cond.methodLink M.1.cls i (mBL_batch).1 ∈ ev_T) {fs : List Value} (hb : h b = some (.inr (7, fs))) (hW : (rest.map fun v => v.category).sum ≤ 8) (k : ev_Run G l d 0 0 mBL_batch 0 [some (.ref b)] [] h n (fun v h' n' => ev_Run G l (d + 1) bc bs M (pc + 3) L (ev_psh v rest) h' n' P)) : ev_Run G l (d + 1) bc bs M pc L (.ref b :: rest) h n P :=
  ev_callV (As := []) (mm := 0) hd kBL_batch vBL_batch wBL_batch hl hb rfl rfl rfl hW (Nat.le_of_ble_eq_true rfl) (Nat.zero_add _) (Nat.zero_add _) k
theorem ca_BL_batch {G : xG} {l : Launch} {d bc bs bc1 bs1 bc2 bs2 : Nat} {M : xM} {pc i : Nat} {L : List (Option Value)} {rest : List Value} {h : xH} {n : Nat} {P : Option Value → xH → Nat → Prop} {b : Nat} (hd : decode M.2.1 pc = .ok (.invokevirtual i, 3)) (hl : Cond.methodLink M.1.cls i (mBL_batch).1 ∈ ev_T) {fs : List Value} (hb : h b = some (.inr (7, fs))) (hW : (rest.map fun v => v.category).sum ≤ 8) (hb1 : bc1 + bc2 = bc) (hb2 : bs1 + bs2 = bs) (k : ev_Run G l d bc1 bs1 mBL_batch 0 [some (.ref b)] [] h n (fun v h' n' => ev_Run G l (d + 1) bc2 bs2 M (pc + 3) L (ev_psh v rest) h' n' P)) : ev_Run G l (d + 1) bc bs M pc L (.ref b :: rest) h n P :=
  ev_callV (As := []) (mm := 0) hd kBL_batch vBL_batch wBL_batch hl hb rfl rfl rfl hW (Nat.le_of_ble_eq_true rfl) hb1 hb2 k
theorem cz_BL_into {G : xG} {l : Launch} {d bc bs : Nat} {M : xM} {pc i : Nat} {L : List (Option Value)} {rest : List Value} {h : xH} {n : Nat} {P : Option Value → xH → Nat → Prop} {b : Nat} {x0 : Int32} {x1 : Int32} {x2 : Int64} (hd : decode M.2.1 pc = .ok (.invokevirtual i, 3)) (hl : Cond.methodLink M.1.cls i (mBL_into).1 ∈ ev_T) {fs : List Value} (hb : h b = some (.inr (7, fs))) (hW : (rest.map fun v => v.category).sum ≤ 8) (k : ev_Run G l d 0 0 mBL_into 0 [some (.ref b), some (.int x0), some (.int x1), some (.long x2), none, none, none] [] h n (fun v h' n' => ev_Run G l (d + 1) bc bs M (pc + 3) L (ev_psh v rest) h' n' P)) : ev_Run G l (d + 1) bc bs M pc L (.long x2 :: .int x1 :: .int x0 :: .ref b :: rest) h n P :=
  ev_callV (As := [.int x0, .int x1, .long x2]) (mm := 2) hd kBL_into vBL_into wBL_into hl hb rfl rfl rfl hW (Nat.le_of_ble_eq_true rfl) (Nat.zero_add _) (Nat.zero_add _) k
theorem ca_BL_into {G : xG} {l : Launch} {d bc bs bc1 bs1 bc2 bs2 : Nat} {M : xM} {pc i : Nat} {L : List (Option Value)} {rest : List Value} {h : xH} {n : Nat} {P : Option Value → xH → Nat → Prop} {b : Nat} {x0 : Int32} {x1 : Int32} {x2 : Int64} (hd : decode M.2.1 pc = .ok (.invokevirtual i, 3)) (hl : Cond.methodLink M.1.cls i (mBL_into).1 ∈ ev_T) {fs : List Value} (hb : h b = some (.inr (7, fs))) (hW : (rest.map fun v => v.category).sum ≤ 8) (hb1 : bc1 + bc2 = bc) (hb2 : bs1 + bs2 = bs) (k : ev_Run G l d bc1 bs1 mBL_into 0 [some (.ref b), some (.int x0), some (.int x1), some (.long x2), none, none, none] [] h n (fun v h' n' => ev_Run G l (d + 1) bc2 bs2 M (pc + 3) L (ev_psh v rest) h' n' P)) : ev_Run G l (d + 1) bc bs M pc L (.long x2 :: .int x1 :: .int x0 :: .ref b :: rest) h n P :=
  ev_callV (As := [.int x0, .int x1, .long x2]) (mm := 2) hd kBL_into vBL_into wBL_into hl hb rfl rfl rfl hW (Nat.le_of_ble_eq_true rfl) hb1 hb2 k
theorem cz_BL_find {G : xG} {l : Launch} {d bc bs : Nat} {M : xM} {pc i : Nat} {L : List (Option Value)} {rest : List Value} {h : xH} {n : Nat} {P : Option Value → xH → Nat → Prop} {b : Nat} {x0 : Int32} (hd : decode M.2.1 pc = .ok (.invokevirtual i, 3)) (hl : Cond.methodLink M.1.cls i (mBL_find).1 ∈ ev_T) {fs : List Value} (hb : h b = some (.inr (7, fs))) (hW : (rest.map fun v => v.category).sum ≤ 8) (k : ev_Run G l d 0 0 mBL_find 0 [some (.ref b), some (.int x0)] [] h n (fun v h' n' => ev_Run G l (d + 1) bc bs M (pc + 3) L (ev_psh v rest) h' n' P)) : ev_Run G l (d + 1) bc bs M pc L (.int x0 :: .ref b :: rest) h n P :=
  ev_callV (As := [.int x0]) (mm := 0) hd kBL_find vBL_find wBL_find hl hb rfl rfl rfl hW (Nat.le_of_ble_eq_true rfl) (Nat.zero_add _) (Nat.zero_add _) k
theorem ca_BL_find {G : xG} {l : Launch} {d bc bs bc1 bs1 bc2 bs2 : Nat} {M : xM} {pc i : Nat} {L : List (Option Value)} {rest : List Value} {h : xH} {n : Nat} {P : Option Value → xH → Nat → Prop} {b : Nat} {x0 : Int32} (hd : decode M.2.1 pc = .ok (.invokevirtual i, 3)) (hl : Cond.methodLink M.1.cls i (mBL_find).1 ∈ ev_T) {fs : List Value} (hb : h b = some (.inr (7, fs))) (hW : (rest.map fun v => v.category).sum ≤ 8) (hb1 : bc1 + bc2 = bc) (hb2 : bs1 + bs2 = bs) (k : ev_Run G l d bc1 bs1 mBL_find 0 [some (.ref b), some (.int x0)] [] h n (fun v h' n' => ev_Run G l (d + 1) bc2 bs2 M (pc + 3) L (ev_psh v rest) h' n' P)) : ev_Run G l (d + 1) bc bs M pc L (.int x0 :: .ref b :: rest) h n P :=
  ev_callV (As := [.int x0]) (mm := 0) hd kBL_find vBL_find wBL_find hl hb rfl rfl rfl hW (Nat.le_of_ble_eq_true rfl) hb1 hb2 k
theorem cz_La_have {G : xG} {l : Launch} {d bc bs : Nat} {M : xM} {pc i : Nat} {L : List (Option Value)} {rest : List Value} {h : xH} {n : Nat} {P : Option Value → xH → Nat → Prop} {b : Nat} {x0 : Int64} (hd : decode M.2.1 pc = .ok (.invokevirtual i, 3)) (hl : Cond.methodLink M.1.cls i (mLa_have).1 ∈ ev_T) {fs : List Value} (hb : h b = some (.inr (1, fs))) (hW : (rest.map fun v => v.category).sum ≤ 8) (k : ev_Run G l d 0 0 mLa_have 0 [some (.ref b), some (.long x0), none] [] h n (fun v h' n' => ev_Run G l (d + 1) bc bs M (pc + 3) L (ev_psh v rest) h' n' P)) : ev_Run G l (d + 1) bc bs M pc L (.long x0 :: .ref b :: rest) h n P :=
  ev_callV (As := [.long x0]) (mm := 0) hd kLa_have vLa_have wLa_have hl hb rfl rfl rfl hW (Nat.le_of_ble_eq_true rfl) (Nat.zero_add _) (Nat.zero_add _) k
theorem ca_La_have {G : xG} {l : Launch} {d bc bs bc1 bs1 bc2 bs2 : Nat} {M : xM} {pc i : Nat} {L : List (Option Value)} {rest : List Value} {h : xH} {n : Nat} {P : Option Value → xH → Nat → Prop} {b : Nat} {x0 : Int64} (hd : decode M.2.1 pc = .ok (.invokevirtual i, 3)) (hl : Cond.methodLink M.1.cls i (mLa_have).1 ∈ ev_T) {fs : List Value} (hb : h b = some (.inr (1, fs))) (hW : (rest.map fun v => v.category).sum ≤ 8) (hb1 : bc1 + bc2 = bc) (hb2 : bs1 + bs2 = bs) (k : ev_Run G l d bc1 bs1 mLa_have 0 [some (.ref b), some (.long x0), none] [] h n (fun v h' n' => ev_Run G l (d + 1) bc2 bs2 M (pc + 3) L (ev_psh v rest) h' n' P)) : ev_Run G l (d + 1) bc bs M pc L (.long x0 :: .ref b :: rest) h n P :=
  ev_callV (As := [.long x0]) (mm := 0) hd kLa_have vLa_have wLa_have hl hb rfl rfl rfl hW (Nat.le_of_ble_eq_true rfl) hb1 hb2 k
theorem cz_La_total {G : xG} {l : Launch} {d bc bs : Nat} {M : xM} {pc i : Nat} {L : List (Option Value)} {rest : List Value} {h : xH} {n : Nat} {P : Option Value → xH → Nat → Prop} {b : Nat} (hd : decode M.2.1 pc = .ok (.invokevirtual i, 3)) (hl : Cond.methodLink M.1.cls i (mLa_total).1 ∈ ev_T) {fs : List Value} (hb : h b = some (.inr (1, fs))) (hW : (rest.map fun v => v.category).sum ≤ 8) (k : ev_Run G l d 0 0 mLa_total 0 [some (.ref b), none, none, none] [] h n (fun v h' n' => ev_Run G l (d + 1) bc bs M (pc + 3) L (ev_psh v rest) h' n' P)) : ev_Run G l (d + 1) bc bs M pc L (.ref b :: rest) h n P :=
  ev_callV (As := []) (mm := 3) hd kLa_total vLa_total wLa_total hl hb rfl rfl rfl hW (Nat.le_of_ble_eq_true rfl) (Nat.zero_add _) (Nat.zero_add _) k
theorem ca_La_total {G : xG} {l : Launch} {d bc bs bc1 bs1 bc2 bs2 : Nat} {M : xM} {pc i : Nat} {L : List (Option Value)} {rest : List Value} {h : xH} {n : Nat} {P : Option Value → xH → Nat → Prop} {b : Nat} (hd : decode M.2.1 pc = .ok (.invokevirtual i, 3)) (hl : Cond.methodLink M.1.cls i (mLa_total).1 ∈ ev_T) {fs : List Value} (hb : h b = some (.inr (1, fs))) (hW : (rest.map fun v => v.category).sum ≤ 8) (hb1 : bc1 + bc2 = bc) (hb2 : bs1 + bs2 = bs) (k : ev_Run G l d bc1 bs1 mLa_total 0 [some (.ref b), none, none, none] [] h n (fun v h' n' => ev_Run G l (d + 1) bc2 bs2 M (pc + 3) L (ev_psh v rest) h' n' P)) : ev_Run G l (d + 1) bc bs M pc L (.ref b :: rest) h n P :=
  ev_callV (As := []) (mm := 3) hd kLa_total vLa_total wLa_total hl hb rfl rfl rfl hW (Nat.le_of_ble_eq_true rfl) hb1 hb2 k
theorem cz_La_sizeWith {G : xG} {l : Launch} {d bc bs : Nat} {M : xM} {pc i : Nat} {L : List (Option Value)} {rest : List Value} {h : xH} {n : Nat} {P : Option Value → xH → Nat → Prop} {b : Nat} {x0 : Nat} {x1 : Int64} (hd : decode M.2.1 pc = .ok (.invokevirtual i, 3)) (hl : Cond.methodLink M.1.cls i (mLa_sizeWith).1 ∈ ev_T) {fs : List Value} (hb : h b = some (.inr (1, fs))) (hW : (rest.map fun v => v.category).sum ≤ 8) (k : ev_Run G l d 0 0 mLa_sizeWith 0 [some (.ref b), some (.ref x0), some (.long x1), none, none] [] h n (fun v h' n' => ev_Run G l (d + 1) bc bs M (pc + 3) L (ev_psh v rest) h' n' P)) : ev_Run G l (d + 1) bc bs M pc L (.long x1 :: .ref x0 :: .ref b :: rest) h n P :=
  ev_callV (As := [.ref x0, .long x1]) (mm := 1) hd kLa_sizeWith vLa_sizeWith wLa_sizeWith hl hb rfl rfl rfl hW (Nat.le_of_ble_eq_true rfl) (Nat.zero_add _) (Nat.zero_add _) k
theorem ca_La_sizeWith {G : xG} {l : Launch} {d bc bs bc1 bs1 bc2 bs2 : Nat} {M : xM} {pc i : Nat} {L : List (Option Value)} {rest : List Value} {h : xH} {n : Nat} {P : Option Value → xH → Nat → Prop} {b : Nat} {x0 : Nat} {x1 : Int64} (hd : decode M.2.1 pc = .ok (.invokevirtual i, 3)) (hl : Cond.methodLink M.1.cls i (mLa_sizeWith).1 ∈ ev_T) {fs : List Value} (hb : h b = some (.inr (1, fs))) (hW : (rest.map fun v => v.category).sum ≤ 8) (hb1 : bc1 + bc2 = bc) (hb2 : bs1 + bs2 = bs) (k : ev_Run G l d bc1 bs1 mLa_sizeWith 0 [some (.ref b), some (.ref x0), some (.long x1), none, none] [] h n (fun v h' n' => ev_Run G l (d + 1) bc2 bs2 M (pc + 3) L (ev_psh v rest) h' n' P)) : ev_Run G l (d + 1) bc bs M pc L (.long x1 :: .ref x0 :: .ref b :: rest) h n P :=
  ev_callV (As := [.ref x0, .long x1]) (mm := 1) hd kLa_sizeWith vLa_sizeWith wLa_sizeWith hl hb rfl rfl rfl hW (Nat.le_of_ble_eq_true rfl) hb1 hb2 k
theorem cz_La_sizeOf {G : xG} {l : Launch} {d bc bs : Nat} {M : xM} {pc i : Nat} {L : List (Option Value)} {rest : List Value} {h : xH} {n : Nat} {P : Option Value → xH → Nat → Prop} {b : Nat} {x0 : Int64} (hd : decode M.2.1 pc = .ok (.invokevirtual i, 3)) (hl : Cond.methodLink M.1.cls i (mLa_sizeOf).1 ∈ ev_T) {fs : List Value} (hb : h b = some (.inr (1, fs))) (hW : (rest.map fun v => v.category).sum ≤ 8) (k : ev_Run G l d 0 0 mLa_sizeOf 0 [some (.ref b), some (.long x0), none, none, none, none, none] [] h n (fun v h' n' => ev_Run G l (d + 1) bc bs M (pc + 3) L (ev_psh v rest) h' n' P)) : ev_Run G l (d + 1) bc bs M pc L (.long x0 :: .ref b :: rest) h n P :=
  ev_callV (As := [.long x0]) (mm := 4) hd kLa_sizeOf vLa_sizeOf wLa_sizeOf hl hb rfl rfl rfl hW (Nat.le_of_ble_eq_true rfl) (Nat.zero_add _) (Nat.zero_add _) k
theorem ca_La_sizeOf {G : xG} {l : Launch} {d bc bs bc1 bs1 bc2 bs2 : Nat} {M : xM} {pc i : Nat} {L : List (Option Value)} {rest : List Value} {h : xH} {n : Nat} {P : Option Value → xH → Nat → Prop} {b : Nat} {x0 : Int64} (hd : decode M.2.1 pc = .ok (.invokevirtual i, 3)) (hl : Cond.methodLink M.1.cls i (mLa_sizeOf).1 ∈ ev_T) {fs : List Value} (hb : h b = some (.inr (1, fs))) (hW : (rest.map fun v => v.category).sum ≤ 8) (hb1 : bc1 + bc2 = bc) (hb2 : bs1 + bs2 = bs) (k : ev_Run G l d bc1 bs1 mLa_sizeOf 0 [some (.ref b), some (.long x0), none, none, none, none, none] [] h n (fun v h' n' => ev_Run G l (d + 1) bc2 bs2 M (pc + 3) L (ev_psh v rest) h' n' P)) : ev_Run G l (d + 1) bc bs M pc L (.long x0 :: .ref b :: rest) h n P :=
  ev_callV (As := [.long x0]) (mm := 4) hd kLa_sizeOf vLa_sizeOf wLa_sizeOf hl hb rfl rfl rfl hW (Nat.le_of_ble_eq_true rfl) hb1 hb2 k
theorem cz_La_haulAt {G : xG} {l : Launch} {d bc bs : Nat} {M : xM} {pc i : Nat} {L : List (Option Value)} {rest : List Value} {h : xH} {n : Nat} {P : Option Value → xH → Nat → Prop} {b : Nat} {x0 : Int32} (hd : decode M.2.1 pc = .ok (.invokevirtual i, 3)) (hl : Cond.methodLink M.1.cls i (mLa_haulAt).1 ∈ ev_T) {fs : List Value} (hb : h b = some (.inr (1, fs))) (hW : (rest.map fun v => v.category).sum ≤ 8) (k : ev_Run G l d 0 0 mLa_haulAt 0 [some (.ref b), some (.int x0)] [] h n (fun v h' n' => ev_Run G l (d + 1) bc bs M (pc + 3) L (ev_psh v rest) h' n' P)) : ev_Run G l (d + 1) bc bs M pc L (.int x0 :: .ref b :: rest) h n P :=
  ev_callV (As := [.int x0]) (mm := 0) hd kLa_haulAt vLa_haulAt wLa_haulAt hl hb rfl rfl rfl hW (Nat.le_of_ble_eq_true rfl) (Nat.zero_add _) (Nat.zero_add _) k
theorem ca_La_haulAt {G : xG} {l : Launch} {d bc bs bc1 bs1 bc2 bs2 : Nat} {M : xM} {pc i : Nat} {L : List (Option Value)} {rest : List Value} {h : xH} {n : Nat} {P : Option Value → xH → Nat → Prop} {b : Nat} {x0 : Int32} (hd : decode M.2.1 pc = .ok (.invokevirtual i, 3)) (hl : Cond.methodLink M.1.cls i (mLa_haulAt).1 ∈ ev_T) {fs : List Value} (hb : h b = some (.inr (1, fs))) (hW : (rest.map fun v => v.category).sum ≤ 8) (hb1 : bc1 + bc2 = bc) (hb2 : bs1 + bs2 = bs) (k : ev_Run G l d bc1 bs1 mLa_haulAt 0 [some (.ref b), some (.int x0)] [] h n (fun v h' n' => ev_Run G l (d + 1) bc2 bs2 M (pc + 3) L (ev_psh v rest) h' n' P)) : ev_Run G l (d + 1) bc bs M pc L (.int x0 :: .ref b :: rest) h n P :=
  ev_callV (As := [.int x0]) (mm := 0) hd kLa_haulAt vLa_haulAt wLa_haulAt hl hb rfl rfl rfl hW (Nat.le_of_ble_eq_true rfl) hb1 hb2 k
theorem cz_Th_takeFrom {G : xG} {l : Launch} {d bc bs : Nat} {M : xM} {pc i : Nat} {L : List (Option Value)} {rest : List Value} {h : xH} {n : Nat} {P : Option Value → xH → Nat → Prop} {b : Nat} {x0 : Nat} {x1 : Int64} (hd : decode M.2.1 pc = .ok (.invokevirtual i, 3)) (hl : Cond.methodLink M.1.cls i (mTh_takeFrom).1 ∈ ev_T) {fs : List Value} (hb : h b = some (.inr (6, fs))) (hW : (rest.map fun v => v.category).sum ≤ 8) (k : ev_Run G l d 0 0 mTh_takeFrom 0 [some (.ref b), some (.ref x0), some (.long x1), none] [] h n (fun v h' n' => ev_Run G l (d + 1) bc bs M (pc + 3) L (ev_psh v rest) h' n' P)) : ev_Run G l (d + 1) bc bs M pc L (.long x1 :: .ref x0 :: .ref b :: rest) h n P :=
  ev_callV (As := [.ref x0, .long x1]) (mm := 0) hd kTh_takeFrom vTh_takeFrom wTh_takeFrom hl hb rfl rfl rfl hW (Nat.le_of_ble_eq_true rfl) (Nat.zero_add _) (Nat.zero_add _) k
theorem ca_Th_takeFrom {G : xG} {l : Launch} {d bc bs bc1 bs1 bc2 bs2 : Nat} {M : xM} {pc i : Nat} {L : List (Option Value)} {rest : List Value} {h : xH} {n : Nat} {P : Option Value → xH → Nat → Prop} {b : Nat} {x0 : Nat} {x1 : Int64} (hd : decode M.2.1 pc = .ok (.invokevirtual i, 3)) (hl : Cond.methodLink M.1.cls i (mTh_takeFrom).1 ∈ ev_T) {fs : List Value} (hb : h b = some (.inr (6, fs))) (hW : (rest.map fun v => v.category).sum ≤ 8) (hb1 : bc1 + bc2 = bc) (hb2 : bs1 + bs2 = bs) (k : ev_Run G l d bc1 bs1 mTh_takeFrom 0 [some (.ref b), some (.ref x0), some (.long x1), none] [] h n (fun v h' n' => ev_Run G l (d + 1) bc2 bs2 M (pc + 3) L (ev_psh v rest) h' n' P)) : ev_Run G l (d + 1) bc bs M pc L (.long x1 :: .ref x0 :: .ref b :: rest) h n P :=
  ev_callV (As := [.ref x0, .long x1]) (mm := 0) hd kTh_takeFrom vTh_takeFrom wTh_takeFrom hl hb rfl rfl rfl hW (Nat.le_of_ble_eq_true rfl) hb1 hb2 k
theorem cz_La_appendFront {G : xG} {l : Launch} {d bc bs : Nat} {M : xM} {pc i : Nat} {L : List (Option Value)} {rest : List Value} {h : xH} {n : Nat} {P : Option Value → xH → Nat → Prop} {b : Nat} {x0 : Nat} {x1 : Int64} (hd : decode M.2.1 pc = .ok (.invokevirtual i, 3)) (hl : Cond.methodLink M.1.cls i (mLa_appendFront).1 ∈ ev_T) {fs : List Value} (hb : h b = some (.inr (1, fs))) (hW : (rest.map fun v => v.category).sum ≤ 8) (k : ev_Run G l d 0 0 mLa_appendFront 0 [some (.ref b), some (.ref x0), some (.long x1), none, none, none, none, none, none] [] h n (fun v h' n' => ev_Run G l (d + 1) bc bs M (pc + 3) L (ev_psh v rest) h' n' P)) : ev_Run G l (d + 1) bc bs M pc L (.long x1 :: .ref x0 :: .ref b :: rest) h n P :=
  ev_callV (As := [.ref x0, .long x1]) (mm := 5) hd kLa_appendFront vLa_appendFront wLa_appendFront hl hb rfl rfl rfl hW (Nat.le_of_ble_eq_true rfl) (Nat.zero_add _) (Nat.zero_add _) k
theorem ca_La_appendFront {G : xG} {l : Launch} {d bc bs bc1 bs1 bc2 bs2 : Nat} {M : xM} {pc i : Nat} {L : List (Option Value)} {rest : List Value} {h : xH} {n : Nat} {P : Option Value → xH → Nat → Prop} {b : Nat} {x0 : Nat} {x1 : Int64} (hd : decode M.2.1 pc = .ok (.invokevirtual i, 3)) (hl : Cond.methodLink M.1.cls i (mLa_appendFront).1 ∈ ev_T) {fs : List Value} (hb : h b = some (.inr (1, fs))) (hW : (rest.map fun v => v.category).sum ≤ 8) (hb1 : bc1 + bc2 = bc) (hb2 : bs1 + bs2 = bs) (k : ev_Run G l d bc1 bs1 mLa_appendFront 0 [some (.ref b), some (.ref x0), some (.long x1), none, none, none, none, none, none] [] h n (fun v h' n' => ev_Run G l (d + 1) bc2 bs2 M (pc + 3) L (ev_psh v rest) h' n' P)) : ev_Run G l (d + 1) bc bs M pc L (.long x1 :: .ref x0 :: .ref b :: rest) h n P :=
  ev_callV (As := [.ref x0, .long x1]) (mm := 5) hd kLa_appendFront vLa_appendFront wLa_appendFront hl hb rfl rfl rfl hW (Nat.le_of_ble_eq_true rfl) hb1 hb2 k
theorem cz_La_dropFront {G : xG} {l : Launch} {d bc bs : Nat} {M : xM} {pc i : Nat} {L : List (Option Value)} {rest : List Value} {h : xH} {n : Nat} {P : Option Value → xH → Nat → Prop} {b : Nat} {x0 : Int64} (hd : decode M.2.1 pc = .ok (.invokevirtual i, 3)) (hl : Cond.methodLink M.1.cls i (mLa_dropFront).1 ∈ ev_T) {fs : List Value} (hb : h b = some (.inr (1, fs))) (hW : (rest.map fun v => v.category).sum ≤ 8) (k : ev_Run G l d 0 0 mLa_dropFront 0 [some (.ref b), some (.long x0), none, none, none, none, none, none, none] [] h n (fun v h' n' => ev_Run G l (d + 1) bc bs M (pc + 3) L (ev_psh v rest) h' n' P)) : ev_Run G l (d + 1) bc bs M pc L (.long x0 :: .ref b :: rest) h n P :=
  ev_callV (As := [.long x0]) (mm := 6) hd kLa_dropFront vLa_dropFront wLa_dropFront hl hb rfl rfl rfl hW (Nat.le_of_ble_eq_true rfl) (Nat.zero_add _) (Nat.zero_add _) k
theorem ca_La_dropFront {G : xG} {l : Launch} {d bc bs bc1 bs1 bc2 bs2 : Nat} {M : xM} {pc i : Nat} {L : List (Option Value)} {rest : List Value} {h : xH} {n : Nat} {P : Option Value → xH → Nat → Prop} {b : Nat} {x0 : Int64} (hd : decode M.2.1 pc = .ok (.invokevirtual i, 3)) (hl : Cond.methodLink M.1.cls i (mLa_dropFront).1 ∈ ev_T) {fs : List Value} (hb : h b = some (.inr (1, fs))) (hW : (rest.map fun v => v.category).sum ≤ 8) (hb1 : bc1 + bc2 = bc) (hb2 : bs1 + bs2 = bs) (k : ev_Run G l d bc1 bs1 mLa_dropFront 0 [some (.ref b), some (.long x0), none, none, none, none, none, none, none] [] h n (fun v h' n' => ev_Run G l (d + 1) bc2 bs2 M (pc + 3) L (ev_psh v rest) h' n' P)) : ev_Run G l (d + 1) bc bs M pc L (.long x0 :: .ref b :: rest) h n P :=
  ev_callV (As := [.long x0]) (mm := 6) hd kLa_dropFront vLa_dropFront wLa_dropFront hl hb rfl rfl rfl hW (Nat.le_of_ble_eq_true rfl) hb1 hb2 k
theorem cz_La_dropLayers {G : xG} {l : Launch} {d bc bs : Nat} {M : xM} {pc i : Nat} {L : List (Option Value)} {rest : List Value} {h : xH} {n : Nat} {P : Option Value → xH → Nat → Prop} {b : Nat} {x0 : Int32} (hd : decode M.2.1 pc = .ok (.invokevirtual i, 3)) (hl : Cond.methodLink M.1.cls i (mLa_dropLayers).1 ∈ ev_T) {fs : List Value} (hb : h b = some (.inr (1, fs))) (hW : (rest.map fun v => v.category).sum ≤ 8) (k : ev_Run G l d 0 0 mLa_dropLayers 0 [some (.ref b), some (.int x0), none] [] h n (fun v h' n' => ev_Run G l (d + 1) bc bs M (pc + 3) L (ev_psh v rest) h' n' P)) : ev_Run G l (d + 1) bc bs M pc L (.int x0 :: .ref b :: rest) h n P :=
  ev_callV (As := [.int x0]) (mm := 1) hd kLa_dropLayers vLa_dropLayers wLa_dropLayers hl hb rfl rfl rfl hW (Nat.le_of_ble_eq_true rfl) (Nat.zero_add _) (Nat.zero_add _) k
theorem ca_La_dropLayers {G : xG} {l : Launch} {d bc bs bc1 bs1 bc2 bs2 : Nat} {M : xM} {pc i : Nat} {L : List (Option Value)} {rest : List Value} {h : xH} {n : Nat} {P : Option Value → xH → Nat → Prop} {b : Nat} {x0 : Int32} (hd : decode M.2.1 pc = .ok (.invokevirtual i, 3)) (hl : Cond.methodLink M.1.cls i (mLa_dropLayers).1 ∈ ev_T) {fs : List Value} (hb : h b = some (.inr (1, fs))) (hW : (rest.map fun v => v.category).sum ≤ 8) (hb1 : bc1 + bc2 = bc) (hb2 : bs1 + bs2 = bs) (k : ev_Run G l d bc1 bs1 mLa_dropLayers 0 [some (.ref b), some (.int x0), none] [] h n (fun v h' n' => ev_Run G l (d + 1) bc2 bs2 M (pc + 3) L (ev_psh v rest) h' n' P)) : ev_Run G l (d + 1) bc bs M pc L (.int x0 :: .ref b :: rest) h n P :=
  ev_callV (As := [.int x0]) (mm := 1) hd kLa_dropLayers vLa_dropLayers wLa_dropLayers hl hb rfl rfl rfl hW (Nat.le_of_ble_eq_true rfl) hb1 hb2 k
theorem cz_BL_box {G : xG} {l : Launch} {d bc bs : Nat} {M : xM} {pc i : Nat} {L : List (Option Value)} {rest : List Value} {h : xH} {n : Nat} {P : Option Value → xH → Nat → Prop} {b : Nat} {x0 : Int32} {x1 : Int64} {x2 : Int32} (hd : decode M.2.1 pc = .ok (.invokevirtual i, 3)) (hl : Cond.methodLink M.1.cls i (mBL_box).1 ∈ ev_T) {fs : List Value} (hb : h b = some (.inr (7, fs))) (hW : (rest.map fun v => v.category).sum ≤ 8) (k : ev_Run G l d 0 0 mBL_box 0 [some (.ref b), some (.int x0), some (.long x1), none, some (.int x2), none, none] [] h n (fun v h' n' => ev_Run G l (d + 1) bc bs M (pc + 3) L (ev_psh v rest) h' n' P)) : ev_Run G l (d + 1) bc bs M pc L (.int x2 :: .long x1 :: .int x0 :: .ref b :: rest) h n P :=
  ev_callV (As := [.int x0, .long x1, .int x2]) (mm := 2) hd kBL_box vBL_box wBL_box hl hb rfl rfl rfl hW (Nat.le_of_ble_eq_true rfl) (Nat.zero_add _) (Nat.zero_add _) k
theorem ca_BL_box {G : xG} {l : Launch} {d bc bs bc1 bs1 bc2 bs2 : Nat} {M : xM} {pc i : Nat} {L : List (Option Value)} {rest : List Value} {h : xH} {n : Nat} {P : Option Value → xH → Nat → Prop} {b : Nat} {x0 : Int32} {x1 : Int64} {x2 : Int32} (hd : decode M.2.1 pc = .ok (.invokevirtual i, 3)) (hl : Cond.methodLink M.1.cls i (mBL_box).1 ∈ ev_T) {fs : List Value} (hb : h b = some (.inr (7, fs))) (hW : (rest.map fun v => v.category).sum ≤ 8) (hb1 : bc1 + bc2 = bc) (hb2 : bs1 + bs2 = bs) (k : ev_Run G l d bc1 bs1 mBL_box 0 [some (.ref b), some (.int x0), some (.long x1), none, some (.int x2), none, none] [] h n (fun v h' n' => ev_Run G l (d + 1) bc2 bs2 M (pc + 3) L (ev_psh v rest) h' n' P)) : ev_Run G l (d + 1) bc bs M pc L (.int x2 :: .long x1 :: .int x0 :: .ref b :: rest) h n P :=
  ev_callV (As := [.int x0, .long x1, .int x2]) (mm := 2) hd kBL_box vBL_box wBL_box hl hb rfl rfl rfl hW (Nat.le_of_ble_eq_true rfl) hb1 hb2 k
theorem cz_BL_waste {G : xG} {l : Launch} {d bc bs : Nat} {M : xM} {pc i : Nat} {L : List (Option Value)} {rest : List Value} {h : xH} {n : Nat} {P : Option Value → xH → Nat → Prop} {b : Nat} {x0 : Int32} {x1 : Int64} (hd : decode M.2.1 pc = .ok (.invokevirtual i, 3)) (hl : Cond.methodLink M.1.cls i (mBL_waste).1 ∈ ev_T) {fs : List Value} (hb : h b = some (.inr (7, fs))) (hW : (rest.map fun v => v.category).sum ≤ 8) (k : ev_Run G l d 0 0 mBL_waste 0 [some (.ref b), some (.int x0), some (.long x1), none, none] [] h n (fun v h' n' => ev_Run G l (d + 1) bc bs M (pc + 3) L (ev_psh v rest) h' n' P)) : ev_Run G l (d + 1) bc bs M pc L (.long x1 :: .int x0 :: .ref b :: rest) h n P :=
  ev_callV (As := [.int x0, .long x1]) (mm := 1) hd kBL_waste vBL_waste wBL_waste hl hb rfl rfl rfl hW (Nat.le_of_ble_eq_true rfl) (Nat.zero_add _) (Nat.zero_add _) k
theorem ca_BL_waste {G : xG} {l : Launch} {d bc bs bc1 bs1 bc2 bs2 : Nat} {M : xM} {pc i : Nat} {L : List (Option Value)} {rest : List Value} {h : xH} {n : Nat} {P : Option Value → xH → Nat → Prop} {b : Nat} {x0 : Int32} {x1 : Int64} (hd : decode M.2.1 pc = .ok (.invokevirtual i, 3)) (hl : Cond.methodLink M.1.cls i (mBL_waste).1 ∈ ev_T) {fs : List Value} (hb : h b = some (.inr (7, fs))) (hW : (rest.map fun v => v.category).sum ≤ 8) (hb1 : bc1 + bc2 = bc) (hb2 : bs1 + bs2 = bs) (k : ev_Run G l d bc1 bs1 mBL_waste 0 [some (.ref b), some (.int x0), some (.long x1), none, none] [] h n (fun v h' n' => ev_Run G l (d + 1) bc2 bs2 M (pc + 3) L (ev_psh v rest) h' n' P)) : ev_Run G l (d + 1) bc bs M pc L (.long x1 :: .int x0 :: .ref b :: rest) h n P :=
  ev_callV (As := [.int x0, .long x1]) (mm := 1) hd kBL_waste vBL_waste wBL_waste hl hb rfl rfl rfl hW (Nat.le_of_ble_eq_true rfl) hb1 hb2 k
theorem cz_BL_hold {G : xG} {l : Launch} {d bc bs : Nat} {M : xM} {pc i : Nat} {L : List (Option Value)} {rest : List Value} {h : xH} {n : Nat} {P : Option Value → xH → Nat → Prop} {b : Nat} {x0 : Int32} {x1 : Int32} (hd : decode M.2.1 pc = .ok (.invokevirtual i, 3)) (hl : Cond.methodLink M.1.cls i (mBL_hold).1 ∈ ev_T) {fs : List Value} (hb : h b = some (.inr (7, fs))) (hW : (rest.map fun v => v.category).sum ≤ 8) (k : ev_Run G l d 0 0 mBL_hold 0 [some (.ref b), some (.int x0), some (.int x1), none] [] h n (fun v h' n' => ev_Run G l (d + 1) bc bs M (pc + 3) L (ev_psh v rest) h' n' P)) : ev_Run G l (d + 1) bc bs M pc L (.int x1 :: .int x0 :: .ref b :: rest) h n P :=
  ev_callV (As := [.int x0, .int x1]) (mm := 1) hd kBL_hold vBL_hold wBL_hold hl hb rfl rfl rfl hW (Nat.le_of_ble_eq_true rfl) (Nat.zero_add _) (Nat.zero_add _) k
theorem ca_BL_hold {G : xG} {l : Launch} {d bc bs bc1 bs1 bc2 bs2 : Nat} {M : xM} {pc i : Nat} {L : List (Option Value)} {rest : List Value} {h : xH} {n : Nat} {P : Option Value → xH → Nat → Prop} {b : Nat} {x0 : Int32} {x1 : Int32} (hd : decode M.2.1 pc = .ok (.invokevirtual i, 3)) (hl : Cond.methodLink M.1.cls i (mBL_hold).1 ∈ ev_T) {fs : List Value} (hb : h b = some (.inr (7, fs))) (hW : (rest.map fun v => v.category).sum ≤ 8) (hb1 : bc1 + bc2 = bc) (hb2 : bs1 + bs2 = bs) (k : ev_Run G l d bc1 bs1 mBL_hold 0 [some (.ref b), some (.int x0), some (.int x1), none] [] h n (fun v h' n' => ev_Run G l (d + 1) bc2 bs2 M (pc + 3) L (ev_psh v rest) h' n' P)) : ev_Run G l (d + 1) bc bs M pc L (.int x1 :: .int x0 :: .ref b :: rest) h n P :=
  ev_callV (As := [.int x0, .int x1]) (mm := 1) hd kBL_hold vBL_hold wBL_hold hl hb rfl rfl rfl hW (Nat.le_of_ble_eq_true rfl) hb1 hb2 k
theorem cz_BL_correct {G : xG} {l : Launch} {d bc bs : Nat} {M : xM} {pc i : Nat} {L : List (Option Value)} {rest : List Value} {h : xH} {n : Nat} {P : Option Value → xH → Nat → Prop} {b : Nat} {x0 : Int32} {x1 : Int64} (hd : decode M.2.1 pc = .ok (.invokevirtual i, 3)) (hl : Cond.methodLink M.1.cls i (mBL_correct).1 ∈ ev_T) {fs : List Value} (hb : h b = some (.inr (7, fs))) (hW : (rest.map fun v => v.category).sum ≤ 8) (k : ev_Run G l d 0 0 mBL_correct 0 [some (.ref b), some (.int x0), some (.long x1), none, none, none, none] [] h n (fun v h' n' => ev_Run G l (d + 1) bc bs M (pc + 3) L (ev_psh v rest) h' n' P)) : ev_Run G l (d + 1) bc bs M pc L (.long x1 :: .int x0 :: .ref b :: rest) h n P :=
  ev_callV (As := [.int x0, .long x1]) (mm := 3) hd kBL_correct vBL_correct wBL_correct hl hb rfl rfl rfl hW (Nat.le_of_ble_eq_true rfl) (Nat.zero_add _) (Nat.zero_add _) k
theorem ca_BL_correct {G : xG} {l : Launch} {d bc bs bc1 bs1 bc2 bs2 : Nat} {M : xM} {pc i : Nat} {L : List (Option Value)} {rest : List Value} {h : xH} {n : Nat} {P : Option Value → xH → Nat → Prop} {b : Nat} {x0 : Int32} {x1 : Int64} (hd : decode M.2.1 pc = .ok (.invokevirtual i, 3)) (hl : Cond.methodLink M.1.cls i (mBL_correct).1 ∈ ev_T) {fs : List Value} (hb : h b = some (.inr (7, fs))) (hW : (rest.map fun v => v.category).sum ≤ 8) (hb1 : bc1 + bc2 = bc) (hb2 : bs1 + bs2 = bs) (k : ev_Run G l d bc1 bs1 mBL_correct 0 [some (.ref b), some (.int x0), some (.long x1), none, none, none, none] [] h n (fun v h' n' => ev_Run G l (d + 1) bc2 bs2 M (pc + 3) L (ev_psh v rest) h' n' P)) : ev_Run G l (d + 1) bc bs M pc L (.long x1 :: .int x0 :: .ref b :: rest) h n P :=
  ev_callV (As := [.int x0, .long x1]) (mm := 3) hd kBL_correct vBL_correct wBL_correct hl hb rfl rfl rfl hW (Nat.le_of_ble_eq_true rfl) hb1 hb2 k
theorem cz_BL_findHaul {G : xG} {l : Launch} {d bc bs : Nat} {M : xM} {pc i : Nat} {L : List (Option Value)} {rest : List Value} {h : xH} {n : Nat} {P : Option Value → xH → Nat → Prop} {b : Nat} {x0 : Int32} (hd : decode M.2.1 pc = .ok (.invokevirtual i, 3)) (hl : Cond.methodLink M.1.cls i (mBL_findHaul).1 ∈ ev_T) {fs : List Value} (hb : h b = some (.inr (7, fs))) (hW : (rest.map fun v => v.category).sum ≤ 8) (k : ev_Run G l d 0 0 mBL_findHaul 0 [some (.ref b), some (.int x0), none] [] h n (fun v h' n' => ev_Run G l (d + 1) bc bs M (pc + 3) L (ev_psh v rest) h' n' P)) : ev_Run G l (d + 1) bc bs M pc L (.int x0 :: .ref b :: rest) h n P :=
  ev_callV (As := [.int x0]) (mm := 1) hd kBL_findHaul vBL_findHaul wBL_findHaul hl hb rfl rfl rfl hW (Nat.le_of_ble_eq_true rfl) (Nat.zero_add _) (Nat.zero_add _) k
theorem ca_BL_findHaul {G : xG} {l : Launch} {d bc bs bc1 bs1 bc2 bs2 : Nat} {M : xM} {pc i : Nat} {L : List (Option Value)} {rest : List Value} {h : xH} {n : Nat} {P : Option Value → xH → Nat → Prop} {b : Nat} {x0 : Int32} (hd : decode M.2.1 pc = .ok (.invokevirtual i, 3)) (hl : Cond.methodLink M.1.cls i (mBL_findHaul).1 ∈ ev_T) {fs : List Value} (hb : h b = some (.inr (7, fs))) (hW : (rest.map fun v => v.category).sum ≤ 8) (hb1 : bc1 + bc2 = bc) (hb2 : bs1 + bs2 = bs) (k : ev_Run G l d bc1 bs1 mBL_findHaul 0 [some (.ref b), some (.int x0), none] [] h n (fun v h' n' => ev_Run G l (d + 1) bc2 bs2 M (pc + 3) L (ev_psh v rest) h' n' P)) : ev_Run G l (d + 1) bc bs M pc L (.int x0 :: .ref b :: rest) h n P :=
  ev_callV (As := [.int x0]) (mm := 1) hd kBL_findHaul vBL_findHaul wBL_findHaul hl hb rfl rfl rfl hW (Nat.le_of_ble_eq_true rfl) hb1 hb2 k
theorem cz_La_clear {G : xG} {l : Launch} {d bc bs : Nat} {M : xM} {pc i : Nat} {L : List (Option Value)} {rest : List Value} {h : xH} {n : Nat} {P : Option Value → xH → Nat → Prop} {b : Nat} (hd : decode M.2.1 pc = .ok (.invokevirtual i, 3)) (hl : Cond.methodLink M.1.cls i (mLa_clear).1 ∈ ev_T) {fs : List Value} (hb : h b = some (.inr (1, fs))) (hW : (rest.map fun v => v.category).sum ≤ 8) (k : ev_Run G l d 0 0 mLa_clear 0 [some (.ref b)] [] h n (fun v h' n' => ev_Run G l (d + 1) bc bs M (pc + 3) L (ev_psh v rest) h' n' P)) : ev_Run G l (d + 1) bc bs M pc L (.ref b :: rest) h n P :=
  ev_callV (As := []) (mm := 0) hd kLa_clear vLa_clear wLa_clear hl hb rfl rfl rfl hW (Nat.le_of_ble_eq_true rfl) (Nat.zero_add _) (Nat.zero_add _) k
theorem ca_La_clear {G : xG} {l : Launch} {d bc bs bc1 bs1 bc2 bs2 : Nat} {M : xM} {pc i : Nat} {L : List (Option Value)} {rest : List Value} {h : xH} {n : Nat} {P : Option Value → xH → Nat → Prop} {b : Nat} (hd : decode M.2.1 pc = .ok (.invokevirtual i, 3)) (hl : Cond.methodLink M.1.cls i (mLa_clear).1 ∈ ev_T) {fs : List Value} (hb : h b = some (.inr (1, fs))) (hW : (rest.map fun v => v.category).sum ≤ 8) (hb1 : bc1 + bc2 = bc) (hb2 : bs1 + bs2 = bs) (k : ev_Run G l d bc1 bs1 mLa_clear 0 [some (.ref b)] [] h n (fun v h' n' => ev_Run G l (d + 1) bc2 bs2 M (pc + 3) L (ev_psh v rest) h' n' P)) : ev_Run G l (d + 1) bc bs M pc L (.ref b :: rest) h n P :=
  ev_callV (As := []) (mm := 0) hd kLa_clear vLa_clear wLa_clear hl hb rfl rfl rfl hW (Nat.le_of_ble_eq_true rfl) hb1 hb2 k
theorem cz_BL_told {G : xG} {l : Launch} {d bc bs : Nat} {M : xM} {pc i : Nat} {L : List (Option Value)} {rest : List Value} {h : xH} {n : Nat} {P : Option Value → xH → Nat → Prop} {b : Nat} {x0 : Int32} {x1 : Int32} (hd : decode M.2.1 pc = .ok (.invokevirtual i, 3)) (hl : Cond.methodLink M.1.cls i (mBL_told).1 ∈ ev_T) {fs : List Value} (hb : h b = some (.inr (7, fs))) (hW : (rest.map fun v => v.category).sum ≤ 8) (k : ev_Run G l d 0 0 mBL_told 0 [some (.ref b), some (.int x0), some (.int x1), none] [] h n (fun v h' n' => ev_Run G l (d + 1) bc bs M (pc + 3) L (ev_psh v rest) h' n' P)) : ev_Run G l (d + 1) bc bs M pc L (.int x1 :: .int x0 :: .ref b :: rest) h n P :=
  ev_callV (As := [.int x0, .int x1]) (mm := 1) hd kBL_told vBL_told wBL_told hl hb rfl rfl rfl hW (Nat.le_of_ble_eq_true rfl) (Nat.zero_add _) (Nat.zero_add _) k
theorem ca_BL_told {G : xG} {l : Launch} {d bc bs bc1 bs1 bc2 bs2 : Nat} {M : xM} {pc i : Nat} {L : List (Option Value)} {rest : List Value} {h : xH} {n : Nat} {P : Option Value → xH → Nat → Prop} {b : Nat} {x0 : Int32} {x1 : Int32} (hd : decode M.2.1 pc = .ok (.invokevirtual i, 3)) (hl : Cond.methodLink M.1.cls i (mBL_told).1 ∈ ev_T) {fs : List Value} (hb : h b = some (.inr (7, fs))) (hW : (rest.map fun v => v.category).sum ≤ 8) (hb1 : bc1 + bc2 = bc) (hb2 : bs1 + bs2 = bs) (k : ev_Run G l d bc1 bs1 mBL_told 0 [some (.ref b), some (.int x0), some (.int x1), none] [] h n (fun v h' n' => ev_Run G l (d + 1) bc2 bs2 M (pc + 3) L (ev_psh v rest) h' n' P)) : ev_Run G l (d + 1) bc bs M pc L (.int x1 :: .int x0 :: .ref b :: rest) h n P :=
  ev_callV (As := [.int x0, .int x1]) (mm := 1) hd kBL_told vBL_told wBL_told hl hb rfl rfl rfl hW (Nat.le_of_ble_eq_true rfl) hb1 hb2 k
theorem cz_Th_fact {G : xG} {l : Launch} {d bc bs : Nat} {M : xM} {pc i : Nat} {L : List (Option Value)} {rest : List Value} {h : xH} {n : Nat} {P : Option Value → xH → Nat → Prop} {b : Nat} {x0 : Int32} (hd : decode M.2.1 pc = .ok (.invokevirtual i, 3)) (hl : Cond.methodLink M.1.cls i (mTh_fact).1 ∈ ev_T) {fs : List Value} (hb : h b = some (.inr (6, fs))) (hW : (rest.map fun v => v.category).sum ≤ 8) (k : ev_Run G l d 0 0 mTh_fact 0 [some (.ref b), some (.int x0)] [] h n (fun v h' n' => ev_Run G l (d + 1) bc bs M (pc + 3) L (ev_psh v rest) h' n' P)) : ev_Run G l (d + 1) bc bs M pc L (.int x0 :: .ref b :: rest) h n P :=
  ev_callV (As := [.int x0]) (mm := 0) hd kTh_fact vTh_fact wTh_fact hl hb rfl rfl rfl hW (Nat.le_of_ble_eq_true rfl) (Nat.zero_add _) (Nat.zero_add _) k
theorem ca_Th_fact {G : xG} {l : Launch} {d bc bs bc1 bs1 bc2 bs2 : Nat} {M : xM} {pc i : Nat} {L : List (Option Value)} {rest : List Value} {h : xH} {n : Nat} {P : Option Value → xH → Nat → Prop} {b : Nat} {x0 : Int32} (hd : decode M.2.1 pc = .ok (.invokevirtual i, 3)) (hl : Cond.methodLink M.1.cls i (mTh_fact).1 ∈ ev_T) {fs : List Value} (hb : h b = some (.inr (6, fs))) (hW : (rest.map fun v => v.category).sum ≤ 8) (hb1 : bc1 + bc2 = bc) (hb2 : bs1 + bs2 = bs) (k : ev_Run G l d bc1 bs1 mTh_fact 0 [some (.ref b), some (.int x0)] [] h n (fun v h' n' => ev_Run G l (d + 1) bc2 bs2 M (pc + 3) L (ev_psh v rest) h' n' P)) : ev_Run G l (d + 1) bc bs M pc L (.int x0 :: .ref b :: rest) h n P :=
  ev_callV (As := [.int x0]) (mm := 0) hd kTh_fact vTh_fact wTh_fact hl hb rfl rfl rfl hW (Nat.le_of_ble_eq_true rfl) hb1 hb2 k
theorem cz_La_size {G : xG} {l : Launch} {d bc bs : Nat} {M : xM} {pc i : Nat} {L : List (Option Value)} {rest : List Value} {h : xH} {n : Nat} {P : Option Value → xH → Nat → Prop} {b : Nat} (hd : decode M.2.1 pc = .ok (.invokevirtual i, 3)) (hl : Cond.methodLink M.1.cls i (mLa_size).1 ∈ ev_T) {fs : List Value} (hb : h b = some (.inr (1, fs))) (hW : (rest.map fun v => v.category).sum ≤ 8) (k : ev_Run G l d 0 0 mLa_size 0 [some (.ref b)] [] h n (fun v h' n' => ev_Run G l (d + 1) bc bs M (pc + 3) L (ev_psh v rest) h' n' P)) : ev_Run G l (d + 1) bc bs M pc L (.ref b :: rest) h n P :=
  ev_callV (As := []) (mm := 0) hd kLa_size vLa_size wLa_size hl hb rfl rfl rfl hW (Nat.le_of_ble_eq_true rfl) (Nat.zero_add _) (Nat.zero_add _) k
theorem ca_La_size {G : xG} {l : Launch} {d bc bs bc1 bs1 bc2 bs2 : Nat} {M : xM} {pc i : Nat} {L : List (Option Value)} {rest : List Value} {h : xH} {n : Nat} {P : Option Value → xH → Nat → Prop} {b : Nat} (hd : decode M.2.1 pc = .ok (.invokevirtual i, 3)) (hl : Cond.methodLink M.1.cls i (mLa_size).1 ∈ ev_T) {fs : List Value} (hb : h b = some (.inr (1, fs))) (hW : (rest.map fun v => v.category).sum ≤ 8) (hb1 : bc1 + bc2 = bc) (hb2 : bs1 + bs2 = bs) (k : ev_Run G l d bc1 bs1 mLa_size 0 [some (.ref b)] [] h n (fun v h' n' => ev_Run G l (d + 1) bc2 bs2 M (pc + 3) L (ev_psh v rest) h' n' P)) : ev_Run G l (d + 1) bc bs M pc L (.ref b :: rest) h n P :=
  ev_callV (As := []) (mm := 0) hd kLa_size vLa_size wLa_size hl hb rfl rfl rfl hW (Nat.le_of_ble_eq_true rfl) hb1 hb2 k
theorem cz_BL_layer {G : xG} {l : Launch} {d bc bs : Nat} {M : xM} {pc i : Nat} {L : List (Option Value)} {rest : List Value} {h : xH} {n : Nat} {P : Option Value → xH → Nat → Prop} {b : Nat} {x0 : Int32} {x1 : Int32} {x2 : Int32} (hd : decode M.2.1 pc = .ok (.invokevirtual i, 3)) (hl : Cond.methodLink M.1.cls i (mBL_layer).1 ∈ ev_T) {fs : List Value} (hb : h b = some (.inr (7, fs))) (hW : (rest.map fun v => v.category).sum ≤ 8) (k : ev_Run G l d 0 0 mBL_layer 0 [some (.ref b), some (.int x0), some (.int x1), some (.int x2), none] [] h n (fun v h' n' => ev_Run G l (d + 1) bc bs M (pc + 3) L (ev_psh v rest) h' n' P)) : ev_Run G l (d + 1) bc bs M pc L (.int x2 :: .int x1 :: .int x0 :: .ref b :: rest) h n P :=
  ev_callV (As := [.int x0, .int x1, .int x2]) (mm := 1) hd kBL_layer vBL_layer wBL_layer hl hb rfl rfl rfl hW (Nat.le_of_ble_eq_true rfl) (Nat.zero_add _) (Nat.zero_add _) k
theorem ca_BL_layer {G : xG} {l : Launch} {d bc bs bc1 bs1 bc2 bs2 : Nat} {M : xM} {pc i : Nat} {L : List (Option Value)} {rest : List Value} {h : xH} {n : Nat} {P : Option Value → xH → Nat → Prop} {b : Nat} {x0 : Int32} {x1 : Int32} {x2 : Int32} (hd : decode M.2.1 pc = .ok (.invokevirtual i, 3)) (hl : Cond.methodLink M.1.cls i (mBL_layer).1 ∈ ev_T) {fs : List Value} (hb : h b = some (.inr (7, fs))) (hW : (rest.map fun v => v.category).sum ≤ 8) (hb1 : bc1 + bc2 = bc) (hb2 : bs1 + bs2 = bs) (k : ev_Run G l d bc1 bs1 mBL_layer 0 [some (.ref b), some (.int x0), some (.int x1), some (.int x2), none] [] h n (fun v h' n' => ev_Run G l (d + 1) bc2 bs2 M (pc + 3) L (ev_psh v rest) h' n' P)) : ev_Run G l (d + 1) bc bs M pc L (.int x2 :: .int x1 :: .int x0 :: .ref b :: rest) h n P :=
  ev_callV (As := [.int x0, .int x1, .int x2]) (mm := 1) hd kBL_layer vBL_layer wBL_layer hl hb rfl rfl rfl hW (Nat.le_of_ble_eq_true rfl) hb1 hb2 k
theorem cz_La_gramsAt {G : xG} {l : Launch} {d bc bs : Nat} {M : xM} {pc i : Nat} {L : List (Option Value)} {rest : List Value} {h : xH} {n : Nat} {P : Option Value → xH → Nat → Prop} {b : Nat} {x0 : Int32} (hd : decode M.2.1 pc = .ok (.invokevirtual i, 3)) (hl : Cond.methodLink M.1.cls i (mLa_gramsAt).1 ∈ ev_T) {fs : List Value} (hb : h b = some (.inr (1, fs))) (hW : (rest.map fun v => v.category).sum ≤ 8) (k : ev_Run G l d 0 0 mLa_gramsAt 0 [some (.ref b), some (.int x0)] [] h n (fun v h' n' => ev_Run G l (d + 1) bc bs M (pc + 3) L (ev_psh v rest) h' n' P)) : ev_Run G l (d + 1) bc bs M pc L (.int x0 :: .ref b :: rest) h n P :=
  ev_callV (As := [.int x0]) (mm := 0) hd kLa_gramsAt vLa_gramsAt wLa_gramsAt hl hb rfl rfl rfl hW (Nat.le_of_ble_eq_true rfl) (Nat.zero_add _) (Nat.zero_add _) k
theorem ca_La_gramsAt {G : xG} {l : Launch} {d bc bs bc1 bs1 bc2 bs2 : Nat} {M : xM} {pc i : Nat} {L : List (Option Value)} {rest : List Value} {h : xH} {n : Nat} {P : Option Value → xH → Nat → Prop} {b : Nat} {x0 : Int32} (hd : decode M.2.1 pc = .ok (.invokevirtual i, 3)) (hl : Cond.methodLink M.1.cls i (mLa_gramsAt).1 ∈ ev_T) {fs : List Value} (hb : h b = some (.inr (1, fs))) (hW : (rest.map fun v => v.category).sum ≤ 8) (hb1 : bc1 + bc2 = bc) (hb2 : bs1 + bs2 = bs) (k : ev_Run G l d bc1 bs1 mLa_gramsAt 0 [some (.ref b), some (.int x0)] [] h n (fun v h' n' => ev_Run G l (d + 1) bc2 bs2 M (pc + 3) L (ev_psh v rest) h' n' P)) : ev_Run G l (d + 1) bc bs M pc L (.int x0 :: .ref b :: rest) h n P :=
  ev_callV (As := [.int x0]) (mm := 0) hd kLa_gramsAt vLa_gramsAt wLa_gramsAt hl hb rfl rfl rfl hW (Nat.le_of_ble_eq_true rfl) hb1 hb2 k
theorem cz_BL_share {G : xG} {l : Launch} {d bc bs : Nat} {M : xM} {pc i : Nat} {L : List (Option Value)} {rest : List Value} {h : xH} {n : Nat} {P : Option Value → xH → Nat → Prop} {b : Nat} {x0 : Int32} {x1 : Int32} {x2 : Int32} (hd : decode M.2.1 pc = .ok (.invokevirtual i, 3)) (hl : Cond.methodLink M.1.cls i (mBL_share).1 ∈ ev_T) {fs : List Value} (hb : h b = some (.inr (7, fs))) (hW : (rest.map fun v => v.category).sum ≤ 8) (k : ev_Run G l d 0 0 mBL_share 0 [some (.ref b), some (.int x0), some (.int x1), some (.int x2), none, none, none, none, none, none, none] [] h n (fun v h' n' => ev_Run G l (d + 1) bc bs M (pc + 3) L (ev_psh v rest) h' n' P)) : ev_Run G l (d + 1) bc bs M pc L (.int x2 :: .int x1 :: .int x0 :: .ref b :: rest) h n P :=
  ev_callV (As := [.int x0, .int x1, .int x2]) (mm := 7) hd kBL_share vBL_share wBL_share hl hb rfl rfl rfl hW (Nat.le_of_ble_eq_true rfl) (Nat.zero_add _) (Nat.zero_add _) k
theorem ca_BL_share {G : xG} {l : Launch} {d bc bs bc1 bs1 bc2 bs2 : Nat} {M : xM} {pc i : Nat} {L : List (Option Value)} {rest : List Value} {h : xH} {n : Nat} {P : Option Value → xH → Nat → Prop} {b : Nat} {x0 : Int32} {x1 : Int32} {x2 : Int32} (hd : decode M.2.1 pc = .ok (.invokevirtual i, 3)) (hl : Cond.methodLink M.1.cls i (mBL_share).1 ∈ ev_T) {fs : List Value} (hb : h b = some (.inr (7, fs))) (hW : (rest.map fun v => v.category).sum ≤ 8) (hb1 : bc1 + bc2 = bc) (hb2 : bs1 + bs2 = bs) (k : ev_Run G l d bc1 bs1 mBL_share 0 [some (.ref b), some (.int x0), some (.int x1), some (.int x2), none, none, none, none, none, none, none] [] h n (fun v h' n' => ev_Run G l (d + 1) bc2 bs2 M (pc + 3) L (ev_psh v rest) h' n' P)) : ev_Run G l (d + 1) bc bs M pc L (.int x2 :: .int x1 :: .int x0 :: .ref b :: rest) h n P :=
  ev_callV (As := [.int x0, .int x1, .int x2]) (mm := 7) hd kBL_share vBL_share wBL_share hl hb rfl rfl rfl hW (Nat.le_of_ble_eq_true rfl) hb1 hb2 k
theorem cz_La_gramsOf {G : xG} {l : Launch} {d bc bs : Nat} {M : xM} {pc i : Nat} {L : List (Option Value)} {rest : List Value} {h : xH} {n : Nat} {P : Option Value → xH → Nat → Prop} {b : Nat} {x0 : Int32} (hd : decode M.2.1 pc = .ok (.invokevirtual i, 3)) (hl : Cond.methodLink M.1.cls i (mLa_gramsOf).1 ∈ ev_T) {fs : List Value} (hb : h b = some (.inr (1, fs))) (hW : (rest.map fun v => v.category).sum ≤ 8) (k : ev_Run G l d 0 0 mLa_gramsOf 0 [some (.ref b), some (.int x0), none, none, none] [] h n (fun v h' n' => ev_Run G l (d + 1) bc bs M (pc + 3) L (ev_psh v rest) h' n' P)) : ev_Run G l (d + 1) bc bs M pc L (.int x0 :: .ref b :: rest) h n P :=
  ev_callV (As := [.int x0]) (mm := 3) hd kLa_gramsOf vLa_gramsOf wLa_gramsOf hl hb rfl rfl rfl hW (Nat.le_of_ble_eq_true rfl) (Nat.zero_add _) (Nat.zero_add _) k
theorem ca_La_gramsOf {G : xG} {l : Launch} {d bc bs bc1 bs1 bc2 bs2 : Nat} {M : xM} {pc i : Nat} {L : List (Option Value)} {rest : List Value} {h : xH} {n : Nat} {P : Option Value → xH → Nat → Prop} {b : Nat} {x0 : Int32} (hd : decode M.2.1 pc = .ok (.invokevirtual i, 3)) (hl : Cond.methodLink M.1.cls i (mLa_gramsOf).1 ∈ ev_T) {fs : List Value} (hb : h b = some (.inr (1, fs))) (hW : (rest.map fun v => v.category).sum ≤ 8) (hb1 : bc1 + bc2 = bc) (hb2 : bs1 + bs2 = bs) (k : ev_Run G l d bc1 bs1 mLa_gramsOf 0 [some (.ref b), some (.int x0), none, none, none] [] h n (fun v h' n' => ev_Run G l (d + 1) bc2 bs2 M (pc + 3) L (ev_psh v rest) h' n' P)) : ev_Run G l (d + 1) bc bs M pc L (.int x0 :: .ref b :: rest) h n P :=
  ev_callV (As := [.int x0]) (mm := 3) hd kLa_gramsOf vLa_gramsOf wLa_gramsOf hl hb rfl rfl rfl hW (Nat.le_of_ble_eq_true rfl) hb1 hb2 k
theorem cz_BL_greatestDivisor {G : xG} {l : Launch} {d bc bs : Nat} {M : xM} {pc i : Nat} {L : List (Option Value)} {rest : List Value} {h : xH} {n : Nat} {P : Option Value → xH → Nat → Prop} {x0 : Int64} {x1 : Int64} (hd : decode M.2.1 pc = .ok (.invokestatic i, 3)) (hl : Cond.methodLink M.1.cls i (mBL_greatestDivisor).1 ∈ ev_T) (hW : (rest.map fun v => v.category).sum ≤ 8) (k : ev_Run G l d 0 0 mBL_greatestDivisor 0 [some (.long x0), none, some (.long x1), none, none, none, none, none, none, none, none] [] h n (fun v h' n' => ev_Run G l (d + 1) bc bs M (pc + 3) L (ev_psh v rest) h' n' P)) : ev_Run G l (d + 1) bc bs M pc L (.long x1 :: .long x0 :: rest) h n P :=
  ev_callS (As := [.long x0, .long x1]) (mm := 7) hd kBL_greatestDivisor sBL_greatestDivisor hl rfl rfl hW (Nat.le_of_ble_eq_true rfl) (Nat.zero_add _) (Nat.zero_add _) k
theorem ca_BL_greatestDivisor {G : xG} {l : Launch} {d bc bs bc1 bs1 bc2 bs2 : Nat} {M : xM} {pc i : Nat} {L : List (Option Value)} {rest : List Value} {h : xH} {n : Nat} {P : Option Value → xH → Nat → Prop} {x0 : Int64} {x1 : Int64} (hd : decode M.2.1 pc = .ok (.invokestatic i, 3)) (hl : Cond.methodLink M.1.cls i (mBL_greatestDivisor).1 ∈ ev_T) (hW : (rest.map fun v => v.category).sum ≤ 8) (hb1 : bc1 + bc2 = bc) (hb2 : bs1 + bs2 = bs) (k : ev_Run G l d bc1 bs1 mBL_greatestDivisor 0 [some (.long x0), none, some (.long x1), none, none, none, none, none, none, none, none] [] h n (fun v h' n' => ev_Run G l (d + 1) bc2 bs2 M (pc + 3) L (ev_psh v rest) h' n' P)) : ev_Run G l (d + 1) bc bs M pc L (.long x1 :: .long x0 :: rest) h n P :=
  ev_callS (As := [.long x0, .long x1]) (mm := 7) hd kBL_greatestDivisor sBL_greatestDivisor hl rfl rfl hW (Nat.le_of_ble_eq_true rfl) hb1 hb2 k
theorem cz_BL_back {G : xG} {l : Launch} {d bc bs : Nat} {M : xM} {pc i : Nat} {L : List (Option Value)} {rest : List Value} {h : xH} {n : Nat} {P : Option Value → xH → Nat → Prop} {b : Nat} {x0 : Int32} {x1 : Int32} (hd : decode M.2.1 pc = .ok (.invokevirtual i, 3)) (hl : Cond.methodLink M.1.cls i (mBL_back).1 ∈ ev_T) {fs : List Value} (hb : h b = some (.inr (7, fs))) (hW : (rest.map fun v => v.category).sum ≤ 8) (k : ev_Run G l d 0 0 mBL_back 0 [some (.ref b), some (.int x0), some (.int x1), none, none] [] h n (fun v h' n' => ev_Run G l (d + 1) bc bs M (pc + 3) L (ev_psh v rest) h' n' P)) : ev_Run G l (d + 1) bc bs M pc L (.int x1 :: .int x0 :: .ref b :: rest) h n P :=
  ev_callV (As := [.int x0, .int x1]) (mm := 2) hd kBL_back vBL_back wBL_back hl hb rfl rfl rfl hW (Nat.le_of_ble_eq_true rfl) (Nat.zero_add _) (Nat.zero_add _) k
theorem ca_BL_back {G : xG} {l : Launch} {d bc bs bc1 bs1 bc2 bs2 : Nat} {M : xM} {pc i : Nat} {L : List (Option Value)} {rest : List Value} {h : xH} {n : Nat} {P : Option Value → xH → Nat → Prop} {b : Nat} {x0 : Int32} {x1 : Int32} (hd : decode M.2.1 pc = .ok (.invokevirtual i, 3)) (hl : Cond.methodLink M.1.cls i (mBL_back).1 ∈ ev_T) {fs : List Value} (hb : h b = some (.inr (7, fs))) (hW : (rest.map fun v => v.category).sum ≤ 8) (hb1 : bc1 + bc2 = bc) (hb2 : bs1 + bs2 = bs) (k : ev_Run G l d bc1 bs1 mBL_back 0 [some (.ref b), some (.int x0), some (.int x1), none, none] [] h n (fun v h' n' => ev_Run G l (d + 1) bc2 bs2 M (pc + 3) L (ev_psh v rest) h' n' P)) : ev_Run G l (d + 1) bc bs M pc L (.int x1 :: .int x0 :: .ref b :: rest) h n P :=
  ev_callV (As := [.int x0, .int x1]) (mm := 2) hd kBL_back vBL_back wBL_back hl hb rfl rfl rfl hW (Nat.le_of_ble_eq_true rfl) hb1 hb2 k
theorem cz_Ta_clear {G : xG} {l : Launch} {d bc bs : Nat} {M : xM} {pc i : Nat} {L : List (Option Value)} {rest : List Value} {h : xH} {n : Nat} {P : Option Value → xH → Nat → Prop} {b : Nat} (hd : decode M.2.1 pc = .ok (.invokevirtual i, 3)) (hl : Cond.methodLink M.1.cls i (mTa_clear).1 ∈ ev_T) {fs : List Value} (hb : h b = some (.inr (5, fs))) (hW : (rest.map fun v => v.category).sum ≤ 8) (k : ev_Run G l d 0 0 mTa_clear 0 [some (.ref b), none] [] h n (fun v h' n' => ev_Run G l (d + 1) bc bs M (pc + 3) L (ev_psh v rest) h' n' P)) : ev_Run G l (d + 1) bc bs M pc L (.ref b :: rest) h n P :=
  ev_callV (As := []) (mm := 1) hd kTa_clear vTa_clear wTa_clear hl hb rfl rfl rfl hW (Nat.le_of_ble_eq_true rfl) (Nat.zero_add _) (Nat.zero_add _) k
theorem ca_Ta_clear {G : xG} {l : Launch} {d bc bs bc1 bs1 bc2 bs2 : Nat} {M : xM} {pc i : Nat} {L : List (Option Value)} {rest : List Value} {h : xH} {n : Nat} {P : Option Value → xH → Nat → Prop} {b : Nat} (hd : decode M.2.1 pc = .ok (.invokevirtual i, 3)) (hl : Cond.methodLink M.1.cls i (mTa_clear).1 ∈ ev_T) {fs : List Value} (hb : h b = some (.inr (5, fs))) (hW : (rest.map fun v => v.category).sum ≤ 8) (hb1 : bc1 + bc2 = bc) (hb2 : bs1 + bs2 = bs) (k : ev_Run G l d bc1 bs1 mTa_clear 0 [some (.ref b), none] [] h n (fun v h' n' => ev_Run G l (d + 1) bc2 bs2 M (pc + 3) L (ev_psh v rest) h' n' P)) : ev_Run G l (d + 1) bc bs M pc L (.ref b :: rest) h n P :=
  ev_callV (As := []) (mm := 1) hd kTa_clear vTa_clear wTa_clear hl hb rfl rfl rfl hW (Nat.le_of_ble_eq_true rfl) hb1 hb2 k
theorem cz_Ta_count {G : xG} {l : Launch} {d bc bs : Nat} {M : xM} {pc i : Nat} {L : List (Option Value)} {rest : List Value} {h : xH} {n : Nat} {P : Option Value → xH → Nat → Prop} {b : Nat} {x0 : Int32} (hd : decode M.2.1 pc = .ok (.invokevirtual i, 3)) (hl : Cond.methodLink M.1.cls i (mTa_count).1 ∈ ev_T) {fs : List Value} (hb : h b = some (.inr (5, fs))) (hW : (rest.map fun v => v.category).sum ≤ 8) (k : ev_Run G l d 0 0 mTa_count 0 [some (.ref b), some (.int x0)] [] h n (fun v h' n' => ev_Run G l (d + 1) bc bs M (pc + 3) L (ev_psh v rest) h' n' P)) : ev_Run G l (d + 1) bc bs M pc L (.int x0 :: .ref b :: rest) h n P :=
  ev_callV (As := [.int x0]) (mm := 0) hd kTa_count vTa_count wTa_count hl hb rfl rfl rfl hW (Nat.le_of_ble_eq_true rfl) (Nat.zero_add _) (Nat.zero_add _) k
theorem ca_Ta_count {G : xG} {l : Launch} {d bc bs bc1 bs1 bc2 bs2 : Nat} {M : xM} {pc i : Nat} {L : List (Option Value)} {rest : List Value} {h : xH} {n : Nat} {P : Option Value → xH → Nat → Prop} {b : Nat} {x0 : Int32} (hd : decode M.2.1 pc = .ok (.invokevirtual i, 3)) (hl : Cond.methodLink M.1.cls i (mTa_count).1 ∈ ev_T) {fs : List Value} (hb : h b = some (.inr (5, fs))) (hW : (rest.map fun v => v.category).sum ≤ 8) (hb1 : bc1 + bc2 = bc) (hb2 : bs1 + bs2 = bs) (k : ev_Run G l d bc1 bs1 mTa_count 0 [some (.ref b), some (.int x0)] [] h n (fun v h' n' => ev_Run G l (d + 1) bc2 bs2 M (pc + 3) L (ev_psh v rest) h' n' P)) : ev_Run G l (d + 1) bc bs M pc L (.int x0 :: .ref b :: rest) h n P :=
  ev_callV (As := [.int x0]) (mm := 0) hd kTa_count vTa_count wTa_count hl hb rfl rfl rfl hW (Nat.le_of_ble_eq_true rfl) hb1 hb2 k
theorem cz_Ta_pick {G : xG} {l : Launch} {d bc bs : Nat} {M : xM} {pc i : Nat} {L : List (Option Value)} {rest : List Value} {h : xH} {n : Nat} {P : Option Value → xH → Nat → Prop} {b : Nat} {x0 : Int32} (hd : decode M.2.1 pc = .ok (.invokevirtual i, 3)) (hl : Cond.methodLink M.1.cls i (mTa_pick).1 ∈ ev_T) {fs : List Value} (hb : h b = some (.inr (5, fs))) (hW : (rest.map fun v => v.category).sum ≤ 8) (k : ev_Run G l d 0 0 mTa_pick 0 [some (.ref b), some (.int x0), none, none] [] h n (fun v h' n' => ev_Run G l (d + 1) bc bs M (pc + 3) L (ev_psh v rest) h' n' P)) : ev_Run G l (d + 1) bc bs M pc L (.int x0 :: .ref b :: rest) h n P :=
  ev_callV (As := [.int x0]) (mm := 2) hd kTa_pick vTa_pick wTa_pick hl hb rfl rfl rfl hW (Nat.le_of_ble_eq_true rfl) (Nat.zero_add _) (Nat.zero_add _) k
theorem ca_Ta_pick {G : xG} {l : Launch} {d bc bs bc1 bs1 bc2 bs2 : Nat} {M : xM} {pc i : Nat} {L : List (Option Value)} {rest : List Value} {h : xH} {n : Nat} {P : Option Value → xH → Nat → Prop} {b : Nat} {x0 : Int32} (hd : decode M.2.1 pc = .ok (.invokevirtual i, 3)) (hl : Cond.methodLink M.1.cls i (mTa_pick).1 ∈ ev_T) {fs : List Value} (hb : h b = some (.inr (5, fs))) (hW : (rest.map fun v => v.category).sum ≤ 8) (hb1 : bc1 + bc2 = bc) (hb2 : bs1 + bs2 = bs) (k : ev_Run G l d bc1 bs1 mTa_pick 0 [some (.ref b), some (.int x0), none, none] [] h n (fun v h' n' => ev_Run G l (d + 1) bc2 bs2 M (pc + 3) L (ev_psh v rest) h' n' P)) : ev_Run G l (d + 1) bc bs M pc L (.int x0 :: .ref b :: rest) h n P :=
  ev_callV (As := [.int x0]) (mm := 2) hd kTa_pick vTa_pick wTa_pick hl hb rfl rfl rfl hW (Nat.le_of_ble_eq_true rfl) hb1 hb2 k
theorem cz_BL_recall {G : xG} {l : Launch} {d bc bs : Nat} {M : xM} {pc i : Nat} {L : List (Option Value)} {rest : List Value} {h : xH} {n : Nat} {P : Option Value → xH → Nat → Prop} {b : Nat} {x0 : Int32} (hd : decode M.2.1 pc = .ok (.invokevirtual i, 3)) (hl : Cond.methodLink M.1.cls i (mBL_recall).1 ∈ ev_T) {fs : List Value} (hb : h b = some (.inr (7, fs))) (hW : (rest.map fun v => v.category).sum ≤ 8) (k : ev_Run G l d 0 0 mBL_recall 0 [some (.ref b), some (.int x0)] [] h n (fun v h' n' => ev_Run G l (d + 1) bc bs M (pc + 3) L (ev_psh v rest) h' n' P)) : ev_Run G l (d + 1) bc bs M pc L (.int x0 :: .ref b :: rest) h n P :=
  ev_callV (As := [.int x0]) (mm := 0) hd kBL_recall vBL_recall wBL_recall hl hb rfl rfl rfl hW (Nat.le_of_ble_eq_true rfl) (Nat.zero_add _) (Nat.zero_add _) k
theorem ca_BL_recall {G : xG} {l : Launch} {d bc bs bc1 bs1 bc2 bs2 : Nat} {M : xM} {pc i : Nat} {L : List (Option Value)} {rest : List Value} {h : xH} {n : Nat} {P : Option Value → xH → Nat → Prop} {b : Nat} {x0 : Int32} (hd : decode M.2.1 pc = .ok (.invokevirtual i, 3)) (hl : Cond.methodLink M.1.cls i (mBL_recall).1 ∈ ev_T) {fs : List Value} (hb : h b = some (.inr (7, fs))) (hW : (rest.map fun v => v.category).sum ≤ 8) (hb1 : bc1 + bc2 = bc) (hb2 : bs1 + bs2 = bs) (k : ev_Run G l d bc1 bs1 mBL_recall 0 [some (.ref b), some (.int x0)] [] h n (fun v h' n' => ev_Run G l (d + 1) bc2 bs2 M (pc + 3) L (ev_psh v rest) h' n' P)) : ev_Run G l (d + 1) bc bs M pc L (.int x0 :: .ref b :: rest) h n P :=
  ev_callV (As := [.int x0]) (mm := 0) hd kBL_recall vBL_recall wBL_recall hl hb rfl rfl rfl hW (Nat.le_of_ble_eq_true rfl) hb1 hb2 k
theorem cz_BL_countBoxesWith {G : xG} {l : Launch} {d bc bs : Nat} {M : xM} {pc i : Nat} {L : List (Option Value)} {rest : List Value} {h : xH} {n : Nat} {P : Option Value → xH → Nat → Prop} {b : Nat} {x0 : Int32} (hd : decode M.2.1 pc = .ok (.invokevirtual i, 3)) (hl : Cond.methodLink M.1.cls i (mBL_countBoxesWith).1 ∈ ev_T) {fs : List Value} (hb : h b = some (.inr (7, fs))) (hW : (rest.map fun v => v.category).sum ≤ 8) (k : ev_Run G l d 0 0 mBL_countBoxesWith 0 [some (.ref b), some (.int x0), none, none] [] h n (fun v h' n' => ev_Run G l (d + 1) bc bs M (pc + 3) L (ev_psh v rest) h' n' P)) : ev_Run G l (d + 1) bc bs M pc L (.int x0 :: .ref b :: rest) h n P :=
  ev_callV (As := [.int x0]) (mm := 2) hd kBL_countBoxesWith vBL_countBoxesWith wBL_countBoxesWith hl hb rfl rfl rfl hW (Nat.le_of_ble_eq_true rfl) (Nat.zero_add _) (Nat.zero_add _) k
theorem ca_BL_countBoxesWith {G : xG} {l : Launch} {d bc bs bc1 bs1 bc2 bs2 : Nat} {M : xM} {pc i : Nat} {L : List (Option Value)} {rest : List Value} {h : xH} {n : Nat} {P : Option Value → xH → Nat → Prop} {b : Nat} {x0 : Int32} (hd : decode M.2.1 pc = .ok (.invokevirtual i, 3)) (hl : Cond.methodLink M.1.cls i (mBL_countBoxesWith).1 ∈ ev_T) {fs : List Value} (hb : h b = some (.inr (7, fs))) (hW : (rest.map fun v => v.category).sum ≤ 8) (hb1 : bc1 + bc2 = bc) (hb2 : bs1 + bs2 = bs) (k : ev_Run G l d bc1 bs1 mBL_countBoxesWith 0 [some (.ref b), some (.int x0), none, none] [] h n (fun v h' n' => ev_Run G l (d + 1) bc2 bs2 M (pc + 3) L (ev_psh v rest) h' n' P)) : ev_Run G l (d + 1) bc bs M pc L (.int x0 :: .ref b :: rest) h n P :=
  ev_callV (As := [.int x0]) (mm := 2) hd kBL_countBoxesWith vBL_countBoxesWith wBL_countBoxesWith hl hb rfl rfl rfl hW (Nat.le_of_ble_eq_true rfl) hb1 hb2 k
theorem cz_Ta_countedAtLeast {G : xG} {l : Launch} {d bc bs : Nat} {M : xM} {pc i : Nat} {L : List (Option Value)} {rest : List Value} {h : xH} {n : Nat} {P : Option Value → xH → Nat → Prop} {b : Nat} {x0 : Int32} (hd : decode M.2.1 pc = .ok (.invokevirtual i, 3)) (hl : Cond.methodLink M.1.cls i (mTa_countedAtLeast).1 ∈ ev_T) {fs : List Value} (hb : h b = some (.inr (5, fs))) (hW : (rest.map fun v => v.category).sum ≤ 8) (k : ev_Run G l d 0 0 mTa_countedAtLeast 0 [some (.ref b), some (.int x0), none, none] [] h n (fun v h' n' => ev_Run G l (d + 1) bc bs M (pc + 3) L (ev_psh v rest) h' n' P)) : ev_Run G l (d + 1) bc bs M pc L (.int x0 :: .ref b :: rest) h n P :=
  ev_callV (As := [.int x0]) (mm := 2) hd kTa_countedAtLeast vTa_countedAtLeast wTa_countedAtLeast hl hb rfl rfl rfl hW (Nat.le_of_ble_eq_true rfl) (Nat.zero_add _) (Nat.zero_add _) k
theorem ca_Ta_countedAtLeast {G : xG} {l : Launch} {d bc bs bc1 bs1 bc2 bs2 : Nat} {M : xM} {pc i : Nat} {L : List (Option Value)} {rest : List Value} {h : xH} {n : Nat} {P : Option Value → xH → Nat → Prop} {b : Nat} {x0 : Int32} (hd : decode M.2.1 pc = .ok (.invokevirtual i, 3)) (hl : Cond.methodLink M.1.cls i (mTa_countedAtLeast).1 ∈ ev_T) {fs : List Value} (hb : h b = some (.inr (5, fs))) (hW : (rest.map fun v => v.category).sum ≤ 8) (hb1 : bc1 + bc2 = bc) (hb2 : bs1 + bs2 = bs) (k : ev_Run G l d bc1 bs1 mTa_countedAtLeast 0 [some (.ref b), some (.int x0), none, none] [] h n (fun v h' n' => ev_Run G l (d + 1) bc2 bs2 M (pc + 3) L (ev_psh v rest) h' n' P)) : ev_Run G l (d + 1) bc bs M pc L (.int x0 :: .ref b :: rest) h n P :=
  ev_callV (As := [.int x0]) (mm := 2) hd kTa_countedAtLeast vTa_countedAtLeast wTa_countedAtLeast hl hb rfl rfl rfl hW (Nat.le_of_ble_eq_true rfl) hb1 hb2 k
theorem cz_BL_recalled {G : xG} {l : Launch} {d bc bs : Nat} {M : xM} {pc i : Nat} {L : List (Option Value)} {rest : List Value} {h : xH} {n : Nat} {P : Option Value → xH → Nat → Prop} {b : Nat} {x0 : Int32} {x1 : Int32} (hd : decode M.2.1 pc = .ok (.invokevirtual i, 3)) (hl : Cond.methodLink M.1.cls i (mBL_recalled).1 ∈ ev_T) {fs : List Value} (hb : h b = some (.inr (7, fs))) (hW : (rest.map fun v => v.category).sum ≤ 8) (k : ev_Run G l d 0 0 mBL_recalled 0 [some (.ref b), some (.int x0), some (.int x1)] [] h n (fun v h' n' => ev_Run G l (d + 1) bc bs M (pc + 3) L (ev_psh v rest) h' n' P)) : ev_Run G l (d + 1) bc bs M pc L (.int x1 :: .int x0 :: .ref b :: rest) h n P :=
  ev_callV (As := [.int x0, .int x1]) (mm := 0) hd kBL_recalled vBL_recalled wBL_recalled hl hb rfl rfl rfl hW (Nat.le_of_ble_eq_true rfl) (Nat.zero_add _) (Nat.zero_add _) k
theorem ca_BL_recalled {G : xG} {l : Launch} {d bc bs bc1 bs1 bc2 bs2 : Nat} {M : xM} {pc i : Nat} {L : List (Option Value)} {rest : List Value} {h : xH} {n : Nat} {P : Option Value → xH → Nat → Prop} {b : Nat} {x0 : Int32} {x1 : Int32} (hd : decode M.2.1 pc = .ok (.invokevirtual i, 3)) (hl : Cond.methodLink M.1.cls i (mBL_recalled).1 ∈ ev_T) {fs : List Value} (hb : h b = some (.inr (7, fs))) (hW : (rest.map fun v => v.category).sum ≤ 8) (hb1 : bc1 + bc2 = bc) (hb2 : bs1 + bs2 = bs) (k : ev_Run G l d bc1 bs1 mBL_recalled 0 [some (.ref b), some (.int x0), some (.int x1)] [] h n (fun v h' n' => ev_Run G l (d + 1) bc2 bs2 M (pc + 3) L (ev_psh v rest) h' n' P)) : ev_Run G l (d + 1) bc bs M pc L (.int x1 :: .int x0 :: .ref b :: rest) h n P :=
  ev_callV (As := [.int x0, .int x1]) (mm := 0) hd kBL_recalled vBL_recalled wBL_recalled hl hb rfl rfl rfl hW (Nat.le_of_ble_eq_true rfl) hb1 hb2 k
theorem cz_BL_doubled {G : xG} {l : Launch} {d bc bs : Nat} {M : xM} {pc i : Nat} {L : List (Option Value)} {rest : List Value} {h : xH} {n : Nat} {P : Option Value → xH → Nat → Prop} {b : Nat} {x0 : Int32} (hd : decode M.2.1 pc = .ok (.invokevirtual i, 3)) (hl : Cond.methodLink M.1.cls i (mBL_doubled).1 ∈ ev_T) {fs : List Value} (hb : h b = some (.inr (7, fs))) (hW : (rest.map fun v => v.category).sum ≤ 8) (k : ev_Run G l d 0 0 mBL_doubled 0 [some (.ref b), some (.int x0), none] [] h n (fun v h' n' => ev_Run G l (d + 1) bc bs M (pc + 3) L (ev_psh v rest) h' n' P)) : ev_Run G l (d + 1) bc bs M pc L (.int x0 :: .ref b :: rest) h n P :=
  ev_callV (As := [.int x0]) (mm := 1) hd kBL_doubled vBL_doubled wBL_doubled hl hb rfl rfl rfl hW (Nat.le_of_ble_eq_true rfl) (Nat.zero_add _) (Nat.zero_add _) k
theorem ca_BL_doubled {G : xG} {l : Launch} {d bc bs bc1 bs1 bc2 bs2 : Nat} {M : xM} {pc i : Nat} {L : List (Option Value)} {rest : List Value} {h : xH} {n : Nat} {P : Option Value → xH → Nat → Prop} {b : Nat} {x0 : Int32} (hd : decode M.2.1 pc = .ok (.invokevirtual i, 3)) (hl : Cond.methodLink M.1.cls i (mBL_doubled).1 ∈ ev_T) {fs : List Value} (hb : h b = some (.inr (7, fs))) (hW : (rest.map fun v => v.category).sum ≤ 8) (hb1 : bc1 + bc2 = bc) (hb2 : bs1 + bs2 = bs) (k : ev_Run G l d bc1 bs1 mBL_doubled 0 [some (.ref b), some (.int x0), none] [] h n (fun v h' n' => ev_Run G l (d + 1) bc2 bs2 M (pc + 3) L (ev_psh v rest) h' n' P)) : ev_Run G l (d + 1) bc bs M pc L (.int x0 :: .ref b :: rest) h n P :=
  ev_callV (As := [.int x0]) (mm := 1) hd kBL_doubled vBL_doubled wBL_doubled hl hb rfl rfl rfl hW (Nat.le_of_ble_eq_true rfl) hb1 hb2 k
theorem cz_BL_unit {G : xG} {l : Launch} {d bc bs : Nat} {M : xM} {pc i : Nat} {L : List (Option Value)} {rest : List Value} {h : xH} {n : Nat} {P : Option Value → xH → Nat → Prop} {b : Nat} {x0 : Int32} (hd : decode M.2.1 pc = .ok (.invokevirtual i, 3)) (hl : Cond.methodLink M.1.cls i (mBL_unit).1 ∈ ev_T) {fs : List Value} (hb : h b = some (.inr (7, fs))) (hW : (rest.map fun v => v.category).sum ≤ 8) (k : ev_Run G l d 0 0 mBL_unit 0 [some (.ref b), some (.int x0)] [] h n (fun v h' n' => ev_Run G l (d + 1) bc bs M (pc + 3) L (ev_psh v rest) h' n' P)) : ev_Run G l (d + 1) bc bs M pc L (.int x0 :: .ref b :: rest) h n P :=
  ev_callV (As := [.int x0]) (mm := 0) hd kBL_unit vBL_unit wBL_unit hl hb rfl rfl rfl hW (Nat.le_of_ble_eq_true rfl) (Nat.zero_add _) (Nat.zero_add _) k
theorem ca_BL_unit {G : xG} {l : Launch} {d bc bs bc1 bs1 bc2 bs2 : Nat} {M : xM} {pc i : Nat} {L : List (Option Value)} {rest : List Value} {h : xH} {n : Nat} {P : Option Value → xH → Nat → Prop} {b : Nat} {x0 : Int32} (hd : decode M.2.1 pc = .ok (.invokevirtual i, 3)) (hl : Cond.methodLink M.1.cls i (mBL_unit).1 ∈ ev_T) {fs : List Value} (hb : h b = some (.inr (7, fs))) (hW : (rest.map fun v => v.category).sum ≤ 8) (hb1 : bc1 + bc2 = bc) (hb2 : bs1 + bs2 = bs) (k : ev_Run G l d bc1 bs1 mBL_unit 0 [some (.ref b), some (.int x0)] [] h n (fun v h' n' => ev_Run G l (d + 1) bc2 bs2 M (pc + 3) L (ev_psh v rest) h' n' P)) : ev_Run G l (d + 1) bc bs M pc L (.int x0 :: .ref b :: rest) h n P :=
  ev_callV (As := [.int x0]) (mm := 0) hd kBL_unit vBL_unit wBL_unit hl hb rfl rfl rfl hW (Nat.le_of_ble_eq_true rfl) hb1 hb2 k
theorem cz_By_put {G : xG} {l : Launch} {d bc bs : Nat} {M : xM} {pc i : Nat} {L : List (Option Value)} {rest : List Value} {h : xH} {n : Nat} {P : Option Value → xH → Nat → Prop} {b : Nat} {x0 : Int32} (hd : decode M.2.1 pc = .ok (.invokevirtual i, 3)) (hl : Cond.methodLink M.1.cls i (mBy_put).1 ∈ ev_T) {fs : List Value} (hb : h b = some (.inr (0, fs))) (hW : (rest.map fun v => v.category).sum ≤ 8) (k : ev_Run G l d 0 0 mBy_put 0 [some (.ref b), some (.int x0)] [] h n (fun v h' n' => ev_Run G l (d + 1) bc bs M (pc + 3) L (ev_psh v rest) h' n' P)) : ev_Run G l (d + 1) bc bs M pc L (.int x0 :: .ref b :: rest) h n P :=
  ev_callV (As := [.int x0]) (mm := 0) hd kBy_put vBy_put wBy_put hl hb rfl rfl rfl hW (Nat.le_of_ble_eq_true rfl) (Nat.zero_add _) (Nat.zero_add _) k
theorem ca_By_put {G : xG} {l : Launch} {d bc bs bc1 bs1 bc2 bs2 : Nat} {M : xM} {pc i : Nat} {L : List (Option Value)} {rest : List Value} {h : xH} {n : Nat} {P : Option Value → xH → Nat → Prop} {b : Nat} {x0 : Int32} (hd : decode M.2.1 pc = .ok (.invokevirtual i, 3)) (hl : Cond.methodLink M.1.cls i (mBy_put).1 ∈ ev_T) {fs : List Value} (hb : h b = some (.inr (0, fs))) (hW : (rest.map fun v => v.category).sum ≤ 8) (hb1 : bc1 + bc2 = bc) (hb2 : bs1 + bs2 = bs) (k : ev_Run G l d bc1 bs1 mBy_put 0 [some (.ref b), some (.int x0)] [] h n (fun v h' n' => ev_Run G l (d + 1) bc2 bs2 M (pc + 3) L (ev_psh v rest) h' n' P)) : ev_Run G l (d + 1) bc bs M pc L (.int x0 :: .ref b :: rest) h n P :=
  ev_callV (As := [.int x0]) (mm := 0) hd kBy_put vBy_put wBy_put hl hb rfl rfl rfl hW (Nat.le_of_ble_eq_true rfl) hb1 hb2 k
theorem cz_BL_names {G : xG} {l : Launch} {d bc bs : Nat} {M : xM} {pc i : Nat} {L : List (Option Value)} {rest : List Value} {h : xH} {n : Nat} {P : Option Value → xH → Nat → Prop} {b : Nat} (hd : decode M.2.1 pc = .ok (.invokevirtual i, 3)) (hl : Cond.methodLink M.1.cls i (mBL_names).1 ∈ ev_T) {fs : List Value} (hb : h b = some (.inr (7, fs))) (hW : (rest.map fun v => v.category).sum ≤ 8) (k : ev_Run G l d 0 0 mBL_names 0 [some (.ref b), none, none] [] h n (fun v h' n' => ev_Run G l (d + 1) bc bs M (pc + 3) L (ev_psh v rest) h' n' P)) : ev_Run G l (d + 1) bc bs M pc L (.ref b :: rest) h n P :=
  ev_callV (As := []) (mm := 2) hd kBL_names vBL_names wBL_names hl hb rfl rfl rfl hW (Nat.le_of_ble_eq_true rfl) (Nat.zero_add _) (Nat.zero_add _) k
theorem ca_BL_names {G : xG} {l : Launch} {d bc bs bc1 bs1 bc2 bs2 : Nat} {M : xM} {pc i : Nat} {L : List (Option Value)} {rest : List Value} {h : xH} {n : Nat} {P : Option Value → xH → Nat → Prop} {b : Nat} (hd : decode M.2.1 pc = .ok (.invokevirtual i, 3)) (hl : Cond.methodLink M.1.cls i (mBL_names).1 ∈ ev_T) {fs : List Value} (hb : h b = some (.inr (7, fs))) (hW : (rest.map fun v => v.category).sum ≤ 8) (hb1 : bc1 + bc2 = bc) (hb2 : bs1 + bs2 = bs) (k : ev_Run G l d bc1 bs1 mBL_names 0 [some (.ref b), none, none] [] h n (fun v h' n' => ev_Run G l (d + 1) bc2 bs2 M (pc + 3) L (ev_psh v rest) h' n' P)) : ev_Run G l (d + 1) bc bs M pc L (.ref b :: rest) h n P :=
  ev_callV (As := []) (mm := 2) hd kBL_names vBL_names wBL_names hl hb rfl rfl rfl hW (Nat.le_of_ble_eq_true rfl) hb1 hb2 k
theorem cz_Na_read {G : xG} {l : Launch} {d bc bs : Nat} {M : xM} {pc i : Nat} {L : List (Option Value)} {rest : List Value} {h : xH} {n : Nat} {P : Option Value → xH → Nat → Prop} {b : Nat} {x0 : Nat} (hd : decode M.2.1 pc = .ok (.invokevirtual i, 3)) (hl : Cond.methodLink M.1.cls i (mNa_read).1 ∈ ev_T) {fs : List Value} (hb : h b = some (.inr (3, fs))) (hW : (rest.map fun v => v.category).sum ≤ 8) (k : ev_Run G l d 0 0 mNa_read 0 [some (.ref b), some (.ref x0), none] [] h n (fun v h' n' => ev_Run G l (d + 1) bc bs M (pc + 3) L (ev_psh v rest) h' n' P)) : ev_Run G l (d + 1) bc bs M pc L (.ref x0 :: .ref b :: rest) h n P :=
  ev_callV (As := [.ref x0]) (mm := 1) hd kNa_read vNa_read wNa_read hl hb rfl rfl rfl hW (Nat.le_of_ble_eq_true rfl) (Nat.zero_add _) (Nat.zero_add _) k
theorem ca_Na_read {G : xG} {l : Launch} {d bc bs bc1 bs1 bc2 bs2 : Nat} {M : xM} {pc i : Nat} {L : List (Option Value)} {rest : List Value} {h : xH} {n : Nat} {P : Option Value → xH → Nat → Prop} {b : Nat} {x0 : Nat} (hd : decode M.2.1 pc = .ok (.invokevirtual i, 3)) (hl : Cond.methodLink M.1.cls i (mNa_read).1 ∈ ev_T) {fs : List Value} (hb : h b = some (.inr (3, fs))) (hW : (rest.map fun v => v.category).sum ≤ 8) (hb1 : bc1 + bc2 = bc) (hb2 : bs1 + bs2 = bs) (k : ev_Run G l d bc1 bs1 mNa_read 0 [some (.ref b), some (.ref x0), none] [] h n (fun v h' n' => ev_Run G l (d + 1) bc2 bs2 M (pc + 3) L (ev_psh v rest) h' n' P)) : ev_Run G l (d + 1) bc bs M pc L (.ref x0 :: .ref b :: rest) h n P :=
  ev_callV (As := [.ref x0]) (mm := 1) hd kNa_read vNa_read wNa_read hl hb rfl rfl rfl hW (Nat.le_of_ble_eq_true rfl) hb1 hb2 k
theorem cz_Ru_clear {G : xG} {l : Launch} {d bc bs : Nat} {M : xM} {pc i : Nat} {L : List (Option Value)} {rest : List Value} {h : xH} {n : Nat} {P : Option Value → xH → Nat → Prop} {b : Nat} (hd : decode M.2.1 pc = .ok (.invokevirtual i, 3)) (hl : Cond.methodLink M.1.cls i (mRu_clear).1 ∈ ev_T) {fs : List Value} (hb : h b = some (.inr (4, fs))) (hW : (rest.map fun v => v.category).sum ≤ 8) (k : ev_Run G l d 0 0 mRu_clear 0 [some (.ref b)] [] h n (fun v h' n' => ev_Run G l (d + 1) bc bs M (pc + 3) L (ev_psh v rest) h' n' P)) : ev_Run G l (d + 1) bc bs M pc L (.ref b :: rest) h n P :=
  ev_callV (As := []) (mm := 0) hd kRu_clear vRu_clear wRu_clear hl hb rfl rfl rfl hW (Nat.le_of_ble_eq_true rfl) (Nat.zero_add _) (Nat.zero_add _) k
theorem ca_Ru_clear {G : xG} {l : Launch} {d bc bs bc1 bs1 bc2 bs2 : Nat} {M : xM} {pc i : Nat} {L : List (Option Value)} {rest : List Value} {h : xH} {n : Nat} {P : Option Value → xH → Nat → Prop} {b : Nat} (hd : decode M.2.1 pc = .ok (.invokevirtual i, 3)) (hl : Cond.methodLink M.1.cls i (mRu_clear).1 ∈ ev_T) {fs : List Value} (hb : h b = some (.inr (4, fs))) (hW : (rest.map fun v => v.category).sum ≤ 8) (hb1 : bc1 + bc2 = bc) (hb2 : bs1 + bs2 = bs) (k : ev_Run G l d bc1 bs1 mRu_clear 0 [some (.ref b)] [] h n (fun v h' n' => ev_Run G l (d + 1) bc2 bs2 M (pc + 3) L (ev_psh v rest) h' n' P)) : ev_Run G l (d + 1) bc bs M pc L (.ref b :: rest) h n P :=
  ev_callV (As := []) (mm := 0) hd kRu_clear vRu_clear wRu_clear hl hb rfl rfl rfl hW (Nat.le_of_ble_eq_true rfl) hb1 hb2 k
theorem cz_Na_skipBlanks {G : xG} {l : Launch} {d bc bs : Nat} {M : xM} {pc i : Nat} {L : List (Option Value)} {rest : List Value} {h : xH} {n : Nat} {P : Option Value → xH → Nat → Prop} {b : Nat} (hd : decode M.2.1 pc = .ok (.invokevirtual i, 3)) (hl : Cond.methodLink M.1.cls i (mNa_skipBlanks).1 ∈ ev_T) {fs : List Value} (hb : h b = some (.inr (3, fs))) (hW : (rest.map fun v => v.category).sum ≤ 8) (k : ev_Run G l d 0 0 mNa_skipBlanks 0 [some (.ref b), none] [] h n (fun v h' n' => ev_Run G l (d + 1) bc bs M (pc + 3) L (ev_psh v rest) h' n' P)) : ev_Run G l (d + 1) bc bs M pc L (.ref b :: rest) h n P :=
  ev_callV (As := []) (mm := 1) hd kNa_skipBlanks vNa_skipBlanks wNa_skipBlanks hl hb rfl rfl rfl hW (Nat.le_of_ble_eq_true rfl) (Nat.zero_add _) (Nat.zero_add _) k
theorem ca_Na_skipBlanks {G : xG} {l : Launch} {d bc bs bc1 bs1 bc2 bs2 : Nat} {M : xM} {pc i : Nat} {L : List (Option Value)} {rest : List Value} {h : xH} {n : Nat} {P : Option Value → xH → Nat → Prop} {b : Nat} (hd : decode M.2.1 pc = .ok (.invokevirtual i, 3)) (hl : Cond.methodLink M.1.cls i (mNa_skipBlanks).1 ∈ ev_T) {fs : List Value} (hb : h b = some (.inr (3, fs))) (hW : (rest.map fun v => v.category).sum ≤ 8) (hb1 : bc1 + bc2 = bc) (hb2 : bs1 + bs2 = bs) (k : ev_Run G l d bc1 bs1 mNa_skipBlanks 0 [some (.ref b), none] [] h n (fun v h' n' => ev_Run G l (d + 1) bc2 bs2 M (pc + 3) L (ev_psh v rest) h' n' P)) : ev_Run G l (d + 1) bc bs M pc L (.ref b :: rest) h n P :=
  ev_callV (As := []) (mm := 1) hd kNa_skipBlanks vNa_skipBlanks wNa_skipBlanks hl hb rfl rfl rfl hW (Nat.le_of_ble_eq_true rfl) hb1 hb2 k
theorem cz_Na_isBlank {G : xG} {l : Launch} {d bc bs : Nat} {M : xM} {pc i : Nat} {L : List (Option Value)} {rest : List Value} {h : xH} {n : Nat} {P : Option Value → xH → Nat → Prop} {b : Nat} (hd : decode M.2.1 pc = .ok (.invokevirtual i, 3)) (hl : Cond.methodLink M.1.cls i (mNa_isBlank).1 ∈ ev_T) {fs : List Value} (hb : h b = some (.inr (3, fs))) (hW : (rest.map fun v => v.category).sum ≤ 8) (k : ev_Run G l d 0 0 mNa_isBlank 0 [some (.ref b), none] [] h n (fun v h' n' => ev_Run G l (d + 1) bc bs M (pc + 3) L (ev_psh v rest) h' n' P)) : ev_Run G l (d + 1) bc bs M pc L (.ref b :: rest) h n P :=
  ev_callV (As := []) (mm := 1) hd kNa_isBlank vNa_isBlank wNa_isBlank hl hb rfl rfl rfl hW (Nat.le_of_ble_eq_true rfl) (Nat.zero_add _) (Nat.zero_add _) k
theorem ca_Na_isBlank {G : xG} {l : Launch} {d bc bs bc1 bs1 bc2 bs2 : Nat} {M : xM} {pc i : Nat} {L : List (Option Value)} {rest : List Value} {h : xH} {n : Nat} {P : Option Value → xH → Nat → Prop} {b : Nat} (hd : decode M.2.1 pc = .ok (.invokevirtual i, 3)) (hl : Cond.methodLink M.1.cls i (mNa_isBlank).1 ∈ ev_T) {fs : List Value} (hb : h b = some (.inr (3, fs))) (hW : (rest.map fun v => v.category).sum ≤ 8) (hb1 : bc1 + bc2 = bc) (hb2 : bs1 + bs2 = bs) (k : ev_Run G l d bc1 bs1 mNa_isBlank 0 [some (.ref b), none] [] h n (fun v h' n' => ev_Run G l (d + 1) bc2 bs2 M (pc + 3) L (ev_psh v rest) h' n' P)) : ev_Run G l (d + 1) bc bs M pc L (.ref b :: rest) h n P :=
  ev_callV (As := []) (mm := 1) hd kNa_isBlank vNa_isBlank wNa_isBlank hl hb rfl rfl rfl hW (Nat.le_of_ble_eq_true rfl) hb1 hb2 k
theorem cz_By_byteAt {G : xG} {l : Launch} {d bc bs : Nat} {M : xM} {pc i : Nat} {L : List (Option Value)} {rest : List Value} {h : xH} {n : Nat} {P : Option Value → xH → Nat → Prop} {b : Nat} {x0 : Int32} (hd : decode M.2.1 pc = .ok (.invokevirtual i, 3)) (hl : Cond.methodLink M.1.cls i (mBy_byteAt).1 ∈ ev_T) {fs : List Value} (hb : h b = some (.inr (0, fs))) (hW : (rest.map fun v => v.category).sum ≤ 8) (k : ev_Run G l d 0 0 mBy_byteAt 0 [some (.ref b), some (.int x0)] [] h n (fun v h' n' => ev_Run G l (d + 1) bc bs M (pc + 3) L (ev_psh v rest) h' n' P)) : ev_Run G l (d + 1) bc bs M pc L (.int x0 :: .ref b :: rest) h n P :=
  ev_callV (As := [.int x0]) (mm := 0) hd kBy_byteAt vBy_byteAt wBy_byteAt hl hb rfl rfl rfl hW (Nat.le_of_ble_eq_true rfl) (Nat.zero_add _) (Nat.zero_add _) k
theorem ca_By_byteAt {G : xG} {l : Launch} {d bc bs bc1 bs1 bc2 bs2 : Nat} {M : xM} {pc i : Nat} {L : List (Option Value)} {rest : List Value} {h : xH} {n : Nat} {P : Option Value → xH → Nat → Prop} {b : Nat} {x0 : Int32} (hd : decode M.2.1 pc = .ok (.invokevirtual i, 3)) (hl : Cond.methodLink M.1.cls i (mBy_byteAt).1 ∈ ev_T) {fs : List Value} (hb : h b = some (.inr (0, fs))) (hW : (rest.map fun v => v.category).sum ≤ 8) (hb1 : bc1 + bc2 = bc) (hb2 : bs1 + bs2 = bs) (k : ev_Run G l d bc1 bs1 mBy_byteAt 0 [some (.ref b), some (.int x0)] [] h n (fun v h' n' => ev_Run G l (d + 1) bc2 bs2 M (pc + 3) L (ev_psh v rest) h' n' P)) : ev_Run G l (d + 1) bc bs M pc L (.int x0 :: .ref b :: rest) h n P :=
  ev_callV (As := [.int x0]) (mm := 0) hd kBy_byteAt vBy_byteAt wBy_byteAt hl hb rfl rfl rfl hW (Nat.le_of_ble_eq_true rfl) hb1 hb2 k
theorem cz_By_size {G : xG} {l : Launch} {d bc bs : Nat} {M : xM} {pc i : Nat} {L : List (Option Value)} {rest : List Value} {h : xH} {n : Nat} {P : Option Value → xH → Nat → Prop} {b : Nat} (hd : decode M.2.1 pc = .ok (.invokevirtual i, 3)) (hl : Cond.methodLink M.1.cls i (mBy_size).1 ∈ ev_T) {fs : List Value} (hb : h b = some (.inr (0, fs))) (hW : (rest.map fun v => v.category).sum ≤ 8) (k : ev_Run G l d 0 0 mBy_size 0 [some (.ref b)] [] h n (fun v h' n' => ev_Run G l (d + 1) bc bs M (pc + 3) L (ev_psh v rest) h' n' P)) : ev_Run G l (d + 1) bc bs M pc L (.ref b :: rest) h n P :=
  ev_callV (As := []) (mm := 0) hd kBy_size vBy_size wBy_size hl hb rfl rfl rfl hW (Nat.le_of_ble_eq_true rfl) (Nat.zero_add _) (Nat.zero_add _) k
theorem ca_By_size {G : xG} {l : Launch} {d bc bs bc1 bs1 bc2 bs2 : Nat} {M : xM} {pc i : Nat} {L : List (Option Value)} {rest : List Value} {h : xH} {n : Nat} {P : Option Value → xH → Nat → Prop} {b : Nat} (hd : decode M.2.1 pc = .ok (.invokevirtual i, 3)) (hl : Cond.methodLink M.1.cls i (mBy_size).1 ∈ ev_T) {fs : List Value} (hb : h b = some (.inr (0, fs))) (hW : (rest.map fun v => v.category).sum ≤ 8) (hb1 : bc1 + bc2 = bc) (hb2 : bs1 + bs2 = bs) (k : ev_Run G l d bc1 bs1 mBy_size 0 [some (.ref b)] [] h n (fun v h' n' => ev_Run G l (d + 1) bc2 bs2 M (pc + 3) L (ev_psh v rest) h' n' P)) : ev_Run G l (d + 1) bc bs M pc L (.ref b :: rest) h n P :=
  ev_callV (As := []) (mm := 0) hd kBy_size vBy_size wBy_size hl hb rfl rfl rfl hW (Nat.le_of_ble_eq_true rfl) hb1 hb2 k
theorem cz_Na_readRule {G : xG} {l : Launch} {d bc bs : Nat} {M : xM} {pc i : Nat} {L : List (Option Value)} {rest : List Value} {h : xH} {n : Nat} {P : Option Value → xH → Nat → Prop} {b : Nat} {x0 : Nat} (hd : decode M.2.1 pc = .ok (.invokevirtual i, 3)) (hl : Cond.methodLink M.1.cls i (mNa_readRule).1 ∈ ev_T) {fs : List Value} (hb : h b = some (.inr (3, fs))) (hW : (rest.map fun v => v.category).sum ≤ 8) (k : ev_Run G l d 0 0 mNa_readRule 0 [some (.ref b), some (.ref x0), none, none, none, none] [] h n (fun v h' n' => ev_Run G l (d + 1) bc bs M (pc + 3) L (ev_psh v rest) h' n' P)) : ev_Run G l (d + 1) bc bs M pc L (.ref x0 :: .ref b :: rest) h n P :=
  ev_callV (As := [.ref x0]) (mm := 4) hd kNa_readRule vNa_readRule wNa_readRule hl hb rfl rfl rfl hW (Nat.le_of_ble_eq_true rfl) (Nat.zero_add _) (Nat.zero_add _) k
theorem ca_Na_readRule {G : xG} {l : Launch} {d bc bs bc1 bs1 bc2 bs2 : Nat} {M : xM} {pc i : Nat} {L : List (Option Value)} {rest : List Value} {h : xH} {n : Nat} {P : Option Value → xH → Nat → Prop} {b : Nat} {x0 : Nat} (hd : decode M.2.1 pc = .ok (.invokevirtual i, 3)) (hl : Cond.methodLink M.1.cls i (mNa_readRule).1 ∈ ev_T) {fs : List Value} (hb : h b = some (.inr (3, fs))) (hW : (rest.map fun v => v.category).sum ≤ 8) (hb1 : bc1 + bc2 = bc) (hb2 : bs1 + bs2 = bs) (k : ev_Run G l d bc1 bs1 mNa_readRule 0 [some (.ref b), some (.ref x0), none, none, none, none] [] h n (fun v h' n' => ev_Run G l (d + 1) bc2 bs2 M (pc + 3) L (ev_psh v rest) h' n' P)) : ev_Run G l (d + 1) bc bs M pc L (.ref x0 :: .ref b :: rest) h n P :=
  ev_callV (As := [.ref x0]) (mm := 4) hd kNa_readRule vNa_readRule wNa_readRule hl hb rfl rfl rfl hW (Nat.le_of_ble_eq_true rfl) hb1 hb2 k
theorem cz_Ru_isFull {G : xG} {l : Launch} {d bc bs : Nat} {M : xM} {pc i : Nat} {L : List (Option Value)} {rest : List Value} {h : xH} {n : Nat} {P : Option Value → xH → Nat → Prop} {b : Nat} (hd : decode M.2.1 pc = .ok (.invokevirtual i, 3)) (hl : Cond.methodLink M.1.cls i (mRu_isFull).1 ∈ ev_T) {fs : List Value} (hb : h b = some (.inr (4, fs))) (hW : (rest.map fun v => v.category).sum ≤ 8) (k : ev_Run G l d 0 0 mRu_isFull 0 [some (.ref b)] [] h n (fun v h' n' => ev_Run G l (d + 1) bc bs M (pc + 3) L (ev_psh v rest) h' n' P)) : ev_Run G l (d + 1) bc bs M pc L (.ref b :: rest) h n P :=
  ev_callV (As := []) (mm := 0) hd kRu_isFull vRu_isFull wRu_isFull hl hb rfl rfl rfl hW (Nat.le_of_ble_eq_true rfl) (Nat.zero_add _) (Nat.zero_add _) k
theorem ca_Ru_isFull {G : xG} {l : Launch} {d bc bs bc1 bs1 bc2 bs2 : Nat} {M : xM} {pc i : Nat} {L : List (Option Value)} {rest : List Value} {h : xH} {n : Nat} {P : Option Value → xH → Nat → Prop} {b : Nat} (hd : decode M.2.1 pc = .ok (.invokevirtual i, 3)) (hl : Cond.methodLink M.1.cls i (mRu_isFull).1 ∈ ev_T) {fs : List Value} (hb : h b = some (.inr (4, fs))) (hW : (rest.map fun v => v.category).sum ≤ 8) (hb1 : bc1 + bc2 = bc) (hb2 : bs1 + bs2 = bs) (k : ev_Run G l d bc1 bs1 mRu_isFull 0 [some (.ref b)] [] h n (fun v h' n' => ev_Run G l (d + 1) bc2 bs2 M (pc + 3) L (ev_psh v rest) h' n' P)) : ev_Run G l (d + 1) bc bs M pc L (.ref b :: rest) h n P :=
  ev_callV (As := []) (mm := 0) hd kRu_isFull vRu_isFull wRu_isFull hl hb rfl rfl rfl hW (Nat.le_of_ble_eq_true rfl) hb1 hb2 k
theorem cz_Na_readNumber {G : xG} {l : Launch} {d bc bs : Nat} {M : xM} {pc i : Nat} {L : List (Option Value)} {rest : List Value} {h : xH} {n : Nat} {P : Option Value → xH → Nat → Prop} {b : Nat} {x0 : Int32} {x1 : Int32} (hd : decode M.2.1 pc = .ok (.invokevirtual i, 3)) (hl : Cond.methodLink M.1.cls i (mNa_readNumber).1 ∈ ev_T) {fs : List Value} (hb : h b = some (.inr (3, fs))) (hW : (rest.map fun v => v.category).sum ≤ 8) (k : ev_Run G l d 0 0 mNa_readNumber 0 [some (.ref b), some (.int x0), some (.int x1), none, none, none] [] h n (fun v h' n' => ev_Run G l (d + 1) bc bs M (pc + 3) L (ev_psh v rest) h' n' P)) : ev_Run G l (d + 1) bc bs M pc L (.int x1 :: .int x0 :: .ref b :: rest) h n P :=
  ev_callV (As := [.int x0, .int x1]) (mm := 3) hd kNa_readNumber vNa_readNumber wNa_readNumber hl hb rfl rfl rfl hW (Nat.le_of_ble_eq_true rfl) (Nat.zero_add _) (Nat.zero_add _) k
theorem ca_Na_readNumber {G : xG} {l : Launch} {d bc bs bc1 bs1 bc2 bs2 : Nat} {M : xM} {pc i : Nat} {L : List (Option Value)} {rest : List Value} {h : xH} {n : Nat} {P : Option Value → xH → Nat → Prop} {b : Nat} {x0 : Int32} {x1 : Int32} (hd : decode M.2.1 pc = .ok (.invokevirtual i, 3)) (hl : Cond.methodLink M.1.cls i (mNa_readNumber).1 ∈ ev_T) {fs : List Value} (hb : h b = some (.inr (3, fs))) (hW : (rest.map fun v => v.category).sum ≤ 8) (hb1 : bc1 + bc2 = bc) (hb2 : bs1 + bs2 = bs) (k : ev_Run G l d bc1 bs1 mNa_readNumber 0 [some (.ref b), some (.int x0), some (.int x1), none, none, none] [] h n (fun v h' n' => ev_Run G l (d + 1) bc2 bs2 M (pc + 3) L (ev_psh v rest) h' n' P)) : ev_Run G l (d + 1) bc bs M pc L (.int x1 :: .int x0 :: .ref b :: rest) h n P :=
  ev_callV (As := [.int x0, .int x1]) (mm := 3) hd kNa_readNumber vNa_readNumber wNa_readNumber hl hb rfl rfl rfl hW (Nat.le_of_ble_eq_true rfl) hb1 hb2 k
theorem cz_Na_isDigit {G : xG} {l : Launch} {d bc bs : Nat} {M : xM} {pc i : Nat} {L : List (Option Value)} {rest : List Value} {h : xH} {n : Nat} {P : Option Value → xH → Nat → Prop} {b : Nat} (hd : decode M.2.1 pc = .ok (.invokevirtual i, 3)) (hl : Cond.methodLink M.1.cls i (mNa_isDigit).1 ∈ ev_T) {fs : List Value} (hb : h b = some (.inr (3, fs))) (hW : (rest.map fun v => v.category).sum ≤ 8) (k : ev_Run G l d 0 0 mNa_isDigit 0 [some (.ref b), none] [] h n (fun v h' n' => ev_Run G l (d + 1) bc bs M (pc + 3) L (ev_psh v rest) h' n' P)) : ev_Run G l (d + 1) bc bs M pc L (.ref b :: rest) h n P :=
  ev_callV (As := []) (mm := 1) hd kNa_isDigit vNa_isDigit wNa_isDigit hl hb rfl rfl rfl hW (Nat.le_of_ble_eq_true rfl) (Nat.zero_add _) (Nat.zero_add _) k
theorem ca_Na_isDigit {G : xG} {l : Launch} {d bc bs bc1 bs1 bc2 bs2 : Nat} {M : xM} {pc i : Nat} {L : List (Option Value)} {rest : List Value} {h : xH} {n : Nat} {P : Option Value → xH → Nat → Prop} {b : Nat} (hd : decode M.2.1 pc = .ok (.invokevirtual i, 3)) (hl : Cond.methodLink M.1.cls i (mNa_isDigit).1 ∈ ev_T) {fs : List Value} (hb : h b = some (.inr (3, fs))) (hW : (rest.map fun v => v.category).sum ≤ 8) (hb1 : bc1 + bc2 = bc) (hb2 : bs1 + bs2 = bs) (k : ev_Run G l d bc1 bs1 mNa_isDigit 0 [some (.ref b), none] [] h n (fun v h' n' => ev_Run G l (d + 1) bc2 bs2 M (pc + 3) L (ev_psh v rest) h' n' P)) : ev_Run G l (d + 1) bc bs M pc L (.ref b :: rest) h n P :=
  ev_callV (As := []) (mm := 1) hd kNa_isDigit vNa_isDigit wNa_isDigit hl hb rfl rfl rfl hW (Nat.le_of_ble_eq_true rfl) hb1 hb2 k
theorem cz_Na_fail {G : xG} {l : Launch} {d bc bs : Nat} {M : xM} {pc i : Nat} {L : List (Option Value)} {rest : List Value} {h : xH} {n : Nat} {P : Option Value → xH → Nat → Prop} {b : Nat} {x0 : Int32} (hd : decode M.2.1 pc = .ok (.invokevirtual i, 3)) (hl : Cond.methodLink M.1.cls i (mNa_fail).1 ∈ ev_T) {fs : List Value} (hb : h b = some (.inr (3, fs))) (hW : (rest.map fun v => v.category).sum ≤ 8) (k : ev_Run G l d 0 0 mNa_fail 0 [some (.ref b), some (.int x0)] [] h n (fun v h' n' => ev_Run G l (d + 1) bc bs M (pc + 3) L (ev_psh v rest) h' n' P)) : ev_Run G l (d + 1) bc bs M pc L (.int x0 :: .ref b :: rest) h n P :=
  ev_callV (As := [.int x0]) (mm := 0) hd kNa_fail vNa_fail wNa_fail hl hb rfl rfl rfl hW (Nat.le_of_ble_eq_true rfl) (Nat.zero_add _) (Nat.zero_add _) k
theorem ca_Na_fail {G : xG} {l : Launch} {d bc bs bc1 bs1 bc2 bs2 : Nat} {M : xM} {pc i : Nat} {L : List (Option Value)} {rest : List Value} {h : xH} {n : Nat} {P : Option Value → xH → Nat → Prop} {b : Nat} {x0 : Int32} (hd : decode M.2.1 pc = .ok (.invokevirtual i, 3)) (hl : Cond.methodLink M.1.cls i (mNa_fail).1 ∈ ev_T) {fs : List Value} (hb : h b = some (.inr (3, fs))) (hW : (rest.map fun v => v.category).sum ≤ 8) (hb1 : bc1 + bc2 = bc) (hb2 : bs1 + bs2 = bs) (k : ev_Run G l d bc1 bs1 mNa_fail 0 [some (.ref b), some (.int x0)] [] h n (fun v h' n' => ev_Run G l (d + 1) bc2 bs2 M (pc + 3) L (ev_psh v rest) h' n' P)) : ev_Run G l (d + 1) bc bs M pc L (.int x0 :: .ref b :: rest) h n P :=
  ev_callV (As := [.int x0]) (mm := 0) hd kNa_fail vNa_fail wNa_fail hl hb rfl rfl rfl hW (Nat.le_of_ble_eq_true rfl) hb1 hb2 k
theorem cz_Na_readSign {G : xG} {l : Launch} {d bc bs : Nat} {M : xM} {pc i : Nat} {L : List (Option Value)} {rest : List Value} {h : xH} {n : Nat} {P : Option Value → xH → Nat → Prop} {b : Nat} {x0 : Int32} (hd : decode M.2.1 pc = .ok (.invokevirtual i, 3)) (hl : Cond.methodLink M.1.cls i (mNa_readSign).1 ∈ ev_T) {fs : List Value} (hb : h b = some (.inr (3, fs))) (hW : (rest.map fun v => v.category).sum ≤ 8) (k : ev_Run G l d 0 0 mNa_readSign 0 [some (.ref b), some (.int x0)] [] h n (fun v h' n' => ev_Run G l (d + 1) bc bs M (pc + 3) L (ev_psh v rest) h' n' P)) : ev_Run G l (d + 1) bc bs M pc L (.int x0 :: .ref b :: rest) h n P :=
  ev_callV (As := [.int x0]) (mm := 0) hd kNa_readSign vNa_readSign wNa_readSign hl hb rfl rfl rfl hW (Nat.le_of_ble_eq_true rfl) (Nat.zero_add _) (Nat.zero_add _) k
theorem ca_Na_readSign {G : xG} {l : Launch} {d bc bs bc1 bs1 bc2 bs2 : Nat} {M : xM} {pc i : Nat} {L : List (Option Value)} {rest : List Value} {h : xH} {n : Nat} {P : Option Value → xH → Nat → Prop} {b : Nat} {x0 : Int32} (hd : decode M.2.1 pc = .ok (.invokevirtual i, 3)) (hl : Cond.methodLink M.1.cls i (mNa_readSign).1 ∈ ev_T) {fs : List Value} (hb : h b = some (.inr (3, fs))) (hW : (rest.map fun v => v.category).sum ≤ 8) (hb1 : bc1 + bc2 = bc) (hb2 : bs1 + bs2 = bs) (k : ev_Run G l d bc1 bs1 mNa_readSign 0 [some (.ref b), some (.int x0)] [] h n (fun v h' n' => ev_Run G l (d + 1) bc2 bs2 M (pc + 3) L (ev_psh v rest) h' n' P)) : ev_Run G l (d + 1) bc bs M pc L (.int x0 :: .ref b :: rest) h n P :=
  ev_callV (As := [.int x0]) (mm := 0) hd kNa_readSign vNa_readSign wNa_readSign hl hb rfl rfl rfl hW (Nat.le_of_ble_eq_true rfl) hb1 hb2 k
theorem cz_Ru_add {G : xG} {l : Launch} {d bc bs : Nat} {M : xM} {pc i : Nat} {L : List (Option Value)} {rest : List Value} {h : xH} {n : Nat} {P : Option Value → xH → Nat → Prop} {b : Nat} {x0 : Int32} {x1 : Int32} {x2 : Int32} {x3 : Int32} (hd : decode M.2.1 pc = .ok (.invokevirtual i, 3)) (hl : Cond.methodLink M.1.cls i (mRu_add).1 ∈ ev_T) {fs : List Value} (hb : h b = some (.inr (4, fs))) (hW : (rest.map fun v => v.category).sum ≤ 8) (k : ev_Run G l d 0 0 mRu_add 0 [some (.ref b), some (.int x0), some (.int x1), some (.int x2), some (.int x3)] [] h n (fun v h' n' => ev_Run G l (d + 1) bc bs M (pc + 3) L (ev_psh v rest) h' n' P)) : ev_Run G l (d + 1) bc bs M pc L (.int x3 :: .int x2 :: .int x1 :: .int x0 :: .ref b :: rest) h n P :=
  ev_callV (As := [.int x0, .int x1, .int x2, .int x3]) (mm := 0) hd kRu_add vRu_add wRu_add hl hb rfl rfl rfl hW (Nat.le_of_ble_eq_true rfl) (Nat.zero_add _) (Nat.zero_add _) k
theorem ca_Ru_add {G : xG} {l : Launch} {d bc bs bc1 bs1 bc2 bs2 : Nat} {M : xM} {pc i : Nat} {L : List (Option Value)} {rest : List Value} {h : xH} {n : Nat} {P : Option Value → xH → Nat → Prop} {b : Nat} {x0 : Int32} {x1 : Int32} {x2 : Int32} {x3 : Int32} (hd : decode M.2.1 pc = .ok (.invokevirtual i, 3)) (hl : Cond.methodLink M.1.cls i (mRu_add).1 ∈ ev_T) {fs : List Value} (hb : h b = some (.inr (4, fs))) (hW : (rest.map fun v => v.category).sum ≤ 8) (hb1 : bc1 + bc2 = bc) (hb2 : bs1 + bs2 = bs) (k : ev_Run G l d bc1 bs1 mRu_add 0 [some (.ref b), some (.int x0), some (.int x1), some (.int x2), some (.int x3)] [] h n (fun v h' n' => ev_Run G l (d + 1) bc2 bs2 M (pc + 3) L (ev_psh v rest) h' n' P)) : ev_Run G l (d + 1) bc bs M pc L (.int x3 :: .int x2 :: .int x1 :: .int x0 :: .ref b :: rest) h n P :=
  ev_callV (As := [.int x0, .int x1, .int x2, .int x3]) (mm := 0) hd kRu_add vRu_add wRu_add hl hb rfl rfl rfl hW (Nat.le_of_ble_eq_true rfl) hb1 hb2 k
theorem cz_By_clear {G : xG} {l : Launch} {d bc bs : Nat} {M : xM} {pc i : Nat} {L : List (Option Value)} {rest : List Value} {h : xH} {n : Nat} {P : Option Value → xH → Nat → Prop} {b : Nat} (hd : decode M.2.1 pc = .ok (.invokevirtual i, 3)) (hl : Cond.methodLink M.1.cls i (mBy_clear).1 ∈ ev_T) {fs : List Value} (hb : h b = some (.inr (0, fs))) (hW : (rest.map fun v => v.category).sum ≤ 8) (k : ev_Run G l d 0 0 mBy_clear 0 [some (.ref b)] [] h n (fun v h' n' => ev_Run G l (d + 1) bc bs M (pc + 3) L (ev_psh v rest) h' n' P)) : ev_Run G l (d + 1) bc bs M pc L (.ref b :: rest) h n P :=
  ev_callV (As := []) (mm := 0) hd kBy_clear vBy_clear wBy_clear hl hb rfl rfl rfl hW (Nat.le_of_ble_eq_true rfl) (Nat.zero_add _) (Nat.zero_add _) k
theorem ca_By_clear {G : xG} {l : Launch} {d bc bs bc1 bs1 bc2 bs2 : Nat} {M : xM} {pc i : Nat} {L : List (Option Value)} {rest : List Value} {h : xH} {n : Nat} {P : Option Value → xH → Nat → Prop} {b : Nat} (hd : decode M.2.1 pc = .ok (.invokevirtual i, 3)) (hl : Cond.methodLink M.1.cls i (mBy_clear).1 ∈ ev_T) {fs : List Value} (hb : h b = some (.inr (0, fs))) (hW : (rest.map fun v => v.category).sum ≤ 8) (hb1 : bc1 + bc2 = bc) (hb2 : bs1 + bs2 = bs) (k : ev_Run G l d bc1 bs1 mBy_clear 0 [some (.ref b)] [] h n (fun v h' n' => ev_Run G l (d + 1) bc2 bs2 M (pc + 3) L (ev_psh v rest) h' n' P)) : ev_Run G l (d + 1) bc bs M pc L (.ref b :: rest) h n P :=
  ev_callV (As := []) (mm := 0) hd kBy_clear vBy_clear wBy_clear hl hb rfl rfl rfl hW (Nat.le_of_ble_eq_true rfl) hb1 hb2 k
theorem cz_Ru_size {G : xG} {l : Launch} {d bc bs : Nat} {M : xM} {pc i : Nat} {L : List (Option Value)} {rest : List Value} {h : xH} {n : Nat} {P : Option Value → xH → Nat → Prop} {b : Nat} (hd : decode M.2.1 pc = .ok (.invokevirtual i, 3)) (hl : Cond.methodLink M.1.cls i (mRu_size).1 ∈ ev_T) {fs : List Value} (hb : h b = some (.inr (4, fs))) (hW : (rest.map fun v => v.category).sum ≤ 8) (k : ev_Run G l d 0 0 mRu_size 0 [some (.ref b)] [] h n (fun v h' n' => ev_Run G l (d + 1) bc bs M (pc + 3) L (ev_psh v rest) h' n' P)) : ev_Run G l (d + 1) bc bs M pc L (.ref b :: rest) h n P :=
  ev_callV (As := []) (mm := 0) hd kRu_size vRu_size wRu_size hl hb rfl rfl rfl hW (Nat.le_of_ble_eq_true rfl) (Nat.zero_add _) (Nat.zero_add _) k
theorem ca_Ru_size {G : xG} {l : Launch} {d bc bs bc1 bs1 bc2 bs2 : Nat} {M : xM} {pc i : Nat} {L : List (Option Value)} {rest : List Value} {h : xH} {n : Nat} {P : Option Value → xH → Nat → Prop} {b : Nat} (hd : decode M.2.1 pc = .ok (.invokevirtual i, 3)) (hl : Cond.methodLink M.1.cls i (mRu_size).1 ∈ ev_T) {fs : List Value} (hb : h b = some (.inr (4, fs))) (hW : (rest.map fun v => v.category).sum ≤ 8) (hb1 : bc1 + bc2 = bc) (hb2 : bs1 + bs2 = bs) (k : ev_Run G l d bc1 bs1 mRu_size 0 [some (.ref b)] [] h n (fun v h' n' => ev_Run G l (d + 1) bc2 bs2 M (pc + 3) L (ev_psh v rest) h' n' P)) : ev_Run G l (d + 1) bc bs M pc L (.ref b :: rest) h n P :=
  ev_callV (As := []) (mm := 0) hd kRu_size vRu_size wRu_size hl hb rfl rfl rfl hW (Nat.le_of_ble_eq_true rfl) hb1 hb2 k
theorem cz_BL_name {G : xG} {l : Launch} {d bc bs : Nat} {M : xM} {pc i : Nat} {L : List (Option Value)} {rest : List Value} {h : xH} {n : Nat} {P : Option Value → xH → Nat → Prop} {b : Nat} {x0 : Int32} {x1 : Int32} {x2 : Int32} (hd : decode M.2.1 pc = .ok (.invokevirtual i, 3)) (hl : Cond.methodLink M.1.cls i (mBL_name).1 ∈ ev_T) {fs : List Value} (hb : h b = some (.inr (7, fs))) (hW : (rest.map fun v => v.category).sum ≤ 8) (k : ev_Run G l d 0 0 mBL_name 0 [some (.ref b), some (.int x0), some (.int x1), some (.int x2), none, none, none, none] [] h n (fun v h' n' => ev_Run G l (d + 1) bc bs M (pc + 3) L (ev_psh v rest) h' n' P)) : ev_Run G l (d + 1) bc bs M pc L (.int x2 :: .int x1 :: .int x0 :: .ref b :: rest) h n P :=
  ev_callV (As := [.int x0, .int x1, .int x2]) (mm := 4) hd kBL_name vBL_name wBL_name hl hb rfl rfl rfl hW (Nat.le_of_ble_eq_true rfl) (Nat.zero_add _) (Nat.zero_add _) k
theorem ca_BL_name {G : xG} {l : Launch} {d bc bs bc1 bs1 bc2 bs2 : Nat} {M : xM} {pc i : Nat} {L : List (Option Value)} {rest : List Value} {h : xH} {n : Nat} {P : Option Value → xH → Nat → Prop} {b : Nat} {x0 : Int32} {x1 : Int32} {x2 : Int32} (hd : decode M.2.1 pc = .ok (.invokevirtual i, 3)) (hl : Cond.methodLink M.1.cls i (mBL_name).1 ∈ ev_T) {fs : List Value} (hb : h b = some (.inr (7, fs))) (hW : (rest.map fun v => v.category).sum ≤ 8) (hb1 : bc1 + bc2 = bc) (hb2 : bs1 + bs2 = bs) (k : ev_Run G l d bc1 bs1 mBL_name 0 [some (.ref b), some (.int x0), some (.int x1), some (.int x2), none, none, none, none] [] h n (fun v h' n' => ev_Run G l (d + 1) bc2 bs2 M (pc + 3) L (ev_psh v rest) h' n' P)) : ev_Run G l (d + 1) bc bs M pc L (.int x2 :: .int x1 :: .int x0 :: .ref b :: rest) h n P :=
  ev_callV (As := [.int x0, .int x1, .int x2]) (mm := 4) hd kBL_name vBL_name wBL_name hl hb rfl rfl rfl hW (Nat.le_of_ble_eq_true rfl) hb1 hb2 k
theorem cz_Ru_inForce {G : xG} {l : Launch} {d bc bs : Nat} {M : xM} {pc i : Nat} {L : List (Option Value)} {rest : List Value} {h : xH} {n : Nat} {P : Option Value → xH → Nat → Prop} {b : Nat} {x0 : Int32} {x1 : Int32} (hd : decode M.2.1 pc = .ok (.invokevirtual i, 3)) (hl : Cond.methodLink M.1.cls i (mRu_inForce).1 ∈ ev_T) {fs : List Value} (hb : h b = some (.inr (4, fs))) (hW : (rest.map fun v => v.category).sum ≤ 8) (k : ev_Run G l d 0 0 mRu_inForce 0 [some (.ref b), some (.int x0), some (.int x1), none, none, none] [] h n (fun v h' n' => ev_Run G l (d + 1) bc bs M (pc + 3) L (ev_psh v rest) h' n' P)) : ev_Run G l (d + 1) bc bs M pc L (.int x1 :: .int x0 :: .ref b :: rest) h n P :=
  ev_callV (As := [.int x0, .int x1]) (mm := 3) hd kRu_inForce vRu_inForce wRu_inForce hl hb rfl rfl rfl hW (Nat.le_of_ble_eq_true rfl) (Nat.zero_add _) (Nat.zero_add _) k
theorem ca_Ru_inForce {G : xG} {l : Launch} {d bc bs bc1 bs1 bc2 bs2 : Nat} {M : xM} {pc i : Nat} {L : List (Option Value)} {rest : List Value} {h : xH} {n : Nat} {P : Option Value → xH → Nat → Prop} {b : Nat} {x0 : Int32} {x1 : Int32} (hd : decode M.2.1 pc = .ok (.invokevirtual i, 3)) (hl : Cond.methodLink M.1.cls i (mRu_inForce).1 ∈ ev_T) {fs : List Value} (hb : h b = some (.inr (4, fs))) (hW : (rest.map fun v => v.category).sum ≤ 8) (hb1 : bc1 + bc2 = bc) (hb2 : bs1 + bs2 = bs) (k : ev_Run G l d bc1 bs1 mRu_inForce 0 [some (.ref b), some (.int x0), some (.int x1), none, none, none] [] h n (fun v h' n' => ev_Run G l (d + 1) bc2 bs2 M (pc + 3) L (ev_psh v rest) h' n' P)) : ev_Run G l (d + 1) bc bs M pc L (.int x1 :: .int x0 :: .ref b :: rest) h n P :=
  ev_callV (As := [.int x0, .int x1]) (mm := 3) hd kRu_inForce vRu_inForce wRu_inForce hl hb rfl rfl rfl hW (Nat.le_of_ble_eq_true rfl) hb1 hb2 k
theorem cz_Ru_allows {G : xG} {l : Launch} {d bc bs : Nat} {M : xM} {pc i : Nat} {L : List (Option Value)} {rest : List Value} {h : xH} {n : Nat} {P : Option Value → xH → Nat → Prop} {b : Nat} {x0 : Int32} {x1 : Int32} (hd : decode M.2.1 pc = .ok (.invokevirtual i, 3)) (hl : Cond.methodLink M.1.cls i (mRu_allows).1 ∈ ev_T) {fs : List Value} (hb : h b = some (.inr (4, fs))) (hW : (rest.map fun v => v.category).sum ≤ 8) (k : ev_Run G l d 0 0 mRu_allows 0 [some (.ref b), some (.int x0), some (.int x1)] [] h n (fun v h' n' => ev_Run G l (d + 1) bc bs M (pc + 3) L (ev_psh v rest) h' n' P)) : ev_Run G l (d + 1) bc bs M pc L (.int x1 :: .int x0 :: .ref b :: rest) h n P :=
  ev_callV (As := [.int x0, .int x1]) (mm := 0) hd kRu_allows vRu_allows wRu_allows hl hb rfl rfl rfl hW (Nat.le_of_ble_eq_true rfl) (Nat.zero_add _) (Nat.zero_add _) k
theorem ca_Ru_allows {G : xG} {l : Launch} {d bc bs bc1 bs1 bc2 bs2 : Nat} {M : xM} {pc i : Nat} {L : List (Option Value)} {rest : List Value} {h : xH} {n : Nat} {P : Option Value → xH → Nat → Prop} {b : Nat} {x0 : Int32} {x1 : Int32} (hd : decode M.2.1 pc = .ok (.invokevirtual i, 3)) (hl : Cond.methodLink M.1.cls i (mRu_allows).1 ∈ ev_T) {fs : List Value} (hb : h b = some (.inr (4, fs))) (hW : (rest.map fun v => v.category).sum ≤ 8) (hb1 : bc1 + bc2 = bc) (hb2 : bs1 + bs2 = bs) (k : ev_Run G l d bc1 bs1 mRu_allows 0 [some (.ref b), some (.int x0), some (.int x1)] [] h n (fun v h' n' => ev_Run G l (d + 1) bc2 bs2 M (pc + 3) L (ev_psh v rest) h' n' P)) : ev_Run G l (d + 1) bc bs M pc L (.int x1 :: .int x0 :: .ref b :: rest) h n P :=
  ev_callV (As := [.int x0, .int x1]) (mm := 0) hd kRu_allows vRu_allows wRu_allows hl hb rfl rfl rfl hW (Nat.le_of_ble_eq_true rfl) hb1 hb2 k
theorem cz_BL_certificate {G : xG} {l : Launch} {d bc bs : Nat} {M : xM} {pc i : Nat} {L : List (Option Value)} {rest : List Value} {h : xH} {n : Nat} {P : Option Value → xH → Nat → Prop} {b : Nat} {x0 : Int32} (hd : decode M.2.1 pc = .ok (.invokevirtual i, 3)) (hl : Cond.methodLink M.1.cls i (mBL_certificate).1 ∈ ev_T) {fs : List Value} (hb : h b = some (.inr (7, fs))) (hW : (rest.map fun v => v.category).sum ≤ 8) (k : ev_Run G l d 0 0 mBL_certificate 0 [some (.ref b), some (.int x0)] [] h n (fun v h' n' => ev_Run G l (d + 1) bc bs M (pc + 3) L (ev_psh v rest) h' n' P)) : ev_Run G l (d + 1) bc bs M pc L (.int x0 :: .ref b :: rest) h n P :=
  ev_callV (As := [.int x0]) (mm := 0) hd kBL_certificate vBL_certificate wBL_certificate hl hb rfl rfl rfl hW (Nat.le_of_ble_eq_true rfl) (Nat.zero_add _) (Nat.zero_add _) k
theorem ca_BL_certificate {G : xG} {l : Launch} {d bc bs bc1 bs1 bc2 bs2 : Nat} {M : xM} {pc i : Nat} {L : List (Option Value)} {rest : List Value} {h : xH} {n : Nat} {P : Option Value → xH → Nat → Prop} {b : Nat} {x0 : Int32} (hd : decode M.2.1 pc = .ok (.invokevirtual i, 3)) (hl : Cond.methodLink M.1.cls i (mBL_certificate).1 ∈ ev_T) {fs : List Value} (hb : h b = some (.inr (7, fs))) (hW : (rest.map fun v => v.category).sum ≤ 8) (hb1 : bc1 + bc2 = bc) (hb2 : bs1 + bs2 = bs) (k : ev_Run G l d bc1 bs1 mBL_certificate 0 [some (.ref b), some (.int x0)] [] h n (fun v h' n' => ev_Run G l (d + 1) bc2 bs2 M (pc + 3) L (ev_psh v rest) h' n' P)) : ev_Run G l (d + 1) bc bs M pc L (.int x0 :: .ref b :: rest) h n P :=
  ev_callV (As := [.int x0]) (mm := 0) hd kBL_certificate vBL_certificate wBL_certificate hl hb rfl rfl rfl hW (Nat.le_of_ble_eq_true rfl) hb1 hb2 k
theorem cz_Le_open {G : xG} {l : Launch} {d bc bs : Nat} {M : xM} {pc i : Nat} {L : List (Option Value)} {rest : List Value} {h : xH} {n : Nat} {P : Option Value → xH → Nat → Prop} {b : Nat} {x0 : Int32} (hd : decode M.2.1 pc = .ok (.invokevirtual i, 3)) (hl : Cond.methodLink M.1.cls i (mLe_open).1 ∈ ev_T) {fs : List Value} (hb : h b = some (.inr (2, fs))) (hW : (rest.map fun v => v.category).sum ≤ 8) (k : ev_Run G l d 0 0 mLe_open 0 [some (.ref b), some (.int x0)] [] h n (fun v h' n' => ev_Run G l (d + 1) bc bs M (pc + 3) L (ev_psh v rest) h' n' P)) : ev_Run G l (d + 1) bc bs M pc L (.int x0 :: .ref b :: rest) h n P :=
  ev_callV (As := [.int x0]) (mm := 0) hd kLe_open vLe_open wLe_open hl hb rfl rfl rfl hW (Nat.le_of_ble_eq_true rfl) (Nat.zero_add _) (Nat.zero_add _) k
theorem ca_Le_open {G : xG} {l : Launch} {d bc bs bc1 bs1 bc2 bs2 : Nat} {M : xM} {pc i : Nat} {L : List (Option Value)} {rest : List Value} {h : xH} {n : Nat} {P : Option Value → xH → Nat → Prop} {b : Nat} {x0 : Int32} (hd : decode M.2.1 pc = .ok (.invokevirtual i, 3)) (hl : Cond.methodLink M.1.cls i (mLe_open).1 ∈ ev_T) {fs : List Value} (hb : h b = some (.inr (2, fs))) (hW : (rest.map fun v => v.category).sum ≤ 8) (hb1 : bc1 + bc2 = bc) (hb2 : bs1 + bs2 = bs) (k : ev_Run G l d bc1 bs1 mLe_open 0 [some (.ref b), some (.int x0)] [] h n (fun v h' n' => ev_Run G l (d + 1) bc2 bs2 M (pc + 3) L (ev_psh v rest) h' n' P)) : ev_Run G l (d + 1) bc bs M pc L (.int x0 :: .ref b :: rest) h n P :=
  ev_callV (As := [.int x0]) (mm := 0) hd kLe_open vLe_open wLe_open hl hb rfl rfl rfl hW (Nat.le_of_ble_eq_true rfl) hb1 hb2 k
theorem cz_BL_credit {G : xG} {l : Launch} {d bc bs : Nat} {M : xM} {pc i : Nat} {L : List (Option Value)} {rest : List Value} {h : xH} {n : Nat} {P : Option Value → xH → Nat → Prop} {b : Nat} {x0 : Int32} {x1 : Int64} {x2 : Int32} (hd : decode M.2.1 pc = .ok (.invokevirtual i, 3)) (hl : Cond.methodLink M.1.cls i (mBL_credit).1 ∈ ev_T) {fs : List Value} (hb : h b = some (.inr (7, fs))) (hW : (rest.map fun v => v.category).sum ≤ 8) (k : ev_Run G l d 0 0 mBL_credit 0 [some (.ref b), some (.int x0), some (.long x1), none, some (.int x2)] [] h n (fun v h' n' => ev_Run G l (d + 1) bc bs M (pc + 3) L (ev_psh v rest) h' n' P)) : ev_Run G l (d + 1) bc bs M pc L (.int x2 :: .long x1 :: .int x0 :: .ref b :: rest) h n P :=
  ev_callV (As := [.int x0, .long x1, .int x2]) (mm := 0) hd kBL_credit vBL_credit wBL_credit hl hb rfl rfl rfl hW (Nat.le_of_ble_eq_true rfl) (Nat.zero_add _) (Nat.zero_add _) k
theorem ca_BL_credit {G : xG} {l : Launch} {d bc bs bc1 bs1 bc2 bs2 : Nat} {M : xM} {pc i : Nat} {L : List (Option Value)} {rest : List Value} {h : xH} {n : Nat} {P : Option Value → xH → Nat → Prop} {b : Nat} {x0 : Int32} {x1 : Int64} {x2 : Int32} (hd : decode M.2.1 pc = .ok (.invokevirtual i, 3)) (hl : Cond.methodLink M.1.cls i (mBL_credit).1 ∈ ev_T) {fs : List Value} (hb : h b = some (.inr (7, fs))) (hW : (rest.map fun v => v.category).sum ≤ 8) (hb1 : bc1 + bc2 = bc) (hb2 : bs1 + bs2 = bs) (k : ev_Run G l d bc1 bs1 mBL_credit 0 [some (.ref b), some (.int x0), some (.long x1), none, some (.int x2)] [] h n (fun v h' n' => ev_Run G l (d + 1) bc2 bs2 M (pc + 3) L (ev_psh v rest) h' n' P)) : ev_Run G l (d + 1) bc bs M pc L (.int x2 :: .long x1 :: .int x0 :: .ref b :: rest) h n P :=
  ev_callV (As := [.int x0, .long x1, .int x2]) (mm := 0) hd kBL_credit vBL_credit wBL_credit hl hb rfl rfl rfl hW (Nat.le_of_ble_eq_true rfl) hb1 hb2 k
theorem cz_BL_canEnter {G : xG} {l : Launch} {d bc bs : Nat} {M : xM} {pc i : Nat} {L : List (Option Value)} {rest : List Value} {h : xH} {n : Nat} {P : Option Value → xH → Nat → Prop} {b : Nat} {x0 : Int32} {x1 : Int64} {x2 : Int32} (hd : decode M.2.1 pc = .ok (.invokevirtual i, 3)) (hl : Cond.methodLink M.1.cls i (mBL_canEnter).1 ∈ ev_T) {fs : List Value} (hb : h b = some (.inr (7, fs))) (hW : (rest.map fun v => v.category).sum ≤ 8) (k : ev_Run G l d 0 0 mBL_canEnter 0 [some (.ref b), some (.int x0), some (.long x1), none, some (.int x2)] [] h n (fun v h' n' => ev_Run G l (d + 1) bc bs M (pc + 3) L (ev_psh v rest) h' n' P)) : ev_Run G l (d + 1) bc bs M pc L (.int x2 :: .long x1 :: .int x0 :: .ref b :: rest) h n P :=
  ev_callV (As := [.int x0, .long x1, .int x2]) (mm := 0) hd kBL_canEnter vBL_canEnter wBL_canEnter hl hb rfl rfl rfl hW (Nat.le_of_ble_eq_true rfl) (Nat.zero_add _) (Nat.zero_add _) k
theorem ca_BL_canEnter {G : xG} {l : Launch} {d bc bs bc1 bs1 bc2 bs2 : Nat} {M : xM} {pc i : Nat} {L : List (Option Value)} {rest : List Value} {h : xH} {n : Nat} {P : Option Value → xH → Nat → Prop} {b : Nat} {x0 : Int32} {x1 : Int64} {x2 : Int32} (hd : decode M.2.1 pc = .ok (.invokevirtual i, 3)) (hl : Cond.methodLink M.1.cls i (mBL_canEnter).1 ∈ ev_T) {fs : List Value} (hb : h b = some (.inr (7, fs))) (hW : (rest.map fun v => v.category).sum ≤ 8) (hb1 : bc1 + bc2 = bc) (hb2 : bs1 + bs2 = bs) (k : ev_Run G l d bc1 bs1 mBL_canEnter 0 [some (.ref b), some (.int x0), some (.long x1), none, some (.int x2)] [] h n (fun v h' n' => ev_Run G l (d + 1) bc2 bs2 M (pc + 3) L (ev_psh v rest) h' n' P)) : ev_Run G l (d + 1) bc bs M pc L (.int x2 :: .long x1 :: .int x0 :: .ref b :: rest) h n P :=
  ev_callV (As := [.int x0, .long x1, .int x2]) (mm := 0) hd kBL_canEnter vBL_canEnter wBL_canEnter hl hb rfl rfl rfl hW (Nat.le_of_ble_eq_true rfl) hb1 hb2 k
theorem cz_Le_has {G : xG} {l : Launch} {d bc bs : Nat} {M : xM} {pc i : Nat} {L : List (Option Value)} {rest : List Value} {h : xH} {n : Nat} {P : Option Value → xH → Nat → Prop} {b : Nat} {x0 : Int32} (hd : decode M.2.1 pc = .ok (.invokevirtual i, 3)) (hl : Cond.methodLink M.1.cls i (mLe_has).1 ∈ ev_T) {fs : List Value} (hb : h b = some (.inr (2, fs))) (hW : (rest.map fun v => v.category).sum ≤ 8) (k : ev_Run G l d 0 0 mLe_has 0 [some (.ref b), some (.int x0)] [] h n (fun v h' n' => ev_Run G l (d + 1) bc bs M (pc + 3) L (ev_psh v rest) h' n' P)) : ev_Run G l (d + 1) bc bs M pc L (.int x0 :: .ref b :: rest) h n P :=
  ev_callV (As := [.int x0]) (mm := 0) hd kLe_has vLe_has wLe_has hl hb rfl rfl rfl hW (Nat.le_of_ble_eq_true rfl) (Nat.zero_add _) (Nat.zero_add _) k
theorem ca_Le_has {G : xG} {l : Launch} {d bc bs bc1 bs1 bc2 bs2 : Nat} {M : xM} {pc i : Nat} {L : List (Option Value)} {rest : List Value} {h : xH} {n : Nat} {P : Option Value → xH → Nat → Prop} {b : Nat} {x0 : Int32} (hd : decode M.2.1 pc = .ok (.invokevirtual i, 3)) (hl : Cond.methodLink M.1.cls i (mLe_has).1 ∈ ev_T) {fs : List Value} (hb : h b = some (.inr (2, fs))) (hW : (rest.map fun v => v.category).sum ≤ 8) (hb1 : bc1 + bc2 = bc) (hb2 : bs1 + bs2 = bs) (k : ev_Run G l d bc1 bs1 mLe_has 0 [some (.ref b), some (.int x0)] [] h n (fun v h' n' => ev_Run G l (d + 1) bc2 bs2 M (pc + 3) L (ev_psh v rest) h' n' P)) : ev_Run G l (d + 1) bc bs M pc L (.int x0 :: .ref b :: rest) h n P :=
  ev_callV (As := [.int x0]) (mm := 0) hd kLe_has vLe_has wLe_has hl hb rfl rfl rfl hW (Nat.le_of_ble_eq_true rfl) hb1 hb2 k
theorem cz_Le_isFull {G : xG} {l : Launch} {d bc bs : Nat} {M : xM} {pc i : Nat} {L : List (Option Value)} {rest : List Value} {h : xH} {n : Nat} {P : Option Value → xH → Nat → Prop} {b : Nat} (hd : decode M.2.1 pc = .ok (.invokevirtual i, 3)) (hl : Cond.methodLink M.1.cls i (mLe_isFull).1 ∈ ev_T) {fs : List Value} (hb : h b = some (.inr (2, fs))) (hW : (rest.map fun v => v.category).sum ≤ 8) (k : ev_Run G l d 0 0 mLe_isFull 0 [some (.ref b)] [] h n (fun v h' n' => ev_Run G l (d + 1) bc bs M (pc + 3) L (ev_psh v rest) h' n' P)) : ev_Run G l (d + 1) bc bs M pc L (.ref b :: rest) h n P :=
  ev_callV (As := []) (mm := 0) hd kLe_isFull vLe_isFull wLe_isFull hl hb rfl rfl rfl hW (Nat.le_of_ble_eq_true rfl) (Nat.zero_add _) (Nat.zero_add _) k
theorem ca_Le_isFull {G : xG} {l : Launch} {d bc bs bc1 bs1 bc2 bs2 : Nat} {M : xM} {pc i : Nat} {L : List (Option Value)} {rest : List Value} {h : xH} {n : Nat} {P : Option Value → xH → Nat → Prop} {b : Nat} (hd : decode M.2.1 pc = .ok (.invokevirtual i, 3)) (hl : Cond.methodLink M.1.cls i (mLe_isFull).1 ∈ ev_T) {fs : List Value} (hb : h b = some (.inr (2, fs))) (hW : (rest.map fun v => v.category).sum ≤ 8) (hb1 : bc1 + bc2 = bc) (hb2 : bs1 + bs2 = bs) (k : ev_Run G l d bc1 bs1 mLe_isFull 0 [some (.ref b)] [] h n (fun v h' n' => ev_Run G l (d + 1) bc2 bs2 M (pc + 3) L (ev_psh v rest) h' n' P)) : ev_Run G l (d + 1) bc bs M pc L (.ref b :: rest) h n P :=
  ev_callV (As := []) (mm := 0) hd kLe_isFull vLe_isFull wLe_isFull hl hb rfl rfl rfl hW (Nat.le_of_ble_eq_true rfl) hb1 hb2 k
theorem cz_Le_enter {G : xG} {l : Launch} {d bc bs : Nat} {M : xM} {pc i : Nat} {L : List (Option Value)} {rest : List Value} {h : xH} {n : Nat} {P : Option Value → xH → Nat → Prop} {b : Nat} {x0 : Int32} {x1 : Int64} {x2 : Int32} (hd : decode M.2.1 pc = .ok (.invokevirtual i, 3)) (hl : Cond.methodLink M.1.cls i (mLe_enter).1 ∈ ev_T) {fs : List Value} (hb : h b = some (.inr (2, fs))) (hW : (rest.map fun v => v.category).sum ≤ 8) (k : ev_Run G l d 0 0 mLe_enter 0 [some (.ref b), some (.int x0), some (.long x1), none, some (.int x2)] [] h n (fun v h' n' => ev_Run G l (d + 1) bc bs M (pc + 3) L (ev_psh v rest) h' n' P)) : ev_Run G l (d + 1) bc bs M pc L (.int x2 :: .long x1 :: .int x0 :: .ref b :: rest) h n P :=
  ev_callV (As := [.int x0, .long x1, .int x2]) (mm := 0) hd kLe_enter vLe_enter wLe_enter hl hb rfl rfl rfl hW (Nat.le_of_ble_eq_true rfl) (Nat.zero_add _) (Nat.zero_add _) k
theorem ca_Le_enter {G : xG} {l : Launch} {d bc bs bc1 bs1 bc2 bs2 : Nat} {M : xM} {pc i : Nat} {L : List (Option Value)} {rest : List Value} {h : xH} {n : Nat} {P : Option Value → xH → Nat → Prop} {b : Nat} {x0 : Int32} {x1 : Int64} {x2 : Int32} (hd : decode M.2.1 pc = .ok (.invokevirtual i, 3)) (hl : Cond.methodLink M.1.cls i (mLe_enter).1 ∈ ev_T) {fs : List Value} (hb : h b = some (.inr (2, fs))) (hW : (rest.map fun v => v.category).sum ≤ 8) (hb1 : bc1 + bc2 = bc) (hb2 : bs1 + bs2 = bs) (k : ev_Run G l d bc1 bs1 mLe_enter 0 [some (.ref b), some (.int x0), some (.long x1), none, some (.int x2)] [] h n (fun v h' n' => ev_Run G l (d + 1) bc2 bs2 M (pc + 3) L (ev_psh v rest) h' n' P)) : ev_Run G l (d + 1) bc bs M pc L (.int x2 :: .long x1 :: .int x0 :: .ref b :: rest) h n P :=
  ev_callV (As := [.int x0, .long x1, .int x2]) (mm := 0) hd kLe_enter vLe_enter wLe_enter hl hb rfl rfl rfl hW (Nat.le_of_ble_eq_true rfl) hb1 hb2 k
theorem cz_BL_claim {G : xG} {l : Launch} {d bc bs : Nat} {M : xM} {pc i : Nat} {L : List (Option Value)} {rest : List Value} {h : xH} {n : Nat} {P : Option Value → xH → Nat → Prop} {b : Nat} {x0 : Int32} {x1 : Int64} {x2 : Int32} (hd : decode M.2.1 pc = .ok (.invokevirtual i, 3)) (hl : Cond.methodLink M.1.cls i (mBL_claim).1 ∈ ev_T) {fs : List Value} (hb : h b = some (.inr (7, fs))) (hW : (rest.map fun v => v.category).sum ≤ 8) (k : ev_Run G l d 0 0 mBL_claim 0 [some (.ref b), some (.int x0), some (.long x1), none, some (.int x2)] [] h n (fun v h' n' => ev_Run G l (d + 1) bc bs M (pc + 3) L (ev_psh v rest) h' n' P)) : ev_Run G l (d + 1) bc bs M pc L (.int x2 :: .long x1 :: .int x0 :: .ref b :: rest) h n P :=
  ev_callV (As := [.int x0, .long x1, .int x2]) (mm := 0) hd kBL_claim vBL_claim wBL_claim hl hb rfl rfl rfl hW (Nat.le_of_ble_eq_true rfl) (Nat.zero_add _) (Nat.zero_add _) k
theorem ca_BL_claim {G : xG} {l : Launch} {d bc bs bc1 bs1 bc2 bs2 : Nat} {M : xM} {pc i : Nat} {L : List (Option Value)} {rest : List Value} {h : xH} {n : Nat} {P : Option Value → xH → Nat → Prop} {b : Nat} {x0 : Int32} {x1 : Int64} {x2 : Int32} (hd : decode M.2.1 pc = .ok (.invokevirtual i, 3)) (hl : Cond.methodLink M.1.cls i (mBL_claim).1 ∈ ev_T) {fs : List Value} (hb : h b = some (.inr (7, fs))) (hW : (rest.map fun v => v.category).sum ≤ 8) (hb1 : bc1 + bc2 = bc) (hb2 : bs1 + bs2 = bs) (k : ev_Run G l d bc1 bs1 mBL_claim 0 [some (.ref b), some (.int x0), some (.long x1), none, some (.int x2)] [] h n (fun v h' n' => ev_Run G l (d + 1) bc2 bs2 M (pc + 3) L (ev_psh v rest) h' n' P)) : ev_Run G l (d + 1) bc bs M pc L (.int x2 :: .long x1 :: .int x0 :: .ref b :: rest) h n P :=
  ev_callV (As := [.int x0, .long x1, .int x2]) (mm := 0) hd kBL_claim vBL_claim wBL_claim hl hb rfl rfl rfl hW (Nat.le_of_ble_eq_true rfl) hb1 hb2 k
theorem cz_Le_isOver {G : xG} {l : Launch} {d bc bs : Nat} {M : xM} {pc i : Nat} {L : List (Option Value)} {rest : List Value} {h : xH} {n : Nat} {P : Option Value → xH → Nat → Prop} {b : Nat} {x0 : Int32} {x1 : Int32} (hd : decode M.2.1 pc = .ok (.invokevirtual i, 3)) (hl : Cond.methodLink M.1.cls i (mLe_isOver).1 ∈ ev_T) {fs : List Value} (hb : h b = some (.inr (2, fs))) (hW : (rest.map fun v => v.category).sum ≤ 8) (k : ev_Run G l d 0 0 mLe_isOver 0 [some (.ref b), some (.int x0), some (.int x1)] [] h n (fun v h' n' => ev_Run G l (d + 1) bc bs M (pc + 3) L (ev_psh v rest) h' n' P)) : ev_Run G l (d + 1) bc bs M pc L (.int x1 :: .int x0 :: .ref b :: rest) h n P :=
  ev_callV (As := [.int x0, .int x1]) (mm := 0) hd kLe_isOver vLe_isOver wLe_isOver hl hb rfl rfl rfl hW (Nat.le_of_ble_eq_true rfl) (Nat.zero_add _) (Nat.zero_add _) k
theorem ca_Le_isOver {G : xG} {l : Launch} {d bc bs bc1 bs1 bc2 bs2 : Nat} {M : xM} {pc i : Nat} {L : List (Option Value)} {rest : List Value} {h : xH} {n : Nat} {P : Option Value → xH → Nat → Prop} {b : Nat} {x0 : Int32} {x1 : Int32} (hd : decode M.2.1 pc = .ok (.invokevirtual i, 3)) (hl : Cond.methodLink M.1.cls i (mLe_isOver).1 ∈ ev_T) {fs : List Value} (hb : h b = some (.inr (2, fs))) (hW : (rest.map fun v => v.category).sum ≤ 8) (hb1 : bc1 + bc2 = bc) (hb2 : bs1 + bs2 = bs) (k : ev_Run G l d bc1 bs1 mLe_isOver 0 [some (.ref b), some (.int x0), some (.int x1)] [] h n (fun v h' n' => ev_Run G l (d + 1) bc2 bs2 M (pc + 3) L (ev_psh v rest) h' n' P)) : ev_Run G l (d + 1) bc bs M pc L (.int x1 :: .int x0 :: .ref b :: rest) h n P :=
  ev_callV (As := [.int x0, .int x1]) (mm := 0) hd kLe_isOver vLe_isOver wLe_isOver hl hb rfl rfl rfl hW (Nat.le_of_ble_eq_true rfl) hb1 hb2 k
theorem cz_Le_covers {G : xG} {l : Launch} {d bc bs : Nat} {M : xM} {pc i : Nat} {L : List (Option Value)} {rest : List Value} {h : xH} {n : Nat} {P : Option Value → xH → Nat → Prop} {b : Nat} {x0 : Int32} {x1 : Int64} {x2 : Int32} (hd : decode M.2.1 pc = .ok (.invokevirtual i, 3)) (hl : Cond.methodLink M.1.cls i (mLe_covers).1 ∈ ev_T) {fs : List Value} (hb : h b = some (.inr (2, fs))) (hW : (rest.map fun v => v.category).sum ≤ 8) (k : ev_Run G l d 0 0 mLe_covers 0 [some (.ref b), some (.int x0), some (.long x1), none, some (.int x2), none, none] [] h n (fun v h' n' => ev_Run G l (d + 1) bc bs M (pc + 3) L (ev_psh v rest) h' n' P)) : ev_Run G l (d + 1) bc bs M pc L (.int x2 :: .long x1 :: .int x0 :: .ref b :: rest) h n P :=
  ev_callV (As := [.int x0, .long x1, .int x2]) (mm := 2) hd kLe_covers vLe_covers wLe_covers hl hb rfl rfl rfl hW (Nat.le_of_ble_eq_true rfl) (Nat.zero_add _) (Nat.zero_add _) k
theorem ca_Le_covers {G : xG} {l : Launch} {d bc bs bc1 bs1 bc2 bs2 : Nat} {M : xM} {pc i : Nat} {L : List (Option Value)} {rest : List Value} {h : xH} {n : Nat} {P : Option Value → xH → Nat → Prop} {b : Nat} {x0 : Int32} {x1 : Int64} {x2 : Int32} (hd : decode M.2.1 pc = .ok (.invokevirtual i, 3)) (hl : Cond.methodLink M.1.cls i (mLe_covers).1 ∈ ev_T) {fs : List Value} (hb : h b = some (.inr (2, fs))) (hW : (rest.map fun v => v.category).sum ≤ 8) (hb1 : bc1 + bc2 = bc) (hb2 : bs1 + bs2 = bs) (k : ev_Run G l d bc1 bs1 mLe_covers 0 [some (.ref b), some (.int x0), some (.long x1), none, some (.int x2), none, none] [] h n (fun v h' n' => ev_Run G l (d + 1) bc2 bs2 M (pc + 3) L (ev_psh v rest) h' n' P)) : ev_Run G l (d + 1) bc bs M pc L (.int x2 :: .long x1 :: .int x0 :: .ref b :: rest) h n P :=
  ev_callV (As := [.int x0, .long x1, .int x2]) (mm := 2) hd kLe_covers vLe_covers wLe_covers hl hb rfl rfl rfl hW (Nat.le_of_ble_eq_true rfl) hb1 hb2 k
theorem cz_Le_sumUpTo {G : xG} {l : Launch} {d bc bs : Nat} {M : xM} {pc i : Nat} {L : List (Option Value)} {rest : List Value} {h : xH} {n : Nat} {P : Option Value → xH → Nat → Prop} {b : Nat} {x0 : Int32} {x1 : Int32} (hd : decode M.2.1 pc = .ok (.invokevirtual i, 3)) (hl : Cond.methodLink M.1.cls i (mLe_sumUpTo).1 ∈ ev_T) {fs : List Value} (hb : h b = some (.inr (2, fs))) (hW : (rest.map fun v => v.category).sum ≤ 8) (k : ev_Run G l d 0 0 mLe_sumUpTo 0 [some (.ref b), some (.int x0), some (.int x1), none, none, none] [] h n (fun v h' n' => ev_Run G l (d + 1) bc bs M (pc + 3) L (ev_psh v rest) h' n' P)) : ev_Run G l (d + 1) bc bs M pc L (.int x1 :: .int x0 :: .ref b :: rest) h n P :=
  ev_callV (As := [.int x0, .int x1]) (mm := 3) hd kLe_sumUpTo vLe_sumUpTo wLe_sumUpTo hl hb rfl rfl rfl hW (Nat.le_of_ble_eq_true rfl) (Nat.zero_add _) (Nat.zero_add _) k
theorem ca_Le_sumUpTo {G : xG} {l : Launch} {d bc bs bc1 bs1 bc2 bs2 : Nat} {M : xM} {pc i : Nat} {L : List (Option Value)} {rest : List Value} {h : xH} {n : Nat} {P : Option Value → xH → Nat → Prop} {b : Nat} {x0 : Int32} {x1 : Int32} (hd : decode M.2.1 pc = .ok (.invokevirtual i, 3)) (hl : Cond.methodLink M.1.cls i (mLe_sumUpTo).1 ∈ ev_T) {fs : List Value} (hb : h b = some (.inr (2, fs))) (hW : (rest.map fun v => v.category).sum ≤ 8) (hb1 : bc1 + bc2 = bc) (hb2 : bs1 + bs2 = bs) (k : ev_Run G l d bc1 bs1 mLe_sumUpTo 0 [some (.ref b), some (.int x0), some (.int x1), none, none, none] [] h n (fun v h' n' => ev_Run G l (d + 1) bc2 bs2 M (pc + 3) L (ev_psh v rest) h' n' P)) : ev_Run G l (d + 1) bc bs M pc L (.int x1 :: .int x0 :: .ref b :: rest) h n P :=
  ev_callV (As := [.int x0, .int x1]) (mm := 3) hd kLe_sumUpTo vLe_sumUpTo wLe_sumUpTo hl hb rfl rfl rfl hW (Nat.le_of_ble_eq_true rfl) hb1 hb2 k
theorem cz_BL_balance {G : xG} {l : Launch} {d bc bs : Nat} {M : xM} {pc i : Nat} {L : List (Option Value)} {rest : List Value} {h : xH} {n : Nat} {P : Option Value → xH → Nat → Prop} {b : Nat} {x0 : Int32} {x1 : Int32} (hd : decode M.2.1 pc = .ok (.invokevirtual i, 3)) (hl : Cond.methodLink M.1.cls i (mBL_balance).1 ∈ ev_T) {fs : List Value} (hb : h b = some (.inr (7, fs))) (hW : (rest.map fun v => v.category).sum ≤ 8) (k : ev_Run G l d 0 0 mBL_balance 0 [some (.ref b), some (.int x0), some (.int x1)] [] h n (fun v h' n' => ev_Run G l (d + 1) bc bs M (pc + 3) L (ev_psh v rest) h' n' P)) : ev_Run G l (d + 1) bc bs M pc L (.int x1 :: .int x0 :: .ref b :: rest) h n P :=
  ev_callV (As := [.int x0, .int x1]) (mm := 0) hd kBL_balance vBL_balance wBL_balance hl hb rfl rfl rfl hW (Nat.le_of_ble_eq_true rfl) (Nat.zero_add _) (Nat.zero_add _) k
theorem ca_BL_balance {G : xG} {l : Launch} {d bc bs bc1 bs1 bc2 bs2 : Nat} {M : xM} {pc i : Nat} {L : List (Option Value)} {rest : List Value} {h : xH} {n : Nat} {P : Option Value → xH → Nat → Prop} {b : Nat} {x0 : Int32} {x1 : Int32} (hd : decode M.2.1 pc = .ok (.invokevirtual i, 3)) (hl : Cond.methodLink M.1.cls i (mBL_balance).1 ∈ ev_T) {fs : List Value} (hb : h b = some (.inr (7, fs))) (hW : (rest.map fun v => v.category).sum ≤ 8) (hb1 : bc1 + bc2 = bc) (hb2 : bs1 + bs2 = bs) (k : ev_Run G l d bc1 bs1 mBL_balance 0 [some (.ref b), some (.int x0), some (.int x1)] [] h n (fun v h' n' => ev_Run G l (d + 1) bc2 bs2 M (pc + 3) L (ev_psh v rest) h' n' P)) : ev_Run G l (d + 1) bc bs M pc L (.int x1 :: .int x0 :: .ref b :: rest) h n P :=
  ev_callV (As := [.int x0, .int x1]) (mm := 0) hd kBL_balance vBL_balance wBL_balance hl hb rfl rfl rfl hW (Nat.le_of_ble_eq_true rfl) hb1 hb2 k
theorem cz_BL_warm {G : xG} {l : Launch} {d bc bs : Nat} {M : xM} {pc i : Nat} {L : List (Option Value)} {rest : List Value} {h : xH} {n : Nat} {P : Option Value → xH → Nat → Prop} {b : Nat} {x0 : Int32} {x1 : Int32} (hd : decode M.2.1 pc = .ok (.invokevirtual i, 3)) (hl : Cond.methodLink M.1.cls i (mBL_warm).1 ∈ ev_T) {fs : List Value} (hb : h b = some (.inr (7, fs))) (hW : (rest.map fun v => v.category).sum ≤ 8) (k : ev_Run G l d 0 0 mBL_warm 0 [some (.ref b), some (.int x0), some (.int x1), none] [] h n (fun v h' n' => ev_Run G l (d + 1) bc bs M (pc + 3) L (ev_psh v rest) h' n' P)) : ev_Run G l (d + 1) bc bs M pc L (.int x1 :: .int x0 :: .ref b :: rest) h n P :=
  ev_callV (As := [.int x0, .int x1]) (mm := 1) hd kBL_warm vBL_warm wBL_warm hl hb rfl rfl rfl hW (Nat.le_of_ble_eq_true rfl) (Nat.zero_add _) (Nat.zero_add _) k
theorem ca_BL_warm {G : xG} {l : Launch} {d bc bs bc1 bs1 bc2 bs2 : Nat} {M : xM} {pc i : Nat} {L : List (Option Value)} {rest : List Value} {h : xH} {n : Nat} {P : Option Value → xH → Nat → Prop} {b : Nat} {x0 : Int32} {x1 : Int32} (hd : decode M.2.1 pc = .ok (.invokevirtual i, 3)) (hl : Cond.methodLink M.1.cls i (mBL_warm).1 ∈ ev_T) {fs : List Value} (hb : h b = some (.inr (7, fs))) (hW : (rest.map fun v => v.category).sum ≤ 8) (hb1 : bc1 + bc2 = bc) (hb2 : bs1 + bs2 = bs) (k : ev_Run G l d bc1 bs1 mBL_warm 0 [some (.ref b), some (.int x0), some (.int x1), none] [] h n (fun v h' n' => ev_Run G l (d + 1) bc2 bs2 M (pc + 3) L (ev_psh v rest) h' n' P)) : ev_Run G l (d + 1) bc bs M pc L (.int x1 :: .int x0 :: .ref b :: rest) h n P :=
  ev_callV (As := [.int x0, .int x1]) (mm := 1) hd kBL_warm vBL_warm wBL_warm hl hb rfl rfl rfl hW (Nat.le_of_ble_eq_true rfl) hb1 hb2 k
theorem cz_BL_paper {G : xG} {l : Launch} {d bc bs : Nat} {M : xM} {pc i : Nat} {L : List (Option Value)} {rest : List Value} {h : xH} {n : Nat} {P : Option Value → xH → Nat → Prop} {b : Nat} {x0 : Int32} {x1 : Int32} {x2 : Int32} (hd : decode M.2.1 pc = .ok (.invokevirtual i, 3)) (hl : Cond.methodLink M.1.cls i (mBL_paper).1 ∈ ev_T) {fs : List Value} (hb : h b = some (.inr (7, fs))) (hW : (rest.map fun v => v.category).sum ≤ 8) (k : ev_Run G l d 0 0 mBL_paper 0 [some (.ref b), some (.int x0), some (.int x1), some (.int x2), none, none] [] h n (fun v h' n' => ev_Run G l (d + 1) bc bs M (pc + 3) L (ev_psh v rest) h' n' P)) : ev_Run G l (d + 1) bc bs M pc L (.int x2 :: .int x1 :: .int x0 :: .ref b :: rest) h n P :=
  ev_callV (As := [.int x0, .int x1, .int x2]) (mm := 2) hd kBL_paper vBL_paper wBL_paper hl hb rfl rfl rfl hW (Nat.le_of_ble_eq_true rfl) (Nat.zero_add _) (Nat.zero_add _) k
theorem ca_BL_paper {G : xG} {l : Launch} {d bc bs bc1 bs1 bc2 bs2 : Nat} {M : xM} {pc i : Nat} {L : List (Option Value)} {rest : List Value} {h : xH} {n : Nat} {P : Option Value → xH → Nat → Prop} {b : Nat} {x0 : Int32} {x1 : Int32} {x2 : Int32} (hd : decode M.2.1 pc = .ok (.invokevirtual i, 3)) (hl : Cond.methodLink M.1.cls i (mBL_paper).1 ∈ ev_T) {fs : List Value} (hb : h b = some (.inr (7, fs))) (hW : (rest.map fun v => v.category).sum ≤ 8) (hb1 : bc1 + bc2 = bc) (hb2 : bs1 + bs2 = bs) (k : ev_Run G l d bc1 bs1 mBL_paper 0 [some (.ref b), some (.int x0), some (.int x1), some (.int x2), none, none] [] h n (fun v h' n' => ev_Run G l (d + 1) bc2 bs2 M (pc + 3) L (ev_psh v rest) h' n' P)) : ev_Run G l (d + 1) bc bs M pc L (.int x2 :: .int x1 :: .int x0 :: .ref b :: rest) h n P :=
  ev_callV (As := [.int x0, .int x1, .int x2]) (mm := 2) hd kBL_paper vBL_paper wBL_paper hl hb rfl rfl rfl hW (Nat.le_of_ble_eq_true rfl) hb1 hb2 k
theorem cz_By_putNumber {G : xG} {l : Launch} {d bc bs : Nat} {M : xM} {pc i : Nat} {L : List (Option Value)} {rest : List Value} {h : xH} {n : Nat} {P : Option Value → xH → Nat → Prop} {b : Nat} {x0 : Int64} (hd : decode M.2.1 pc = .ok (.invokevirtual i, 3)) (hl : Cond.methodLink M.1.cls i (mBy_putNumber).1 ∈ ev_T) {fs : List Value} (hb : h b = some (.inr (0, fs))) (hW : (rest.map fun v => v.category).sum ≤ 8) (k : ev_Run G l d 0 0 mBy_putNumber 0 [some (.ref b), some (.long x0), none, none, none, none, none] [] h n (fun v h' n' => ev_Run G l (d + 1) bc bs M (pc + 3) L (ev_psh v rest) h' n' P)) : ev_Run G l (d + 1) bc bs M pc L (.long x0 :: .ref b :: rest) h n P :=
  ev_callV (As := [.long x0]) (mm := 4) hd kBy_putNumber vBy_putNumber wBy_putNumber hl hb rfl rfl rfl hW (Nat.le_of_ble_eq_true rfl) (Nat.zero_add _) (Nat.zero_add _) k
theorem ca_By_putNumber {G : xG} {l : Launch} {d bc bs bc1 bs1 bc2 bs2 : Nat} {M : xM} {pc i : Nat} {L : List (Option Value)} {rest : List Value} {h : xH} {n : Nat} {P : Option Value → xH → Nat → Prop} {b : Nat} {x0 : Int64} (hd : decode M.2.1 pc = .ok (.invokevirtual i, 3)) (hl : Cond.methodLink M.1.cls i (mBy_putNumber).1 ∈ ev_T) {fs : List Value} (hb : h b = some (.inr (0, fs))) (hW : (rest.map fun v => v.category).sum ≤ 8) (hb1 : bc1 + bc2 = bc) (hb2 : bs1 + bs2 = bs) (k : ev_Run G l d bc1 bs1 mBy_putNumber 0 [some (.ref b), some (.long x0), none, none, none, none, none] [] h n (fun v h' n' => ev_Run G l (d + 1) bc2 bs2 M (pc + 3) L (ev_psh v rest) h' n' P)) : ev_Run G l (d + 1) bc bs M pc L (.long x0 :: .ref b :: rest) h n P :=
  ev_callV (As := [.long x0]) (mm := 4) hd kBy_putNumber vBy_putNumber wBy_putNumber hl hb rfl rfl rfl hW (Nat.le_of_ble_eq_true rfl) hb1 hb2 k
theorem cz_By_digitsOf {G : xG} {l : Launch} {d bc bs : Nat} {M : xM} {pc i : Nat} {L : List (Option Value)} {rest : List Value} {h : xH} {n : Nat} {P : Option Value → xH → Nat → Prop} {x0 : Int64} (hd : decode M.2.1 pc = .ok (.invokestatic i, 3)) (hl : Cond.methodLink M.1.cls i (mBy_digitsOf).1 ∈ ev_T) (hW : (rest.map fun v => v.category).sum ≤ 8) (k : ev_Run G l d 0 0 mBy_digitsOf 0 [some (.long x0), none, none, none, none] [] h n (fun v h' n' => ev_Run G l (d + 1) bc bs M (pc + 3) L (ev_psh v rest) h' n' P)) : ev_Run G l (d + 1) bc bs M pc L (.long x0 :: rest) h n P :=
  ev_callS (As := [.long x0]) (mm := 3) hd kBy_digitsOf sBy_digitsOf hl rfl rfl hW (Nat.le_of_ble_eq_true rfl) (Nat.zero_add _) (Nat.zero_add _) k
theorem ca_By_digitsOf {G : xG} {l : Launch} {d bc bs bc1 bs1 bc2 bs2 : Nat} {M : xM} {pc i : Nat} {L : List (Option Value)} {rest : List Value} {h : xH} {n : Nat} {P : Option Value → xH → Nat → Prop} {x0 : Int64} (hd : decode M.2.1 pc = .ok (.invokestatic i, 3)) (hl : Cond.methodLink M.1.cls i (mBy_digitsOf).1 ∈ ev_T) (hW : (rest.map fun v => v.category).sum ≤ 8) (hb1 : bc1 + bc2 = bc) (hb2 : bs1 + bs2 = bs) (k : ev_Run G l d bc1 bs1 mBy_digitsOf 0 [some (.long x0), none, none, none, none] [] h n (fun v h' n' => ev_Run G l (d + 1) bc2 bs2 M (pc + 3) L (ev_psh v rest) h' n' P)) : ev_Run G l (d + 1) bc bs M pc L (.long x0 :: rest) h n P :=
  ev_callS (As := [.long x0]) (mm := 3) hd kBy_digitsOf sBy_digitsOf hl rfl rfl hW (Nat.le_of_ble_eq_true rfl) hb1 hb2 k
theorem cz_BL_all {G : xG} {l : Launch} {d bc bs : Nat} {M : xM} {pc i : Nat} {L : List (Option Value)} {rest : List Value} {h : xH} {n : Nat} {P : Option Value → xH → Nat → Prop} {b : Nat} {x0 : Int32} (hd : decode M.2.1 pc = .ok (.invokevirtual i, 3)) (hl : Cond.methodLink M.1.cls i (mBL_all).1 ∈ ev_T) {fs : List Value} (hb : h b = some (.inr (7, fs))) (hW : (rest.map fun v => v.category).sum ≤ 8) (k : ev_Run G l d 0 0 mBL_all 0 [some (.ref b), some (.int x0)] [] h n (fun v h' n' => ev_Run G l (d + 1) bc bs M (pc + 3) L (ev_psh v rest) h' n' P)) : ev_Run G l (d + 1) bc bs M pc L (.int x0 :: .ref b :: rest) h n P :=
  ev_callV (As := [.int x0]) (mm := 0) hd kBL_all vBL_all wBL_all hl hb rfl rfl rfl hW (Nat.le_of_ble_eq_true rfl) (Nat.zero_add _) (Nat.zero_add _) k
theorem ca_BL_all {G : xG} {l : Launch} {d bc bs bc1 bs1 bc2 bs2 : Nat} {M : xM} {pc i : Nat} {L : List (Option Value)} {rest : List Value} {h : xH} {n : Nat} {P : Option Value → xH → Nat → Prop} {b : Nat} {x0 : Int32} (hd : decode M.2.1 pc = .ok (.invokevirtual i, 3)) (hl : Cond.methodLink M.1.cls i (mBL_all).1 ∈ ev_T) {fs : List Value} (hb : h b = some (.inr (7, fs))) (hW : (rest.map fun v => v.category).sum ≤ 8) (hb1 : bc1 + bc2 = bc) (hb2 : bs1 + bs2 = bs) (k : ev_Run G l d bc1 bs1 mBL_all 0 [some (.ref b), some (.int x0)] [] h n (fun v h' n' => ev_Run G l (d + 1) bc2 bs2 M (pc + 3) L (ev_psh v rest) h' n' P)) : ev_Run G l (d + 1) bc bs M pc L (.int x0 :: .ref b :: rest) h n P :=
  ev_callV (As := [.int x0]) (mm := 0) hd kBL_all vBL_all wBL_all hl hb rfl rfl rfl hW (Nat.le_of_ble_eq_true rfl) hb1 hb2 k
theorem cz_BL_sumOfFact {G : xG} {l : Launch} {d bc bs : Nat} {M : xM} {pc i : Nat} {L : List (Option Value)} {rest : List Value} {h : xH} {n : Nat} {P : Option Value → xH → Nat → Prop} {b : Nat} {x0 : Int32} (hd : decode M.2.1 pc = .ok (.invokevirtual i, 3)) (hl : Cond.methodLink M.1.cls i (mBL_sumOfFact).1 ∈ ev_T) {fs : List Value} (hb : h b = some (.inr (7, fs))) (hW : (rest.map fun v => v.category).sum ≤ 8) (k : ev_Run G l d 0 0 mBL_sumOfFact 0 [some (.ref b), some (.int x0), none, none, none, none] [] h n (fun v h' n' => ev_Run G l (d + 1) bc bs M (pc + 3) L (ev_psh v rest) h' n' P)) : ev_Run G l (d + 1) bc bs M pc L (.int x0 :: .ref b :: rest) h n P :=
  ev_callV (As := [.int x0]) (mm := 4) hd kBL_sumOfFact vBL_sumOfFact wBL_sumOfFact hl hb rfl rfl rfl hW (Nat.le_of_ble_eq_true rfl) (Nat.zero_add _) (Nat.zero_add _) k
theorem ca_BL_sumOfFact {G : xG} {l : Launch} {d bc bs bc1 bs1 bc2 bs2 : Nat} {M : xM} {pc i : Nat} {L : List (Option Value)} {rest : List Value} {h : xH} {n : Nat} {P : Option Value → xH → Nat → Prop} {b : Nat} {x0 : Int32} (hd : decode M.2.1 pc = .ok (.invokevirtual i, 3)) (hl : Cond.methodLink M.1.cls i (mBL_sumOfFact).1 ∈ ev_T) {fs : List Value} (hb : h b = some (.inr (7, fs))) (hW : (rest.map fun v => v.category).sum ≤ 8) (hb1 : bc1 + bc2 = bc) (hb2 : bs1 + bs2 = bs) (k : ev_Run G l d bc1 bs1 mBL_sumOfFact 0 [some (.ref b), some (.int x0), none, none, none, none] [] h n (fun v h' n' => ev_Run G l (d + 1) bc2 bs2 M (pc + 3) L (ev_psh v rest) h' n' P)) : ev_Run G l (d + 1) bc bs M pc L (.int x0 :: .ref b :: rest) h n P :=
  ev_callV (As := [.int x0]) (mm := 4) hd kBL_sumOfFact vBL_sumOfFact wBL_sumOfFact hl hb rfl rfl rfl hW (Nat.le_of_ble_eq_true rfl) hb1 hb2 k
theorem cz_BL_sumInside {G : xG} {l : Launch} {d bc bs : Nat} {M : xM} {pc i : Nat} {L : List (Option Value)} {rest : List Value} {h : xH} {n : Nat} {P : Option Value → xH → Nat → Prop} {b : Nat} {x0 : Int32} (hd : decode M.2.1 pc = .ok (.invokevirtual i, 3)) (hl : Cond.methodLink M.1.cls i (mBL_sumInside).1 ∈ ev_T) {fs : List Value} (hb : h b = some (.inr (7, fs))) (hW : (rest.map fun v => v.category).sum ≤ 8) (k : ev_Run G l d 0 0 mBL_sumInside 0 [some (.ref b), some (.int x0), none, none, none, none] [] h n (fun v h' n' => ev_Run G l (d + 1) bc bs M (pc + 3) L (ev_psh v rest) h' n' P)) : ev_Run G l (d + 1) bc bs M pc L (.int x0 :: .ref b :: rest) h n P :=
  ev_callV (As := [.int x0]) (mm := 4) hd kBL_sumInside vBL_sumInside wBL_sumInside hl hb rfl rfl rfl hW (Nat.le_of_ble_eq_true rfl) (Nat.zero_add _) (Nat.zero_add _) k
theorem ca_BL_sumInside {G : xG} {l : Launch} {d bc bs bc1 bs1 bc2 bs2 : Nat} {M : xM} {pc i : Nat} {L : List (Option Value)} {rest : List Value} {h : xH} {n : Nat} {P : Option Value → xH → Nat → Prop} {b : Nat} {x0 : Int32} (hd : decode M.2.1 pc = .ok (.invokevirtual i, 3)) (hl : Cond.methodLink M.1.cls i (mBL_sumInside).1 ∈ ev_T) {fs : List Value} (hb : h b = some (.inr (7, fs))) (hW : (rest.map fun v => v.category).sum ≤ 8) (hb1 : bc1 + bc2 = bc) (hb2 : bs1 + bs2 = bs) (k : ev_Run G l d bc1 bs1 mBL_sumInside 0 [some (.ref b), some (.int x0), none, none, none, none] [] h n (fun v h' n' => ev_Run G l (d + 1) bc2 bs2 M (pc + 3) L (ev_psh v rest) h' n' P)) : ev_Run G l (d + 1) bc bs M pc L (.int x0 :: .ref b :: rest) h n P :=
  ev_callV (As := [.int x0]) (mm := 4) hd kBL_sumInside vBL_sumInside wBL_sumInside hl hb rfl rfl rfl hW (Nat.le_of_ble_eq_true rfl) hb1 hb2 k
theorem cz_Le_size {G : xG} {l : Launch} {d bc bs : Nat} {M : xM} {pc i : Nat} {L : List (Option Value)} {rest : List Value} {h : xH} {n : Nat} {P : Option Value → xH → Nat → Prop} {b : Nat} (hd : decode M.2.1 pc = .ok (.invokevirtual i, 3)) (hl : Cond.methodLink M.1.cls i (mLe_size).1 ∈ ev_T) {fs : List Value} (hb : h b = some (.inr (2, fs))) (hW : (rest.map fun v => v.category).sum ≤ 8) (k : ev_Run G l d 0 0 mLe_size 0 [some (.ref b)] [] h n (fun v h' n' => ev_Run G l (d + 1) bc bs M (pc + 3) L (ev_psh v rest) h' n' P)) : ev_Run G l (d + 1) bc bs M pc L (.ref b :: rest) h n P :=
  ev_callV (As := []) (mm := 0) hd kLe_size vLe_size wLe_size hl hb rfl rfl rfl hW (Nat.le_of_ble_eq_true rfl) (Nat.zero_add _) (Nat.zero_add _) k
theorem ca_Le_size {G : xG} {l : Launch} {d bc bs bc1 bs1 bc2 bs2 : Nat} {M : xM} {pc i : Nat} {L : List (Option Value)} {rest : List Value} {h : xH} {n : Nat} {P : Option Value → xH → Nat → Prop} {b : Nat} (hd : decode M.2.1 pc = .ok (.invokevirtual i, 3)) (hl : Cond.methodLink M.1.cls i (mLe_size).1 ∈ ev_T) {fs : List Value} (hb : h b = some (.inr (2, fs))) (hW : (rest.map fun v => v.category).sum ≤ 8) (hb1 : bc1 + bc2 = bc) (hb2 : bs1 + bs2 = bs) (k : ev_Run G l d bc1 bs1 mLe_size 0 [some (.ref b)] [] h n (fun v h' n' => ev_Run G l (d + 1) bc2 bs2 M (pc + 3) L (ev_psh v rest) h' n' P)) : ev_Run G l (d + 1) bc bs M pc L (.ref b :: rest) h n P :=
  ev_callV (As := []) (mm := 0) hd kLe_size vLe_size wLe_size hl hb rfl rfl rfl hW (Nat.le_of_ble_eq_true rfl) hb1 hb2 k
theorem cz_Mo_init {G : xG} {l : Launch} {d bc bs : Nat} {M : xM} {pc i : Nat} {L : List (Option Value)} {rest : List Value} {h : xH} {n : Nat} {P : Option Value → xH → Nat → Prop} {b : Nat} (hd : decode M.2.1 pc = .ok (.invokespecial i, 3)) (hl : Cond.methodLink M.1.cls i (mMo_init).1 ∈ ev_T) (hW : (rest.map fun v => v.category).sum ≤ 8) (k : ev_Run G l d 0 0 mMo_init 0 [some (.ref b)] [] h n (fun v h' n' => ev_Run G l (d + 1) bc bs M (pc + 3) L (ev_psh v rest) h' n' P)) : ev_Run G l (d + 1) bc bs M pc L (.ref b :: rest) h n P :=
  ev_callI (As := []) (mm := 0) hd kMo_init rfl rfl vMo_init hl rfl rfl hW (Nat.le_of_ble_eq_true rfl) (Nat.zero_add _) (Nat.zero_add _) k
theorem ca_Mo_init {G : xG} {l : Launch} {d bc bs bc1 bs1 bc2 bs2 : Nat} {M : xM} {pc i : Nat} {L : List (Option Value)} {rest : List Value} {h : xH} {n : Nat} {P : Option Value → xH → Nat → Prop} {b : Nat} (hd : decode M.2.1 pc = .ok (.invokespecial i, 3)) (hl : Cond.methodLink M.1.cls i (mMo_init).1 ∈ ev_T) (hW : (rest.map fun v => v.category).sum ≤ 8) (hb1 : bc1 + bc2 = bc) (hb2 : bs1 + bs2 = bs) (k : ev_Run G l d bc1 bs1 mMo_init 0 [some (.ref b)] [] h n (fun v h' n' => ev_Run G l (d + 1) bc2 bs2 M (pc + 3) L (ev_psh v rest) h' n' P)) : ev_Run G l (d + 1) bc bs M pc L (.ref b :: rest) h n P :=
  ev_callI (As := []) (mm := 0) hd kMo_init rfl rfl vMo_init hl rfl rfl hW (Nat.le_of_ble_eq_true rfl) hb1 hb2 k
theorem cz_Mo_haul {G : xG} {l : Launch} {d bc bs : Nat} {M : xM} {pc i : Nat} {L : List (Option Value)} {rest : List Value} {h : xH} {n : Nat} {P : Option Value → xH → Nat → Prop} {b : Nat} {x0 : Int64} {x1 : Int32} {x2 : Int32} (hd : decode M.2.1 pc = .ok (.invokevirtual i, 3)) (hl : Cond.methodLink M.1.cls i (mMo_haul).1 ∈ ev_T) {fs : List Value} (hb : h b = some (.inr (8, fs))) (hW : (rest.map fun v => v.category).sum ≤ 8) (k : ev_Run G l d 0 0 mMo_haul 0 [some (.ref b), some (.long x0), none, some (.int x1), some (.int x2), none] [] h n (fun v h' n' => ev_Run G l (d + 1) bc bs M (pc + 3) L (ev_psh v rest) h' n' P)) : ev_Run G l (d + 1) bc bs M pc L (.int x2 :: .int x1 :: .long x0 :: .ref b :: rest) h n P :=
  ev_callV (As := [.long x0, .int x1, .int x2]) (mm := 1) hd kMo_haul vMo_haul wMo_haul hl hb rfl rfl rfl hW (Nat.le_of_ble_eq_true rfl) (Nat.zero_add _) (Nat.zero_add _) k
theorem ca_Mo_haul {G : xG} {l : Launch} {d bc bs bc1 bs1 bc2 bs2 : Nat} {M : xM} {pc i : Nat} {L : List (Option Value)} {rest : List Value} {h : xH} {n : Nat} {P : Option Value → xH → Nat → Prop} {b : Nat} {x0 : Int64} {x1 : Int32} {x2 : Int32} (hd : decode M.2.1 pc = .ok (.invokevirtual i, 3)) (hl : Cond.methodLink M.1.cls i (mMo_haul).1 ∈ ev_T) {fs : List Value} (hb : h b = some (.inr (8, fs))) (hW : (rest.map fun v => v.category).sum ≤ 8) (hb1 : bc1 + bc2 = bc) (hb2 : bs1 + bs2 = bs) (k : ev_Run G l d bc1 bs1 mMo_haul 0 [some (.ref b), some (.long x0), none, some (.int x1), some (.int x2), none] [] h n (fun v h' n' => ev_Run G l (d + 1) bc2 bs2 M (pc + 3) L (ev_psh v rest) h' n' P)) : ev_Run G l (d + 1) bc bs M pc L (.int x2 :: .int x1 :: .long x0 :: .ref b :: rest) h n P :=
  ev_callV (As := [.long x0, .int x1, .int x2]) (mm := 1) hd kMo_haul vMo_haul wMo_haul hl hb rfl rfl rfl hW (Nat.le_of_ble_eq_true rfl) hb1 hb2 k
theorem cz_Mo_make {G : xG} {l : Launch} {d bc bs : Nat} {M : xM} {pc i : Nat} {L : List (Option Value)} {rest : List Value} {h : xH} {n : Nat} {P : Option Value → xH → Nat → Prop} {b : Nat} {x0 : Int32} {x1 : Int32} {x2 : Int32} {x3 : Int64} (hd : decode M.2.1 pc = .ok (.invokevirtual i, 3)) (hl : Cond.methodLink M.1.cls i (mMo_make).1 ∈ ev_T) {fs : List Value} (hb : h b = some (.inr (8, fs))) (hW : (rest.map fun v => v.category).sum ≤ 8) (k : ev_Run G l d 0 0 mMo_make 0 [some (.ref b), some (.int x0), some (.int x1), some (.int x2), some (.long x3), none, none] [] h n (fun v h' n' => ev_Run G l (d + 1) bc bs M (pc + 3) L (ev_psh v rest) h' n' P)) : ev_Run G l (d + 1) bc bs M pc L (.long x3 :: .int x2 :: .int x1 :: .int x0 :: .ref b :: rest) h n P :=
  ev_callV (As := [.int x0, .int x1, .int x2, .long x3]) (mm := 1) hd kMo_make vMo_make wMo_make hl hb rfl rfl rfl hW (Nat.le_of_ble_eq_true rfl) (Nat.zero_add _) (Nat.zero_add _) k
theorem ca_Mo_make {G : xG} {l : Launch} {d bc bs bc1 bs1 bc2 bs2 : Nat} {M : xM} {pc i : Nat} {L : List (Option Value)} {rest : List Value} {h : xH} {n : Nat} {P : Option Value → xH → Nat → Prop} {b : Nat} {x0 : Int32} {x1 : Int32} {x2 : Int32} {x3 : Int64} (hd : decode M.2.1 pc = .ok (.invokevirtual i, 3)) (hl : Cond.methodLink M.1.cls i (mMo_make).1 ∈ ev_T) {fs : List Value} (hb : h b = some (.inr (8, fs))) (hW : (rest.map fun v => v.category).sum ≤ 8) (hb1 : bc1 + bc2 = bc) (hb2 : bs1 + bs2 = bs) (k : ev_Run G l d bc1 bs1 mMo_make 0 [some (.ref b), some (.int x0), some (.int x1), some (.int x2), some (.long x3), none, none] [] h n (fun v h' n' => ev_Run G l (d + 1) bc2 bs2 M (pc + 3) L (ev_psh v rest) h' n' P)) : ev_Run G l (d + 1) bc bs M pc L (.long x3 :: .int x2 :: .int x1 :: .int x0 :: .ref b :: rest) h n P :=
  ev_callV (As := [.int x0, .int x1, .int x2, .long x3]) (mm := 1) hd kMo_make vMo_make wMo_make hl hb rfl rfl rfl hW (Nat.le_of_ble_eq_true rfl) hb1 hb2 k
theorem cz_Mo_batch {G : xG} {l : Launch} {d bc bs : Nat} {M : xM} {pc i : Nat} {L : List (Option Value)} {rest : List Value} {h : xH} {n : Nat} {P : Option Value → xH → Nat → Prop} {b : Nat} (hd : decode M.2.1 pc = .ok (.invokevirtual i, 3)) (hl : Cond.methodLink M.1.cls i (mMo_batch).1 ∈ ev_T) {fs : List Value} (hb : h b = some (.inr (8, fs))) (hW : (rest.map fun v => v.category).sum ≤ 8) (k : ev_Run G l d 0 0 mMo_batch 0 [some (.ref b)] [] h n (fun v h' n' => ev_Run G l (d + 1) bc bs M (pc + 3) L (ev_psh v rest) h' n' P)) : ev_Run G l (d + 1) bc bs M pc L (.ref b :: rest) h n P :=
  ev_callV (As := []) (mm := 0) hd kMo_batch vMo_batch wMo_batch hl hb rfl rfl rfl hW (Nat.le_of_ble_eq_true rfl) (Nat.zero_add _) (Nat.zero_add _) k
theorem ca_Mo_batch {G : xG} {l : Launch} {d bc bs bc1 bs1 bc2 bs2 : Nat} {M : xM} {pc i : Nat} {L : List (Option Value)} {rest : List Value} {h : xH} {n : Nat} {P : Option Value → xH → Nat → Prop} {b : Nat} (hd : decode M.2.1 pc = .ok (.invokevirtual i, 3)) (hl : Cond.methodLink M.1.cls i (mMo_batch).1 ∈ ev_T) {fs : List Value} (hb : h b = some (.inr (8, fs))) (hW : (rest.map fun v => v.category).sum ≤ 8) (hb1 : bc1 + bc2 = bc) (hb2 : bs1 + bs2 = bs) (k : ev_Run G l d bc1 bs1 mMo_batch 0 [some (.ref b)] [] h n (fun v h' n' => ev_Run G l (d + 1) bc2 bs2 M (pc + 3) L (ev_psh v rest) h' n' P)) : ev_Run G l (d + 1) bc bs M pc L (.ref b :: rest) h n P :=
  ev_callV (As := []) (mm := 0) hd kMo_batch vMo_batch wMo_batch hl hb rfl rfl rfl hW (Nat.le_of_ble_eq_true rfl) hb1 hb2 k
theorem cz_Mo_into {G : xG} {l : Launch} {d bc bs : Nat} {M : xM} {pc i : Nat} {L : List (Option Value)} {rest : List Value} {h : xH} {n : Nat} {P : Option Value → xH → Nat → Prop} {b : Nat} {x0 : Int32} {x1 : Int32} {x2 : Int64} (hd : decode M.2.1 pc = .ok (.invokevirtual i, 3)) (hl : Cond.methodLink M.1.cls i (mMo_into).1 ∈ ev_T) {fs : List Value} (hb : h b = some (.inr (8, fs))) (hW : (rest.map fun v => v.category).sum ≤ 8) (k : ev_Run G l d 0 0 mMo_into 0 [some (.ref b), some (.int x0), some (.int x1), some (.long x2), none] [] h n (fun v h' n' => ev_Run G l (d + 1) bc bs M (pc + 3) L (ev_psh v rest) h' n' P)) : ev_Run G l (d + 1) bc bs M pc L (.long x2 :: .int x1 :: .int x0 :: .ref b :: rest) h n P :=
  ev_callV (As := [.int x0, .int x1, .long x2]) (mm := 0) hd kMo_into vMo_into wMo_into hl hb rfl rfl rfl hW (Nat.le_of_ble_eq_true rfl) (Nat.zero_add _) (Nat.zero_add _) k
theorem ca_Mo_into {G : xG} {l : Launch} {d bc bs bc1 bs1 bc2 bs2 : Nat} {M : xM} {pc i : Nat} {L : List (Option Value)} {rest : List Value} {h : xH} {n : Nat} {P : Option Value → xH → Nat → Prop} {b : Nat} {x0 : Int32} {x1 : Int32} {x2 : Int64} (hd : decode M.2.1 pc = .ok (.invokevirtual i, 3)) (hl : Cond.methodLink M.1.cls i (mMo_into).1 ∈ ev_T) {fs : List Value} (hb : h b = some (.inr (8, fs))) (hW : (rest.map fun v => v.category).sum ≤ 8) (hb1 : bc1 + bc2 = bc) (hb2 : bs1 + bs2 = bs) (k : ev_Run G l d bc1 bs1 mMo_into 0 [some (.ref b), some (.int x0), some (.int x1), some (.long x2), none] [] h n (fun v h' n' => ev_Run G l (d + 1) bc2 bs2 M (pc + 3) L (ev_psh v rest) h' n' P)) : ev_Run G l (d + 1) bc bs M pc L (.long x2 :: .int x1 :: .int x0 :: .ref b :: rest) h n P :=
  ev_callV (As := [.int x0, .int x1, .long x2]) (mm := 0) hd kMo_into vMo_into wMo_into hl hb rfl rfl rfl hW (Nat.le_of_ble_eq_true rfl) hb1 hb2 k
theorem cz_Mo_isOf {G : xG} {l : Launch} {d bc bs : Nat} {M : xM} {pc i : Nat} {L : List (Option Value)} {rest : List Value} {h : xH} {n : Nat} {P : Option Value → xH → Nat → Prop} {b : Nat} {x0 : Int32} {x1 : Int32} (hd : decode M.2.1 pc = .ok (.invokevirtual i, 3)) (hl : Cond.methodLink M.1.cls i (mMo_isOf).1 ∈ ev_T) {fs : List Value} (hb : h b = some (.inr (8, fs))) (hW : (rest.map fun v => v.category).sum ≤ 8) (k : ev_Run G l d 0 0 mMo_isOf 0 [some (.ref b), some (.int x0), some (.int x1)] [] h n (fun v h' n' => ev_Run G l (d + 1) bc bs M (pc + 3) L (ev_psh v rest) h' n' P)) : ev_Run G l (d + 1) bc bs M pc L (.int x1 :: .int x0 :: .ref b :: rest) h n P :=
  ev_callV (As := [.int x0, .int x1]) (mm := 0) hd kMo_isOf vMo_isOf wMo_isOf hl hb rfl rfl rfl hW (Nat.le_of_ble_eq_true rfl) (Nat.zero_add _) (Nat.zero_add _) k
theorem ca_Mo_isOf {G : xG} {l : Launch} {d bc bs bc1 bs1 bc2 bs2 : Nat} {M : xM} {pc i : Nat} {L : List (Option Value)} {rest : List Value} {h : xH} {n : Nat} {P : Option Value → xH → Nat → Prop} {b : Nat} {x0 : Int32} {x1 : Int32} (hd : decode M.2.1 pc = .ok (.invokevirtual i, 3)) (hl : Cond.methodLink M.1.cls i (mMo_isOf).1 ∈ ev_T) {fs : List Value} (hb : h b = some (.inr (8, fs))) (hW : (rest.map fun v => v.category).sum ≤ 8) (hb1 : bc1 + bc2 = bc) (hb2 : bs1 + bs2 = bs) (k : ev_Run G l d bc1 bs1 mMo_isOf 0 [some (.ref b), some (.int x0), some (.int x1)] [] h n (fun v h' n' => ev_Run G l (d + 1) bc2 bs2 M (pc + 3) L (ev_psh v rest) h' n' P)) : ev_Run G l (d + 1) bc bs M pc L (.int x1 :: .int x0 :: .ref b :: rest) h n P :=
  ev_callV (As := [.int x0, .int x1]) (mm := 0) hd kMo_isOf vMo_isOf wMo_isOf hl hb rfl rfl rfl hW (Nat.le_of_ble_eq_true rfl) hb1 hb2 k
theorem cz_Mo_isThing {G : xG} {l : Launch} {d bc bs : Nat} {M : xM} {pc i : Nat} {L : List (Option Value)} {rest : List Value} {h : xH} {n : Nat} {P : Option Value → xH → Nat → Prop} {b : Nat} {x0 : Int32} (hd : decode M.2.1 pc = .ok (.invokevirtual i, 3)) (hl : Cond.methodLink M.1.cls i (mMo_isThing).1 ∈ ev_T) {fs : List Value} (hb : h b = some (.inr (8, fs))) (hW : (rest.map fun v => v.category).sum ≤ 8) (k : ev_Run G l d 0 0 mMo_isThing 0 [some (.ref b), some (.int x0)] [] h n (fun v h' n' => ev_Run G l (d + 1) bc bs M (pc + 3) L (ev_psh v rest) h' n' P)) : ev_Run G l (d + 1) bc bs M pc L (.int x0 :: .ref b :: rest) h n P :=
  ev_callV (As := [.int x0]) (mm := 0) hd kMo_isThing vMo_isThing wMo_isThing hl hb rfl rfl rfl hW (Nat.le_of_ble_eq_true rfl) (Nat.zero_add _) (Nat.zero_add _) k
theorem ca_Mo_isThing {G : xG} {l : Launch} {d bc bs bc1 bs1 bc2 bs2 : Nat} {M : xM} {pc i : Nat} {L : List (Option Value)} {rest : List Value} {h : xH} {n : Nat} {P : Option Value → xH → Nat → Prop} {b : Nat} {x0 : Int32} (hd : decode M.2.1 pc = .ok (.invokevirtual i, 3)) (hl : Cond.methodLink M.1.cls i (mMo_isThing).1 ∈ ev_T) {fs : List Value} (hb : h b = some (.inr (8, fs))) (hW : (rest.map fun v => v.category).sum ≤ 8) (hb1 : bc1 + bc2 = bc) (hb2 : bs1 + bs2 = bs) (k : ev_Run G l d bc1 bs1 mMo_isThing 0 [some (.ref b), some (.int x0)] [] h n (fun v h' n' => ev_Run G l (d + 1) bc2 bs2 M (pc + 3) L (ev_psh v rest) h' n' P)) : ev_Run G l (d + 1) bc bs M pc L (.int x0 :: .ref b :: rest) h n P :=
  ev_callV (As := [.int x0]) (mm := 0) hd kMo_isThing vMo_isThing wMo_isThing hl hb rfl rfl rfl hW (Nat.le_of_ble_eq_true rfl) hb1 hb2 k
theorem cz_Mo_isSource {G : xG} {l : Launch} {d bc bs : Nat} {M : xM} {pc i : Nat} {L : List (Option Value)} {rest : List Value} {h : xH} {n : Nat} {P : Option Value → xH → Nat → Prop} {b : Nat} {x0 : Int32} (hd : decode M.2.1 pc = .ok (.invokevirtual i, 3)) (hl : Cond.methodLink M.1.cls i (mMo_isSource).1 ∈ ev_T) {fs : List Value} (hb : h b = some (.inr (8, fs))) (hW : (rest.map fun v => v.category).sum ≤ 8) (k : ev_Run G l d 0 0 mMo_isSource 0 [some (.ref b), some (.int x0)] [] h n (fun v h' n' => ev_Run G l (d + 1) bc bs M (pc + 3) L (ev_psh v rest) h' n' P)) : ev_Run G l (d + 1) bc bs M pc L (.int x0 :: .ref b :: rest) h n P :=
  ev_callV (As := [.int x0]) (mm := 0) hd kMo_isSource vMo_isSource wMo_isSource hl hb rfl rfl rfl hW (Nat.le_of_ble_eq_true rfl) (Nat.zero_add _) (Nat.zero_add _) k
theorem ca_Mo_isSource {G : xG} {l : Launch} {d bc bs bc1 bs1 bc2 bs2 : Nat} {M : xM} {pc i : Nat} {L : List (Option Value)} {rest : List Value} {h : xH} {n : Nat} {P : Option Value → xH → Nat → Prop} {b : Nat} {x0 : Int32} (hd : decode M.2.1 pc = .ok (.invokevirtual i, 3)) (hl : Cond.methodLink M.1.cls i (mMo_isSource).1 ∈ ev_T) {fs : List Value} (hb : h b = some (.inr (8, fs))) (hW : (rest.map fun v => v.category).sum ≤ 8) (hb1 : bc1 + bc2 = bc) (hb2 : bs1 + bs2 = bs) (k : ev_Run G l d bc1 bs1 mMo_isSource 0 [some (.ref b), some (.int x0)] [] h n (fun v h' n' => ev_Run G l (d + 1) bc2 bs2 M (pc + 3) L (ev_psh v rest) h' n' P)) : ev_Run G l (d + 1) bc bs M pc L (.int x0 :: .ref b :: rest) h n P :=
  ev_callV (As := [.int x0]) (mm := 0) hd kMo_isSource vMo_isSource wMo_isSource hl hb rfl rfl rfl hW (Nat.le_of_ble_eq_true rfl) hb1 hb2 k
theorem cz_Mo_has {G : xG} {l : Launch} {d bc bs : Nat} {M : xM} {pc i : Nat} {L : List (Option Value)} {rest : List Value} {h : xH} {n : Nat} {P : Option Value → xH → Nat → Prop} {b : Nat} {x0 : Int32} {x1 : Int64} (hd : decode M.2.1 pc = .ok (.invokevirtual i, 3)) (hl : Cond.methodLink M.1.cls i (mMo_has).1 ∈ ev_T) {fs : List Value} (hb : h b = some (.inr (8, fs))) (hW : (rest.map fun v => v.category).sum ≤ 8) (k : ev_Run G l d 0 0 mMo_has 0 [some (.ref b), some (.int x0), some (.long x1), none] [] h n (fun v h' n' => ev_Run G l (d + 1) bc bs M (pc + 3) L (ev_psh v rest) h' n' P)) : ev_Run G l (d + 1) bc bs M pc L (.long x1 :: .int x0 :: .ref b :: rest) h n P :=
  ev_callV (As := [.int x0, .long x1]) (mm := 0) hd kMo_has vMo_has wMo_has hl hb rfl rfl rfl hW (Nat.le_of_ble_eq_true rfl) (Nat.zero_add _) (Nat.zero_add _) k
theorem ca_Mo_has {G : xG} {l : Launch} {d bc bs bc1 bs1 bc2 bs2 : Nat} {M : xM} {pc i : Nat} {L : List (Option Value)} {rest : List Value} {h : xH} {n : Nat} {P : Option Value → xH → Nat → Prop} {b : Nat} {x0 : Int32} {x1 : Int64} (hd : decode M.2.1 pc = .ok (.invokevirtual i, 3)) (hl : Cond.methodLink M.1.cls i (mMo_has).1 ∈ ev_T) {fs : List Value} (hb : h b = some (.inr (8, fs))) (hW : (rest.map fun v => v.category).sum ≤ 8) (hb1 : bc1 + bc2 = bc) (hb2 : bs1 + bs2 = bs) (k : ev_Run G l d bc1 bs1 mMo_has 0 [some (.ref b), some (.int x0), some (.long x1), none] [] h n (fun v h' n' => ev_Run G l (d + 1) bc2 bs2 M (pc + 3) L (ev_psh v rest) h' n' P)) : ev_Run G l (d + 1) bc bs M pc L (.long x1 :: .int x0 :: .ref b :: rest) h n P :=
  ev_callV (As := [.int x0, .long x1]) (mm := 0) hd kMo_has vMo_has wMo_has hl hb rfl rfl rfl hW (Nat.le_of_ble_eq_true rfl) hb1 hb2 k
theorem cz_Mo_gramsIn {G : xG} {l : Launch} {d bc bs : Nat} {M : xM} {pc i : Nat} {L : List (Option Value)} {rest : List Value} {h : xH} {n : Nat} {P : Option Value → xH → Nat → Prop} {b : Nat} {x0 : Int32} (hd : decode M.2.1 pc = .ok (.invokevirtual i, 3)) (hl : Cond.methodLink M.1.cls i (mMo_gramsIn).1 ∈ ev_T) {fs : List Value} (hb : h b = some (.inr (8, fs))) (hW : (rest.map fun v => v.category).sum ≤ 8) (k : ev_Run G l d 0 0 mMo_gramsIn 0 [some (.ref b), some (.int x0), none, none, none] [] h n (fun v h' n' => ev_Run G l (d + 1) bc bs M (pc + 3) L (ev_psh v rest) h' n' P)) : ev_Run G l (d + 1) bc bs M pc L (.int x0 :: .ref b :: rest) h n P :=
  ev_callV (As := [.int x0]) (mm := 3) hd kMo_gramsIn vMo_gramsIn wMo_gramsIn hl hb rfl rfl rfl hW (Nat.le_of_ble_eq_true rfl) (Nat.zero_add _) (Nat.zero_add _) k
theorem ca_Mo_gramsIn {G : xG} {l : Launch} {d bc bs bc1 bs1 bc2 bs2 : Nat} {M : xM} {pc i : Nat} {L : List (Option Value)} {rest : List Value} {h : xH} {n : Nat} {P : Option Value → xH → Nat → Prop} {b : Nat} {x0 : Int32} (hd : decode M.2.1 pc = .ok (.invokevirtual i, 3)) (hl : Cond.methodLink M.1.cls i (mMo_gramsIn).1 ∈ ev_T) {fs : List Value} (hb : h b = some (.inr (8, fs))) (hW : (rest.map fun v => v.category).sum ≤ 8) (hb1 : bc1 + bc2 = bc) (hb2 : bs1 + bs2 = bs) (k : ev_Run G l d bc1 bs1 mMo_gramsIn 0 [some (.ref b), some (.int x0), none, none, none] [] h n (fun v h' n' => ev_Run G l (d + 1) bc2 bs2 M (pc + 3) L (ev_psh v rest) h' n' P)) : ev_Run G l (d + 1) bc bs M pc L (.int x0 :: .ref b :: rest) h n P :=
  ev_callV (As := [.int x0]) (mm := 3) hd kMo_gramsIn vMo_gramsIn wMo_gramsIn hl hb rfl rfl rfl hW (Nat.le_of_ble_eq_true rfl) hb1 hb2 k
theorem cz_Mo_layBy {G : xG} {l : Launch} {d bc bs : Nat} {M : xM} {pc i : Nat} {L : List (Option Value)} {rest : List Value} {h : xH} {n : Nat} {P : Option Value → xH → Nat → Prop} {b : Nat} {x0 : Int32} {x1 : Int32} {x2 : Int64} (hd : decode M.2.1 pc = .ok (.invokevirtual i, 3)) (hl : Cond.methodLink M.1.cls i (mMo_layBy).1 ∈ ev_T) {fs : List Value} (hb : h b = some (.inr (8, fs))) (hW : (rest.map fun v => v.category).sum ≤ 8) (k : ev_Run G l d 0 0 mMo_layBy 0 [some (.ref b), some (.int x0), some (.int x1), some (.long x2), none, none, none, none, none, none] [] h n (fun v h' n' => ev_Run G l (d + 1) bc bs M (pc + 3) L (ev_psh v rest) h' n' P)) : ev_Run G l (d + 1) bc bs M pc L (.long x2 :: .int x1 :: .int x0 :: .ref b :: rest) h n P :=
  ev_callV (As := [.int x0, .int x1, .long x2]) (mm := 5) hd kMo_layBy vMo_layBy wMo_layBy hl hb rfl rfl rfl hW (Nat.le_of_ble_eq_true rfl) (Nat.zero_add _) (Nat.zero_add _) k
theorem ca_Mo_layBy {G : xG} {l : Launch} {d bc bs bc1 bs1 bc2 bs2 : Nat} {M : xM} {pc i : Nat} {L : List (Option Value)} {rest : List Value} {h : xH} {n : Nat} {P : Option Value → xH → Nat → Prop} {b : Nat} {x0 : Int32} {x1 : Int32} {x2 : Int64} (hd : decode M.2.1 pc = .ok (.invokevirtual i, 3)) (hl : Cond.methodLink M.1.cls i (mMo_layBy).1 ∈ ev_T) {fs : List Value} (hb : h b = some (.inr (8, fs))) (hW : (rest.map fun v => v.category).sum ≤ 8) (hb1 : bc1 + bc2 = bc) (hb2 : bs1 + bs2 = bs) (k : ev_Run G l d bc1 bs1 mMo_layBy 0 [some (.ref b), some (.int x0), some (.int x1), some (.long x2), none, none, none, none, none, none] [] h n (fun v h' n' => ev_Run G l (d + 1) bc2 bs2 M (pc + 3) L (ev_psh v rest) h' n' P)) : ev_Run G l (d + 1) bc bs M pc L (.long x2 :: .int x1 :: .int x0 :: .ref b :: rest) h n P :=
  ev_callV (As := [.int x0, .int x1, .long x2]) (mm := 5) hd kMo_layBy vMo_layBy wMo_layBy hl hb rfl rfl rfl hW (Nat.le_of_ble_eq_true rfl) hb1 hb2 k
theorem cz_Mo_lay {G : xG} {l : Launch} {d bc bs : Nat} {M : xM} {pc i : Nat} {L : List (Option Value)} {rest : List Value} {h : xH} {n : Nat} {P : Option Value → xH → Nat → Prop} {b : Nat} {x0 : Int32} {x1 : Int64} (hd : decode M.2.1 pc = .ok (.invokevirtual i, 3)) (hl : Cond.methodLink M.1.cls i (mMo_lay).1 ∈ ev_T) {fs : List Value} (hb : h b = some (.inr (8, fs))) (hW : (rest.map fun v => v.category).sum ≤ 8) (k : ev_Run G l d 0 0 mMo_lay 0 [some (.ref b), some (.int x0), some (.long x1), none] [] h n (fun v h' n' => ev_Run G l (d + 1) bc bs M (pc + 3) L (ev_psh v rest) h' n' P)) : ev_Run G l (d + 1) bc bs M pc L (.long x1 :: .int x0 :: .ref b :: rest) h n P :=
  ev_callV (As := [.int x0, .long x1]) (mm := 0) hd kMo_lay vMo_lay wMo_lay hl hb rfl rfl rfl hW (Nat.le_of_ble_eq_true rfl) (Nat.zero_add _) (Nat.zero_add _) k
theorem ca_Mo_lay {G : xG} {l : Launch} {d bc bs bc1 bs1 bc2 bs2 : Nat} {M : xM} {pc i : Nat} {L : List (Option Value)} {rest : List Value} {h : xH} {n : Nat} {P : Option Value → xH → Nat → Prop} {b : Nat} {x0 : Int32} {x1 : Int64} (hd : decode M.2.1 pc = .ok (.invokevirtual i, 3)) (hl : Cond.methodLink M.1.cls i (mMo_lay).1 ∈ ev_T) {fs : List Value} (hb : h b = some (.inr (8, fs))) (hW : (rest.map fun v => v.category).sum ≤ 8) (hb1 : bc1 + bc2 = bc) (hb2 : bs1 + bs2 = bs) (k : ev_Run G l d bc1 bs1 mMo_lay 0 [some (.ref b), some (.int x0), some (.long x1), none] [] h n (fun v h' n' => ev_Run G l (d + 1) bc2 bs2 M (pc + 3) L (ev_psh v rest) h' n' P)) : ev_Run G l (d + 1) bc bs M pc L (.long x1 :: .int x0 :: .ref b :: rest) h n P :=
  ev_callV (As := [.int x0, .long x1]) (mm := 0) hd kMo_lay vMo_lay wMo_lay hl hb rfl rfl rfl hW (Nat.le_of_ble_eq_true rfl) hb1 hb2 k
theorem cz_Mo_putDown {G : xG} {l : Launch} {d bc bs : Nat} {M : xM} {pc i : Nat} {L : List (Option Value)} {rest : List Value} {h : xH} {n : Nat} {P : Option Value → xH → Nat → Prop} {b : Nat} {x0 : Int32} (hd : decode M.2.1 pc = .ok (.invokevirtual i, 3)) (hl : Cond.methodLink M.1.cls i (mMo_putDown).1 ∈ ev_T) {fs : List Value} (hb : h b = some (.inr (8, fs))) (hW : (rest.map fun v => v.category).sum ≤ 8) (k : ev_Run G l d 0 0 mMo_putDown 0 [some (.ref b), some (.int x0), none] [] h n (fun v h' n' => ev_Run G l (d + 1) bc bs M (pc + 3) L (ev_psh v rest) h' n' P)) : ev_Run G l (d + 1) bc bs M pc L (.int x0 :: .ref b :: rest) h n P :=
  ev_callV (As := [.int x0]) (mm := 1) hd kMo_putDown vMo_putDown wMo_putDown hl hb rfl rfl rfl hW (Nat.le_of_ble_eq_true rfl) (Nat.zero_add _) (Nat.zero_add _) k
theorem ca_Mo_putDown {G : xG} {l : Launch} {d bc bs bc1 bs1 bc2 bs2 : Nat} {M : xM} {pc i : Nat} {L : List (Option Value)} {rest : List Value} {h : xH} {n : Nat} {P : Option Value → xH → Nat → Prop} {b : Nat} {x0 : Int32} (hd : decode M.2.1 pc = .ok (.invokevirtual i, 3)) (hl : Cond.methodLink M.1.cls i (mMo_putDown).1 ∈ ev_T) {fs : List Value} (hb : h b = some (.inr (8, fs))) (hW : (rest.map fun v => v.category).sum ≤ 8) (hb1 : bc1 + bc2 = bc) (hb2 : bs1 + bs2 = bs) (k : ev_Run G l d bc1 bs1 mMo_putDown 0 [some (.ref b), some (.int x0), none] [] h n (fun v h' n' => ev_Run G l (d + 1) bc2 bs2 M (pc + 3) L (ev_psh v rest) h' n' P)) : ev_Run G l (d + 1) bc bs M pc L (.int x0 :: .ref b :: rest) h n P :=
  ev_callV (As := [.int x0]) (mm := 1) hd kMo_putDown vMo_putDown wMo_putDown hl hb rfl rfl rfl hW (Nat.le_of_ble_eq_true rfl) hb1 hb2 k
theorem cz_Mo_takeOut {G : xG} {l : Launch} {d bc bs : Nat} {M : xM} {pc i : Nat} {L : List (Option Value)} {rest : List Value} {h : xH} {n : Nat} {P : Option Value → xH → Nat → Prop} {b : Nat} {x0 : Int32} {x1 : Int64} (hd : decode M.2.1 pc = .ok (.invokevirtual i, 3)) (hl : Cond.methodLink M.1.cls i (mMo_takeOut).1 ∈ ev_T) {fs : List Value} (hb : h b = some (.inr (8, fs))) (hW : (rest.map fun v => v.category).sum ≤ 8) (k : ev_Run G l d 0 0 mMo_takeOut 0 [some (.ref b), some (.int x0), some (.long x1), none, none, none, none, none, none, none, none, none] [] h n (fun v h' n' => ev_Run G l (d + 1) bc bs M (pc + 3) L (ev_psh v rest) h' n' P)) : ev_Run G l (d + 1) bc bs M pc L (.long x1 :: .int x0 :: .ref b :: rest) h n P :=
  ev_callV (As := [.int x0, .long x1]) (mm := 8) hd kMo_takeOut vMo_takeOut wMo_takeOut hl hb rfl rfl rfl hW (Nat.le_of_ble_eq_true rfl) (Nat.zero_add _) (Nat.zero_add _) k
theorem ca_Mo_takeOut {G : xG} {l : Launch} {d bc bs bc1 bs1 bc2 bs2 : Nat} {M : xM} {pc i : Nat} {L : List (Option Value)} {rest : List Value} {h : xH} {n : Nat} {P : Option Value → xH → Nat → Prop} {b : Nat} {x0 : Int32} {x1 : Int64} (hd : decode M.2.1 pc = .ok (.invokevirtual i, 3)) (hl : Cond.methodLink M.1.cls i (mMo_takeOut).1 ∈ ev_T) {fs : List Value} (hb : h b = some (.inr (8, fs))) (hW : (rest.map fun v => v.category).sum ≤ 8) (hb1 : bc1 + bc2 = bc) (hb2 : bs1 + bs2 = bs) (k : ev_Run G l d bc1 bs1 mMo_takeOut 0 [some (.ref b), some (.int x0), some (.long x1), none, none, none, none, none, none, none, none, none] [] h n (fun v h' n' => ev_Run G l (d + 1) bc2 bs2 M (pc + 3) L (ev_psh v rest) h' n' P)) : ev_Run G l (d + 1) bc bs M pc L (.long x1 :: .int x0 :: .ref b :: rest) h n P :=
  ev_callV (As := [.int x0, .long x1]) (mm := 8) hd kMo_takeOut vMo_takeOut wMo_takeOut hl hb rfl rfl rfl hW (Nat.le_of_ble_eq_true rfl) hb1 hb2 k
theorem cz_Mo_box {G : xG} {l : Launch} {d bc bs : Nat} {M : xM} {pc i : Nat} {L : List (Option Value)} {rest : List Value} {h : xH} {n : Nat} {P : Option Value → xH → Nat → Prop} {b : Nat} {x0 : Int32} {x1 : Int64} {x2 : Int32} (hd : decode M.2.1 pc = .ok (.invokevirtual i, 3)) (hl : Cond.methodLink M.1.cls i (mMo_box).1 ∈ ev_T) {fs : List Value} (hb : h b = some (.inr (8, fs))) (hW : (rest.map fun v => v.category).sum ≤ 8) (k : ev_Run G l d 0 0 mMo_box 0 [some (.ref b), some (.int x0), some (.long x1), none, some (.int x2), none] [] h n (fun v h' n' => ev_Run G l (d + 1) bc bs M (pc + 3) L (ev_psh v rest) h' n' P)) : ev_Run G l (d + 1) bc bs M pc L (.int x2 :: .long x1 :: .int x0 :: .ref b :: rest) h n P :=
  ev_callV (As := [.int x0, .long x1, .int x2]) (mm := 1) hd kMo_box vMo_box wMo_box hl hb rfl rfl rfl hW (Nat.le_of_ble_eq_true rfl) (Nat.zero_add _) (Nat.zero_add _) k
theorem ca_Mo_box {G : xG} {l : Launch} {d bc bs bc1 bs1 bc2 bs2 : Nat} {M : xM} {pc i : Nat} {L : List (Option Value)} {rest : List Value} {h : xH} {n : Nat} {P : Option Value → xH → Nat → Prop} {b : Nat} {x0 : Int32} {x1 : Int64} {x2 : Int32} (hd : decode M.2.1 pc = .ok (.invokevirtual i, 3)) (hl : Cond.methodLink M.1.cls i (mMo_box).1 ∈ ev_T) {fs : List Value} (hb : h b = some (.inr (8, fs))) (hW : (rest.map fun v => v.category).sum ≤ 8) (hb1 : bc1 + bc2 = bc) (hb2 : bs1 + bs2 = bs) (k : ev_Run G l d bc1 bs1 mMo_box 0 [some (.ref b), some (.int x0), some (.long x1), none, some (.int x2), none] [] h n (fun v h' n' => ev_Run G l (d + 1) bc2 bs2 M (pc + 3) L (ev_psh v rest) h' n' P)) : ev_Run G l (d + 1) bc bs M pc L (.int x2 :: .long x1 :: .int x0 :: .ref b :: rest) h n P :=
  ev_callV (As := [.int x0, .long x1, .int x2]) (mm := 1) hd kMo_box vMo_box wMo_box hl hb rfl rfl rfl hW (Nat.le_of_ble_eq_true rfl) hb1 hb2 k
theorem cz_Mo_waste {G : xG} {l : Launch} {d bc bs : Nat} {M : xM} {pc i : Nat} {L : List (Option Value)} {rest : List Value} {h : xH} {n : Nat} {P : Option Value → xH → Nat → Prop} {b : Nat} {x0 : Int32} {x1 : Int64} (hd : decode M.2.1 pc = .ok (.invokevirtual i, 3)) (hl : Cond.methodLink M.1.cls i (mMo_waste).1 ∈ ev_T) {fs : List Value} (hb : h b = some (.inr (8, fs))) (hW : (rest.map fun v => v.category).sum ≤ 8) (k : ev_Run G l d 0 0 mMo_waste 0 [some (.ref b), some (.int x0), some (.long x1), none] [] h n (fun v h' n' => ev_Run G l (d + 1) bc bs M (pc + 3) L (ev_psh v rest) h' n' P)) : ev_Run G l (d + 1) bc bs M pc L (.long x1 :: .int x0 :: .ref b :: rest) h n P :=
  ev_callV (As := [.int x0, .long x1]) (mm := 0) hd kMo_waste vMo_waste wMo_waste hl hb rfl rfl rfl hW (Nat.le_of_ble_eq_true rfl) (Nat.zero_add _) (Nat.zero_add _) k
theorem ca_Mo_waste {G : xG} {l : Launch} {d bc bs bc1 bs1 bc2 bs2 : Nat} {M : xM} {pc i : Nat} {L : List (Option Value)} {rest : List Value} {h : xH} {n : Nat} {P : Option Value → xH → Nat → Prop} {b : Nat} {x0 : Int32} {x1 : Int64} (hd : decode M.2.1 pc = .ok (.invokevirtual i, 3)) (hl : Cond.methodLink M.1.cls i (mMo_waste).1 ∈ ev_T) {fs : List Value} (hb : h b = some (.inr (8, fs))) (hW : (rest.map fun v => v.category).sum ≤ 8) (hb1 : bc1 + bc2 = bc) (hb2 : bs1 + bs2 = bs) (k : ev_Run G l d bc1 bs1 mMo_waste 0 [some (.ref b), some (.int x0), some (.long x1), none] [] h n (fun v h' n' => ev_Run G l (d + 1) bc2 bs2 M (pc + 3) L (ev_psh v rest) h' n' P)) : ev_Run G l (d + 1) bc bs M pc L (.long x1 :: .int x0 :: .ref b :: rest) h n P :=
  ev_callV (As := [.int x0, .long x1]) (mm := 0) hd kMo_waste vMo_waste wMo_waste hl hb rfl rfl rfl hW (Nat.le_of_ble_eq_true rfl) hb1 hb2 k
theorem cz_Mo_hold {G : xG} {l : Launch} {d bc bs : Nat} {M : xM} {pc i : Nat} {L : List (Option Value)} {rest : List Value} {h : xH} {n : Nat} {P : Option Value → xH → Nat → Prop} {b : Nat} {x0 : Int32} {x1 : Int32} (hd : decode M.2.1 pc = .ok (.invokevirtual i, 3)) (hl : Cond.methodLink M.1.cls i (mMo_hold).1 ∈ ev_T) {fs : List Value} (hb : h b = some (.inr (8, fs))) (hW : (rest.map fun v => v.category).sum ≤ 8) (k : ev_Run G l d 0 0 mMo_hold 0 [some (.ref b), some (.int x0), some (.int x1)] [] h n (fun v h' n' => ev_Run G l (d + 1) bc bs M (pc + 3) L (ev_psh v rest) h' n' P)) : ev_Run G l (d + 1) bc bs M pc L (.int x1 :: .int x0 :: .ref b :: rest) h n P :=
  ev_callV (As := [.int x0, .int x1]) (mm := 0) hd kMo_hold vMo_hold wMo_hold hl hb rfl rfl rfl hW (Nat.le_of_ble_eq_true rfl) (Nat.zero_add _) (Nat.zero_add _) k
theorem ca_Mo_hold {G : xG} {l : Launch} {d bc bs bc1 bs1 bc2 bs2 : Nat} {M : xM} {pc i : Nat} {L : List (Option Value)} {rest : List Value} {h : xH} {n : Nat} {P : Option Value → xH → Nat → Prop} {b : Nat} {x0 : Int32} {x1 : Int32} (hd : decode M.2.1 pc = .ok (.invokevirtual i, 3)) (hl : Cond.methodLink M.1.cls i (mMo_hold).1 ∈ ev_T) {fs : List Value} (hb : h b = some (.inr (8, fs))) (hW : (rest.map fun v => v.category).sum ≤ 8) (hb1 : bc1 + bc2 = bc) (hb2 : bs1 + bs2 = bs) (k : ev_Run G l d bc1 bs1 mMo_hold 0 [some (.ref b), some (.int x0), some (.int x1)] [] h n (fun v h' n' => ev_Run G l (d + 1) bc2 bs2 M (pc + 3) L (ev_psh v rest) h' n' P)) : ev_Run G l (d + 1) bc bs M pc L (.int x1 :: .int x0 :: .ref b :: rest) h n P :=
  ev_callV (As := [.int x0, .int x1]) (mm := 0) hd kMo_hold vMo_hold wMo_hold hl hb rfl rfl rfl hW (Nat.le_of_ble_eq_true rfl) hb1 hb2 k
theorem cz_Mo_correct {G : xG} {l : Launch} {d bc bs : Nat} {M : xM} {pc i : Nat} {L : List (Option Value)} {rest : List Value} {h : xH} {n : Nat} {P : Option Value → xH → Nat → Prop} {b : Nat} {x0 : Int32} {x1 : Int64} (hd : decode M.2.1 pc = .ok (.invokevirtual i, 3)) (hl : Cond.methodLink M.1.cls i (mMo_correct).1 ∈ ev_T) {fs : List Value} (hb : h b = some (.inr (8, fs))) (hW : (rest.map fun v => v.category).sum ≤ 8) (k : ev_Run G l d 0 0 mMo_correct 0 [some (.ref b), some (.int x0), some (.long x1), none, none, none] [] h n (fun v h' n' => ev_Run G l (d + 1) bc bs M (pc + 3) L (ev_psh v rest) h' n' P)) : ev_Run G l (d + 1) bc bs M pc L (.long x1 :: .int x0 :: .ref b :: rest) h n P :=
  ev_callV (As := [.int x0, .long x1]) (mm := 2) hd kMo_correct vMo_correct wMo_correct hl hb rfl rfl rfl hW (Nat.le_of_ble_eq_true rfl) (Nat.zero_add _) (Nat.zero_add _) k
theorem ca_Mo_correct {G : xG} {l : Launch} {d bc bs bc1 bs1 bc2 bs2 : Nat} {M : xM} {pc i : Nat} {L : List (Option Value)} {rest : List Value} {h : xH} {n : Nat} {P : Option Value → xH → Nat → Prop} {b : Nat} {x0 : Int32} {x1 : Int64} (hd : decode M.2.1 pc = .ok (.invokevirtual i, 3)) (hl : Cond.methodLink M.1.cls i (mMo_correct).1 ∈ ev_T) {fs : List Value} (hb : h b = some (.inr (8, fs))) (hW : (rest.map fun v => v.category).sum ≤ 8) (hb1 : bc1 + bc2 = bc) (hb2 : bs1 + bs2 = bs) (k : ev_Run G l d bc1 bs1 mMo_correct 0 [some (.ref b), some (.int x0), some (.long x1), none, none, none] [] h n (fun v h' n' => ev_Run G l (d + 1) bc2 bs2 M (pc + 3) L (ev_psh v rest) h' n' P)) : ev_Run G l (d + 1) bc bs M pc L (.long x1 :: .int x0 :: .ref b :: rest) h n P :=
  ev_callV (As := [.int x0, .long x1]) (mm := 2) hd kMo_correct vMo_correct wMo_correct hl hb rfl rfl rfl hW (Nat.le_of_ble_eq_true rfl) hb1 hb2 k
theorem cz_Mo_told {G : xG} {l : Launch} {d bc bs : Nat} {M : xM} {pc i : Nat} {L : List (Option Value)} {rest : List Value} {h : xH} {n : Nat} {P : Option Value → xH → Nat → Prop} {b : Nat} {x0 : Int32} {x1 : Int32} (hd : decode M.2.1 pc = .ok (.invokevirtual i, 3)) (hl : Cond.methodLink M.1.cls i (mMo_told).1 ∈ ev_T) {fs : List Value} (hb : h b = some (.inr (8, fs))) (hW : (rest.map fun v => v.category).sum ≤ 8) (k : ev_Run G l d 0 0 mMo_told 0 [some (.ref b), some (.int x0), some (.int x1)] [] h n (fun v h' n' => ev_Run G l (d + 1) bc bs M (pc + 3) L (ev_psh v rest) h' n' P)) : ev_Run G l (d + 1) bc bs M pc L (.int x1 :: .int x0 :: .ref b :: rest) h n P :=
  ev_callV (As := [.int x0, .int x1]) (mm := 0) hd kMo_told vMo_told wMo_told hl hb rfl rfl rfl hW (Nat.le_of_ble_eq_true rfl) (Nat.zero_add _) (Nat.zero_add _) k
theorem ca_Mo_told {G : xG} {l : Launch} {d bc bs bc1 bs1 bc2 bs2 : Nat} {M : xM} {pc i : Nat} {L : List (Option Value)} {rest : List Value} {h : xH} {n : Nat} {P : Option Value → xH → Nat → Prop} {b : Nat} {x0 : Int32} {x1 : Int32} (hd : decode M.2.1 pc = .ok (.invokevirtual i, 3)) (hl : Cond.methodLink M.1.cls i (mMo_told).1 ∈ ev_T) {fs : List Value} (hb : h b = some (.inr (8, fs))) (hW : (rest.map fun v => v.category).sum ≤ 8) (hb1 : bc1 + bc2 = bc) (hb2 : bs1 + bs2 = bs) (k : ev_Run G l d bc1 bs1 mMo_told 0 [some (.ref b), some (.int x0), some (.int x1)] [] h n (fun v h' n' => ev_Run G l (d + 1) bc2 bs2 M (pc + 3) L (ev_psh v rest) h' n' P)) : ev_Run G l (d + 1) bc bs M pc L (.int x1 :: .int x0 :: .ref b :: rest) h n P :=
  ev_callV (As := [.int x0, .int x1]) (mm := 0) hd kMo_told vMo_told wMo_told hl hb rfl rfl rfl hW (Nat.le_of_ble_eq_true rfl) hb1 hb2 k
theorem cz_Mo_layer {G : xG} {l : Launch} {d bc bs : Nat} {M : xM} {pc i : Nat} {L : List (Option Value)} {rest : List Value} {h : xH} {n : Nat} {P : Option Value → xH → Nat → Prop} {b : Nat} {x0 : Int32} {x1 : Int32} {x2 : Int32} (hd : decode M.2.1 pc = .ok (.invokevirtual i, 3)) (hl : Cond.methodLink M.1.cls i (mMo_layer).1 ∈ ev_T) {fs : List Value} (hb : h b = some (.inr (8, fs))) (hW : (rest.map fun v => v.category).sum ≤ 8) (k : ev_Run G l d 0 0 mMo_layer 0 [some (.ref b), some (.int x0), some (.int x1), some (.int x2)] [] h n (fun v h' n' => ev_Run G l (d + 1) bc bs M (pc + 3) L (ev_psh v rest) h' n' P)) : ev_Run G l (d + 1) bc bs M pc L (.int x2 :: .int x1 :: .int x0 :: .ref b :: rest) h n P :=
  ev_callV (As := [.int x0, .int x1, .int x2]) (mm := 0) hd kMo_layer vMo_layer wMo_layer hl hb rfl rfl rfl hW (Nat.le_of_ble_eq_true rfl) (Nat.zero_add _) (Nat.zero_add _) k
theorem ca_Mo_layer {G : xG} {l : Launch} {d bc bs bc1 bs1 bc2 bs2 : Nat} {M : xM} {pc i : Nat} {L : List (Option Value)} {rest : List Value} {h : xH} {n : Nat} {P : Option Value → xH → Nat → Prop} {b : Nat} {x0 : Int32} {x1 : Int32} {x2 : Int32} (hd : decode M.2.1 pc = .ok (.invokevirtual i, 3)) (hl : Cond.methodLink M.1.cls i (mMo_layer).1 ∈ ev_T) {fs : List Value} (hb : h b = some (.inr (8, fs))) (hW : (rest.map fun v => v.category).sum ≤ 8) (hb1 : bc1 + bc2 = bc) (hb2 : bs1 + bs2 = bs) (k : ev_Run G l d bc1 bs1 mMo_layer 0 [some (.ref b), some (.int x0), some (.int x1), some (.int x2)] [] h n (fun v h' n' => ev_Run G l (d + 1) bc2 bs2 M (pc + 3) L (ev_psh v rest) h' n' P)) : ev_Run G l (d + 1) bc bs M pc L (.int x2 :: .int x1 :: .int x0 :: .ref b :: rest) h n P :=
  ev_callV (As := [.int x0, .int x1, .int x2]) (mm := 0) hd kMo_layer vMo_layer wMo_layer hl hb rfl rfl rfl hW (Nat.le_of_ble_eq_true rfl) hb1 hb2 k
theorem cz_Mo_share {G : xG} {l : Launch} {d bc bs : Nat} {M : xM} {pc i : Nat} {L : List (Option Value)} {rest : List Value} {h : xH} {n : Nat} {P : Option Value → xH → Nat → Prop} {b : Nat} {x0 : Int32} {x1 : Int32} {x2 : Int32} (hd : decode M.2.1 pc = .ok (.invokevirtual i, 3)) (hl : Cond.methodLink M.1.cls i (mMo_share).1 ∈ ev_T) {fs : List Value} (hb : h b = some (.inr (8, fs))) (hW : (rest.map fun v => v.category).sum ≤ 8) (k : ev_Run G l d 0 0 mMo_share 0 [some (.ref b), some (.int x0), some (.int x1), some (.int x2), none, none, none, none, none, none, none, none, none, none] [] h n (fun v h' n' => ev_Run G l (d + 1) bc bs M (pc + 3) L (ev_psh v rest) h' n' P)) : ev_Run G l (d + 1) bc bs M pc L (.int x2 :: .int x1 :: .int x0 :: .ref b :: rest) h n P :=
  ev_callV (As := [.int x0, .int x1, .int x2]) (mm := 10) hd kMo_share vMo_share wMo_share hl hb rfl rfl rfl hW (Nat.le_of_ble_eq_true rfl) (Nat.zero_add _) (Nat.zero_add _) k
theorem ca_Mo_share {G : xG} {l : Launch} {d bc bs bc1 bs1 bc2 bs2 : Nat} {M : xM} {pc i : Nat} {L : List (Option Value)} {rest : List Value} {h : xH} {n : Nat} {P : Option Value → xH → Nat → Prop} {b : Nat} {x0 : Int32} {x1 : Int32} {x2 : Int32} (hd : decode M.2.1 pc = .ok (.invokevirtual i, 3)) (hl : Cond.methodLink M.1.cls i (mMo_share).1 ∈ ev_T) {fs : List Value} (hb : h b = some (.inr (8, fs))) (hW : (rest.map fun v => v.category).sum ≤ 8) (hb1 : bc1 + bc2 = bc) (hb2 : bs1 + bs2 = bs) (k : ev_Run G l d bc1 bs1 mMo_share 0 [some (.ref b), some (.int x0), some (.int x1), some (.int x2), none, none, none, none, none, none, none, none, none, none] [] h n (fun v h' n' => ev_Run G l (d + 1) bc2 bs2 M (pc + 3) L (ev_psh v rest) h' n' P)) : ev_Run G l (d + 1) bc bs M pc L (.int x2 :: .int x1 :: .int x0 :: .ref b :: rest) h n P :=
  ev_callV (As := [.int x0, .int x1, .int x2]) (mm := 10) hd kMo_share vMo_share wMo_share hl hb rfl rfl rfl hW (Nat.le_of_ble_eq_true rfl) hb1 hb2 k
theorem cz_Mo_gramsFrom {G : xG} {l : Launch} {d bc bs : Nat} {M : xM} {pc i : Nat} {L : List (Option Value)} {rest : List Value} {h : xH} {n : Nat} {P : Option Value → xH → Nat → Prop} {b : Nat} {x0 : Int32} {x1 : Int32} (hd : decode M.2.1 pc = .ok (.invokevirtual i, 3)) (hl : Cond.methodLink M.1.cls i (mMo_gramsFrom).1 ∈ ev_T) {fs : List Value} (hb : h b = some (.inr (8, fs))) (hW : (rest.map fun v => v.category).sum ≤ 8) (k : ev_Run G l d 0 0 mMo_gramsFrom 0 [some (.ref b), some (.int x0), some (.int x1), none, none, none] [] h n (fun v h' n' => ev_Run G l (d + 1) bc bs M (pc + 3) L (ev_psh v rest) h' n' P)) : ev_Run G l (d + 1) bc bs M pc L (.int x1 :: .int x0 :: .ref b :: rest) h n P :=
  ev_callV (As := [.int x0, .int x1]) (mm := 3) hd kMo_gramsFrom vMo_gramsFrom wMo_gramsFrom hl hb rfl rfl rfl hW (Nat.le_of_ble_eq_true rfl) (Nat.zero_add _) (Nat.zero_add _) k
theorem ca_Mo_gramsFrom {G : xG} {l : Launch} {d bc bs bc1 bs1 bc2 bs2 : Nat} {M : xM} {pc i : Nat} {L : List (Option Value)} {rest : List Value} {h : xH} {n : Nat} {P : Option Value → xH → Nat → Prop} {b : Nat} {x0 : Int32} {x1 : Int32} (hd : decode M.2.1 pc = .ok (.invokevirtual i, 3)) (hl : Cond.methodLink M.1.cls i (mMo_gramsFrom).1 ∈ ev_T) {fs : List Value} (hb : h b = some (.inr (8, fs))) (hW : (rest.map fun v => v.category).sum ≤ 8) (hb1 : bc1 + bc2 = bc) (hb2 : bs1 + bs2 = bs) (k : ev_Run G l d bc1 bs1 mMo_gramsFrom 0 [some (.ref b), some (.int x0), some (.int x1), none, none, none] [] h n (fun v h' n' => ev_Run G l (d + 1) bc2 bs2 M (pc + 3) L (ev_psh v rest) h' n' P)) : ev_Run G l (d + 1) bc bs M pc L (.int x1 :: .int x0 :: .ref b :: rest) h n P :=
  ev_callV (As := [.int x0, .int x1]) (mm := 3) hd kMo_gramsFrom vMo_gramsFrom wMo_gramsFrom hl hb rfl rfl rfl hW (Nat.le_of_ble_eq_true rfl) hb1 hb2 k
theorem cz_Mo_back {G : xG} {l : Launch} {d bc bs : Nat} {M : xM} {pc i : Nat} {L : List (Option Value)} {rest : List Value} {h : xH} {n : Nat} {P : Option Value → xH → Nat → Prop} {b : Nat} {x0 : Int32} {x1 : Int32} (hd : decode M.2.1 pc = .ok (.invokevirtual i, 3)) (hl : Cond.methodLink M.1.cls i (mMo_back).1 ∈ ev_T) {fs : List Value} (hb : h b = some (.inr (8, fs))) (hW : (rest.map fun v => v.category).sum ≤ 8) (k : ev_Run G l d 0 0 mMo_back 0 [some (.ref b), some (.int x0), some (.int x1), none, none] [] h n (fun v h' n' => ev_Run G l (d + 1) bc bs M (pc + 3) L (ev_psh v rest) h' n' P)) : ev_Run G l (d + 1) bc bs M pc L (.int x1 :: .int x0 :: .ref b :: rest) h n P :=
  ev_callV (As := [.int x0, .int x1]) (mm := 2) hd kMo_back vMo_back wMo_back hl hb rfl rfl rfl hW (Nat.le_of_ble_eq_true rfl) (Nat.zero_add _) (Nat.zero_add _) k
theorem ca_Mo_back {G : xG} {l : Launch} {d bc bs bc1 bs1 bc2 bs2 : Nat} {M : xM} {pc i : Nat} {L : List (Option Value)} {rest : List Value} {h : xH} {n : Nat} {P : Option Value → xH → Nat → Prop} {b : Nat} {x0 : Int32} {x1 : Int32} (hd : decode M.2.1 pc = .ok (.invokevirtual i, 3)) (hl : Cond.methodLink M.1.cls i (mMo_back).1 ∈ ev_T) {fs : List Value} (hb : h b = some (.inr (8, fs))) (hW : (rest.map fun v => v.category).sum ≤ 8) (hb1 : bc1 + bc2 = bc) (hb2 : bs1 + bs2 = bs) (k : ev_Run G l d bc1 bs1 mMo_back 0 [some (.ref b), some (.int x0), some (.int x1), none, none] [] h n (fun v h' n' => ev_Run G l (d + 1) bc2 bs2 M (pc + 3) L (ev_psh v rest) h' n' P)) : ev_Run G l (d + 1) bc bs M pc L (.int x1 :: .int x0 :: .ref b :: rest) h n P :=
  ev_callV (As := [.int x0, .int x1]) (mm := 2) hd kMo_back vMo_back wMo_back hl hb rfl rfl rfl hW (Nat.le_of_ble_eq_true rfl) hb1 hb2 k
theorem cz_Mo_recall {G : xG} {l : Launch} {d bc bs : Nat} {M : xM} {pc i : Nat} {L : List (Option Value)} {rest : List Value} {h : xH} {n : Nat} {P : Option Value → xH → Nat → Prop} {b : Nat} {x0 : Int32} (hd : decode M.2.1 pc = .ok (.invokevirtual i, 3)) (hl : Cond.methodLink M.1.cls i (mMo_recall).1 ∈ ev_T) {fs : List Value} (hb : h b = some (.inr (8, fs))) (hW : (rest.map fun v => v.category).sum ≤ 8) (k : ev_Run G l d 0 0 mMo_recall 0 [some (.ref b), some (.int x0), none, none] [] h n (fun v h' n' => ev_Run G l (d + 1) bc bs M (pc + 3) L (ev_psh v rest) h' n' P)) : ev_Run G l (d + 1) bc bs M pc L (.int x0 :: .ref b :: rest) h n P :=
  ev_callV (As := [.int x0]) (mm := 2) hd kMo_recall vMo_recall wMo_recall hl hb rfl rfl rfl hW (Nat.le_of_ble_eq_true rfl) (Nat.zero_add _) (Nat.zero_add _) k
theorem ca_Mo_recall {G : xG} {l : Launch} {d bc bs bc1 bs1 bc2 bs2 : Nat} {M : xM} {pc i : Nat} {L : List (Option Value)} {rest : List Value} {h : xH} {n : Nat} {P : Option Value → xH → Nat → Prop} {b : Nat} {x0 : Int32} (hd : decode M.2.1 pc = .ok (.invokevirtual i, 3)) (hl : Cond.methodLink M.1.cls i (mMo_recall).1 ∈ ev_T) {fs : List Value} (hb : h b = some (.inr (8, fs))) (hW : (rest.map fun v => v.category).sum ≤ 8) (hb1 : bc1 + bc2 = bc) (hb2 : bs1 + bs2 = bs) (k : ev_Run G l d bc1 bs1 mMo_recall 0 [some (.ref b), some (.int x0), none, none] [] h n (fun v h' n' => ev_Run G l (d + 1) bc2 bs2 M (pc + 3) L (ev_psh v rest) h' n' P)) : ev_Run G l (d + 1) bc bs M pc L (.int x0 :: .ref b :: rest) h n P :=
  ev_callV (As := [.int x0]) (mm := 2) hd kMo_recall vMo_recall wMo_recall hl hb rfl rfl rfl hW (Nat.le_of_ble_eq_true rfl) hb1 hb2 k
theorem cz_Mo_boxesOf {G : xG} {l : Launch} {d bc bs : Nat} {M : xM} {pc i : Nat} {L : List (Option Value)} {rest : List Value} {h : xH} {n : Nat} {P : Option Value → xH → Nat → Prop} {b : Nat} {x0 : Int32} {x1 : Int32} (hd : decode M.2.1 pc = .ok (.invokevirtual i, 3)) (hl : Cond.methodLink M.1.cls i (mMo_boxesOf).1 ∈ ev_T) {fs : List Value} (hb : h b = some (.inr (8, fs))) (hW : (rest.map fun v => v.category).sum ≤ 8) (k : ev_Run G l d 0 0 mMo_boxesOf 0 [some (.ref b), some (.int x0), some (.int x1), none, none] [] h n (fun v h' n' => ev_Run G l (d + 1) bc bs M (pc + 3) L (ev_psh v rest) h' n' P)) : ev_Run G l (d + 1) bc bs M pc L (.int x1 :: .int x0 :: .ref b :: rest) h n P :=
  ev_callV (As := [.int x0, .int x1]) (mm := 2) hd kMo_boxesOf vMo_boxesOf wMo_boxesOf hl hb rfl rfl rfl hW (Nat.le_of_ble_eq_true rfl) (Nat.zero_add _) (Nat.zero_add _) k
theorem ca_Mo_boxesOf {G : xG} {l : Launch} {d bc bs bc1 bs1 bc2 bs2 : Nat} {M : xM} {pc i : Nat} {L : List (Option Value)} {rest : List Value} {h : xH} {n : Nat} {P : Option Value → xH → Nat → Prop} {b : Nat} {x0 : Int32} {x1 : Int32} (hd : decode M.2.1 pc = .ok (.invokevirtual i, 3)) (hl : Cond.methodLink M.1.cls i (mMo_boxesOf).1 ∈ ev_T) {fs : List Value} (hb : h b = some (.inr (8, fs))) (hW : (rest.map fun v => v.category).sum ≤ 8) (hb1 : bc1 + bc2 = bc) (hb2 : bs1 + bs2 = bs) (k : ev_Run G l d bc1 bs1 mMo_boxesOf 0 [some (.ref b), some (.int x0), some (.int x1), none, none] [] h n (fun v h' n' => ev_Run G l (d + 1) bc2 bs2 M (pc + 3) L (ev_psh v rest) h' n' P)) : ev_Run G l (d + 1) bc bs M pc L (.int x1 :: .int x0 :: .ref b :: rest) h n P :=
  ev_callV (As := [.int x0, .int x1]) (mm := 2) hd kMo_boxesOf vMo_boxesOf wMo_boxesOf hl hb rfl rfl rfl hW (Nat.le_of_ble_eq_true rfl) hb1 hb2 k
theorem cz_Mo_recalled {G : xG} {l : Launch} {d bc bs : Nat} {M : xM} {pc i : Nat} {L : List (Option Value)} {rest : List Value} {h : xH} {n : Nat} {P : Option Value → xH → Nat → Prop} {b : Nat} {x0 : Int32} {x1 : Int32} (hd : decode M.2.1 pc = .ok (.invokevirtual i, 3)) (hl : Cond.methodLink M.1.cls i (mMo_recalled).1 ∈ ev_T) {fs : List Value} (hb : h b = some (.inr (8, fs))) (hW : (rest.map fun v => v.category).sum ≤ 8) (k : ev_Run G l d 0 0 mMo_recalled 0 [some (.ref b), some (.int x0), some (.int x1), none, none] [] h n (fun v h' n' => ev_Run G l (d + 1) bc bs M (pc + 3) L (ev_psh v rest) h' n' P)) : ev_Run G l (d + 1) bc bs M pc L (.int x1 :: .int x0 :: .ref b :: rest) h n P :=
  ev_callV (As := [.int x0, .int x1]) (mm := 2) hd kMo_recalled vMo_recalled wMo_recalled hl hb rfl rfl rfl hW (Nat.le_of_ble_eq_true rfl) (Nat.zero_add _) (Nat.zero_add _) k
theorem ca_Mo_recalled {G : xG} {l : Launch} {d bc bs bc1 bs1 bc2 bs2 : Nat} {M : xM} {pc i : Nat} {L : List (Option Value)} {rest : List Value} {h : xH} {n : Nat} {P : Option Value → xH → Nat → Prop} {b : Nat} {x0 : Int32} {x1 : Int32} (hd : decode M.2.1 pc = .ok (.invokevirtual i, 3)) (hl : Cond.methodLink M.1.cls i (mMo_recalled).1 ∈ ev_T) {fs : List Value} (hb : h b = some (.inr (8, fs))) (hW : (rest.map fun v => v.category).sum ≤ 8) (hb1 : bc1 + bc2 = bc) (hb2 : bs1 + bs2 = bs) (k : ev_Run G l d bc1 bs1 mMo_recalled 0 [some (.ref b), some (.int x0), some (.int x1), none, none] [] h n (fun v h' n' => ev_Run G l (d + 1) bc2 bs2 M (pc + 3) L (ev_psh v rest) h' n' P)) : ev_Run G l (d + 1) bc bs M pc L (.int x1 :: .int x0 :: .ref b :: rest) h n P :=
  ev_callV (As := [.int x0, .int x1]) (mm := 2) hd kMo_recalled vMo_recalled wMo_recalled hl hb rfl rfl rfl hW (Nat.le_of_ble_eq_true rfl) hb1 hb2 k
theorem cz_Mo_doubled {G : xG} {l : Launch} {d bc bs : Nat} {M : xM} {pc i : Nat} {L : List (Option Value)} {rest : List Value} {h : xH} {n : Nat} {P : Option Value → xH → Nat → Prop} {b : Nat} {x0 : Int32} (hd : decode M.2.1 pc = .ok (.invokevirtual i, 3)) (hl : Cond.methodLink M.1.cls i (mMo_doubled).1 ∈ ev_T) {fs : List Value} (hb : h b = some (.inr (8, fs))) (hW : (rest.map fun v => v.category).sum ≤ 8) (k : ev_Run G l d 0 0 mMo_doubled 0 [some (.ref b), some (.int x0), none, none, none, none] [] h n (fun v h' n' => ev_Run G l (d + 1) bc bs M (pc + 3) L (ev_psh v rest) h' n' P)) : ev_Run G l (d + 1) bc bs M pc L (.int x0 :: .ref b :: rest) h n P :=
  ev_callV (As := [.int x0]) (mm := 4) hd kMo_doubled vMo_doubled wMo_doubled hl hb rfl rfl rfl hW (Nat.le_of_ble_eq_true rfl) (Nat.zero_add _) (Nat.zero_add _) k
theorem ca_Mo_doubled {G : xG} {l : Launch} {d bc bs bc1 bs1 bc2 bs2 : Nat} {M : xM} {pc i : Nat} {L : List (Option Value)} {rest : List Value} {h : xH} {n : Nat} {P : Option Value → xH → Nat → Prop} {b : Nat} {x0 : Int32} (hd : decode M.2.1 pc = .ok (.invokevirtual i, 3)) (hl : Cond.methodLink M.1.cls i (mMo_doubled).1 ∈ ev_T) {fs : List Value} (hb : h b = some (.inr (8, fs))) (hW : (rest.map fun v => v.category).sum ≤ 8) (hb1 : bc1 + bc2 = bc) (hb2 : bs1 + bs2 = bs) (k : ev_Run G l d bc1 bs1 mMo_doubled 0 [some (.ref b), some (.int x0), none, none, none, none] [] h n (fun v h' n' => ev_Run G l (d + 1) bc2 bs2 M (pc + 3) L (ev_psh v rest) h' n' P)) : ev_Run G l (d + 1) bc bs M pc L (.int x0 :: .ref b :: rest) h n P :=
  ev_callV (As := [.int x0]) (mm := 4) hd kMo_doubled vMo_doubled wMo_doubled hl hb rfl rfl rfl hW (Nat.le_of_ble_eq_true rfl) hb1 hb2 k
theorem cz_Mo_unit {G : xG} {l : Launch} {d bc bs : Nat} {M : xM} {pc i : Nat} {L : List (Option Value)} {rest : List Value} {h : xH} {n : Nat} {P : Option Value → xH → Nat → Prop} {b : Nat} {x0 : Int32} (hd : decode M.2.1 pc = .ok (.invokevirtual i, 3)) (hl : Cond.methodLink M.1.cls i (mMo_unit).1 ∈ ev_T) {fs : List Value} (hb : h b = some (.inr (8, fs))) (hW : (rest.map fun v => v.category).sum ≤ 8) (k : ev_Run G l d 0 0 mMo_unit 0 [some (.ref b), some (.int x0)] [] h n (fun v h' n' => ev_Run G l (d + 1) bc bs M (pc + 3) L (ev_psh v rest) h' n' P)) : ev_Run G l (d + 1) bc bs M pc L (.int x0 :: .ref b :: rest) h n P :=
  ev_callV (As := [.int x0]) (mm := 0) hd kMo_unit vMo_unit wMo_unit hl hb rfl rfl rfl hW (Nat.le_of_ble_eq_true rfl) (Nat.zero_add _) (Nat.zero_add _) k
theorem ca_Mo_unit {G : xG} {l : Launch} {d bc bs bc1 bs1 bc2 bs2 : Nat} {M : xM} {pc i : Nat} {L : List (Option Value)} {rest : List Value} {h : xH} {n : Nat} {P : Option Value → xH → Nat → Prop} {b : Nat} {x0 : Int32} (hd : decode M.2.1 pc = .ok (.invokevirtual i, 3)) (hl : Cond.methodLink M.1.cls i (mMo_unit).1 ∈ ev_T) {fs : List Value} (hb : h b = some (.inr (8, fs))) (hW : (rest.map fun v => v.category).sum ≤ 8) (hb1 : bc1 + bc2 = bc) (hb2 : bs1 + bs2 = bs) (k : ev_Run G l d bc1 bs1 mMo_unit 0 [some (.ref b), some (.int x0)] [] h n (fun v h' n' => ev_Run G l (d + 1) bc2 bs2 M (pc + 3) L (ev_psh v rest) h' n' P)) : ev_Run G l (d + 1) bc bs M pc L (.int x0 :: .ref b :: rest) h n P :=
  ev_callV (As := [.int x0]) (mm := 0) hd kMo_unit vMo_unit wMo_unit hl hb rfl rfl rfl hW (Nat.le_of_ble_eq_true rfl) hb1 hb2 k
theorem cz_Mo_names {G : xG} {l : Launch} {d bc bs : Nat} {M : xM} {pc i : Nat} {L : List (Option Value)} {rest : List Value} {h : xH} {n : Nat} {P : Option Value → xH → Nat → Prop} {b : Nat} (hd : decode M.2.1 pc = .ok (.invokevirtual i, 3)) (hl : Cond.methodLink M.1.cls i (mMo_names).1 ∈ ev_T) {fs : List Value} (hb : h b = some (.inr (8, fs))) (hW : (rest.map fun v => v.category).sum ≤ 8) (k : ev_Run G l d 0 0 mMo_names 0 [some (.ref b), none, none, none, none] [] h n (fun v h' n' => ev_Run G l (d + 1) bc bs M (pc + 3) L (ev_psh v rest) h' n' P)) : ev_Run G l (d + 1) bc bs M pc L (.ref b :: rest) h n P :=
  ev_callV (As := []) (mm := 4) hd kMo_names vMo_names wMo_names hl hb rfl rfl rfl hW (Nat.le_of_ble_eq_true rfl) (Nat.zero_add _) (Nat.zero_add _) k
theorem ca_Mo_names {G : xG} {l : Launch} {d bc bs bc1 bs1 bc2 bs2 : Nat} {M : xM} {pc i : Nat} {L : List (Option Value)} {rest : List Value} {h : xH} {n : Nat} {P : Option Value → xH → Nat → Prop} {b : Nat} (hd : decode M.2.1 pc = .ok (.invokevirtual i, 3)) (hl : Cond.methodLink M.1.cls i (mMo_names).1 ∈ ev_T) {fs : List Value} (hb : h b = some (.inr (8, fs))) (hW : (rest.map fun v => v.category).sum ≤ 8) (hb1 : bc1 + bc2 = bc) (hb2 : bs1 + bs2 = bs) (k : ev_Run G l d bc1 bs1 mMo_names 0 [some (.ref b), none, none, none, none] [] h n (fun v h' n' => ev_Run G l (d + 1) bc2 bs2 M (pc + 3) L (ev_psh v rest) h' n' P)) : ev_Run G l (d + 1) bc bs M pc L (.ref b :: rest) h n P :=
  ev_callV (As := []) (mm := 4) hd kMo_names vMo_names wMo_names hl hb rfl rfl rfl hW (Nat.le_of_ble_eq_true rfl) hb1 hb2 k
theorem cz_Mo_skip {G : xG} {l : Launch} {d bc bs : Nat} {M : xM} {pc i : Nat} {L : List (Option Value)} {rest : List Value} {h : xH} {n : Nat} {P : Option Value → xH → Nat → Prop} {b : Nat} (hd : decode M.2.1 pc = .ok (.invokevirtual i, 3)) (hl : Cond.methodLink M.1.cls i (mMo_skip).1 ∈ ev_T) {fs : List Value} (hb : h b = some (.inr (8, fs))) (hW : (rest.map fun v => v.category).sum ≤ 8) (k : ev_Run G l d 0 0 mMo_skip 0 [some (.ref b)] [] h n (fun v h' n' => ev_Run G l (d + 1) bc bs M (pc + 3) L (ev_psh v rest) h' n' P)) : ev_Run G l (d + 1) bc bs M pc L (.ref b :: rest) h n P :=
  ev_callV (As := []) (mm := 0) hd kMo_skip vMo_skip wMo_skip hl hb rfl rfl rfl hW (Nat.le_of_ble_eq_true rfl) (Nat.zero_add _) (Nat.zero_add _) k
theorem ca_Mo_skip {G : xG} {l : Launch} {d bc bs bc1 bs1 bc2 bs2 : Nat} {M : xM} {pc i : Nat} {L : List (Option Value)} {rest : List Value} {h : xH} {n : Nat} {P : Option Value → xH → Nat → Prop} {b : Nat} (hd : decode M.2.1 pc = .ok (.invokevirtual i, 3)) (hl : Cond.methodLink M.1.cls i (mMo_skip).1 ∈ ev_T) {fs : List Value} (hb : h b = some (.inr (8, fs))) (hW : (rest.map fun v => v.category).sum ≤ 8) (hb1 : bc1 + bc2 = bc) (hb2 : bs1 + bs2 = bs) (k : ev_Run G l d bc1 bs1 mMo_skip 0 [some (.ref b)] [] h n (fun v h' n' => ev_Run G l (d + 1) bc2 bs2 M (pc + 3) L (ev_psh v rest) h' n' P)) : ev_Run G l (d + 1) bc bs M pc L (.ref b :: rest) h n P :=
  ev_callV (As := []) (mm := 0) hd kMo_skip vMo_skip wMo_skip hl hb rfl rfl rfl hW (Nat.le_of_ble_eq_true rfl) hb1 hb2 k
theorem cz_Mo_number {G : xG} {l : Launch} {d bc bs : Nat} {M : xM} {pc i : Nat} {L : List (Option Value)} {rest : List Value} {h : xH} {n : Nat} {P : Option Value → xH → Nat → Prop} {b : Nat} {x0 : Int32} {x1 : Int32} (hd : decode M.2.1 pc = .ok (.invokevirtual i, 3)) (hl : Cond.methodLink M.1.cls i (mMo_number).1 ∈ ev_T) {fs : List Value} (hb : h b = some (.inr (8, fs))) (hW : (rest.map fun v => v.category).sum ≤ 8) (k : ev_Run G l d 0 0 mMo_number 0 [some (.ref b), some (.int x0), some (.int x1), none, none, none] [] h n (fun v h' n' => ev_Run G l (d + 1) bc bs M (pc + 3) L (ev_psh v rest) h' n' P)) : ev_Run G l (d + 1) bc bs M pc L (.int x1 :: .int x0 :: .ref b :: rest) h n P :=
  ev_callV (As := [.int x0, .int x1]) (mm := 3) hd kMo_number vMo_number wMo_number hl hb rfl rfl rfl hW (Nat.le_of_ble_eq_true rfl) (Nat.zero_add _) (Nat.zero_add _) k
theorem ca_Mo_number {G : xG} {l : Launch} {d bc bs bc1 bs1 bc2 bs2 : Nat} {M : xM} {pc i : Nat} {L : List (Option Value)} {rest : List Value} {h : xH} {n : Nat} {P : Option Value → xH → Nat → Prop} {b : Nat} {x0 : Int32} {x1 : Int32} (hd : decode M.2.1 pc = .ok (.invokevirtual i, 3)) (hl : Cond.methodLink M.1.cls i (mMo_number).1 ∈ ev_T) {fs : List Value} (hb : h b = some (.inr (8, fs))) (hW : (rest.map fun v => v.category).sum ≤ 8) (hb1 : bc1 + bc2 = bc) (hb2 : bs1 + bs2 = bs) (k : ev_Run G l d bc1 bs1 mMo_number 0 [some (.ref b), some (.int x0), some (.int x1), none, none, none] [] h n (fun v h' n' => ev_Run G l (d + 1) bc2 bs2 M (pc + 3) L (ev_psh v rest) h' n' P)) : ev_Run G l (d + 1) bc bs M pc L (.int x1 :: .int x0 :: .ref b :: rest) h n P :=
  ev_callV (As := [.int x0, .int x1]) (mm := 3) hd kMo_number vMo_number wMo_number hl hb rfl rfl rfl hW (Nat.le_of_ble_eq_true rfl) hb1 hb2 k
theorem cz_Mo_isDigit {G : xG} {l : Launch} {d bc bs : Nat} {M : xM} {pc i : Nat} {L : List (Option Value)} {rest : List Value} {h : xH} {n : Nat} {P : Option Value → xH → Nat → Prop} {b : Nat} {x0 : Int32} (hd : decode M.2.1 pc = .ok (.invokevirtual i, 3)) (hl : Cond.methodLink M.1.cls i (mMo_isDigit).1 ∈ ev_T) {fs : List Value} (hb : h b = some (.inr (8, fs))) (hW : (rest.map fun v => v.category).sum ≤ 8) (k : ev_Run G l d 0 0 mMo_isDigit 0 [some (.ref b), some (.int x0)] [] h n (fun v h' n' => ev_Run G l (d + 1) bc bs M (pc + 3) L (ev_psh v rest) h' n' P)) : ev_Run G l (d + 1) bc bs M pc L (.int x0 :: .ref b :: rest) h n P :=
  ev_callV (As := [.int x0]) (mm := 0) hd kMo_isDigit vMo_isDigit wMo_isDigit hl hb rfl rfl rfl hW (Nat.le_of_ble_eq_true rfl) (Nat.zero_add _) (Nat.zero_add _) k
theorem ca_Mo_isDigit {G : xG} {l : Launch} {d bc bs bc1 bs1 bc2 bs2 : Nat} {M : xM} {pc i : Nat} {L : List (Option Value)} {rest : List Value} {h : xH} {n : Nat} {P : Option Value → xH → Nat → Prop} {b : Nat} {x0 : Int32} (hd : decode M.2.1 pc = .ok (.invokevirtual i, 3)) (hl : Cond.methodLink M.1.cls i (mMo_isDigit).1 ∈ ev_T) {fs : List Value} (hb : h b = some (.inr (8, fs))) (hW : (rest.map fun v => v.category).sum ≤ 8) (hb1 : bc1 + bc2 = bc) (hb2 : bs1 + bs2 = bs) (k : ev_Run G l d bc1 bs1 mMo_isDigit 0 [some (.ref b), some (.int x0)] [] h n (fun v h' n' => ev_Run G l (d + 1) bc2 bs2 M (pc + 3) L (ev_psh v rest) h' n' P)) : ev_Run G l (d + 1) bc bs M pc L (.int x0 :: .ref b :: rest) h n P :=
  ev_callV (As := [.int x0]) (mm := 0) hd kMo_isDigit vMo_isDigit wMo_isDigit hl hb rfl rfl rfl hW (Nat.le_of_ble_eq_true rfl) hb1 hb2 k
theorem cz_Mo_sign {G : xG} {l : Launch} {d bc bs : Nat} {M : xM} {pc i : Nat} {L : List (Option Value)} {rest : List Value} {h : xH} {n : Nat} {P : Option Value → xH → Nat → Prop} {b : Nat} {x0 : Int32} (hd : decode M.2.1 pc = .ok (.invokevirtual i, 3)) (hl : Cond.methodLink M.1.cls i (mMo_sign).1 ∈ ev_T) {fs : List Value} (hb : h b = some (.inr (8, fs))) (hW : (rest.map fun v => v.category).sum ≤ 8) (k : ev_Run G l d 0 0 mMo_sign 0 [some (.ref b), some (.int x0), none] [] h n (fun v h' n' => ev_Run G l (d + 1) bc bs M (pc + 3) L (ev_psh v rest) h' n' P)) : ev_Run G l (d + 1) bc bs M pc L (.int x0 :: .ref b :: rest) h n P :=
  ev_callV (As := [.int x0]) (mm := 1) hd kMo_sign vMo_sign wMo_sign hl hb rfl rfl rfl hW (Nat.le_of_ble_eq_true rfl) (Nat.zero_add _) (Nat.zero_add _) k
theorem ca_Mo_sign {G : xG} {l : Launch} {d bc bs bc1 bs1 bc2 bs2 : Nat} {M : xM} {pc i : Nat} {L : List (Option Value)} {rest : List Value} {h : xH} {n : Nat} {P : Option Value → xH → Nat → Prop} {b : Nat} {x0 : Int32} (hd : decode M.2.1 pc = .ok (.invokevirtual i, 3)) (hl : Cond.methodLink M.1.cls i (mMo_sign).1 ∈ ev_T) {fs : List Value} (hb : h b = some (.inr (8, fs))) (hW : (rest.map fun v => v.category).sum ≤ 8) (hb1 : bc1 + bc2 = bc) (hb2 : bs1 + bs2 = bs) (k : ev_Run G l d bc1 bs1 mMo_sign 0 [some (.ref b), some (.int x0), none] [] h n (fun v h' n' => ev_Run G l (d + 1) bc2 bs2 M (pc + 3) L (ev_psh v rest) h' n' P)) : ev_Run G l (d + 1) bc bs M pc L (.int x0 :: .ref b :: rest) h n P :=
  ev_callV (As := [.int x0]) (mm := 1) hd kMo_sign vMo_sign wMo_sign hl hb rfl rfl rfl hW (Nat.le_of_ble_eq_true rfl) hb1 hb2 k
theorem cz_Mo_name {G : xG} {l : Launch} {d bc bs : Nat} {M : xM} {pc i : Nat} {L : List (Option Value)} {rest : List Value} {h : xH} {n : Nat} {P : Option Value → xH → Nat → Prop} {b : Nat} {x0 : Int32} {x1 : Int32} {x2 : Int32} (hd : decode M.2.1 pc = .ok (.invokevirtual i, 3)) (hl : Cond.methodLink M.1.cls i (mMo_name).1 ∈ ev_T) {fs : List Value} (hb : h b = some (.inr (8, fs))) (hW : (rest.map fun v => v.category).sum ≤ 8) (k : ev_Run G l d 0 0 mMo_name 0 [some (.ref b), some (.int x0), some (.int x1), some (.int x2), none, none, none, none] [] h n (fun v h' n' => ev_Run G l (d + 1) bc bs M (pc + 3) L (ev_psh v rest) h' n' P)) : ev_Run G l (d + 1) bc bs M pc L (.int x2 :: .int x1 :: .int x0 :: .ref b :: rest) h n P :=
  ev_callV (As := [.int x0, .int x1, .int x2]) (mm := 4) hd kMo_name vMo_name wMo_name hl hb rfl rfl rfl hW (Nat.le_of_ble_eq_true rfl) (Nat.zero_add _) (Nat.zero_add _) k
theorem ca_Mo_name {G : xG} {l : Launch} {d bc bs bc1 bs1 bc2 bs2 : Nat} {M : xM} {pc i : Nat} {L : List (Option Value)} {rest : List Value} {h : xH} {n : Nat} {P : Option Value → xH → Nat → Prop} {b : Nat} {x0 : Int32} {x1 : Int32} {x2 : Int32} (hd : decode M.2.1 pc = .ok (.invokevirtual i, 3)) (hl : Cond.methodLink M.1.cls i (mMo_name).1 ∈ ev_T) {fs : List Value} (hb : h b = some (.inr (8, fs))) (hW : (rest.map fun v => v.category).sum ≤ 8) (hb1 : bc1 + bc2 = bc) (hb2 : bs1 + bs2 = bs) (k : ev_Run G l d bc1 bs1 mMo_name 0 [some (.ref b), some (.int x0), some (.int x1), some (.int x2), none, none, none, none] [] h n (fun v h' n' => ev_Run G l (d + 1) bc2 bs2 M (pc + 3) L (ev_psh v rest) h' n' P)) : ev_Run G l (d + 1) bc bs M pc L (.int x2 :: .int x1 :: .int x0 :: .ref b :: rest) h n P :=
  ev_callV (As := [.int x0, .int x1, .int x2]) (mm := 4) hd kMo_name vMo_name wMo_name hl hb rfl rfl rfl hW (Nat.le_of_ble_eq_true rfl) hb1 hb2 k
theorem cz_Mo_certificate {G : xG} {l : Launch} {d bc bs : Nat} {M : xM} {pc i : Nat} {L : List (Option Value)} {rest : List Value} {h : xH} {n : Nat} {P : Option Value → xH → Nat → Prop} {b : Nat} {x0 : Int32} (hd : decode M.2.1 pc = .ok (.invokevirtual i, 3)) (hl : Cond.methodLink M.1.cls i (mMo_certificate).1 ∈ ev_T) {fs : List Value} (hb : h b = some (.inr (8, fs))) (hW : (rest.map fun v => v.category).sum ≤ 8) (k : ev_Run G l d 0 0 mMo_certificate 0 [some (.ref b), some (.int x0)] [] h n (fun v h' n' => ev_Run G l (d + 1) bc bs M (pc + 3) L (ev_psh v rest) h' n' P)) : ev_Run G l (d + 1) bc bs M pc L (.int x0 :: .ref b :: rest) h n P :=
  ev_callV (As := [.int x0]) (mm := 0) hd kMo_certificate vMo_certificate wMo_certificate hl hb rfl rfl rfl hW (Nat.le_of_ble_eq_true rfl) (Nat.zero_add _) (Nat.zero_add _) k
theorem ca_Mo_certificate {G : xG} {l : Launch} {d bc bs bc1 bs1 bc2 bs2 : Nat} {M : xM} {pc i : Nat} {L : List (Option Value)} {rest : List Value} {h : xH} {n : Nat} {P : Option Value → xH → Nat → Prop} {b : Nat} {x0 : Int32} (hd : decode M.2.1 pc = .ok (.invokevirtual i, 3)) (hl : Cond.methodLink M.1.cls i (mMo_certificate).1 ∈ ev_T) {fs : List Value} (hb : h b = some (.inr (8, fs))) (hW : (rest.map fun v => v.category).sum ≤ 8) (hb1 : bc1 + bc2 = bc) (hb2 : bs1 + bs2 = bs) (k : ev_Run G l d bc1 bs1 mMo_certificate 0 [some (.ref b), some (.int x0)] [] h n (fun v h' n' => ev_Run G l (d + 1) bc2 bs2 M (pc + 3) L (ev_psh v rest) h' n' P)) : ev_Run G l (d + 1) bc bs M pc L (.int x0 :: .ref b :: rest) h n P :=
  ev_callV (As := [.int x0]) (mm := 0) hd kMo_certificate vMo_certificate wMo_certificate hl hb rfl rfl rfl hW (Nat.le_of_ble_eq_true rfl) hb1 hb2 k
theorem cz_Mo_credit {G : xG} {l : Launch} {d bc bs : Nat} {M : xM} {pc i : Nat} {L : List (Option Value)} {rest : List Value} {h : xH} {n : Nat} {P : Option Value → xH → Nat → Prop} {b : Nat} {x0 : Int32} {x1 : Int64} {x2 : Int32} (hd : decode M.2.1 pc = .ok (.invokevirtual i, 3)) (hl : Cond.methodLink M.1.cls i (mMo_credit).1 ∈ ev_T) {fs : List Value} (hb : h b = some (.inr (8, fs))) (hW : (rest.map fun v => v.category).sum ≤ 8) (k : ev_Run G l d 0 0 mMo_credit 0 [some (.ref b), some (.int x0), some (.long x1), none, some (.int x2)] [] h n (fun v h' n' => ev_Run G l (d + 1) bc bs M (pc + 3) L (ev_psh v rest) h' n' P)) : ev_Run G l (d + 1) bc bs M pc L (.int x2 :: .long x1 :: .int x0 :: .ref b :: rest) h n P :=
  ev_callV (As := [.int x0, .long x1, .int x2]) (mm := 0) hd kMo_credit vMo_credit wMo_credit hl hb rfl rfl rfl hW (Nat.le_of_ble_eq_true rfl) (Nat.zero_add _) (Nat.zero_add _) k
theorem ca_Mo_credit {G : xG} {l : Launch} {d bc bs bc1 bs1 bc2 bs2 : Nat} {M : xM} {pc i : Nat} {L : List (Option Value)} {rest : List Value} {h : xH} {n : Nat} {P : Option Value → xH → Nat → Prop} {b : Nat} {x0 : Int32} {x1 : Int64} {x2 : Int32} (hd : decode M.2.1 pc = .ok (.invokevirtual i, 3)) (hl : Cond.methodLink M.1.cls i (mMo_credit).1 ∈ ev_T) {fs : List Value} (hb : h b = some (.inr (8, fs))) (hW : (rest.map fun v => v.category).sum ≤ 8) (hb1 : bc1 + bc2 = bc) (hb2 : bs1 + bs2 = bs) (k : ev_Run G l d bc1 bs1 mMo_credit 0 [some (.ref b), some (.int x0), some (.long x1), none, some (.int x2)] [] h n (fun v h' n' => ev_Run G l (d + 1) bc2 bs2 M (pc + 3) L (ev_psh v rest) h' n' P)) : ev_Run G l (d + 1) bc bs M pc L (.int x2 :: .long x1 :: .int x0 :: .ref b :: rest) h n P :=
  ev_callV (As := [.int x0, .long x1, .int x2]) (mm := 0) hd kMo_credit vMo_credit wMo_credit hl hb rfl rfl rfl hW (Nat.le_of_ble_eq_true rfl) hb1 hb2 k
theorem cz_Mo_mayAct {G : xG} {l : Launch} {d bc bs : Nat} {M : xM} {pc i : Nat} {L : List (Option Value)} {rest : List Value} {h : xH} {n : Nat} {P : Option Value → xH → Nat → Prop} {b : Nat} {x0 : Int32} {x1 : Int64} {x2 : Int32} (hd : decode M.2.1 pc = .ok (.invokevirtual i, 3)) (hl : Cond.methodLink M.1.cls i (mMo_mayAct).1 ∈ ev_T) {fs : List Value} (hb : h b = some (.inr (8, fs))) (hW : (rest.map fun v => v.category).sum ≤ 8) (k : ev_Run G l d 0 0 mMo_mayAct 0 [some (.ref b), some (.int x0), some (.long x1), none, some (.int x2)] [] h n (fun v h' n' => ev_Run G l (d + 1) bc bs M (pc + 3) L (ev_psh v rest) h' n' P)) : ev_Run G l (d + 1) bc bs M pc L (.int x2 :: .long x1 :: .int x0 :: .ref b :: rest) h n P :=
  ev_callV (As := [.int x0, .long x1, .int x2]) (mm := 0) hd kMo_mayAct vMo_mayAct wMo_mayAct hl hb rfl rfl rfl hW (Nat.le_of_ble_eq_true rfl) (Nat.zero_add _) (Nat.zero_add _) k
theorem ca_Mo_mayAct {G : xG} {l : Launch} {d bc bs bc1 bs1 bc2 bs2 : Nat} {M : xM} {pc i : Nat} {L : List (Option Value)} {rest : List Value} {h : xH} {n : Nat} {P : Option Value → xH → Nat → Prop} {b : Nat} {x0 : Int32} {x1 : Int64} {x2 : Int32} (hd : decode M.2.1 pc = .ok (.invokevirtual i, 3)) (hl : Cond.methodLink M.1.cls i (mMo_mayAct).1 ∈ ev_T) {fs : List Value} (hb : h b = some (.inr (8, fs))) (hW : (rest.map fun v => v.category).sum ≤ 8) (hb1 : bc1 + bc2 = bc) (hb2 : bs1 + bs2 = bs) (k : ev_Run G l d bc1 bs1 mMo_mayAct 0 [some (.ref b), some (.int x0), some (.long x1), none, some (.int x2)] [] h n (fun v h' n' => ev_Run G l (d + 1) bc2 bs2 M (pc + 3) L (ev_psh v rest) h' n' P)) : ev_Run G l (d + 1) bc bs M pc L (.int x2 :: .long x1 :: .int x0 :: .ref b :: rest) h n P :=
  ev_callV (As := [.int x0, .long x1, .int x2]) (mm := 0) hd kMo_mayAct vMo_mayAct wMo_mayAct hl hb rfl rfl rfl hW (Nat.le_of_ble_eq_true rfl) hb1 hb2 k
theorem cz_Mo_act {G : xG} {l : Launch} {d bc bs : Nat} {M : xM} {pc i : Nat} {L : List (Option Value)} {rest : List Value} {h : xH} {n : Nat} {P : Option Value → xH → Nat → Prop} {b : Nat} {x0 : Int32} {x1 : Int64} {x2 : Int32} (hd : decode M.2.1 pc = .ok (.invokevirtual i, 3)) (hl : Cond.methodLink M.1.cls i (mMo_act).1 ∈ ev_T) {fs : List Value} (hb : h b = some (.inr (8, fs))) (hW : (rest.map fun v => v.category).sum ≤ 8) (k : ev_Run G l d 0 0 mMo_act 0 [some (.ref b), some (.int x0), some (.long x1), none, some (.int x2)] [] h n (fun v h' n' => ev_Run G l (d + 1) bc bs M (pc + 3) L (ev_psh v rest) h' n' P)) : ev_Run G l (d + 1) bc bs M pc L (.int x2 :: .long x1 :: .int x0 :: .ref b :: rest) h n P :=
  ev_callV (As := [.int x0, .long x1, .int x2]) (mm := 0) hd kMo_act vMo_act wMo_act hl hb rfl rfl rfl hW (Nat.le_of_ble_eq_true rfl) (Nat.zero_add _) (Nat.zero_add _) k
theorem ca_Mo_act {G : xG} {l : Launch} {d bc bs bc1 bs1 bc2 bs2 : Nat} {M : xM} {pc i : Nat} {L : List (Option Value)} {rest : List Value} {h : xH} {n : Nat} {P : Option Value → xH → Nat → Prop} {b : Nat} {x0 : Int32} {x1 : Int64} {x2 : Int32} (hd : decode M.2.1 pc = .ok (.invokevirtual i, 3)) (hl : Cond.methodLink M.1.cls i (mMo_act).1 ∈ ev_T) {fs : List Value} (hb : h b = some (.inr (8, fs))) (hW : (rest.map fun v => v.category).sum ≤ 8) (hb1 : bc1 + bc2 = bc) (hb2 : bs1 + bs2 = bs) (k : ev_Run G l d bc1 bs1 mMo_act 0 [some (.ref b), some (.int x0), some (.long x1), none, some (.int x2)] [] h n (fun v h' n' => ev_Run G l (d + 1) bc2 bs2 M (pc + 3) L (ev_psh v rest) h' n' P)) : ev_Run G l (d + 1) bc bs M pc L (.int x2 :: .long x1 :: .int x0 :: .ref b :: rest) h n P :=
  ev_callV (As := [.int x0, .long x1, .int x2]) (mm := 0) hd kMo_act vMo_act wMo_act hl hb rfl rfl rfl hW (Nat.le_of_ble_eq_true rfl) hb1 hb2 k
theorem cz_Mo_claim {G : xG} {l : Launch} {d bc bs : Nat} {M : xM} {pc i : Nat} {L : List (Option Value)} {rest : List Value} {h : xH} {n : Nat} {P : Option Value → xH → Nat → Prop} {b : Nat} {x0 : Int32} {x1 : Int64} {x2 : Int32} (hd : decode M.2.1 pc = .ok (.invokevirtual i, 3)) (hl : Cond.methodLink M.1.cls i (mMo_claim).1 ∈ ev_T) {fs : List Value} (hb : h b = some (.inr (8, fs))) (hW : (rest.map fun v => v.category).sum ≤ 8) (k : ev_Run G l d 0 0 mMo_claim 0 [some (.ref b), some (.int x0), some (.long x1), none, some (.int x2), none, none] [] h n (fun v h' n' => ev_Run G l (d + 1) bc bs M (pc + 3) L (ev_psh v rest) h' n' P)) : ev_Run G l (d + 1) bc bs M pc L (.int x2 :: .long x1 :: .int x0 :: .ref b :: rest) h n P :=
  ev_callV (As := [.int x0, .long x1, .int x2]) (mm := 2) hd kMo_claim vMo_claim wMo_claim hl hb rfl rfl rfl hW (Nat.le_of_ble_eq_true rfl) (Nat.zero_add _) (Nat.zero_add _) k
theorem ca_Mo_claim {G : xG} {l : Launch} {d bc bs bc1 bs1 bc2 bs2 : Nat} {M : xM} {pc i : Nat} {L : List (Option Value)} {rest : List Value} {h : xH} {n : Nat} {P : Option Value → xH → Nat → Prop} {b : Nat} {x0 : Int32} {x1 : Int64} {x2 : Int32} (hd : decode M.2.1 pc = .ok (.invokevirtual i, 3)) (hl : Cond.methodLink M.1.cls i (mMo_claim).1 ∈ ev_T) {fs : List Value} (hb : h b = some (.inr (8, fs))) (hW : (rest.map fun v => v.category).sum ≤ 8) (hb1 : bc1 + bc2 = bc) (hb2 : bs1 + bs2 = bs) (k : ev_Run G l d bc1 bs1 mMo_claim 0 [some (.ref b), some (.int x0), some (.long x1), none, some (.int x2), none, none] [] h n (fun v h' n' => ev_Run G l (d + 1) bc2 bs2 M (pc + 3) L (ev_psh v rest) h' n' P)) : ev_Run G l (d + 1) bc bs M pc L (.int x2 :: .long x1 :: .int x0 :: .ref b :: rest) h n P :=
  ev_callV (As := [.int x0, .long x1, .int x2]) (mm := 2) hd kMo_claim vMo_claim wMo_claim hl hb rfl rfl rfl hW (Nat.le_of_ble_eq_true rfl) hb1 hb2 k
theorem cz_Mo_balanceOf {G : xG} {l : Launch} {d bc bs : Nat} {M : xM} {pc i : Nat} {L : List (Option Value)} {rest : List Value} {h : xH} {n : Nat} {P : Option Value → xH → Nat → Prop} {b : Nat} {x0 : Int32} {x1 : Int32} (hd : decode M.2.1 pc = .ok (.invokevirtual i, 3)) (hl : Cond.methodLink M.1.cls i (mMo_balanceOf).1 ∈ ev_T) {fs : List Value} (hb : h b = some (.inr (8, fs))) (hW : (rest.map fun v => v.category).sum ≤ 8) (k : ev_Run G l d 0 0 mMo_balanceOf 0 [some (.ref b), some (.int x0), some (.int x1), none, none, none] [] h n (fun v h' n' => ev_Run G l (d + 1) bc bs M (pc + 3) L (ev_psh v rest) h' n' P)) : ev_Run G l (d + 1) bc bs M pc L (.int x1 :: .int x0 :: .ref b :: rest) h n P :=
  ev_callV (As := [.int x0, .int x1]) (mm := 3) hd kMo_balanceOf vMo_balanceOf wMo_balanceOf hl hb rfl rfl rfl hW (Nat.le_of_ble_eq_true rfl) (Nat.zero_add _) (Nat.zero_add _) k
theorem ca_Mo_balanceOf {G : xG} {l : Launch} {d bc bs bc1 bs1 bc2 bs2 : Nat} {M : xM} {pc i : Nat} {L : List (Option Value)} {rest : List Value} {h : xH} {n : Nat} {P : Option Value → xH → Nat → Prop} {b : Nat} {x0 : Int32} {x1 : Int32} (hd : decode M.2.1 pc = .ok (.invokevirtual i, 3)) (hl : Cond.methodLink M.1.cls i (mMo_balanceOf).1 ∈ ev_T) {fs : List Value} (hb : h b = some (.inr (8, fs))) (hW : (rest.map fun v => v.category).sum ≤ 8) (hb1 : bc1 + bc2 = bc) (hb2 : bs1 + bs2 = bs) (k : ev_Run G l d bc1 bs1 mMo_balanceOf 0 [some (.ref b), some (.int x0), some (.int x1), none, none, none] [] h n (fun v h' n' => ev_Run G l (d + 1) bc2 bs2 M (pc + 3) L (ev_psh v rest) h' n' P)) : ev_Run G l (d + 1) bc bs M pc L (.int x1 :: .int x0 :: .ref b :: rest) h n P :=
  ev_callV (As := [.int x0, .int x1]) (mm := 3) hd kMo_balanceOf vMo_balanceOf wMo_balanceOf hl hb rfl rfl rfl hW (Nat.le_of_ble_eq_true rfl) hb1 hb2 k
theorem cz_Mo_balance {G : xG} {l : Launch} {d bc bs : Nat} {M : xM} {pc i : Nat} {L : List (Option Value)} {rest : List Value} {h : xH} {n : Nat} {P : Option Value → xH → Nat → Prop} {b : Nat} {x0 : Int32} {x1 : Int32} (hd : decode M.2.1 pc = .ok (.invokevirtual i, 3)) (hl : Cond.methodLink M.1.cls i (mMo_balance).1 ∈ ev_T) {fs : List Value} (hb : h b = some (.inr (8, fs))) (hW : (rest.map fun v => v.category).sum ≤ 8) (k : ev_Run G l d 0 0 mMo_balance 0 [some (.ref b), some (.int x0), some (.int x1)] [] h n (fun v h' n' => ev_Run G l (d + 1) bc bs M (pc + 3) L (ev_psh v rest) h' n' P)) : ev_Run G l (d + 1) bc bs M pc L (.int x1 :: .int x0 :: .ref b :: rest) h n P :=
  ev_callV (As := [.int x0, .int x1]) (mm := 0) hd kMo_balance vMo_balance wMo_balance hl hb rfl rfl rfl hW (Nat.le_of_ble_eq_true rfl) (Nat.zero_add _) (Nat.zero_add _) k
theorem ca_Mo_balance {G : xG} {l : Launch} {d bc bs bc1 bs1 bc2 bs2 : Nat} {M : xM} {pc i : Nat} {L : List (Option Value)} {rest : List Value} {h : xH} {n : Nat} {P : Option Value → xH → Nat → Prop} {b : Nat} {x0 : Int32} {x1 : Int32} (hd : decode M.2.1 pc = .ok (.invokevirtual i, 3)) (hl : Cond.methodLink M.1.cls i (mMo_balance).1 ∈ ev_T) {fs : List Value} (hb : h b = some (.inr (8, fs))) (hW : (rest.map fun v => v.category).sum ≤ 8) (hb1 : bc1 + bc2 = bc) (hb2 : bs1 + bs2 = bs) (k : ev_Run G l d bc1 bs1 mMo_balance 0 [some (.ref b), some (.int x0), some (.int x1)] [] h n (fun v h' n' => ev_Run G l (d + 1) bc2 bs2 M (pc + 3) L (ev_psh v rest) h' n' P)) : ev_Run G l (d + 1) bc bs M pc L (.int x1 :: .int x0 :: .ref b :: rest) h n P :=
  ev_callV (As := [.int x0, .int x1]) (mm := 0) hd kMo_balance vMo_balance wMo_balance hl hb rfl rfl rfl hW (Nat.le_of_ble_eq_true rfl) hb1 hb2 k
theorem cz_Mo_warm {G : xG} {l : Launch} {d bc bs : Nat} {M : xM} {pc i : Nat} {L : List (Option Value)} {rest : List Value} {h : xH} {n : Nat} {P : Option Value → xH → Nat → Prop} {b : Nat} {x0 : Int32} {x1 : Int32} (hd : decode M.2.1 pc = .ok (.invokevirtual i, 3)) (hl : Cond.methodLink M.1.cls i (mMo_warm).1 ∈ ev_T) {fs : List Value} (hb : h b = some (.inr (8, fs))) (hW : (rest.map fun v => v.category).sum ≤ 8) (k : ev_Run G l d 0 0 mMo_warm 0 [some (.ref b), some (.int x0), some (.int x1)] [] h n (fun v h' n' => ev_Run G l (d + 1) bc bs M (pc + 3) L (ev_psh v rest) h' n' P)) : ev_Run G l (d + 1) bc bs M pc L (.int x1 :: .int x0 :: .ref b :: rest) h n P :=
  ev_callV (As := [.int x0, .int x1]) (mm := 0) hd kMo_warm vMo_warm wMo_warm hl hb rfl rfl rfl hW (Nat.le_of_ble_eq_true rfl) (Nat.zero_add _) (Nat.zero_add _) k
theorem ca_Mo_warm {G : xG} {l : Launch} {d bc bs bc1 bs1 bc2 bs2 : Nat} {M : xM} {pc i : Nat} {L : List (Option Value)} {rest : List Value} {h : xH} {n : Nat} {P : Option Value → xH → Nat → Prop} {b : Nat} {x0 : Int32} {x1 : Int32} (hd : decode M.2.1 pc = .ok (.invokevirtual i, 3)) (hl : Cond.methodLink M.1.cls i (mMo_warm).1 ∈ ev_T) {fs : List Value} (hb : h b = some (.inr (8, fs))) (hW : (rest.map fun v => v.category).sum ≤ 8) (hb1 : bc1 + bc2 = bc) (hb2 : bs1 + bs2 = bs) (k : ev_Run G l d bc1 bs1 mMo_warm 0 [some (.ref b), some (.int x0), some (.int x1)] [] h n (fun v h' n' => ev_Run G l (d + 1) bc2 bs2 M (pc + 3) L (ev_psh v rest) h' n' P)) : ev_Run G l (d + 1) bc bs M pc L (.int x1 :: .int x0 :: .ref b :: rest) h n P :=
  ev_callV (As := [.int x0, .int x1]) (mm := 0) hd kMo_warm vMo_warm wMo_warm hl hb rfl rfl rfl hW (Nat.le_of_ble_eq_true rfl) hb1 hb2 k
theorem cz_Mo_paper {G : xG} {l : Launch} {d bc bs : Nat} {M : xM} {pc i : Nat} {L : List (Option Value)} {rest : List Value} {h : xH} {n : Nat} {P : Option Value → xH → Nat → Prop} {b : Nat} {x0 : Int32} {x1 : Int32} {x2 : Int32} (hd : decode M.2.1 pc = .ok (.invokevirtual i, 3)) (hl : Cond.methodLink M.1.cls i (mMo_paper).1 ∈ ev_T) {fs : List Value} (hb : h b = some (.inr (8, fs))) (hW : (rest.map fun v => v.category).sum ≤ 8) (k : ev_Run G l d 0 0 mMo_paper 0 [some (.ref b), some (.int x0), some (.int x1), some (.int x2), none] [] h n (fun v h' n' => ev_Run G l (d + 1) bc bs M (pc + 3) L (ev_psh v rest) h' n' P)) : ev_Run G l (d + 1) bc bs M pc L (.int x2 :: .int x1 :: .int x0 :: .ref b :: rest) h n P :=
  ev_callV (As := [.int x0, .int x1, .int x2]) (mm := 1) hd kMo_paper vMo_paper wMo_paper hl hb rfl rfl rfl hW (Nat.le_of_ble_eq_true rfl) (Nat.zero_add _) (Nat.zero_add _) k
theorem ca_Mo_paper {G : xG} {l : Launch} {d bc bs bc1 bs1 bc2 bs2 : Nat} {M : xM} {pc i : Nat} {L : List (Option Value)} {rest : List Value} {h : xH} {n : Nat} {P : Option Value → xH → Nat → Prop} {b : Nat} {x0 : Int32} {x1 : Int32} {x2 : Int32} (hd : decode M.2.1 pc = .ok (.invokevirtual i, 3)) (hl : Cond.methodLink M.1.cls i (mMo_paper).1 ∈ ev_T) {fs : List Value} (hb : h b = some (.inr (8, fs))) (hW : (rest.map fun v => v.category).sum ≤ 8) (hb1 : bc1 + bc2 = bc) (hb2 : bs1 + bs2 = bs) (k : ev_Run G l d bc1 bs1 mMo_paper 0 [some (.ref b), some (.int x0), some (.int x1), some (.int x2), none] [] h n (fun v h' n' => ev_Run G l (d + 1) bc2 bs2 M (pc + 3) L (ev_psh v rest) h' n' P)) : ev_Run G l (d + 1) bc bs M pc L (.int x2 :: .int x1 :: .int x0 :: .ref b :: rest) h n P :=
  ev_callV (As := [.int x0, .int x1, .int x2]) (mm := 1) hd kMo_paper vMo_paper wMo_paper hl hb rfl rfl rfl hW (Nat.le_of_ble_eq_true rfl) hb1 hb2 k
theorem cz_Mo_writeNumber {G : xG} {l : Launch} {d bc bs : Nat} {M : xM} {pc i : Nat} {L : List (Option Value)} {rest : List Value} {h : xH} {n : Nat} {P : Option Value → xH → Nat → Prop} {b : Nat} {x0 : Int64} (hd : decode M.2.1 pc = .ok (.invokevirtual i, 3)) (hl : Cond.methodLink M.1.cls i (mMo_writeNumber).1 ∈ ev_T) {fs : List Value} (hb : h b = some (.inr (8, fs))) (hW : (rest.map fun v => v.category).sum ≤ 8) (k : ev_Run G l d 0 0 mMo_writeNumber 0 [some (.ref b), some (.long x0), none, none, none] [] h n (fun v h' n' => ev_Run G l (d + 1) bc bs M (pc + 3) L (ev_psh v rest) h' n' P)) : ev_Run G l (d + 1) bc bs M pc L (.long x0 :: .ref b :: rest) h n P :=
  ev_callV (As := [.long x0]) (mm := 2) hd kMo_writeNumber vMo_writeNumber wMo_writeNumber hl hb rfl rfl rfl hW (Nat.le_of_ble_eq_true rfl) (Nat.zero_add _) (Nat.zero_add _) k
theorem ca_Mo_writeNumber {G : xG} {l : Launch} {d bc bs bc1 bs1 bc2 bs2 : Nat} {M : xM} {pc i : Nat} {L : List (Option Value)} {rest : List Value} {h : xH} {n : Nat} {P : Option Value → xH → Nat → Prop} {b : Nat} {x0 : Int64} (hd : decode M.2.1 pc = .ok (.invokevirtual i, 3)) (hl : Cond.methodLink M.1.cls i (mMo_writeNumber).1 ∈ ev_T) {fs : List Value} (hb : h b = some (.inr (8, fs))) (hW : (rest.map fun v => v.category).sum ≤ 8) (hb1 : bc1 + bc2 = bc) (hb2 : bs1 + bs2 = bs) (k : ev_Run G l d bc1 bs1 mMo_writeNumber 0 [some (.ref b), some (.long x0), none, none, none] [] h n (fun v h' n' => ev_Run G l (d + 1) bc2 bs2 M (pc + 3) L (ev_psh v rest) h' n' P)) : ev_Run G l (d + 1) bc bs M pc L (.long x0 :: .ref b :: rest) h n P :=
  ev_callV (As := [.long x0]) (mm := 2) hd kMo_writeNumber vMo_writeNumber wMo_writeNumber hl hb rfl rfl rfl hW (Nat.le_of_ble_eq_true rfl) hb1 hb2 k
theorem cz_Mo_write {G : xG} {l : Launch} {d bc bs : Nat} {M : xM} {pc i : Nat} {L : List (Option Value)} {rest : List Value} {h : xH} {n : Nat} {P : Option Value → xH → Nat → Prop} {b : Nat} {x0 : Int32} (hd : decode M.2.1 pc = .ok (.invokevirtual i, 3)) (hl : Cond.methodLink M.1.cls i (mMo_write).1 ∈ ev_T) {fs : List Value} (hb : h b = some (.inr (8, fs))) (hW : (rest.map fun v => v.category).sum ≤ 8) (k : ev_Run G l d 0 0 mMo_write 0 [some (.ref b), some (.int x0)] [] h n (fun v h' n' => ev_Run G l (d + 1) bc bs M (pc + 3) L (ev_psh v rest) h' n' P)) : ev_Run G l (d + 1) bc bs M pc L (.int x0 :: .ref b :: rest) h n P :=
  ev_callV (As := [.int x0]) (mm := 0) hd kMo_write vMo_write wMo_write hl hb rfl rfl rfl hW (Nat.le_of_ble_eq_true rfl) (Nat.zero_add _) (Nat.zero_add _) k
theorem ca_Mo_write {G : xG} {l : Launch} {d bc bs bc1 bs1 bc2 bs2 : Nat} {M : xM} {pc i : Nat} {L : List (Option Value)} {rest : List Value} {h : xH} {n : Nat} {P : Option Value → xH → Nat → Prop} {b : Nat} {x0 : Int32} (hd : decode M.2.1 pc = .ok (.invokevirtual i, 3)) (hl : Cond.methodLink M.1.cls i (mMo_write).1 ∈ ev_T) {fs : List Value} (hb : h b = some (.inr (8, fs))) (hW : (rest.map fun v => v.category).sum ≤ 8) (hb1 : bc1 + bc2 = bc) (hb2 : bs1 + bs2 = bs) (k : ev_Run G l d bc1 bs1 mMo_write 0 [some (.ref b), some (.int x0)] [] h n (fun v h' n' => ev_Run G l (d + 1) bc2 bs2 M (pc + 3) L (ev_psh v rest) h' n' P)) : ev_Run G l (d + 1) bc bs M pc L (.int x0 :: .ref b :: rest) h n P :=
  ev_callV (As := [.int x0]) (mm := 0) hd kMo_write vMo_write wMo_write hl hb rfl rfl rfl hW (Nat.le_of_ble_eq_true rfl) hb1 hb2 k
theorem cz_Mo_all {G : xG} {l : Launch} {d bc bs : Nat} {M : xM} {pc i : Nat} {L : List (Option Value)} {rest : List Value} {h : xH} {n : Nat} {P : Option Value → xH → Nat → Prop} {b : Nat} {x0 : Int32} (hd : decode M.2.1 pc = .ok (.invokevirtual i, 3)) (hl : Cond.methodLink M.1.cls i (mMo_all).1 ∈ ev_T) {fs : List Value} (hb : h b = some (.inr (8, fs))) (hW : (rest.map fun v => v.category).sum ≤ 8) (k : ev_Run G l d 0 0 mMo_all 0 [some (.ref b), some (.int x0), none, none, none] [] h n (fun v h' n' => ev_Run G l (d + 1) bc bs M (pc + 3) L (ev_psh v rest) h' n' P)) : ev_Run G l (d + 1) bc bs M pc L (.int x0 :: .ref b :: rest) h n P :=
  ev_callV (As := [.int x0]) (mm := 3) hd kMo_all vMo_all wMo_all hl hb rfl rfl rfl hW (Nat.le_of_ble_eq_true rfl) (Nat.zero_add _) (Nat.zero_add _) k
theorem ca_Mo_all {G : xG} {l : Launch} {d bc bs bc1 bs1 bc2 bs2 : Nat} {M : xM} {pc i : Nat} {L : List (Option Value)} {rest : List Value} {h : xH} {n : Nat} {P : Option Value → xH → Nat → Prop} {b : Nat} {x0 : Int32} (hd : decode M.2.1 pc = .ok (.invokevirtual i, 3)) (hl : Cond.methodLink M.1.cls i (mMo_all).1 ∈ ev_T) {fs : List Value} (hb : h b = some (.inr (8, fs))) (hW : (rest.map fun v => v.category).sum ≤ 8) (hb1 : bc1 + bc2 = bc) (hb2 : bs1 + bs2 = bs) (k : ev_Run G l d bc1 bs1 mMo_all 0 [some (.ref b), some (.int x0), none, none, none] [] h n (fun v h' n' => ev_Run G l (d + 1) bc2 bs2 M (pc + 3) L (ev_psh v rest) h' n' P)) : ev_Run G l (d + 1) bc bs M pc L (.int x0 :: .ref b :: rest) h n P :=
  ev_callV (As := [.int x0]) (mm := 3) hd kMo_all vMo_all wMo_all hl hb rfl rfl rfl hW (Nat.le_of_ble_eq_true rfl) hb1 hb2 k
theorem cz_Mo_allIn {G : xG} {l : Launch} {d bc bs : Nat} {M : xM} {pc i : Nat} {L : List (Option Value)} {rest : List Value} {h : xH} {n : Nat} {P : Option Value → xH → Nat → Prop} {b : Nat} {x0 : Int32} (hd : decode M.2.1 pc = .ok (.invokevirtual i, 3)) (hl : Cond.methodLink M.1.cls i (mMo_allIn).1 ∈ ev_T) {fs : List Value} (hb : h b = some (.inr (8, fs))) (hW : (rest.map fun v => v.category).sum ≤ 8) (k : ev_Run G l d 0 0 mMo_allIn 0 [some (.ref b), some (.int x0), none, none, none] [] h n (fun v h' n' => ev_Run G l (d + 1) bc bs M (pc + 3) L (ev_psh v rest) h' n' P)) : ev_Run G l (d + 1) bc bs M pc L (.int x0 :: .ref b :: rest) h n P :=
  ev_callV (As := [.int x0]) (mm := 3) hd kMo_allIn vMo_allIn wMo_allIn hl hb rfl rfl rfl hW (Nat.le_of_ble_eq_true rfl) (Nat.zero_add _) (Nat.zero_add _) k
theorem ca_Mo_allIn {G : xG} {l : Launch} {d bc bs bc1 bs1 bc2 bs2 : Nat} {M : xM} {pc i : Nat} {L : List (Option Value)} {rest : List Value} {h : xH} {n : Nat} {P : Option Value → xH → Nat → Prop} {b : Nat} {x0 : Int32} (hd : decode M.2.1 pc = .ok (.invokevirtual i, 3)) (hl : Cond.methodLink M.1.cls i (mMo_allIn).1 ∈ ev_T) {fs : List Value} (hb : h b = some (.inr (8, fs))) (hW : (rest.map fun v => v.category).sum ≤ 8) (hb1 : bc1 + bc2 = bc) (hb2 : bs1 + bs2 = bs) (k : ev_Run G l d bc1 bs1 mMo_allIn 0 [some (.ref b), some (.int x0), none, none, none] [] h n (fun v h' n' => ev_Run G l (d + 1) bc2 bs2 M (pc + 3) L (ev_psh v rest) h' n' P)) : ev_Run G l (d + 1) bc bs M pc L (.int x0 :: .ref b :: rest) h n P :=
  ev_callV (As := [.int x0]) (mm := 3) hd kMo_allIn vMo_allIn wMo_allIn hl hb rfl rfl rfl hW (Nat.le_of_ble_eq_true rfl) hb1 hb2 k
end
section
/-! pure words: layers as a list of (haul, grams) -/
abbrev sL : Type := List (Nat × Nat)
def sl_tot (ls : sL) : Nat := (ls.map Prod.snd).sum
def sl_of (ls : sL) (t : Nat) : Nat := (ls.map (fun p => if p.1 = t then p.2 else 0)).sum
theorem sl_tot_take {ls : sL} {j : Nat} {p : Nat × Nat} (h : ls[j]? = some p) : sl_tot (ls.take (j + 1)) = sl_tot (ls.take j) + p.2 := by
  simp [sl_tot, List.take_add_one, h]
theorem sl_of_take {ls : sL} {j t : Nat} {p : Nat × Nat} (h : ls[j]? = some p) : sl_of (ls.take (j + 1)) t = sl_of (ls.take j) t + (if p.1 = t then p.2 else 0) := by
  simp [sl_of, List.take_add_one, h]
theorem sl_get {ls : sL} {j : Nat} (h : j < ls.length) : ∃ p, ls[j]? = some p := ⟨_, List.getElem?_eq_getElem h⟩
/-- the heap is as before but at these addresses -/
def hp_off (S : List Nat) (h h' : xH) : Prop := ∀ q : Nat, q ∉ S → h' q = h q
theorem hp_off.rf {S : List Nat} {h : xH} : hp_off S h h := fun _ _ => rfl
theorem hp_off.tr {S : List Nat} {h h' h'' : xH} (a : hp_off S h h') (b : hp_off S h' h'') : hp_off S h h'' := fun q hq => (b q hq).trans (a q hq)
theorem hp_off.set {S : List Nat} {h h' : xH} {a : Nat} {e : xE} (hh : hp_off S h h') (ha : a ∈ S) : hp_off S h (hp_set h' a e) := fun q hq => (hp_set_ne h' e (fun z : q = a => hq (by rw [z]; exact ha))).trans (hh q hq)
theorem hp_off.mono {S S' : List Nat} {h h' : xH} (a : hp_off S h h') (hs : ∀ q ∈ S, q ∈ S') : hp_off S' h h' := fun q hq => a q (fun z => hq (hs q z))
/-- a Layers object with its two arrays -/
def La (h : xH) (la ia ga : Nat) (ls : sL) : Prop := ∃ (f : Nat → Int32) (g : Nat → Int64), h la = some (.inr (1, [.ref ia, .ref ga, .int (nI ls.length)])) ∧ h ia = some (.inl (0, 80, .inl f)) ∧ h ga = some (.inl (1, 80, .inr (.inl g))) ∧ ls.length ≤ 80 ∧ ∀ (k : Nat) (p : Nat × Nat), ls[k]? = some p → f k = nI p.1 ∧ g k = lN p.2
theorem nI_lt0 {j : Nat} (h : j < 2 ^ 31) : ¬ nI j < 0 := nI_pos h
/-- an int is below 0, at n or above, or a number below n -/
theorem ix_in {x : Int32} {n : Nat} (hn : n < 2 ^ 31) (h0 : ¬ x < 0) (h1 : ¬ nI n ≤ x) : ∃ j : Nat, j < n ∧ x = nI j := by
  rcases pk_ix x hn with h | h | h
  · exact absurd h h0
  · exact absurd h h1
  · exact h
theorem lL_nlt {a b : Int64} (h : ¬ a < b) : b ≤ a := by
  rw [Int64.lt_iff_toInt_lt] at h; rw [Int64.le_iff_toInt_le]; omega
theorem lL_nle {a b : Int64} (h : ¬ a ≤ b) : b < a := by
  rw [Int64.le_iff_toInt_le] at h; rw [Int64.lt_iff_toInt_lt]; omega
theorem iI_nlt {a b : Int32} (h : ¬ a < b) : b ≤ a := by
  rw [Int32.lt_iff_toInt_lt] at h; rw [Int32.le_iff_toInt_le]; omega
theorem iI_nle {a b : Int32} (h : ¬ a ≤ b) : b < a := by
  rw [Int32.le_iff_toInt_le] at h; rw [Int32.lt_iff_toInt_lt]; omega
theorem lL_lt_nle {a b : Int64} (h : a < b) : ¬ b ≤ a := by
  rw [Int64.lt_iff_toInt_lt] at h; rw [Int64.le_iff_toInt_le]; omega
theorem iI_lt_nle {a b : Int32} (h : a < b) : ¬ b ≤ a := by
  rw [Int32.lt_iff_toInt_lt] at h; rw [Int32.le_iff_toInt_le]; omega
/-- a long from 1 to a number is a number -/
theorem lL_in {x : Int64} {m : Nat} (hm : m < 2 ^ 63) (h1 : lN 1 ≤ x) (h2 : x ≤ lN m) : ∃ g : Nat, 1 ≤ g ∧ g ≤ m ∧ x = lN g := by
  have h0 : ¬ x < 0 := by
    rw [Int64.le_iff_toInt_le, pk_lT (by omega)] at h1
    rw [Int64.lt_iff_toInt_lt, show (0 : Int64).toInt = 0 from rfl]; omega
  obtain ⟨g, hg, rfl⟩ := pk_lOf h0
  rw [pk_lLE (by omega) hg] at h1
  rw [pk_lLE hg hm] at h2
  exact ⟨g, h1, h2, rfl⟩
theorem lN_subT {a b : Nat} (ha : a < 2 ^ 62) (hb : b < 2 ^ 62) : (lN a - lN b).toInt = (a : Int) - b := by
  rw [Int64.toInt_sub, pk_lT (by omega), pk_lT (by omega)]
  exact Int.bmod_eq_of_le (by omega) (by omega)
theorem lN_neg {a b : Nat} (h : a < b) (hb : b < 2 ^ 62) : lN a - lN b ≤ lN 0 := by
  rw [Int64.le_iff_toInt_le, lN_subT (by omega) hb, pk_lT (by omega)]; omega
theorem lN_pos {a : Nat} (h : 1 ≤ a) (ha : a < 2 ^ 63) : ¬ lN a ≤ lN 0 := by
  rw [pk_lLE ha (by omega)]; omega
end
section
section LA1
variable {G : xG} {l : Launch} {d bc bs : Nat} {h : xH} {n : Nat} {P : Option Value → xH → Nat → Prop} {la ia ga : Nat} {ls : sL}
set_option maxRecDepth 20000 in
theorem La_size_ok (hL : La h la ia ga ls) (hk : P (some (.int (nI ls.length))) h n) : ev_Run G l d bc bs mLa_size 0 [some (.ref la)] [] h n P := by
  obtain ⟨f, g, h1, h2, h3, hl, hfg⟩ := hL
  refine ev_aload_n dLa_size_0 rfl rfl ?_
  refine ev_get dLa_size_1 fLa_19 h1 rfl ?_
  refine ev_iret dLa_size_4 rfl rfl ?_
  exact hk
set_option maxRecDepth 20000 in
theorem La_total_ok (hL : La h la ia ga ls) (hk : P (some (.long (lN (sl_tot ls)))) h n) : ev_Run G l d bc bs mLa_total 0 [some (.ref la), none, none, none] [] h n P := by
  obtain ⟨f, g, h1, h2, h3, hl, hfg⟩ := hL
  have loop : ∀ e j, j + e = ls.length → ev_Run G l d bc bs mLa_total 4 [some (.ref la), some (.long (lN (sl_tot (ls.take j)))), none, some (.int (nI j))] [] h n P := by
    intro e
    induction e with
    | zero =>
      intro j hj
      refine ev_iload_n dLa_total_4 rfl rfl ?_
      refine ev_aload_n dLa_total_5 rfl rfl ?_
      refine ev_get dLa_total_6 fLa_19 h1 rfl ?_
      refine ev_icmp_ge (tgt := 27) dLa_total_9 (by decide) (fun c9 => ?_) (fun c9 => absurd (nI_le (by omega) (by omega)) c9)
      refine ev_lload_n dLa_total_27 rfl rfl ?_
      refine ev_lret dLa_total_28 rfl ?_
      rw [List.take_of_length_le (by omega)]
      exact hk
    | succ e ih =>
      intro j hj
      obtain ⟨p, hp⟩ := sl_get (ls := ls) (j := j) (by omega)
      refine ev_iload_n dLa_total_4 rfl rfl ?_
      refine ev_aload_n dLa_total_5 rfl rfl ?_
      refine ev_get dLa_total_6 fLa_19 h1 rfl ?_
      refine ev_icmp_ge (tgt := 27) dLa_total_9 (by decide) (fun c9 => False.elim (absurd c9 (nI_ge (by omega) (by omega)))) (fun c9 => ?_)
      refine ev_lload_n dLa_total_12 rfl rfl ?_
      refine ev_aload_n dLa_total_13 rfl rfl ?_
      refine ev_get dLa_total_14 fLa_15 h1 rfl ?_
      refine ev_iload_n dLa_total_17 rfl rfl ?_
      refine ev_lald dLa_total_18 h3 rfl rfl (by omega) (by decide) ?_
      refine ev_ladd dLa_total_19 ?_
      refine ev_topl (y := lN (sl_tot (ls.take (j + 1)))) (by rw [(hfg j p hp).2, lN_add, sl_tot_take hp]) ?_
      refine ev_lstore_n dLa_total_20 rfl (by decide) ?_
      refine ev_iinc dLa_total_21 rfl (ev_inc1 _) (by decide) ?_
      refine ev_goto (tgt := 4) dLa_total_24 (by decide) ?_
      exact ih (j + 1) (by omega)
  refine ev_lconst (v := lN 0) dLa_total_0 (by decide) ?_
  refine ev_lstore_n dLa_total_1 rfl (by decide) ?_
  refine ev_iconst (v := nI 0) dLa_total_2 (by decide) ?_
  refine ev_istore_n dLa_total_3 rfl (by decide) ?_
  exact loop ls.length 0 (by omega)
set_option maxRecDepth 20000 in
theorem La_haulAt_in {k : Nat} {p : Nat × Nat} {x : Int32} (hL : La h la ia ga ls) (hp : ls[k]? = some p) (hx : x = nI k) (hk : P (some (.int (nI p.1))) h n) : ev_Run G l d bc bs mLa_haulAt 0 [some (.ref la), some (.int x)] [] h n P := by
  obtain ⟨f, g, h1, h2, h3, hl, hfg⟩ := hL
  have hkl : k < ls.length := (List.getElem?_eq_some_iff.mp hp).1
  subst hx
  refine ev_iload_n dLa_haulAt_0 rfl rfl ?_
  refine ev_if_lt (tgt := 21) dLa_haulAt_1 (by decide) (fun c1 => False.elim (absurd c1 (nI_pos (by omega)))) (fun c1 => ?_)
  refine ev_iload_n dLa_haulAt_4 rfl rfl ?_
  refine ev_aload_n dLa_haulAt_5 rfl rfl ?_
  refine ev_get dLa_haulAt_6 fLa_19 h1 rfl ?_
  refine ev_icmp_ge (tgt := 21) dLa_haulAt_9 (by decide) (fun c9 => False.elim (absurd c9 (nI_ge (by omega) (by omega)))) (fun c9 => ?_)
  refine ev_aload_n dLa_haulAt_12 rfl rfl ?_
  refine ev_get dLa_haulAt_13 fLa_9 h1 rfl ?_
  refine ev_iload_n dLa_haulAt_16 rfl rfl ?_
  refine ev_iald dLa_haulAt_17 h2 rfl rfl (by omega) (by decide) ?_
  refine ev_goto (tgt := 22) dLa_haulAt_18 (by decide) ?_
  refine ev_iret dLa_haulAt_22 rfl rfl ?_
  rw [(hfg k p hp).1]
  exact hk
set_option maxRecDepth 20000 in
theorem La_haulAt_out {x : Int32} (hL : La h la ia ga ls) (hx : x < 0 ∨ nI ls.length ≤ x) (hk : P (some (.int (-1))) h n) : ev_Run G l d bc bs mLa_haulAt 0 [some (.ref la), some (.int x)] [] h n P := by
  obtain ⟨f, g, h1, h2, h3, hl, hfg⟩ := hL
  refine ev_iload_n dLa_haulAt_0 rfl rfl ?_
  refine ev_if_lt (tgt := 21) dLa_haulAt_1 (by decide) (fun c1 => ?_) (fun c1 => ?_)
  · refine ev_iconst (v := -1) dLa_haulAt_21 (by decide) ?_
    refine ev_iret dLa_haulAt_22 rfl rfl ?_
    exact hk
  · refine ev_iload_n dLa_haulAt_4 rfl rfl ?_
    refine ev_aload_n dLa_haulAt_5 rfl rfl ?_
    refine ev_get dLa_haulAt_6 fLa_19 h1 rfl ?_
    refine ev_icmp_ge (tgt := 21) dLa_haulAt_9 (by decide) (fun c9 => ?_) (fun c9 => ?_)
    · refine ev_iconst (v := -1) dLa_haulAt_21 (by decide) ?_
      refine ev_iret dLa_haulAt_22 rfl rfl ?_
      exact hk
    · exact absurd hx (fun q => q.elim c1 c9)
      
end LA1
end
section
/-! taking and joining -/
def sl_tk : sL → Nat → sL
  | [], _ => []
  | p :: t, g => if g = 0 then [] else if p.2 < g then p :: sl_tk t (g - p.2) else [(p.1, g)]
def sl_rs : sL → Nat → sL
  | [], _ => []
  | p :: t, g => if p.2 ≤ g then sl_rs t (g - p.2) else (p.1, p.2 - g) :: t
def sl_jn (T : sL) (a x : Nat) : sL := match T.getLast? with
  | some q => if q.1 = a then T.dropLast ++ [(a, q.2 + x)] else T ++ [(a, x)]
  | none => [(a, x)]
def sl_jl (T s : sL) : sL := s.foldl (fun u p => sl_jn u p.1 p.2) T
theorem sl_jn_nil (a x : Nat) : sl_jn [] a x = [(a, x)] := rfl
theorem sl_jn_same {T : sL} {q : Nat × Nat} {a x : Nat} (h : q.1 = a) : sl_jn (T ++ [q]) a x = T ++ [(a, q.2 + x)] := by
  simp [sl_jn, h]
theorem sl_jn_diff {T : sL} {q : Nat × Nat} {a x : Nat} (h : ¬ q.1 = a) : sl_jn (T ++ [q]) a x = (T ++ [q]) ++ [(a, x)] := by
  simp [sl_jn, h]
theorem sl_last (T : sL) : T = [] ∨ ∃ T0 q, T = T0 ++ [q] := by
  rcases List.eq_nil_or_concat T with h | ⟨L, b, h⟩
  · exact Or.inl h
  · exact Or.inr ⟨L, b, by simpa using h⟩
theorem sl_jn_len (T : sL) (a x : Nat) : T.length ≤ (sl_jn T a x).length ∧ (sl_jn T a x).length ≤ T.length + 1 := by
  rcases sl_last T with rfl | ⟨T0, q, rfl⟩
  · simp [sl_jn]
  · by_cases h : q.1 = a
    · rw [sl_jn_same h]; simp
    · rw [sl_jn_diff h]; simp
theorem sl_jl_len (s T : sL) : T.length ≤ (sl_jl T s).length := by
  induction s generalizing T with
  | nil => exact Nat.le_refl _
  | cons p t ih => exact Nat.le_trans (sl_jn_len T p.1 p.2).1 (ih _)
theorem sl_tk_0 (ls : sL) : sl_tk ls 0 = [] := by
  cases ls <;> simp [sl_tk]
theorem sl_drop {ls : sL} {j : Nat} {p : Nat × Nat} (h : ls[j]? = some p) : ls.drop j = p :: ls.drop (j + 1) := by
  obtain ⟨hj, rfl⟩ := List.getElem?_eq_some_iff.mp h
  exact List.drop_eq_getElem_cons hj
/-- hauls' numbers are small -/
def sl_hb (ls : sL) : Prop := ∀ p ∈ ls, p.1 < 1000
/-- grams are some, and few -/
def sl_gb (ls : sL) : Prop := ∀ p ∈ ls, 1 ≤ p.2 ∧ p.2 < 2 ^ 40
theorem sl_hb_jn {T : sL} {a x : Nat} (h : sl_hb T) (ha : a < 1000) : sl_hb (sl_jn T a x) := by
  intro p hp
  rcases sl_last T with rfl | ⟨T0, q, rfl⟩
  · rw [sl_jn_nil] at hp; simp at hp; subst hp; exact ha
  · by_cases hq : q.1 = a
    · rw [sl_jn_same hq] at hp
      rcases List.mem_append.mp hp with hp | hp
      · exact h p (List.mem_append_left _ hp)
      · simp at hp; subst hp; exact ha
    · rw [sl_jn_diff hq] at hp
      rcases List.mem_append.mp hp with hp | hp
      · exact h p hp
      · simp at hp; subst hp; exact ha
theorem La.keep {h h' : xH} {S : List Nat} {la ia ga : Nat} {ls : sL} (hL : La h la ia ga ls) (ho : hp_off S h h') (h1 : la ∉ S) (h2 : ia ∉ S) (h3 : ga ∉ S) : La h' la ia ga ls := by
  obtain ⟨f, g, q1, q2, q3, q4, q5⟩ := hL
  exact ⟨f, g, (ho la h1).trans q1, (ho ia h2).trans q2, (ho ga h3).trans q3, q4, q5⟩
theorem La.ne {h : xH} {la ia ga : Nat} {ls : sL} (hL : La h la ia ga ls) : la ≠ ia ∧ la ≠ ga ∧ ia ≠ ga := by
  obtain ⟨f, g, q1, q2, q3, q4, q5⟩ := hL
  refine ⟨fun e => ?_, fun e => ?_, fun e => ?_⟩
  · rw [e, q2] at q1; cases q1
  · rw [e, q3] at q1; cases q1
  · rw [e, q3] at q2; cases q2
section LA2
variable {G : xG} {l : Launch} {d bc bs : Nat} {h : xH} {n : Nat} {P : Option Value → xH → Nat → Prop} {la ia ga : Nat} {ls : sL}
set_option maxRecDepth 20000 in
theorem La_gramsAt_in {k : Nat} {p : Nat × Nat} {x : Int32} (hL : La h la ia ga ls) (hp : ls[k]? = some p) (hx : x = nI k) (hk : P (some (.long (lN p.2))) h n) : ev_Run G l d bc bs mLa_gramsAt 0 [some (.ref la), some (.int x)] [] h n P := by
  obtain ⟨f, g, h1, h2, h3, hl, hfg⟩ := hL
  have hkl : k < ls.length := (List.getElem?_eq_some_iff.mp hp).1
  subst hx
  refine ev_iload_n dLa_gramsAt_0 rfl rfl ?_
  refine ev_if_lt (tgt := 21) dLa_gramsAt_1 (by decide) (fun c1 => False.elim (absurd c1 (nI_pos (by omega)))) (fun c1 => ?_)
  refine ev_iload_n dLa_gramsAt_4 rfl rfl ?_
  refine ev_aload_n dLa_gramsAt_5 rfl rfl ?_
  refine ev_get dLa_gramsAt_6 fLa_19 h1 rfl ?_
  refine ev_icmp_ge (tgt := 21) dLa_gramsAt_9 (by decide) (fun c9 => False.elim (absurd c9 (nI_ge (by omega) (by omega)))) (fun c9 => ?_)
  refine ev_aload_n dLa_gramsAt_12 rfl rfl ?_
  refine ev_get dLa_gramsAt_13 fLa_15 h1 rfl ?_
  refine ev_iload_n dLa_gramsAt_16 rfl rfl ?_
  refine ev_lald dLa_gramsAt_17 h3 rfl rfl (by omega) (by decide) ?_
  refine ev_goto (tgt := 24) dLa_gramsAt_18 (by decide) ?_
  refine ev_lret dLa_gramsAt_24 rfl ?_
  rw [(hfg k p hp).2]
  exact hk
set_option maxRecDepth 20000 in
theorem La_gramsAt_out {x : Int32} (hL : La h la ia ga ls) (hx : x < 0 ∨ nI ls.length ≤ x) (hk : P (some (.long (-1))) h n) : ev_Run G l d bc bs mLa_gramsAt 0 [some (.ref la), some (.int x)] [] h n P := by
  obtain ⟨f, g, h1, h2, h3, hl, hfg⟩ := hL
  refine ev_iload_n dLa_gramsAt_0 rfl rfl ?_
  refine ev_if_lt (tgt := 21) dLa_gramsAt_1 (by decide) (fun c1 => ?_) (fun c1 => ?_)
  · refine ev_ldc2 (v := -1) dLa_gramsAt_21 qLa_23 ?_
    refine ev_lret dLa_gramsAt_24 rfl ?_
    exact hk
  · refine ev_iload_n dLa_gramsAt_4 rfl rfl ?_
    refine ev_aload_n dLa_gramsAt_5 rfl rfl ?_
    refine ev_get dLa_gramsAt_6 fLa_19 h1 rfl ?_
    refine ev_icmp_ge (tgt := 21) dLa_gramsAt_9 (by decide) (fun c9 => ?_) (fun c9 => ?_)
    · refine ev_ldc2 (v := -1) dLa_gramsAt_21 qLa_23 ?_
      refine ev_lret dLa_gramsAt_24 rfl ?_
      exact hk
    · exact absurd hx (fun q => q.elim c1 c9)
      
set_option maxRecDepth 20000 in
theorem La_gramsOf_ok {t : Nat} (hL : La h la ia ga ls) (hb : sl_hb ls) (ht : t < 1000) (hk : P (some (.long (lN (sl_of ls t)))) h n) : ev_Run G l d bc bs mLa_gramsOf 0 [some (.ref la), some (.int (nI t)), none, none, none] [] h n P := by
  obtain ⟨f, g, h1, h2, h3, hl, hfg⟩ := hL
  have loop : ∀ e j, j + e = ls.length → ev_Run G l d bc bs mLa_gramsOf 5 [some (.ref la), some (.int (nI t)), some (.long (lN (sl_of (ls.take j) t))), none, some (.int (nI j))] [] h n P := by
    intro e
    induction e with
    | zero =>
      intro j hj
      refine ev_iload dLa_gramsOf_5 rfl ?_
      refine ev_aload_n dLa_gramsOf_7 rfl rfl ?_
      refine ev_get dLa_gramsOf_8 fLa_19 h1 rfl ?_
      refine ev_icmp_ge (tgt := 41) dLa_gramsOf_11 (by decide) (fun c11 => ?_) (fun c11 => absurd (nI_le (by omega) (by omega)) c11)
      refine ev_lload_n dLa_gramsOf_41 rfl rfl ?_
      refine ev_lret dLa_gramsOf_42 rfl ?_
      rw [List.take_of_length_le (by omega)]
      exact hk
    | succ e ih =>
      intro j hj
      obtain ⟨p, hp⟩ := sl_get (ls := ls) (j := j) (by omega)
      have hp1 := hb p (List.mem_of_getElem? hp)
      refine ev_iload dLa_gramsOf_5 rfl ?_
      refine ev_aload_n dLa_gramsOf_7 rfl rfl ?_
      refine ev_get dLa_gramsOf_8 fLa_19 h1 rfl ?_
      refine ev_icmp_ge (tgt := 41) dLa_gramsOf_11 (by decide) (fun c11 => False.elim (absurd c11 (nI_ge (by omega) (by omega)))) (fun c11 => ?_)
      refine ev_aload_n dLa_gramsOf_14 rfl rfl ?_
      refine ev_get dLa_gramsOf_15 fLa_9 h1 rfl ?_
      refine ev_iload dLa_gramsOf_18 rfl ?_
      refine ev_iald dLa_gramsOf_20 h2 rfl rfl (by omega) (by decide) ?_
      refine ev_iload_n dLa_gramsOf_21 rfl rfl ?_
      refine ev_icmp_ne (tgt := 35) dLa_gramsOf_22 (by decide) (fun c22 => ?_) (fun c22 => ?_)
      · have e1 : ¬ p.1 = t := fun z => c22 (by rw [(hfg j p hp).1, z])
        refine ev_iinc dLa_gramsOf_35 rfl (ev_inc1 _) (by decide) ?_
        refine ev_goto (tgt := 5) dLa_gramsOf_38 (by decide) ?_
        first | exact ih (j + 1) (by omega) | exact ev_Run.loc (by rw [show sl_of (ls.take (j + 1)) t = sl_of (ls.take j) t from (by rw [sl_of_take hp, if_neg e1, Nat.add_zero])]; rfl) (ih (j + 1) (by omega))
      · have e1 : p.1 = t := (nI_eq (by omega) (by omega)).mp (((hfg j p hp).1).symm.trans c22)
        refine ev_lload_n dLa_gramsOf_25 rfl rfl ?_
        refine ev_aload_n dLa_gramsOf_26 rfl rfl ?_
        refine ev_get dLa_gramsOf_27 fLa_15 h1 rfl ?_
        refine ev_iload dLa_gramsOf_30 rfl ?_
        refine ev_lald dLa_gramsOf_32 h3 rfl rfl (by omega) (by decide) ?_
        refine ev_ladd dLa_gramsOf_33 ?_
        refine ev_topl (y := lN (sl_of (ls.take (j + 1)) t)) (by rw [(hfg j p hp).2, lN_add, sl_of_take hp, if_pos e1]) ?_
        refine ev_lstore_n dLa_gramsOf_34 rfl (by decide) ?_
        refine ev_iinc dLa_gramsOf_35 rfl (ev_inc1 _) (by decide) ?_
        refine ev_goto (tgt := 5) dLa_gramsOf_38 (by decide) ?_
        first | exact ih (j + 1) (by omega) | exact ev_Run.loc (by rw [show sl_of (ls.take (j + 1)) t = sl_of (ls.take j) t from (by rw [sl_of_take hp, if_neg e1, Nat.add_zero])]; rfl) (ih (j + 1) (by omega))
  refine ev_lconst (v := lN 0) dLa_gramsOf_0 (by decide) ?_
  refine ev_lstore_n dLa_gramsOf_1 rfl (by decide) ?_
  refine ev_iconst (v := nI 0) dLa_gramsOf_2 (by decide) ?_
  refine ev_istore dLa_gramsOf_3 (by decide) ?_
  exact loop ls.length 0 (by omega)
set_option maxRecDepth 20000 in
theorem La_have_ok {x : Int64} (hL : La h la ia ga ls) (ht : lN 1 ≤ x → x ≤ lN (sl_tot ls) → P (some (.int (nI 1))) h n) (hf : ¬ (lN 1 ≤ x ∧ x ≤ lN (sl_tot ls)) → P (some (.int (nI 0))) h n) : ev_Run G l (d + 1) bc bs mLa_have 0 [some (.ref la), some (.long x), none] [] h n P := by
  obtain ⟨f, g, h1, -⟩ := id hL
  refine ev_lload_n dLa_have_0 rfl rfl ?_
  refine ev_lconst (v := lN 1) dLa_have_1 (by decide) ?_
  refine ev_lcmp_lt (tgt := 19) dLa_have_2 dLa_have_3 (by decide) (fun c2 => ?_) (fun c2 => ?_)
  · refine ev_iconst (v := nI 0) dLa_have_19 (by decide) ?_
    refine ev_iret dLa_have_20 rfl rfl ?_
    exact hf (fun q => lL_lt_nle c2 q.1)
  · refine ev_lload_n dLa_have_6 rfl rfl ?_
    refine ev_aload_n dLa_have_7 rfl rfl ?_
    refine cz_La_total dLa_have_8 lLa_25 h1 (Nat.le_of_ble_eq_true rfl) (La_total_ok hL ?_)
    refine ev_lcmp_gt (tgt := 19) dLa_have_11 dLa_have_12 (by decide) (fun c11 => ?_) (fun c11 => ?_)
    · refine ev_iconst (v := nI 0) dLa_have_19 (by decide) ?_
      refine ev_iret dLa_have_20 rfl rfl ?_
      exact hf (fun q => lL_lt_nle c11 q.2)
    · refine ev_iconst (v := nI 1) dLa_have_15 (by decide) ?_
      refine ev_goto (tgt := 20) dLa_have_16 (by decide) ?_
      refine ev_iret dLa_have_20 rfl rfl ?_
      exact ht (lL_nlt c2) (lL_nlt c11)
set_option maxRecDepth 20000 in
theorem La_sizeOf_ok {g0 : Nat} (hL : La h la ia ga ls) (hb : sl_gb ls) (hg : g0 < 2 ^ 62) (hk : P (some (.int (nI (sl_tk ls g0).length))) h n) : ev_Run G l d bc bs mLa_sizeOf 0 [some (.ref la), some (.long (lN g0)), none, none, none, none, none] [] h n P := by
  obtain ⟨f, g, h1, h2, h3, hl, hfg⟩ := hL
  have loop : ∀ e j x t, j + e = ls.length → x < 2 ^ 62 → t + (sl_tk (ls.drop j) x).length = (sl_tk ls g0).length → ev_Run G l d bc bs mLa_sizeOf 8 [some (.ref la), some (.long (lN g0)), none, some (.long (lN x)), none, some (.int (nI t)), some (.int (nI j))] [] h n P := by
    intro e
    induction e with
    | zero =>
      intro j x t hj hx ht
      rw [List.drop_eq_nil_of_le (by omega)] at ht
      have ht : t = (sl_tk ls g0).length := by simpa [sl_tk] using ht
      refine ev_iload dLa_sizeOf_8 rfl ?_
      refine ev_aload_n dLa_sizeOf_10 rfl rfl ?_
      refine ev_get dLa_sizeOf_11 fLa_19 h1 rfl ?_
      refine ev_icmp_ge (tgt := 42) dLa_sizeOf_14 (by decide) (fun c14 => ?_) (fun c14 => absurd (nI_le (by omega) (by omega)) c14)
      refine ev_iload dLa_sizeOf_42 rfl ?_
      refine ev_iret dLa_sizeOf_44 rfl rfl ?_
      rw [ht]
      exact hk
    | succ e ih =>
      intro j x t hj hx ht
      obtain ⟨p, hp⟩ := sl_get (ls := ls) (j := j) (by omega)
      have hp2 := hb p (List.mem_of_getElem? hp)
      rw [sl_drop hp] at ht
      rcases Nat.eq_zero_or_pos x with rfl | hx0
      · have ht : t = (sl_tk ls g0).length := by simpa [sl_tk] using ht
        refine ev_iload dLa_sizeOf_8 rfl ?_
        refine ev_aload_n dLa_sizeOf_10 rfl rfl ?_
        refine ev_get dLa_sizeOf_11 fLa_19 h1 rfl ?_
        refine ev_icmp_ge (tgt := 42) dLa_sizeOf_14 (by decide) (fun c14 => False.elim (absurd c14 (nI_ge (by omega) (by omega)))) (fun c14 => ?_)
        refine ev_lload_n dLa_sizeOf_17 rfl rfl ?_
        refine ev_lconst (v := lN 0) dLa_sizeOf_18 (by decide) ?_
        refine ev_lcmp_le (tgt := 42) dLa_sizeOf_19 dLa_sizeOf_20 (by decide) (fun c19 => ?_) (fun c19 => absurd (Int64.le_refl _) c19)
        refine ev_iload dLa_sizeOf_42 rfl ?_
        refine ev_iret dLa_sizeOf_44 rfl rfl ?_
        rw [ht]
        exact hk
      · rcases Nat.lt_or_ge x p.2 with hxp | hxp
        · have ht : t + 1 = (sl_tk ls g0).length := by
            simp only [sl_tk, if_neg (show ¬ x = 0 by omega), if_neg (show ¬ p.2 < x by omega)] at ht
            simpa using ht
          refine ev_iload dLa_sizeOf_8 rfl ?_
          refine ev_aload_n dLa_sizeOf_10 rfl rfl ?_
          refine ev_get dLa_sizeOf_11 fLa_19 h1 rfl ?_
          refine ev_icmp_ge (tgt := 42) dLa_sizeOf_14 (by decide) (fun c14 => False.elim (absurd c14 (nI_ge (by omega) (by omega)))) (fun c14 => ?_)
          refine ev_lload_n dLa_sizeOf_17 rfl rfl ?_
          refine ev_lconst (v := lN 0) dLa_sizeOf_18 (by decide) ?_
          refine ev_lcmp_le (tgt := 42) dLa_sizeOf_19 dLa_sizeOf_20 (by decide) (fun c19 => False.elim (absurd c19 (lN_pos hx0 (by omega)))) (fun c19 => ?_)
          refine ev_lload_n dLa_sizeOf_23 rfl rfl ?_
          refine ev_aload_n dLa_sizeOf_24 rfl rfl ?_
          refine ev_get dLa_sizeOf_25 fLa_15 h1 rfl ?_
          refine ev_iload dLa_sizeOf_28 rfl ?_
          refine ev_lald dLa_sizeOf_30 h3 rfl rfl (by omega) (by decide) ?_
          refine ev_lsub dLa_sizeOf_31 ?_
          refine ev_lstore_n dLa_sizeOf_32 rfl (by decide) ?_
          refine ev_iinc dLa_sizeOf_33 rfl (ev_inc1 _) (by decide) ?_
          refine ev_iinc dLa_sizeOf_36 rfl (ev_inc1 _) (by decide) ?_
          refine ev_goto (tgt := 8) dLa_sizeOf_39 (by decide) ?_
          skip
          rw [(hfg j p hp).2]
          refine ev_iload dLa_sizeOf_8 rfl ?_
          refine ev_aload_n dLa_sizeOf_10 rfl rfl ?_
          refine ev_get dLa_sizeOf_11 fLa_19 h1 rfl ?_
          refine ev_icmp_ge (tgt := 42) dLa_sizeOf_14 (by decide) (fun c14 => ?_) (fun c14 => ?_)
          · refine ev_iload dLa_sizeOf_42 rfl ?_
            refine ev_iret dLa_sizeOf_44 rfl rfl ?_
            rw [ht]
            exact hk
          · refine ev_lload_n dLa_sizeOf_17 rfl rfl ?_
            refine ev_lconst (v := lN 0) dLa_sizeOf_18 (by decide) ?_
            refine ev_lcmp_le (tgt := 42) dLa_sizeOf_19 dLa_sizeOf_20 (by decide) (fun c19 => ?_) (fun c19 => absurd (lN_neg hxp (by omega)) c19)
            refine ev_iload dLa_sizeOf_42 rfl ?_
            refine ev_iret dLa_sizeOf_44 rfl rfl ?_
            rw [ht]
            exact hk
        · refine ev_iload dLa_sizeOf_8 rfl ?_
          refine ev_aload_n dLa_sizeOf_10 rfl rfl ?_
          refine ev_get dLa_sizeOf_11 fLa_19 h1 rfl ?_
          refine ev_icmp_ge (tgt := 42) dLa_sizeOf_14 (by decide) (fun c14 => False.elim (absurd c14 (nI_ge (by omega) (by omega)))) (fun c14 => ?_)
          refine ev_lload_n dLa_sizeOf_17 rfl rfl ?_
          refine ev_lconst (v := lN 0) dLa_sizeOf_18 (by decide) ?_
          refine ev_lcmp_le (tgt := 42) dLa_sizeOf_19 dLa_sizeOf_20 (by decide) (fun c19 => False.elim (absurd c19 (lN_pos hx0 (by omega)))) (fun c19 => ?_)
          refine ev_lload_n dLa_sizeOf_23 rfl rfl ?_
          refine ev_aload_n dLa_sizeOf_24 rfl rfl ?_
          refine ev_get dLa_sizeOf_25 fLa_15 h1 rfl ?_
          refine ev_iload dLa_sizeOf_28 rfl ?_
          refine ev_lald dLa_sizeOf_30 h3 rfl rfl (by omega) (by decide) ?_
          refine ev_lsub dLa_sizeOf_31 ?_
          refine ev_topl (y := lN (x - p.2)) (by rw [(hfg j p hp).2, lN_sub hxp]) ?_
          refine ev_lstore_n dLa_sizeOf_32 rfl (by decide) ?_
          refine ev_iinc dLa_sizeOf_33 rfl (ev_inc1 _) (by decide) ?_
          refine ev_iinc dLa_sizeOf_36 rfl (ev_inc1 _) (by decide) ?_
          refine ev_goto (tgt := 8) dLa_sizeOf_39 (by decide) ?_
          refine ih (j + 1) (x - p.2) (t + 1) (by omega) (by omega) ?_
          rcases Nat.lt_or_ge p.2 x with hxq | hxq
          · simp only [sl_tk, if_neg (show ¬ x = 0 by omega), if_pos hxq, List.length_cons] at ht
            omega
          · simp only [sl_tk, if_neg (show ¬ x = 0 by omega), if_neg (show ¬ p.2 < x by omega)] at ht
            rw [show x - p.2 = 0 by omega, sl_tk_0]
            simpa using ht
  refine ev_lload_n dLa_sizeOf_0 rfl rfl ?_
  refine ev_lstore_n dLa_sizeOf_1 rfl (by decide) ?_
  refine ev_iconst (v := nI 0) dLa_sizeOf_2 (by decide) ?_
  refine ev_istore dLa_sizeOf_3 (by decide) ?_
  refine ev_iconst (v := nI 0) dLa_sizeOf_5 (by decide) ?_
  refine ev_istore dLa_sizeOf_6 (by decide) ?_
  exact loop ls.length 0 g0 0 (by omega) hg (by simp)
theorem sl_tk_len (ls : sL) (g : Nat) : (sl_tk ls g).length ≤ ls.length := by
  induction ls generalizing g with
  | nil => simp [sl_tk]
  | cons p t ih =>
    unfold sl_tk
    split
    · simp
    · split
      · simp; exact ih _
      · simp
/-- how many layers there would be -/
def sl_sw (T s : sL) (g : Nat) : Nat := if T ≠ [] ∧ (T.getLast?.map Prod.fst) = (s.head?.map Prod.fst) then T.length + (sl_tk s g).length - 1 else T.length + (sl_tk s g).length
set_option maxRecDepth 20000 in
theorem La_sizeWith_ok {lb ib gb g0 : Nat} {s : sL} (hL : La h la ia ga ls) (hL2 : La h lb ib gb s) (hs : s ≠ []) (hb0 : sl_hb ls) (hb1 : sl_hb s) (hb : sl_gb s) (hg : g0 < 2 ^ 62) (hk : P (some (.int (nI (sl_sw ls s g0)))) h n) : ev_Run G l (d + 1) bc bs mLa_sizeWith 0 [some (.ref la), some (.ref lb), some (.long (lN g0)), none, none] [] h n P := by
  obtain ⟨f, g, h1, h2, h3, hl, hfg⟩ := id hL
  obtain ⟨f2, g2, i1, i2, i3, il, ifg⟩ := id hL2
  obtain ⟨r, hr⟩ : ∃ r, s[0]? = some r := sl_get (by cases s with | nil => exact absurd rfl hs | cons => simp)
  have hrh : s.head?.map Prod.fst = some r.1 := by cases s with | nil => cases hr | cons => cases hr; rfl
  have htl := sl_tk_len s g0
  have hr1 := hb1 r (List.mem_of_getElem? hr)
  rcases sl_last ls with rfl | ⟨T0, q, rfl⟩
  · have e1 : sl_sw [] s g0 = 0 + (sl_tk s g0).length := by simp [sl_sw]
    refine ev_aload_n dLa_sizeWith_0 rfl rfl ?_
    refine ev_get dLa_sizeWith_1 fLa_19 h1 rfl ?_
    refine ev_aload_n dLa_sizeWith_4 rfl rfl ?_
    refine ev_lload_n dLa_sizeWith_5 rfl rfl ?_
    refine cz_La_sizeOf dLa_sizeWith_6 lLa_29 i1 (Nat.le_of_ble_eq_true rfl) (La_sizeOf_ok hL2 hb hg ?_)
    refine ev_iadd dLa_sizeWith_9 ?_
    refine ev_top (nI_add _ _) ?_
    refine ev_istore dLa_sizeWith_10 (by decide) ?_
    refine ev_aload_n dLa_sizeWith_12 rfl rfl ?_
    refine ev_get dLa_sizeWith_13 fLa_19 h1 rfl ?_
    refine ev_if_le (tgt := 44) dLa_sizeWith_16 (by decide) (fun c16 => ?_) (fun c16 => absurd ((show nI 0 ≤ 0 by decide)) c16)
    refine ev_iload dLa_sizeWith_44 rfl ?_
    refine ev_iret dLa_sizeWith_46 rfl rfl ?_
    rw [e1] at hk
    exact hk
  · have hq : (T0 ++ [q])[T0.length]? = some q := by simp
    have hq1 := hb0 q (List.mem_of_getElem? hq)
    have hlen : (T0 ++ [q]).length = T0.length + 1 := by simp
    have hlast : (T0 ++ [q]).getLast?.map Prod.fst = some q.1 := by simp
    rw [hlen] at hl h1
    refine ev_aload_n dLa_sizeWith_0 rfl rfl ?_
    refine ev_get dLa_sizeWith_1 fLa_19 h1 rfl ?_
    refine ev_aload_n dLa_sizeWith_4 rfl rfl ?_
    refine ev_lload_n dLa_sizeWith_5 rfl rfl ?_
    refine cz_La_sizeOf dLa_sizeWith_6 lLa_29 i1 (Nat.le_of_ble_eq_true rfl) (La_sizeOf_ok hL2 hb hg ?_)
    refine ev_iadd dLa_sizeWith_9 ?_
    refine ev_top (nI_add _ _) ?_
    refine ev_istore dLa_sizeWith_10 (by decide) ?_
    refine ev_aload_n dLa_sizeWith_12 rfl rfl ?_
    refine ev_get dLa_sizeWith_13 fLa_19 h1 rfl ?_
    refine ev_if_le (tgt := 44) dLa_sizeWith_16 (by decide) (fun c16 => False.elim (absurd c16 (nI_nle (by omega) (by omega)))) (fun c16 => ?_)
    refine ev_aload_n dLa_sizeWith_19 rfl rfl ?_
    refine ev_aload_n dLa_sizeWith_20 rfl rfl ?_
    refine ev_get dLa_sizeWith_21 fLa_19 h1 rfl ?_
    refine ev_iconst (v := nI 1) dLa_sizeWith_24 (by decide) ?_
    refine ev_isub dLa_sizeWith_25 ?_
    refine ev_top (nI_pred _) ?_
    refine cz_La_haulAt dLa_sizeWith_26 lLa_33 h1 (Nat.le_of_ble_eq_true rfl) (La_haulAt_in hL hq rfl ?_)
    refine ev_aload_n dLa_sizeWith_29 rfl rfl ?_
    refine ev_iconst (v := nI 0) dLa_sizeWith_30 (by decide) ?_
    refine cz_La_haulAt dLa_sizeWith_31 lLa_33 i1 (Nat.le_of_ble_eq_true rfl) (La_haulAt_in hL2 hr rfl ?_)
    refine ev_icmp_ne (tgt := 44) dLa_sizeWith_34 (by decide) (fun c34 => ?_) (fun c34 => ?_)
    · refine ev_iload dLa_sizeWith_44 rfl ?_
      refine ev_iret dLa_sizeWith_46 rfl rfl ?_
      have e2 : sl_sw (T0 ++ [q]) s g0 = T0.length + 1 + (sl_tk s g0).length := (by unfold sl_sw; rw [hlast, hrh, if_neg (fun z => c34 (by rw [Option.some.inj z.2])), hlen])
      rw [← e2]
      exact hk
    · refine ev_iload dLa_sizeWith_37 rfl ?_
      refine ev_iconst (v := nI 1) dLa_sizeWith_39 (by decide) ?_
      refine ev_isub dLa_sizeWith_40 ?_
      refine ev_top (pk_sub (b := 1) (by omega)) ?_
      refine ev_goto (tgt := 46) dLa_sizeWith_41 (by decide) ?_
      refine ev_iret dLa_sizeWith_46 rfl rfl ?_
      have e2 : sl_sw (T0 ++ [q]) s g0 = T0.length + 1 + (sl_tk s g0).length - 1 := (by unfold sl_sw; rw [hlast, hrh, if_pos ⟨by simp, by rw [(nI_eq (by omega) (by omega)).mp c34]⟩, hlen])
      rw [← e2]
      exact hk
end LA2
end
section
section LA3
variable {G : xG} {l : Launch} {d bc bs : Nat} {h : xH} {n : Nat} {P : Option Value → xH → Nat → Prop} {la ia ga : Nat} {ls : sL}
set_option maxRecDepth 20000 in
theorem La_clear_ok (hL : La h la ia ga ls) (hk : ∀ h', La h' la ia ga [] → hp_off [la, ia, ga] h h' → P none h' n) : ev_Run G l d bc bs mLa_clear 0 [some (.ref la)] [] h n P := by
  have hne := hL.ne
  obtain ⟨f, g, h1, h2, h3, hl, hfg⟩ := hL
  refine ev_aload_n dLa_clear_0 rfl rfl ?_
  refine ev_iconst (v := nI 0) dLa_clear_1 (by decide) ?_
  refine ev_put dLa_clear_2 fLa_19 tLa_2 h1 rfl rfl (Nat.le_of_ble_eq_true rfl) ?_
  refine ev_vret dLa_clear_5 rfl ?_
  skip
  refine hk _ ⟨f, g, hp_set_self _ _ _, (hp_set_ne _ _ (Ne.symm hne.1)).trans h2, (hp_set_ne _ _ (Ne.symm hne.2.1)).trans h3, by simp, fun k p hp => by simp at hp⟩ (hp_off.rf.set (by simp))
set_option maxRecDepth 20000 in
set_option maxHeartbeats 1000000 in
theorem La_append_ok {a x : Nat} (hL : La h la ia ga ls) (hb : sl_hb ls) (ha : a < 1000) (hlen : (sl_jn ls a x).length ≤ 80) (hk : ∀ h', La h' la ia ga (sl_jn ls a x) → hp_off [la, ia, ga] h h' → P none h' n) : ev_Run G l d bc bs mLa_append 0 [some (.ref la), some (.int (nI a)), some (.long (lN x)), none] [] h n P := by
  have hne := hL.ne
  obtain ⟨f, g, h1, h2, h3, hl, hfg⟩ := hL
  have push : ls.length < 80 → sl_jn ls a x = ls ++ [(a, x)] → ev_Run G l d bc bs mLa_append 40 [some (.ref la), some (.int (nI a)), some (.long (lN x)), none] [] h n P := by
    intro hlt he
    refine ev_aload_n dLa_append_40 rfl rfl ?_
    refine ev_get dLa_append_41 fLa_19 h1 rfl ?_
    refine ev_aload_n dLa_append_44 rfl rfl ?_
    refine ev_get dLa_append_45 fLa_9 h1 rfl ?_
    refine ev_alen dLa_append_48 h2 rfl ?_
    refine ev_icmp_ge (tgt := 82) dLa_append_49 (by decide) (fun c49 => False.elim (absurd c49 (nI_ge (by omega) (by omega)))) (fun c49 => ?_)
    refine ev_aload_n dLa_append_52 rfl rfl ?_
    refine ev_get dLa_append_53 fLa_9 h1 rfl ?_
    refine ev_aload_n dLa_append_56 rfl rfl ?_
    refine ev_get dLa_append_57 fLa_19 h1 rfl ?_
    refine ev_iload_n dLa_append_60 rfl rfl ?_
    refine ev_iast dLa_append_61 h2 rfl rfl (by omega) (by decide) ?_
    refine ev_aload_n dLa_append_62 rfl rfl ?_
    refine ev_get dLa_append_63 fLa_15 ((hp_set_ne _ _ hne.1).trans h1) rfl ?_
    refine ev_aload_n dLa_append_66 rfl rfl ?_
    refine ev_get dLa_append_67 fLa_19 ((hp_set_ne _ _ hne.1).trans h1) rfl ?_
    refine ev_lload_n dLa_append_70 rfl rfl ?_
    refine ev_last dLa_append_71 ((hp_set_ne _ _ (Ne.symm hne.2.2)).trans h3) rfl rfl (by omega) (by decide) ?_
    refine ev_aload_n dLa_append_72 rfl rfl ?_
    refine ev_dup dLa_append_73 rfl ?_
    refine ev_get dLa_append_74 fLa_19 ((hp_set_ne _ _ hne.2.1).trans ((hp_set_ne _ _ hne.1).trans h1)) rfl ?_
    refine ev_iconst (v := nI 1) dLa_append_77 (by decide) ?_
    refine ev_iadd dLa_append_78 ?_
    refine ev_top (nI_add _ _) ?_
    refine ev_put dLa_append_79 fLa_19 tLa_2 ((hp_set_ne _ _ hne.2.1).trans ((hp_set_ne _ _ hne.1).trans h1)) rfl rfl (Nat.le_of_ble_eq_true rfl) ?_
    refine ev_vret dLa_append_82 rfl ?_
    skip
    refine hk _ ?_ (((hp_off.rf.set (by simp)).set (by simp)).set (by simp))
    rw [he]
    refine ⟨upd f ls.length (nI a), vp_updL g ls.length (lN x), (hp_set_self _ _ _).trans (by simp), (hp_set_ne _ _ (Ne.symm hne.1)).trans ((hp_set_ne _ _ hne.2.2).trans (hp_set_self _ _ _)), (hp_set_ne _ _ (Ne.symm hne.2.1)).trans (hp_set_self _ _ _), by simp; omega, fun k p hp => ?_⟩
    rcases Nat.lt_or_ge k ls.length with hkl | hkl
    · rw [List.getElem?_append_left hkl] at hp
      rw [pk_un (by omega), pk_uLn (by omega)]
      exact hfg k p hp
    · have hk1 : k < (ls ++ [(a, x)]).length := (List.getElem?_eq_some_iff.mp hp).1
      have hk2 : k = ls.length := by simp at hk1; omega
      subst hk2
      simp at hp
      subst hp
      exact ⟨pk_us, pk_uLs⟩
  rcases sl_last ls with rfl | ⟨T0, q, rfl⟩
  · refine ev_aload_n dLa_append_0 rfl rfl ?_
    refine ev_get dLa_append_1 fLa_19 h1 rfl ?_
    refine ev_if_le (tgt := 40) dLa_append_4 (by decide) (fun c4 => ?_) (fun c4 => absurd ((show nI 0 ≤ 0 by decide)) c4)
    exact push (by simp) (sl_jn_nil a x)
  · have hq : (T0 ++ [q])[T0.length]? = some q := by simp
    have hq1 := hb q (List.mem_of_getElem? hq)
    have hlen2 : (T0 ++ [q]).length = T0.length + 1 := by simp
    rw [hlen2] at hl
    have h1' := h1
    rw [hlen2] at h1'
    have join : q.1 = a → P none (hp_set h ga (.inl (1, 80, .inr (.inl (vp_updL g T0.length (lN (q.2 + x))))))) n := by
      intro e1
      refine hk _ ?_ (hp_off.rf.set (by simp))
      rw [sl_jn_same e1]
      refine ⟨f, vp_updL g T0.length (lN (q.2 + x)), (hp_set_ne _ _ hne.2.1).trans (by simpa using h1), (hp_set_ne _ _ hne.2.2).trans h2, hp_set_self _ _ _, by simp; omega, fun k p hp => ?_⟩
      rcases Nat.lt_or_ge k T0.length with hkl | hkl
      · rw [List.getElem?_append_left hkl] at hp
        rw [pk_uLn (by omega)]
        exact hfg k p (by rw [List.getElem?_append_left hkl]; exact hp)
      · have hk1 : k < (T0 ++ [(a, q.2 + x)]).length := (List.getElem?_eq_some_iff.mp hp).1
        have hk2 : k = T0.length := by simp at hk1; omega
        subst hk2
        simp at hp
        subst hp
        exact ⟨(hfg _ q hq).1.trans (by rw [e1]), pk_uLs⟩
    refine ev_aload_n dLa_append_0 rfl rfl ?_
    refine ev_get dLa_append_1 fLa_19 h1' rfl ?_
    refine ev_if_le (tgt := 40) dLa_append_4 (by decide) (fun c4 => False.elim (absurd c4 (nI_nle (by omega) (by omega)))) (fun c4 => ?_)
    refine ev_aload_n dLa_append_7 rfl rfl ?_
    refine ev_get dLa_append_8 fLa_9 h1' rfl ?_
    refine ev_aload_n dLa_append_11 rfl rfl ?_
    refine ev_get dLa_append_12 fLa_19 h1' rfl ?_
    refine ev_iconst (v := nI 1) dLa_append_15 (by decide) ?_
    refine ev_isub dLa_append_16 ?_
    refine ev_top (nI_pred _) ?_
    refine ev_iald dLa_append_17 h2 rfl rfl (by omega) (by decide) ?_
    refine ev_iload_n dLa_append_18 rfl rfl ?_
    refine ev_icmp_ne (tgt := 40) dLa_append_19 (by decide) (fun c19 => ?_) (fun c19 => ?_)
    · rw [(hfg _ q hq).1] at c19
      have e1 : ¬ q.1 = a := fun z => c19 (by rw [z])
      rw [sl_jn_diff e1] at hlen
      exact push (by simp at hlen; simp; omega) (sl_jn_diff e1)
    · refine ev_aload_n dLa_append_22 rfl rfl ?_
      refine ev_get dLa_append_23 fLa_15 h1' rfl ?_
      refine ev_aload_n dLa_append_26 rfl rfl ?_
      refine ev_get dLa_append_27 fLa_19 h1' rfl ?_
      refine ev_iconst (v := nI 1) dLa_append_30 (by decide) ?_
      refine ev_isub dLa_append_31 ?_
      refine ev_top (nI_pred _) ?_
      refine ev_dup2_11 dLa_append_32 rfl rfl ?_
      refine ev_lald dLa_append_33 h3 rfl rfl (by omega) (by decide) ?_
      refine ev_lload_n dLa_append_34 rfl rfl ?_
      refine ev_ladd dLa_append_35 ?_
      refine ev_topl (y := lN (q.2 + x)) (by rw [(hfg _ q hq).2, lN_add]) ?_
      refine ev_last dLa_append_36 h3 rfl rfl (by omega) (by decide) ?_
      refine ev_goto (tgt := 82) dLa_append_37 (by decide) ?_
      refine ev_vret dLa_append_82 rfl ?_
      rw [(hfg _ q hq).1] at c19
      exact join ((nI_eq (by omega) (by omega)).mp c19)
/-- hauls of what is taken -/
theorem sl_tk_hb {s : sL} {g : Nat} (h : sl_hb s) : sl_hb (sl_tk s g) := by
  induction s generalizing g with
  | nil => simpa [sl_tk] using h
  | cons p t ih =>
    unfold sl_tk
    split
    · intro q hq; cases hq
    · split
      · intro q hq
        rcases List.mem_cons.mp hq with rfl | hq
        · exact h _ List.mem_cons_self
        · exact ih (fun r hr => h r (List.mem_cons_of_mem _ hr)) q hq
      · intro q hq
        simp at hq
        subst hq
        exact h p List.mem_cons_self
theorem lN_min {x y : Nat} (hx : x < 2 ^ 62) (hy : y < 2 ^ 62) : (if lN y < lN x then lN y else lN x) = lN (min x y) := by
  rcases Nat.lt_or_ge y x with h | h
  · rw [if_pos ((pk_lLT (by omega) (by omega)).mpr h), Nat.min_eq_right (by omega)]
  · rw [if_neg (fun z => absurd ((pk_lLT (by omega) (by omega)).mp z) (by omega)), Nat.min_eq_left h]
set_option maxRecDepth 20000 in
set_option maxHeartbeats 1000000 in
theorem La_appendFront_ok {lb ib gb g0 : Nat} {s : sL} (hL : La h la ia ga ls) (hL2 : La h lb ib gb s) (hx1 : lb ≠ la) (hx2 : ib ≠ ia) (hx3 : gb ≠ ga) (hb0 : sl_hb ls) (hb1 : sl_hb s) (hb : sl_gb s) (hg : g0 < 2 ^ 62) (hlen : (sl_jl ls (sl_tk s g0)).length ≤ 80)
    (hk : ∀ h', La h' la ia ga (sl_jl ls (sl_tk s g0)) → hp_off [la, ia, ga] h h' → P none h' n) : ev_Run G l (d + 1) bc bs mLa_appendFront 0 [some (.ref la), some (.ref lb), some (.long (lN g0)), none, none, none, none, none, none] [] h n P := by
  have hn1 := hL.ne
  have hn2 := hL2.ne
  have hd1 : lb ∉ [la, ia, ga] ∧ ib ∉ [la, ia, ga] ∧ gb ∉ [la, ia, ga] := by
    obtain ⟨f, g, h1, h2, h3, -⟩ := hL
    obtain ⟨f2, g2, i1, i2, i3, -⟩ := hL2
    refine ⟨fun z => ?_, fun z => ?_, fun z => ?_⟩ <;> simp at z <;> rcases z with z | z | z <;> first | exact hx1 z | exact hx2 z | exact hx3 z | (subst z; simp_all)
  have loop : ∀ e j x T h' w, j + e = s.length → x < 2 ^ 62 → La h' la ia ga T → sl_hb T → hp_off [la, ia, ga] h h' → sl_jl T (sl_tk (s.drop j) x) = sl_jl ls (sl_tk s g0) → ev_Run G l (d + 1) bc bs mLa_appendFront 6 [some (.ref la), some (.ref lb), some (.long (lN g0)), none, some (.long (lN x)), none, some (.int (nI j)), w, none] [] h' n P := by
    intro e
    induction e with
    | zero =>
      intro j x T h' w hj hx hT hTb ho he
      obtain ⟨f2, g2, i1, i2, i3, il, ifg⟩ := hL2.keep ho hd1.1 hd1.2.1 hd1.2.2
      rw [List.drop_eq_nil_of_le (by omega)] at he
      have he : T = sl_jl ls (sl_tk s g0) := by simpa [sl_tk, sl_jl] using he
      subst he
      refine ev_iload dLa_appendFront_6 rfl ?_
      refine ev_aload_n dLa_appendFront_8 rfl rfl ?_
      refine ev_get dLa_appendFront_9 fLa_19 i1 rfl ?_
      refine ev_icmp_ge (tgt := 62) dLa_appendFront_12 (by decide) (fun c12 => ?_) (fun c12 => absurd (nI_le (by omega) (by omega)) c12)
      refine ev_vret dLa_appendFront_62 rfl ?_
      exact hk _ hT ho
    | succ e ih =>
      intro j x T h' w hj hx hT hTb ho he
      obtain ⟨p, hp⟩ := sl_get (ls := s) (j := j) (by omega)
      have hp2 := hb p (List.mem_of_getElem? hp)
      have hp1 := hb1 p (List.mem_of_getElem? hp)
      have hL3 := hL2.keep ho hd1.1 hd1.2.1 hd1.2.2
      obtain ⟨f2, g2, i1, i2, i3, il, ifg⟩ := id hL3
      obtain ⟨f3, g3, k1, -⟩ := id hT
      rw [sl_drop hp] at he
      rcases Nat.eq_zero_or_pos x with rfl | hx0
      · have he : T = sl_jl ls (sl_tk s g0) := by simpa [sl_tk, sl_jl] using he
        subst he
        refine ev_iload dLa_appendFront_6 rfl ?_
        refine ev_aload_n dLa_appendFront_8 rfl rfl ?_
        refine ev_get dLa_appendFront_9 fLa_19 i1 rfl ?_
        refine ev_icmp_ge (tgt := 62) dLa_appendFront_12 (by decide) (fun c12 => False.elim (absurd c12 (nI_ge (by omega) (by omega)))) (fun c12 => ?_)
        refine ev_lload dLa_appendFront_15 rfl ?_
        refine ev_lconst (v := lN 0) dLa_appendFront_17 (by decide) ?_
        refine ev_lcmp_le (tgt := 62) dLa_appendFront_18 dLa_appendFront_19 (by decide) (fun c18 => ?_) (fun c18 => absurd (Int64.le_refl _) c18)
        refine ev_vret dLa_appendFront_62 rfl ?_
        exact hk _ hT ho
      · have he2 : sl_jl (sl_jn T p.1 (min x p.2)) (sl_tk (s.drop (j + 1)) (x - min x p.2)) = sl_jl ls (sl_tk s g0) := by
          rw [← he]
          rcases Nat.lt_or_ge p.2 x with hxp | hxp
          · rw [Nat.min_eq_right (by omega)]
            simp only [sl_tk, if_neg (show ¬ x = 0 by omega), if_pos hxp, sl_jl, List.foldl_cons]
          · rw [Nat.min_eq_left hxp, Nat.sub_self, sl_tk_0]
            simp only [sl_tk, if_neg (show ¬ x = 0 by omega), if_neg (show ¬ p.2 < x by omega), sl_jl, List.foldl_cons]
        have hl2 : (sl_jn T p.1 (min x p.2)).length ≤ 80 := by
          refine Nat.le_trans (sl_jl_len (sl_tk (s.drop (j + 1)) (x - min x p.2)) _) ?_
          rw [he2]
          exact hlen
        have hm : min x p.2 ≤ x := Nat.min_le_left _ _
        refine ev_iload dLa_appendFront_6 rfl ?_
        refine ev_aload_n dLa_appendFront_8 rfl rfl ?_
        refine ev_get dLa_appendFront_9 fLa_19 i1 rfl ?_
        refine ev_icmp_ge (tgt := 62) dLa_appendFront_12 (by decide) (fun c12 => False.elim (absurd c12 (nI_ge (by omega) (by omega)))) (fun c12 => ?_)
        refine ev_lload dLa_appendFront_15 rfl ?_
        refine ev_lconst (v := lN 0) dLa_appendFront_17 (by decide) ?_
        refine ev_lcmp_le (tgt := 62) dLa_appendFront_18 dLa_appendFront_19 (by decide) (fun c18 => False.elim (absurd c18 (lN_pos hx0 (by omega)))) (fun c18 => ?_)
        refine ev_lload dLa_appendFront_22 rfl ?_
        refine ev_aload_n dLa_appendFront_24 rfl rfl ?_
        refine ev_get dLa_appendFront_25 fLa_15 i1 rfl ?_
        refine ev_iload dLa_appendFront_28 rfl ?_
        refine ev_lald dLa_appendFront_30 i3 rfl rfl (by omega) (by decide) ?_
        refine ev_mminl dLa_appendFront_31 lLa_37 ma_minl_1 ma_i ma_minl_2 (Nat.le_of_ble_eq_true rfl) ?_
        refine ev_topl (y := lN (min x p.2)) (by rw [(ifg j p hp).2]; exact lN_min (by omega) (by omega)) ?_
        refine ev_lstore dLa_appendFront_34 (by decide) ?_
        refine ev_aload_n dLa_appendFront_36 rfl rfl ?_
        refine ev_aload_n dLa_appendFront_37 rfl rfl ?_
        refine ev_get dLa_appendFront_38 fLa_9 i1 rfl ?_
        refine ev_iload dLa_appendFront_41 rfl ?_
        refine ev_iald dLa_appendFront_43 i2 rfl rfl (by omega) (by decide) ?_
        refine ev_top ((ifg j p hp).1) ?_
        refine ev_lload dLa_appendFront_44 rfl ?_
        refine cz_La_append dLa_appendFront_46 lLa_43 k1 (Nat.le_of_ble_eq_true rfl) (La_append_ok (a := p.1) (x := min x p.2) hT hTb hp1 hl2 (fun h2 q1 q2 => ?_))
        refine ev_lload dLa_appendFront_49 rfl ?_
        refine ev_lload dLa_appendFront_51 rfl ?_
        refine ev_lsub dLa_appendFront_53 ?_
        refine ev_topl (y := lN (x - min x p.2)) (lN_sub hm) ?_
        refine ev_lstore dLa_appendFront_54 (by decide) ?_
        refine ev_iinc dLa_appendFront_56 rfl (ev_inc1 _) (by decide) ?_
        refine ev_goto (tgt := 6) dLa_appendFront_59 (by decide) ?_
        exact ih (j + 1) (x - min x p.2) _ _ _ (by omega) (by omega) q1 (sl_hb_jn hTb hp1) (ho.tr q2) he2
  refine ev_lload_n dLa_appendFront_0 rfl rfl ?_
  refine ev_lstore dLa_appendFront_1 (by decide) ?_
  refine ev_iconst (v := nI 0) dLa_appendFront_3 (by decide) ?_
  refine ev_istore dLa_appendFront_4 (by decide) ?_
  exact loop s.length 0 g0 ls h none (by omega) hg hL hb0 hp_off.rf rfl
end LA3
end
