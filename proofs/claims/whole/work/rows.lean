section
-- ===== PART A: goes FIRST, ahead of the names: the tables' words, and 'selects' of the private methods out of them =====
/-- a private method of a class that the tables say can be made, by its rows of tables_1 -/
def lw_okq (q : MethodName × Nat) : Prop := (q.1.cls ≠ "java/lang/invoke/MethodHandle" ∧ q.1.cls ≠ "java/lang/invoke/VarHandle") ∧ Cond.instantiable q.1.cls q.2 ∈ tables_1 ∧ Cond.privateMethod q.1 ∈ tables_1 ∧ Cond.instanceMethod q.1 ∈ tables_1
theorem lw_p0 : lw_okq (⟨"BatchLinks", "isFull", "()Z"⟩, 10) := ⟨⟨by decide +kernel, by decide +kernel⟩, List.mem_of_getElem? (i := 12) (by decide +kernel), List.mem_of_getElem? (i := 156) (by decide +kernel), List.mem_of_getElem? (i := 157) (by decide +kernel)⟩
theorem lw_p1 : lw_okq (⟨"BatchLinks", "keep", "(LBatchLinks$Thing;)I"⟩, 10) := ⟨⟨by decide +kernel, by decide +kernel⟩, List.mem_of_getElem? (i := 12) (by decide +kernel), List.mem_of_getElem? (i := 217) (by decide +kernel), List.mem_of_getElem? (i := 218) (by decide +kernel)⟩
theorem lw_p2 : lw_okq (⟨"BatchLinks", "find", "(I)LBatchLinks$Thing;"⟩, 10) := ⟨⟨by decide +kernel, by decide +kernel⟩, List.mem_of_getElem? (i := 12) (by decide +kernel), List.mem_of_getElem? (i := 229) (by decide +kernel), List.mem_of_getElem? (i := 230) (by decide +kernel)⟩
theorem lw_p3 : lw_okq (⟨"BatchLinks$Layers", "dropLayers", "(I)V"⟩, 3) := ⟨⟨by decide +kernel, by decide +kernel⟩, List.mem_of_getElem? (i := 165) (by decide +kernel), List.mem_of_getElem? (i := 269) (by decide +kernel), List.mem_of_getElem? (i := 270) (by decide +kernel)⟩
theorem lw_p4 : lw_okq (⟨"BatchLinks", "findHaul", "(I)LBatchLinks$Thing;"⟩, 10) := ⟨⟨by decide +kernel, by decide +kernel⟩, List.mem_of_getElem? (i := 12) (by decide +kernel), List.mem_of_getElem? (i := 293) (by decide +kernel), List.mem_of_getElem? (i := 294) (by decide +kernel)⟩
theorem lw_p5 : lw_okq (⟨"BatchLinks", "countBoxesWith", "(I)V"⟩, 10) := ⟨⟨by decide +kernel, by decide +kernel⟩, List.mem_of_getElem? (i := 12) (by decide +kernel), List.mem_of_getElem? (i := 358) (by decide +kernel), List.mem_of_getElem? (i := 359) (by decide +kernel)⟩
theorem lw_p6 : lw_okq (⟨"BatchLinks$NamesReader", "skipBlanks", "()V"⟩, 3) := ⟨⟨by decide +kernel, by decide +kernel⟩, List.mem_of_getElem? (i := 49) (by decide +kernel), List.mem_of_getElem? (i := 394) (by decide +kernel), List.mem_of_getElem? (i := 395) (by decide +kernel)⟩
theorem lw_p7 : lw_okq (⟨"BatchLinks$NamesReader", "isBlank", "()Z"⟩, 3) := ⟨⟨by decide +kernel, by decide +kernel⟩, List.mem_of_getElem? (i := 49) (by decide +kernel), List.mem_of_getElem? (i := 398) (by decide +kernel), List.mem_of_getElem? (i := 399) (by decide +kernel)⟩
theorem lw_p8 : lw_okq (⟨"BatchLinks$NamesReader", "readRule", "(LBatchLinks$Rules;)V"⟩, 3) := ⟨⟨by decide +kernel, by decide +kernel⟩, List.mem_of_getElem? (i := 49) (by decide +kernel), List.mem_of_getElem? (i := 410) (by decide +kernel), List.mem_of_getElem? (i := 411) (by decide +kernel)⟩
theorem lw_p9 : lw_okq (⟨"BatchLinks$NamesReader", "readNumber", "(II)I"⟩, 3) := ⟨⟨by decide +kernel, by decide +kernel⟩, List.mem_of_getElem? (i := 49) (by decide +kernel), List.mem_of_getElem? (i := 418) (by decide +kernel), List.mem_of_getElem? (i := 419) (by decide +kernel)⟩
theorem lw_p10 : lw_okq (⟨"BatchLinks$NamesReader", "isDigit", "()Z"⟩, 3) := ⟨⟨by decide +kernel, by decide +kernel⟩, List.mem_of_getElem? (i := 49) (by decide +kernel), List.mem_of_getElem? (i := 422) (by decide +kernel), List.mem_of_getElem? (i := 423) (by decide +kernel)⟩
theorem lw_p11 : lw_okq (⟨"BatchLinks$NamesReader", "fail", "(I)V"⟩, 3) := ⟨⟨by decide +kernel, by decide +kernel⟩, List.mem_of_getElem? (i := 49) (by decide +kernel), List.mem_of_getElem? (i := 426) (by decide +kernel), List.mem_of_getElem? (i := 427) (by decide +kernel)⟩
theorem lw_p12 : lw_okq (⟨"BatchLinks$NamesReader", "readSign", "(C)V"⟩, 3) := ⟨⟨by decide +kernel, by decide +kernel⟩, List.mem_of_getElem? (i := 49) (by decide +kernel), List.mem_of_getElem? (i := 430) (by decide +kernel), List.mem_of_getElem? (i := 431) (by decide +kernel)⟩
theorem lw_p13 : lw_okq (⟨"BatchLinks", "canEnter", "(IJI)Z"⟩, 10) := ⟨⟨by decide +kernel, by decide +kernel⟩, List.mem_of_getElem? (i := 12) (by decide +kernel), List.mem_of_getElem? (i := 472) (by decide +kernel), List.mem_of_getElem? (i := 473) (by decide +kernel)⟩
theorem lw_p14 : lw_okq (⟨"BatchLinks", "sumOfFact", "(I)J"⟩, 10) := ⟨⟨by decide +kernel, by decide +kernel⟩, List.mem_of_getElem? (i := 12) (by decide +kernel), List.mem_of_getElem? (i := 533) (by decide +kernel), List.mem_of_getElem? (i := 534) (by decide +kernel)⟩
theorem lw_p15 : lw_okq (⟨"BatchLinks", "sumInside", "(I)J"⟩, 10) := ⟨⟨by decide +kernel, by decide +kernel⟩, List.mem_of_getElem? (i := 12) (by decide +kernel), List.mem_of_getElem? (i := 537) (by decide +kernel), List.mem_of_getElem? (i := 538) (by decide +kernel)⟩
def lw_privs_1 : List (MethodName × Nat) := [(⟨"BatchLinks", "isFull", "()Z"⟩, 10), (⟨"BatchLinks", "keep", "(LBatchLinks$Thing;)I"⟩, 10), (⟨"BatchLinks", "find", "(I)LBatchLinks$Thing;"⟩, 10), (⟨"BatchLinks$Layers", "dropLayers", "(I)V"⟩, 3), (⟨"BatchLinks", "findHaul", "(I)LBatchLinks$Thing;"⟩, 10), (⟨"BatchLinks", "countBoxesWith", "(I)V"⟩, 10), (⟨"BatchLinks$NamesReader", "skipBlanks", "()V"⟩, 3), (⟨"BatchLinks$NamesReader", "isBlank", "()Z"⟩, 3), (⟨"BatchLinks$NamesReader", "readRule", "(LBatchLinks$Rules;)V"⟩, 3), (⟨"BatchLinks$NamesReader", "readNumber", "(II)I"⟩, 3), (⟨"BatchLinks$NamesReader", "isDigit", "()Z"⟩, 3), (⟨"BatchLinks$NamesReader", "fail", "(I)V"⟩, 3), (⟨"BatchLinks$NamesReader", "readSign", "(C)V"⟩, 3), (⟨"BatchLinks", "canEnter", "(IJI)Z"⟩, 10), (⟨"BatchLinks", "sumOfFact", "(I)J"⟩, 10), (⟨"BatchLinks", "sumInside", "(I)J"⟩, 10)]
theorem lw_r1 : ∀ q ∈ lw_privs_1, lw_okq q := List.forall_mem_cons.mpr ⟨lw_p0, List.forall_mem_cons.mpr ⟨lw_p1, List.forall_mem_cons.mpr ⟨lw_p2, List.forall_mem_cons.mpr ⟨lw_p3, List.forall_mem_cons.mpr ⟨lw_p4, List.forall_mem_cons.mpr ⟨lw_p5, List.forall_mem_cons.mpr ⟨lw_p6, List.forall_mem_cons.mpr ⟨lw_p7, List.forall_mem_cons.mpr ⟨lw_p8, List.forall_mem_cons.mpr ⟨lw_p9, List.forall_mem_cons.mpr ⟨lw_p10, List.forall_mem_cons.mpr ⟨lw_p11, List.forall_mem_cons.mpr ⟨lw_p12, List.forall_mem_cons.mpr ⟨lw_p13, List.forall_mem_cons.mpr ⟨lw_p14, List.forall_mem_cons.mpr ⟨lw_p15, fun _ h => absurd h List.not_mem_nil⟩⟩⟩⟩⟩⟩⟩⟩⟩⟩⟩⟩⟩⟩⟩⟩
theorem lw_p16 : lw_okq (⟨"BatchLinksModel", "make", "(IIIJ)I"⟩, 36) := ⟨⟨by decide +kernel, by decide +kernel⟩, List.mem_of_getElem? (i := 545) (by decide +kernel), List.mem_of_getElem? (i := 667) (by decide +kernel), List.mem_of_getElem? (i := 668) (by decide +kernel)⟩
theorem lw_p17 : lw_okq (⟨"BatchLinksModel", "isOf", "(II)Z"⟩, 36) := ⟨⟨by decide +kernel, by decide +kernel⟩, List.mem_of_getElem? (i := 545) (by decide +kernel), List.mem_of_getElem? (i := 679) (by decide +kernel), List.mem_of_getElem? (i := 680) (by decide +kernel)⟩
theorem lw_p18 : lw_okq (⟨"BatchLinksModel", "isThing", "(I)Z"⟩, 36) := ⟨⟨by decide +kernel, by decide +kernel⟩, List.mem_of_getElem? (i := 545) (by decide +kernel), List.mem_of_getElem? (i := 683) (by decide +kernel), List.mem_of_getElem? (i := 684) (by decide +kernel)⟩
theorem lw_p19 : lw_okq (⟨"BatchLinksModel", "isSource", "(I)Z"⟩, 36) := ⟨⟨by decide +kernel, by decide +kernel⟩, List.mem_of_getElem? (i := 545) (by decide +kernel), List.mem_of_getElem? (i := 687) (by decide +kernel), List.mem_of_getElem? (i := 688) (by decide +kernel)⟩
theorem lw_p20 : lw_okq (⟨"BatchLinksModel", "has", "(IJ)Z"⟩, 36) := ⟨⟨by decide +kernel, by decide +kernel⟩, List.mem_of_getElem? (i := 545) (by decide +kernel), List.mem_of_getElem? (i := 691) (by decide +kernel), List.mem_of_getElem? (i := 692) (by decide +kernel)⟩
theorem lw_p21 : lw_okq (⟨"BatchLinksModel", "gramsIn", "(I)J"⟩, 36) := ⟨⟨by decide +kernel, by decide +kernel⟩, List.mem_of_getElem? (i := 545) (by decide +kernel), List.mem_of_getElem? (i := 695) (by decide +kernel), List.mem_of_getElem? (i := 696) (by decide +kernel)⟩
theorem lw_p22 : lw_okq (⟨"BatchLinksModel", "layBy", "(IIJ)V"⟩, 36) := ⟨⟨by decide +kernel, by decide +kernel⟩, List.mem_of_getElem? (i := 545) (by decide +kernel), List.mem_of_getElem? (i := 699) (by decide +kernel), List.mem_of_getElem? (i := 700) (by decide +kernel)⟩
theorem lw_p23 : lw_okq (⟨"BatchLinksModel", "lay", "(IJ)V"⟩, 36) := ⟨⟨by decide +kernel, by decide +kernel⟩, List.mem_of_getElem? (i := 545) (by decide +kernel), List.mem_of_getElem? (i := 703) (by decide +kernel), List.mem_of_getElem? (i := 704) (by decide +kernel)⟩
theorem lw_p24 : lw_okq (⟨"BatchLinksModel", "putDown", "(I)V"⟩, 36) := ⟨⟨by decide +kernel, by decide +kernel⟩, List.mem_of_getElem? (i := 545) (by decide +kernel), List.mem_of_getElem? (i := 707) (by decide +kernel), List.mem_of_getElem? (i := 708) (by decide +kernel)⟩
theorem lw_p25 : lw_okq (⟨"BatchLinksModel", "takeOut", "(IJ)V"⟩, 36) := ⟨⟨by decide +kernel, by decide +kernel⟩, List.mem_of_getElem? (i := 545) (by decide +kernel), List.mem_of_getElem? (i := 711) (by decide +kernel), List.mem_of_getElem? (i := 712) (by decide +kernel)⟩
theorem lw_p26 : lw_okq (⟨"BatchLinksModel", "gramsFrom", "(II)J"⟩, 36) := ⟨⟨by decide +kernel, by decide +kernel⟩, List.mem_of_getElem? (i := 545) (by decide +kernel), List.mem_of_getElem? (i := 744) (by decide +kernel), List.mem_of_getElem? (i := 745) (by decide +kernel)⟩
theorem lw_p27 : lw_okq (⟨"BatchLinksModel", "boxesOf", "(II)I"⟩, 36) := ⟨⟨by decide +kernel, by decide +kernel⟩, List.mem_of_getElem? (i := 545) (by decide +kernel), List.mem_of_getElem? (i := 756) (by decide +kernel), List.mem_of_getElem? (i := 757) (by decide +kernel)⟩
theorem lw_p28 : lw_okq (⟨"BatchLinksModel", "skip", "()Z"⟩, 36) := ⟨⟨by decide +kernel, by decide +kernel⟩, List.mem_of_getElem? (i := 545) (by decide +kernel), List.mem_of_getElem? (i := 776) (by decide +kernel), List.mem_of_getElem? (i := 777) (by decide +kernel)⟩
theorem lw_p29 : lw_okq (⟨"BatchLinksModel", "number", "(II)I"⟩, 36) := ⟨⟨by decide +kernel, by decide +kernel⟩, List.mem_of_getElem? (i := 545) (by decide +kernel), List.mem_of_getElem? (i := 781) (by decide +kernel), List.mem_of_getElem? (i := 782) (by decide +kernel)⟩
theorem lw_p30 : lw_okq (⟨"BatchLinksModel", "isDigit", "(I)Z"⟩, 36) := ⟨⟨by decide +kernel, by decide +kernel⟩, List.mem_of_getElem? (i := 545) (by decide +kernel), List.mem_of_getElem? (i := 785) (by decide +kernel), List.mem_of_getElem? (i := 786) (by decide +kernel)⟩
theorem lw_p31 : lw_okq (⟨"BatchLinksModel", "sign", "(I)V"⟩, 36) := ⟨⟨by decide +kernel, by decide +kernel⟩, List.mem_of_getElem? (i := 545) (by decide +kernel), List.mem_of_getElem? (i := 789) (by decide +kernel), List.mem_of_getElem? (i := 790) (by decide +kernel)⟩
def lw_privs_2 : List (MethodName × Nat) := [(⟨"BatchLinksModel", "make", "(IIIJ)I"⟩, 36), (⟨"BatchLinksModel", "isOf", "(II)Z"⟩, 36), (⟨"BatchLinksModel", "isThing", "(I)Z"⟩, 36), (⟨"BatchLinksModel", "isSource", "(I)Z"⟩, 36), (⟨"BatchLinksModel", "has", "(IJ)Z"⟩, 36), (⟨"BatchLinksModel", "gramsIn", "(I)J"⟩, 36), (⟨"BatchLinksModel", "layBy", "(IIJ)V"⟩, 36), (⟨"BatchLinksModel", "lay", "(IJ)V"⟩, 36), (⟨"BatchLinksModel", "putDown", "(I)V"⟩, 36), (⟨"BatchLinksModel", "takeOut", "(IJ)V"⟩, 36), (⟨"BatchLinksModel", "gramsFrom", "(II)J"⟩, 36), (⟨"BatchLinksModel", "boxesOf", "(II)I"⟩, 36), (⟨"BatchLinksModel", "skip", "()Z"⟩, 36), (⟨"BatchLinksModel", "number", "(II)I"⟩, 36), (⟨"BatchLinksModel", "isDigit", "(I)Z"⟩, 36), (⟨"BatchLinksModel", "sign", "(I)V"⟩, 36)]
theorem lw_r2 : ∀ q ∈ lw_privs_2, lw_okq q := List.forall_mem_cons.mpr ⟨lw_p16, List.forall_mem_cons.mpr ⟨lw_p17, List.forall_mem_cons.mpr ⟨lw_p18, List.forall_mem_cons.mpr ⟨lw_p19, List.forall_mem_cons.mpr ⟨lw_p20, List.forall_mem_cons.mpr ⟨lw_p21, List.forall_mem_cons.mpr ⟨lw_p22, List.forall_mem_cons.mpr ⟨lw_p23, List.forall_mem_cons.mpr ⟨lw_p24, List.forall_mem_cons.mpr ⟨lw_p25, List.forall_mem_cons.mpr ⟨lw_p26, List.forall_mem_cons.mpr ⟨lw_p27, List.forall_mem_cons.mpr ⟨lw_p28, List.forall_mem_cons.mpr ⟨lw_p29, List.forall_mem_cons.mpr ⟨lw_p30, List.forall_mem_cons.mpr ⟨lw_p31, fun _ h => absurd h List.not_mem_nil⟩⟩⟩⟩⟩⟩⟩⟩⟩⟩⟩⟩⟩⟩⟩⟩
theorem lw_p32 : lw_okq (⟨"BatchLinksModel", "mayAct", "(IJI)Z"⟩, 36) := ⟨⟨by decide +kernel, by decide +kernel⟩, List.mem_of_getElem? (i := 545) (by decide +kernel), List.mem_of_getElem? (i := 806) (by decide +kernel), List.mem_of_getElem? (i := 807) (by decide +kernel)⟩
theorem lw_p33 : lw_okq (⟨"BatchLinksModel", "act", "(IJI)V"⟩, 36) := ⟨⟨by decide +kernel, by decide +kernel⟩, List.mem_of_getElem? (i := 545) (by decide +kernel), List.mem_of_getElem? (i := 810) (by decide +kernel), List.mem_of_getElem? (i := 811) (by decide +kernel)⟩
theorem lw_p34 : lw_okq (⟨"BatchLinksModel", "balanceOf", "(II)J"⟩, 36) := ⟨⟨by decide +kernel, by decide +kernel⟩, List.mem_of_getElem? (i := 545) (by decide +kernel), List.mem_of_getElem? (i := 818) (by decide +kernel), List.mem_of_getElem? (i := 819) (by decide +kernel)⟩
theorem lw_p35 : lw_okq (⟨"BatchLinksModel", "writeNumber", "(J)V"⟩, 36) := ⟨⟨by decide +kernel, by decide +kernel⟩, List.mem_of_getElem? (i := 545) (by decide +kernel), List.mem_of_getElem? (i := 834) (by decide +kernel), List.mem_of_getElem? (i := 835) (by decide +kernel)⟩
theorem lw_p36 : lw_okq (⟨"BatchLinksModel", "write", "(I)V"⟩, 36) := ⟨⟨by decide +kernel, by decide +kernel⟩, List.mem_of_getElem? (i := 545) (by decide +kernel), List.mem_of_getElem? (i := 840) (by decide +kernel), List.mem_of_getElem? (i := 841) (by decide +kernel)⟩
theorem lw_p37 : lw_okq (⟨"BatchLinksModel", "allIn", "(I)J"⟩, 36) := ⟨⟨by decide +kernel, by decide +kernel⟩, List.mem_of_getElem? (i := 545) (by decide +kernel), List.mem_of_getElem? (i := 848) (by decide +kernel), List.mem_of_getElem? (i := 849) (by decide +kernel)⟩
def lw_privs_3 : List (MethodName × Nat) := [(⟨"BatchLinksModel", "mayAct", "(IJI)Z"⟩, 36), (⟨"BatchLinksModel", "act", "(IJI)V"⟩, 36), (⟨"BatchLinksModel", "balanceOf", "(II)J"⟩, 36), (⟨"BatchLinksModel", "writeNumber", "(J)V"⟩, 36), (⟨"BatchLinksModel", "write", "(I)V"⟩, 36), (⟨"BatchLinksModel", "allIn", "(I)J"⟩, 36)]
theorem lw_r3 : ∀ q ∈ lw_privs_3, lw_okq q := List.forall_mem_cons.mpr ⟨lw_p32, List.forall_mem_cons.mpr ⟨lw_p33, List.forall_mem_cons.mpr ⟨lw_p34, List.forall_mem_cons.mpr ⟨lw_p35, List.forall_mem_cons.mpr ⟨lw_p36, List.forall_mem_cons.mpr ⟨lw_p37, fun _ h => absurd h List.not_mem_nil⟩⟩⟩⟩⟩⟩
def lw_privs : List (MethodName × Nat) := lw_privs_1 ++ (lw_privs_2 ++ (lw_privs_3))
def lw_tbl : List Cond := k2_sels lw_privs ++ tables_1
theorem lw_privs_ok : ∀ q ∈ lw_privs, lw_okq q := by
  show ∀ q ∈ lw_privs_1 ++ (lw_privs_2 ++ (lw_privs_3)), lw_okq q
  exact List.forall_mem_append.mpr ⟨lw_r1, List.forall_mem_append.mpr ⟨lw_r2, lw_r3⟩⟩
end
section
/-! names: classes, their fields, methods; written by wip/whole/gen_names.py out of the task -/
def TBy : u_T := fun k => match k with
  | 0 => ("BatchLinks$Bytes", "row", "[I", true)
  | _ => ("BatchLinks$Bytes", "count", "I", false)
def tyBy : Nat → FieldType := fun k => match k with
  | 0 => .array .int
  | _ => .int
theorem nmBy : ∀ a, a < 2 → ∀ b, b < 2 → a ≠ b → (TBy a).2.1 ≠ (TBy b).2.1 := by decide +kernel
theorem okBy : ∀ k, k < 2 → parseFieldDescriptor (TBy k).2.2.1 = some (tyBy k) := by decide +kernel
def TLa : u_T := fun k => match k with
  | 0 => ("BatchLinks$Layers", "hauls", "[I", true)
  | 1 => ("BatchLinks$Layers", "grams", "[J", true)
  | _ => ("BatchLinks$Layers", "count", "I", false)
def tyLa : Nat → FieldType := fun k => match k with
  | 0 => .array .int
  | 1 => .array .long
  | _ => .int
theorem nmLa : ∀ a, a < 3 → ∀ b, b < 3 → a ≠ b → (TLa a).2.1 ≠ (TLa b).2.1 := by decide +kernel
theorem okLa : ∀ k, k < 3 → parseFieldDescriptor (TLa k).2.2.1 = some (tyLa k) := by decide +kernel
def TLe : u_T := fun k => match k with
  | 0 => ("BatchLinks$Ledger", "untils", "[I", true)
  | 1 => ("BatchLinks$Ledger", "certificates", "I", false)
  | 2 => ("BatchLinks$Ledger", "owners", "[I", true)
  | 3 => ("BatchLinks$Ledger", "days", "[I", true)
  | 4 => ("BatchLinks$Ledger", "amounts", "[J", true)
  | _ => ("BatchLinks$Ledger", "entries", "I", false)
def tyLe : Nat → FieldType := fun k => match k with
  | 0 => .array .int
  | 1 => .int
  | 2 => .array .int
  | 3 => .array .int
  | 4 => .array .long
  | _ => .int
theorem nmLe : ∀ a, a < 6 → ∀ b, b < 6 → a ≠ b → (TLe a).2.1 ≠ (TLe b).2.1 := by decide +kernel
theorem okLe : ∀ k, k < 6 → parseFieldDescriptor (TLe k).2.2.1 = some (tyLe k) := by decide +kernel
def TNa : u_T := fun k => match k with
  | 0 => ("BatchLinks$NamesReader", "tape", "LBatchLinks$Bytes;", true)
  | 1 => ("BatchLinks$NamesReader", "at", "I", false)
  | _ => ("BatchLinks$NamesReader", "fault", "I", false)
def tyNa : Nat → FieldType := fun k => match k with
  | 0 => .object "BatchLinks$Bytes"
  | 1 => .int
  | _ => .int
theorem nmNa : ∀ a, a < 3 → ∀ b, b < 3 → a ≠ b → (TNa a).2.1 ≠ (TNa b).2.1 := by decide +kernel
theorem okNa : ∀ k, k < 3 → parseFieldDescriptor (TNa k).2.2.1 = some (tyNa k) := by decide +kernel
def TRu : u_T := fun k => match k with
  | 0 => ("BatchLinks$Rules", "codes", "[I", true)
  | 1 => ("BatchLinks$Rules", "firsts", "[I", true)
  | 2 => ("BatchLinks$Rules", "seconds", "[I", true)
  | 3 => ("BatchLinks$Rules", "days", "[I", true)
  | _ => ("BatchLinks$Rules", "count", "I", false)
def tyRu : Nat → FieldType := fun k => match k with
  | 0 => .array .int
  | 1 => .array .int
  | 2 => .array .int
  | 3 => .array .int
  | _ => .int
theorem nmRu : ∀ a, a < 5 → ∀ b, b < 5 → a ≠ b → (TRu a).2.1 ≠ (TRu b).2.1 := by decide +kernel
theorem okRu : ∀ k, k < 5 → parseFieldDescriptor (TRu k).2.2.1 = some (tyRu k) := by decide +kernel
def TTa : u_T := fun k => match k with
  | _ => ("BatchLinks$Tally", "counts", "[I", true)
def tyTa : Nat → FieldType := fun k => match k with
  | _ => .array .int
theorem nmTa : ∀ a, a < 1 → ∀ b, b < 1 → a ≠ b → (TTa a).2.1 ≠ (TTa b).2.1 := by decide +kernel
theorem okTa : ∀ k, k < 1 → parseFieldDescriptor (TTa k).2.2.1 = some (tyTa k) := by decide +kernel
def TTh : u_T := fun k => match k with
  | 0 => ("BatchLinks$Thing", "kind", "I", true)
  | 1 => ("BatchLinks$Thing", "mark", "I", true)
  | 2 => ("BatchLinks$Thing", "day", "I", true)
  | 3 => ("BatchLinks$Thing", "layers", "LBatchLinks$Layers;", true)
  | 4 => ("BatchLinks$Thing", "grams", "J", false)
  | 5 => ("BatchLinks$Thing", "lost", "J", false)
  | 6 => ("BatchLinks$Thing", "held", "Z", false)
  | _ => ("BatchLinks$Thing", "warmest", "I", false)
def tyTh : Nat → FieldType := fun k => match k with
  | 0 => .int
  | 1 => .int
  | 2 => .int
  | 3 => .object "BatchLinks$Layers"
  | 4 => .long
  | 5 => .long
  | 6 => .boolean
  | _ => .int
theorem nmTh : ∀ a, a < 8 → ∀ b, b < 8 → a ≠ b → (TTh a).2.1 ≠ (TTh b).2.1 := by decide +kernel
theorem okTh : ∀ k, k < 8 → parseFieldDescriptor (TTh k).2.2.1 = some (tyTh k) := by decide +kernel
def TBL : u_T := fun k => match k with
  | 0 => ("BatchLinks", "things", "[LBatchLinks$Thing;", true)
  | 1 => ("BatchLinks", "thingCount", "I", false)
  | 2 => ("BatchLinks", "hauls", "LBatchLinks$Tally;", true)
  | 3 => ("BatchLinks", "boxesOfCustomers", "LBatchLinks$Tally;", true)
  | 4 => ("BatchLinks", "tape", "LBatchLinks$Bytes;", true)
  | 5 => ("BatchLinks", "namesReader", "LBatchLinks$NamesReader;", true)
  | 6 => ("BatchLinks", "rules", "LBatchLinks$Rules;", false)
  | 7 => ("BatchLinks", "spareRules", "LBatchLinks$Rules;", false)
  | 8 => ("BatchLinks", "ledger", "LBatchLinks$Ledger;", true)
  | _ => ("BatchLinks", "page", "LBatchLinks$Bytes;", true)
def tyBL : Nat → FieldType := fun k => match k with
  | 0 => .array (.object "BatchLinks$Thing")
  | 1 => .int
  | 2 => .object "BatchLinks$Tally"
  | 3 => .object "BatchLinks$Tally"
  | 4 => .object "BatchLinks$Bytes"
  | 5 => .object "BatchLinks$NamesReader"
  | 6 => .object "BatchLinks$Rules"
  | 7 => .object "BatchLinks$Rules"
  | 8 => .object "BatchLinks$Ledger"
  | _ => .object "BatchLinks$Bytes"
theorem nmBL : ∀ a, a < 10 → ∀ b, b < 10 → a ≠ b → (TBL a).2.1 ≠ (TBL b).2.1 := by decide +kernel
theorem okBL : ∀ k, k < 10 → parseFieldDescriptor (TBL k).2.2.1 = some (tyBL k) := by decide +kernel
def TMo : u_T := fun k => match k with
  | 0 => ("BatchLinksModel", "things", "I", false)
  | 1 => ("BatchLinksModel", "kind", "[I", true)
  | 2 => ("BatchLinksModel", "layers", "[I", true)
  | 3 => ("BatchLinksModel", "haulOf", "[I", true)
  | 4 => ("BatchLinksModel", "gramsOf", "[J", true)
  | 5 => ("BatchLinksModel", "lost", "[J", true)
  | 6 => ("BatchLinksModel", "held", "[Z", true)
  | 7 => ("BatchLinksModel", "warmest", "[I", true)
  | 8 => ("BatchLinksModel", "where", "[I", true)
  | 9 => ("BatchLinksModel", "dayOf", "[I", true)
  | 10 => ("BatchLinksModel", "toldGrams", "[J", true)
  | 11 => ("BatchLinksModel", "laid", "I", false)
  | 12 => ("BatchLinksModel", "laidHaul", "[I", true)
  | 13 => ("BatchLinksModel", "laidGrams", "[J", true)
  | 14 => ("BatchLinksModel", "size", "I", false)
  | 15 => ("BatchLinksModel", "tape", "[I", true)
  | 16 => ("BatchLinksModel", "rules", "I", false)
  | 17 => ("BatchLinksModel", "ruleCode", "[I", true)
  | 18 => ("BatchLinksModel", "ruleLow", "[I", true)
  | 19 => ("BatchLinksModel", "ruleHigh", "[I", true)
  | 20 => ("BatchLinksModel", "ruleDay", "[I", true)
  | 21 => ("BatchLinksModel", "read", "I", false)
  | 22 => ("BatchLinksModel", "readCode", "[I", true)
  | 23 => ("BatchLinksModel", "readLow", "[I", true)
  | 24 => ("BatchLinksModel", "readHigh", "[I", true)
  | 25 => ("BatchLinksModel", "readDay", "[I", true)
  | 26 => ("BatchLinksModel", "at", "I", false)
  | 27 => ("BatchLinksModel", "fault", "I", false)
  | 28 => ("BatchLinksModel", "certificates", "I", false)
  | 29 => ("BatchLinksModel", "untilOf", "[I", true)
  | 30 => ("BatchLinksModel", "acts", "I", false)
  | 31 => ("BatchLinksModel", "actOf", "[I", true)
  | 32 => ("BatchLinksModel", "actDay", "[I", true)
  | 33 => ("BatchLinksModel", "actGrams", "[J", true)
  | 34 => ("BatchLinksModel", "written", "I", false)
  | _ => ("BatchLinksModel", "paper", "[I", true)
def tyMo : Nat → FieldType := fun k => match k with
  | 0 => .int
  | 1 => .array .int
  | 2 => .array .int
  | 3 => .array .int
  | 4 => .array .long
  | 5 => .array .long
  | 6 => .array .boolean
  | 7 => .array .int
  | 8 => .array .int
  | 9 => .array .int
  | 10 => .array .long
  | 11 => .int
  | 12 => .array .int
  | 13 => .array .long
  | 14 => .int
  | 15 => .array .int
  | 16 => .int
  | 17 => .array .int
  | 18 => .array .int
  | 19 => .array .int
  | 20 => .array .int
  | 21 => .int
  | 22 => .array .int
  | 23 => .array .int
  | 24 => .array .int
  | 25 => .array .int
  | 26 => .int
  | 27 => .int
  | 28 => .int
  | 29 => .array .int
  | 30 => .int
  | 31 => .array .int
  | 32 => .array .int
  | 33 => .array .long
  | 34 => .int
  | _ => .array .int
theorem nmMo : ∀ a, a < 36 → ∀ b, b < 36 → a ≠ b → (TMo a).2.1 ≠ (TMo b).2.1 := by decide +kernel
theorem okMo : ∀ k, k < 36 → parseFieldDescriptor (TMo k).2.2.1 = some (tyMo k) := by decide +kernel
abbrev vwCl : List vw_C := [("BatchLinks$Bytes", TBy, 2), ("BatchLinks$Layers", TLa, 3), ("BatchLinks$Ledger", TLe, 6), ("BatchLinks$NamesReader", TNa, 3), ("BatchLinks$Rules", TRu, 5), ("BatchLinks$Tally", TTa, 1), ("BatchLinks$Thing", TTh, 8), ("BatchLinks", TBL, 10), ("BatchLinksModel", TMo, 36)]
abbrev ev_tys : List FieldType := [.int, .long, .boolean, .object "BatchLinks$Thing"]
abbrev ev_nm : List (String × Nat × MethodName × String) := [("BatchLinks", 21, ⟨"BatchLinks$Tally", "<init>", "()V"⟩, "BatchLinks"), ("BatchLinks", 49, ⟨"BatchLinks$Rules", "<init>", "()V"⟩, "BatchLinks"), ("BatchLinks", 59, ⟨"BatchLinks$Ledger", "<init>", "()V"⟩, "BatchLinks"), ("BatchLinks$Thing", 23, ⟨"BatchLinks$Layers", "<init>", "()V"⟩, "BatchLinks")]
abbrev ev_ao : List String := ["BatchLinks$Thing"]
abbrev xM : Type := MethodName × ByteArray × Nat × Option FieldType
abbrev mBL_init : xM := (⟨"BatchLinks", "<init>", "()V"⟩, prog_1_method_1_code, 1, none)
abbrev mTa_init : xM := (⟨"BatchLinks$Tally", "<init>", "()V"⟩, prog_7_method_1_code, 1, none)
abbrev mBy_init : xM := (⟨"BatchLinks$Bytes", "<init>", "(I)V"⟩, prog_2_method_1_code, 2, none)
abbrev mNa_init : xM := (⟨"BatchLinks$NamesReader", "<init>", "(LBatchLinks$Bytes;)V"⟩, prog_5_method_1_code, 2, none)
abbrev mRu_init : xM := (⟨"BatchLinks$Rules", "<init>", "()V"⟩, prog_6_method_1_code, 1, none)
abbrev mLe_init : xM := (⟨"BatchLinks$Ledger", "<init>", "()V"⟩, prog_4_method_1_code, 1, none)
abbrev mBL_haul : xM := (⟨"BatchLinks", "haul", "(JII)I"⟩, prog_1_method_2_code, 6, some (.int))
abbrev mBL_isWeight : xM := (⟨"BatchLinks", "isWeight", "(J)Z"⟩, prog_1_method_26_code, 2, some (.boolean))
abbrev mBL_isWithin : xM := (⟨"BatchLinks", "isWithin", "(II)Z"⟩, prog_1_method_27_code, 2, some (.boolean))
abbrev mBL_isFull : xM := (⟨"BatchLinks", "isFull", "()Z"⟩, prog_1_method_29_code, 1, some (.boolean))
abbrev mTh_init : xM := (⟨"BatchLinks$Thing", "<init>", "(III)V"⟩, prog_8_method_1_code, 4, none)
abbrev mLa_init : xM := (⟨"BatchLinks$Layers", "<init>", "()V"⟩, prog_3_method_1_code, 1, none)
abbrev mLa_append : xM := (⟨"BatchLinks$Layers", "append", "(IJ)V"⟩, prog_3_method_11_code, 4, none)
abbrev mBL_keep : xM := (⟨"BatchLinks", "keep", "(LBatchLinks$Thing;)I"⟩, prog_1_method_30_code, 2, some (.int))
abbrev mBL_batch : xM := (⟨"BatchLinks", "batch", "()I"⟩, prog_1_method_3_code, 1, some (.int))
abbrev mBL_into : xM := (⟨"BatchLinks", "into", "(IIJ)Z"⟩, prog_1_method_4_code, 7, some (.boolean))
abbrev mBL_find : xM := (⟨"BatchLinks", "find", "(I)LBatchLinks$Thing;"⟩, prog_1_method_31_code, 2, some (.object "BatchLinks$Thing"))
abbrev mLa_have : xM := (⟨"BatchLinks$Layers", "have", "(J)Z"⟩, prog_3_method_7_code, 3, some (.boolean))
abbrev mLa_total : xM := (⟨"BatchLinks$Layers", "total", "()J"⟩, prog_3_method_5_code, 4, some (.long))
abbrev mLa_sizeWith : xM := (⟨"BatchLinks$Layers", "sizeWith", "(LBatchLinks$Layers;J)I"⟩, prog_3_method_9_code, 5, some (.int))
abbrev mLa_sizeOf : xM := (⟨"BatchLinks$Layers", "sizeOf", "(J)I"⟩, prog_3_method_8_code, 7, some (.int))
abbrev mLa_haulAt : xM := (⟨"BatchLinks$Layers", "haulAt", "(I)I"⟩, prog_3_method_3_code, 2, some (.int))
abbrev mTh_takeFrom : xM := (⟨"BatchLinks$Thing", "takeFrom", "(LBatchLinks$Thing;J)V"⟩, prog_8_method_2_code, 4, none)
abbrev mLa_appendFront : xM := (⟨"BatchLinks$Layers", "appendFront", "(LBatchLinks$Layers;J)V"⟩, prog_3_method_12_code, 9, none)
abbrev mLa_dropFront : xM := (⟨"BatchLinks$Layers", "dropFront", "(J)V"⟩, prog_3_method_13_code, 9, none)
abbrev mLa_dropLayers : xM := (⟨"BatchLinks$Layers", "dropLayers", "(I)V"⟩, prog_3_method_14_code, 3, none)
abbrev mBL_box : xM := (⟨"BatchLinks", "box", "(IJI)I"⟩, prog_1_method_5_code, 7, some (.int))
abbrev mBL_waste : xM := (⟨"BatchLinks", "waste", "(IJ)J"⟩, prog_1_method_6_code, 5, some (.long))
abbrev mBL_hold : xM := (⟨"BatchLinks", "hold", "(IZ)Z"⟩, prog_1_method_7_code, 4, some (.boolean))
abbrev mBL_correct : xM := (⟨"BatchLinks", "correct", "(IJ)Z"⟩, prog_1_method_8_code, 7, some (.boolean))
abbrev mBL_findHaul : xM := (⟨"BatchLinks", "findHaul", "(I)LBatchLinks$Thing;"⟩, prog_1_method_32_code, 3, some (.object "BatchLinks$Thing"))
abbrev mLa_clear : xM := (⟨"BatchLinks$Layers", "clear", "()V"⟩, prog_3_method_10_code, 1, none)
abbrev mBL_told : xM := (⟨"BatchLinks", "told", "(II)J"⟩, prog_1_method_9_code, 4, some (.long))
abbrev mTh_fact : xM := (⟨"BatchLinks$Thing", "fact", "(I)J"⟩, prog_8_method_3_code, 2, some (.long))
abbrev mLa_size : xM := (⟨"BatchLinks$Layers", "size", "()I"⟩, prog_3_method_2_code, 1, some (.int))
abbrev mBL_layer : xM := (⟨"BatchLinks", "layer", "(III)J"⟩, prog_1_method_10_code, 5, some (.long))
abbrev mLa_gramsAt : xM := (⟨"BatchLinks$Layers", "gramsAt", "(I)J"⟩, prog_3_method_4_code, 2, some (.long))
abbrev mBL_share : xM := (⟨"BatchLinks", "share", "(III)J"⟩, prog_1_method_11_code, 11, some (.long))
abbrev mLa_gramsOf : xM := (⟨"BatchLinks$Layers", "gramsOf", "(I)J"⟩, prog_3_method_6_code, 5, some (.long))
abbrev mBL_greatestDivisor : xM := (⟨"BatchLinks", "greatestDivisor", "(JJ)J"⟩, prog_1_method_28_code, 11, some (.long))
abbrev mBL_back : xM := (⟨"BatchLinks", "back", "(II)I"⟩, prog_1_method_12_code, 5, some (.int))
abbrev mTa_clear : xM := (⟨"BatchLinks$Tally", "clear", "()V"⟩, prog_7_method_2_code, 2, none)
abbrev mTa_count : xM := (⟨"BatchLinks$Tally", "count", "(I)V"⟩, prog_7_method_3_code, 2, none)
abbrev mTa_pick : xM := (⟨"BatchLinks$Tally", "pick", "(I)I"⟩, prog_7_method_5_code, 4, some (.int))
abbrev mBL_recall : xM := (⟨"BatchLinks", "recall", "(I)I"⟩, prog_1_method_13_code, 2, some (.int))
abbrev mBL_countBoxesWith : xM := (⟨"BatchLinks", "countBoxesWith", "(I)V"⟩, prog_1_method_33_code, 4, none)
abbrev mTa_countedAtLeast : xM := (⟨"BatchLinks$Tally", "countedAtLeast", "(I)I"⟩, prog_7_method_4_code, 4, some (.int))
abbrev mBL_recalled : xM := (⟨"BatchLinks", "recalled", "(II)I"⟩, prog_1_method_14_code, 3, some (.int))
abbrev mBL_doubled : xM := (⟨"BatchLinks", "doubled", "(I)I"⟩, prog_1_method_15_code, 3, some (.int))
abbrev mBL_unit : xM := (⟨"BatchLinks", "unit", "(I)Z"⟩, prog_1_method_16_code, 2, some (.boolean))
abbrev mBy_put : xM := (⟨"BatchLinks$Bytes", "put", "(I)Z"⟩, prog_2_method_5_code, 2, some (.boolean))
abbrev mBL_names : xM := (⟨"BatchLinks", "names", "()I"⟩, prog_1_method_17_code, 3, some (.int))
abbrev mNa_read : xM := (⟨"BatchLinks$NamesReader", "read", "(LBatchLinks$Rules;)I"⟩, prog_5_method_2_code, 3, some (.int))
abbrev mRu_clear : xM := (⟨"BatchLinks$Rules", "clear", "()V"⟩, prog_6_method_4_code, 1, none)
abbrev mNa_skipBlanks : xM := (⟨"BatchLinks$NamesReader", "skipBlanks", "()V"⟩, prog_5_method_9_code, 2, none)
abbrev mNa_isBlank : xM := (⟨"BatchLinks$NamesReader", "isBlank", "()Z"⟩, prog_5_method_8_code, 2, some (.boolean))
abbrev mBy_byteAt : xM := (⟨"BatchLinks$Bytes", "byteAt", "(I)I"⟩, prog_2_method_4_code, 2, some (.int))
abbrev mBy_size : xM := (⟨"BatchLinks$Bytes", "size", "()I"⟩, prog_2_method_2_code, 1, some (.int))
abbrev mNa_readRule : xM := (⟨"BatchLinks$NamesReader", "readRule", "(LBatchLinks$Rules;)V"⟩, prog_5_method_3_code, 6, none)
abbrev mRu_isFull : xM := (⟨"BatchLinks$Rules", "isFull", "()Z"⟩, prog_6_method_3_code, 1, some (.boolean))
abbrev mNa_readNumber : xM := (⟨"BatchLinks$NamesReader", "readNumber", "(II)I"⟩, prog_5_method_4_code, 6, some (.int))
abbrev mNa_isDigit : xM := (⟨"BatchLinks$NamesReader", "isDigit", "()Z"⟩, prog_5_method_7_code, 2, some (.boolean))
abbrev mNa_fail : xM := (⟨"BatchLinks$NamesReader", "fail", "(I)V"⟩, prog_5_method_6_code, 2, none)
abbrev mNa_readSign : xM := (⟨"BatchLinks$NamesReader", "readSign", "(C)V"⟩, prog_5_method_5_code, 2, none)
abbrev mRu_add : xM := (⟨"BatchLinks$Rules", "add", "(IIII)V"⟩, prog_6_method_5_code, 5, none)
abbrev mBy_clear : xM := (⟨"BatchLinks$Bytes", "clear", "()V"⟩, prog_2_method_3_code, 1, none)
abbrev mRu_size : xM := (⟨"BatchLinks$Rules", "size", "()I"⟩, prog_6_method_2_code, 1, some (.int))
abbrev mBL_name : xM := (⟨"BatchLinks", "name", "(III)Z"⟩, prog_1_method_18_code, 8, some (.boolean))
abbrev mRu_inForce : xM := (⟨"BatchLinks$Rules", "inForce", "(II)I"⟩, prog_6_method_6_code, 6, some (.int))
abbrev mRu_allows : xM := (⟨"BatchLinks$Rules", "allows", "(II)Z"⟩, prog_6_method_7_code, 3, some (.boolean))
abbrev mBL_certificate : xM := (⟨"BatchLinks", "certificate", "(I)I"⟩, prog_1_method_19_code, 2, some (.int))
abbrev mLe_open : xM := (⟨"BatchLinks$Ledger", "open", "(I)I"⟩, prog_4_method_5_code, 2, some (.int))
abbrev mBL_credit : xM := (⟨"BatchLinks", "credit", "(IJI)Z"⟩, prog_1_method_20_code, 5, some (.boolean))
abbrev mBL_canEnter : xM := (⟨"BatchLinks", "canEnter", "(IJI)Z"⟩, prog_1_method_34_code, 5, some (.boolean))
abbrev mLe_has : xM := (⟨"BatchLinks$Ledger", "has", "(I)Z"⟩, prog_4_method_3_code, 2, some (.boolean))
abbrev mLe_isFull : xM := (⟨"BatchLinks$Ledger", "isFull", "()Z"⟩, prog_4_method_4_code, 1, some (.boolean))
abbrev mLe_enter : xM := (⟨"BatchLinks$Ledger", "enter", "(IJI)V"⟩, prog_4_method_7_code, 5, none)
abbrev mBL_claim : xM := (⟨"BatchLinks", "claim", "(IJI)I"⟩, prog_1_method_21_code, 5, some (.int))
abbrev mLe_isOver : xM := (⟨"BatchLinks$Ledger", "isOver", "(II)Z"⟩, prog_4_method_6_code, 3, some (.boolean))
abbrev mLe_covers : xM := (⟨"BatchLinks$Ledger", "covers", "(IJI)Z"⟩, prog_4_method_9_code, 7, some (.boolean))
abbrev mLe_sumUpTo : xM := (⟨"BatchLinks$Ledger", "sumUpTo", "(II)J"⟩, prog_4_method_8_code, 6, some (.long))
abbrev mBL_balance : xM := (⟨"BatchLinks", "balance", "(II)J"⟩, prog_1_method_22_code, 3, some (.long))
abbrev mBL_warm : xM := (⟨"BatchLinks", "warm", "(II)Z"⟩, prog_1_method_23_code, 4, some (.boolean))
abbrev mBL_paper : xM := (⟨"BatchLinks", "paper", "(III)I"⟩, prog_1_method_24_code, 6, some (.int))
abbrev mBy_putNumber : xM := (⟨"BatchLinks$Bytes", "putNumber", "(J)V"⟩, prog_2_method_6_code, 7, none)
abbrev mBy_digitsOf : xM := (⟨"BatchLinks$Bytes", "digitsOf", "(J)I"⟩, prog_2_method_7_code, 5, some (.int))
abbrev mBL_all : xM := (⟨"BatchLinks", "all", "(I)J"⟩, prog_1_method_25_code, 2, some (.long))
abbrev mBL_sumOfFact : xM := (⟨"BatchLinks", "sumOfFact", "(I)J"⟩, prog_1_method_35_code, 6, some (.long))
abbrev mBL_sumInside : xM := (⟨"BatchLinks", "sumInside", "(I)J"⟩, prog_1_method_36_code, 6, some (.long))
abbrev mLe_size : xM := (⟨"BatchLinks$Ledger", "size", "()I"⟩, prog_4_method_2_code, 1, some (.int))
abbrev mMo_init : xM := (⟨"BatchLinksModel", "<init>", "()V"⟩, prog_10_method_1_code, 1, none)
abbrev mMo_haul : xM := (⟨"BatchLinksModel", "haul", "(JII)I"⟩, prog_10_method_6_code, 6, some (.int))
abbrev mMo_make : xM := (⟨"BatchLinksModel", "make", "(IIIJ)I"⟩, prog_10_method_4_code, 7, some (.int))
abbrev mMo_batch : xM := (⟨"BatchLinksModel", "batch", "()I"⟩, prog_10_method_7_code, 1, some (.int))
abbrev mMo_into : xM := (⟨"BatchLinksModel", "into", "(IIJ)Z"⟩, prog_10_method_14_code, 5, some (.boolean))
abbrev mMo_isOf : xM := (⟨"BatchLinksModel", "isOf", "(II)Z"⟩, prog_10_method_3_code, 3, some (.boolean))
abbrev mMo_isThing : xM := (⟨"BatchLinksModel", "isThing", "(I)Z"⟩, prog_10_method_2_code, 2, some (.boolean))
abbrev mMo_isSource : xM := (⟨"BatchLinksModel", "isSource", "(I)Z"⟩, prog_10_method_13_code, 2, some (.boolean))
abbrev mMo_has : xM := (⟨"BatchLinksModel", "has", "(IJ)Z"⟩, prog_10_method_12_code, 4, some (.boolean))
abbrev mMo_gramsIn : xM := (⟨"BatchLinksModel", "gramsIn", "(I)J"⟩, prog_10_method_5_code, 5, some (.long))
abbrev mMo_layBy : xM := (⟨"BatchLinksModel", "layBy", "(IIJ)V"⟩, prog_10_method_9_code, 10, none)
abbrev mMo_lay : xM := (⟨"BatchLinksModel", "lay", "(IJ)V"⟩, prog_10_method_8_code, 4, none)
abbrev mMo_putDown : xM := (⟨"BatchLinksModel", "putDown", "(I)V"⟩, prog_10_method_10_code, 3, none)
abbrev mMo_takeOut : xM := (⟨"BatchLinksModel", "takeOut", "(IJ)V"⟩, prog_10_method_11_code, 12, none)
abbrev mMo_box : xM := (⟨"BatchLinksModel", "box", "(IJI)I"⟩, prog_10_method_15_code, 6, some (.int))
abbrev mMo_waste : xM := (⟨"BatchLinksModel", "waste", "(IJ)J"⟩, prog_10_method_16_code, 4, some (.long))
abbrev mMo_hold : xM := (⟨"BatchLinksModel", "hold", "(IZ)Z"⟩, prog_10_method_17_code, 3, some (.boolean))
abbrev mMo_correct : xM := (⟨"BatchLinksModel", "correct", "(IJ)Z"⟩, prog_10_method_18_code, 6, some (.boolean))
abbrev mMo_told : xM := (⟨"BatchLinksModel", "told", "(II)J"⟩, prog_10_method_19_code, 3, some (.long))
abbrev mMo_layer : xM := (⟨"BatchLinksModel", "layer", "(III)J"⟩, prog_10_method_20_code, 4, some (.long))
abbrev mMo_share : xM := (⟨"BatchLinksModel", "share", "(III)J"⟩, prog_10_method_22_code, 14, some (.long))
abbrev mMo_gramsFrom : xM := (⟨"BatchLinksModel", "gramsFrom", "(II)J"⟩, prog_10_method_21_code, 6, some (.long))
abbrev mMo_back : xM := (⟨"BatchLinksModel", "back", "(II)I"⟩, prog_10_method_23_code, 5, some (.int))
abbrev mMo_recall : xM := (⟨"BatchLinksModel", "recall", "(I)I"⟩, prog_10_method_25_code, 4, some (.int))
abbrev mMo_boxesOf : xM := (⟨"BatchLinksModel", "boxesOf", "(II)I"⟩, prog_10_method_24_code, 5, some (.int))
abbrev mMo_recalled : xM := (⟨"BatchLinksModel", "recalled", "(II)I"⟩, prog_10_method_26_code, 5, some (.int))
abbrev mMo_doubled : xM := (⟨"BatchLinksModel", "doubled", "(I)I"⟩, prog_10_method_27_code, 6, some (.int))
abbrev mMo_unit : xM := (⟨"BatchLinksModel", "unit", "(I)Z"⟩, prog_10_method_28_code, 2, some (.boolean))
abbrev mMo_names : xM := (⟨"BatchLinksModel", "names", "()I"⟩, prog_10_method_33_code, 5, some (.int))
abbrev mMo_skip : xM := (⟨"BatchLinksModel", "skip", "()Z"⟩, prog_10_method_29_code, 1, some (.boolean))
abbrev mMo_number : xM := (⟨"BatchLinksModel", "number", "(II)I"⟩, prog_10_method_31_code, 6, some (.int))
abbrev mMo_isDigit : xM := (⟨"BatchLinksModel", "isDigit", "(I)Z"⟩, prog_10_method_30_code, 2, some (.boolean))
abbrev mMo_sign : xM := (⟨"BatchLinksModel", "sign", "(I)V"⟩, prog_10_method_32_code, 3, none)
abbrev mMo_name : xM := (⟨"BatchLinksModel", "name", "(III)Z"⟩, prog_10_method_34_code, 8, some (.boolean))
abbrev mMo_certificate : xM := (⟨"BatchLinksModel", "certificate", "(I)I"⟩, prog_10_method_35_code, 2, some (.int))
abbrev mMo_credit : xM := (⟨"BatchLinksModel", "credit", "(IJI)Z"⟩, prog_10_method_38_code, 5, some (.boolean))
abbrev mMo_mayAct : xM := (⟨"BatchLinksModel", "mayAct", "(IJI)Z"⟩, prog_10_method_36_code, 5, some (.boolean))
abbrev mMo_act : xM := (⟨"BatchLinksModel", "act", "(IJI)V"⟩, prog_10_method_37_code, 5, none)
abbrev mMo_claim : xM := (⟨"BatchLinksModel", "claim", "(IJI)I"⟩, prog_10_method_40_code, 7, some (.int))
abbrev mMo_balanceOf : xM := (⟨"BatchLinksModel", "balanceOf", "(II)J"⟩, prog_10_method_39_code, 6, some (.long))
abbrev mMo_balance : xM := (⟨"BatchLinksModel", "balance", "(II)J"⟩, prog_10_method_41_code, 3, some (.long))
abbrev mMo_warm : xM := (⟨"BatchLinksModel", "warm", "(II)Z"⟩, prog_10_method_42_code, 3, some (.boolean))
abbrev mMo_paper : xM := (⟨"BatchLinksModel", "paper", "(III)I"⟩, prog_10_method_45_code, 5, some (.int))
abbrev mMo_writeNumber : xM := (⟨"BatchLinksModel", "writeNumber", "(J)V"⟩, prog_10_method_44_code, 5, none)
abbrev mMo_write : xM := (⟨"BatchLinksModel", "write", "(I)V"⟩, prog_10_method_43_code, 2, none)
abbrev mMo_all : xM := (⟨"BatchLinksModel", "all", "(I)J"⟩, prog_10_method_47_code, 5, some (.long))
abbrev mMo_allIn : xM := (⟨"BatchLinksModel", "allIn", "(I)J"⟩, prog_10_method_46_code, 5, some (.long))
abbrev mLw_law : xM := (⟨"BatchLinksLaw", "law", "([I)Z"⟩, code, 4, some (.boolean))
end
section
/-! THE JUDGEMENT: ev_Run: from this place of a method, over this abstract heap, the machine comes to the method's end with P.
An abstract heap: a cell for an address. A cell: an array (place of its type in ev_tys, length, contents) or an object (number in vwCl, fields). -/
abbrev xE : Type := (Nat × vp_A) ⊕ (Nat × List Value)
abbrev xH : Type := Nat → Option xE
abbrev xG : Type := va_G × List (ClassId × FieldType) × Nat × Nat × Nat × (Nat → Int32) × Cell
abbrev xD (G : xG) : va_G := G.1
abbrev xTy (G : xG) : List (ClassId × FieldType) := G.2.1
abbrev xB (G : xG) : Nat := G.2.2.1
abbrev xb (G : xG) : Nat := G.2.2.2.1
abbrev xN (G : xG) : Nat := G.2.2.2.2.1
abbrev xX (G : xG) : Nat → Int32 := G.2.2.2.2.2.1
abbrev xS (G : xG) : Cell := G.2.2.2.2.2.2
def ev_T : List Cond := lw_tbl.filter goodWord
theorem ev_T_in : ∀ w ∈ ev_T, w ∈ lw_tbl := fun _ h => (List.mem_filter.mp h).1
theorem ev_T_good : ∀ w ∈ ev_T, (w.onTables && w.keeps) = true ∨ ∃ ty, w = .arrayClass ty := fun _ h => good_of_word (List.mem_filter.mp h).2
abbrev ev_ws (M : xM) : List Cond := .code M.1 M.2.1 M.2.2.1 M.2.2.2 :: ev_T
/-! heaps -/
def hp_cell (G : xG) (a : Nat) (e : xE) (H : Heap) : Prop := match e with
  | .inl x => ∃ q : ClassId × FieldType, (xTy G)[x.1]? = some q ∧ H[a]? = some (vp_cell q.1 x.2)
  | .inr o => va_at (xD G) vwCl (a, .inr o) H
def hp_R (G : xG) (h : xH) (n : Nat) (H : Heap) : Prop := H.size = n ∧ xB G ≤ n ∧ H[xb G]? = some (xS G) ∧ ∀ (a : Nat) (e : xE), h a = some e → xB G ≤ a ∧ hp_cell G a e H
def hp_set (h : xH) (a : Nat) (e : xE) : xH := fun q => if q = a then some e else h q
theorem hp_set_self (h : xH) (a : Nat) (e : xE) : hp_set h a e a = some e := if_pos rfl
theorem hp_set_ne (h : xH) {a b : Nat} (e : xE) (hb : b ≠ a) : hp_set h a e b = h b := if_neg hb
theorem hp_set_set (h : xH) (a : Nat) (e e' : xE) : hp_set (hp_set h a e) a e' = hp_set h a e' := by
  funext q
  unfold hp_set
  by_cases hq : q = a <;> simp [hq]
theorem hp_set_comm (h : xH) {a b : Nat} (e e' : xE) (hab : a ≠ b) : hp_set (hp_set h a e) b e' = hp_set (hp_set h b e') a e := by
  funext q
  unfold hp_set
  by_cases hq : q = a
  · subst hq
    simp [hab]
  · simp [hq]
theorem hp_set_eta (h : xH) {a : Nat} {e : xE} (ha : h a = some e) : hp_set h a e = h := by
  funext q
  unfold hp_set
  by_cases hq : q = a
  · subst hq
    simp [ha]
  · simp [hq]
theorem hp_cell.kept {G : xG} {a : Nat} {e : xE} {H H1 : Heap} (h : hp_cell G a e H) (hq : H1[a]? = H[a]?) : hp_cell G a e H1 := by
  cases e with
  | inl x =>
    obtain ⟨q, h1, h2⟩ := h
    exact ⟨q, h1, hq.trans h2⟩
  | inr o => exact va_at.kept (q := (a, .inr o)) h hq
theorem hp_cell.lt {G : xG} {a : Nat} {e : xE} {H : Heap} (h : hp_cell G a e H) : a < H.size := by
  cases e with
  | inl x =>
    obtain ⟨q, h1, h2⟩ := h
    exact (Array.getElem?_eq_some_iff.mp h2).1
  | inr o => exact va_at.lt (q := (a, .inr o)) h
theorem hp_R.put {G : xG} {h : xH} {n : Nat} {H H1 : Heap} {a : Nat} {e : xE} (hR : hp_R G h n H) (ha : xB G ≤ a) (hb : xb G < xB G) (z : H1.size = H.size) (oq : ∀ q : Nat, q ≠ a → H1[q]? = H[q]?) (he : hp_cell G a e H1) : hp_R G (hp_set h a e) n H1 := by
  refine ⟨z.trans hR.1, hR.2.1, (oq _ (by omega)).trans hR.2.2.1, fun b e' hb' => ?_⟩
  by_cases hq : b = a
  · subst hq
    rw [hp_set_self] at hb'
    cases hb'
    exact ⟨ha, he⟩
  · rw [hp_set_ne _ _ hq] at hb'
    obtain ⟨h1, h2⟩ := hR.2.2.2 b e' hb'
    exact ⟨h1, h2.kept (oq b hq)⟩
theorem hp_R.push {G : xG} {h : xH} {n : Nat} {H H1 : Heap} {e : xE} (hR : hp_R G h n H) (hb : xb G < xB G) (z : H1.size = n + 1) (oq : ∀ q : Nat, q < n → H1[q]? = H[q]?) (he : hp_cell G n e H1) : hp_R G (hp_set h n e) (n + 1) H1 := by
  refine ⟨z, Nat.le_succ_of_le hR.2.1, (oq _ (Nat.lt_of_lt_of_le hb hR.2.1)).trans hR.2.2.1, fun b e' hb' => ?_⟩
  by_cases hq : b = n
  · subst hq
    rw [hp_set_self] at hb'
    cases hb'
    exact ⟨hR.2.1, he⟩
  · rw [hp_set_ne _ _ hq] at hb'
    obtain ⟨h1, h2⟩ := hR.2.2.2 b e' hb'
    exact ⟨h1, h2.kept (oq b (by have := h2.lt; rw [hR.1] at this; exact this))⟩
theorem hp_R.lt {G : xG} {h : xH} {n : Nat} {H : Heap} {a : Nat} {e : xE} (hR : hp_R G h n H) (ha : h a = some e) : a < n := by
  have := (hR.2.2.2 a e ha).2.lt
  rw [hR.1] at this
  exact this
/-! what holds of the tables at a method's start -/
def ev_K (G : xG) (U : State) : Prop := va_K (xD G) vwCl (xTy G) U ∧ (∀ q ∈ ev_nm, va_Nw (.methodLinkNest q.1 q.2.1 q.2.2.1 q.2.2.2) U) ∧ (∀ C ∈ ev_ao, va_AO C U) ∧ U.isArrayOf (xS G) .int ∧ (xS G).vm ≠ .unknown ∧ (xS G).slots.size = xN G ∧ (∀ j : Nat, j < xN G → (xS G).slots[j]? = some (.int (xX G j))) ∧ xb G < xB G ∧ (xTy G).map Prod.snd = ev_tys
theorem ev_K.warm {G : xG} {s U : State} (hW : s.WarmedH U.vm) (h : ev_K G s) : ev_K G U := ⟨va_K.moved hW.alike h.1, fun q hq => va_Nw.warmM hW (h.2.1 q hq), fun C hC => va_AO.moved hW.alike (h.2.2.1 C hC), State.isArrayOf_alike hW.alike h.2.2.2.1, h.2.2.2.2⟩
theorem ev_K.same {G : xG} {s U : State} (hv : s.vm = U.vm) (h : ev_K G s) : ev_K G U := ⟨va_K.moved (by rw [hv]; exact Vm.Alike.refl _) h.1, fun q hq => va_Nw.same rfl hv (h.2.1 q hq), fun C hC => va_AO.moved (by rw [hv]; exact Vm.Alike.refl _) (h.2.2.1 C hC), State.isArrayOf_alike (by rw [hv]; exact Vm.Alike.refl _) h.2.2.2.1, h.2.2.2.2⟩
/-! locals -/
def ev_LR (ls : Array Slot) (nL : Nat) (L : List (Option Value)) : Prop := ls.size = nL ∧ lv_wf ls ∧ ∀ (i : Nat) (v : Value), L[i]? = some (some v) → ls[i]? = some (.val v)
def ev_lv (L : List (Option Value)) : List (Nat × Value) := (List.range L.length).filterMap (fun i => match L[i]? with
  | some (some v) => some (i, v)
  | _ => none)
theorem ev_lv_mem {L : List (Option Value)} {q : Nat × Value} : q ∈ ev_lv L ↔ L[q.1]? = some (some q.2) := by
  unfold ev_lv
  rw [List.mem_filterMap]
  constructor
  · rintro ⟨i, -, hi⟩
    revert hi
    split
    · rename_i v hv
      intro hi
      cases hi
      exact hv
    · intro hi
      cases hi
  · intro hq
    refine ⟨q.1, List.mem_range.mpr (List.getElem?_eq_some_iff.mp hq).1, ?_⟩
    rw [hq]
theorem ev_LR.has {ls : Array Slot} {nL : Nat} {L : List (Option Value)} (h : ev_LR ls nL L) : lv_has ls nL (ev_lv L) := ⟨h.1, h.2.1, fun q hq => h.2.2 _ _ (ev_lv_mem.mp hq)⟩
def ev_lo (o : Option Value) : Option Value := match o with
  | some (.long _) => none
  | some (.double _) => none
  | x => x
def ev_nx : List (Option Value) → List (Option Value)
  | [] => []
  | _ :: t => none :: t
def ev_st1 : List (Option Value) → Nat → Value → List (Option Value)
  | [], _, _ => []
  | _ :: t, 0, v => some v :: t
  | o :: t, 1, v => ev_lo o :: ev_st1 t 0 v
  | o :: t, i + 2, v => o :: ev_st1 t (i + 1) v
def ev_st2 : List (Option Value) → Nat → Value → List (Option Value)
  | [], _, _ => []
  | _ :: t, 0, v => some v :: ev_nx t
  | o :: t, 1, v => ev_lo o :: ev_st2 t 0 v
  | o :: t, i + 2, v => o :: ev_st2 t (i + 1) v
theorem ev_lo_some {o : Option Value} {w : Value} (h : ev_lo o = some w) : o = some w ∧ ¬ w.category = 2 := by
  cases o with
  | none => cases h
  | some x => cases x <;> simp [ev_lo] at h <;> (subst h; simp [Value.category])
theorem ev_st1_get : ∀ (L : List (Option Value)) (i : Nat) (v : Value) (j : Nat) (w : Value), (ev_st1 L i v)[j]? = some (some w) → (j = i ∧ w = v) ∨ (L[j]? = some (some w) ∧ j ≠ i ∧ ¬ (j + 1 = i ∧ w.category = 2)) := by
  intro L
  induction L with
  | nil => intro i v j w h; simp [ev_st1] at h
  | cons o t ih =>
    intro i v j w h
    match i with
    | 0 =>
      cases j with
      | zero => simp [ev_st1] at h; exact Or.inl ⟨rfl, h.symm⟩
      | succ j => simp [ev_st1] at h; exact Or.inr ⟨by simpa using h, by omega, by omega⟩
    | 1 =>
      cases j with
      | zero =>
        simp [ev_st1] at h
        obtain ⟨h1, h2⟩ := ev_lo_some h
        exact Or.inr ⟨by simp [h1], by omega, fun q => h2 q.2⟩
      | succ j =>
        simp [ev_st1] at h
        rcases ih 0 v j w h with ⟨h1, h2⟩ | ⟨h1, h2, h3⟩
        · exact Or.inl ⟨by omega, h2⟩
        · exact Or.inr ⟨by simpa using h1, by omega, by omega⟩
    | i + 2 =>
      cases j with
      | zero => simp [ev_st1] at h; exact Or.inr ⟨by simp [h], by omega, by omega⟩
      | succ j =>
        simp [ev_st1] at h
        rcases ih (i + 1) v j w h with ⟨h1, h2⟩ | ⟨h1, h2, h3⟩
        · exact Or.inl ⟨by omega, h2⟩
        · exact Or.inr ⟨by simpa using h1, by omega, fun q => h3 ⟨by omega, q.2⟩⟩
theorem ev_st2_get : ∀ (L : List (Option Value)) (i : Nat) (v : Value) (j : Nat) (w : Value), (ev_st2 L i v)[j]? = some (some w) → (j = i ∧ w = v) ∨ (L[j]? = some (some w) ∧ j ≠ i ∧ j ≠ i + 1 ∧ ¬ (j + 1 = i ∧ w.category = 2)) := by
  intro L
  induction L with
  | nil => intro i v j w h; simp [ev_st2] at h
  | cons o t ih =>
    intro i v j w h
    match i with
    | 0 =>
      cases j with
      | zero => simp [ev_st2] at h; exact Or.inl ⟨rfl, h.symm⟩
      | succ j =>
        cases t with
        | nil => simp [ev_st2, ev_nx] at h
        | cons o2 t2 =>
          cases j with
          | zero => simp [ev_st2, ev_nx] at h
          | succ j => simp [ev_st2, ev_nx] at h; exact Or.inr ⟨by simpa using h, by omega, by omega, by omega⟩
    | 1 =>
      cases j with
      | zero =>
        simp [ev_st2] at h
        obtain ⟨h1, h2⟩ := ev_lo_some h
        exact Or.inr ⟨by simp [h1], by omega, by omega, fun q => h2 q.2⟩
      | succ j =>
        simp [ev_st2] at h
        rcases ih 0 v j w h with ⟨h1, h2⟩ | ⟨h1, h2, h3, h4⟩
        · exact Or.inl ⟨by omega, h2⟩
        · exact Or.inr ⟨by simpa using h1, by omega, by omega, by omega⟩
    | i + 2 =>
      cases j with
      | zero => simp [ev_st2] at h; exact Or.inr ⟨by simp [h], by omega, by omega, by omega⟩
      | succ j =>
        simp [ev_st2] at h
        rcases ih (i + 1) v j w h with ⟨h1, h2⟩ | ⟨h1, h2, h3, h4⟩
        · exact Or.inl ⟨by omega, h2⟩
        · exact Or.inr ⟨by simpa using h1, by omega, by omega, fun q => h4 ⟨by omega, q.2⟩⟩
theorem ev_LR.st1 {ls' : Array Slot} {nL i : Nat} {L : List (Option Value)} {v : Value} (h' : lv_has ls' nL ((i, v) :: (ev_lv L).filter (fun q => !(q.1 == i) && !(q.1 + 1 == i && q.2.category == 2)))) : ev_LR ls' nL (ev_st1 L i v) := by
  refine ⟨h'.1, h'.2.1, fun j w hj => ?_⟩
  rcases ev_st1_get L i v j w hj with ⟨rfl, rfl⟩ | ⟨h1, h2, h3⟩
  · exact h'.2.2 (j, w) List.mem_cons_self
  · refine h'.2.2 (j, w) (List.mem_cons_of_mem _ (List.mem_filter.mpr ⟨ev_lv_mem.mpr h1, ?_⟩))
    simp only [Bool.and_eq_true, Bool.not_eq_true', beq_eq_false_iff_ne, Bool.and_eq_false_iff]
    refine ⟨h2, ?_⟩
    by_cases hq : j + 1 = i
    · exact Or.inr (fun z => h3 ⟨hq, z⟩)
    · exact Or.inl hq
theorem ev_LR.st2 {ls' : Array Slot} {nL i : Nat} {L : List (Option Value)} {v : Value} (h' : lv_has ls' nL ((i, v) :: (ev_lv L).filter (fun q => !(q.1 == i) && (!(q.1 == i + 1) && !(q.1 + 1 == i && q.2.category == 2))))) : ev_LR ls' nL (ev_st2 L i v) := by
  refine ⟨h'.1, h'.2.1, fun j w hj => ?_⟩
  rcases ev_st2_get L i v j w hj with ⟨rfl, rfl⟩ | ⟨h1, h2, h3, h4⟩
  · exact h'.2.2 (j, w) List.mem_cons_self
  · refine h'.2.2 (j, w) (List.mem_cons_of_mem _ (List.mem_filter.mpr ⟨ev_lv_mem.mpr h1, ?_⟩))
    simp only [Bool.and_eq_true, Bool.not_eq_true', beq_eq_false_iff_ne, Bool.and_eq_false_iff]
    refine ⟨h2, h3, ?_⟩
    by_cases hq : j + 1 = i
    · exact Or.inr (fun z => h4 ⟨hq, z⟩)
    · exact Or.inl hq
/-- the locals with which a method begins -/
def ev_ent : List Value → List (Option Value)
  | [] => []
  | v :: t => if v.category = 2 then some v :: none :: ev_ent t else some v :: ev_ent t
theorem ev_ent_get : ∀ (vs : List Value) (k j : Nat) (w : Value), (ev_ent vs)[j]? = some (some w) → (k + j, w) ∈ lv_args k vs := by
  intro vs
  induction vs with
  | nil => intro k j w h; simp [ev_ent] at h
  | cons v t ih =>
    intro k j w h
    unfold ev_ent at h
    unfold lv_args
    by_cases hc : v.category = 2
    · rw [if_pos hc] at h
      rw [if_pos hc]
      match j with
      | 0 => simp at h; subst h; exact List.mem_cons_self
      | 1 => simp at h
      | j + 2 =>
        simp at h
        have := ih (k + 2) j w h
        rw [show k + 2 + j = k + (j + 2) by omega] at this
        exact List.mem_cons_of_mem _ this
    · rw [if_neg hc] at h
      rw [if_neg hc]
      match j with
      | 0 => simp at h; subst h; exact List.mem_cons_self
      | j + 1 =>
        simp at h
        have := ih (k + 1) j w h
        rw [show k + 1 + j = k + (j + 1) by omega] at this
        exact List.mem_cons_of_mem _ this
theorem ev_LR.ent {vs : List Value} {n : Nat} (h : (lg_sl vs).length ≤ n) (m : Nat) : ev_LR ((lg_sl vs ++ List.replicate (n - (lg_sl vs).length) Slot.unset).toArray) n (ev_ent vs ++ List.replicate m none) := by
  have h1 := lv_entry vs h
  refine ⟨h1.1, h1.2.1, fun j w hj => ?_⟩
  by_cases hl : j < (ev_ent vs).length
  · rw [List.getElem?_append_left hl] at hj
    have := ev_ent_get vs 0 j w hj
    rw [Nat.zero_add] at this
    exact h1.2.2 _ this
  · rw [List.getElem?_append_right (by omega), List.getElem?_replicate] at hj
    split at hj
    · cases hj
    · cases hj
end
section
def ev_ret (M : xM) (pc : Nat) (v : Option Value) : Prop := match v with
  | none => decode M.2.1 pc = .ok (.return_, 1) ∧ M.2.2.2 = none
  | some (.int x) => decode M.2.1 pc = .ok (.ireturn, 1) ∧ ∃ ty : FieldType, M.2.2.2 = some ty ∧ narrow ty (.int x) = .int x
  | some (.long _) => decode M.2.1 pc = .ok (.lreturn, 1) ∧ M.2.2.2 = some .long
  | some (.ref _) => decode M.2.1 pc = .ok (.areturn, 1) ∧ ∃ nm : String, M.2.2.2 = some (.object nm)
  | some .null => decode M.2.1 pc = .ok (.areturn, 1) ∧ ∃ nm : String, M.2.2.2 = some (.object nm)
  | _ => False
abbrev ev_A (G : xG) : Nat → Prop := fun q => xB G ≤ q
def ev_Ctx (G : xG) (M : xM) (p : Program) (s : State) (m : MethodId) (args : Array Value) (meth : Method) (c : Code) : Prop :=
  p.tables.exec = Jvm.exec ∧ c.code = M.2.1 ∧ meth.sig.returnType = M.2.2.2 ∧ meth.locks = false ∧ c.maxLocals = M.2.2.1 ∧ s.vm.findClass M.1.cls = some m.cls ∧ (∀ w ∈ ev_T, w.before args s = true) ∧ ev_K G s ∧ meth.name = M.1.name ∧ xB G ≤ s.heap.size
/-- from this place the machine comes to the method's end with P; d: frames that may lie above, bc bs: cells and slots that may still be made -/
def ev_Run (G : xG) (l : Launch) (d bc bs : Nat) (M : xM) (pc : Nat) (L : List (Option Value)) (st : List Value) (h : xH) (n : Nat) (P : Option Value → xH → Nat → Prop) : Prop :=
  ∀ (p : Program) (e : Env) (s : State) (m : MethodId) (args : Array Value) (below : List Frame) (meth : Method) (c : Code) (R : Room) (Q : State → Prop) (H : Heap) (locs : List Loc) (cells slots : Nat) (ls : Array Slot),
    ev_Ctx G M p s m args meth c → d ≤ R.frames → d * 40 ≤ R.locals → cells + bc ≤ R.cells → slots + bs ≤ R.slots → ev_LR ls M.2.2.1 L → hp_R G h n H → va_S (ev_A G) s.heap H locs →
    (∀ (v : Option Value) (h' : xH) (n' : Nat) (H' : Heap) (locs' : List Loc) (cells' slots' pc' : Nat) (ls' : Array Slot), P v h' n' → hp_R G h' n' H' → va_S (ev_A G) s.heap H' locs' → cells' ≤ cells + bc → slots' ≤ slots + bs → ev_ret M pc' v →
      W p l e R s m args below meth c H' locs' cells' slots' Q (F0 m pc' ls' v.toList)) →
    W p l e R s m args below meth c H locs cells slots Q (F0 m pc ls st)
section EV
variable {G : xG} {l : Launch} {d bc bs : Nat} {M : xM} {pc : Nat} {L : List (Option Value)} {st : List Value} {h : xH} {n : Nat} {P : Option Value → xH → Nat → Prop}
theorem ev_Run.post {P' : Option Value → xH → Nat → Prop} (k : ev_Run G l d bc bs M pc L st h n P) (hP : ∀ v h' n', P v h' n' → P' v h' n') : ev_Run G l d bc bs M pc L st h n P' :=
  fun p e s m args below meth c R Q H locs cells slots ls C hf hlo hc hs hL hH hS hk => k p e s m args below meth c R Q H locs cells slots ls C hf hlo hc hs hL hH hS (fun v h' n' H' locs' cells' slots' pc' ls' q => hk v h' n' H' locs' cells' slots' pc' ls' (hP v h' n' q))
theorem ev_Run.deep {d' : Nat} (hd : d ≤ d') (k : ev_Run G l d bc bs M pc L st h n P) : ev_Run G l d' bc bs M pc L st h n P :=
  fun p e s m args below meth c R Q H locs cells slots ls C hf hlo hc hs hL hH hS hk => k p e s m args below meth c R Q H locs cells slots ls C (Nat.le_trans hd hf) (by omega) hc hs hL hH hS hk
theorem ev_Run.wide {bc' bs' : Nat} (h1 : bc ≤ bc') (h2 : bs ≤ bs') (k : ev_Run G l d bc bs M pc L st h n P) : ev_Run G l d bc' bs' M pc L st h n P :=
  fun p e s m args below meth c R Q H locs cells slots ls C hf hlo hc hs hL hH hS hk => k p e s m args below meth c R Q H locs cells slots ls C hf hlo (by omega) (by omega) hL hH hS (fun v h' n' H' locs' cells' slots' pc' ls' q q1 q2 q3 q4 q5 => hk v h' n' H' locs' cells' slots' pc' ls' q q1 q2 (by omega) (by omega) q5)
theorem ev_Run.loc {L' : List (Option Value)} (hl : L = L') (k : ev_Run G l d bc bs M pc L' st h n P) : ev_Run G l d bc bs M pc L st h n P := by
  subst hl; exact k
theorem ev_Run.heap {h' : xH} (hl : h = h') (k : ev_Run G l d bc bs M pc L st h' n P) : ev_Run G l d bc bs M pc L st h n P := by
  subst hl; exact k
theorem ev_iconst {z : Int} {v : Int32} (hd : decode M.2.1 pc = .ok (.iconst z, 1)) (hv : Int32.ofInt z = v) (k : ev_Run G l d bc bs M (pc + 1) L (.int v :: st) h n P) : ev_Run G l d bc bs M pc L st h n P :=
  fun p e s m args below meth c R Q H locs cells slots ls C hf hlo hc hs hL hH hS hk => lv_iconst C.1 C.2.1 hd hv (k p e s m args below meth c R Q H locs cells slots ls C hf hlo hc hs hL hH hS hk)
theorem ev_bipush {z : Int} {v : Int32} (hd : decode M.2.1 pc = .ok (.bipush z, 2)) (hv : (Int8.ofInt z).toInt32 = v) (k : ev_Run G l d bc bs M (pc + 2) L (.int v :: st) h n P) : ev_Run G l d bc bs M pc L st h n P :=
  fun p e s m args below meth c R Q H locs cells slots ls C hf hlo hc hs hL hH hS hk => lv_bipush C.1 C.2.1 hd hv (k p e s m args below meth c R Q H locs cells slots ls C hf hlo hc hs hL hH hS hk)
theorem ev_sipush {z : Int} {v : Int32} (hd : decode M.2.1 pc = .ok (.sipush z, 3)) (hv : (Int16.ofInt z).toInt32 = v) (k : ev_Run G l d bc bs M (pc + 3) L (.int v :: st) h n P) : ev_Run G l d bc bs M pc L st h n P :=
  fun p e s m args below meth c R Q H locs cells slots ls C hf hlo hc hs hL hH hS hk => lv_sipush C.1 C.2.1 hd hv (k p e s m args below meth c R Q H locs cells slots ls C hf hlo hc hs hL hH hS hk)
theorem ev_lconst {z : Fin 2} {v : Int64} (hd : decode M.2.1 pc = .ok (.lconst z, 1)) (hv : Int64.ofNat (z : Nat) = v) (k : ev_Run G l d bc bs M (pc + 1) L (.long v :: st) h n P) : ev_Run G l d bc bs M pc L st h n P :=
  fun p e s m args below meth c R Q H locs cells slots ls C hf hlo hc hs hL hH hS hk => lv_lconst C.1 C.2.1 hd hv (k p e s m args below meth c R Q H locs cells slots ls C hf hlo hc hs hL hH hS hk)
theorem ev_null (hd : decode M.2.1 pc = .ok (.aconst_null, 1)) (k : ev_Run G l d bc bs M (pc + 1) L (.null :: st) h n P) : ev_Run G l d bc bs M pc L st h n P :=
  fun p e s m args below meth c R Q H locs cells slots ls C hf hlo hc hs hL hH hS hk => lv_null C.1 C.2.1 hd (k p e s m args below meth c R Q H locs cells slots ls C hf hlo hc hs hL hH hS hk)
theorem ev_ldc {i : Nat} {v : Int32} (hd : decode M.2.1 pc = .ok (.ldc i, 2)) (hw : Jvm.Cond.constant M.1.cls i v ∈ ev_T) (k : ev_Run G l d bc bs M (pc + 2) L (.int v :: st) h n P) : ev_Run G l d bc bs M pc L st h n P :=
  fun p e s m args below meth c R Q H locs cells slots ls C hf hlo hc hs hL hH hS hk => lv_ldc C.1 C.2.1 C.2.2.2.2.2.1 (C.2.2.2.2.2.2.1 _ hw) hd (k p e s m args below meth c R Q H locs cells slots ls C hf hlo hc hs hL hH hS hk)
theorem ev_ldcw {i : Nat} {v : Int32} (hd : decode M.2.1 pc = .ok (.ldc_w i, 3)) (hw : Jvm.Cond.constant M.1.cls i v ∈ ev_T) (k : ev_Run G l d bc bs M (pc + 3) L (.int v :: st) h n P) : ev_Run G l d bc bs M pc L st h n P :=
  fun p e s m args below meth c R Q H locs cells slots ls C hf hlo hc hs hL hH hS hk => lv_ldcw C.1 C.2.1 C.2.2.2.2.2.1 (C.2.2.2.2.2.2.1 _ hw) hd (k p e s m args below meth c R Q H locs cells slots ls C hf hlo hc hs hL hH hS hk)
theorem ev_ldc2 {i : Nat} {v : Int64} (hd : decode M.2.1 pc = .ok (.ldc2_w i, 3)) (hw : Jvm.Cond.constantLong M.1.cls i v ∈ ev_T) (k : ev_Run G l d bc bs M (pc + 3) L (.long v :: st) h n P) : ev_Run G l d bc bs M pc L st h n P :=
  fun p e s m args below meth c R Q H locs cells slots ls C hf hlo hc hs hL hH hS hk => lv_ldc2 C.1 C.2.1 C.2.2.2.2.2.1 (C.2.2.2.2.2.2.1 _ hw) hd (k p e s m args below meth c R Q H locs cells slots ls C hf hlo hc hs hL hH hS hk)
theorem ev_iload_n {q : Fin 4} {i : Nat} {x : Int32} (hd : decode M.2.1 pc = .ok (.iload_n q, 1)) (hi : (q : Nat) = i) (hv : L[i]? = some (some (.int x))) (k : ev_Run G l d bc bs M (pc + 1) L (.int x :: st) h n P) : ev_Run G l d bc bs M pc L st h n P :=
  fun p e s m args below meth c R Q H locs cells slots ls C hf hlo hc hs hL hH hS hk => lv_iload_n C.1 C.2.1 hd hi (hL.2.2 _ _ hv) (k p e s m args below meth c R Q H locs cells slots ls C hf hlo hc hs hL hH hS hk)
theorem ev_iload {i : Nat} {x : Int32} (hd : decode M.2.1 pc = .ok (.iload i, 2)) (hv : L[i]? = some (some (.int x))) (k : ev_Run G l d bc bs M (pc + 2) L (.int x :: st) h n P) : ev_Run G l d bc bs M pc L st h n P :=
  fun p e s m args below meth c R Q H locs cells slots ls C hf hlo hc hs hL hH hS hk => lv_iload C.1 C.2.1 hd (hL.2.2 _ _ hv) (k p e s m args below meth c R Q H locs cells slots ls C hf hlo hc hs hL hH hS hk)
theorem ev_lload_n {q : Fin 4} {i : Nat} {x : Int64} (hd : decode M.2.1 pc = .ok (.lload_n q, 1)) (hi : (q : Nat) = i) (hv : L[i]? = some (some (.long x))) (k : ev_Run G l d bc bs M (pc + 1) L (.long x :: st) h n P) : ev_Run G l d bc bs M pc L st h n P :=
  fun p e s m args below meth c R Q H locs cells slots ls C hf hlo hc hs hL hH hS hk => lv_lload_n C.1 C.2.1 hd hi (hL.2.2 _ _ hv) (k p e s m args below meth c R Q H locs cells slots ls C hf hlo hc hs hL hH hS hk)
theorem ev_lload {i : Nat} {x : Int64} (hd : decode M.2.1 pc = .ok (.lload i, 2)) (hv : L[i]? = some (some (.long x))) (k : ev_Run G l d bc bs M (pc + 2) L (.long x :: st) h n P) : ev_Run G l d bc bs M pc L st h n P :=
  fun p e s m args below meth c R Q H locs cells slots ls C hf hlo hc hs hL hH hS hk => lv_lload C.1 C.2.1 hd (hL.2.2 _ _ hv) (k p e s m args below meth c R Q H locs cells slots ls C hf hlo hc hs hL hH hS hk)
theorem ev_aload_n {q : Fin 4} {i : Nat} {x : Nat} (hd : decode M.2.1 pc = .ok (.aload_n q, 1)) (hi : (q : Nat) = i) (hv : L[i]? = some (some (.ref x))) (k : ev_Run G l d bc bs M (pc + 1) L (.ref x :: st) h n P) : ev_Run G l d bc bs M pc L st h n P :=
  fun p e s m args below meth c R Q H locs cells slots ls C hf hlo hc hs hL hH hS hk => lv_aload_n C.1 C.2.1 hd hi (hL.2.2 _ _ hv) (k p e s m args below meth c R Q H locs cells slots ls C hf hlo hc hs hL hH hS hk)
theorem ev_aload {i : Nat} {x : Nat} (hd : decode M.2.1 pc = .ok (.aload i, 2)) (hv : L[i]? = some (some (.ref x))) (k : ev_Run G l d bc bs M (pc + 2) L (.ref x :: st) h n P) : ev_Run G l d bc bs M pc L st h n P :=
  fun p e s m args below meth c R Q H locs cells slots ls C hf hlo hc hs hL hH hS hk => lv_aload C.1 C.2.1 hd (hL.2.2 _ _ hv) (k p e s m args below meth c R Q H locs cells slots ls C hf hlo hc hs hL hH hS hk)
theorem ev_aload_nN {q : Fin 4} {i : Nat} (hd : decode M.2.1 pc = .ok (.aload_n q, 1)) (hi : (q : Nat) = i) (hv : L[i]? = some (some .null)) (k : ev_Run G l d bc bs M (pc + 1) L (.null :: st) h n P) : ev_Run G l d bc bs M pc L st h n P :=
  fun p e s m args below meth c R Q H locs cells slots ls C hf hlo hc hs hL hH hS hk => lv_aload_nN C.1 C.2.1 hd hi (hL.2.2 _ _ hv) (k p e s m args below meth c R Q H locs cells slots ls C hf hlo hc hs hL hH hS hk)
theorem ev_aloadN {i : Nat} (hd : decode M.2.1 pc = .ok (.aload i, 2)) (hv : L[i]? = some (some .null)) (k : ev_Run G l d bc bs M (pc + 2) L (.null :: st) h n P) : ev_Run G l d bc bs M pc L st h n P :=
  fun p e s m args below meth c R Q H locs cells slots ls C hf hlo hc hs hL hH hS hk => lv_aloadN C.1 C.2.1 hd (hL.2.2 _ _ hv) (k p e s m args below meth c R Q H locs cells slots ls C hf hlo hc hs hL hH hS hk)
theorem ev_istore_n {q : Fin 4} {i : Nat} {x : Int32} (hd : decode M.2.1 pc = .ok (.istore_n q, 1)) (hi : (q : Nat) = i) (hn : i < M.2.2.1) (k : ev_Run G l d bc bs M (pc + 1) (ev_st1 L i (.int x)) st h n P) : ev_Run G l d bc bs M pc L ((.int x) :: st) h n P :=
  fun p e s m args below meth c R Q H locs cells slots ls C hf hlo hc hs hL hH hS hk => lv_istore_n C.1 C.2.1 hd hi hL.has hn rfl (fun ls' hl' => k p e s m args below meth c R Q H locs cells slots ls' C hf hlo hc hs (ev_LR.st1 hl') hH hS hk)
theorem ev_istore {i : Nat} {x : Int32} (hd : decode M.2.1 pc = .ok (.istore i, 2)) (hn : i < M.2.2.1) (k : ev_Run G l d bc bs M (pc + 2) (ev_st1 L i (.int x)) st h n P) : ev_Run G l d bc bs M pc L ((.int x) :: st) h n P :=
  fun p e s m args below meth c R Q H locs cells slots ls C hf hlo hc hs hL hH hS hk => lv_istore C.1 C.2.1 hd hL.has hn rfl (fun ls' hl' => k p e s m args below meth c R Q H locs cells slots ls' C hf hlo hc hs (ev_LR.st1 hl') hH hS hk)
theorem ev_lstore_n {q : Fin 4} {i : Nat} {x : Int64} (hd : decode M.2.1 pc = .ok (.lstore_n q, 1)) (hi : (q : Nat) = i) (hn : i + 1 < M.2.2.1) (k : ev_Run G l d bc bs M (pc + 1) (ev_st2 L i (.long x)) st h n P) : ev_Run G l d bc bs M pc L ((.long x) :: st) h n P :=
  fun p e s m args below meth c R Q H locs cells slots ls C hf hlo hc hs hL hH hS hk => lv_lstore_n C.1 C.2.1 hd hi hL.has hn rfl (fun ls' hl' => k p e s m args below meth c R Q H locs cells slots ls' C hf hlo hc hs (ev_LR.st2 hl') hH hS hk)
theorem ev_lstore {i : Nat} {x : Int64} (hd : decode M.2.1 pc = .ok (.lstore i, 2)) (hn : i + 1 < M.2.2.1) (k : ev_Run G l d bc bs M (pc + 2) (ev_st2 L i (.long x)) st h n P) : ev_Run G l d bc bs M pc L ((.long x) :: st) h n P :=
  fun p e s m args below meth c R Q H locs cells slots ls C hf hlo hc hs hL hH hS hk => lv_lstore C.1 C.2.1 hd hL.has hn rfl (fun ls' hl' => k p e s m args below meth c R Q H locs cells slots ls' C hf hlo hc hs (ev_LR.st2 hl') hH hS hk)
theorem ev_astore_n {q : Fin 4} {i : Nat} {x : Nat} (hd : decode M.2.1 pc = .ok (.astore_n q, 1)) (hi : (q : Nat) = i) (hn : i < M.2.2.1) (k : ev_Run G l d bc bs M (pc + 1) (ev_st1 L i (.ref x)) st h n P) : ev_Run G l d bc bs M pc L ((.ref x) :: st) h n P :=
  fun p e s m args below meth c R Q H locs cells slots ls C hf hlo hc hs hL hH hS hk => lv_astore_n C.1 C.2.1 hd hi hL.has hn rfl (fun ls' hl' => k p e s m args below meth c R Q H locs cells slots ls' C hf hlo hc hs (ev_LR.st1 hl') hH hS hk)
theorem ev_astore {i : Nat} {x : Nat} (hd : decode M.2.1 pc = .ok (.astore i, 2)) (hn : i < M.2.2.1) (k : ev_Run G l d bc bs M (pc + 2) (ev_st1 L i (.ref x)) st h n P) : ev_Run G l d bc bs M pc L ((.ref x) :: st) h n P :=
  fun p e s m args below meth c R Q H locs cells slots ls C hf hlo hc hs hL hH hS hk => lv_astore C.1 C.2.1 hd hL.has hn rfl (fun ls' hl' => k p e s m args below meth c R Q H locs cells slots ls' C hf hlo hc hs (ev_LR.st1 hl') hH hS hk)
theorem ev_astore_nN {q : Fin 4} {i : Nat} (hd : decode M.2.1 pc = .ok (.astore_n q, 1)) (hi : (q : Nat) = i) (hn : i < M.2.2.1) (k : ev_Run G l d bc bs M (pc + 1) (ev_st1 L i .null) st h n P) : ev_Run G l d bc bs M pc L (.null :: st) h n P :=
  fun p e s m args below meth c R Q H locs cells slots ls C hf hlo hc hs hL hH hS hk => lv_astore_nN C.1 C.2.1 hd hi hL.has hn rfl (fun ls' hl' => k p e s m args below meth c R Q H locs cells slots ls' C hf hlo hc hs (ev_LR.st1 hl') hH hS hk)
theorem ev_astoreN {i : Nat} (hd : decode M.2.1 pc = .ok (.astore i, 2)) (hn : i < M.2.2.1) (k : ev_Run G l d bc bs M (pc + 2) (ev_st1 L i .null) st h n P) : ev_Run G l d bc bs M pc L (.null :: st) h n P :=
  fun p e s m args below meth c R Q H locs cells slots ls C hf hlo hc hs hL hH hS hk => lv_astoreN C.1 C.2.1 hd hL.has hn rfl (fun ls' hl' => k p e s m args below meth c R Q H locs cells slots ls' C hf hlo hc hs (ev_LR.st1 hl') hH hS hk)
theorem ev_iinc {i : Nat} {z : Int} {x v : Int32} (hd : decode M.2.1 pc = .ok (.iinc i z, 3)) (hx : L[i]? = some (some (.int x))) (hv : x + Int32.ofInt z = v) (hn : i < M.2.2.1) (k : ev_Run G l d bc bs M (pc + 3) (ev_st1 L i (.int v)) st h n P) : ev_Run G l d bc bs M pc L st h n P := by
  intro p e s m args below meth c R Q H locs cells slots ls C hf hlo hc hs hL hH hS hk
  obtain ⟨j, hj⟩ := List.getElem?_of_mem (ev_lv_mem (q := (i, .int x)).mpr hx)
  exact lv_iinc C.1 C.2.1 hd hL.has hj hv hn rfl (fun ls' hl' => k p e s m args below meth c R Q H locs cells slots ls' C hf hlo hc hs (ev_LR.st1 hl') hH hS hk)
theorem ev_iadd {x y : Int32} (hd : decode M.2.1 pc = .ok (.iadd, 1)) (k : ev_Run G l d bc bs M (pc + 1) L (.int (x + y) :: st) h n P) : ev_Run G l d bc bs M pc L (.int y :: .int x :: st) h n P :=
  fun p e s m args below meth c R Q H locs cells slots ls C hf hlo hc hs hL hH hS hk => lv_iadd C.1 C.2.1 hd (k p e s m args below meth c R Q H locs cells slots ls C hf hlo hc hs hL hH hS hk)
theorem ev_isub {x y : Int32} (hd : decode M.2.1 pc = .ok (.isub, 1)) (k : ev_Run G l d bc bs M (pc + 1) L (.int (x - y) :: st) h n P) : ev_Run G l d bc bs M pc L (.int y :: .int x :: st) h n P :=
  fun p e s m args below meth c R Q H locs cells slots ls C hf hlo hc hs hL hH hS hk => lv_isub C.1 C.2.1 hd (k p e s m args below meth c R Q H locs cells slots ls C hf hlo hc hs hL hH hS hk)
theorem ev_imul {x y : Int32} (hd : decode M.2.1 pc = .ok (.imul, 1)) (k : ev_Run G l d bc bs M (pc + 1) L (.int (x * y) :: st) h n P) : ev_Run G l d bc bs M pc L (.int y :: .int x :: st) h n P :=
  fun p e s m args below meth c R Q H locs cells slots ls C hf hlo hc hs hL hH hS hk => lv_imul C.1 C.2.1 hd (k p e s m args below meth c R Q H locs cells slots ls C hf hlo hc hs hL hH hS hk)
theorem ev_iand {x y : Int32} (hd : decode M.2.1 pc = .ok (.iand, 1)) (k : ev_Run G l d bc bs M (pc + 1) L (.int (x &&& y) :: st) h n P) : ev_Run G l d bc bs M pc L (.int y :: .int x :: st) h n P :=
  fun p e s m args below meth c R Q H locs cells slots ls C hf hlo hc hs hL hH hS hk => lv_iand C.1 C.2.1 hd (k p e s m args below meth c R Q H locs cells slots ls C hf hlo hc hs hL hH hS hk)
theorem ev_ior {x y : Int32} (hd : decode M.2.1 pc = .ok (.ior, 1)) (k : ev_Run G l d bc bs M (pc + 1) L (.int (x ||| y) :: st) h n P) : ev_Run G l d bc bs M pc L (.int y :: .int x :: st) h n P :=
  fun p e s m args below meth c R Q H locs cells slots ls C hf hlo hc hs hL hH hS hk => lv_ior C.1 C.2.1 hd (k p e s m args below meth c R Q H locs cells slots ls C hf hlo hc hs hL hH hS hk)
theorem ev_ixor {x y : Int32} (hd : decode M.2.1 pc = .ok (.ixor, 1)) (k : ev_Run G l d bc bs M (pc + 1) L (.int (x ^^^ y) :: st) h n P) : ev_Run G l d bc bs M pc L (.int y :: .int x :: st) h n P :=
  fun p e s m args below meth c R Q H locs cells slots ls C hf hlo hc hs hL hH hS hk => lv_ixor C.1 C.2.1 hd (k p e s m args below meth c R Q H locs cells slots ls C hf hlo hc hs hL hH hS hk)
theorem ev_ishl {x y : Int32} (hd : decode M.2.1 pc = .ok (.ishl, 1)) (k : ev_Run G l d bc bs M (pc + 1) L (.int (x <<< (y &&& 31)) :: st) h n P) : ev_Run G l d bc bs M pc L (.int y :: .int x :: st) h n P :=
  fun p e s m args below meth c R Q H locs cells slots ls C hf hlo hc hs hL hH hS hk => lv_ishl C.1 C.2.1 hd (k p e s m args below meth c R Q H locs cells slots ls C hf hlo hc hs hL hH hS hk)
theorem ev_ishr {x y : Int32} (hd : decode M.2.1 pc = .ok (.ishr, 1)) (k : ev_Run G l d bc bs M (pc + 1) L (.int (x >>> (y &&& 31)) :: st) h n P) : ev_Run G l d bc bs M pc L (.int y :: .int x :: st) h n P :=
  fun p e s m args below meth c R Q H locs cells slots ls C hf hlo hc hs hL hH hS hk => lv_ishr C.1 C.2.1 hd (k p e s m args below meth c R Q H locs cells slots ls C hf hlo hc hs hL hH hS hk)
theorem ev_idiv {x y : Int32} (hd : decode M.2.1 pc = .ok (.idiv, 1)) (hne : ¬ y = 0) (k : ev_Run G l d bc bs M (pc + 1) L (.int (x / y) :: st) h n P) : ev_Run G l d bc bs M pc L (.int y :: .int x :: st) h n P :=
  fun p e s m args below meth c R Q H locs cells slots ls C hf hlo hc hs hL hH hS hk => lv_idiv C.1 C.2.1 hd hne (k p e s m args below meth c R Q H locs cells slots ls C hf hlo hc hs hL hH hS hk)
theorem ev_irem {x y : Int32} (hd : decode M.2.1 pc = .ok (.irem, 1)) (hne : ¬ y = 0) (k : ev_Run G l d bc bs M (pc + 1) L (.int (x - x / y * y) :: st) h n P) : ev_Run G l d bc bs M pc L (.int y :: .int x :: st) h n P :=
  fun p e s m args below meth c R Q H locs cells slots ls C hf hlo hc hs hL hH hS hk => lv_irem C.1 C.2.1 hd hne (k p e s m args below meth c R Q H locs cells slots ls C hf hlo hc hs hL hH hS hk)
theorem ev_ineg {x : Int32} (hd : decode M.2.1 pc = .ok (.ineg, 1)) (k : ev_Run G l d bc bs M (pc + 1) L (.int (-x) :: st) h n P) : ev_Run G l d bc bs M pc L (.int x :: st) h n P :=
  fun p e s m args below meth c R Q H locs cells slots ls C hf hlo hc hs hL hH hS hk => lv_ineg C.1 C.2.1 hd (k p e s m args below meth c R Q H locs cells slots ls C hf hlo hc hs hL hH hS hk)
theorem ev_ladd {x y : Int64} (hd : decode M.2.1 pc = .ok (.ladd, 1)) (k : ev_Run G l d bc bs M (pc + 1) L (.long (x + y) :: st) h n P) : ev_Run G l d bc bs M pc L (.long y :: .long x :: st) h n P :=
  fun p e s m args below meth c R Q H locs cells slots ls C hf hlo hc hs hL hH hS hk => lv_ladd C.1 C.2.1 hd (k p e s m args below meth c R Q H locs cells slots ls C hf hlo hc hs hL hH hS hk)
theorem ev_lsub {x y : Int64} (hd : decode M.2.1 pc = .ok (.lsub, 1)) (k : ev_Run G l d bc bs M (pc + 1) L (.long (x - y) :: st) h n P) : ev_Run G l d bc bs M pc L (.long y :: .long x :: st) h n P :=
  fun p e s m args below meth c R Q H locs cells slots ls C hf hlo hc hs hL hH hS hk => lv_lsub C.1 C.2.1 hd (k p e s m args below meth c R Q H locs cells slots ls C hf hlo hc hs hL hH hS hk)
theorem ev_lmul {x y : Int64} (hd : decode M.2.1 pc = .ok (.lmul, 1)) (k : ev_Run G l d bc bs M (pc + 1) L (.long (x * y) :: st) h n P) : ev_Run G l d bc bs M pc L (.long y :: .long x :: st) h n P :=
  fun p e s m args below meth c R Q H locs cells slots ls C hf hlo hc hs hL hH hS hk => lv_lmul C.1 C.2.1 hd (k p e s m args below meth c R Q H locs cells slots ls C hf hlo hc hs hL hH hS hk)
theorem ev_land {x y : Int64} (hd : decode M.2.1 pc = .ok (.land, 1)) (k : ev_Run G l d bc bs M (pc + 1) L (.long (x &&& y) :: st) h n P) : ev_Run G l d bc bs M pc L (.long y :: .long x :: st) h n P :=
  fun p e s m args below meth c R Q H locs cells slots ls C hf hlo hc hs hL hH hS hk => lv_land C.1 C.2.1 hd (k p e s m args below meth c R Q H locs cells slots ls C hf hlo hc hs hL hH hS hk)
theorem ev_lor {x y : Int64} (hd : decode M.2.1 pc = .ok (.lor, 1)) (k : ev_Run G l d bc bs M (pc + 1) L (.long (x ||| y) :: st) h n P) : ev_Run G l d bc bs M pc L (.long y :: .long x :: st) h n P :=
  fun p e s m args below meth c R Q H locs cells slots ls C hf hlo hc hs hL hH hS hk => lv_lor C.1 C.2.1 hd (k p e s m args below meth c R Q H locs cells slots ls C hf hlo hc hs hL hH hS hk)
theorem ev_lxor {x y : Int64} (hd : decode M.2.1 pc = .ok (.lxor, 1)) (k : ev_Run G l d bc bs M (pc + 1) L (.long (x ^^^ y) :: st) h n P) : ev_Run G l d bc bs M pc L (.long y :: .long x :: st) h n P :=
  fun p e s m args below meth c R Q H locs cells slots ls C hf hlo hc hs hL hH hS hk => lv_lxor C.1 C.2.1 hd (k p e s m args below meth c R Q H locs cells slots ls C hf hlo hc hs hL hH hS hk)
theorem ev_ldiv {x y : Int64} (hd : decode M.2.1 pc = .ok (.ldiv, 1)) (hne : ¬ y = 0) (k : ev_Run G l d bc bs M (pc + 1) L (.long (x / y) :: st) h n P) : ev_Run G l d bc bs M pc L (.long y :: .long x :: st) h n P :=
  fun p e s m args below meth c R Q H locs cells slots ls C hf hlo hc hs hL hH hS hk => lv_ldiv C.1 C.2.1 hd hne (k p e s m args below meth c R Q H locs cells slots ls C hf hlo hc hs hL hH hS hk)
theorem ev_lrem {x y : Int64} (hd : decode M.2.1 pc = .ok (.lrem, 1)) (hne : ¬ y = 0) (k : ev_Run G l d bc bs M (pc + 1) L (.long (x - x / y * y) :: st) h n P) : ev_Run G l d bc bs M pc L (.long y :: .long x :: st) h n P :=
  fun p e s m args below meth c R Q H locs cells slots ls C hf hlo hc hs hL hH hS hk => lv_lrem C.1 C.2.1 hd hne (k p e s m args below meth c R Q H locs cells slots ls C hf hlo hc hs hL hH hS hk)
theorem ev_lneg {x : Int64} (hd : decode M.2.1 pc = .ok (.lneg, 1)) (k : ev_Run G l d bc bs M (pc + 1) L (.long (-x) :: st) h n P) : ev_Run G l d bc bs M pc L (.long x :: st) h n P :=
  fun p e s m args below meth c R Q H locs cells slots ls C hf hlo hc hs hL hH hS hk => lv_lneg C.1 C.2.1 hd (k p e s m args below meth c R Q H locs cells slots ls C hf hlo hc hs hL hH hS hk)
theorem ev_lshl {x : Int64} {y : Int32} (hd : decode M.2.1 pc = .ok (.lshl, 1)) (k : ev_Run G l d bc bs M (pc + 1) L (.long (x <<< (y.toInt64 &&& 63)) :: st) h n P) : ev_Run G l d bc bs M pc L (.int y :: .long x :: st) h n P :=
  fun p e s m args below meth c R Q H locs cells slots ls C hf hlo hc hs hL hH hS hk => lv_lshl C.1 C.2.1 hd rfl (k p e s m args below meth c R Q H locs cells slots ls C hf hlo hc hs hL hH hS hk)
theorem ev_i2l {x : Int32} (hd : decode M.2.1 pc = .ok (.i2l, 1)) (k : ev_Run G l d bc bs M (pc + 1) L (.long x.toInt64 :: st) h n P) : ev_Run G l d bc bs M pc L (.int x :: st) h n P :=
  fun p e s m args below meth c R Q H locs cells slots ls C hf hlo hc hs hL hH hS hk => lv_i2l C.1 C.2.1 hd rfl (k p e s m args below meth c R Q H locs cells slots ls C hf hlo hc hs hL hH hS hk)
theorem ev_l2i {x : Int64} (hd : decode M.2.1 pc = .ok (.l2i, 1)) (k : ev_Run G l d bc bs M (pc + 1) L (.int x.toInt32 :: st) h n P) : ev_Run G l d bc bs M pc L (.long x :: st) h n P :=
  fun p e s m args below meth c R Q H locs cells slots ls C hf hlo hc hs hL hH hS hk => lv_l2i C.1 C.2.1 hd rfl (k p e s m args below meth c R Q H locs cells slots ls C hf hlo hc hs hL hH hS hk)
theorem ev_i2c {x : Int32} (hd : decode M.2.1 pc = .ok (.i2c, 1)) (k : ev_Run G l d bc bs M (pc + 1) L (.int (x.toUInt32 % 65536).toInt32 :: st) h n P) : ev_Run G l d bc bs M pc L (.int x :: st) h n P :=
  fun p e s m args below meth c R Q H locs cells slots ls C hf hlo hc hs hL hH hS hk => lv_i2c C.1 C.2.1 hd rfl (k p e s m args below meth c R Q H locs cells slots ls C hf hlo hc hs hL hH hS hk)
theorem ev_i2b {x : Int32} (hd : decode M.2.1 pc = .ok (.i2b, 1)) (k : ev_Run G l d bc bs M (pc + 1) L (.int x.toInt8.toInt32 :: st) h n P) : ev_Run G l d bc bs M pc L (.int x :: st) h n P :=
  fun p e s m args below meth c R Q H locs cells slots ls C hf hlo hc hs hL hH hS hk => lv_i2b C.1 C.2.1 hd rfl (k p e s m args below meth c R Q H locs cells slots ls C hf hlo hc hs hL hH hS hk)
theorem ev_lcmp {x y : Int64} (hd : decode M.2.1 pc = .ok (.lcmp, 1)) (k : ev_Run G l d bc bs M (pc + 1) L (.int (lg_cmp x y) :: st) h n P) : ev_Run G l d bc bs M pc L (.long y :: .long x :: st) h n P :=
  fun p e s m args below meth c R Q H locs cells slots ls C hf hlo hc hs hL hH hS hk => W.lcmp C.1 C.2.1 hd (k p e s m args below meth c R Q H locs cells slots ls C hf hlo hc hs hL hH hS hk)
theorem ev_dup {va : Value} (hd : decode M.2.1 pc = .ok (.dup, 1)) (hva : va.category = 1) (k : ev_Run G l d bc bs M (pc + 1) L (va :: va :: st) h n P) : ev_Run G l d bc bs M pc L (va :: st) h n P :=
  fun p e s m args below meth c R Q H locs cells slots ls C hf hlo hc hs hL hH hS hk => lv_dup C.1 C.2.1 hd hva (k p e s m args below meth c R Q H locs cells slots ls C hf hlo hc hs hL hH hS hk)
theorem ev_pop {va : Value} (hd : decode M.2.1 pc = .ok (.pop, 1)) (hva : va.category = 1) (k : ev_Run G l d bc bs M (pc + 1) L st h n P) : ev_Run G l d bc bs M pc L (va :: st) h n P :=
  fun p e s m args below meth c R Q H locs cells slots ls C hf hlo hc hs hL hH hS hk => lv_pop C.1 C.2.1 hd hva (k p e s m args below meth c R Q H locs cells slots ls C hf hlo hc hs hL hH hS hk)
theorem ev_dup_x1 {va vb : Value} (hd : decode M.2.1 pc = .ok (.dup_x1, 1)) (hva : va.category = 1) (hvb : vb.category = 1) (k : ev_Run G l d bc bs M (pc + 1) L (va :: vb :: va :: st) h n P) : ev_Run G l d bc bs M pc L (va :: vb :: st) h n P :=
  fun p e s m args below meth c R Q H locs cells slots ls C hf hlo hc hs hL hH hS hk => lv_dup_x1 C.1 C.2.1 hd hva hvb (k p e s m args below meth c R Q H locs cells slots ls C hf hlo hc hs hL hH hS hk)
theorem ev_dup_x2 {va vb vd : Value} (hd : decode M.2.1 pc = .ok (.dup_x2, 1)) (hva : va.category = 1) (hvb : vb.category = 1) (hvd : vd.category = 1) (k : ev_Run G l d bc bs M (pc + 1) L (va :: vb :: vd :: va :: st) h n P) : ev_Run G l d bc bs M pc L (va :: vb :: vd :: st) h n P :=
  fun p e s m args below meth c R Q H locs cells slots ls C hf hlo hc hs hL hH hS hk => lv_dup_x2 C.1 C.2.1 hd hva hvb hvd (k p e s m args below meth c R Q H locs cells slots ls C hf hlo hc hs hL hH hS hk)
theorem ev_dup2_11 {va vb : Value} (hd : decode M.2.1 pc = .ok (.dup2, 1)) (hva : va.category = 1) (hvb : vb.category = 1) (k : ev_Run G l d bc bs M (pc + 1) L (va :: vb :: va :: vb :: st) h n P) : ev_Run G l d bc bs M pc L (va :: vb :: st) h n P :=
  fun p e s m args below meth c R Q H locs cells slots ls C hf hlo hc hs hL hH hS hk => lv_dup2_11 C.1 C.2.1 hd hva hvb (k p e s m args below meth c R Q H locs cells slots ls C hf hlo hc hs hL hH hS hk)
theorem ev_dup2_2 {va : Value} (hd : decode M.2.1 pc = .ok (.dup2, 1)) (hva : va.category = 2) (k : ev_Run G l d bc bs M (pc + 1) L (va :: va :: st) h n P) : ev_Run G l d bc bs M pc L (va :: st) h n P :=
  fun p e s m args below meth c R Q H locs cells slots ls C hf hlo hc hs hL hH hS hk => lv_dup2_2 C.1 C.2.1 hd hva (k p e s m args below meth c R Q H locs cells slots ls C hf hlo hc hs hL hH hS hk)
theorem ev_pop2_2 {va : Value} (hd : decode M.2.1 pc = .ok (.pop2, 1)) (hva : va.category = 2) (k : ev_Run G l d bc bs M (pc + 1) L st h n P) : ev_Run G l d bc bs M pc L (va :: st) h n P :=
  fun p e s m args below meth c R Q H locs cells slots ls C hf hlo hc hs hL hH hS hk => lv_pop2_2 C.1 C.2.1 hd hva (k p e s m args below meth c R Q H locs cells slots ls C hf hlo hc hs hL hH hS hk)
theorem ev_dup2_x1_2 {va vb : Value} (hd : decode M.2.1 pc = .ok (.dup2_x1, 1)) (hva : va.category = 2) (hvb : vb.category = 1) (k : ev_Run G l d bc bs M (pc + 1) L (va :: vb :: va :: st) h n P) : ev_Run G l d bc bs M pc L (va :: vb :: st) h n P :=
  fun p e s m args below meth c R Q H locs cells slots ls C hf hlo hc hs hL hH hS hk => lv_dup2_x1_2 C.1 C.2.1 hd hva hvb (k p e s m args below meth c R Q H locs cells slots ls C hf hlo hc hs hL hH hS hk)
theorem ev_dup2_x2_2 {va vb vd : Value} (hd : decode M.2.1 pc = .ok (.dup2_x2, 1)) (hva : va.category = 2) (hvb : vb.category = 1) (hvd : vd.category = 1) (k : ev_Run G l d bc bs M (pc + 1) L (va :: vb :: vd :: va :: st) h n P) : ev_Run G l d bc bs M pc L (va :: vb :: vd :: st) h n P :=
  fun p e s m args below meth c R Q H locs cells slots ls C hf hlo hc hs hL hH hS hk => lv_dup2_x2_2 C.1 C.2.1 hd hva hvb hvd (k p e s m args below meth c R Q H locs cells slots ls C hf hlo hc hs hL hH hS hk)
theorem ev_goto {off : Int} {tgt : Nat} (hd : decode M.2.1 pc = .ok (.goto off, 3)) (ht : (pc : Int) + off = (tgt : Int)) (k : ev_Run G l d bc bs M tgt L st h n P) : ev_Run G l d bc bs M pc L st h n P :=
  fun p e s m args below meth c R Q H locs cells slots ls C hf hlo hc hs hL hH hS hk => lv_goto C.1 C.2.1 hd ht (k p e s m args below meth c R Q H locs cells slots ls C hf hlo hc hs hL hH hS hk)
theorem ev_if_eq {x : Int32} {off : Int} {tgt : Nat} (hd : decode M.2.1 pc = .ok (.ifCond .eq off, 3)) (ht : (pc : Int) + off = (tgt : Int)) (kt : x = 0 → ev_Run G l d bc bs M tgt L st h n P) (kf : ¬ x = 0 → ev_Run G l d bc bs M (pc + 3) L st h n P) : ev_Run G l d bc bs M pc L (.int x :: st) h n P :=
  fun p e s m args below meth c R Q H locs cells slots ls C hf hlo hc hs hL hH hS hk => lv_if_eq C.1 C.2.1 hd ht (fun q => kt q p e s m args below meth c R Q H locs cells slots ls C hf hlo hc hs hL hH hS hk) (fun q => kf q p e s m args below meth c R Q H locs cells slots ls C hf hlo hc hs hL hH hS hk)
theorem ev_icmp_eq {x y : Int32} {off : Int} {tgt : Nat} (hd : decode M.2.1 pc = .ok (.if_icmp .eq off, 3)) (ht : (pc : Int) + off = (tgt : Int)) (kt : x = y → ev_Run G l d bc bs M tgt L st h n P) (kf : ¬ x = y → ev_Run G l d bc bs M (pc + 3) L st h n P) : ev_Run G l d bc bs M pc L (.int y :: .int x :: st) h n P :=
  fun p e s m args below meth c R Q H locs cells slots ls C hf hlo hc hs hL hH hS hk => lv_icmp_eq C.1 C.2.1 hd ht (fun q => kt q p e s m args below meth c R Q H locs cells slots ls C hf hlo hc hs hL hH hS hk) (fun q => kf q p e s m args below meth c R Q H locs cells slots ls C hf hlo hc hs hL hH hS hk)
theorem ev_if_ne {x : Int32} {off : Int} {tgt : Nat} (hd : decode M.2.1 pc = .ok (.ifCond .ne off, 3)) (ht : (pc : Int) + off = (tgt : Int)) (kt : ¬ x = 0 → ev_Run G l d bc bs M tgt L st h n P) (kf : x = 0 → ev_Run G l d bc bs M (pc + 3) L st h n P) : ev_Run G l d bc bs M pc L (.int x :: st) h n P :=
  fun p e s m args below meth c R Q H locs cells slots ls C hf hlo hc hs hL hH hS hk => lv_if_ne C.1 C.2.1 hd ht (fun q => kt q p e s m args below meth c R Q H locs cells slots ls C hf hlo hc hs hL hH hS hk) (fun q => kf q p e s m args below meth c R Q H locs cells slots ls C hf hlo hc hs hL hH hS hk)
theorem ev_icmp_ne {x y : Int32} {off : Int} {tgt : Nat} (hd : decode M.2.1 pc = .ok (.if_icmp .ne off, 3)) (ht : (pc : Int) + off = (tgt : Int)) (kt : ¬ x = y → ev_Run G l d bc bs M tgt L st h n P) (kf : x = y → ev_Run G l d bc bs M (pc + 3) L st h n P) : ev_Run G l d bc bs M pc L (.int y :: .int x :: st) h n P :=
  fun p e s m args below meth c R Q H locs cells slots ls C hf hlo hc hs hL hH hS hk => lv_icmp_ne C.1 C.2.1 hd ht (fun q => kt q p e s m args below meth c R Q H locs cells slots ls C hf hlo hc hs hL hH hS hk) (fun q => kf q p e s m args below meth c R Q H locs cells slots ls C hf hlo hc hs hL hH hS hk)
theorem ev_if_lt {x : Int32} {off : Int} {tgt : Nat} (hd : decode M.2.1 pc = .ok (.ifCond .lt off, 3)) (ht : (pc : Int) + off = (tgt : Int)) (kt : x < 0 → ev_Run G l d bc bs M tgt L st h n P) (kf : ¬ x < 0 → ev_Run G l d bc bs M (pc + 3) L st h n P) : ev_Run G l d bc bs M pc L (.int x :: st) h n P :=
  fun p e s m args below meth c R Q H locs cells slots ls C hf hlo hc hs hL hH hS hk => lv_if_lt C.1 C.2.1 hd ht (fun q => kt q p e s m args below meth c R Q H locs cells slots ls C hf hlo hc hs hL hH hS hk) (fun q => kf q p e s m args below meth c R Q H locs cells slots ls C hf hlo hc hs hL hH hS hk)
theorem ev_icmp_lt {x y : Int32} {off : Int} {tgt : Nat} (hd : decode M.2.1 pc = .ok (.if_icmp .lt off, 3)) (ht : (pc : Int) + off = (tgt : Int)) (kt : x < y → ev_Run G l d bc bs M tgt L st h n P) (kf : ¬ x < y → ev_Run G l d bc bs M (pc + 3) L st h n P) : ev_Run G l d bc bs M pc L (.int y :: .int x :: st) h n P :=
  fun p e s m args below meth c R Q H locs cells slots ls C hf hlo hc hs hL hH hS hk => lv_icmp_lt C.1 C.2.1 hd ht (fun q => kt q p e s m args below meth c R Q H locs cells slots ls C hf hlo hc hs hL hH hS hk) (fun q => kf q p e s m args below meth c R Q H locs cells slots ls C hf hlo hc hs hL hH hS hk)
theorem ev_if_ge {x : Int32} {off : Int} {tgt : Nat} (hd : decode M.2.1 pc = .ok (.ifCond .ge off, 3)) (ht : (pc : Int) + off = (tgt : Int)) (kt : 0 ≤ x → ev_Run G l d bc bs M tgt L st h n P) (kf : ¬ 0 ≤ x → ev_Run G l d bc bs M (pc + 3) L st h n P) : ev_Run G l d bc bs M pc L (.int x :: st) h n P :=
  fun p e s m args below meth c R Q H locs cells slots ls C hf hlo hc hs hL hH hS hk => lv_if_ge C.1 C.2.1 hd ht (fun q => kt q p e s m args below meth c R Q H locs cells slots ls C hf hlo hc hs hL hH hS hk) (fun q => kf q p e s m args below meth c R Q H locs cells slots ls C hf hlo hc hs hL hH hS hk)
theorem ev_icmp_ge {x y : Int32} {off : Int} {tgt : Nat} (hd : decode M.2.1 pc = .ok (.if_icmp .ge off, 3)) (ht : (pc : Int) + off = (tgt : Int)) (kt : y ≤ x → ev_Run G l d bc bs M tgt L st h n P) (kf : ¬ y ≤ x → ev_Run G l d bc bs M (pc + 3) L st h n P) : ev_Run G l d bc bs M pc L (.int y :: .int x :: st) h n P :=
  fun p e s m args below meth c R Q H locs cells slots ls C hf hlo hc hs hL hH hS hk => lv_icmp_ge C.1 C.2.1 hd ht (fun q => kt q p e s m args below meth c R Q H locs cells slots ls C hf hlo hc hs hL hH hS hk) (fun q => kf q p e s m args below meth c R Q H locs cells slots ls C hf hlo hc hs hL hH hS hk)
theorem ev_if_gt {x : Int32} {off : Int} {tgt : Nat} (hd : decode M.2.1 pc = .ok (.ifCond .gt off, 3)) (ht : (pc : Int) + off = (tgt : Int)) (kt : 0 < x → ev_Run G l d bc bs M tgt L st h n P) (kf : ¬ 0 < x → ev_Run G l d bc bs M (pc + 3) L st h n P) : ev_Run G l d bc bs M pc L (.int x :: st) h n P :=
  fun p e s m args below meth c R Q H locs cells slots ls C hf hlo hc hs hL hH hS hk => lv_if_gt C.1 C.2.1 hd ht (fun q => kt q p e s m args below meth c R Q H locs cells slots ls C hf hlo hc hs hL hH hS hk) (fun q => kf q p e s m args below meth c R Q H locs cells slots ls C hf hlo hc hs hL hH hS hk)
theorem ev_icmp_gt {x y : Int32} {off : Int} {tgt : Nat} (hd : decode M.2.1 pc = .ok (.if_icmp .gt off, 3)) (ht : (pc : Int) + off = (tgt : Int)) (kt : y < x → ev_Run G l d bc bs M tgt L st h n P) (kf : ¬ y < x → ev_Run G l d bc bs M (pc + 3) L st h n P) : ev_Run G l d bc bs M pc L (.int y :: .int x :: st) h n P :=
  fun p e s m args below meth c R Q H locs cells slots ls C hf hlo hc hs hL hH hS hk => lv_icmp_gt C.1 C.2.1 hd ht (fun q => kt q p e s m args below meth c R Q H locs cells slots ls C hf hlo hc hs hL hH hS hk) (fun q => kf q p e s m args below meth c R Q H locs cells slots ls C hf hlo hc hs hL hH hS hk)
theorem ev_if_le {x : Int32} {off : Int} {tgt : Nat} (hd : decode M.2.1 pc = .ok (.ifCond .le off, 3)) (ht : (pc : Int) + off = (tgt : Int)) (kt : x ≤ 0 → ev_Run G l d bc bs M tgt L st h n P) (kf : ¬ x ≤ 0 → ev_Run G l d bc bs M (pc + 3) L st h n P) : ev_Run G l d bc bs M pc L (.int x :: st) h n P :=
  fun p e s m args below meth c R Q H locs cells slots ls C hf hlo hc hs hL hH hS hk => lv_if_le C.1 C.2.1 hd ht (fun q => kt q p e s m args below meth c R Q H locs cells slots ls C hf hlo hc hs hL hH hS hk) (fun q => kf q p e s m args below meth c R Q H locs cells slots ls C hf hlo hc hs hL hH hS hk)
theorem ev_icmp_le {x y : Int32} {off : Int} {tgt : Nat} (hd : decode M.2.1 pc = .ok (.if_icmp .le off, 3)) (ht : (pc : Int) + off = (tgt : Int)) (kt : x ≤ y → ev_Run G l d bc bs M tgt L st h n P) (kf : ¬ x ≤ y → ev_Run G l d bc bs M (pc + 3) L st h n P) : ev_Run G l d bc bs M pc L (.int y :: .int x :: st) h n P :=
  fun p e s m args below meth c R Q H locs cells slots ls C hf hlo hc hs hL hH hS hk => lv_icmp_le C.1 C.2.1 hd ht (fun q => kt q p e s m args below meth c R Q H locs cells slots ls C hf hlo hc hs hL hH hS hk) (fun q => kf q p e s m args below meth c R Q H locs cells slots ls C hf hlo hc hs hL hH hS hk)
theorem ev_lcmp_eq {x y : Int64} {off : Int} {tgt : Nat} (hd : decode M.2.1 pc = .ok (.lcmp, 1)) (hd2 : decode M.2.1 (pc + 1) = .ok (.ifCond .eq off, 3)) (ht : ((pc + 1 : Nat) : Int) + off = (tgt : Int)) (kt : x = y → ev_Run G l d bc bs M tgt L st h n P) (kf : ¬ x = y → ev_Run G l d bc bs M (pc + 4) L st h n P) : ev_Run G l d bc bs M pc L (.long y :: .long x :: st) h n P :=
  ev_lcmp hd (ev_if_eq hd2 ht (fun q => kt ((lg_cmp_eq x y).mp q)) (fun q => kf (fun z => q ((lg_cmp_eq x y).mpr z))))
theorem ev_lcmp_ne {x y : Int64} {off : Int} {tgt : Nat} (hd : decode M.2.1 pc = .ok (.lcmp, 1)) (hd2 : decode M.2.1 (pc + 1) = .ok (.ifCond .ne off, 3)) (ht : ((pc + 1 : Nat) : Int) + off = (tgt : Int)) (kt : ¬ x = y → ev_Run G l d bc bs M tgt L st h n P) (kf : x = y → ev_Run G l d bc bs M (pc + 4) L st h n P) : ev_Run G l d bc bs M pc L (.long y :: .long x :: st) h n P :=
  ev_lcmp hd (ev_if_ne hd2 ht (fun q => kt (fun z => q ((lg_cmp_eq x y).mpr z))) (fun q => kf ((lg_cmp_eq x y).mp q)))
theorem ev_lcmp_lt {x y : Int64} {off : Int} {tgt : Nat} (hd : decode M.2.1 pc = .ok (.lcmp, 1)) (hd2 : decode M.2.1 (pc + 1) = .ok (.ifCond .lt off, 3)) (ht : ((pc + 1 : Nat) : Int) + off = (tgt : Int)) (kt : x < y → ev_Run G l d bc bs M tgt L st h n P) (kf : ¬ x < y → ev_Run G l d bc bs M (pc + 4) L st h n P) : ev_Run G l d bc bs M pc L (.long y :: .long x :: st) h n P :=
  ev_lcmp hd (ev_if_lt hd2 ht (fun q => kt ((lg_cmp_lt x y).mp q)) (fun q => kf (fun z => q ((lg_cmp_lt x y).mpr z))))
theorem ev_lcmp_ge {x y : Int64} {off : Int} {tgt : Nat} (hd : decode M.2.1 pc = .ok (.lcmp, 1)) (hd2 : decode M.2.1 (pc + 1) = .ok (.ifCond .ge off, 3)) (ht : ((pc + 1 : Nat) : Int) + off = (tgt : Int)) (kt : y ≤ x → ev_Run G l d bc bs M tgt L st h n P) (kf : ¬ y ≤ x → ev_Run G l d bc bs M (pc + 4) L st h n P) : ev_Run G l d bc bs M pc L (.long y :: .long x :: st) h n P :=
  ev_lcmp hd (ev_if_ge hd2 ht (fun q => kt ((lg_cmp_ge x y).mp q)) (fun q => kf (fun z => q ((lg_cmp_ge x y).mpr z))))
theorem ev_lcmp_gt {x y : Int64} {off : Int} {tgt : Nat} (hd : decode M.2.1 pc = .ok (.lcmp, 1)) (hd2 : decode M.2.1 (pc + 1) = .ok (.ifCond .gt off, 3)) (ht : ((pc + 1 : Nat) : Int) + off = (tgt : Int)) (kt : y < x → ev_Run G l d bc bs M tgt L st h n P) (kf : ¬ y < x → ev_Run G l d bc bs M (pc + 4) L st h n P) : ev_Run G l d bc bs M pc L (.long y :: .long x :: st) h n P :=
  ev_lcmp hd (ev_if_gt hd2 ht (fun q => kt ((lg_cmp_gt x y).mp q)) (fun q => kf (fun z => q ((lg_cmp_gt x y).mpr z))))
theorem ev_lcmp_le {x y : Int64} {off : Int} {tgt : Nat} (hd : decode M.2.1 pc = .ok (.lcmp, 1)) (hd2 : decode M.2.1 (pc + 1) = .ok (.ifCond .le off, 3)) (ht : ((pc + 1 : Nat) : Int) + off = (tgt : Int)) (kt : x ≤ y → ev_Run G l d bc bs M tgt L st h n P) (kf : ¬ x ≤ y → ev_Run G l d bc bs M (pc + 4) L st h n P) : ev_Run G l d bc bs M pc L (.long y :: .long x :: st) h n P :=
  ev_lcmp hd (ev_if_le hd2 ht (fun q => kt ((lg_cmp_le x y).mp q)) (fun q => kf (fun z => q ((lg_cmp_le x y).mpr z))))
theorem ev_ifnonnull {x : Nat} {off : Int} {tgt : Nat} (hd : decode M.2.1 pc = .ok (.ifnonnull off, 3)) (ht : (pc : Int) + off = (tgt : Int)) (k : ev_Run G l d bc bs M tgt L st h n P) : ev_Run G l d bc bs M pc L (.ref x :: st) h n P :=
  fun p e s m args below meth c R Q H locs cells slots ls C hf hlo hc hs hL hH hS hk => lv_ifnonnull C.1 C.2.1 hd ht (k p e s m args below meth c R Q H locs cells slots ls C hf hlo hc hs hL hH hS hk)
theorem ev_ifnull {x : Nat} {off : Int} (hd : decode M.2.1 pc = .ok (.ifnull off, 3)) (k : ev_Run G l d bc bs M (pc + 3) L st h n P) : ev_Run G l d bc bs M pc L (.ref x :: st) h n P :=
  fun p e s m args below meth c R Q H locs cells slots ls C hf hlo hc hs hL hH hS hk => lv_ifnull C.1 C.2.1 hd (k p e s m args below meth c R Q H locs cells slots ls C hf hlo hc hs hL hH hS hk)
theorem ev_ifnullN {off : Int} {tgt : Nat} (hd : decode M.2.1 pc = .ok (.ifnull off, 3)) (ht : (pc : Int) + off = (tgt : Int)) (k : ev_Run G l d bc bs M tgt L st h n P) : ev_Run G l d bc bs M pc L (.null :: st) h n P :=
  fun p e s m args below meth c R Q H locs cells slots ls C hf hlo hc hs hL hH hS hk => lv_ifnullN C.1 C.2.1 hd ht (k p e s m args below meth c R Q H locs cells slots ls C hf hlo hc hs hL hH hS hk)
theorem ev_ifnonnullN {off : Int} (hd : decode M.2.1 pc = .ok (.ifnonnull off, 3)) (k : ev_Run G l d bc bs M (pc + 3) L st h n P) : ev_Run G l d bc bs M pc L (.null :: st) h n P :=
  fun p e s m args below meth c R Q H locs cells slots ls C hf hlo hc hs hL hH hS hk => lv_ifnonnullN C.1 C.2.1 hd (k p e s m args below meth c R Q H locs cells slots ls C hf hlo hc hs hL hH hS hk)
theorem ev_acmp_eq {x y : Nat} {off : Int} {tgt : Nat} (hd : decode M.2.1 pc = .ok (.if_acmp .eq off, 3)) (ht : (pc : Int) + off = (tgt : Int)) (kt : x = y → ev_Run G l d bc bs M tgt L st h n P) (kf : ¬ x = y → ev_Run G l d bc bs M (pc + 3) L st h n P) : ev_Run G l d bc bs M pc L (.ref y :: .ref x :: st) h n P :=
  fun p e s m args below meth c R Q H locs cells slots ls C hf hlo hc hs hL hH hS hk => lv_acmp_eq (rx := some x) (ry := some y) C.1 C.2.1 hd ht (fun q => kt (Option.some.inj q) p e s m args below meth c R Q H locs cells slots ls C hf hlo hc hs hL hH hS hk) (fun q => kf (fun z => q (congrArg some z)) p e s m args below meth c R Q H locs cells slots ls C hf hlo hc hs hL hH hS hk)
theorem ev_acmp_ne {x y : Nat} {off : Int} {tgt : Nat} (hd : decode M.2.1 pc = .ok (.if_acmp .ne off, 3)) (ht : (pc : Int) + off = (tgt : Int)) (kt : ¬ x = y → ev_Run G l d bc bs M tgt L st h n P) (kf : x = y → ev_Run G l d bc bs M (pc + 3) L st h n P) : ev_Run G l d bc bs M pc L (.ref y :: .ref x :: st) h n P :=
  fun p e s m args below meth c R Q H locs cells slots ls C hf hlo hc hs hL hH hS hk => lv_acmp_ne (rx := some x) (ry := some y) C.1 C.2.1 hd ht (fun q => kt (fun z => q (congrArg some z)) p e s m args below meth c R Q H locs cells slots ls C hf hlo hc hs hL hH hS hk) (fun q => kf (Option.some.inj q) p e s m args below meth c R Q H locs cells slots ls C hf hlo hc hs hL hH hS hk)
theorem ev_tin {dflt lo hi : Int} {offs : Array Int} {len : Nat} {x : Int32} {off : Int} {tgt : Nat} (hd : decode M.2.1 pc = .ok (.tableswitch dflt lo hi offs, len)) (h1 : ¬ x.toInt < lo) (h2 : ¬ hi < x.toInt) (ho : offs[(x.toInt - lo).toNat]? = some off) (ht : (pc : Int) + off = (tgt : Int)) (k : ev_Run G l d bc bs M tgt L st h n P) : ev_Run G l d bc bs M pc L (.int x :: st) h n P :=
  fun p e s m args below meth c R Q H locs cells slots ls C hf hlo hc hs hL hH hS hk => lv_tableIn C.1 C.2.1 hd h1 h2 ho ht (k p e s m args below meth c R Q H locs cells slots ls C hf hlo hc hs hL hH hS hk)
theorem ev_tout {dflt lo hi : Int} {offs : Array Int} {len : Nat} {x : Int32} {tgt : Nat} (hd : decode M.2.1 pc = .ok (.tableswitch dflt lo hi offs, len)) (hx : x.toInt < lo ∨ hi < x.toInt) (ht : (pc : Int) + dflt = (tgt : Int)) (k : ev_Run G l d bc bs M tgt L st h n P) : ev_Run G l d bc bs M pc L (.int x :: st) h n P :=
  fun p e s m args below meth c R Q H locs cells slots ls C hf hlo hc hs hL hH hS hk => lv_tableOut C.1 C.2.1 hd hx ht (k p e s m args below meth c R Q H locs cells slots ls C hf hlo hc hs hL hH hS hk)
theorem ev_look {dflt : Int} {ps : Array (Int × Int)} {len : Nat} {x : Int32} {off : Int} {tgt : Nat} (hd : decode M.2.1 pc = .ok (.lookupswitch dflt ps, len)) (hp : (ps.toList.zip (ps.toList.drop 1)).all (fun (a, next) => a.1 < next.1) = true) (ho : Op.lookupswitch.offset ps.toList dflt x.toInt = off) (ht : (pc : Int) + off = (tgt : Int)) (k : ev_Run G l d bc bs M tgt L st h n P) : ev_Run G l d bc bs M pc L (.int x :: st) h n P :=
  fun p e s m args below meth c R Q H locs cells slots ls C hf hlo hc hs hL hH hS hk => lv_lookup C.1 C.2.1 hd hp ho ht (k p e s m args below meth c R Q H locs cells slots ls C hf hlo hc hs hL hH hS hk)
theorem ev_iret {v : Int32} {ty : FieldType} (hd : decode M.2.1 pc = .ok (.ireturn, 1)) (hr : M.2.2.2 = some ty) (hn : narrow ty (.int v) = .int v) (k : P (some (.int v)) h n) : ev_Run G l d bc bs M pc L [.int v] h n P :=
  fun p e s m args below meth c R Q H locs cells slots ls C hf hlo hc hs hL hH hS hk => hk (some (.int v)) h n H locs cells slots pc ls k hH hS (Nat.le_add_right _ _) (Nat.le_add_right _ _) ⟨hd, ty, hr, hn⟩
theorem ev_lret {v : Int64} (hd : decode M.2.1 pc = .ok (.lreturn, 1)) (hr : M.2.2.2 = some .long) (k : P (some (.long v)) h n) : ev_Run G l d bc bs M pc L [.long v] h n P :=
  fun p e s m args below meth c R Q H locs cells slots ls C hf hlo hc hs hL hH hS hk => hk (some (.long v)) h n H locs cells slots pc ls k hH hS (Nat.le_add_right _ _) (Nat.le_add_right _ _) ⟨hd, hr⟩
theorem ev_vret (hd : decode M.2.1 pc = .ok (.return_, 1)) (hr : M.2.2.2 = none) (k : P none h n) : ev_Run G l d bc bs M pc L [] h n P :=
  fun p e s m args below meth c R Q H locs cells slots ls C hf hlo hc hs hL hH hS hk => hk none h n H locs cells slots pc ls k hH hS (Nat.le_add_right _ _) (Nat.le_add_right _ _) ⟨hd, hr⟩
theorem ev_aret {v : Nat} {nm : String} (hd : decode M.2.1 pc = .ok (.areturn, 1)) (hr : M.2.2.2 = some (.object nm)) (k : P (some (.ref v)) h n) : ev_Run G l d bc bs M pc L [.ref v] h n P :=
  fun p e s m args below meth c R Q H locs cells slots ls C hf hlo hc hs hL hH hS hk => hk (some (.ref v)) h n H locs cells slots pc ls k hH hS (Nat.le_add_right _ _) (Nat.le_add_right _ _) ⟨hd, nm, hr⟩
theorem ev_aretN {nm : String} (hd : decode M.2.1 pc = .ok (.areturn, 1)) (hr : M.2.2.2 = some (.object nm)) (k : P (some .null) h n) : ev_Run G l d bc bs M pc L [.null] h n P :=
  fun p e s m args below meth c R Q H locs cells slots ls C hf hlo hc hs hL hH hS hk => hk (some .null) h n H locs cells slots pc ls k hH hS (Nat.le_add_right _ _) (Nat.le_add_right _ _) ⟨hd, nm, hr⟩
end EV
end
section
/-! rows that touch the heap; calls -/
theorem ev_one {D : va_G} {cl : List vw_C} {q : Nat × va_E} {H : Heap} (hq : va_at D cl q H) : va_P D cl [q] H := fun k x hk => by
  cases k with
  | zero => cases hk; exact hq
  | succ k => simp at hk
theorem ev_tyOf {G : xG} {U : State} (hK : ev_K G U) {t : Nat} {ty : FieldType} (ht : ev_tys[t]? = some ty) : ∃ cA : ClassId, (xTy G)[t]? = some (cA, ty) ∧ ArrOfT U cA ty ∧ va_RA U cA ty := by
  have hm := hK.2.2.2.2.2.2.2.2
  rw [← hm, List.getElem?_map] at ht
  cases hq : (xTy G)[t]? with
  | none => rw [hq] at ht; cases ht
  | some q =>
    rw [hq] at ht
    obtain ⟨cA, ty'⟩ := q
    cases ht
    exact ⟨cA, rfl, hK.1.2 t _ hq⟩
def ev_fld (own : String) (index ci k : Nat) : Prop := ∃ (C : String) (T : u_T) (N : Nat), vwCl[ci]? = some (C, T, N) ∧ k < N ∧ Cond.fieldLink own index (T k).1 (T k).2.1 (T k).2.2.1 ∈ ev_T ∧ ∀ w ∈ u_ws C T N, w ∈ ev_T
def ev_fty (ci k : Nat) (ty : FieldType) (fin : Bool) (own : String) : Prop := ∃ (C : String) (T : u_T) (N : Nat) (ty0 : Nat → FieldType), vwCl[ci]? = some (C, T, N) ∧ (∀ j, j < N → parseFieldDescriptor (T j).2.2.1 = some (ty0 j)) ∧ (∀ a, a < N → ∀ b, b < N → a ≠ b → (T a).2.1 ≠ (T b).2.1) ∧ parseFieldDescriptor (T k).2.2.1 = some ty ∧ (T k).2.2.2 = fin ∧ (T k).1 = own
def ev_cls (own : String) (index ci N : Nat) (fs : List Value) : Prop := ∃ (C : String) (T : u_T) (ty : Nat → FieldType), vwCl[ci]? = some (C, T, N) ∧ (∀ k, k < N → parseFieldDescriptor (T k).2.2.1 = some (ty k)) ∧ (∀ j, j < N → defaultValue (ty j) = vp_V fs j) ∧ Cond.classLink own index C ∈ ev_T ∧ Cond.instantiable C N ∈ ev_T ∧ Cond.initialized C ∈ ev_T ∧ ∀ w ∈ u_ws C T N, w ∈ ev_T
section EVH
variable {G : xG} {l : Launch} {d bc bs : Nat} {M : xM} {pc : Nat} {L : List (Option Value)} {st : List Value} {h : xH} {n : Nat} {P : Option Value → xH → Nat → Prop}
theorem ev_get {i ci k a : Nat} {fs : List Value} {v : Value} (hd : decode M.2.1 pc = .ok (.getfield i, 3)) (hq : ev_fld M.1.cls i ci k) (ha : h a = some (.inr (ci, fs))) (hv : fs[k]? = some v) (kk : ev_Run G l d bc bs M (pc + 3) L (v :: st) h n P) : ev_Run G l d bc bs M pc L (.ref a :: st) h n P := by
  intro p e s m args below meth c R Q H locs cells slots ls C hf hlo hc hs hL hH hS hk
  obtain ⟨CC, T, N, hcl, hkN, hw, hin⟩ := hq
  exact va_get (D := xD G) (cl := vwCl) (tys := xTy G) (ws := [(a, .inr (ci, fs))]) C.1 C.2.1 C.2.2.2.2.2.2.1 hin C.2.2.2.2.2.1 C.2.2.2.2.2.2.2.1.1 (ev_one (hH.2.2.2 a _ ha).2) 0 rfl hcl k hkN (C.2.2.2.2.2.2.1 _ hw) (fun _ h9 => h9) hv hd (kk p e s m args below meth c R Q H locs cells slots ls C hf hlo hc hs hL hH hS hk)
theorem ev_put {i ci k a : Nat} {fs : List Value} {v : Value} {ty : FieldType} {own : String} (hd : decode M.2.1 pc = .ok (.putfield i, 3)) (hq : ev_fld M.1.cls i ci k) (hq2 : ev_fty ci k ty false own) (ha : h a = some (.inr (ci, fs))) (hn : narrow ty v = v) (hfit : fits ty v = true) (hl : k < fs.length) (kk : ev_Run G l d bc bs M (pc + 3) L st (hp_set h a (.inr (ci, fs.set k v))) n P) : ev_Run G l d bc bs M pc L (v :: .ref a :: st) h n P := by
  intro p e s m args below meth c R Q H locs cells slots ls C hf hlo hc hs hL hH hS hk
  obtain ⟨CC, T, N, hcl, hkN, hw, hin⟩ := hq
  obtain ⟨C2, T2, N2, ty0, hcl2, hty, hnm, hd2, hfin, -⟩ := hq2
  cases hcl.symm.trans hcl2
  obtain ⟨hab, hat⟩ := hH.2.2.2 a _ ha
  have hts := C.2.2.2.2.2.2.1
  have hown := C.2.2.2.2.2.1
  have hK := C.2.2.2.2.2.2.2.1.1
  have hbb := C.2.2.2.2.2.2.2.1.2.2.2.2.2.2.2.1
  have hap := va_apart (own := M.1.cls) hts hin ty0 hty hnm hK hcl
  obtain ⟨r, h1, cell, q1, q2, q3, q4⟩ := hat
  have hr : r = (CC, T, N) := Option.some.inj (h1.symm.trans hcl)
  subst hr
  obtain ⟨hSl, hfc, kC, hkC, hkind⟩ := hK.1 ci _ hcl
  obtain ⟨cf, kf, fi, f, hi, hsl⟩ := hSl k hkN
  have hlay := hts _ (hin _ (u_in_lay hkN))
  unfold u_lay at hlay
  rw [if_neg (by rw [hfin]; decide)] at hlay
  have hst := (u_facts hfc hkC (u_lays hts hin hkN) hi).1
  have h6 := u_store hfc hkC hkind hlay hi hd2 hn hfit
  refine W.putK C.1 C.2.1 (f := f) ⟨hown, hts _ hw, ⟨_, _, _, hi⟩, hst⟩ (by rw [q2]; exact h6) q1 q3 (by rw [hsl]; exact k2_hasslot (q4 k hkN)) rfl rfl hd fun H' e1 e2 e3 => ?_
  refine kk p e s m args below meth c R Q H' _ cells slots ls C hf hlo hc hs hL (hH.put hab hbb e2 e3 ?_) (hS.put e2 e3 hab) hk
  rw [hsl] at e1
  exact ⟨_, hcl, t_OB.to (V := updV (vp_V fs) k v) ⟨_, e1, q2, q3, t_set q4 hap hkN v⟩ (fun j _ => vp_updV_set hl v j)⟩
theorem ev_putF {i ci k a : Nat} {fs : List Value} {v : Value} {ty : FieldType} (hd : decode M.2.1 pc = .ok (.putfield i, 3)) (hq : ev_fld M.1.cls i ci k) (hq2 : ev_fty ci k ty true M.1.cls) (hini : M.1.name = "<init>") (ha : h a = some (.inr (ci, fs))) (hn : narrow ty v = v) (hfit : fits ty v = true) (hl : k < fs.length) (kk : ev_Run G l d bc bs M (pc + 3) L st (hp_set h a (.inr (ci, fs.set k v))) n P) : ev_Run G l d bc bs M pc L (v :: .ref a :: st) h n P := by
  intro p e s m args below meth c R Q H locs cells slots ls C hf hlo hc hs hL hH hS hk
  obtain ⟨CC, T, N, hcl, hkN, hw, hin⟩ := hq
  obtain ⟨C2, T2, N2, ty0, hcl2, hty, hnm, hd2, hfin, hdecl⟩ := hq2
  cases hcl.symm.trans hcl2
  obtain ⟨hab, hat⟩ := hH.2.2.2 a _ ha
  have hts := C.2.2.2.2.2.2.1
  have hown := C.2.2.2.2.2.1
  have hK := C.2.2.2.2.2.2.2.1.1
  have hbb := C.2.2.2.2.2.2.2.1.2.2.2.2.2.2.2.1
  have hin2 : meth.name = "<init>" := C.2.2.2.2.2.2.2.2.1.trans hini
  have hap := va_apart (own := M.1.cls) hts hin ty0 hty hnm hK hcl
  obtain ⟨r, h1, cell, q1, q2, q3, q4⟩ := hat
  have hr : r = (CC, T, N) := Option.some.inj (h1.symm.trans hcl)
  subst hr
  obtain ⟨hSl, hfc, kC, hkC, hkind⟩ := hK.1 ci _ hcl
  obtain ⟨cf, kf, fi, f, hi, hsl⟩ := hSl k hkN
  have hlay := hts _ (hin _ (u_in_lay hkN))
  unfold u_lay at hlay
  rw [if_pos hfin] at hlay
  have hst := (u_facts hfc hkC (u_lays hts hin hkN) hi).1
  have hcf : m.cls = cf := by
    obtain ⟨_, _, c', _, _, _, -, -, hf', -, -, -, hown2, -⟩ := Cond.laysFinal_spec hlay
    have e1 : c' = cf := by have := hi.symm.trans hf'; simp at this; exact this.1.symm
    rw [hdecl] at hown2
    rw [← e1]; exact Option.some.inj (hown.symm.trans hown2)
  have h6 := u_fits hfc hkC hkind (Or.inr hlay) hi hd2 hn hfit
  refine W.putFinK C.1 C.2.1 hown (hts _ hw) hi hst hcf hin2 (by rw [q2]; exact h6) q1 q3 (by rw [hsl]; exact k2_hasslot (q4 k hkN)) rfl rfl hd fun H' e1 e2 e3 => ?_
  refine kk p e s m args below meth c R Q H' _ cells slots ls C hf hlo hc hs hL (hH.put hab hbb e2 e3 ?_) (hS.put e2 e3 hab) hk
  rw [hsl] at e1
  exact ⟨_, hcl, t_OB.to (V := updV (vp_V fs) k v) ⟨_, e1, q2, q3, t_set q4 hap hkN v⟩ (fun j _ => vp_updV_set hl v j)⟩
/-! arrays -/
theorem ev_alen {t a : Nat} {x : vp_A} {ty : FieldType} (hd : decode M.2.1 pc = .ok (.arraylength, 1)) (ha : h a = some (.inl (t, x))) (ht : ev_tys[t]? = some ty) (kk : ev_Run G l d bc bs M (pc + 1) L (.int (nI x.1) :: st) h n P) : ev_Run G l d bc bs M pc L (.ref a :: st) h n P := by
  intro p e s m args below meth c R Q H locs cells slots ls C hf hlo hc hs hL hH hS hk
  obtain ⟨q, hq, hcell⟩ := (hH.2.2.2 a _ ha).2
  obtain ⟨cA, hq', -, -⟩ := ev_tyOf C.2.2.2.2.2.2.2.1 ht
  cases hq.symm.trans hq'
  exact va_alen (D := xD G) (cl := vwCl) (tys := xTy G) (ws := [(a, .inl (cA, x))]) C.1 C.2.1 C.2.2.2.2.2.2.2.1.1 (ev_one hcell) 0 t rfl hq rfl hd (kk p e s m args below meth c R Q H locs cells slots ls C hf hlo hc hs hL hH hS hk)
theorem ev_iald {t a N j : Nat} {f : Nat → Int32} {i : Int32} (hd : decode M.2.1 pc = .ok (.iaload, 1)) (ha : h a = some (.inl (t, N, .inl f))) (ht : ev_tys[t]? = some .int) (hi : i = nI j) (hj : j < N) (hN : N < 2 ^ 31) (kk : ev_Run G l d bc bs M (pc + 1) L (.int (f j) :: st) h n P) : ev_Run G l d bc bs M pc L (.int i :: .ref a :: st) h n P := by
  subst hi
  intro p e s m args below meth c R Q H locs cells slots ls C hf hlo hc hs hL hH hS hk
  obtain ⟨q, hq, hcell⟩ := (hH.2.2.2 a _ ha).2
  obtain ⟨cA, hq', -, -⟩ := ev_tyOf C.2.2.2.2.2.2.2.1 ht
  cases hq.symm.trans hq'
  have hin : vp_in (nI j) N := vp_in_nI hj hN
  refine va_iald (D := xD G) (cl := vwCl) (tys := xTy G) (ws := [(a, .inl (cA, N, .inl f))]) C.1 C.2.1 C.2.2.2.2.2.2.2.1.1 (ev_one hcell) 0 t rfl hq hin hd ?_
  rw [nI_clamp (by omega)]
  exact kk p e s m args below meth c R Q H locs cells slots ls C hf hlo hc hs hL hH hS hk
theorem ev_lald {t a N j : Nat} {f : Nat → Int64} {i : Int32} (hd : decode M.2.1 pc = .ok (.laload, 1)) (ha : h a = some (.inl (t, N, .inr (.inl f)))) (ht : ev_tys[t]? = some .long) (hi : i = nI j) (hj : j < N) (hN : N < 2 ^ 31) (kk : ev_Run G l d bc bs M (pc + 1) L (.long (f j) :: st) h n P) : ev_Run G l d bc bs M pc L (.int i :: .ref a :: st) h n P := by
  subst hi
  intro p e s m args below meth c R Q H locs cells slots ls C hf hlo hc hs hL hH hS hk
  obtain ⟨q, hq, hcell⟩ := (hH.2.2.2 a _ ha).2
  obtain ⟨cA, hq', -, -⟩ := ev_tyOf C.2.2.2.2.2.2.2.1 ht
  cases hq.symm.trans hq'
  have hin : vp_in (nI j) N := vp_in_nI hj hN
  refine va_lald (D := xD G) (cl := vwCl) (tys := xTy G) (ws := [(a, .inl (cA, N, .inr (.inl f)))]) C.1 C.2.1 C.2.2.2.2.2.2.2.1.1 (ev_one hcell) 0 t rfl hq hin hd ?_
  rw [nI_clamp (by omega)]
  exact kk p e s m args below meth c R Q H locs cells slots ls C hf hlo hc hs hL hH hS hk
theorem ev_aald {t a N j b : Nat} {E : String} {f : Nat → Option Nat} {i : Int32} (hd : decode M.2.1 pc = .ok (.aaload, 1)) (ha : h a = some (.inl (t, N, .inr (.inr (.inr (.inr f)))))) (ht : ev_tys[t]? = some (.object E)) (hi : i = nI j) (hj : j < N) (hN : N < 2 ^ 31) (hv : f j = some b) (kk : ev_Run G l d bc bs M (pc + 1) L (.ref b :: st) h n P) : ev_Run G l d bc bs M pc L (.int i :: .ref a :: st) h n P := by
  subst hi
  intro p e s m args below meth c R Q H locs cells slots ls C hf hlo hc hs hL hH hS hk
  obtain ⟨q, hq, hcell⟩ := (hH.2.2.2 a _ ha).2
  obtain ⟨cA, hq', -, -⟩ := ev_tyOf C.2.2.2.2.2.2.2.1 ht
  cases hq.symm.trans hq'
  have hin : vp_in (nI j) N := vp_in_nI hj hN
  refine va_aldq (D := xD G) (cl := vwCl) (tys := xTy G) (C := E) (ws := [(a, .inl (cA, N, .inr (.inr (.inr (.inr f)))))]) C.1 C.2.1 C.2.2.2.2.2.2.2.1.1 (ev_one hcell) 0 t rfl hq hin hd ?_
  rw [nI_clamp (by omega), hv]
  exact kk p e s m args below meth c R Q H locs cells slots ls C hf hlo hc hs hL hH hS hk
theorem ev_iast {t a N j : Nat} {f : Nat → Int32} {i x : Int32} (hd : decode M.2.1 pc = .ok (.iastore, 1)) (ha : h a = some (.inl (t, N, .inl f))) (ht : ev_tys[t]? = some .int) (hi : i = nI j) (hj : j < N) (hN : N < 2 ^ 31) (kk : ev_Run G l d bc bs M (pc + 1) L st (hp_set h a (.inl (t, N, .inl (upd f j x)))) n P) : ev_Run G l d bc bs M pc L (.int x :: .int i :: .ref a :: st) h n P := by
  subst hi
  intro p e s m args below meth c R Q H locs cells slots ls C hf hlo hc hs hL hH hS hk
  obtain ⟨hab, q, hq, hcell⟩ := hH.2.2.2 a _ ha
  obtain ⟨cA, hq', hAr, -⟩ := ev_tyOf C.2.2.2.2.2.2.2.1 ht
  cases hq.symm.trans hq'
  have hbb := C.2.2.2.2.2.2.2.1.2.2.2.2.2.2.2.1
  have hin : vp_in (nI j) N := vp_in_nI hj hN
  refine W.iast C.1 C.2.1 hcell (hAr N (fun j => .int (f j))) (fun q => by cases q) (by show ¬ (nI j < 0 ∨ (arrV _ _ _).slots.size ≤ _); rw [arrV_size]; exact hin) rfl rfl hd fun H1 e1 z oq => ?_
  refine kk p e s m args below meth c R Q H1 _ cells slots ls C hf hlo hc hs hL (hH.put hab hbb z oq ⟨_, hq, ?_⟩) (hS.put z oq hab) hk
  rw [e1, vp_cell_i, vp_cell_i, arrV_store, nI_clamp (by omega)]
  congr 2
  funext y
  by_cases hy : y = j
  · subst hy
    simp [updV, upd]
  · simp [updV, upd, hy]
theorem ev_last {t a N j : Nat} {f : Nat → Int64} {i : Int32} {x : Int64} (hd : decode M.2.1 pc = .ok (.lastore, 1)) (ha : h a = some (.inl (t, N, .inr (.inl f)))) (ht : ev_tys[t]? = some .long) (hi : i = nI j) (hj : j < N) (hN : N < 2 ^ 31) (kk : ev_Run G l d bc bs M (pc + 1) L st (hp_set h a (.inl (t, N, .inr (.inl (vp_updL f j x))))) n P) : ev_Run G l d bc bs M pc L (.long x :: .int i :: .ref a :: st) h n P := by
  subst hi
  intro p e s m args below meth c R Q H locs cells slots ls C hf hlo hc hs hL hH hS hk
  obtain ⟨hab, q, hq, hcell⟩ := hH.2.2.2 a _ ha
  obtain ⟨cA, hq', hAr, -⟩ := ev_tyOf C.2.2.2.2.2.2.2.1 ht
  cases hq.symm.trans hq'
  have hbb := C.2.2.2.2.2.2.2.1.2.2.2.2.2.2.2.1
  have hin : vp_in (nI j) N := vp_in_nI hj hN
  refine W.last C.1 C.2.1 hcell (hAr N (fun j => .long (f j))) (fun q => by cases q) (by show ¬ (nI j < 0 ∨ (arrV _ _ _).slots.size ≤ _); rw [arrV_size]; exact hin) rfl rfl hd fun H1 e1 z oq => ?_
  refine kk p e s m args below meth c R Q H1 _ cells slots ls C hf hlo hc hs hL (hH.put hab hbb z oq ⟨_, hq, ?_⟩) (hS.put z oq hab) hk
  rw [e1, vp_cell_l, vp_cell_l, arrV_store, nI_clamp (by omega)]
  congr 2
  funext y
  by_cases hy : y = j
  · subst hy
    simp [updV, vp_updL]
  · simp [updV, vp_updL, hy]
theorem ev_aast {t a N j v ci : Nat} {fs : List Value} {E : String} {T : u_T} {NN : Nat} {f : Nat → Option Nat} {i : Int32} (hd : decode M.2.1 pc = .ok (.aastore, 1)) (ha : h a = some (.inl (t, N, .inr (.inr (.inr (.inr f)))))) (ht : ev_tys[t]? = some (.object E)) (hv : h v = some (.inr (ci, fs))) (hci : vwCl[ci]? = some (E, T, NN)) (hi : i = nI j) (hj : j < N) (hN : N < 2 ^ 31) (kk : ev_Run G l d bc bs M (pc + 1) L st (hp_set h a (.inl (t, N, .inr (.inr (.inr (.inr (va_up f j (some v)))))))) n P) : ev_Run G l d bc bs M pc L (.ref v :: .int i :: .ref a :: st) h n P := by
  subst hi
  intro p e s m args below meth c R Q H locs cells slots ls C hf hlo hc hs hL hH hS hk
  obtain ⟨hab, q, hq, hcell⟩ := hH.2.2.2 a _ ha
  obtain ⟨cA, hq', hAr, hRA⟩ := ev_tyOf C.2.2.2.2.2.2.2.1 ht
  cases hq.symm.trans hq'
  have hbb := C.2.2.2.2.2.2.2.1.2.2.2.2.2.2.2.1
  have hK := C.2.2.2.2.2.2.2.1.1
  have hlt : (nI j).toNatClampNeg < N := by rw [nI_clamp (by omega)]; exact hj
  have h0 : ¬ nI j < 0 := nI_pos (by omega)
  obtain ⟨r', hr', cellV, g1, g2, g3, -⟩ := (hH.2.2.2 v _ hv).2
  have hcls := (hK.1 ci _ hci).2
  obtain ⟨kA, comp, k1, k2, k3, -⟩ := hRA
  have hcomp : comp = (xD G).1 ci := Option.some.inj (k3.symm.trans hcls.1)
  subst hcomp
  obtain ⟨kC, hkC, -⟩ := hcls.2
  refine W.aast C.1 C.2.1 hcell (fun q h => by cases h) (fun h => by cases h) k1 k2 rfl hkC ⟨h0, by show _ < (arrV _ _ _).slots.size; rw [arrV_size]; exact hlt⟩ g1 (fun q h => by rw [g3] at h; cases h) (by rw [g2]; exact hkC) (by rw [g2]; exact va_assign hcls) rfl rfl hd fun H1 e1 z oq => ?_
  refine kk p e s m args below meth c R Q H1 _ cells slots ls C hf hlo hc hs hL (hH.put hab hbb z oq ⟨_, hq, ?_⟩) (hS.put z oq hab) hk
  rw [e1, vp_cell_q, vp_cell_q, arrV_store, nI_clamp (by omega)]
  congr 2
  funext y
  by_cases hy : y = j
  · subst hy
    simp [updV, va_up, va_rf]
  · simp [updV, va_up, hy]
/-! the law's own script -/
theorem ev_slen (hd : decode M.2.1 pc = .ok (.arraylength, 1)) (kk : ev_Run G l d bc bs M (pc + 1) L (.int (nI (xN G)) :: st) h n P) : ev_Run G l d bc bs M pc L (.ref (xb G) :: st) h n P := by
  intro p e s m args below meth c R Q H locs cells slots ls C hf hlo hc hs hL hH hS hk
  obtain ⟨-, -, -, k1, k2, k3, k4, -, -⟩ := C.2.2.2.2.2.2.2.1
  exact W.alen (n := nI (xN G)) C.1 C.2.1 hH.2.2.1 k1 (by rw [k3]; rfl) rfl rfl hd (kk p e s m args below meth c R Q H locs cells slots ls C hf hlo hc hs hL hH hS hk)
theorem ev_sld {i : Int32} {j : Nat} (hd : decode M.2.1 pc = .ok (.iaload, 1)) (hi : i = nI j) (hj : j < xN G) (hN : xN G < 2 ^ 31) (kk : ev_Run G l d bc bs M (pc + 1) L (.int (xX G j) :: st) h n P) : ev_Run G l d bc bs M pc L (.int i :: .ref (xb G) :: st) h n P := by
  subst hi
  intro p e s m args below meth c R Q H locs cells slots ls C hf hlo hc hs hL hH hS hk
  obtain ⟨-, -, -, k1, k2, k3, k4, -, -⟩ := C.2.2.2.2.2.2.2.1
  exact W.iald (v := .int (xX G j)) C.1 C.2.1 hH.2.2.1 k1 k2 (by rw [k3]; exact vp_in_nI hj hN) (by rw [nI_clamp (by omega)]; exact k4 j hj) rfl rfl hd (kk p e s m args below meth c R Q H locs cells slots ls C hf hlo hc hs hL hH hS hk)
/-! making -/
theorem ev_new {i ci N : Nat} {fs : List Value} (hd : decode M.2.1 pc = .ok (.new i, 3)) (hq : ev_cls M.1.cls i ci N fs) (kk : ev_Run G l d bc bs M (pc + 3) L (.ref n :: st) (hp_set h n (.inr (ci, fs))) (n + 1) P) : ev_Run G l d (bc + 1) (bs + N) M pc L st h n P := by
  intro p e s m args below meth c R Q H locs cells slots ls C hf hlo hc hs hL hH hS hk
  obtain ⟨CC, T, ty, hcl, hty, hfs, w1, w2, w3, hin⟩ := hq
  have hts := C.2.2.2.2.2.2.1
  have hK := C.2.2.2.2.2.2.2.1.1
  have hbb := C.2.2.2.2.2.2.2.1.2.2.2.2.2.2.2.1
  have hKn := hK.1 ci _ hcl
  refine W.newcK C.1 C.2.1 C.2.2.2.2.2.1 (hts _ w1) (hts _ w2) (hts _ w3) rfl hd (by omega) (by omega) hKn.2.1 hH.1 fun H1 kC hkC e1 z1 o1 => ?_
  refine kk p e s m args below meth c R Q H1 locs (cells + 1) (slots + N) ls C hf hlo (by omega) (by omega) hL (hH.push hbb z1 o1 ?_) ⟨by have := hS.1; have := hH.1; omega, fun x h1 h2 => (o1 x (by have := hS.1; have := hH.1; omega)).trans (hS.2.1 x h1 h2), hS.2.2⟩ (fun v h' n' H' locs' cells' slots' pc' ls' q q1 q2 q3 q4 q5 => hk v h' n' H' locs' cells' slots' pc' ls' q q1 q2 (by omega) (by omega) q5)
  exact ⟨_, hcl, (u_born ty hts hin hKn hkC e1 hty).to hfs⟩
theorem ev_newa {atype : ArrayType} {ty : FieldType} {t N : Nat} {x : Int32} {a0 : vp_A} (hd : decode M.2.1 pc = .ok (.newarray atype, 2)) (hty : newarray.typeOf atype = ty) (hno : ∀ C : String, ty ≠ .object C) (ht : ev_tys[t]? = some ty) (hw : Cond.arrayClass ty ∈ ev_T) (ha : ∀ cA : ClassId, vp_cell cA a0 = arrV cA N (fun _ => defaultValue ty)) (hx : x = nI N) (hN : N * componentBytes ty ≤ 536870912) (hN2 : N < 2 ^ 31) (kk : ev_Run G l d bc bs M (pc + 2) L (.ref n :: st) (hp_set h n (.inl (t, a0))) (n + 1) P) : ev_Run G l d (bc + 1) (bs + N) M pc L (.int x :: st) h n P := by
  subst hty
  subst hx
  intro p e s m args below meth c R Q H locs cells slots ls C hf hlo hc hs hL hH hS hk
  have hbb := C.2.2.2.2.2.2.2.1.2.2.2.2.2.2.2.1
  obtain ⟨cA, hq, -, hRA⟩ := ev_tyOf C.2.2.2.2.2.2.2.1 ht
  refine va_newaK C.1 C.2.1 (C.2.2.2.2.2.2.1 _ hw) rfl hd rfl (nI_pos hN2) (nI_clamp hN2) hN (by omega) (by omega) hH.1 fun H1 cA' e1 z1 o1 hAr hNm => ?_
  have hcA : cA' = cA := by
    have hRA' : s.vm.findClass ("[" ++ (newarray.typeOf atype).toString) = some cA := by
      cases atype <;> exact hRA
    exact Option.some.inj (hNm.symm.trans hRA')
  subst hcA
  refine kk p e s m args below meth c R Q H1 locs (cells + 1) (slots + N) ls C hf hlo (by omega) (by omega) hL (hH.push hbb z1 o1 ⟨_, hq, ?_⟩) ⟨by have := hS.1; have := hH.1; omega, fun x h1 h2 => (o1 x (by have := hS.1; have := hH.1; omega)).trans (hS.2.1 x h1 h2), hS.2.2⟩ (fun v h' n' H' locs' cells' slots' pc' ls' q q1 q2 q3 q4 q5 => hk v h' n' H' locs' cells' slots' pc' ls' q q1 q2 (by omega) (by omega) q5)
  rw [ha]
  exact e1
theorem ev_newq {i t N : Nat} {E : String} {x : Int32} (hd : decode M.2.1 pc = .ok (.anewarray i, 3)) (ht : ev_tys[t]? = some (.object E)) (hw : Cond.classLink M.1.cls i E ∈ ev_T) (hao : E ∈ ev_ao) (hx : x = nI N) (hN : N * 4 ≤ 536870912) (kk : ev_Run G l d bc bs M (pc + 3) L (.ref n :: st) (hp_set h n (.inl (t, N, .inr (.inr (.inr (.inr (fun _ => none))))))) (n + 1) P) : ev_Run G l d (bc + 1) (bs + N) M pc L (.int x :: st) h n P := by
  subst hx
  intro p e s m args below meth c R Q H locs cells slots ls C hf hlo hc hs hL hH hS hk
  have hbb := C.2.2.2.2.2.2.2.1.2.2.2.2.2.2.2.1
  obtain ⟨cA, hq, -, kA, comp, r1, r2, r3, r4⟩ := ev_tyOf C.2.2.2.2.2.2.2.1 ht
  have hcl : (nI N).toNatClampNeg = N := nI_clamp (by omega)
  refine W.anew C.1 C.2.1 C.2.2.2.2.2.1 (C.2.2.2.2.2.2.1 _ hw) (va_AO.use (C.2.2.2.2.2.2.2.1.2.2.1 E hao)) rfl hd rfl (nI_pos (by omega)) (by rw [hcl]; exact hN) (by omega) (by rw [hcl]; omega) fun cA' kA' comp' f1 f2 f3 f4 => ?_
  have hcA : cA' = cA := Option.some.inj (f1.symm.trans r4)
  subst hcA
  rw [hcl]
  generalize hH1 : H.push ({ cls := cA', slots := Array.replicate N .null, vm := .none } : Cell) = H1
  have z1 : H1.size = n + 1 := by rw [← hH1, Array.size_push, hH.1]
  have e1 : H1[n]? = some (arrV cA' N (fun _ => .null)) := by rw [← hH1, ← hH.1, Array.getElem?_push_size, ← arrV_new]
  have o1 : ∀ q : Nat, q < n → H1[q]? = H[q]? := fun q hq => by rw [← hH1, Array.getElem?_push, if_neg (by rw [hH.1]; exact Nat.ne_of_lt hq)]
  rw [hH.1]
  refine kk p e s m args below meth c R Q H1 locs (cells + 1) (slots + N) ls C hf hlo (by omega) (by omega) hL (hH.push hbb z1 o1 ⟨_, hq, ?_⟩) ⟨by have := hS.1; have := hH.1; omega, fun x h1 h2 => (o1 x (by have := hS.1; have := hH.1; omega)).trans (hS.2.1 x h1 h2), hS.2.2⟩ (fun v h' n' H' locs' cells' slots' pc' ls' q q1 q2 q3 q4 q5 => hk v h' n' H' locs' cells' slots' pc' ls' q q1 q2 (by omega) (by omega) q5)
  rw [vp_cell_q]
  exact e1
end EVH
/-! a method's contract for the kit; calls -/
def ev_Pc (G : xG) (As : List Value) (h : xH) (n : Nat) : Array Value → State → Prop := fun v U => v = As.toArray ∧ hp_R G h n U.heap ∧ ev_K G U
def ev_Qc (G : xG) (P : Option Value → xH → Nat → Prop) : Array Value → State → Outcome → State → Prop := fun _ st o t => (∃ (v : Option Value) (h' : xH) (n' : Nat), o = .returned v ∧ P v h' n' ∧ hp_R G h' n' t.heap) ∧ va_F (ev_A G) st t
theorem ev_blind {G : xG} {As : List Value} {h : xH} {n : Nat} : FrameBlind (ev_Pc G As h n) := fun _ _ _ _ q => ⟨q.1, q.2.1, ev_K.same rfl q.2.2⟩
def ev_psh (v : Option Value) (st : List Value) : List Value := match v with
  | none => st
  | some x => x :: st
theorem ev_psh_eq (v : Option Value) (st : List Value) : v.toList ++ st = ev_psh v st := by
  cases v <;> rfl
theorem ev_met {G : xG} {l : Launch} {d bc bs : Nat} {M : xM} {As : List Value} {mm : Nat} {h : xH} {n : Nat} {P : Option Value → xH → Nat → Prop} (hy : plainName M.1.cls = true) (hl : (lg_sl As).length ≤ M.2.2.1) (k : ev_Run G l d bc bs M 0 (ev_ent As ++ List.replicate mm none) [] h n P) :
    Met l M.1 (ev_ws M) ({ frames := d, cells := bc, slots := bs, locals := d * 40 }) (ev_Pc G As h n) (ev_Qc G P) bc bs (ev_A G) := by
  refine Met.ofW (cc := M.2.1) (maxL := M.2.2.1) (ret := M.2.2.2) hy rfl ?_
  intro p e s m args below meth c s₁ B hml hv
  obtain ⟨rfl, hR, hK⟩ := hv
  have hpre := atoms_spec (ws := ev_ws M) B.pre
  have hC : ev_Ctx G M p s m As.toArray meth c := ⟨B.exec, B.bytes, B.returns, B.notSynchronized, hml, findClass_of_methodNamed B.named, fun w hw => hpre w (List.mem_cons_of_mem _ hw), hK, (name_of_methodNamed B.named B.method).1, by rw [hR.1]; exact hR.2.1⟩
  have hlocks := B.notSynchronized
  rw [lg_entry_eq]
  refine k p e s m As.toArray below meth c _ _ s.heap [] 0 0 _ hC (Nat.le_refl _) (Nat.le_refl _) (by rw [Nat.zero_add]; exact Nat.le_refl _) (by rw [Nat.zero_add]; exact Nat.le_refl _) (ev_LR.ent hl mm) hR va_S.rf ?_
  intro v h' n' H' locs' cells' slots' pc' ls' hP hH' hS' hc' hs' hret
  refine W.widen (k := bc) (n := bs) (by omega) (by omega) ?_
  have hq : ∀ t : State, t.heap = H' → s.WarmedH t.vm → ev_Qc G P As.toArray s (.returned v) t := fun t ht hW => ⟨⟨v, h', n', rfl, hP, by rw [ht]; exact hH'⟩, hS'.F ht⟩
  cases v with
  | none => exact W.vret hC.1 hC.2.1 (hC.2.2.1.trans hret.2) hq hS'.2.2 hret.1
  | some x =>
    cases x with
    | int x =>
      obtain ⟨hd, ty, ht, hn⟩ := hret
      exact W.zret hC.1 hC.2.1 (hC.2.2.1.trans ht) hn hq hS'.2.2 hd
    | long x => exact W.lret hC.1 hC.2.1 (hC.2.2.1.trans hret.2) hq hS'.2.2 hret.1
    | float x => exact hret.elim
    | double x => exact hret.elim
    | null =>
      obtain ⟨hd, nm, ht⟩ := hret
      exact W.aret hC.1 hC.2.1 (hC.2.2.1.trans ht) (Or.inl ⟨nm, rfl⟩) (Or.inl rfl) hq hS'.2.2 hd
    | ref x =>
      obtain ⟨hd, nm, ht⟩ := hret
      exact W.aret hC.1 hC.2.1 (hC.2.2.1.trans ht) (Or.inl ⟨nm, rfl⟩) (Or.inr ⟨x, rfl⟩) hq hS'.2.2 hd
    | retAddr x => exact hret.elim
/-- what the tables say of a method that is called -/
def ev_ok (M : xM) (na : Nat) : Prop := Cond.code M.1 M.2.1 M.2.2.1 M.2.2.2 ∈ ev_T ∧ Cond.initialized M.1.cls ∈ ev_T ∧ (M.1.cls ≠ "java/lang/invoke/MethodHandle" ∧ M.1.cls ≠ "java/lang/invoke/VarHandle" ∧ (parseMethodDescriptor M.1.desc).map (fun d => d.parameters.length) = some na) ∧ plainName M.1.cls = true ∧ M.2.2.1 ≤ 21
theorem ev_goodIn {M : xM} {na : Nat} (hok : ev_ok M na) : GoodIn ev_T (ev_ws M) := fun w hw => by
  rcases List.mem_cons.mp hw with rfl | hw
  · exact ⟨hok.1, Or.inl rfl⟩
  · exact ⟨hw, ev_T_good w hw⟩
/-- behind a call -/
theorem ev_back {G : xG} {l : Launch} {d bc bs bc1 bs1 bc2 bs2 : Nat} {M : xM} {pc : Nat} {L : List (Option Value)} {st rest : List Value} {h : xH} {n : Nat} {P : Option Value → xH → Nat → Prop} {p : Program} {e : Env} {s : State} {m : MethodId} {args : Array Value} {below : List Frame} {meth : Method} {c : Code} {R : Room} {Q : State → Prop} {H : Heap} {locs : List Loc} {cells slots : Nat} {ls : Array Slot} {a : Array Value}
    (C : ev_Ctx G M p s m args meth c) (hf : d ≤ R.frames) (hlo : d * 40 ≤ R.locals) (hc : cells + bc ≤ R.cells) (hs : slots + bs ≤ R.slots) (hL : ev_LR ls M.2.2.1 L) (hH : hp_R G h n H) (hS : va_S (ev_A G) s.heap H locs)
    (hk : ∀ (v : Option Value) (h' : xH) (n' : Nat) (H' : Heap) (locs' : List Loc) (cells' slots' pc' : Nat) (ls' : Array Slot), P v h' n' → hp_R G h' n' H' → va_S (ev_A G) s.heap H' locs' → cells' ≤ cells + bc → slots' ≤ slots + bs → ev_ret M pc' v → W p l e R s m args below meth c H' locs' cells' slots' Q (F0 m pc' ls' v.toList))
    (hb1 : bc1 + bc2 = bc) (hb2 : bs1 + bs2 = bs)
    (hr : va_Run p l e R s m args below meth c H locs cells slots bc1 bs1 (F0 m pc ls st) rest (ev_Qc G (fun v h' n' => ev_Run G l d bc2 bs2 M (pc + 3) L (ev_psh v rest) h' n' P) a) (ev_A G)) :
    W p l e R s m args below meth c H locs cells slots Q (F0 m pc ls st) := by
  intro T hT X
  obtain ⟨v, st₀, t, T', LL, h0, X', hLL, e1, e2, ⟨⟨v', h', n', hv, hp, hR'⟩, hF⟩, stp⟩ := hr T hT X
  cases hv
  have hz : H.size ≤ T'.heap.size := by rw [e1, ← h0]; exact hF.1
  have hkp : ∀ q : Nat, q < H.size → ¬ ev_A G q → T'.heap[q]? = H[q]? := fun q h1 h2 => by rw [e1, ← h0]; exact hF.2 q (by rw [h0]; exact h1) h2
  have hS' : va_S (ev_A G) s.heap T'.heap (locs ++ LL) := ⟨Nat.le_trans hS.1 hz, fun q h1 h2 => (hkp q (Nat.lt_of_lt_of_le h1 hS.1) h2).trans (hS.2.1 q h1 h2), fun q hq => by
    rcases List.mem_append.mp hq with hq | hq
    · exact hS.2.2 q hq
    · exact hLL q hq⟩
  rw [ev_psh_eq] at stp
  obtain ⟨t2, a1, b1⟩ := hp p e s m args below meth c R Q T'.heap (locs ++ LL) (cells + bc1) (slots + bs1) ls C hf hlo (by omega) (by omega) hL (by rw [e1]; exact hR') hS' (fun v h' n' H' locs' cells' slots' pc' ls' q q1 q2 q3 q4 q5 => hk v h' n' H' locs' cells' slots' pc' ls' q q1 q2 (by omega) (by omega) q5) T' rfl X'
  exact ⟨t2, stp t2 a1, b1⟩
section EVC
variable {G : xG} {l : Launch} {d bc bs bc1 bs1 bc2 bs2 : Nat} {M M' : xM} {pc : Nat} {L : List (Option Value)} {st rest : List Value} {h : xH} {n : Nat} {P : Option Value → xH → Nat → Prop} {i na mm b ci : Nat} {As : List Value} {fs : List Value}
theorem ev_callV (hd : decode M.2.1 pc = .ok (.invokevirtual i, 3)) (hok : ev_ok M' na) (hin : Cond.instanceMethod M'.1 ∈ ev_T) (hse : Cond.selects M'.1.cls M'.1 M'.1 ∈ ev_T) (hl : Cond.methodLink M.1.cls i M'.1 ∈ ev_T) (hb : h b = some (.inr (ci, fs))) (hci : (vwCl[ci]?).map (fun q => q.1) = some M'.1.cls) (hst : st = As.reverse ++ .ref b :: rest) (hn : As.length = na) (hW : (rest.map fun v => v.category).sum ≤ 8) (hsl : (lg_sl (.ref b :: As)).length ≤ M'.2.2.1) (hb1 : bc1 + bc2 = bc) (hb2 : bs1 + bs2 = bs)
    (k : ev_Run G l d bc1 bs1 M' 0 (ev_ent (.ref b :: As) ++ List.replicate mm none) [] h n (fun v h' n' => ev_Run G l (d + 1) bc2 bs2 M (pc + 3) L (ev_psh v rest) h' n' P)) : ev_Run G l (d + 1) bc bs M pc L st h n P := by
  intro p e s m args below meth c R Q H locs cells slots ls C hf hlo hc hs hL hH hS hk
  subst hst
  have hts := C.2.2.2.2.2.2.1
  have hM := ev_met (bc := bc1) (bs := bs1) hok.2.2.2.1 hsl k
  refine ev_back C hf hlo hc hs hL hH hS hk hb1 hb2 (va_runV (C := M'.1.cls) (As := As) (b := b) ⟨C.1, C.2.1, C.2.2.2.2.1, C.2.2.2.2.2.1, hts⟩ hM ⟨callB_of na hts (ev_goodIn hok) rfl rfl rfl (hts _ hok.2.1) (hts _ hl) hok.2.2.1 ⟨hf, by have := hok.2.2.2.2; show 8 + (M'.2.2.1 + 11) + d * 40 ≤ _; omega⟩, hts _ hin, hts _ hse⟩ ⟨ev_blind, ?_, fun U hU hW' => ⟨rfl, by rw [hU]; exact hH, C.2.2.2.2.2.2.2.1.warm hW'⟩⟩ rfl hn hL.1 rfl (lv_room hW) hd ⟨by omega, by omega⟩)
  cases hq : vwCl[ci]? with
  | none => rw [hq] at hci; cases hci
  | some q =>
    rw [hq] at hci
    have hq1 : q.1 = M'.1.cls := Option.some.inj hci
    have := va_recv (ws := [(b, .inr (ci, fs))]) (q0 := 0) C.2.2.2.2.2.2.2.1.1 (ev_one (hH.2.2.2 b _ hb).2) hq rfl
    rw [hq1] at this
    exact this
theorem ev_callS (hd : decode M.2.1 pc = .ok (.invokestatic i, 3)) (hok : ev_ok M' na) (hst' : Cond.static M'.1 ∈ ev_T) (hl : Cond.methodLink M.1.cls i M'.1 ∈ ev_T) (hst : st = As.reverse ++ rest) (hn : As.length = na) (hW : (rest.map fun v => v.category).sum ≤ 8) (hsl : (lg_sl As).length ≤ M'.2.2.1) (hb1 : bc1 + bc2 = bc) (hb2 : bs1 + bs2 = bs)
    (k : ev_Run G l d bc1 bs1 M' 0 (ev_ent As ++ List.replicate mm none) [] h n (fun v h' n' => ev_Run G l (d + 1) bc2 bs2 M (pc + 3) L (ev_psh v rest) h' n' P)) : ev_Run G l (d + 1) bc bs M pc L st h n P := by
  intro p e s m args below meth c R Q H locs cells slots ls C hf hlo hc hs hL hH hS hk
  subst hst
  have hts := C.2.2.2.2.2.2.1
  have hM := ev_met (bc := bc1) (bs := bs1) hok.2.2.2.1 hsl k
  exact ev_back C hf hlo hc hs hL hH hS hk hb1 hb2 (va_runS (As := As) ⟨C.1, C.2.1, C.2.2.2.2.1, C.2.2.2.2.2.1, hts⟩ hM ⟨callB_of na hts (ev_goodIn hok) rfl rfl rfl (hts _ hok.2.1) (hts _ hl) hok.2.2.1 ⟨hf, by have := hok.2.2.2.2; show 8 + (M'.2.2.1 + 11) + d * 40 ≤ _; omega⟩, hts _ hst'⟩ ⟨ev_blind, fun U hU hW' => ⟨rfl, by rw [hU]; exact hH, C.2.2.2.2.2.2.2.1.warm hW'⟩⟩ rfl hn hL.1 rfl (lv_room hW) hd ⟨by omega, by omega⟩)
theorem ev_callI (hd : decode M.2.1 pc = .ok (.invokespecial i, 3)) (hok : ev_ok M' na) (hrt : M'.2.2.2 = none) (hnm : M'.1.name = "<init>") (hin : Cond.instanceMethod M'.1 ∈ ev_T) (hl : Cond.methodLink M.1.cls i M'.1 ∈ ev_T) (hst : st = As.reverse ++ .ref b :: rest) (hn : As.length = na) (hW : (rest.map fun v => v.category).sum ≤ 8) (hsl : (lg_sl (.ref b :: As)).length ≤ M'.2.2.1) (hb1 : bc1 + bc2 = bc) (hb2 : bs1 + bs2 = bs)
    (k : ev_Run G l d bc1 bs1 M' 0 (ev_ent (.ref b :: As) ++ List.replicate mm none) [] h n (fun v h' n' => ev_Run G l (d + 1) bc2 bs2 M (pc + 3) L (ev_psh v rest) h' n' P)) : ev_Run G l (d + 1) bc bs M pc L st h n P := by
  intro p e s m args below meth c R Q H locs cells slots ls C hf hlo hc hs hL hH hS hk
  subst hst
  obtain ⟨y, cc, ml, rt⟩ := M'
  cases hrt
  have hts := C.2.2.2.2.2.2.1
  have hM := ev_met (bc := bc1) (bs := bs1) hok.2.2.2.1 hsl k
  exact ev_back C hf hlo hc hs hL hH hS hk hb1 hb2 (va_runI (As := As) (b := b) ⟨C.1, C.2.1, C.2.2.2.2.1, C.2.2.2.2.2.1, hts⟩ hM ⟨callB_of na hts (ev_goodIn hok) rfl rfl rfl (hts _ hok.2.1) (hts _ hl) hok.2.2.1 ⟨hf, by have : ml ≤ 21 := hok.2.2.2.2; show 8 + (ml + 11) + d * 40 ≤ _; omega⟩, hnm, hts _ hin⟩ ⟨ev_blind, fun U hU hW' => ⟨rfl, by rw [hU]; exact hH, C.2.2.2.2.2.2.2.1.warm hW'⟩⟩ rfl hn hL.1 rfl (lv_room hW) hd ⟨by omega, by omega⟩)
theorem ev_callIN {host : String} (hd : decode M.2.1 pc = .ok (.invokespecial i, 3)) (hok : ev_ok M' na) (hrt : M'.2.2.2 = none) (hnm : M'.1.name = "<init>") (hin : Cond.instanceMethod M'.1 ∈ ev_T) (hl : (M.1.cls, i, M'.1, host) ∈ ev_nm) (hst : st = As.reverse ++ .ref b :: rest) (hn : As.length = na) (hW : (rest.map fun v => v.category).sum ≤ 8) (hsl : (lg_sl (.ref b :: As)).length ≤ M'.2.2.1) (hb1 : bc1 + bc2 = bc) (hb2 : bs1 + bs2 = bs)
    (k : ev_Run G l d bc1 bs1 M' 0 (ev_ent (.ref b :: As) ++ List.replicate mm none) [] h n (fun v h' n' => ev_Run G l (d + 1) bc2 bs2 M (pc + 3) L (ev_psh v rest) h' n' P)) : ev_Run G l (d + 1) bc bs M pc L st h n P := by
  intro p e s m args below meth c R Q H locs cells slots ls C hf hlo hc hs hL hH hS hk
  subst hst
  obtain ⟨y, cc, ml, rt⟩ := M'
  cases hrt
  have hts := C.2.2.2.2.2.2.1
  have hM := ev_met (bc := bc1) (bs := bs1) hok.2.2.2.1 hsl k
  exact ev_back C hf hlo hc hs hL hH hS hk hb1 hb2 (va_runIN (As := As) (b := b) ⟨C.1, C.2.1, C.2.2.2.2.1, C.2.2.2.2.2.1, hts⟩ hM ⟨va_cnB na hts (ev_goodIn hok) rfl rfl rfl (C.2.2.2.2.2.2.2.1.2.1 _ hl) (hts _ hok.2.1) hok.2.2.1 ⟨hf, by have : ml ≤ 21 := hok.2.2.2.2; show 8 + (ml + 11) + d * 40 ≤ _; omega⟩, hnm, hts _ hin⟩ ⟨ev_blind, fun U hU hW' => ⟨rfl, by rw [hU]; exact hH, C.2.2.2.2.2.2.2.1.warm hW'⟩⟩ rfl hn hL.1 rfl (lv_room hW) hd ⟨by omega, by omega⟩)
/-- Object.<init> -/
theorem ev_obj (hd : decode M.2.1 pc = .ok (.invokespecial i, 3)) (hl : Cond.methodLink M.1.cls i Lib.objectInit ∈ ev_T) (hin : Cond.instanceMethod Lib.objectInit ∈ ev_T) (hco : Cond.code Lib.objectInit ⟨#[0xb1]⟩ 1 none ∈ ev_T) (hW : (rest.map fun v => v.category).sum ≤ 8) (k : ev_Run G l (d + 1) bc bs M (pc + 3) L rest h n P) : ev_Run G l (d + 1) bc bs M pc L (.ref b :: rest) h n P := by
  intro p e s m args below meth c R Q H locs cells slots ls C hf hlo hc hs hL hH hS hk
  have hts := C.2.2.2.2.2.2.1
  exact W.objInit C.1 C.2.1 C.2.2.2.2.2.1 (hts _ hl) (hts _ hin) (hts _ hco) rfl (hL.1.trans C.2.2.2.2.1.symm) rfl hd (by omega) (by show 2 * 0 + _ + 12 ≤ _; omega) (k p e s m args below meth c R Q H locs cells slots ls C hf hlo hc hs hL hH hS hk)
end EVC
section EVX
variable {G : xG} {l : Launch} {d bc bs : Nat} {M : xM} {pc : Nat} {L : List (Option Value)} {st : List Value} {h : xH} {n : Nat} {P : Option Value → xH → Nat → Prop}
theorem ev_zald {t a N j : Nat} {f : Nat → Int32} {i : Int32} (hd : decode M.2.1 pc = .ok (.baload, 1)) (ha : h a = some (.inl (t, N, .inl f))) (ht : ev_tys[t]? = some .boolean) (hi : i = nI j) (hj : j < N) (hN : N < 2 ^ 31) (kk : ev_Run G l d bc bs M (pc + 1) L (.int (f j) :: st) h n P) : ev_Run G l d bc bs M pc L (.int i :: .ref a :: st) h n P := by
  subst hi
  intro p e s m args below meth c R Q H locs cells slots ls C hf hlo hc hs hL hH hS hk
  obtain ⟨q, hq, hcell⟩ := (hH.2.2.2 a _ ha).2
  obtain ⟨cA, hq', -, -⟩ := ev_tyOf C.2.2.2.2.2.2.2.1 ht
  cases hq.symm.trans hq'
  have hin : vp_in (nI j) N := vp_in_nI hj hN
  refine va_zald (D := xD G) (cl := vwCl) (tys := xTy G) (ws := [(a, .inl (cA, N, .inl f))]) C.1 C.2.1 C.2.2.2.2.2.2.2.1.1 (ev_one hcell) 0 t rfl hq hin hd ?_
  rw [nI_clamp (by omega)]
  exact kk p e s m args below meth c R Q H locs cells slots ls C hf hlo hc hs hL hH hS hk
theorem ev_zast {t a N j : Nat} {f : Nat → Int32} {i x : Int32} (hd : decode M.2.1 pc = .ok (.bastore, 1)) (ha : h a = some (.inl (t, N, .inl f))) (ht : ev_tys[t]? = some .boolean) (hi : i = nI j) (hj : j < N) (hN : N < 2 ^ 31) (hx : narrow .boolean (.int x) = .int x) (kk : ev_Run G l d bc bs M (pc + 1) L st (hp_set h a (.inl (t, N, .inl (upd f j x)))) n P) : ev_Run G l d bc bs M pc L (.int x :: .int i :: .ref a :: st) h n P := by
  subst hi
  intro p e s m args below meth c R Q H locs cells slots ls C hf hlo hc hs hL hH hS hk
  obtain ⟨hab, q, hq, hcell⟩ := hH.2.2.2 a _ ha
  obtain ⟨cA, hq', hAr, -⟩ := ev_tyOf C.2.2.2.2.2.2.2.1 ht
  cases hq.symm.trans hq'
  have hbb := C.2.2.2.2.2.2.2.1.2.2.2.2.2.2.2.1
  have hin : vp_in (nI j) N := vp_in_nI hj hN
  refine W.zast C.1 C.2.1 hcell (hAr N (fun j => .int (f j))) (fun q => by cases q) (by show ¬ (nI j < 0 ∨ (arrV _ _ _).slots.size ≤ _); rw [arrV_size]; exact hin) rfl rfl hd fun H1 e1 z oq => ?_
  refine kk p e s m args below meth c R Q H1 _ cells slots ls C hf hlo hc hs hL (hH.put hab hbb z oq ⟨_, hq, ?_⟩) (hS.put z oq hab) hk
  rw [e1, vp_cell_i, vp_cell_i, hx, arrV_store, nI_clamp (by omega)]
  congr 2
  funext y
  by_cases hy : y = j
  · subst hy
    simp [updV, upd]
  · simp [updV, upd, hy]
theorem ev_mmax {i : Nat} {x y : Int32} (hd : decode M.2.1 pc = .ok (.invokestatic i, 3)) (hl : Cond.methodLink M.1.cls i Lib.Math.max.name ∈ ev_T) (h1 : Cond.static Lib.Math.max.name ∈ ev_T) (h2 : Cond.initialized "java/lang/Math" ∈ ev_T) (h3 : Cond.code Lib.Math.max.name Lib.Math.max.code 2 (some .int) ∈ ev_T) (hW : (st.map fun v => v.category).sum ≤ 8) (k : ev_Run G l (d + 1) bc bs M (pc + 3) L (.int (if x < y then y else x) :: st) h n P) : ev_Run G l (d + 1) bc bs M pc L (.int y :: .int x :: st) h n P := by
  intro p e s m args below meth c R Q H locs cells slots ls C hf hlo hc hs hL hH hS hk
  have hts := C.2.2.2.2.2.2.1
  exact va_mmax C.1 C.2.1 (C.2.2.2.2.1.trans hL.1.symm) C.2.2.2.2.2.1 (hts _ hl) (hts _ h1) (hts _ h2) (hts _ h3) (by omega) (by omega) (by omega) (by omega) hd (k p e s m args below meth c R Q H locs cells slots ls C hf hlo hc hs hL hH hS hk)
theorem ev_mminl {i : Nat} {x y : Int64} (hd : decode M.2.1 pc = .ok (.invokestatic i, 3)) (hl : Cond.methodLink M.1.cls i Lib.MathLoose.min_long.x ∈ ev_T) (h1 : Cond.static Lib.MathLoose.min_long.x ∈ ev_T) (h2 : Cond.initialized "java/lang/Math" ∈ ev_T) (h3 : Cond.code Lib.MathLoose.min_long.x Lib.MathLoose.min_long.code 4 (some .long) ∈ ev_T) (hW : (st.map fun v => v.category).sum ≤ 8) (k : ev_Run G l (d + 1) bc bs M (pc + 3) L (.long (if x < y then x else y) :: st) h n P) : ev_Run G l (d + 1) bc bs M pc L (.long y :: .long x :: st) h n P := by
  intro p e s m args below meth c R Q H locs cells slots ls C hf hlo hc hs hL hH hS hk
  have hts := C.2.2.2.2.2.2.1
  exact va_mmin_long C.1 C.2.1 (C.2.2.2.2.1.trans hL.1.symm) C.2.2.2.2.2.1 (hts _ hl) (hts _ h1) (hts _ h2) (hts _ h3) (by omega) (by omega) (by omega) (by omega) hd (k p e s m args below meth c R Q H locs cells slots ls C hf hlo hc hs hL hH hS hk)
/-- every cell that there is lies below n -/
theorem ev_lt (k : (∀ (a : Nat) (e : xE), h a = some e → a < n) → ev_Run G l d bc bs M pc L st h n P) : ev_Run G l d bc bs M pc L st h n P :=
  fun p e s m args below meth c R Q H locs cells slots ls C hf hlo hc hs hL hH hS hk => k (fun _ _ ha => hH.lt ha) p e s m args below meth c R Q H locs cells slots ls C hf hlo hc hs hL hH hS hk
end EVX
end
section
theorem ev_at (i : Nat) {w : Cond} (h : lw_tbl[i]? = some w) (hg : goodWord w = true) : w ∈ ev_T := List.mem_filter.mpr ⟨List.mem_of_getElem? h, hg⟩
theorem ev_sub {ws : List Cond} (h : ws.all (fun w => decide (w ∈ lw_tbl) && goodWord w) = true) : ∀ w ∈ ws, w ∈ ev_T := fun w hw => by
  have h1 := List.all_eq_true.mp h w hw
  simp only [Bool.and_eq_true, decide_eq_true_eq] at h1
  exact List.mem_filter.mpr ⟨h1.1, h1.2⟩
theorem inBy : ∀ w ∈ u_ws "BatchLinks$Bytes" TBy 2, w ∈ ev_T := ev_sub (by decide +kernel)
theorem tBy_0 : ev_fty 0 0 (.array .int) true "BatchLinks$Bytes" := ⟨_, _, _, tyBy, rfl, okBy, nmBy, by decide +kernel, rfl, rfl⟩
theorem tBy_1 : ev_fty 0 1 (.int) false "BatchLinks$Bytes" := ⟨_, _, _, tyBy, rfl, okBy, nmBy, by decide +kernel, rfl, rfl⟩
theorem inLa : ∀ w ∈ u_ws "BatchLinks$Layers" TLa 3, w ∈ ev_T := ev_sub (by decide +kernel)
theorem tLa_0 : ev_fty 1 0 (.array .int) true "BatchLinks$Layers" := ⟨_, _, _, tyLa, rfl, okLa, nmLa, by decide +kernel, rfl, rfl⟩
theorem tLa_1 : ev_fty 1 1 (.array .long) true "BatchLinks$Layers" := ⟨_, _, _, tyLa, rfl, okLa, nmLa, by decide +kernel, rfl, rfl⟩
theorem tLa_2 : ev_fty 1 2 (.int) false "BatchLinks$Layers" := ⟨_, _, _, tyLa, rfl, okLa, nmLa, by decide +kernel, rfl, rfl⟩
theorem inLe : ∀ w ∈ u_ws "BatchLinks$Ledger" TLe 6, w ∈ ev_T := ev_sub (by decide +kernel)
theorem tLe_0 : ev_fty 2 0 (.array .int) true "BatchLinks$Ledger" := ⟨_, _, _, tyLe, rfl, okLe, nmLe, by decide +kernel, rfl, rfl⟩
theorem tLe_1 : ev_fty 2 1 (.int) false "BatchLinks$Ledger" := ⟨_, _, _, tyLe, rfl, okLe, nmLe, by decide +kernel, rfl, rfl⟩
theorem tLe_2 : ev_fty 2 2 (.array .int) true "BatchLinks$Ledger" := ⟨_, _, _, tyLe, rfl, okLe, nmLe, by decide +kernel, rfl, rfl⟩
theorem tLe_3 : ev_fty 2 3 (.array .int) true "BatchLinks$Ledger" := ⟨_, _, _, tyLe, rfl, okLe, nmLe, by decide +kernel, rfl, rfl⟩
theorem tLe_4 : ev_fty 2 4 (.array .long) true "BatchLinks$Ledger" := ⟨_, _, _, tyLe, rfl, okLe, nmLe, by decide +kernel, rfl, rfl⟩
theorem tLe_5 : ev_fty 2 5 (.int) false "BatchLinks$Ledger" := ⟨_, _, _, tyLe, rfl, okLe, nmLe, by decide +kernel, rfl, rfl⟩
theorem inNa : ∀ w ∈ u_ws "BatchLinks$NamesReader" TNa 3, w ∈ ev_T := ev_sub (by decide +kernel)
theorem tNa_0 : ev_fty 3 0 (.object "BatchLinks$Bytes") true "BatchLinks$NamesReader" := ⟨_, _, _, tyNa, rfl, okNa, nmNa, by decide +kernel, rfl, rfl⟩
theorem tNa_1 : ev_fty 3 1 (.int) false "BatchLinks$NamesReader" := ⟨_, _, _, tyNa, rfl, okNa, nmNa, by decide +kernel, rfl, rfl⟩
theorem tNa_2 : ev_fty 3 2 (.int) false "BatchLinks$NamesReader" := ⟨_, _, _, tyNa, rfl, okNa, nmNa, by decide +kernel, rfl, rfl⟩
theorem inRu : ∀ w ∈ u_ws "BatchLinks$Rules" TRu 5, w ∈ ev_T := ev_sub (by decide +kernel)
theorem tRu_0 : ev_fty 4 0 (.array .int) true "BatchLinks$Rules" := ⟨_, _, _, tyRu, rfl, okRu, nmRu, by decide +kernel, rfl, rfl⟩
theorem tRu_1 : ev_fty 4 1 (.array .int) true "BatchLinks$Rules" := ⟨_, _, _, tyRu, rfl, okRu, nmRu, by decide +kernel, rfl, rfl⟩
theorem tRu_2 : ev_fty 4 2 (.array .int) true "BatchLinks$Rules" := ⟨_, _, _, tyRu, rfl, okRu, nmRu, by decide +kernel, rfl, rfl⟩
theorem tRu_3 : ev_fty 4 3 (.array .int) true "BatchLinks$Rules" := ⟨_, _, _, tyRu, rfl, okRu, nmRu, by decide +kernel, rfl, rfl⟩
theorem tRu_4 : ev_fty 4 4 (.int) false "BatchLinks$Rules" := ⟨_, _, _, tyRu, rfl, okRu, nmRu, by decide +kernel, rfl, rfl⟩
theorem inTa : ∀ w ∈ u_ws "BatchLinks$Tally" TTa 1, w ∈ ev_T := ev_sub (by decide +kernel)
theorem tTa_0 : ev_fty 5 0 (.array .int) true "BatchLinks$Tally" := ⟨_, _, _, tyTa, rfl, okTa, nmTa, by decide +kernel, rfl, rfl⟩
theorem inTh : ∀ w ∈ u_ws "BatchLinks$Thing" TTh 8, w ∈ ev_T := ev_sub (by decide +kernel)
theorem tTh_0 : ev_fty 6 0 (.int) true "BatchLinks$Thing" := ⟨_, _, _, tyTh, rfl, okTh, nmTh, by decide +kernel, rfl, rfl⟩
theorem tTh_1 : ev_fty 6 1 (.int) true "BatchLinks$Thing" := ⟨_, _, _, tyTh, rfl, okTh, nmTh, by decide +kernel, rfl, rfl⟩
theorem tTh_2 : ev_fty 6 2 (.int) true "BatchLinks$Thing" := ⟨_, _, _, tyTh, rfl, okTh, nmTh, by decide +kernel, rfl, rfl⟩
theorem tTh_3 : ev_fty 6 3 (.object "BatchLinks$Layers") true "BatchLinks$Thing" := ⟨_, _, _, tyTh, rfl, okTh, nmTh, by decide +kernel, rfl, rfl⟩
theorem tTh_4 : ev_fty 6 4 (.long) false "BatchLinks$Thing" := ⟨_, _, _, tyTh, rfl, okTh, nmTh, by decide +kernel, rfl, rfl⟩
theorem tTh_5 : ev_fty 6 5 (.long) false "BatchLinks$Thing" := ⟨_, _, _, tyTh, rfl, okTh, nmTh, by decide +kernel, rfl, rfl⟩
theorem tTh_6 : ev_fty 6 6 (.boolean) false "BatchLinks$Thing" := ⟨_, _, _, tyTh, rfl, okTh, nmTh, by decide +kernel, rfl, rfl⟩
theorem tTh_7 : ev_fty 6 7 (.int) false "BatchLinks$Thing" := ⟨_, _, _, tyTh, rfl, okTh, nmTh, by decide +kernel, rfl, rfl⟩
theorem inBL : ∀ w ∈ u_ws "BatchLinks" TBL 10, w ∈ ev_T := ev_sub (by decide +kernel)
theorem tBL_0 : ev_fty 7 0 (.array (.object "BatchLinks$Thing")) true "BatchLinks" := ⟨_, _, _, tyBL, rfl, okBL, nmBL, by decide +kernel, rfl, rfl⟩
theorem tBL_1 : ev_fty 7 1 (.int) false "BatchLinks" := ⟨_, _, _, tyBL, rfl, okBL, nmBL, by decide +kernel, rfl, rfl⟩
theorem tBL_2 : ev_fty 7 2 (.object "BatchLinks$Tally") true "BatchLinks" := ⟨_, _, _, tyBL, rfl, okBL, nmBL, by decide +kernel, rfl, rfl⟩
theorem tBL_3 : ev_fty 7 3 (.object "BatchLinks$Tally") true "BatchLinks" := ⟨_, _, _, tyBL, rfl, okBL, nmBL, by decide +kernel, rfl, rfl⟩
theorem tBL_4 : ev_fty 7 4 (.object "BatchLinks$Bytes") true "BatchLinks" := ⟨_, _, _, tyBL, rfl, okBL, nmBL, by decide +kernel, rfl, rfl⟩
theorem tBL_5 : ev_fty 7 5 (.object "BatchLinks$NamesReader") true "BatchLinks" := ⟨_, _, _, tyBL, rfl, okBL, nmBL, by decide +kernel, rfl, rfl⟩
theorem tBL_6 : ev_fty 7 6 (.object "BatchLinks$Rules") false "BatchLinks" := ⟨_, _, _, tyBL, rfl, okBL, nmBL, by decide +kernel, rfl, rfl⟩
theorem tBL_7 : ev_fty 7 7 (.object "BatchLinks$Rules") false "BatchLinks" := ⟨_, _, _, tyBL, rfl, okBL, nmBL, by decide +kernel, rfl, rfl⟩
theorem tBL_8 : ev_fty 7 8 (.object "BatchLinks$Ledger") true "BatchLinks" := ⟨_, _, _, tyBL, rfl, okBL, nmBL, by decide +kernel, rfl, rfl⟩
theorem tBL_9 : ev_fty 7 9 (.object "BatchLinks$Bytes") true "BatchLinks" := ⟨_, _, _, tyBL, rfl, okBL, nmBL, by decide +kernel, rfl, rfl⟩
theorem inMo : ∀ w ∈ u_ws "BatchLinksModel" TMo 36, w ∈ ev_T := ev_sub (by decide +kernel)
theorem tMo_0 : ev_fty 8 0 (.int) false "BatchLinksModel" := ⟨_, _, _, tyMo, rfl, okMo, nmMo, by decide +kernel, rfl, rfl⟩
theorem tMo_1 : ev_fty 8 1 (.array .int) true "BatchLinksModel" := ⟨_, _, _, tyMo, rfl, okMo, nmMo, by decide +kernel, rfl, rfl⟩
theorem tMo_2 : ev_fty 8 2 (.array .int) true "BatchLinksModel" := ⟨_, _, _, tyMo, rfl, okMo, nmMo, by decide +kernel, rfl, rfl⟩
theorem tMo_3 : ev_fty 8 3 (.array .int) true "BatchLinksModel" := ⟨_, _, _, tyMo, rfl, okMo, nmMo, by decide +kernel, rfl, rfl⟩
theorem tMo_4 : ev_fty 8 4 (.array .long) true "BatchLinksModel" := ⟨_, _, _, tyMo, rfl, okMo, nmMo, by decide +kernel, rfl, rfl⟩
theorem tMo_5 : ev_fty 8 5 (.array .long) true "BatchLinksModel" := ⟨_, _, _, tyMo, rfl, okMo, nmMo, by decide +kernel, rfl, rfl⟩
theorem tMo_6 : ev_fty 8 6 (.array .boolean) true "BatchLinksModel" := ⟨_, _, _, tyMo, rfl, okMo, nmMo, by decide +kernel, rfl, rfl⟩
theorem tMo_7 : ev_fty 8 7 (.array .int) true "BatchLinksModel" := ⟨_, _, _, tyMo, rfl, okMo, nmMo, by decide +kernel, rfl, rfl⟩
theorem tMo_8 : ev_fty 8 8 (.array .int) true "BatchLinksModel" := ⟨_, _, _, tyMo, rfl, okMo, nmMo, by decide +kernel, rfl, rfl⟩
theorem tMo_9 : ev_fty 8 9 (.array .int) true "BatchLinksModel" := ⟨_, _, _, tyMo, rfl, okMo, nmMo, by decide +kernel, rfl, rfl⟩
theorem tMo_10 : ev_fty 8 10 (.array .long) true "BatchLinksModel" := ⟨_, _, _, tyMo, rfl, okMo, nmMo, by decide +kernel, rfl, rfl⟩
theorem tMo_11 : ev_fty 8 11 (.int) false "BatchLinksModel" := ⟨_, _, _, tyMo, rfl, okMo, nmMo, by decide +kernel, rfl, rfl⟩
theorem tMo_12 : ev_fty 8 12 (.array .int) true "BatchLinksModel" := ⟨_, _, _, tyMo, rfl, okMo, nmMo, by decide +kernel, rfl, rfl⟩
theorem tMo_13 : ev_fty 8 13 (.array .long) true "BatchLinksModel" := ⟨_, _, _, tyMo, rfl, okMo, nmMo, by decide +kernel, rfl, rfl⟩
theorem tMo_14 : ev_fty 8 14 (.int) false "BatchLinksModel" := ⟨_, _, _, tyMo, rfl, okMo, nmMo, by decide +kernel, rfl, rfl⟩
theorem tMo_15 : ev_fty 8 15 (.array .int) true "BatchLinksModel" := ⟨_, _, _, tyMo, rfl, okMo, nmMo, by decide +kernel, rfl, rfl⟩
theorem tMo_16 : ev_fty 8 16 (.int) false "BatchLinksModel" := ⟨_, _, _, tyMo, rfl, okMo, nmMo, by decide +kernel, rfl, rfl⟩
theorem tMo_17 : ev_fty 8 17 (.array .int) true "BatchLinksModel" := ⟨_, _, _, tyMo, rfl, okMo, nmMo, by decide +kernel, rfl, rfl⟩
theorem tMo_18 : ev_fty 8 18 (.array .int) true "BatchLinksModel" := ⟨_, _, _, tyMo, rfl, okMo, nmMo, by decide +kernel, rfl, rfl⟩
theorem tMo_19 : ev_fty 8 19 (.array .int) true "BatchLinksModel" := ⟨_, _, _, tyMo, rfl, okMo, nmMo, by decide +kernel, rfl, rfl⟩
theorem tMo_20 : ev_fty 8 20 (.array .int) true "BatchLinksModel" := ⟨_, _, _, tyMo, rfl, okMo, nmMo, by decide +kernel, rfl, rfl⟩
theorem tMo_21 : ev_fty 8 21 (.int) false "BatchLinksModel" := ⟨_, _, _, tyMo, rfl, okMo, nmMo, by decide +kernel, rfl, rfl⟩
theorem tMo_22 : ev_fty 8 22 (.array .int) true "BatchLinksModel" := ⟨_, _, _, tyMo, rfl, okMo, nmMo, by decide +kernel, rfl, rfl⟩
theorem tMo_23 : ev_fty 8 23 (.array .int) true "BatchLinksModel" := ⟨_, _, _, tyMo, rfl, okMo, nmMo, by decide +kernel, rfl, rfl⟩
theorem tMo_24 : ev_fty 8 24 (.array .int) true "BatchLinksModel" := ⟨_, _, _, tyMo, rfl, okMo, nmMo, by decide +kernel, rfl, rfl⟩
theorem tMo_25 : ev_fty 8 25 (.array .int) true "BatchLinksModel" := ⟨_, _, _, tyMo, rfl, okMo, nmMo, by decide +kernel, rfl, rfl⟩
theorem tMo_26 : ev_fty 8 26 (.int) false "BatchLinksModel" := ⟨_, _, _, tyMo, rfl, okMo, nmMo, by decide +kernel, rfl, rfl⟩
theorem tMo_27 : ev_fty 8 27 (.int) false "BatchLinksModel" := ⟨_, _, _, tyMo, rfl, okMo, nmMo, by decide +kernel, rfl, rfl⟩
theorem tMo_28 : ev_fty 8 28 (.int) false "BatchLinksModel" := ⟨_, _, _, tyMo, rfl, okMo, nmMo, by decide +kernel, rfl, rfl⟩
theorem tMo_29 : ev_fty 8 29 (.array .int) true "BatchLinksModel" := ⟨_, _, _, tyMo, rfl, okMo, nmMo, by decide +kernel, rfl, rfl⟩
theorem tMo_30 : ev_fty 8 30 (.int) false "BatchLinksModel" := ⟨_, _, _, tyMo, rfl, okMo, nmMo, by decide +kernel, rfl, rfl⟩
theorem tMo_31 : ev_fty 8 31 (.array .int) true "BatchLinksModel" := ⟨_, _, _, tyMo, rfl, okMo, nmMo, by decide +kernel, rfl, rfl⟩
theorem tMo_32 : ev_fty 8 32 (.array .int) true "BatchLinksModel" := ⟨_, _, _, tyMo, rfl, okMo, nmMo, by decide +kernel, rfl, rfl⟩
theorem tMo_33 : ev_fty 8 33 (.array .long) true "BatchLinksModel" := ⟨_, _, _, tyMo, rfl, okMo, nmMo, by decide +kernel, rfl, rfl⟩
theorem tMo_34 : ev_fty 8 34 (.int) false "BatchLinksModel" := ⟨_, _, _, tyMo, rfl, okMo, nmMo, by decide +kernel, rfl, rfl⟩
theorem tMo_35 : ev_fty 8 35 (.array .int) true "BatchLinksModel" := ⟨_, _, _, tyMo, rfl, okMo, nmMo, by decide +kernel, rfl, rfl⟩
theorem fBL_11 : ev_fld "BatchLinks" 11 7 0 := ⟨_, _, _, rfl, by decide, ev_at 150 (by decide +kernel) (by decide +kernel), inBL⟩
theorem fBL_15 : ev_fld "BatchLinks" 15 7 1 := ⟨_, _, _, rfl, by decide, ev_at 151 (by decide +kernel) (by decide +kernel), inBL⟩
theorem fBL_22 : ev_fld "BatchLinks" 22 7 2 := ⟨_, _, _, rfl, by decide, ev_at 152 (by decide +kernel) (by decide +kernel), inBL⟩
theorem fBL_26 : ev_fld "BatchLinks" 26 7 3 := ⟨_, _, _, rfl, by decide, ev_at 153 (by decide +kernel) (by decide +kernel), inBL⟩
theorem fBL_34 : ev_fld "BatchLinks" 34 7 4 := ⟨_, _, _, rfl, by decide, ev_at 154 (by decide +kernel) (by decide +kernel), inBL⟩
theorem fBL_43 : ev_fld "BatchLinks" 43 7 5 := ⟨_, _, _, rfl, by decide, ev_at 155 (by decide +kernel) (by decide +kernel), inBL⟩
theorem fBL_50 : ev_fld "BatchLinks" 50 7 6 := ⟨_, _, _, rfl, by decide, ev_at 156 (by decide +kernel) (by decide +kernel), inBL⟩
theorem fBL_54 : ev_fld "BatchLinks" 54 7 7 := ⟨_, _, _, rfl, by decide, ev_at 157 (by decide +kernel) (by decide +kernel), inBL⟩
theorem fBL_60 : ev_fld "BatchLinks" 60 7 8 := ⟨_, _, _, rfl, by decide, ev_at 158 (by decide +kernel) (by decide +kernel), inBL⟩
theorem fBL_64 : ev_fld "BatchLinks" 64 7 9 := ⟨_, _, _, rfl, by decide, ev_at 159 (by decide +kernel) (by decide +kernel), inBL⟩
theorem fBL_83 : ev_fld "BatchLinks" 83 6 4 := ⟨_, _, _, rfl, by decide, ev_at 225 (by decide +kernel) (by decide +kernel), inTh⟩
theorem fBL_87 : ev_fld "BatchLinks" 87 6 3 := ⟨_, _, _, rfl, by decide, ev_at 224 (by decide +kernel) (by decide +kernel), inTh⟩
theorem fBL_105 : ev_fld "BatchLinks" 105 6 0 := ⟨_, _, _, rfl, by decide, ev_at 219 (by decide +kernel) (by decide +kernel), inTh⟩
theorem fBL_108 : ev_fld "BatchLinks" 108 6 6 := ⟨_, _, _, rfl, by decide, ev_at 230 (by decide +kernel) (by decide +kernel), inTh⟩
theorem fBL_133 : ev_fld "BatchLinks" 133 6 5 := ⟨_, _, _, rfl, by decide, ev_at 228 (by decide +kernel) (by decide +kernel), inTh⟩
theorem fBL_195 : ev_fld "BatchLinks" 195 6 1 := ⟨_, _, _, rfl, by decide, ev_at 221 (by decide +kernel) (by decide +kernel), inTh⟩
theorem fBL_225 : ev_fld "BatchLinks" 225 6 7 := ⟨_, _, _, rfl, by decide, ev_at 232 (by decide +kernel) (by decide +kernel), inTh⟩
theorem fBy_15 : ev_fld "BatchLinks$Bytes" 15 0 0 := ⟨_, _, _, rfl, by decide, ev_at 79 (by decide +kernel) (by decide +kernel), inBy⟩
theorem fBy_21 : ev_fld "BatchLinks$Bytes" 21 0 1 := ⟨_, _, _, rfl, by decide, ev_at 80 (by decide +kernel) (by decide +kernel), inBy⟩
theorem fLa_9 : ev_fld "BatchLinks$Layers" 9 1 0 := ⟨_, _, _, rfl, by decide, ev_at 208 (by decide +kernel) (by decide +kernel), inLa⟩
theorem fLa_15 : ev_fld "BatchLinks$Layers" 15 1 1 := ⟨_, _, _, rfl, by decide, ev_at 209 (by decide +kernel) (by decide +kernel), inLa⟩
theorem fLa_19 : ev_fld "BatchLinks$Layers" 19 1 2 := ⟨_, _, _, rfl, by decide, ev_at 210 (by decide +kernel) (by decide +kernel), inLa⟩
theorem fLe_11 : ev_fld "BatchLinks$Ledger" 11 2 0 := ⟨_, _, _, rfl, by decide, ev_at 130 (by decide +kernel) (by decide +kernel), inLe⟩
theorem fLe_15 : ev_fld "BatchLinks$Ledger" 15 2 2 := ⟨_, _, _, rfl, by decide, ev_at 132 (by decide +kernel) (by decide +kernel), inLe⟩
theorem fLe_18 : ev_fld "BatchLinks$Ledger" 18 2 3 := ⟨_, _, _, rfl, by decide, ev_at 133 (by decide +kernel) (by decide +kernel), inLe⟩
theorem fLe_21 : ev_fld "BatchLinks$Ledger" 21 2 4 := ⟨_, _, _, rfl, by decide, ev_at 134 (by decide +kernel) (by decide +kernel), inLe⟩
theorem fLe_25 : ev_fld "BatchLinks$Ledger" 25 2 1 := ⟨_, _, _, rfl, by decide, ev_at 131 (by decide +kernel) (by decide +kernel), inLe⟩
theorem fLe_29 : ev_fld "BatchLinks$Ledger" 29 2 5 := ⟨_, _, _, rfl, by decide, ev_at 135 (by decide +kernel) (by decide +kernel), inLe⟩
theorem fNa_9 : ev_fld "BatchLinks$NamesReader" 9 3 0 := ⟨_, _, _, rfl, by decide, ev_at 92 (by decide +kernel) (by decide +kernel), inNa⟩
theorem fNa_15 : ev_fld "BatchLinks$NamesReader" 15 3 1 := ⟨_, _, _, rfl, by decide, ev_at 93 (by decide +kernel) (by decide +kernel), inNa⟩
theorem fNa_19 : ev_fld "BatchLinks$NamesReader" 19 3 2 := ⟨_, _, _, rfl, by decide, ev_at 94 (by decide +kernel) (by decide +kernel), inNa⟩
theorem fRu_11 : ev_fld "BatchLinks$Rules" 11 4 0 := ⟨_, _, _, rfl, by decide, ev_at 108 (by decide +kernel) (by decide +kernel), inRu⟩
theorem fRu_15 : ev_fld "BatchLinks$Rules" 15 4 1 := ⟨_, _, _, rfl, by decide, ev_at 109 (by decide +kernel) (by decide +kernel), inRu⟩
theorem fRu_18 : ev_fld "BatchLinks$Rules" 18 4 2 := ⟨_, _, _, rfl, by decide, ev_at 110 (by decide +kernel) (by decide +kernel), inRu⟩
theorem fRu_21 : ev_fld "BatchLinks$Rules" 21 4 3 := ⟨_, _, _, rfl, by decide, ev_at 111 (by decide +kernel) (by decide +kernel), inRu⟩
theorem fRu_24 : ev_fld "BatchLinks$Rules" 24 4 4 := ⟨_, _, _, rfl, by decide, ev_at 112 (by decide +kernel) (by decide +kernel), inRu⟩
theorem fTa_11 : ev_fld "BatchLinks$Tally" 11 5 0 := ⟨_, _, _, rfl, by decide, ev_at 65 (by decide +kernel) (by decide +kernel), inTa⟩
theorem fTh_9 : ev_fld "BatchLinks$Thing" 9 6 0 := ⟨_, _, _, rfl, by decide, ev_at 218 (by decide +kernel) (by decide +kernel), inTh⟩
theorem fTh_15 : ev_fld "BatchLinks$Thing" 15 6 1 := ⟨_, _, _, rfl, by decide, ev_at 220 (by decide +kernel) (by decide +kernel), inTh⟩
theorem fTh_18 : ev_fld "BatchLinks$Thing" 18 6 2 := ⟨_, _, _, rfl, by decide, ev_at 222 (by decide +kernel) (by decide +kernel), inTh⟩
theorem fTh_24 : ev_fld "BatchLinks$Thing" 24 6 3 := ⟨_, _, _, rfl, by decide, ev_at 223 (by decide +kernel) (by decide +kernel), inTh⟩
theorem fTh_36 : ev_fld "BatchLinks$Thing" 36 6 7 := ⟨_, _, _, rfl, by decide, ev_at 231 (by decide +kernel) (by decide +kernel), inTh⟩
theorem fTh_53 : ev_fld "BatchLinks$Thing" 53 6 5 := ⟨_, _, _, rfl, by decide, ev_at 227 (by decide +kernel) (by decide +kernel), inTh⟩
theorem fTh_57 : ev_fld "BatchLinks$Thing" 57 6 6 := ⟨_, _, _, rfl, by decide, ev_at 229 (by decide +kernel) (by decide +kernel), inTh⟩
theorem fTh_61 : ev_fld "BatchLinks$Thing" 61 6 4 := ⟨_, _, _, rfl, by decide, ev_at 226 (by decide +kernel) (by decide +kernel), inTh⟩
theorem fMo_7 : ev_fld "BatchLinksModel" 7 8 1 := ⟨_, _, _, rfl, by decide, ev_at 589 (by decide +kernel) (by decide +kernel), inMo⟩
theorem fMo_13 : ev_fld "BatchLinksModel" 13 8 2 := ⟨_, _, _, rfl, by decide, ev_at 590 (by decide +kernel) (by decide +kernel), inMo⟩
theorem fMo_16 : ev_fld "BatchLinksModel" 16 8 3 := ⟨_, _, _, rfl, by decide, ev_at 591 (by decide +kernel) (by decide +kernel), inMo⟩
theorem fMo_19 : ev_fld "BatchLinksModel" 19 8 4 := ⟨_, _, _, rfl, by decide, ev_at 592 (by decide +kernel) (by decide +kernel), inMo⟩
theorem fMo_23 : ev_fld "BatchLinksModel" 23 8 5 := ⟨_, _, _, rfl, by decide, ev_at 593 (by decide +kernel) (by decide +kernel), inMo⟩
theorem fMo_26 : ev_fld "BatchLinksModel" 26 8 6 := ⟨_, _, _, rfl, by decide, ev_at 594 (by decide +kernel) (by decide +kernel), inMo⟩
theorem fMo_30 : ev_fld "BatchLinksModel" 30 8 7 := ⟨_, _, _, rfl, by decide, ev_at 595 (by decide +kernel) (by decide +kernel), inMo⟩
theorem fMo_33 : ev_fld "BatchLinksModel" 33 8 8 := ⟨_, _, _, rfl, by decide, ev_at 596 (by decide +kernel) (by decide +kernel), inMo⟩
theorem fMo_36 : ev_fld "BatchLinksModel" 36 8 9 := ⟨_, _, _, rfl, by decide, ev_at 597 (by decide +kernel) (by decide +kernel), inMo⟩
theorem fMo_39 : ev_fld "BatchLinksModel" 39 8 10 := ⟨_, _, _, rfl, by decide, ev_at 598 (by decide +kernel) (by decide +kernel), inMo⟩
theorem fMo_42 : ev_fld "BatchLinksModel" 42 8 12 := ⟨_, _, _, rfl, by decide, ev_at 600 (by decide +kernel) (by decide +kernel), inMo⟩
theorem fMo_45 : ev_fld "BatchLinksModel" 45 8 13 := ⟨_, _, _, rfl, by decide, ev_at 601 (by decide +kernel) (by decide +kernel), inMo⟩
theorem fMo_48 : ev_fld "BatchLinksModel" 48 8 15 := ⟨_, _, _, rfl, by decide, ev_at 603 (by decide +kernel) (by decide +kernel), inMo⟩
theorem fMo_51 : ev_fld "BatchLinksModel" 51 8 17 := ⟨_, _, _, rfl, by decide, ev_at 605 (by decide +kernel) (by decide +kernel), inMo⟩
theorem fMo_54 : ev_fld "BatchLinksModel" 54 8 18 := ⟨_, _, _, rfl, by decide, ev_at 606 (by decide +kernel) (by decide +kernel), inMo⟩
theorem fMo_57 : ev_fld "BatchLinksModel" 57 8 19 := ⟨_, _, _, rfl, by decide, ev_at 607 (by decide +kernel) (by decide +kernel), inMo⟩
theorem fMo_60 : ev_fld "BatchLinksModel" 60 8 20 := ⟨_, _, _, rfl, by decide, ev_at 608 (by decide +kernel) (by decide +kernel), inMo⟩
theorem fMo_63 : ev_fld "BatchLinksModel" 63 8 22 := ⟨_, _, _, rfl, by decide, ev_at 610 (by decide +kernel) (by decide +kernel), inMo⟩
theorem fMo_66 : ev_fld "BatchLinksModel" 66 8 23 := ⟨_, _, _, rfl, by decide, ev_at 611 (by decide +kernel) (by decide +kernel), inMo⟩
theorem fMo_69 : ev_fld "BatchLinksModel" 69 8 24 := ⟨_, _, _, rfl, by decide, ev_at 612 (by decide +kernel) (by decide +kernel), inMo⟩
theorem fMo_72 : ev_fld "BatchLinksModel" 72 8 25 := ⟨_, _, _, rfl, by decide, ev_at 613 (by decide +kernel) (by decide +kernel), inMo⟩
theorem fMo_75 : ev_fld "BatchLinksModel" 75 8 29 := ⟨_, _, _, rfl, by decide, ev_at 617 (by decide +kernel) (by decide +kernel), inMo⟩
theorem fMo_78 : ev_fld "BatchLinksModel" 78 8 31 := ⟨_, _, _, rfl, by decide, ev_at 619 (by decide +kernel) (by decide +kernel), inMo⟩
theorem fMo_81 : ev_fld "BatchLinksModel" 81 8 32 := ⟨_, _, _, rfl, by decide, ev_at 620 (by decide +kernel) (by decide +kernel), inMo⟩
theorem fMo_84 : ev_fld "BatchLinksModel" 84 8 33 := ⟨_, _, _, rfl, by decide, ev_at 621 (by decide +kernel) (by decide +kernel), inMo⟩
theorem fMo_87 : ev_fld "BatchLinksModel" 87 8 35 := ⟨_, _, _, rfl, by decide, ev_at 623 (by decide +kernel) (by decide +kernel), inMo⟩
theorem fMo_90 : ev_fld "BatchLinksModel" 90 8 0 := ⟨_, _, _, rfl, by decide, ev_at 588 (by decide +kernel) (by decide +kernel), inMo⟩
theorem fMo_105 : ev_fld "BatchLinksModel" 105 8 11 := ⟨_, _, _, rfl, by decide, ev_at 599 (by decide +kernel) (by decide +kernel), inMo⟩
theorem fMo_148 : ev_fld "BatchLinksModel" 148 8 14 := ⟨_, _, _, rfl, by decide, ev_at 602 (by decide +kernel) (by decide +kernel), inMo⟩
theorem fMo_151 : ev_fld "BatchLinksModel" 151 8 26 := ⟨_, _, _, rfl, by decide, ev_at 614 (by decide +kernel) (by decide +kernel), inMo⟩
theorem fMo_154 : ev_fld "BatchLinksModel" 154 8 27 := ⟨_, _, _, rfl, by decide, ev_at 615 (by decide +kernel) (by decide +kernel), inMo⟩
theorem fMo_164 : ev_fld "BatchLinksModel" 164 8 21 := ⟨_, _, _, rfl, by decide, ev_at 609 (by decide +kernel) (by decide +kernel), inMo⟩
theorem fMo_175 : ev_fld "BatchLinksModel" 175 8 16 := ⟨_, _, _, rfl, by decide, ev_at 604 (by decide +kernel) (by decide +kernel), inMo⟩
theorem fMo_178 : ev_fld "BatchLinksModel" 178 8 28 := ⟨_, _, _, rfl, by decide, ev_at 616 (by decide +kernel) (by decide +kernel), inMo⟩
theorem fMo_181 : ev_fld "BatchLinksModel" 181 8 30 := ⟨_, _, _, rfl, by decide, ev_at 618 (by decide +kernel) (by decide +kernel), inMo⟩
theorem fMo_195 : ev_fld "BatchLinksModel" 195 8 34 := ⟨_, _, _, rfl, by decide, ev_at 622 (by decide +kernel) (by decide +kernel), inMo⟩
theorem nBL_9 : ev_cls "BatchLinks" 9 6 8 [.int 0, .int 0, .int 0, .null, .long 0, .long 0, .int 0, .int 0] := ⟨_, _, tyTh, rfl, okTh, by decide +kernel, ev_at 57 (by decide +kernel) (by decide +kernel), ev_at 197 (by decide +kernel) (by decide +kernel), ev_at 47 (by decide +kernel) (by decide +kernel), inTh⟩
theorem cBL_9 : Cond.classLink "BatchLinks" 9 "BatchLinks$Thing" ∈ ev_T := ev_at 57 (by decide +kernel) (by decide +kernel)
theorem nBL_19 : ev_cls "BatchLinks" 19 5 1 [.null] := ⟨_, _, tyTa, rfl, okTa, by decide +kernel, ev_at 59 (by decide +kernel) (by decide +kernel), ev_at 60 (by decide +kernel) (by decide +kernel), ev_at 40 (by decide +kernel) (by decide +kernel), inTa⟩
theorem cBL_19 : Cond.classLink "BatchLinks" 19 "BatchLinks$Tally" ∈ ev_T := ev_at 59 (by decide +kernel) (by decide +kernel)
theorem nBL_29 : ev_cls "BatchLinks" 29 0 2 [.null, .int 0] := ⟨_, _, tyBy, rfl, okBy, by decide +kernel, ev_at 70 (by decide +kernel) (by decide +kernel), ev_at 71 (by decide +kernel) (by decide +kernel), ev_at 41 (by decide +kernel) (by decide +kernel), inBy⟩
theorem cBL_29 : Cond.classLink "BatchLinks" 29 "BatchLinks$Bytes" ∈ ev_T := ev_at 70 (by decide +kernel) (by decide +kernel)
theorem nBL_38 : ev_cls "BatchLinks" 38 3 3 [.null, .int 0, .int 0] := ⟨_, _, tyNa, rfl, okNa, by decide +kernel, ev_at 86 (by decide +kernel) (by decide +kernel), ev_at 87 (by decide +kernel) (by decide +kernel), ev_at 43 (by decide +kernel) (by decide +kernel), inNa⟩
theorem cBL_38 : Cond.classLink "BatchLinks" 38 "BatchLinks$NamesReader" ∈ ev_T := ev_at 86 (by decide +kernel) (by decide +kernel)
theorem nBL_47 : ev_cls "BatchLinks" 47 4 5 [.null, .null, .null, .null, .int 0] := ⟨_, _, tyRu, rfl, okRu, by decide +kernel, ev_at 102 (by decide +kernel) (by decide +kernel), ev_at 103 (by decide +kernel) (by decide +kernel), ev_at 44 (by decide +kernel) (by decide +kernel), inRu⟩
theorem cBL_47 : Cond.classLink "BatchLinks" 47 "BatchLinks$Rules" ∈ ev_T := ev_at 102 (by decide +kernel) (by decide +kernel)
theorem nBL_57 : ev_cls "BatchLinks" 57 2 6 [.null, .int 0, .null, .null, .null, .int 0] := ⟨_, _, tyLe, rfl, okLe, by decide +kernel, ev_at 124 (by decide +kernel) (by decide +kernel), ev_at 125 (by decide +kernel) (by decide +kernel), ev_at 45 (by decide +kernel) (by decide +kernel), inLe⟩
theorem cBL_57 : Cond.classLink "BatchLinks" 57 "BatchLinks$Ledger" ∈ ev_T := ev_at 124 (by decide +kernel) (by decide +kernel)
theorem nTh_21 : ev_cls "BatchLinks$Thing" 21 1 3 [.null, .null, .int 0] := ⟨_, _, tyLa, rfl, okLa, by decide +kernel, ev_at 202 (by decide +kernel) (by decide +kernel), ev_at 203 (by decide +kernel) (by decide +kernel), ev_at 48 (by decide +kernel) (by decide +kernel), inLa⟩
theorem cTh_21 : Cond.classLink "BatchLinks$Thing" 21 "BatchLinks$Layers" ∈ ev_T := ev_at 202 (by decide +kernel) (by decide +kernel)
theorem nLw_7 : ev_cls "BatchLinksLaw" 7 7 10 [.null, .int 0, .null, .null, .null, .null, .null, .null, .null, .null] := ⟨_, _, tyBL, rfl, okBL, by decide +kernel, ev_at 49 (by decide +kernel) (by decide +kernel), ev_at 50 (by decide +kernel) (by decide +kernel), ev_at 39 (by decide +kernel) (by decide +kernel), inBL⟩
theorem cLw_7 : Cond.classLink "BatchLinksLaw" 7 "BatchLinks" ∈ ev_T := ev_at 49 (by decide +kernel) (by decide +kernel)
theorem nLw_10 : ev_cls "BatchLinksLaw" 10 8 36 [.int 0, .null, .null, .null, .null, .null, .null, .null, .null, .null, .null, .int 0, .null, .null, .int 0, .null, .int 0, .null, .null, .null, .null, .int 0, .null, .null, .null, .null, .int 0, .int 0, .int 0, .null, .int 0, .null, .null, .null, .int 0, .null] := ⟨_, _, tyMo, rfl, okMo, by decide +kernel, ev_at 582 (by decide +kernel) (by decide +kernel), ev_at 583 (by decide +kernel) (by decide +kernel), ev_at 46 (by decide +kernel) (by decide +kernel), inMo⟩
theorem cLw_10 : Cond.classLink "BatchLinksLaw" 10 "BatchLinksModel" ∈ ev_T := ev_at 582 (by decide +kernel) (by decide +kernel)
theorem qBL_75 : Jvm.Cond.constant "BatchLinks" 75 99999 ∈ ev_T := ev_at 192 (by decide +kernel) (by decide +kernel)
theorem qBL_127 : Jvm.Cond.constantLong "BatchLinks" 127 (-1) ∈ ev_T := ev_at 320 (by decide +kernel) (by decide +kernel)
theorem qBL_246 : Jvm.Cond.constantLong "BatchLinks" 246 1000000000 ∈ ev_T := ev_at 188 (by decide +kernel) (by decide +kernel)
theorem qBy_29 : Jvm.Cond.constantLong "BatchLinks$Bytes" 29 10 ∈ ev_T := ev_at 564 (by decide +kernel) (by decide +kernel)
theorem qLa_23 : Jvm.Cond.constantLong "BatchLinks$Layers" 23 (-1) ∈ ev_T := ev_at 362 (by decide +kernel) (by decide +kernel)
theorem qNa_52 : Jvm.Cond.constant "BatchLinks$NamesReader" 52 999999 ∈ ev_T := ev_at 471 (by decide +kernel) (by decide +kernel)
theorem qTh_64 : Jvm.Cond.constantLong "BatchLinks$Thing" 64 (-1) ∈ ev_T := ev_at 352 (by decide +kernel) (by decide +kernel)
theorem qLw_13 : Jvm.Cond.constantLong "BatchLinksLaw" 13 4294967295 ∈ ev_T := ev_at 889 (by decide +kernel) (by decide +kernel)
theorem qMo_98 : Jvm.Cond.constantLong "BatchLinksModel" 98 1000000000 ∈ ev_T := ev_at 702 (by decide +kernel) (by decide +kernel)
theorem qMo_100 : Jvm.Cond.constant "BatchLinksModel" 100 99999 ∈ ev_T := ev_at 703 (by decide +kernel) (by decide +kernel)
theorem qMo_138 : Jvm.Cond.constantLong "BatchLinksModel" 138 (-1) ∈ ev_T := ev_at 760 (by decide +kernel) (by decide +kernel)
theorem qMo_167 : Jvm.Cond.constant "BatchLinksModel" 167 1000000 ∈ ev_T := ev_at 817 (by decide +kernel) (by decide +kernel)
theorem qMo_174 : Jvm.Cond.constant "BatchLinksModel" 174 999999 ∈ ev_T := ev_at 830 (by decide +kernel) (by decide +kernel)
theorem qMo_198 : Jvm.Cond.constantLong "BatchLinksModel" 198 9 ∈ ev_T := ev_at 875 (by decide +kernel) (by decide +kernel)
theorem qMo_200 : Jvm.Cond.constantLong "BatchLinksModel" 200 10 ∈ ev_T := ev_at 876 (by decide +kernel) (by decide +kernel)
theorem a_int : Cond.arrayClass .int ∈ ev_T := ev_at 69 (by decide +kernel) (by decide +kernel)
theorem a_long : Cond.arrayClass .long ∈ ev_T := ev_at 149 (by decide +kernel) (by decide +kernel)
theorem a_boolean : Cond.arrayClass .boolean ∈ ev_T := ev_at 697 (by decide +kernel) (by decide +kernel)
theorem kBL_init : ev_ok mBL_init 0 := ⟨ev_at 53 rfl rfl, ev_at 39 (by decide +kernel) (by decide +kernel), by decide +kernel, by decide +kernel, by decide⟩
theorem vBL_init : Cond.instanceMethod mBL_init.1 ∈ ev_T := ev_at 52 (by decide +kernel) (by decide +kernel)
theorem kTa_init : ev_ok mTa_init 0 := ⟨ev_at 63 rfl rfl, ev_at 40 (by decide +kernel) (by decide +kernel), by decide +kernel, by decide +kernel, by decide⟩
theorem vTa_init : Cond.instanceMethod mTa_init.1 ∈ ev_T := ev_at 62 (by decide +kernel) (by decide +kernel)
theorem kBy_init : ev_ok mBy_init 1 := ⟨ev_at 74 rfl rfl, ev_at 41 (by decide +kernel) (by decide +kernel), by decide +kernel, by decide +kernel, by decide⟩
theorem vBy_init : Cond.instanceMethod mBy_init.1 ∈ ev_T := ev_at 73 (by decide +kernel) (by decide +kernel)
theorem kNa_init : ev_ok mNa_init 1 := ⟨ev_at 90 rfl rfl, ev_at 43 (by decide +kernel) (by decide +kernel), by decide +kernel, by decide +kernel, by decide⟩
theorem vNa_init : Cond.instanceMethod mNa_init.1 ∈ ev_T := ev_at 89 (by decide +kernel) (by decide +kernel)
theorem kRu_init : ev_ok mRu_init 0 := ⟨ev_at 106 rfl rfl, ev_at 44 (by decide +kernel) (by decide +kernel), by decide +kernel, by decide +kernel, by decide⟩
theorem vRu_init : Cond.instanceMethod mRu_init.1 ∈ ev_T := ev_at 105 (by decide +kernel) (by decide +kernel)
theorem kLe_init : ev_ok mLe_init 0 := ⟨ev_at 128 rfl rfl, ev_at 45 (by decide +kernel) (by decide +kernel), by decide +kernel, by decide +kernel, by decide⟩
theorem vLe_init : Cond.instanceMethod mLe_init.1 ∈ ev_T := ev_at 127 (by decide +kernel) (by decide +kernel)
theorem kBL_haul : ev_ok mBL_haul 3 := ⟨ev_at 184 rfl rfl, ev_at 39 (by decide +kernel) (by decide +kernel), by decide +kernel, by decide +kernel, by decide⟩
theorem vBL_haul : Cond.instanceMethod mBL_haul.1 ∈ ev_T := ev_at 182 (by decide +kernel) (by decide +kernel)
theorem wBL_haul : Cond.selects mBL_haul.1.cls mBL_haul.1 mBL_haul.1 ∈ ev_T := ev_at 183 (by decide +kernel) (by decide +kernel)
theorem kBL_isWeight : ev_ok mBL_isWeight 1 := ⟨ev_at 187 rfl rfl, ev_at 39 (by decide +kernel) (by decide +kernel), by decide +kernel, by decide +kernel, by decide⟩
theorem sBL_isWeight : Cond.static mBL_isWeight.1 ∈ ev_T := ev_at 186 (by decide +kernel) (by decide +kernel)
theorem kBL_isWithin : ev_ok mBL_isWithin 2 := ⟨ev_at 191 rfl rfl, ev_at 39 (by decide +kernel) (by decide +kernel), by decide +kernel, by decide +kernel, by decide⟩
theorem sBL_isWithin : Cond.static mBL_isWithin.1 ∈ ev_T := ev_at 190 (by decide +kernel) (by decide +kernel)
theorem kBL_isFull : ev_ok mBL_isFull 0 := ⟨ev_at 196 rfl rfl, ev_at 39 (by decide +kernel) (by decide +kernel), by decide +kernel, by decide +kernel, by decide⟩
theorem vBL_isFull : Cond.instanceMethod mBL_isFull.1 ∈ ev_T := ev_at 195 (by decide +kernel) (by decide +kernel)
theorem wBL_isFull : Cond.selects mBL_isFull.1.cls mBL_isFull.1 mBL_isFull.1 ∈ ev_T := ev_at 0 (by decide +kernel) (by decide +kernel)
theorem kTh_init : ev_ok mTh_init 3 := ⟨ev_at 200 rfl rfl, ev_at 47 (by decide +kernel) (by decide +kernel), by decide +kernel, by decide +kernel, by decide⟩
theorem vTh_init : Cond.instanceMethod mTh_init.1 ∈ ev_T := ev_at 199 (by decide +kernel) (by decide +kernel)
theorem kLa_init : ev_ok mLa_init 0 := ⟨ev_at 206 rfl rfl, ev_at 48 (by decide +kernel) (by decide +kernel), by decide +kernel, by decide +kernel, by decide⟩
theorem vLa_init : Cond.instanceMethod mLa_init.1 ∈ ev_T := ev_at 205 (by decide +kernel) (by decide +kernel)
theorem kLa_append : ev_ok mLa_append 2 := ⟨ev_at 253 rfl rfl, ev_at 48 (by decide +kernel) (by decide +kernel), by decide +kernel, by decide +kernel, by decide⟩
theorem vLa_append : Cond.instanceMethod mLa_append.1 ∈ ev_T := ev_at 251 (by decide +kernel) (by decide +kernel)
theorem wLa_append : Cond.selects mLa_append.1.cls mLa_append.1 mLa_append.1 ∈ ev_T := ev_at 252 (by decide +kernel) (by decide +kernel)
theorem kBL_keep : ev_ok mBL_keep 1 := ⟨ev_at 257 rfl rfl, ev_at 39 (by decide +kernel) (by decide +kernel), by decide +kernel, by decide +kernel, by decide⟩
theorem vBL_keep : Cond.instanceMethod mBL_keep.1 ∈ ev_T := ev_at 256 (by decide +kernel) (by decide +kernel)
theorem wBL_keep : Cond.selects mBL_keep.1.cls mBL_keep.1 mBL_keep.1 ∈ ev_T := ev_at 1 (by decide +kernel) (by decide +kernel)
theorem kBL_batch : ev_ok mBL_batch 0 := ⟨ev_at 261 rfl rfl, ev_at 39 (by decide +kernel) (by decide +kernel), by decide +kernel, by decide +kernel, by decide⟩
theorem vBL_batch : Cond.instanceMethod mBL_batch.1 ∈ ev_T := ev_at 259 (by decide +kernel) (by decide +kernel)
theorem wBL_batch : Cond.selects mBL_batch.1.cls mBL_batch.1 mBL_batch.1 ∈ ev_T := ev_at 260 (by decide +kernel) (by decide +kernel)
theorem kBL_into : ev_ok mBL_into 3 := ⟨ev_at 265 rfl rfl, ev_at 39 (by decide +kernel) (by decide +kernel), by decide +kernel, by decide +kernel, by decide⟩
theorem vBL_into : Cond.instanceMethod mBL_into.1 ∈ ev_T := ev_at 263 (by decide +kernel) (by decide +kernel)
theorem wBL_into : Cond.selects mBL_into.1.cls mBL_into.1 mBL_into.1 ∈ ev_T := ev_at 264 (by decide +kernel) (by decide +kernel)
theorem kBL_find : ev_ok mBL_find 1 := ⟨ev_at 269 rfl rfl, ev_at 39 (by decide +kernel) (by decide +kernel), by decide +kernel, by decide +kernel, by decide⟩
theorem vBL_find : Cond.instanceMethod mBL_find.1 ∈ ev_T := ev_at 268 (by decide +kernel) (by decide +kernel)
theorem wBL_find : Cond.selects mBL_find.1.cls mBL_find.1 mBL_find.1 ∈ ev_T := ev_at 2 (by decide +kernel) (by decide +kernel)
theorem kLa_have : ev_ok mLa_have 1 := ⟨ev_at 273 rfl rfl, ev_at 48 (by decide +kernel) (by decide +kernel), by decide +kernel, by decide +kernel, by decide⟩
theorem vLa_have : Cond.instanceMethod mLa_have.1 ∈ ev_T := ev_at 271 (by decide +kernel) (by decide +kernel)
theorem wLa_have : Cond.selects mLa_have.1.cls mLa_have.1 mLa_have.1 ∈ ev_T := ev_at 272 (by decide +kernel) (by decide +kernel)
theorem kLa_total : ev_ok mLa_total 0 := ⟨ev_at 277 rfl rfl, ev_at 48 (by decide +kernel) (by decide +kernel), by decide +kernel, by decide +kernel, by decide⟩
theorem vLa_total : Cond.instanceMethod mLa_total.1 ∈ ev_T := ev_at 275 (by decide +kernel) (by decide +kernel)
theorem wLa_total : Cond.selects mLa_total.1.cls mLa_total.1 mLa_total.1 ∈ ev_T := ev_at 276 (by decide +kernel) (by decide +kernel)
theorem kLa_sizeWith : ev_ok mLa_sizeWith 2 := ⟨ev_at 281 rfl rfl, ev_at 48 (by decide +kernel) (by decide +kernel), by decide +kernel, by decide +kernel, by decide⟩
theorem vLa_sizeWith : Cond.instanceMethod mLa_sizeWith.1 ∈ ev_T := ev_at 279 (by decide +kernel) (by decide +kernel)
theorem wLa_sizeWith : Cond.selects mLa_sizeWith.1.cls mLa_sizeWith.1 mLa_sizeWith.1 ∈ ev_T := ev_at 280 (by decide +kernel) (by decide +kernel)
theorem kLa_sizeOf : ev_ok mLa_sizeOf 1 := ⟨ev_at 285 rfl rfl, ev_at 48 (by decide +kernel) (by decide +kernel), by decide +kernel, by decide +kernel, by decide⟩
theorem vLa_sizeOf : Cond.instanceMethod mLa_sizeOf.1 ∈ ev_T := ev_at 283 (by decide +kernel) (by decide +kernel)
theorem wLa_sizeOf : Cond.selects mLa_sizeOf.1.cls mLa_sizeOf.1 mLa_sizeOf.1 ∈ ev_T := ev_at 284 (by decide +kernel) (by decide +kernel)
theorem kLa_haulAt : ev_ok mLa_haulAt 1 := ⟨ev_at 289 rfl rfl, ev_at 48 (by decide +kernel) (by decide +kernel), by decide +kernel, by decide +kernel, by decide⟩
theorem vLa_haulAt : Cond.instanceMethod mLa_haulAt.1 ∈ ev_T := ev_at 287 (by decide +kernel) (by decide +kernel)
theorem wLa_haulAt : Cond.selects mLa_haulAt.1.cls mLa_haulAt.1 mLa_haulAt.1 ∈ ev_T := ev_at 288 (by decide +kernel) (by decide +kernel)
theorem kTh_takeFrom : ev_ok mTh_takeFrom 2 := ⟨ev_at 293 rfl rfl, ev_at 47 (by decide +kernel) (by decide +kernel), by decide +kernel, by decide +kernel, by decide⟩
theorem vTh_takeFrom : Cond.instanceMethod mTh_takeFrom.1 ∈ ev_T := ev_at 291 (by decide +kernel) (by decide +kernel)
theorem wTh_takeFrom : Cond.selects mTh_takeFrom.1.cls mTh_takeFrom.1 mTh_takeFrom.1 ∈ ev_T := ev_at 292 (by decide +kernel) (by decide +kernel)
theorem kLa_appendFront : ev_ok mLa_appendFront 2 := ⟨ev_at 297 rfl rfl, ev_at 48 (by decide +kernel) (by decide +kernel), by decide +kernel, by decide +kernel, by decide⟩
theorem vLa_appendFront : Cond.instanceMethod mLa_appendFront.1 ∈ ev_T := ev_at 295 (by decide +kernel) (by decide +kernel)
theorem wLa_appendFront : Cond.selects mLa_appendFront.1.cls mLa_appendFront.1 mLa_appendFront.1 ∈ ev_T := ev_at 296 (by decide +kernel) (by decide +kernel)
theorem kLa_dropFront : ev_ok mLa_dropFront 1 := ⟨ev_at 305 rfl rfl, ev_at 48 (by decide +kernel) (by decide +kernel), by decide +kernel, by decide +kernel, by decide⟩
theorem vLa_dropFront : Cond.instanceMethod mLa_dropFront.1 ∈ ev_T := ev_at 303 (by decide +kernel) (by decide +kernel)
theorem wLa_dropFront : Cond.selects mLa_dropFront.1.cls mLa_dropFront.1 mLa_dropFront.1 ∈ ev_T := ev_at 304 (by decide +kernel) (by decide +kernel)
theorem kLa_dropLayers : ev_ok mLa_dropLayers 1 := ⟨ev_at 309 rfl rfl, ev_at 48 (by decide +kernel) (by decide +kernel), by decide +kernel, by decide +kernel, by decide⟩
theorem vLa_dropLayers : Cond.instanceMethod mLa_dropLayers.1 ∈ ev_T := ev_at 308 (by decide +kernel) (by decide +kernel)
theorem wLa_dropLayers : Cond.selects mLa_dropLayers.1.cls mLa_dropLayers.1 mLa_dropLayers.1 ∈ ev_T := ev_at 3 (by decide +kernel) (by decide +kernel)
theorem kBL_box : ev_ok mBL_box 3 := ⟨ev_at 314 rfl rfl, ev_at 39 (by decide +kernel) (by decide +kernel), by decide +kernel, by decide +kernel, by decide⟩
theorem vBL_box : Cond.instanceMethod mBL_box.1 ∈ ev_T := ev_at 312 (by decide +kernel) (by decide +kernel)
theorem wBL_box : Cond.selects mBL_box.1.cls mBL_box.1 mBL_box.1 ∈ ev_T := ev_at 313 (by decide +kernel) (by decide +kernel)
theorem kBL_waste : ev_ok mBL_waste 2 := ⟨ev_at 319 rfl rfl, ev_at 39 (by decide +kernel) (by decide +kernel), by decide +kernel, by decide +kernel, by decide⟩
theorem vBL_waste : Cond.instanceMethod mBL_waste.1 ∈ ev_T := ev_at 317 (by decide +kernel) (by decide +kernel)
theorem wBL_waste : Cond.selects mBL_waste.1.cls mBL_waste.1 mBL_waste.1 ∈ ev_T := ev_at 318 (by decide +kernel) (by decide +kernel)
theorem kBL_hold : ev_ok mBL_hold 2 := ⟨ev_at 325 rfl rfl, ev_at 39 (by decide +kernel) (by decide +kernel), by decide +kernel, by decide +kernel, by decide⟩
theorem vBL_hold : Cond.instanceMethod mBL_hold.1 ∈ ev_T := ev_at 323 (by decide +kernel) (by decide +kernel)
theorem wBL_hold : Cond.selects mBL_hold.1.cls mBL_hold.1 mBL_hold.1 ∈ ev_T := ev_at 324 (by decide +kernel) (by decide +kernel)
theorem kBL_correct : ev_ok mBL_correct 2 := ⟨ev_at 329 rfl rfl, ev_at 39 (by decide +kernel) (by decide +kernel), by decide +kernel, by decide +kernel, by decide⟩
theorem vBL_correct : Cond.instanceMethod mBL_correct.1 ∈ ev_T := ev_at 327 (by decide +kernel) (by decide +kernel)
theorem wBL_correct : Cond.selects mBL_correct.1.cls mBL_correct.1 mBL_correct.1 ∈ ev_T := ev_at 328 (by decide +kernel) (by decide +kernel)
theorem kBL_findHaul : ev_ok mBL_findHaul 1 := ⟨ev_at 333 rfl rfl, ev_at 39 (by decide +kernel) (by decide +kernel), by decide +kernel, by decide +kernel, by decide⟩
theorem vBL_findHaul : Cond.instanceMethod mBL_findHaul.1 ∈ ev_T := ev_at 332 (by decide +kernel) (by decide +kernel)
theorem wBL_findHaul : Cond.selects mBL_findHaul.1.cls mBL_findHaul.1 mBL_findHaul.1 ∈ ev_T := ev_at 4 (by decide +kernel) (by decide +kernel)
theorem kLa_clear : ev_ok mLa_clear 0 := ⟨ev_at 338 rfl rfl, ev_at 48 (by decide +kernel) (by decide +kernel), by decide +kernel, by decide +kernel, by decide⟩
theorem vLa_clear : Cond.instanceMethod mLa_clear.1 ∈ ev_T := ev_at 336 (by decide +kernel) (by decide +kernel)
theorem wLa_clear : Cond.selects mLa_clear.1.cls mLa_clear.1 mLa_clear.1 ∈ ev_T := ev_at 337 (by decide +kernel) (by decide +kernel)
theorem kBL_told : ev_ok mBL_told 2 := ⟨ev_at 342 rfl rfl, ev_at 39 (by decide +kernel) (by decide +kernel), by decide +kernel, by decide +kernel, by decide⟩
theorem vBL_told : Cond.instanceMethod mBL_told.1 ∈ ev_T := ev_at 340 (by decide +kernel) (by decide +kernel)
theorem wBL_told : Cond.selects mBL_told.1.cls mBL_told.1 mBL_told.1 ∈ ev_T := ev_at 341 (by decide +kernel) (by decide +kernel)
theorem kTh_fact : ev_ok mTh_fact 1 := ⟨ev_at 346 rfl rfl, ev_at 47 (by decide +kernel) (by decide +kernel), by decide +kernel, by decide +kernel, by decide⟩
theorem vTh_fact : Cond.instanceMethod mTh_fact.1 ∈ ev_T := ev_at 344 (by decide +kernel) (by decide +kernel)
theorem wTh_fact : Cond.selects mTh_fact.1.cls mTh_fact.1 mTh_fact.1 ∈ ev_T := ev_at 345 (by decide +kernel) (by decide +kernel)
theorem kLa_size : ev_ok mLa_size 0 := ⟨ev_at 351 rfl rfl, ev_at 48 (by decide +kernel) (by decide +kernel), by decide +kernel, by decide +kernel, by decide⟩
theorem vLa_size : Cond.instanceMethod mLa_size.1 ∈ ev_T := ev_at 349 (by decide +kernel) (by decide +kernel)
theorem wLa_size : Cond.selects mLa_size.1.cls mLa_size.1 mLa_size.1 ∈ ev_T := ev_at 350 (by decide +kernel) (by decide +kernel)
theorem kBL_layer : ev_ok mBL_layer 3 := ⟨ev_at 356 rfl rfl, ev_at 39 (by decide +kernel) (by decide +kernel), by decide +kernel, by decide +kernel, by decide⟩
theorem vBL_layer : Cond.instanceMethod mBL_layer.1 ∈ ev_T := ev_at 354 (by decide +kernel) (by decide +kernel)
theorem wBL_layer : Cond.selects mBL_layer.1.cls mBL_layer.1 mBL_layer.1 ∈ ev_T := ev_at 355 (by decide +kernel) (by decide +kernel)
theorem kLa_gramsAt : ev_ok mLa_gramsAt 1 := ⟨ev_at 361 rfl rfl, ev_at 48 (by decide +kernel) (by decide +kernel), by decide +kernel, by decide +kernel, by decide⟩
theorem vLa_gramsAt : Cond.instanceMethod mLa_gramsAt.1 ∈ ev_T := ev_at 359 (by decide +kernel) (by decide +kernel)
theorem wLa_gramsAt : Cond.selects mLa_gramsAt.1.cls mLa_gramsAt.1 mLa_gramsAt.1 ∈ ev_T := ev_at 360 (by decide +kernel) (by decide +kernel)
theorem kBL_share : ev_ok mBL_share 3 := ⟨ev_at 366 rfl rfl, ev_at 39 (by decide +kernel) (by decide +kernel), by decide +kernel, by decide +kernel, by decide⟩
theorem vBL_share : Cond.instanceMethod mBL_share.1 ∈ ev_T := ev_at 364 (by decide +kernel) (by decide +kernel)
theorem wBL_share : Cond.selects mBL_share.1.cls mBL_share.1 mBL_share.1 ∈ ev_T := ev_at 365 (by decide +kernel) (by decide +kernel)
theorem kLa_gramsOf : ev_ok mLa_gramsOf 1 := ⟨ev_at 370 rfl rfl, ev_at 48 (by decide +kernel) (by decide +kernel), by decide +kernel, by decide +kernel, by decide⟩
theorem vLa_gramsOf : Cond.instanceMethod mLa_gramsOf.1 ∈ ev_T := ev_at 368 (by decide +kernel) (by decide +kernel)
theorem wLa_gramsOf : Cond.selects mLa_gramsOf.1.cls mLa_gramsOf.1 mLa_gramsOf.1 ∈ ev_T := ev_at 369 (by decide +kernel) (by decide +kernel)
theorem kBL_greatestDivisor : ev_ok mBL_greatestDivisor 2 := ⟨ev_at 373 rfl rfl, ev_at 39 (by decide +kernel) (by decide +kernel), by decide +kernel, by decide +kernel, by decide⟩
theorem sBL_greatestDivisor : Cond.static mBL_greatestDivisor.1 ∈ ev_T := ev_at 372 (by decide +kernel) (by decide +kernel)
theorem kBL_back : ev_ok mBL_back 2 := ⟨ev_at 377 rfl rfl, ev_at 39 (by decide +kernel) (by decide +kernel), by decide +kernel, by decide +kernel, by decide⟩
theorem vBL_back : Cond.instanceMethod mBL_back.1 ∈ ev_T := ev_at 375 (by decide +kernel) (by decide +kernel)
theorem wBL_back : Cond.selects mBL_back.1.cls mBL_back.1 mBL_back.1 ∈ ev_T := ev_at 376 (by decide +kernel) (by decide +kernel)
theorem kTa_clear : ev_ok mTa_clear 0 := ⟨ev_at 381 rfl rfl, ev_at 40 (by decide +kernel) (by decide +kernel), by decide +kernel, by decide +kernel, by decide⟩
theorem vTa_clear : Cond.instanceMethod mTa_clear.1 ∈ ev_T := ev_at 379 (by decide +kernel) (by decide +kernel)
theorem wTa_clear : Cond.selects mTa_clear.1.cls mTa_clear.1 mTa_clear.1 ∈ ev_T := ev_at 380 (by decide +kernel) (by decide +kernel)
theorem kTa_count : ev_ok mTa_count 1 := ⟨ev_at 386 rfl rfl, ev_at 40 (by decide +kernel) (by decide +kernel), by decide +kernel, by decide +kernel, by decide⟩
theorem vTa_count : Cond.instanceMethod mTa_count.1 ∈ ev_T := ev_at 384 (by decide +kernel) (by decide +kernel)
theorem wTa_count : Cond.selects mTa_count.1.cls mTa_count.1 mTa_count.1 ∈ ev_T := ev_at 385 (by decide +kernel) (by decide +kernel)
theorem kTa_pick : ev_ok mTa_pick 1 := ⟨ev_at 390 rfl rfl, ev_at 40 (by decide +kernel) (by decide +kernel), by decide +kernel, by decide +kernel, by decide⟩
theorem vTa_pick : Cond.instanceMethod mTa_pick.1 ∈ ev_T := ev_at 388 (by decide +kernel) (by decide +kernel)
theorem wTa_pick : Cond.selects mTa_pick.1.cls mTa_pick.1 mTa_pick.1 ∈ ev_T := ev_at 389 (by decide +kernel) (by decide +kernel)
theorem kBL_recall : ev_ok mBL_recall 1 := ⟨ev_at 394 rfl rfl, ev_at 39 (by decide +kernel) (by decide +kernel), by decide +kernel, by decide +kernel, by decide⟩
theorem vBL_recall : Cond.instanceMethod mBL_recall.1 ∈ ev_T := ev_at 392 (by decide +kernel) (by decide +kernel)
theorem wBL_recall : Cond.selects mBL_recall.1.cls mBL_recall.1 mBL_recall.1 ∈ ev_T := ev_at 393 (by decide +kernel) (by decide +kernel)
theorem kBL_countBoxesWith : ev_ok mBL_countBoxesWith 1 := ⟨ev_at 398 rfl rfl, ev_at 39 (by decide +kernel) (by decide +kernel), by decide +kernel, by decide +kernel, by decide⟩
theorem vBL_countBoxesWith : Cond.instanceMethod mBL_countBoxesWith.1 ∈ ev_T := ev_at 397 (by decide +kernel) (by decide +kernel)
theorem wBL_countBoxesWith : Cond.selects mBL_countBoxesWith.1.cls mBL_countBoxesWith.1 mBL_countBoxesWith.1 ∈ ev_T := ev_at 5 (by decide +kernel) (by decide +kernel)
theorem kTa_countedAtLeast : ev_ok mTa_countedAtLeast 1 := ⟨ev_at 402 rfl rfl, ev_at 40 (by decide +kernel) (by decide +kernel), by decide +kernel, by decide +kernel, by decide⟩
theorem vTa_countedAtLeast : Cond.instanceMethod mTa_countedAtLeast.1 ∈ ev_T := ev_at 400 (by decide +kernel) (by decide +kernel)
theorem wTa_countedAtLeast : Cond.selects mTa_countedAtLeast.1.cls mTa_countedAtLeast.1 mTa_countedAtLeast.1 ∈ ev_T := ev_at 401 (by decide +kernel) (by decide +kernel)
theorem kBL_recalled : ev_ok mBL_recalled 2 := ⟨ev_at 406 rfl rfl, ev_at 39 (by decide +kernel) (by decide +kernel), by decide +kernel, by decide +kernel, by decide⟩
theorem vBL_recalled : Cond.instanceMethod mBL_recalled.1 ∈ ev_T := ev_at 404 (by decide +kernel) (by decide +kernel)
theorem wBL_recalled : Cond.selects mBL_recalled.1.cls mBL_recalled.1 mBL_recalled.1 ∈ ev_T := ev_at 405 (by decide +kernel) (by decide +kernel)
theorem kBL_doubled : ev_ok mBL_doubled 1 := ⟨ev_at 410 rfl rfl, ev_at 39 (by decide +kernel) (by decide +kernel), by decide +kernel, by decide +kernel, by decide⟩
theorem vBL_doubled : Cond.instanceMethod mBL_doubled.1 ∈ ev_T := ev_at 408 (by decide +kernel) (by decide +kernel)
theorem wBL_doubled : Cond.selects mBL_doubled.1.cls mBL_doubled.1 mBL_doubled.1 ∈ ev_T := ev_at 409 (by decide +kernel) (by decide +kernel)
theorem kBL_unit : ev_ok mBL_unit 1 := ⟨ev_at 414 rfl rfl, ev_at 39 (by decide +kernel) (by decide +kernel), by decide +kernel, by decide +kernel, by decide⟩
theorem vBL_unit : Cond.instanceMethod mBL_unit.1 ∈ ev_T := ev_at 412 (by decide +kernel) (by decide +kernel)
theorem wBL_unit : Cond.selects mBL_unit.1.cls mBL_unit.1 mBL_unit.1 ∈ ev_T := ev_at 413 (by decide +kernel) (by decide +kernel)
theorem kBy_put : ev_ok mBy_put 1 := ⟨ev_at 418 rfl rfl, ev_at 41 (by decide +kernel) (by decide +kernel), by decide +kernel, by decide +kernel, by decide⟩
theorem vBy_put : Cond.instanceMethod mBy_put.1 ∈ ev_T := ev_at 416 (by decide +kernel) (by decide +kernel)
theorem wBy_put : Cond.selects mBy_put.1.cls mBy_put.1 mBy_put.1 ∈ ev_T := ev_at 417 (by decide +kernel) (by decide +kernel)
theorem kBL_names : ev_ok mBL_names 0 := ⟨ev_at 422 rfl rfl, ev_at 39 (by decide +kernel) (by decide +kernel), by decide +kernel, by decide +kernel, by decide⟩
theorem vBL_names : Cond.instanceMethod mBL_names.1 ∈ ev_T := ev_at 420 (by decide +kernel) (by decide +kernel)
theorem wBL_names : Cond.selects mBL_names.1.cls mBL_names.1 mBL_names.1 ∈ ev_T := ev_at 421 (by decide +kernel) (by decide +kernel)
theorem kNa_read : ev_ok mNa_read 1 := ⟨ev_at 426 rfl rfl, ev_at 43 (by decide +kernel) (by decide +kernel), by decide +kernel, by decide +kernel, by decide⟩
theorem vNa_read : Cond.instanceMethod mNa_read.1 ∈ ev_T := ev_at 424 (by decide +kernel) (by decide +kernel)
theorem wNa_read : Cond.selects mNa_read.1.cls mNa_read.1 mNa_read.1 ∈ ev_T := ev_at 425 (by decide +kernel) (by decide +kernel)
theorem kRu_clear : ev_ok mRu_clear 0 := ⟨ev_at 430 rfl rfl, ev_at 44 (by decide +kernel) (by decide +kernel), by decide +kernel, by decide +kernel, by decide⟩
theorem vRu_clear : Cond.instanceMethod mRu_clear.1 ∈ ev_T := ev_at 428 (by decide +kernel) (by decide +kernel)
theorem wRu_clear : Cond.selects mRu_clear.1.cls mRu_clear.1 mRu_clear.1 ∈ ev_T := ev_at 429 (by decide +kernel) (by decide +kernel)
theorem kNa_skipBlanks : ev_ok mNa_skipBlanks 0 := ⟨ev_at 434 rfl rfl, ev_at 43 (by decide +kernel) (by decide +kernel), by decide +kernel, by decide +kernel, by decide⟩
theorem vNa_skipBlanks : Cond.instanceMethod mNa_skipBlanks.1 ∈ ev_T := ev_at 433 (by decide +kernel) (by decide +kernel)
theorem wNa_skipBlanks : Cond.selects mNa_skipBlanks.1.cls mNa_skipBlanks.1 mNa_skipBlanks.1 ∈ ev_T := ev_at 6 (by decide +kernel) (by decide +kernel)
theorem kNa_isBlank : ev_ok mNa_isBlank 0 := ⟨ev_at 438 rfl rfl, ev_at 43 (by decide +kernel) (by decide +kernel), by decide +kernel, by decide +kernel, by decide⟩
theorem vNa_isBlank : Cond.instanceMethod mNa_isBlank.1 ∈ ev_T := ev_at 437 (by decide +kernel) (by decide +kernel)
theorem wNa_isBlank : Cond.selects mNa_isBlank.1.cls mNa_isBlank.1 mNa_isBlank.1 ∈ ev_T := ev_at 7 (by decide +kernel) (by decide +kernel)
theorem kBy_byteAt : ev_ok mBy_byteAt 1 := ⟨ev_at 442 rfl rfl, ev_at 41 (by decide +kernel) (by decide +kernel), by decide +kernel, by decide +kernel, by decide⟩
theorem vBy_byteAt : Cond.instanceMethod mBy_byteAt.1 ∈ ev_T := ev_at 440 (by decide +kernel) (by decide +kernel)
theorem wBy_byteAt : Cond.selects mBy_byteAt.1.cls mBy_byteAt.1 mBy_byteAt.1 ∈ ev_T := ev_at 441 (by decide +kernel) (by decide +kernel)
theorem kBy_size : ev_ok mBy_size 0 := ⟨ev_at 446 rfl rfl, ev_at 41 (by decide +kernel) (by decide +kernel), by decide +kernel, by decide +kernel, by decide⟩
theorem vBy_size : Cond.instanceMethod mBy_size.1 ∈ ev_T := ev_at 444 (by decide +kernel) (by decide +kernel)
theorem wBy_size : Cond.selects mBy_size.1.cls mBy_size.1 mBy_size.1 ∈ ev_T := ev_at 445 (by decide +kernel) (by decide +kernel)
theorem kNa_readRule : ev_ok mNa_readRule 1 := ⟨ev_at 450 rfl rfl, ev_at 43 (by decide +kernel) (by decide +kernel), by decide +kernel, by decide +kernel, by decide⟩
theorem vNa_readRule : Cond.instanceMethod mNa_readRule.1 ∈ ev_T := ev_at 449 (by decide +kernel) (by decide +kernel)
theorem wNa_readRule : Cond.selects mNa_readRule.1.cls mNa_readRule.1 mNa_readRule.1 ∈ ev_T := ev_at 8 (by decide +kernel) (by decide +kernel)
theorem kRu_isFull : ev_ok mRu_isFull 0 := ⟨ev_at 454 rfl rfl, ev_at 44 (by decide +kernel) (by decide +kernel), by decide +kernel, by decide +kernel, by decide⟩
theorem vRu_isFull : Cond.instanceMethod mRu_isFull.1 ∈ ev_T := ev_at 452 (by decide +kernel) (by decide +kernel)
theorem wRu_isFull : Cond.selects mRu_isFull.1.cls mRu_isFull.1 mRu_isFull.1 ∈ ev_T := ev_at 453 (by decide +kernel) (by decide +kernel)
theorem kNa_readNumber : ev_ok mNa_readNumber 2 := ⟨ev_at 458 rfl rfl, ev_at 43 (by decide +kernel) (by decide +kernel), by decide +kernel, by decide +kernel, by decide⟩
theorem vNa_readNumber : Cond.instanceMethod mNa_readNumber.1 ∈ ev_T := ev_at 457 (by decide +kernel) (by decide +kernel)
theorem wNa_readNumber : Cond.selects mNa_readNumber.1.cls mNa_readNumber.1 mNa_readNumber.1 ∈ ev_T := ev_at 9 (by decide +kernel) (by decide +kernel)
theorem kNa_isDigit : ev_ok mNa_isDigit 0 := ⟨ev_at 462 rfl rfl, ev_at 43 (by decide +kernel) (by decide +kernel), by decide +kernel, by decide +kernel, by decide⟩
theorem vNa_isDigit : Cond.instanceMethod mNa_isDigit.1 ∈ ev_T := ev_at 461 (by decide +kernel) (by decide +kernel)
theorem wNa_isDigit : Cond.selects mNa_isDigit.1.cls mNa_isDigit.1 mNa_isDigit.1 ∈ ev_T := ev_at 10 (by decide +kernel) (by decide +kernel)
theorem kNa_fail : ev_ok mNa_fail 1 := ⟨ev_at 466 rfl rfl, ev_at 43 (by decide +kernel) (by decide +kernel), by decide +kernel, by decide +kernel, by decide⟩
theorem vNa_fail : Cond.instanceMethod mNa_fail.1 ∈ ev_T := ev_at 465 (by decide +kernel) (by decide +kernel)
theorem wNa_fail : Cond.selects mNa_fail.1.cls mNa_fail.1 mNa_fail.1 ∈ ev_T := ev_at 11 (by decide +kernel) (by decide +kernel)
theorem kNa_readSign : ev_ok mNa_readSign 1 := ⟨ev_at 470 rfl rfl, ev_at 43 (by decide +kernel) (by decide +kernel), by decide +kernel, by decide +kernel, by decide⟩
theorem vNa_readSign : Cond.instanceMethod mNa_readSign.1 ∈ ev_T := ev_at 469 (by decide +kernel) (by decide +kernel)
theorem wNa_readSign : Cond.selects mNa_readSign.1.cls mNa_readSign.1 mNa_readSign.1 ∈ ev_T := ev_at 12 (by decide +kernel) (by decide +kernel)
theorem kRu_add : ev_ok mRu_add 4 := ⟨ev_at 475 rfl rfl, ev_at 44 (by decide +kernel) (by decide +kernel), by decide +kernel, by decide +kernel, by decide⟩
theorem vRu_add : Cond.instanceMethod mRu_add.1 ∈ ev_T := ev_at 473 (by decide +kernel) (by decide +kernel)
theorem wRu_add : Cond.selects mRu_add.1.cls mRu_add.1 mRu_add.1 ∈ ev_T := ev_at 474 (by decide +kernel) (by decide +kernel)
theorem kBy_clear : ev_ok mBy_clear 0 := ⟨ev_at 480 rfl rfl, ev_at 41 (by decide +kernel) (by decide +kernel), by decide +kernel, by decide +kernel, by decide⟩
theorem vBy_clear : Cond.instanceMethod mBy_clear.1 ∈ ev_T := ev_at 478 (by decide +kernel) (by decide +kernel)
theorem wBy_clear : Cond.selects mBy_clear.1.cls mBy_clear.1 mBy_clear.1 ∈ ev_T := ev_at 479 (by decide +kernel) (by decide +kernel)
theorem kRu_size : ev_ok mRu_size 0 := ⟨ev_at 484 rfl rfl, ev_at 44 (by decide +kernel) (by decide +kernel), by decide +kernel, by decide +kernel, by decide⟩
theorem vRu_size : Cond.instanceMethod mRu_size.1 ∈ ev_T := ev_at 482 (by decide +kernel) (by decide +kernel)
theorem wRu_size : Cond.selects mRu_size.1.cls mRu_size.1 mRu_size.1 ∈ ev_T := ev_at 483 (by decide +kernel) (by decide +kernel)
theorem kBL_name : ev_ok mBL_name 3 := ⟨ev_at 488 rfl rfl, ev_at 39 (by decide +kernel) (by decide +kernel), by decide +kernel, by decide +kernel, by decide⟩
theorem vBL_name : Cond.instanceMethod mBL_name.1 ∈ ev_T := ev_at 486 (by decide +kernel) (by decide +kernel)
theorem wBL_name : Cond.selects mBL_name.1.cls mBL_name.1 mBL_name.1 ∈ ev_T := ev_at 487 (by decide +kernel) (by decide +kernel)
theorem kRu_inForce : ev_ok mRu_inForce 2 := ⟨ev_at 492 rfl rfl, ev_at 44 (by decide +kernel) (by decide +kernel), by decide +kernel, by decide +kernel, by decide⟩
theorem vRu_inForce : Cond.instanceMethod mRu_inForce.1 ∈ ev_T := ev_at 490 (by decide +kernel) (by decide +kernel)
theorem wRu_inForce : Cond.selects mRu_inForce.1.cls mRu_inForce.1 mRu_inForce.1 ∈ ev_T := ev_at 491 (by decide +kernel) (by decide +kernel)
theorem kRu_allows : ev_ok mRu_allows 2 := ⟨ev_at 496 rfl rfl, ev_at 44 (by decide +kernel) (by decide +kernel), by decide +kernel, by decide +kernel, by decide⟩
theorem vRu_allows : Cond.instanceMethod mRu_allows.1 ∈ ev_T := ev_at 494 (by decide +kernel) (by decide +kernel)
theorem wRu_allows : Cond.selects mRu_allows.1.cls mRu_allows.1 mRu_allows.1 ∈ ev_T := ev_at 495 (by decide +kernel) (by decide +kernel)
theorem kBL_certificate : ev_ok mBL_certificate 1 := ⟨ev_at 500 rfl rfl, ev_at 39 (by decide +kernel) (by decide +kernel), by decide +kernel, by decide +kernel, by decide⟩
theorem vBL_certificate : Cond.instanceMethod mBL_certificate.1 ∈ ev_T := ev_at 498 (by decide +kernel) (by decide +kernel)
theorem wBL_certificate : Cond.selects mBL_certificate.1.cls mBL_certificate.1 mBL_certificate.1 ∈ ev_T := ev_at 499 (by decide +kernel) (by decide +kernel)
theorem kLe_open : ev_ok mLe_open 1 := ⟨ev_at 504 rfl rfl, ev_at 45 (by decide +kernel) (by decide +kernel), by decide +kernel, by decide +kernel, by decide⟩
theorem vLe_open : Cond.instanceMethod mLe_open.1 ∈ ev_T := ev_at 502 (by decide +kernel) (by decide +kernel)
theorem wLe_open : Cond.selects mLe_open.1.cls mLe_open.1 mLe_open.1 ∈ ev_T := ev_at 503 (by decide +kernel) (by decide +kernel)
theorem kBL_credit : ev_ok mBL_credit 3 := ⟨ev_at 508 rfl rfl, ev_at 39 (by decide +kernel) (by decide +kernel), by decide +kernel, by decide +kernel, by decide⟩
theorem vBL_credit : Cond.instanceMethod mBL_credit.1 ∈ ev_T := ev_at 506 (by decide +kernel) (by decide +kernel)
theorem wBL_credit : Cond.selects mBL_credit.1.cls mBL_credit.1 mBL_credit.1 ∈ ev_T := ev_at 507 (by decide +kernel) (by decide +kernel)
theorem kBL_canEnter : ev_ok mBL_canEnter 3 := ⟨ev_at 512 rfl rfl, ev_at 39 (by decide +kernel) (by decide +kernel), by decide +kernel, by decide +kernel, by decide⟩
theorem vBL_canEnter : Cond.instanceMethod mBL_canEnter.1 ∈ ev_T := ev_at 511 (by decide +kernel) (by decide +kernel)
theorem wBL_canEnter : Cond.selects mBL_canEnter.1.cls mBL_canEnter.1 mBL_canEnter.1 ∈ ev_T := ev_at 13 (by decide +kernel) (by decide +kernel)
theorem kLe_has : ev_ok mLe_has 1 := ⟨ev_at 516 rfl rfl, ev_at 45 (by decide +kernel) (by decide +kernel), by decide +kernel, by decide +kernel, by decide⟩
theorem vLe_has : Cond.instanceMethod mLe_has.1 ∈ ev_T := ev_at 514 (by decide +kernel) (by decide +kernel)
theorem wLe_has : Cond.selects mLe_has.1.cls mLe_has.1 mLe_has.1 ∈ ev_T := ev_at 515 (by decide +kernel) (by decide +kernel)
theorem kLe_isFull : ev_ok mLe_isFull 0 := ⟨ev_at 520 rfl rfl, ev_at 45 (by decide +kernel) (by decide +kernel), by decide +kernel, by decide +kernel, by decide⟩
theorem vLe_isFull : Cond.instanceMethod mLe_isFull.1 ∈ ev_T := ev_at 518 (by decide +kernel) (by decide +kernel)
theorem wLe_isFull : Cond.selects mLe_isFull.1.cls mLe_isFull.1 mLe_isFull.1 ∈ ev_T := ev_at 519 (by decide +kernel) (by decide +kernel)
theorem kLe_enter : ev_ok mLe_enter 3 := ⟨ev_at 524 rfl rfl, ev_at 45 (by decide +kernel) (by decide +kernel), by decide +kernel, by decide +kernel, by decide⟩
theorem vLe_enter : Cond.instanceMethod mLe_enter.1 ∈ ev_T := ev_at 522 (by decide +kernel) (by decide +kernel)
theorem wLe_enter : Cond.selects mLe_enter.1.cls mLe_enter.1 mLe_enter.1 ∈ ev_T := ev_at 523 (by decide +kernel) (by decide +kernel)
theorem kBL_claim : ev_ok mBL_claim 3 := ⟨ev_at 529 rfl rfl, ev_at 39 (by decide +kernel) (by decide +kernel), by decide +kernel, by decide +kernel, by decide⟩
theorem vBL_claim : Cond.instanceMethod mBL_claim.1 ∈ ev_T := ev_at 527 (by decide +kernel) (by decide +kernel)
theorem wBL_claim : Cond.selects mBL_claim.1.cls mBL_claim.1 mBL_claim.1 ∈ ev_T := ev_at 528 (by decide +kernel) (by decide +kernel)
theorem kLe_isOver : ev_ok mLe_isOver 2 := ⟨ev_at 533 rfl rfl, ev_at 45 (by decide +kernel) (by decide +kernel), by decide +kernel, by decide +kernel, by decide⟩
theorem vLe_isOver : Cond.instanceMethod mLe_isOver.1 ∈ ev_T := ev_at 531 (by decide +kernel) (by decide +kernel)
theorem wLe_isOver : Cond.selects mLe_isOver.1.cls mLe_isOver.1 mLe_isOver.1 ∈ ev_T := ev_at 532 (by decide +kernel) (by decide +kernel)
theorem kLe_covers : ev_ok mLe_covers 3 := ⟨ev_at 538 rfl rfl, ev_at 45 (by decide +kernel) (by decide +kernel), by decide +kernel, by decide +kernel, by decide⟩
theorem vLe_covers : Cond.instanceMethod mLe_covers.1 ∈ ev_T := ev_at 536 (by decide +kernel) (by decide +kernel)
theorem wLe_covers : Cond.selects mLe_covers.1.cls mLe_covers.1 mLe_covers.1 ∈ ev_T := ev_at 537 (by decide +kernel) (by decide +kernel)
theorem kLe_sumUpTo : ev_ok mLe_sumUpTo 2 := ⟨ev_at 542 rfl rfl, ev_at 45 (by decide +kernel) (by decide +kernel), by decide +kernel, by decide +kernel, by decide⟩
theorem vLe_sumUpTo : Cond.instanceMethod mLe_sumUpTo.1 ∈ ev_T := ev_at 540 (by decide +kernel) (by decide +kernel)
theorem wLe_sumUpTo : Cond.selects mLe_sumUpTo.1.cls mLe_sumUpTo.1 mLe_sumUpTo.1 ∈ ev_T := ev_at 541 (by decide +kernel) (by decide +kernel)
theorem kBL_balance : ev_ok mBL_balance 2 := ⟨ev_at 546 rfl rfl, ev_at 39 (by decide +kernel) (by decide +kernel), by decide +kernel, by decide +kernel, by decide⟩
theorem vBL_balance : Cond.instanceMethod mBL_balance.1 ∈ ev_T := ev_at 544 (by decide +kernel) (by decide +kernel)
theorem wBL_balance : Cond.selects mBL_balance.1.cls mBL_balance.1 mBL_balance.1 ∈ ev_T := ev_at 545 (by decide +kernel) (by decide +kernel)
theorem kBL_warm : ev_ok mBL_warm 2 := ⟨ev_at 551 rfl rfl, ev_at 39 (by decide +kernel) (by decide +kernel), by decide +kernel, by decide +kernel, by decide⟩
theorem vBL_warm : Cond.instanceMethod mBL_warm.1 ∈ ev_T := ev_at 549 (by decide +kernel) (by decide +kernel)
theorem wBL_warm : Cond.selects mBL_warm.1.cls mBL_warm.1 mBL_warm.1 ∈ ev_T := ev_at 550 (by decide +kernel) (by decide +kernel)
theorem kBL_paper : ev_ok mBL_paper 3 := ⟨ev_at 556 rfl rfl, ev_at 39 (by decide +kernel) (by decide +kernel), by decide +kernel, by decide +kernel, by decide⟩
theorem vBL_paper : Cond.instanceMethod mBL_paper.1 ∈ ev_T := ev_at 554 (by decide +kernel) (by decide +kernel)
theorem wBL_paper : Cond.selects mBL_paper.1.cls mBL_paper.1 mBL_paper.1 ∈ ev_T := ev_at 555 (by decide +kernel) (by decide +kernel)
theorem kBy_putNumber : ev_ok mBy_putNumber 1 := ⟨ev_at 560 rfl rfl, ev_at 41 (by decide +kernel) (by decide +kernel), by decide +kernel, by decide +kernel, by decide⟩
theorem vBy_putNumber : Cond.instanceMethod mBy_putNumber.1 ∈ ev_T := ev_at 558 (by decide +kernel) (by decide +kernel)
theorem wBy_putNumber : Cond.selects mBy_putNumber.1.cls mBy_putNumber.1 mBy_putNumber.1 ∈ ev_T := ev_at 559 (by decide +kernel) (by decide +kernel)
theorem kBy_digitsOf : ev_ok mBy_digitsOf 1 := ⟨ev_at 563 rfl rfl, ev_at 41 (by decide +kernel) (by decide +kernel), by decide +kernel, by decide +kernel, by decide⟩
theorem sBy_digitsOf : Cond.static mBy_digitsOf.1 ∈ ev_T := ev_at 562 (by decide +kernel) (by decide +kernel)
theorem kBL_all : ev_ok mBL_all 1 := ⟨ev_at 569 rfl rfl, ev_at 39 (by decide +kernel) (by decide +kernel), by decide +kernel, by decide +kernel, by decide⟩
theorem vBL_all : Cond.instanceMethod mBL_all.1 ∈ ev_T := ev_at 567 (by decide +kernel) (by decide +kernel)
theorem wBL_all : Cond.selects mBL_all.1.cls mBL_all.1 mBL_all.1 ∈ ev_T := ev_at 568 (by decide +kernel) (by decide +kernel)
theorem kBL_sumOfFact : ev_ok mBL_sumOfFact 1 := ⟨ev_at 573 rfl rfl, ev_at 39 (by decide +kernel) (by decide +kernel), by decide +kernel, by decide +kernel, by decide⟩
theorem vBL_sumOfFact : Cond.instanceMethod mBL_sumOfFact.1 ∈ ev_T := ev_at 572 (by decide +kernel) (by decide +kernel)
theorem wBL_sumOfFact : Cond.selects mBL_sumOfFact.1.cls mBL_sumOfFact.1 mBL_sumOfFact.1 ∈ ev_T := ev_at 14 (by decide +kernel) (by decide +kernel)
theorem kBL_sumInside : ev_ok mBL_sumInside 1 := ⟨ev_at 577 rfl rfl, ev_at 39 (by decide +kernel) (by decide +kernel), by decide +kernel, by decide +kernel, by decide⟩
theorem vBL_sumInside : Cond.instanceMethod mBL_sumInside.1 ∈ ev_T := ev_at 576 (by decide +kernel) (by decide +kernel)
theorem wBL_sumInside : Cond.selects mBL_sumInside.1.cls mBL_sumInside.1 mBL_sumInside.1 ∈ ev_T := ev_at 15 (by decide +kernel) (by decide +kernel)
theorem kLe_size : ev_ok mLe_size 0 := ⟨ev_at 581 rfl rfl, ev_at 45 (by decide +kernel) (by decide +kernel), by decide +kernel, by decide +kernel, by decide⟩
theorem vLe_size : Cond.instanceMethod mLe_size.1 ∈ ev_T := ev_at 579 (by decide +kernel) (by decide +kernel)
theorem wLe_size : Cond.selects mLe_size.1.cls mLe_size.1 mLe_size.1 ∈ ev_T := ev_at 580 (by decide +kernel) (by decide +kernel)
theorem kMo_init : ev_ok mMo_init 0 := ⟨ev_at 586 rfl rfl, ev_at 46 (by decide +kernel) (by decide +kernel), by decide +kernel, by decide +kernel, by decide⟩
theorem vMo_init : Cond.instanceMethod mMo_init.1 ∈ ev_T := ev_at 585 (by decide +kernel) (by decide +kernel)
theorem kMo_haul : ev_ok mMo_haul 3 := ⟨ev_at 701 rfl rfl, ev_at 46 (by decide +kernel) (by decide +kernel), by decide +kernel, by decide +kernel, by decide⟩
theorem vMo_haul : Cond.instanceMethod mMo_haul.1 ∈ ev_T := ev_at 699 (by decide +kernel) (by decide +kernel)
theorem wMo_haul : Cond.selects mMo_haul.1.cls mMo_haul.1 mMo_haul.1 ∈ ev_T := ev_at 700 (by decide +kernel) (by decide +kernel)
theorem kMo_make : ev_ok mMo_make 4 := ⟨ev_at 707 rfl rfl, ev_at 46 (by decide +kernel) (by decide +kernel), by decide +kernel, by decide +kernel, by decide⟩
theorem vMo_make : Cond.instanceMethod mMo_make.1 ∈ ev_T := ev_at 706 (by decide +kernel) (by decide +kernel)
theorem wMo_make : Cond.selects mMo_make.1.cls mMo_make.1 mMo_make.1 ∈ ev_T := ev_at 16 (by decide +kernel) (by decide +kernel)
theorem kMo_batch : ev_ok mMo_batch 0 := ⟨ev_at 711 rfl rfl, ev_at 46 (by decide +kernel) (by decide +kernel), by decide +kernel, by decide +kernel, by decide⟩
theorem vMo_batch : Cond.instanceMethod mMo_batch.1 ∈ ev_T := ev_at 709 (by decide +kernel) (by decide +kernel)
theorem wMo_batch : Cond.selects mMo_batch.1.cls mMo_batch.1 mMo_batch.1 ∈ ev_T := ev_at 710 (by decide +kernel) (by decide +kernel)
theorem kMo_into : ev_ok mMo_into 3 := ⟨ev_at 715 rfl rfl, ev_at 46 (by decide +kernel) (by decide +kernel), by decide +kernel, by decide +kernel, by decide⟩
theorem vMo_into : Cond.instanceMethod mMo_into.1 ∈ ev_T := ev_at 713 (by decide +kernel) (by decide +kernel)
theorem wMo_into : Cond.selects mMo_into.1.cls mMo_into.1 mMo_into.1 ∈ ev_T := ev_at 714 (by decide +kernel) (by decide +kernel)
theorem kMo_isOf : ev_ok mMo_isOf 2 := ⟨ev_at 719 rfl rfl, ev_at 46 (by decide +kernel) (by decide +kernel), by decide +kernel, by decide +kernel, by decide⟩
theorem vMo_isOf : Cond.instanceMethod mMo_isOf.1 ∈ ev_T := ev_at 718 (by decide +kernel) (by decide +kernel)
theorem wMo_isOf : Cond.selects mMo_isOf.1.cls mMo_isOf.1 mMo_isOf.1 ∈ ev_T := ev_at 17 (by decide +kernel) (by decide +kernel)
theorem kMo_isThing : ev_ok mMo_isThing 1 := ⟨ev_at 723 rfl rfl, ev_at 46 (by decide +kernel) (by decide +kernel), by decide +kernel, by decide +kernel, by decide⟩
theorem vMo_isThing : Cond.instanceMethod mMo_isThing.1 ∈ ev_T := ev_at 722 (by decide +kernel) (by decide +kernel)
theorem wMo_isThing : Cond.selects mMo_isThing.1.cls mMo_isThing.1 mMo_isThing.1 ∈ ev_T := ev_at 18 (by decide +kernel) (by decide +kernel)
theorem kMo_isSource : ev_ok mMo_isSource 1 := ⟨ev_at 727 rfl rfl, ev_at 46 (by decide +kernel) (by decide +kernel), by decide +kernel, by decide +kernel, by decide⟩
theorem vMo_isSource : Cond.instanceMethod mMo_isSource.1 ∈ ev_T := ev_at 726 (by decide +kernel) (by decide +kernel)
theorem wMo_isSource : Cond.selects mMo_isSource.1.cls mMo_isSource.1 mMo_isSource.1 ∈ ev_T := ev_at 19 (by decide +kernel) (by decide +kernel)
theorem kMo_has : ev_ok mMo_has 2 := ⟨ev_at 731 rfl rfl, ev_at 46 (by decide +kernel) (by decide +kernel), by decide +kernel, by decide +kernel, by decide⟩
theorem vMo_has : Cond.instanceMethod mMo_has.1 ∈ ev_T := ev_at 730 (by decide +kernel) (by decide +kernel)
theorem wMo_has : Cond.selects mMo_has.1.cls mMo_has.1 mMo_has.1 ∈ ev_T := ev_at 20 (by decide +kernel) (by decide +kernel)
theorem kMo_gramsIn : ev_ok mMo_gramsIn 1 := ⟨ev_at 735 rfl rfl, ev_at 46 (by decide +kernel) (by decide +kernel), by decide +kernel, by decide +kernel, by decide⟩
theorem vMo_gramsIn : Cond.instanceMethod mMo_gramsIn.1 ∈ ev_T := ev_at 734 (by decide +kernel) (by decide +kernel)
theorem wMo_gramsIn : Cond.selects mMo_gramsIn.1.cls mMo_gramsIn.1 mMo_gramsIn.1 ∈ ev_T := ev_at 21 (by decide +kernel) (by decide +kernel)
theorem kMo_layBy : ev_ok mMo_layBy 3 := ⟨ev_at 739 rfl rfl, ev_at 46 (by decide +kernel) (by decide +kernel), by decide +kernel, by decide +kernel, by decide⟩
theorem vMo_layBy : Cond.instanceMethod mMo_layBy.1 ∈ ev_T := ev_at 738 (by decide +kernel) (by decide +kernel)
theorem wMo_layBy : Cond.selects mMo_layBy.1.cls mMo_layBy.1 mMo_layBy.1 ∈ ev_T := ev_at 22 (by decide +kernel) (by decide +kernel)
theorem kMo_lay : ev_ok mMo_lay 2 := ⟨ev_at 743 rfl rfl, ev_at 46 (by decide +kernel) (by decide +kernel), by decide +kernel, by decide +kernel, by decide⟩
theorem vMo_lay : Cond.instanceMethod mMo_lay.1 ∈ ev_T := ev_at 742 (by decide +kernel) (by decide +kernel)
theorem wMo_lay : Cond.selects mMo_lay.1.cls mMo_lay.1 mMo_lay.1 ∈ ev_T := ev_at 23 (by decide +kernel) (by decide +kernel)
theorem kMo_putDown : ev_ok mMo_putDown 1 := ⟨ev_at 747 rfl rfl, ev_at 46 (by decide +kernel) (by decide +kernel), by decide +kernel, by decide +kernel, by decide⟩
theorem vMo_putDown : Cond.instanceMethod mMo_putDown.1 ∈ ev_T := ev_at 746 (by decide +kernel) (by decide +kernel)
theorem wMo_putDown : Cond.selects mMo_putDown.1.cls mMo_putDown.1 mMo_putDown.1 ∈ ev_T := ev_at 24 (by decide +kernel) (by decide +kernel)
theorem kMo_takeOut : ev_ok mMo_takeOut 2 := ⟨ev_at 751 rfl rfl, ev_at 46 (by decide +kernel) (by decide +kernel), by decide +kernel, by decide +kernel, by decide⟩
theorem vMo_takeOut : Cond.instanceMethod mMo_takeOut.1 ∈ ev_T := ev_at 750 (by decide +kernel) (by decide +kernel)
theorem wMo_takeOut : Cond.selects mMo_takeOut.1.cls mMo_takeOut.1 mMo_takeOut.1 ∈ ev_T := ev_at 25 (by decide +kernel) (by decide +kernel)
theorem kMo_box : ev_ok mMo_box 3 := ⟨ev_at 755 rfl rfl, ev_at 46 (by decide +kernel) (by decide +kernel), by decide +kernel, by decide +kernel, by decide⟩
theorem vMo_box : Cond.instanceMethod mMo_box.1 ∈ ev_T := ev_at 753 (by decide +kernel) (by decide +kernel)
theorem wMo_box : Cond.selects mMo_box.1.cls mMo_box.1 mMo_box.1 ∈ ev_T := ev_at 754 (by decide +kernel) (by decide +kernel)
theorem kMo_waste : ev_ok mMo_waste 2 := ⟨ev_at 759 rfl rfl, ev_at 46 (by decide +kernel) (by decide +kernel), by decide +kernel, by decide +kernel, by decide⟩
theorem vMo_waste : Cond.instanceMethod mMo_waste.1 ∈ ev_T := ev_at 757 (by decide +kernel) (by decide +kernel)
theorem wMo_waste : Cond.selects mMo_waste.1.cls mMo_waste.1 mMo_waste.1 ∈ ev_T := ev_at 758 (by decide +kernel) (by decide +kernel)
theorem kMo_hold : ev_ok mMo_hold 2 := ⟨ev_at 764 rfl rfl, ev_at 46 (by decide +kernel) (by decide +kernel), by decide +kernel, by decide +kernel, by decide⟩
theorem vMo_hold : Cond.instanceMethod mMo_hold.1 ∈ ev_T := ev_at 762 (by decide +kernel) (by decide +kernel)
theorem wMo_hold : Cond.selects mMo_hold.1.cls mMo_hold.1 mMo_hold.1 ∈ ev_T := ev_at 763 (by decide +kernel) (by decide +kernel)
theorem kMo_correct : ev_ok mMo_correct 2 := ⟨ev_at 768 rfl rfl, ev_at 46 (by decide +kernel) (by decide +kernel), by decide +kernel, by decide +kernel, by decide⟩
theorem vMo_correct : Cond.instanceMethod mMo_correct.1 ∈ ev_T := ev_at 766 (by decide +kernel) (by decide +kernel)
theorem wMo_correct : Cond.selects mMo_correct.1.cls mMo_correct.1 mMo_correct.1 ∈ ev_T := ev_at 767 (by decide +kernel) (by decide +kernel)
theorem kMo_told : ev_ok mMo_told 2 := ⟨ev_at 772 rfl rfl, ev_at 46 (by decide +kernel) (by decide +kernel), by decide +kernel, by decide +kernel, by decide⟩
theorem vMo_told : Cond.instanceMethod mMo_told.1 ∈ ev_T := ev_at 770 (by decide +kernel) (by decide +kernel)
theorem wMo_told : Cond.selects mMo_told.1.cls mMo_told.1 mMo_told.1 ∈ ev_T := ev_at 771 (by decide +kernel) (by decide +kernel)
theorem kMo_layer : ev_ok mMo_layer 3 := ⟨ev_at 776 rfl rfl, ev_at 46 (by decide +kernel) (by decide +kernel), by decide +kernel, by decide +kernel, by decide⟩
theorem vMo_layer : Cond.instanceMethod mMo_layer.1 ∈ ev_T := ev_at 774 (by decide +kernel) (by decide +kernel)
theorem wMo_layer : Cond.selects mMo_layer.1.cls mMo_layer.1 mMo_layer.1 ∈ ev_T := ev_at 775 (by decide +kernel) (by decide +kernel)
theorem kMo_share : ev_ok mMo_share 3 := ⟨ev_at 780 rfl rfl, ev_at 46 (by decide +kernel) (by decide +kernel), by decide +kernel, by decide +kernel, by decide⟩
theorem vMo_share : Cond.instanceMethod mMo_share.1 ∈ ev_T := ev_at 778 (by decide +kernel) (by decide +kernel)
theorem wMo_share : Cond.selects mMo_share.1.cls mMo_share.1 mMo_share.1 ∈ ev_T := ev_at 779 (by decide +kernel) (by decide +kernel)
theorem kMo_gramsFrom : ev_ok mMo_gramsFrom 2 := ⟨ev_at 784 rfl rfl, ev_at 46 (by decide +kernel) (by decide +kernel), by decide +kernel, by decide +kernel, by decide⟩
theorem vMo_gramsFrom : Cond.instanceMethod mMo_gramsFrom.1 ∈ ev_T := ev_at 783 (by decide +kernel) (by decide +kernel)
theorem wMo_gramsFrom : Cond.selects mMo_gramsFrom.1.cls mMo_gramsFrom.1 mMo_gramsFrom.1 ∈ ev_T := ev_at 26 (by decide +kernel) (by decide +kernel)
theorem kMo_back : ev_ok mMo_back 2 := ⟨ev_at 788 rfl rfl, ev_at 46 (by decide +kernel) (by decide +kernel), by decide +kernel, by decide +kernel, by decide⟩
theorem vMo_back : Cond.instanceMethod mMo_back.1 ∈ ev_T := ev_at 786 (by decide +kernel) (by decide +kernel)
theorem wMo_back : Cond.selects mMo_back.1.cls mMo_back.1 mMo_back.1 ∈ ev_T := ev_at 787 (by decide +kernel) (by decide +kernel)
theorem kMo_recall : ev_ok mMo_recall 1 := ⟨ev_at 792 rfl rfl, ev_at 46 (by decide +kernel) (by decide +kernel), by decide +kernel, by decide +kernel, by decide⟩
theorem vMo_recall : Cond.instanceMethod mMo_recall.1 ∈ ev_T := ev_at 790 (by decide +kernel) (by decide +kernel)
theorem wMo_recall : Cond.selects mMo_recall.1.cls mMo_recall.1 mMo_recall.1 ∈ ev_T := ev_at 791 (by decide +kernel) (by decide +kernel)
theorem kMo_boxesOf : ev_ok mMo_boxesOf 2 := ⟨ev_at 796 rfl rfl, ev_at 46 (by decide +kernel) (by decide +kernel), by decide +kernel, by decide +kernel, by decide⟩
theorem vMo_boxesOf : Cond.instanceMethod mMo_boxesOf.1 ∈ ev_T := ev_at 795 (by decide +kernel) (by decide +kernel)
theorem wMo_boxesOf : Cond.selects mMo_boxesOf.1.cls mMo_boxesOf.1 mMo_boxesOf.1 ∈ ev_T := ev_at 27 (by decide +kernel) (by decide +kernel)
theorem kMo_recalled : ev_ok mMo_recalled 2 := ⟨ev_at 800 rfl rfl, ev_at 46 (by decide +kernel) (by decide +kernel), by decide +kernel, by decide +kernel, by decide⟩
theorem vMo_recalled : Cond.instanceMethod mMo_recalled.1 ∈ ev_T := ev_at 798 (by decide +kernel) (by decide +kernel)
theorem wMo_recalled : Cond.selects mMo_recalled.1.cls mMo_recalled.1 mMo_recalled.1 ∈ ev_T := ev_at 799 (by decide +kernel) (by decide +kernel)
theorem kMo_doubled : ev_ok mMo_doubled 1 := ⟨ev_at 804 rfl rfl, ev_at 46 (by decide +kernel) (by decide +kernel), by decide +kernel, by decide +kernel, by decide⟩
theorem vMo_doubled : Cond.instanceMethod mMo_doubled.1 ∈ ev_T := ev_at 802 (by decide +kernel) (by decide +kernel)
theorem wMo_doubled : Cond.selects mMo_doubled.1.cls mMo_doubled.1 mMo_doubled.1 ∈ ev_T := ev_at 803 (by decide +kernel) (by decide +kernel)
theorem kMo_unit : ev_ok mMo_unit 1 := ⟨ev_at 808 rfl rfl, ev_at 46 (by decide +kernel) (by decide +kernel), by decide +kernel, by decide +kernel, by decide⟩
theorem vMo_unit : Cond.instanceMethod mMo_unit.1 ∈ ev_T := ev_at 806 (by decide +kernel) (by decide +kernel)
theorem wMo_unit : Cond.selects mMo_unit.1.cls mMo_unit.1 mMo_unit.1 ∈ ev_T := ev_at 807 (by decide +kernel) (by decide +kernel)
theorem kMo_names : ev_ok mMo_names 0 := ⟨ev_at 812 rfl rfl, ev_at 46 (by decide +kernel) (by decide +kernel), by decide +kernel, by decide +kernel, by decide⟩
theorem vMo_names : Cond.instanceMethod mMo_names.1 ∈ ev_T := ev_at 810 (by decide +kernel) (by decide +kernel)
theorem wMo_names : Cond.selects mMo_names.1.cls mMo_names.1 mMo_names.1 ∈ ev_T := ev_at 811 (by decide +kernel) (by decide +kernel)
theorem kMo_skip : ev_ok mMo_skip 0 := ⟨ev_at 816 rfl rfl, ev_at 46 (by decide +kernel) (by decide +kernel), by decide +kernel, by decide +kernel, by decide⟩
theorem vMo_skip : Cond.instanceMethod mMo_skip.1 ∈ ev_T := ev_at 815 (by decide +kernel) (by decide +kernel)
theorem wMo_skip : Cond.selects mMo_skip.1.cls mMo_skip.1 mMo_skip.1 ∈ ev_T := ev_at 28 (by decide +kernel) (by decide +kernel)
theorem kMo_number : ev_ok mMo_number 2 := ⟨ev_at 821 rfl rfl, ev_at 46 (by decide +kernel) (by decide +kernel), by decide +kernel, by decide +kernel, by decide⟩
theorem vMo_number : Cond.instanceMethod mMo_number.1 ∈ ev_T := ev_at 820 (by decide +kernel) (by decide +kernel)
theorem wMo_number : Cond.selects mMo_number.1.cls mMo_number.1 mMo_number.1 ∈ ev_T := ev_at 29 (by decide +kernel) (by decide +kernel)
theorem kMo_isDigit : ev_ok mMo_isDigit 1 := ⟨ev_at 825 rfl rfl, ev_at 46 (by decide +kernel) (by decide +kernel), by decide +kernel, by decide +kernel, by decide⟩
theorem vMo_isDigit : Cond.instanceMethod mMo_isDigit.1 ∈ ev_T := ev_at 824 (by decide +kernel) (by decide +kernel)
theorem wMo_isDigit : Cond.selects mMo_isDigit.1.cls mMo_isDigit.1 mMo_isDigit.1 ∈ ev_T := ev_at 30 (by decide +kernel) (by decide +kernel)
theorem kMo_sign : ev_ok mMo_sign 1 := ⟨ev_at 829 rfl rfl, ev_at 46 (by decide +kernel) (by decide +kernel), by decide +kernel, by decide +kernel, by decide⟩
theorem vMo_sign : Cond.instanceMethod mMo_sign.1 ∈ ev_T := ev_at 828 (by decide +kernel) (by decide +kernel)
theorem wMo_sign : Cond.selects mMo_sign.1.cls mMo_sign.1 mMo_sign.1 ∈ ev_T := ev_at 31 (by decide +kernel) (by decide +kernel)
theorem kMo_name : ev_ok mMo_name 3 := ⟨ev_at 834 rfl rfl, ev_at 46 (by decide +kernel) (by decide +kernel), by decide +kernel, by decide +kernel, by decide⟩
theorem vMo_name : Cond.instanceMethod mMo_name.1 ∈ ev_T := ev_at 832 (by decide +kernel) (by decide +kernel)
theorem wMo_name : Cond.selects mMo_name.1.cls mMo_name.1 mMo_name.1 ∈ ev_T := ev_at 833 (by decide +kernel) (by decide +kernel)
theorem kMo_certificate : ev_ok mMo_certificate 1 := ⟨ev_at 838 rfl rfl, ev_at 46 (by decide +kernel) (by decide +kernel), by decide +kernel, by decide +kernel, by decide⟩
theorem vMo_certificate : Cond.instanceMethod mMo_certificate.1 ∈ ev_T := ev_at 836 (by decide +kernel) (by decide +kernel)
theorem wMo_certificate : Cond.selects mMo_certificate.1.cls mMo_certificate.1 mMo_certificate.1 ∈ ev_T := ev_at 837 (by decide +kernel) (by decide +kernel)
theorem kMo_credit : ev_ok mMo_credit 3 := ⟨ev_at 842 rfl rfl, ev_at 46 (by decide +kernel) (by decide +kernel), by decide +kernel, by decide +kernel, by decide⟩
theorem vMo_credit : Cond.instanceMethod mMo_credit.1 ∈ ev_T := ev_at 840 (by decide +kernel) (by decide +kernel)
theorem wMo_credit : Cond.selects mMo_credit.1.cls mMo_credit.1 mMo_credit.1 ∈ ev_T := ev_at 841 (by decide +kernel) (by decide +kernel)
theorem kMo_mayAct : ev_ok mMo_mayAct 3 := ⟨ev_at 846 rfl rfl, ev_at 46 (by decide +kernel) (by decide +kernel), by decide +kernel, by decide +kernel, by decide⟩
theorem vMo_mayAct : Cond.instanceMethod mMo_mayAct.1 ∈ ev_T := ev_at 845 (by decide +kernel) (by decide +kernel)
theorem wMo_mayAct : Cond.selects mMo_mayAct.1.cls mMo_mayAct.1 mMo_mayAct.1 ∈ ev_T := ev_at 32 (by decide +kernel) (by decide +kernel)
theorem kMo_act : ev_ok mMo_act 3 := ⟨ev_at 850 rfl rfl, ev_at 46 (by decide +kernel) (by decide +kernel), by decide +kernel, by decide +kernel, by decide⟩
theorem vMo_act : Cond.instanceMethod mMo_act.1 ∈ ev_T := ev_at 849 (by decide +kernel) (by decide +kernel)
theorem wMo_act : Cond.selects mMo_act.1.cls mMo_act.1 mMo_act.1 ∈ ev_T := ev_at 33 (by decide +kernel) (by decide +kernel)
theorem kMo_claim : ev_ok mMo_claim 3 := ⟨ev_at 854 rfl rfl, ev_at 46 (by decide +kernel) (by decide +kernel), by decide +kernel, by decide +kernel, by decide⟩
theorem vMo_claim : Cond.instanceMethod mMo_claim.1 ∈ ev_T := ev_at 852 (by decide +kernel) (by decide +kernel)
theorem wMo_claim : Cond.selects mMo_claim.1.cls mMo_claim.1 mMo_claim.1 ∈ ev_T := ev_at 853 (by decide +kernel) (by decide +kernel)
theorem kMo_balanceOf : ev_ok mMo_balanceOf 2 := ⟨ev_at 858 rfl rfl, ev_at 46 (by decide +kernel) (by decide +kernel), by decide +kernel, by decide +kernel, by decide⟩
theorem vMo_balanceOf : Cond.instanceMethod mMo_balanceOf.1 ∈ ev_T := ev_at 857 (by decide +kernel) (by decide +kernel)
theorem wMo_balanceOf : Cond.selects mMo_balanceOf.1.cls mMo_balanceOf.1 mMo_balanceOf.1 ∈ ev_T := ev_at 34 (by decide +kernel) (by decide +kernel)
theorem kMo_balance : ev_ok mMo_balance 2 := ⟨ev_at 862 rfl rfl, ev_at 46 (by decide +kernel) (by decide +kernel), by decide +kernel, by decide +kernel, by decide⟩
theorem vMo_balance : Cond.instanceMethod mMo_balance.1 ∈ ev_T := ev_at 860 (by decide +kernel) (by decide +kernel)
theorem wMo_balance : Cond.selects mMo_balance.1.cls mMo_balance.1 mMo_balance.1 ∈ ev_T := ev_at 861 (by decide +kernel) (by decide +kernel)
theorem kMo_warm : ev_ok mMo_warm 2 := ⟨ev_at 866 rfl rfl, ev_at 46 (by decide +kernel) (by decide +kernel), by decide +kernel, by decide +kernel, by decide⟩
theorem vMo_warm : Cond.instanceMethod mMo_warm.1 ∈ ev_T := ev_at 864 (by decide +kernel) (by decide +kernel)
theorem wMo_warm : Cond.selects mMo_warm.1.cls mMo_warm.1 mMo_warm.1 ∈ ev_T := ev_at 865 (by decide +kernel) (by decide +kernel)
theorem kMo_paper : ev_ok mMo_paper 3 := ⟨ev_at 870 rfl rfl, ev_at 46 (by decide +kernel) (by decide +kernel), by decide +kernel, by decide +kernel, by decide⟩
theorem vMo_paper : Cond.instanceMethod mMo_paper.1 ∈ ev_T := ev_at 868 (by decide +kernel) (by decide +kernel)
theorem wMo_paper : Cond.selects mMo_paper.1.cls mMo_paper.1 mMo_paper.1 ∈ ev_T := ev_at 869 (by decide +kernel) (by decide +kernel)
theorem kMo_writeNumber : ev_ok mMo_writeNumber 1 := ⟨ev_at 874 rfl rfl, ev_at 46 (by decide +kernel) (by decide +kernel), by decide +kernel, by decide +kernel, by decide⟩
theorem vMo_writeNumber : Cond.instanceMethod mMo_writeNumber.1 ∈ ev_T := ev_at 873 (by decide +kernel) (by decide +kernel)
theorem wMo_writeNumber : Cond.selects mMo_writeNumber.1.cls mMo_writeNumber.1 mMo_writeNumber.1 ∈ ev_T := ev_at 35 (by decide +kernel) (by decide +kernel)
theorem kMo_write : ev_ok mMo_write 1 := ⟨ev_at 880 rfl rfl, ev_at 46 (by decide +kernel) (by decide +kernel), by decide +kernel, by decide +kernel, by decide⟩
theorem vMo_write : Cond.instanceMethod mMo_write.1 ∈ ev_T := ev_at 879 (by decide +kernel) (by decide +kernel)
theorem wMo_write : Cond.selects mMo_write.1.cls mMo_write.1 mMo_write.1 ∈ ev_T := ev_at 36 (by decide +kernel) (by decide +kernel)
theorem kMo_all : ev_ok mMo_all 1 := ⟨ev_at 884 rfl rfl, ev_at 46 (by decide +kernel) (by decide +kernel), by decide +kernel, by decide +kernel, by decide⟩
theorem vMo_all : Cond.instanceMethod mMo_all.1 ∈ ev_T := ev_at 882 (by decide +kernel) (by decide +kernel)
theorem wMo_all : Cond.selects mMo_all.1.cls mMo_all.1 mMo_all.1 ∈ ev_T := ev_at 883 (by decide +kernel) (by decide +kernel)
theorem kMo_allIn : ev_ok mMo_allIn 1 := ⟨ev_at 888 rfl rfl, ev_at 46 (by decide +kernel) (by decide +kernel), by decide +kernel, by decide +kernel, by decide⟩
theorem vMo_allIn : Cond.instanceMethod mMo_allIn.1 ∈ ev_T := ev_at 887 (by decide +kernel) (by decide +kernel)
theorem wMo_allIn : Cond.selects mMo_allIn.1.cls mMo_allIn.1 mMo_allIn.1 ∈ ev_T := ev_at 37 (by decide +kernel) (by decide +kernel)
theorem ob_1 : Cond.instanceMethod Lib.objectInit ∈ ev_T := ev_at 55 (by decide +kernel) (by decide +kernel)
theorem ob_2 : Cond.code Lib.objectInit ⟨#[0xb1]⟩ 1 none ∈ ev_T := ev_at 56 (by decide +kernel) (by decide +kernel)
theorem ma_max_1 : Cond.static Lib.Math.max.name ∈ ev_T := ev_at 77 (by decide +kernel) (by decide +kernel)
theorem ma_max_2 : Cond.code Lib.Math.max.name Lib.Math.max.code 2 (some .int) ∈ ev_T := ev_at 78 (by decide +kernel) (by decide +kernel)
theorem ma_minl_1 : Cond.static Lib.MathLoose.min_long.x ∈ ev_T := ev_at 299 (by decide +kernel) (by decide +kernel)
theorem ma_minl_2 : Cond.code Lib.MathLoose.min_long.x Lib.MathLoose.min_long.code 4 (some .long) ∈ ev_T := ev_at 300 (by decide +kernel) (by decide +kernel)
theorem ma_i : Cond.initialized "java/lang/Math" ∈ ev_T := ev_at 42 (by decide +kernel) (by decide +kernel)
theorem lBL_3 : Cond.methodLink "BatchLinks" 3 Lib.objectInit ∈ ev_T := ev_at 54 (by decide +kernel) (by decide +kernel)
theorem lBL_21 : ("BatchLinks", 21, (mTa_init).1, "BatchLinks") ∈ ev_nm := by decide +kernel
theorem lBL_31 : Cond.methodLink "BatchLinks" 31 (mBy_init).1 ∈ ev_T := ev_at 72 (by decide +kernel) (by decide +kernel)
theorem lBL_40 : Cond.methodLink "BatchLinks" 40 (mNa_init).1 ∈ ev_T := ev_at 88 (by decide +kernel) (by decide +kernel)
theorem lBL_49 : ("BatchLinks", 49, (mRu_init).1, "BatchLinks") ∈ ev_nm := by decide +kernel
theorem lBL_59 : ("BatchLinks", 59, (mLe_init).1, "BatchLinks") ∈ ev_nm := by decide +kernel
theorem lBL_67 : Cond.methodLink "BatchLinks" 67 (mBL_isWeight).1 ∈ ev_T := ev_at 185 (by decide +kernel) (by decide +kernel)
theorem lBL_71 : Cond.methodLink "BatchLinks" 71 (mBL_isWithin).1 ∈ ev_T := ev_at 189 (by decide +kernel) (by decide +kernel)
theorem lBL_76 : Cond.methodLink "BatchLinks" 76 (mBL_isFull).1 ∈ ev_T := ev_at 193 (by decide +kernel) (by decide +kernel)
theorem lBL_80 : Cond.methodLink "BatchLinks" 80 (mTh_init).1 ∈ ev_T := ev_at 198 (by decide +kernel) (by decide +kernel)
theorem lBL_91 : Cond.methodLink "BatchLinks" 91 (mLa_append).1 ∈ ev_T := ev_at 250 (by decide +kernel) (by decide +kernel)
theorem lBL_97 : Cond.methodLink "BatchLinks" 97 (mBL_keep).1 ∈ ev_T := ev_at 254 (by decide +kernel) (by decide +kernel)
theorem lBL_101 : Cond.methodLink "BatchLinks" 101 (mBL_find).1 ∈ ev_T := ev_at 266 (by decide +kernel) (by decide +kernel)
theorem lBL_112 : Cond.methodLink "BatchLinks" 112 (mLa_have).1 ∈ ev_T := ev_at 270 (by decide +kernel) (by decide +kernel)
theorem lBL_115 : Cond.methodLink "BatchLinks" 115 (mLa_sizeWith).1 ∈ ev_T := ev_at 278 (by decide +kernel) (by decide +kernel)
theorem lBL_119 : Cond.methodLink "BatchLinks" 119 (mTh_takeFrom).1 ∈ ev_T := ev_at 290 (by decide +kernel) (by decide +kernel)
theorem lBL_123 : Cond.methodLink "BatchLinks" 123 (mLa_sizeOf).1 ∈ ev_T := ev_at 315 (by decide +kernel) (by decide +kernel)
theorem lBL_129 : Cond.methodLink "BatchLinks" 129 (mLa_dropFront).1 ∈ ev_T := ev_at 321 (by decide +kernel) (by decide +kernel)
theorem lBL_136 : Cond.methodLink "BatchLinks" 136 (mBL_findHaul).1 ∈ ev_T := ev_at 330 (by decide +kernel) (by decide +kernel)
theorem lBL_139 : Cond.methodLink "BatchLinks" 139 (mLa_total).1 ∈ ev_T := ev_at 334 (by decide +kernel) (by decide +kernel)
theorem lBL_143 : Cond.methodLink "BatchLinks" 143 (mLa_clear).1 ∈ ev_T := ev_at 335 (by decide +kernel) (by decide +kernel)
theorem lBL_146 : Cond.methodLink "BatchLinks" 146 (mTh_fact).1 ∈ ev_T := ev_at 343 (by decide +kernel) (by decide +kernel)
theorem lBL_150 : Cond.methodLink "BatchLinks" 150 (mLa_haulAt).1 ∈ ev_T := ev_at 357 (by decide +kernel) (by decide +kernel)
theorem lBL_154 : Cond.methodLink "BatchLinks" 154 (mLa_gramsAt).1 ∈ ev_T := ev_at 358 (by decide +kernel) (by decide +kernel)
theorem lBL_157 : Cond.methodLink "BatchLinks" 157 (mLa_gramsOf).1 ∈ ev_T := ev_at 367 (by decide +kernel) (by decide +kernel)
theorem lBL_160 : Cond.methodLink "BatchLinks" 160 (mBL_greatestDivisor).1 ∈ ev_T := ev_at 371 (by decide +kernel) (by decide +kernel)
theorem lBL_164 : Cond.methodLink "BatchLinks" 164 (mTa_clear).1 ∈ ev_T := ev_at 378 (by decide +kernel) (by decide +kernel)
theorem lBL_165 : Cond.methodLink "BatchLinks" 165 (mLa_size).1 ∈ ev_T := ev_at 382 (by decide +kernel) (by decide +kernel)
theorem lBL_169 : Cond.methodLink "BatchLinks" 169 (mTa_count).1 ∈ ev_T := ev_at 383 (by decide +kernel) (by decide +kernel)
theorem lBL_172 : Cond.methodLink "BatchLinks" 172 (mTa_pick).1 ∈ ev_T := ev_at 387 (by decide +kernel) (by decide +kernel)
theorem lBL_175 : Cond.methodLink "BatchLinks" 175 (mBL_countBoxesWith).1 ∈ ev_T := ev_at 395 (by decide +kernel) (by decide +kernel)
theorem lBL_178 : Cond.methodLink "BatchLinks" 178 (mTa_countedAtLeast).1 ∈ ev_T := ev_at 399 (by decide +kernel) (by decide +kernel)
theorem lBL_181 : Cond.methodLink "BatchLinks" 181 (mBy_put).1 ∈ ev_T := ev_at 415 (by decide +kernel) (by decide +kernel)
theorem lBL_185 : Cond.methodLink "BatchLinks" 185 (mNa_read).1 ∈ ev_T := ev_at 423 (by decide +kernel) (by decide +kernel)
theorem lBL_189 : Cond.methodLink "BatchLinks" 189 (mBy_clear).1 ∈ ev_T := ev_at 477 (by decide +kernel) (by decide +kernel)
theorem lBL_190 : Cond.methodLink "BatchLinks" 190 (mRu_size).1 ∈ ev_T := ev_at 481 (by decide +kernel) (by decide +kernel)
theorem lBL_191 : Cond.methodLink "BatchLinks" 191 (mRu_inForce).1 ∈ ev_T := ev_at 489 (by decide +kernel) (by decide +kernel)
theorem lBL_198 : Cond.methodLink "BatchLinks" 198 (mRu_allows).1 ∈ ev_T := ev_at 493 (by decide +kernel) (by decide +kernel)
theorem lBL_201 : Cond.methodLink "BatchLinks" 201 (mLe_open).1 ∈ ev_T := ev_at 501 (by decide +kernel) (by decide +kernel)
theorem lBL_204 : Cond.methodLink "BatchLinks" 204 (mBL_canEnter).1 ∈ ev_T := ev_at 509 (by decide +kernel) (by decide +kernel)
theorem lBL_208 : Cond.methodLink "BatchLinks" 208 (mLe_enter).1 ∈ ev_T := ev_at 521 (by decide +kernel) (by decide +kernel)
theorem lBL_212 : Cond.methodLink "BatchLinks" 212 (mLe_isOver).1 ∈ ev_T := ev_at 530 (by decide +kernel) (by decide +kernel)
theorem lBL_215 : Cond.methodLink "BatchLinks" 215 (mLe_covers).1 ∈ ev_T := ev_at 535 (by decide +kernel) (by decide +kernel)
theorem lBL_218 : Cond.methodLink "BatchLinks" 218 (mLe_has).1 ∈ ev_T := ev_at 513 (by decide +kernel) (by decide +kernel)
theorem lBL_221 : Cond.methodLink "BatchLinks" 221 (mLe_sumUpTo).1 ∈ ev_T := ev_at 547 (by decide +kernel) (by decide +kernel)
theorem lBL_228 : Cond.methodLink "BatchLinks" 228 Lib.Math.max.name ∈ ev_T := ev_at 552 (by decide +kernel) (by decide +kernel)
theorem lBL_233 : Cond.methodLink "BatchLinks" 233 (mBy_putNumber).1 ∈ ev_T := ev_at 557 (by decide +kernel) (by decide +kernel)
theorem lBL_236 : Cond.methodLink "BatchLinks" 236 (mBy_byteAt).1 ∈ ev_T := ev_at 565 (by decide +kernel) (by decide +kernel)
theorem lBL_239 : Cond.methodLink "BatchLinks" 239 (mBL_sumOfFact).1 ∈ ev_T := ev_at 570 (by decide +kernel) (by decide +kernel)
theorem lBL_242 : Cond.methodLink "BatchLinks" 242 (mBL_sumInside).1 ∈ ev_T := ev_at 574 (by decide +kernel) (by decide +kernel)
theorem lBL_245 : Cond.methodLink "BatchLinks" 245 (mLe_size).1 ∈ ev_T := ev_at 578 (by decide +kernel) (by decide +kernel)
theorem lBL_248 : Cond.methodLink "BatchLinks" 248 (mLe_isFull).1 ∈ ev_T := ev_at 517 (by decide +kernel) (by decide +kernel)
theorem lBy_3 : Cond.methodLink "BatchLinks$Bytes" 3 Lib.objectInit ∈ ev_T := ev_at 75 (by decide +kernel) (by decide +kernel)
theorem lBy_9 : Cond.methodLink "BatchLinks$Bytes" 9 Lib.Math.max.name ∈ ev_T := ev_at 76 (by decide +kernel) (by decide +kernel)
theorem lBy_25 : Cond.methodLink "BatchLinks$Bytes" 25 (mBy_digitsOf).1 ∈ ev_T := ev_at 561 (by decide +kernel) (by decide +kernel)
theorem lLa_3 : Cond.methodLink "BatchLinks$Layers" 3 Lib.objectInit ∈ ev_T := ev_at 207 (by decide +kernel) (by decide +kernel)
theorem lLa_25 : Cond.methodLink "BatchLinks$Layers" 25 (mLa_total).1 ∈ ev_T := ev_at 274 (by decide +kernel) (by decide +kernel)
theorem lLa_29 : Cond.methodLink "BatchLinks$Layers" 29 (mLa_sizeOf).1 ∈ ev_T := ev_at 282 (by decide +kernel) (by decide +kernel)
theorem lLa_33 : Cond.methodLink "BatchLinks$Layers" 33 (mLa_haulAt).1 ∈ ev_T := ev_at 286 (by decide +kernel) (by decide +kernel)
theorem lLa_37 : Cond.methodLink "BatchLinks$Layers" 37 Lib.MathLoose.min_long.x ∈ ev_T := ev_at 298 (by decide +kernel) (by decide +kernel)
theorem lLa_43 : Cond.methodLink "BatchLinks$Layers" 43 (mLa_append).1 ∈ ev_T := ev_at 301 (by decide +kernel) (by decide +kernel)
theorem lLa_47 : Cond.methodLink "BatchLinks$Layers" 47 (mLa_dropLayers).1 ∈ ev_T := ev_at 306 (by decide +kernel) (by decide +kernel)
theorem lLe_3 : Cond.methodLink "BatchLinks$Ledger" 3 Lib.objectInit ∈ ev_T := ev_at 129 (by decide +kernel) (by decide +kernel)
theorem lLe_32 : Cond.methodLink "BatchLinks$Ledger" 32 (mLe_has).1 ∈ ev_T := ev_at 534 (by decide +kernel) (by decide +kernel)
theorem lLe_36 : Cond.methodLink "BatchLinks$Ledger" 36 (mLe_isFull).1 ∈ ev_T := ev_at 525 (by decide +kernel) (by decide +kernel)
theorem lLe_40 : Cond.methodLink "BatchLinks$Ledger" 40 (mLe_sumUpTo).1 ∈ ev_T := ev_at 539 (by decide +kernel) (by decide +kernel)
theorem lNa_3 : Cond.methodLink "BatchLinks$NamesReader" 3 Lib.objectInit ∈ ev_T := ev_at 91 (by decide +kernel) (by decide +kernel)
theorem lNa_22 : Cond.methodLink "BatchLinks$NamesReader" 22 (mRu_clear).1 ∈ ev_T := ev_at 427 (by decide +kernel) (by decide +kernel)
theorem lNa_27 : Cond.methodLink "BatchLinks$NamesReader" 27 (mNa_skipBlanks).1 ∈ ev_T := ev_at 431 (by decide +kernel) (by decide +kernel)
theorem lNa_30 : Cond.methodLink "BatchLinks$NamesReader" 30 (mBy_size).1 ∈ ev_T := ev_at 443 (by decide +kernel) (by decide +kernel)
theorem lNa_36 : Cond.methodLink "BatchLinks$NamesReader" 36 (mNa_readRule).1 ∈ ev_T := ev_at 447 (by decide +kernel) (by decide +kernel)
theorem lNa_40 : Cond.methodLink "BatchLinks$NamesReader" 40 (mRu_isFull).1 ∈ ev_T := ev_at 451 (by decide +kernel) (by decide +kernel)
theorem lNa_44 : Cond.methodLink "BatchLinks$NamesReader" 44 (mNa_readNumber).1 ∈ ev_T := ev_at 455 (by decide +kernel) (by decide +kernel)
theorem lNa_48 : Cond.methodLink "BatchLinks$NamesReader" 48 (mNa_readSign).1 ∈ ev_T := ev_at 467 (by decide +kernel) (by decide +kernel)
theorem lNa_53 : Cond.methodLink "BatchLinks$NamesReader" 53 (mRu_add).1 ∈ ev_T := ev_at 472 (by decide +kernel) (by decide +kernel)
theorem lNa_57 : Cond.methodLink "BatchLinks$NamesReader" 57 (mNa_isDigit).1 ∈ ev_T := ev_at 459 (by decide +kernel) (by decide +kernel)
theorem lNa_60 : Cond.methodLink "BatchLinks$NamesReader" 60 (mBy_byteAt).1 ∈ ev_T := ev_at 439 (by decide +kernel) (by decide +kernel)
theorem lNa_64 : Cond.methodLink "BatchLinks$NamesReader" 64 (mNa_fail).1 ∈ ev_T := ev_at 463 (by decide +kernel) (by decide +kernel)
theorem lNa_68 : Cond.methodLink "BatchLinks$NamesReader" 68 (mNa_isBlank).1 ∈ ev_T := ev_at 435 (by decide +kernel) (by decide +kernel)
theorem lRu_3 : Cond.methodLink "BatchLinks$Rules" 3 Lib.objectInit ∈ ev_T := ev_at 107 (by decide +kernel) (by decide +kernel)
theorem lRu_28 : Cond.methodLink "BatchLinks$Rules" 28 (mRu_isFull).1 ∈ ev_T := ev_at 476 (by decide +kernel) (by decide +kernel)
theorem lTa_3 : Cond.methodLink "BatchLinks$Tally" 3 Lib.objectInit ∈ ev_T := ev_at 64 (by decide +kernel) (by decide +kernel)
theorem lTh_3 : Cond.methodLink "BatchLinks$Thing" 3 Lib.objectInit ∈ ev_T := ev_at 201 (by decide +kernel) (by decide +kernel)
theorem lTh_23 : ("BatchLinks$Thing", 23, (mLa_init).1, "BatchLinks") ∈ ev_nm := by decide +kernel
theorem lTh_28 : Cond.methodLink "BatchLinks$Thing" 28 (mLa_appendFront).1 ∈ ev_T := ev_at 294 (by decide +kernel) (by decide +kernel)
theorem lTh_32 : Cond.methodLink "BatchLinks$Thing" 32 (mLa_dropFront).1 ∈ ev_T := ev_at 302 (by decide +kernel) (by decide +kernel)
theorem lTh_39 : Cond.methodLink "BatchLinks$Thing" 39 Lib.Math.max.name ∈ ev_T := ev_at 310 (by decide +kernel) (by decide +kernel)
theorem lTh_45 : Cond.methodLink "BatchLinks$Thing" 45 (mLa_total).1 ∈ ev_T := ev_at 347 (by decide +kernel) (by decide +kernel)
theorem lTh_49 : Cond.methodLink "BatchLinks$Thing" 49 (mLa_size).1 ∈ ev_T := ev_at 348 (by decide +kernel) (by decide +kernel)
theorem lLw_9 : Cond.methodLink "BatchLinksLaw" 9 (mBL_init).1 ∈ ev_T := ev_at 51 (by decide +kernel) (by decide +kernel)
theorem lLw_12 : Cond.methodLink "BatchLinksLaw" 12 (mMo_init).1 ∈ ev_T := ev_at 584 (by decide +kernel) (by decide +kernel)
theorem lLw_15 : Cond.methodLink "BatchLinksLaw" 15 (mBL_haul).1 ∈ ev_T := ev_at 181 (by decide +kernel) (by decide +kernel)
theorem lLw_19 : Cond.methodLink "BatchLinksLaw" 19 (mMo_haul).1 ∈ ev_T := ev_at 698 (by decide +kernel) (by decide +kernel)
theorem lLw_20 : Cond.methodLink "BatchLinksLaw" 20 (mBL_batch).1 ∈ ev_T := ev_at 258 (by decide +kernel) (by decide +kernel)
theorem lLw_24 : Cond.methodLink "BatchLinksLaw" 24 (mMo_batch).1 ∈ ev_T := ev_at 708 (by decide +kernel) (by decide +kernel)
theorem lLw_25 : Cond.methodLink "BatchLinksLaw" 25 (mBL_into).1 ∈ ev_T := ev_at 262 (by decide +kernel) (by decide +kernel)
theorem lLw_29 : Cond.methodLink "BatchLinksLaw" 29 (mMo_into).1 ∈ ev_T := ev_at 712 (by decide +kernel) (by decide +kernel)
theorem lLw_30 : Cond.methodLink "BatchLinksLaw" 30 (mBL_box).1 ∈ ev_T := ev_at 311 (by decide +kernel) (by decide +kernel)
theorem lLw_34 : Cond.methodLink "BatchLinksLaw" 34 (mMo_box).1 ∈ ev_T := ev_at 752 (by decide +kernel) (by decide +kernel)
theorem lLw_35 : Cond.methodLink "BatchLinksLaw" 35 (mBL_waste).1 ∈ ev_T := ev_at 316 (by decide +kernel) (by decide +kernel)
theorem lLw_39 : Cond.methodLink "BatchLinksLaw" 39 (mMo_waste).1 ∈ ev_T := ev_at 756 (by decide +kernel) (by decide +kernel)
theorem lLw_40 : Cond.methodLink "BatchLinksLaw" 40 (mBL_hold).1 ∈ ev_T := ev_at 322 (by decide +kernel) (by decide +kernel)
theorem lLw_44 : Cond.methodLink "BatchLinksLaw" 44 (mMo_hold).1 ∈ ev_T := ev_at 761 (by decide +kernel) (by decide +kernel)
theorem lLw_45 : Cond.methodLink "BatchLinksLaw" 45 (mBL_correct).1 ∈ ev_T := ev_at 326 (by decide +kernel) (by decide +kernel)
theorem lLw_49 : Cond.methodLink "BatchLinksLaw" 49 (mMo_correct).1 ∈ ev_T := ev_at 765 (by decide +kernel) (by decide +kernel)
theorem lLw_50 : Cond.methodLink "BatchLinksLaw" 50 (mBL_told).1 ∈ ev_T := ev_at 339 (by decide +kernel) (by decide +kernel)
theorem lLw_54 : Cond.methodLink "BatchLinksLaw" 54 (mMo_told).1 ∈ ev_T := ev_at 769 (by decide +kernel) (by decide +kernel)
theorem lLw_55 : Cond.methodLink "BatchLinksLaw" 55 (mBL_layer).1 ∈ ev_T := ev_at 353 (by decide +kernel) (by decide +kernel)
theorem lLw_59 : Cond.methodLink "BatchLinksLaw" 59 (mMo_layer).1 ∈ ev_T := ev_at 773 (by decide +kernel) (by decide +kernel)
theorem lLw_60 : Cond.methodLink "BatchLinksLaw" 60 (mBL_share).1 ∈ ev_T := ev_at 363 (by decide +kernel) (by decide +kernel)
theorem lLw_63 : Cond.methodLink "BatchLinksLaw" 63 (mMo_share).1 ∈ ev_T := ev_at 777 (by decide +kernel) (by decide +kernel)
theorem lLw_64 : Cond.methodLink "BatchLinksLaw" 64 (mBL_back).1 ∈ ev_T := ev_at 374 (by decide +kernel) (by decide +kernel)
theorem lLw_68 : Cond.methodLink "BatchLinksLaw" 68 (mMo_back).1 ∈ ev_T := ev_at 785 (by decide +kernel) (by decide +kernel)
theorem lLw_69 : Cond.methodLink "BatchLinksLaw" 69 (mBL_recall).1 ∈ ev_T := ev_at 391 (by decide +kernel) (by decide +kernel)
theorem lLw_73 : Cond.methodLink "BatchLinksLaw" 73 (mMo_recall).1 ∈ ev_T := ev_at 789 (by decide +kernel) (by decide +kernel)
theorem lLw_74 : Cond.methodLink "BatchLinksLaw" 74 (mBL_recalled).1 ∈ ev_T := ev_at 403 (by decide +kernel) (by decide +kernel)
theorem lLw_77 : Cond.methodLink "BatchLinksLaw" 77 (mMo_recalled).1 ∈ ev_T := ev_at 797 (by decide +kernel) (by decide +kernel)
theorem lLw_78 : Cond.methodLink "BatchLinksLaw" 78 (mBL_doubled).1 ∈ ev_T := ev_at 407 (by decide +kernel) (by decide +kernel)
theorem lLw_81 : Cond.methodLink "BatchLinksLaw" 81 (mMo_doubled).1 ∈ ev_T := ev_at 801 (by decide +kernel) (by decide +kernel)
theorem lLw_82 : Cond.methodLink "BatchLinksLaw" 82 (mBL_unit).1 ∈ ev_T := ev_at 411 (by decide +kernel) (by decide +kernel)
theorem lLw_86 : Cond.methodLink "BatchLinksLaw" 86 (mMo_unit).1 ∈ ev_T := ev_at 805 (by decide +kernel) (by decide +kernel)
theorem lLw_87 : Cond.methodLink "BatchLinksLaw" 87 (mBL_names).1 ∈ ev_T := ev_at 419 (by decide +kernel) (by decide +kernel)
theorem lLw_90 : Cond.methodLink "BatchLinksLaw" 90 (mMo_names).1 ∈ ev_T := ev_at 809 (by decide +kernel) (by decide +kernel)
theorem lLw_91 : Cond.methodLink "BatchLinksLaw" 91 (mBL_name).1 ∈ ev_T := ev_at 485 (by decide +kernel) (by decide +kernel)
theorem lLw_95 : Cond.methodLink "BatchLinksLaw" 95 (mMo_name).1 ∈ ev_T := ev_at 831 (by decide +kernel) (by decide +kernel)
theorem lLw_96 : Cond.methodLink "BatchLinksLaw" 96 (mBL_certificate).1 ∈ ev_T := ev_at 497 (by decide +kernel) (by decide +kernel)
theorem lLw_99 : Cond.methodLink "BatchLinksLaw" 99 (mMo_certificate).1 ∈ ev_T := ev_at 835 (by decide +kernel) (by decide +kernel)
theorem lLw_100 : Cond.methodLink "BatchLinksLaw" 100 (mBL_credit).1 ∈ ev_T := ev_at 505 (by decide +kernel) (by decide +kernel)
theorem lLw_104 : Cond.methodLink "BatchLinksLaw" 104 (mMo_credit).1 ∈ ev_T := ev_at 839 (by decide +kernel) (by decide +kernel)
theorem lLw_105 : Cond.methodLink "BatchLinksLaw" 105 (mBL_claim).1 ∈ ev_T := ev_at 526 (by decide +kernel) (by decide +kernel)
theorem lLw_108 : Cond.methodLink "BatchLinksLaw" 108 (mMo_claim).1 ∈ ev_T := ev_at 851 (by decide +kernel) (by decide +kernel)
theorem lLw_109 : Cond.methodLink "BatchLinksLaw" 109 (mBL_balance).1 ∈ ev_T := ev_at 543 (by decide +kernel) (by decide +kernel)
theorem lLw_112 : Cond.methodLink "BatchLinksLaw" 112 (mMo_balance).1 ∈ ev_T := ev_at 859 (by decide +kernel) (by decide +kernel)
theorem lLw_113 : Cond.methodLink "BatchLinksLaw" 113 (mBL_warm).1 ∈ ev_T := ev_at 548 (by decide +kernel) (by decide +kernel)
theorem lLw_117 : Cond.methodLink "BatchLinksLaw" 117 (mMo_warm).1 ∈ ev_T := ev_at 863 (by decide +kernel) (by decide +kernel)
theorem lLw_118 : Cond.methodLink "BatchLinksLaw" 118 (mBL_paper).1 ∈ ev_T := ev_at 553 (by decide +kernel) (by decide +kernel)
theorem lLw_122 : Cond.methodLink "BatchLinksLaw" 122 (mMo_paper).1 ∈ ev_T := ev_at 867 (by decide +kernel) (by decide +kernel)
theorem lLw_123 : Cond.methodLink "BatchLinksLaw" 123 (mBL_all).1 ∈ ev_T := ev_at 566 (by decide +kernel) (by decide +kernel)
theorem lLw_127 : Cond.methodLink "BatchLinksLaw" 127 (mMo_all).1 ∈ ev_T := ev_at 881 (by decide +kernel) (by decide +kernel)
theorem lMo_1 : Cond.methodLink "BatchLinksModel" 1 Lib.objectInit ∈ ev_T := ev_at 587 (by decide +kernel) (by decide +kernel)
theorem lMo_94 : Cond.methodLink "BatchLinksModel" 94 (mMo_isThing).1 ∈ ev_T := ev_at 720 (by decide +kernel) (by decide +kernel)
theorem lMo_101 : Cond.methodLink "BatchLinksModel" 101 (mMo_make).1 ∈ ev_T := ev_at 704 (by decide +kernel) (by decide +kernel)
theorem lMo_108 : Cond.methodLink "BatchLinksModel" 108 (mMo_lay).1 ∈ ev_T := ev_at 740 (by decide +kernel) (by decide +kernel)
theorem lMo_112 : Cond.methodLink "BatchLinksModel" 112 (mMo_gramsIn).1 ∈ ev_T := ev_at 732 (by decide +kernel) (by decide +kernel)
theorem lMo_116 : Cond.methodLink "BatchLinksModel" 116 (mMo_isOf).1 ∈ ev_T := ev_at 716 (by decide +kernel) (by decide +kernel)
theorem lMo_120 : Cond.methodLink "BatchLinksModel" 120 (mMo_isSource).1 ∈ ev_T := ev_at 724 (by decide +kernel) (by decide +kernel)
theorem lMo_123 : Cond.methodLink "BatchLinksModel" 123 (mMo_has).1 ∈ ev_T := ev_at 728 (by decide +kernel) (by decide +kernel)
theorem lMo_127 : Cond.methodLink "BatchLinksModel" 127 (mMo_layBy).1 ∈ ev_T := ev_at 736 (by decide +kernel) (by decide +kernel)
theorem lMo_131 : Cond.methodLink "BatchLinksModel" 131 (mMo_putDown).1 ∈ ev_T := ev_at 744 (by decide +kernel) (by decide +kernel)
theorem lMo_135 : Cond.methodLink "BatchLinksModel" 135 (mMo_takeOut).1 ∈ ev_T := ev_at 748 (by decide +kernel) (by decide +kernel)
theorem lMo_140 : Cond.methodLink "BatchLinksModel" 140 (mMo_gramsFrom).1 ∈ ev_T := ev_at 781 (by decide +kernel) (by decide +kernel)
theorem lMo_144 : Cond.methodLink "BatchLinksModel" 144 (mMo_boxesOf).1 ∈ ev_T := ev_at 793 (by decide +kernel) (by decide +kernel)
theorem lMo_157 : Cond.methodLink "BatchLinksModel" 157 (mMo_skip).1 ∈ ev_T := ev_at 813 (by decide +kernel) (by decide +kernel)
theorem lMo_161 : Cond.methodLink "BatchLinksModel" 161 (mMo_isDigit).1 ∈ ev_T := ev_at 822 (by decide +kernel) (by decide +kernel)
theorem lMo_168 : Cond.methodLink "BatchLinksModel" 168 (mMo_number).1 ∈ ev_T := ev_at 818 (by decide +kernel) (by decide +kernel)
theorem lMo_171 : Cond.methodLink "BatchLinksModel" 171 (mMo_sign).1 ∈ ev_T := ev_at 826 (by decide +kernel) (by decide +kernel)
theorem lMo_184 : Cond.methodLink "BatchLinksModel" 184 (mMo_mayAct).1 ∈ ev_T := ev_at 843 (by decide +kernel) (by decide +kernel)
theorem lMo_188 : Cond.methodLink "BatchLinksModel" 188 (mMo_act).1 ∈ ev_T := ev_at 847 (by decide +kernel) (by decide +kernel)
theorem lMo_192 : Cond.methodLink "BatchLinksModel" 192 (mMo_balanceOf).1 ∈ ev_T := ev_at 855 (by decide +kernel) (by decide +kernel)
theorem lMo_202 : Cond.methodLink "BatchLinksModel" 202 (mMo_write).1 ∈ ev_T := ev_at 877 (by decide +kernel) (by decide +kernel)
theorem lMo_205 : Cond.methodLink "BatchLinksModel" 205 (mMo_writeNumber).1 ∈ ev_T := ev_at 871 (by decide +kernel) (by decide +kernel)
theorem lMo_209 : Cond.methodLink "BatchLinksModel" 209 (mMo_allIn).1 ∈ ev_T := ev_at 885 (by decide +kernel) (by decide +kernel)
end
