section
-- ===== PART A: goes FIRST, ahead of the names: the tables' words, and 'selects' of the private methods out of them =====
/-- a private method of a class that the tables say can be made, by its rows of tables_1 -/
def lw_okq (q : MethodName × Nat) : Prop := (q.1.cls ≠ "java/lang/invoke/MethodHandle" ∧ q.1.cls ≠ "java/lang/invoke/VarHandle") ∧ Cond.instantiable q.1.cls q.2 ∈ tables_1 ∧ Cond.privateMethod q.1 ∈ tables_1 ∧ Cond.instanceMethod q.1 ∈ tables_1
theorem lw_p0 : lw_okq (⟨"OtherSideInk$Text", "readNumbers", "(I)I"⟩, 4) := ⟨⟨by decide +kernel, by decide +kernel⟩, List.mem_of_getElem? (i := 24) (by decide +kernel), List.mem_of_getElem? (i := 174) (by decide +kernel), List.mem_of_getElem? (i := 175) (by decide +kernel)⟩
theorem lw_p1 : lw_okq (⟨"OtherSideInk$Text", "figuresAt", "(I)I"⟩, 4) := ⟨⟨by decide +kernel, by decide +kernel⟩, List.mem_of_getElem? (i := 24) (by decide +kernel), List.mem_of_getElem? (i := 178) (by decide +kernel), List.mem_of_getElem? (i := 179) (by decide +kernel)⟩
theorem lw_p2 : lw_okq (⟨"OtherSideInk$Text", "letterAt", "(I)I"⟩, 4) := ⟨⟨by decide +kernel, by decide +kernel⟩, List.mem_of_getElem? (i := 24) (by decide +kernel), List.mem_of_getElem? (i := 182) (by decide +kernel), List.mem_of_getElem? (i := 183) (by decide +kernel)⟩
theorem lw_p3 : lw_okq (⟨"OtherSideInk$Text", "numberAt", "(II)I"⟩, 4) := ⟨⟨by decide +kernel, by decide +kernel⟩, List.mem_of_getElem? (i := 24) (by decide +kernel), List.mem_of_getElem? (i := 192) (by decide +kernel), List.mem_of_getElem? (i := 193) (by decide +kernel)⟩
theorem lw_p4 : lw_okq (⟨"OtherSideInk$Text", "tellItem", "(ILOtherSideInk$Chancery;)Z"⟩, 4) := ⟨⟨by decide +kernel, by decide +kernel⟩, List.mem_of_getElem? (i := 24) (by decide +kernel), List.mem_of_getElem? (i := 196) (by decide +kernel), List.mem_of_getElem? (i := 197) (by decide +kernel)⟩
theorem lw_p5 : lw_okq (⟨"OtherSideInk$Shelf", "placeAbove", "(I)LOtherSideInk$Chancery;"⟩, 3) := ⟨⟨by decide +kernel, by decide +kernel⟩, List.mem_of_getElem? (i := 69) (by decide +kernel), List.mem_of_getElem? (i := 371) (by decide +kernel), List.mem_of_getElem? (i := 372) (by decide +kernel)⟩
theorem lw_p6 : lw_okq (⟨"OtherSideInk", "firstSeen", "(II)I"⟩, 7) := ⟨⟨by decide +kernel, by decide +kernel⟩, List.mem_of_getElem? (i := 16) (by decide +kernel), List.mem_of_getElem? (i := 475) (by decide +kernel), List.mem_of_getElem? (i := 476) (by decide +kernel)⟩
theorem lw_p7 : lw_okq (⟨"OtherSideInkModel", "clearTold", "()V"⟩, 20) := ⟨⟨by decide +kernel, by decide +kernel⟩, List.mem_of_getElem? (i := 571) (by decide +kernel), List.mem_of_getElem? (i := 577) (by decide +kernel), List.mem_of_getElem? (i := 578) (by decide +kernel)⟩
theorem lw_p8 : lw_okq (⟨"OtherSideInkModel", "tellsPerson", "(II)V"⟩, 20) := ⟨⟨by decide +kernel, by decide +kernel⟩, List.mem_of_getElem? (i := 571) (by decide +kernel), List.mem_of_getElem? (i := 581) (by decide +kernel), List.mem_of_getElem? (i := 582) (by decide +kernel)⟩
theorem lw_p9 : lw_okq (⟨"OtherSideInkModel", "settles", "()V"⟩, 20) := ⟨⟨by decide +kernel, by decide +kernel⟩, List.mem_of_getElem? (i := 571) (by decide +kernel), List.mem_of_getElem? (i := 585) (by decide +kernel), List.mem_of_getElem? (i := 586) (by decide +kernel)⟩
theorem lw_p10 : lw_okq (⟨"OtherSideInkModel", "readItem", "()Z"⟩, 20) := ⟨⟨by decide +kernel, by decide +kernel⟩, List.mem_of_getElem? (i := 571) (by decide +kernel), List.mem_of_getElem? (i := 668) (by decide +kernel), List.mem_of_getElem? (i := 669) (by decide +kernel)⟩
theorem lw_p11 : lw_okq (⟨"OtherSideInkModel", "letterAt", "(I)I"⟩, 20) := ⟨⟨by decide +kernel, by decide +kernel⟩, List.mem_of_getElem? (i := 571) (by decide +kernel), List.mem_of_getElem? (i := 672) (by decide +kernel), List.mem_of_getElem? (i := 673) (by decide +kernel)⟩
theorem lw_p12 : lw_okq (⟨"OtherSideInkModel", "readPersonOf", "()Z"⟩, 20) := ⟨⟨by decide +kernel, by decide +kernel⟩, List.mem_of_getElem? (i := 571) (by decide +kernel), List.mem_of_getElem? (i := 676) (by decide +kernel), List.mem_of_getElem? (i := 677) (by decide +kernel)⟩
theorem lw_p13 : lw_okq (⟨"OtherSideInkModel", "readNumbers", "(I)Z"⟩, 20) := ⟨⟨by decide +kernel, by decide +kernel⟩, List.mem_of_getElem? (i := 571) (by decide +kernel), List.mem_of_getElem? (i := 680) (by decide +kernel), List.mem_of_getElem? (i := 681) (by decide +kernel)⟩
theorem lw_p14 : lw_okq (⟨"OtherSideInkModel", "isTold", "(III)Z"⟩, 20) := ⟨⟨by decide +kernel, by decide +kernel⟩, List.mem_of_getElem? (i := 571) (by decide +kernel), List.mem_of_getElem? (i := 687) (by decide +kernel), List.mem_of_getElem? (i := 688) (by decide +kernel)⟩
theorem lw_p15 : lw_okq (⟨"OtherSideInkModel", "readViewOf", "()Z"⟩, 20) := ⟨⟨by decide +kernel, by decide +kernel⟩, List.mem_of_getElem? (i := 571) (by decide +kernel), List.mem_of_getElem? (i := 691) (by decide +kernel), List.mem_of_getElem? (i := 692) (by decide +kernel)⟩
def lw_privs_1 : List (MethodName × Nat) := [(⟨"OtherSideInk$Text", "readNumbers", "(I)I"⟩, 4), (⟨"OtherSideInk$Text", "figuresAt", "(I)I"⟩, 4), (⟨"OtherSideInk$Text", "letterAt", "(I)I"⟩, 4), (⟨"OtherSideInk$Text", "numberAt", "(II)I"⟩, 4), (⟨"OtherSideInk$Text", "tellItem", "(ILOtherSideInk$Chancery;)Z"⟩, 4), (⟨"OtherSideInk$Shelf", "placeAbove", "(I)LOtherSideInk$Chancery;"⟩, 3), (⟨"OtherSideInk", "firstSeen", "(II)I"⟩, 7), (⟨"OtherSideInkModel", "clearTold", "()V"⟩, 20), (⟨"OtherSideInkModel", "tellsPerson", "(II)V"⟩, 20), (⟨"OtherSideInkModel", "settles", "()V"⟩, 20), (⟨"OtherSideInkModel", "readItem", "()Z"⟩, 20), (⟨"OtherSideInkModel", "letterAt", "(I)I"⟩, 20), (⟨"OtherSideInkModel", "readPersonOf", "()Z"⟩, 20), (⟨"OtherSideInkModel", "readNumbers", "(I)Z"⟩, 20), (⟨"OtherSideInkModel", "isTold", "(III)Z"⟩, 20), (⟨"OtherSideInkModel", "readViewOf", "()Z"⟩, 20)]
theorem lw_r1 : ∀ q ∈ lw_privs_1, lw_okq q := List.forall_mem_cons.mpr ⟨lw_p0, List.forall_mem_cons.mpr ⟨lw_p1, List.forall_mem_cons.mpr ⟨lw_p2, List.forall_mem_cons.mpr ⟨lw_p3, List.forall_mem_cons.mpr ⟨lw_p4, List.forall_mem_cons.mpr ⟨lw_p5, List.forall_mem_cons.mpr ⟨lw_p6, List.forall_mem_cons.mpr ⟨lw_p7, List.forall_mem_cons.mpr ⟨lw_p8, List.forall_mem_cons.mpr ⟨lw_p9, List.forall_mem_cons.mpr ⟨lw_p10, List.forall_mem_cons.mpr ⟨lw_p11, List.forall_mem_cons.mpr ⟨lw_p12, List.forall_mem_cons.mpr ⟨lw_p13, List.forall_mem_cons.mpr ⟨lw_p14, List.forall_mem_cons.mpr ⟨lw_p15, fun _ h => absurd h List.not_mem_nil⟩⟩⟩⟩⟩⟩⟩⟩⟩⟩⟩⟩⟩⟩⟩⟩
theorem lw_p16 : lw_okq (⟨"OtherSideInkModel", "readPapersOf", "()Z"⟩, 20) := ⟨⟨by decide +kernel, by decide +kernel⟩, List.mem_of_getElem? (i := 571) (by decide +kernel), List.mem_of_getElem? (i := 695) (by decide +kernel), List.mem_of_getElem? (i := 696) (by decide +kernel)⟩
theorem lw_p17 : lw_okq (⟨"OtherSideInkModel", "isPerson", "(I)Z"⟩, 20) := ⟨⟨by decide +kernel, by decide +kernel⟩, List.mem_of_getElem? (i := 571) (by decide +kernel), List.mem_of_getElem? (i := 708) (by decide +kernel), List.mem_of_getElem? (i := 709) (by decide +kernel)⟩
theorem lw_p18 : lw_okq (⟨"OtherSideInkModel", "isPaper", "(I)Z"⟩, 20) := ⟨⟨by decide +kernel, by decide +kernel⟩, List.mem_of_getElem? (i := 571) (by decide +kernel), List.mem_of_getElem? (i := 723) (by decide +kernel), List.mem_of_getElem? (i := 724) (by decide +kernel)⟩
theorem lw_p19 : lw_okq (⟨"OtherSideInkModel", "asItIs", "()V"⟩, 20) := ⟨⟨by decide +kernel, by decide +kernel⟩, List.mem_of_getElem? (i := 571) (by decide +kernel), List.mem_of_getElem? (i := 734) (by decide +kernel), List.mem_of_getElem? (i := 735) (by decide +kernel)⟩
theorem lw_p20 : lw_okq (⟨"OtherSideInkModel", "writes", "(IIII)I"⟩, 20) := ⟨⟨by decide +kernel, by decide +kernel⟩, List.mem_of_getElem? (i := 571) (by decide +kernel), List.mem_of_getElem? (i := 738) (by decide +kernel), List.mem_of_getElem? (i := 739) (by decide +kernel)⟩
theorem lw_p21 : lw_okq (⟨"OtherSideInkModel", "viewOf", "(II)I"⟩, 20) := ⟨⟨by decide +kernel, by decide +kernel⟩, List.mem_of_getElem? (i := 571) (by decide +kernel), List.mem_of_getElem? (i := 742) (by decide +kernel), List.mem_of_getElem? (i := 743) (by decide +kernel)⟩
theorem lw_p22 : lw_okq (⟨"OtherSideInkModel", "remembers", "()V"⟩, 20) := ⟨⟨by decide +kernel, by decide +kernel⟩, List.mem_of_getElem? (i := 571) (by decide +kernel), List.mem_of_getElem? (i := 750) (by decide +kernel), List.mem_of_getElem? (i := 751) (by decide +kernel)⟩
theorem lw_p23 : lw_okq (⟨"OtherSideInkModel", "copying", "(III)V"⟩, 20) := ⟨⟨by decide +kernel, by decide +kernel⟩, List.mem_of_getElem? (i := 571) (by decide +kernel), List.mem_of_getElem? (i := 762) (by decide +kernel), List.mem_of_getElem? (i := 763) (by decide +kernel)⟩
theorem lw_p24 : lw_okq (⟨"OtherSideInkModel", "copied", "(III)I"⟩, 20) := ⟨⟨by decide +kernel, by decide +kernel⟩, List.mem_of_getElem? (i := 571) (by decide +kernel), List.mem_of_getElem? (i := 766) (by decide +kernel), List.mem_of_getElem? (i := 767) (by decide +kernel)⟩
theorem lw_p25 : lw_okq (⟨"OtherSideInkModel", "toward", "(III)I"⟩, 20) := ⟨⟨by decide +kernel, by decide +kernel⟩, List.mem_of_getElem? (i := 571) (by decide +kernel), List.mem_of_getElem? (i := 770) (by decide +kernel), List.mem_of_getElem? (i := 771) (by decide +kernel)⟩
theorem lw_p26 : lw_okq (⟨"OtherSideInkModel", "filled", "(I)I"⟩, 20) := ⟨⟨by decide +kernel, by decide +kernel⟩, List.mem_of_getElem? (i := 571) (by decide +kernel), List.mem_of_getElem? (i := 774) (by decide +kernel), List.mem_of_getElem? (i := 775) (by decide +kernel)⟩
theorem lw_p27 : lw_okq (⟨"OtherSideInkModel", "ownOf", "(II)I"⟩, 20) := ⟨⟨by decide +kernel, by decide +kernel⟩, List.mem_of_getElem? (i := 571) (by decide +kernel), List.mem_of_getElem? (i := 794) (by decide +kernel), List.mem_of_getElem? (i := 795) (by decide +kernel)⟩
theorem lw_p28 : lw_okq (⟨"OtherSideInkModel", "isWritten", "(III)Z"⟩, 20) := ⟨⟨by decide +kernel, by decide +kernel⟩, List.mem_of_getElem? (i := 571) (by decide +kernel), List.mem_of_getElem? (i := 834) (by decide +kernel), List.mem_of_getElem? (i := 835) (by decide +kernel)⟩
def lw_privs_2 : List (MethodName × Nat) := [(⟨"OtherSideInkModel", "readPapersOf", "()Z"⟩, 20), (⟨"OtherSideInkModel", "isPerson", "(I)Z"⟩, 20), (⟨"OtherSideInkModel", "isPaper", "(I)Z"⟩, 20), (⟨"OtherSideInkModel", "asItIs", "()V"⟩, 20), (⟨"OtherSideInkModel", "writes", "(IIII)I"⟩, 20), (⟨"OtherSideInkModel", "viewOf", "(II)I"⟩, 20), (⟨"OtherSideInkModel", "remembers", "()V"⟩, 20), (⟨"OtherSideInkModel", "copying", "(III)V"⟩, 20), (⟨"OtherSideInkModel", "copied", "(III)I"⟩, 20), (⟨"OtherSideInkModel", "toward", "(III)I"⟩, 20), (⟨"OtherSideInkModel", "filled", "(I)I"⟩, 20), (⟨"OtherSideInkModel", "ownOf", "(II)I"⟩, 20), (⟨"OtherSideInkModel", "isWritten", "(III)Z"⟩, 20)]
theorem lw_r2 : ∀ q ∈ lw_privs_2, lw_okq q := List.forall_mem_cons.mpr ⟨lw_p16, List.forall_mem_cons.mpr ⟨lw_p17, List.forall_mem_cons.mpr ⟨lw_p18, List.forall_mem_cons.mpr ⟨lw_p19, List.forall_mem_cons.mpr ⟨lw_p20, List.forall_mem_cons.mpr ⟨lw_p21, List.forall_mem_cons.mpr ⟨lw_p22, List.forall_mem_cons.mpr ⟨lw_p23, List.forall_mem_cons.mpr ⟨lw_p24, List.forall_mem_cons.mpr ⟨lw_p25, List.forall_mem_cons.mpr ⟨lw_p26, List.forall_mem_cons.mpr ⟨lw_p27, List.forall_mem_cons.mpr ⟨lw_p28, fun _ h => absurd h List.not_mem_nil⟩⟩⟩⟩⟩⟩⟩⟩⟩⟩⟩⟩⟩
def lw_privs : List (MethodName × Nat) := lw_privs_1 ++ (lw_privs_2)
def lw_tbl : List Cond := k2_sels lw_privs ++ tables_1
theorem lw_privs_ok : ∀ q ∈ lw_privs, lw_okq q := by
  show ∀ q ∈ lw_privs_1 ++ (lw_privs_2), lw_okq q
  exact List.forall_mem_append.mpr ⟨lw_r1, lw_r2⟩
-- ===== end of PART A =====
/-! ===== printed names (classes, fields, methods) ===== -/
def RX0 : String := "OtherSideInk$Chancery"
def TX0 : u_T := fun k => match k with
  | 0 => ("OtherSideInk$Chancery", "personCount", "I", false)
  | 1 => ("OtherSideInk$Chancery", "paperCount", "I", false)
  | 2 => ("OtherSideInk$Chancery", "kindRow", "[I", true)
  | 3 => ("OtherSideInk$Chancery", "mindRow", "[I", true)
  | 4 => ("OtherSideInk$Chancery", "viewRow", "[I", true)
  | _ => ("OtherSideInk$Chancery", "lineRow", "[I", true)
def tyX0 : Nat → FieldType := fun k => match k with
  | 0 => .int
  | 1 => .int
  | 2 => .array .int
  | 3 => .array .int
  | 4 => .array .int
  | _ => .array .int
theorem nmX0 : ∀ a, a < 6 → ∀ b, b < 6 → a ≠ b → (TX0 a).2.1 ≠ (TX0 b).2.1 := by decide +kernel
theorem tyX0_ok : ∀ k, k < 6 → parseFieldDescriptor (TX0 k).2.2.1 = some (tyX0 k) := by decide +kernel
abbrev cX0_init : ByteArray := prog_2_method_1_code
def yX0_init : MethodName := ⟨RX0, "<init>", "()V"⟩
abbrev cX0_becomeBlank : ByteArray := prog_2_method_2_code
def yX0_becomeBlank : MethodName := ⟨RX0, "becomeBlank", "()V"⟩
abbrev cX0_becomeLike : ByteArray := prog_2_method_3_code
def yX0_becomeLike : MethodName := ⟨RX0, "becomeLike", "(LOtherSideInk$Chancery;)V"⟩
abbrev cX0_takeRow : ByteArray := prog_2_method_4_code
def yX0_takeRow : MethodName := ⟨RX0, "takeRow", "([I[I)V"⟩
abbrev cX0_persons : ByteArray := prog_2_method_5_code
def yX0_persons : MethodName := ⟨RX0, "persons", "()I"⟩
abbrev cX0_papers : ByteArray := prog_2_method_6_code
def yX0_papers : MethodName := ⟨RX0, "papers", "()I"⟩
abbrev cX0_hasPerson : ByteArray := prog_2_method_7_code
def yX0_hasPerson : MethodName := ⟨RX0, "hasPerson", "(I)Z"⟩
abbrev cX0_hasPaper : ByteArray := prog_2_method_8_code
def yX0_hasPaper : MethodName := ⟨RX0, "hasPaper", "(I)Z"⟩
abbrev cX0_tellPerson : ByteArray := prog_2_method_9_code
def yX0_tellPerson : MethodName := ⟨RX0, "tellPerson", "(II)Z"⟩
abbrev cX0_tellView : ByteArray := prog_2_method_10_code
def yX0_tellView : MethodName := ⟨RX0, "tellView", "(III)Z"⟩
abbrev cX0_tellPapers : ByteArray := prog_2_method_11_code
def yX0_tellPapers : MethodName := ⟨RX0, "tellPapers", "(I)Z"⟩
abbrev cX0_canBeLaid : ByteArray := prog_2_method_12_code
def yX0_canBeLaid : MethodName := ⟨RX0, "canBeLaid", "()Z"⟩
abbrev cX0_kindOf : ByteArray := prog_2_method_13_code
def yX0_kindOf : MethodName := ⟨RX0, "kindOf", "(I)I"⟩
abbrev cX0_mindOf : ByteArray := prog_2_method_14_code
def yX0_mindOf : MethodName := ⟨RX0, "mindOf", "(I)I"⟩
abbrev cX0_putMind : ByteArray := prog_2_method_15_code
def yX0_putMind : MethodName := ⟨RX0, "putMind", "(II)V"⟩
abbrev cX0_viewOf : ByteArray := prog_2_method_16_code
def yX0_viewOf : MethodName := ⟨RX0, "viewOf", "(II)I"⟩
abbrev cX0_putView : ByteArray := prog_2_method_17_code
def yX0_putView : MethodName := ⟨RX0, "putView", "(III)V"⟩
abbrev cX0_lineOf : ByteArray := prog_2_method_18_code
def yX0_lineOf : MethodName := ⟨RX0, "lineOf", "(II)I"⟩
abbrev cX0_putLine : ByteArray := prog_2_method_19_code
def yX0_putLine : MethodName := ⟨RX0, "putLine", "(III)V"⟩
abbrev cX0_written : ByteArray := prog_2_method_20_code
def yX0_written : MethodName := ⟨RX0, "written", "(III)I"⟩
abbrev cX0_writtenFor : ByteArray := prog_2_method_21_code
def yX0_writtenFor : MethodName := ⟨RX0, "writtenFor", "(IIII)I"⟩
abbrev cX0_copied : ByteArray := prog_2_method_22_code
def yX0_copied : MethodName := ⟨RX0, "copied", "(III)I"⟩
abbrev cX0_copyPaper : ByteArray := prog_2_method_23_code
def yX0_copyPaper : MethodName := ⟨RX0, "copyPaper", "(III)V"⟩
abbrev cX0_goRound : ByteArray := prog_2_method_24_code
def yX0_goRound : MethodName := ⟨RX0, "goRound", "(I)V"⟩
abbrev cX0_codeOf : ByteArray := prog_2_method_25_code
def yX0_codeOf : MethodName := ⟨RX0, "codeOf", "(I)I"⟩
abbrev cX0_filledLinesOf : ByteArray := prog_2_method_26_code
def yX0_filledLinesOf : MethodName := ⟨RX0, "filledLinesOf", "(I)I"⟩
abbrev cX0_filledLines : ByteArray := prog_2_method_27_code
def yX0_filledLines : MethodName := ⟨RX0, "filledLines", "()I"⟩
abbrev cX0_sumOfLines : ByteArray := prog_2_method_28_code
def yX0_sumOfLines : MethodName := ⟨RX0, "sumOfLines", "()I"⟩
def RX1 : String := "OtherSideInk$Shelf"
def TX1 : u_T := fun k => match k with
  | 0 => ("OtherSideInk$Shelf", "places", "[LOtherSideInk$Chancery;", true)
  | 1 => ("OtherSideInk$Shelf", "lowest", "I", false)
  | _ => ("OtherSideInk$Shelf", "size", "I", false)
def tyX1 : Nat → FieldType := fun k => match k with
  | 0 => .array (.object "OtherSideInk$Chancery")
  | 1 => .int
  | _ => .int
theorem nmX1 : ∀ a, a < 3 → ∀ b, b < 3 → a ≠ b → (TX1 a).2.1 ≠ (TX1 b).2.1 := by decide +kernel
theorem tyX1_ok : ∀ k, k < 3 → parseFieldDescriptor (TX1 k).2.2.1 = some (tyX1 k) := by decide +kernel
abbrev cX1_init : ByteArray := prog_3_method_1_code
def yX1_init : MethodName := ⟨RX1, "<init>", "(I)V"⟩
abbrev cX1_size : ByteArray := prog_3_method_2_code
def yX1_size : MethodName := ⟨RX1, "size", "()I"⟩
abbrev cX1_clear : ByteArray := prog_3_method_3_code
def yX1_clear : MethodName := ⟨RX1, "clear", "()V"⟩
abbrev cX1_push : ByteArray := prog_3_method_4_code
def yX1_push : MethodName := ⟨RX1, "push", "(LOtherSideInk$Chancery;)V"⟩
abbrev cX1_popInto : ByteArray := prog_3_method_5_code
def yX1_popInto : MethodName := ⟨RX1, "popInto", "(LOtherSideInk$Chancery;)Z"⟩
abbrev cX1_placeAbove : ByteArray := prog_3_method_6_code
def yX1_placeAbove : MethodName := ⟨RX1, "placeAbove", "(I)LOtherSideInk$Chancery;"⟩
def RX2 : String := "OtherSideInk$Signatures"
def TX2 : u_T := fun k => match k with
  | 0 => ("OtherSideInk$Signatures", "themeRow", "[I", true)
  | 1 => ("OtherSideInk$Signatures", "saidRow", "[I", true)
  | _ => ("OtherSideInk$Signatures", "size", "I", false)
def tyX2 : Nat → FieldType := fun k => match k with
  | 0 => .array .int
  | 1 => .array .int
  | _ => .int
theorem nmX2 : ∀ a, a < 3 → ∀ b, b < 3 → a ≠ b → (TX2 a).2.1 ≠ (TX2 b).2.1 := by decide +kernel
theorem tyX2_ok : ∀ k, k < 3 → parseFieldDescriptor (TX2 k).2.2.1 = some (tyX2 k) := by decide +kernel
abbrev cX2_init : ByteArray := prog_4_method_1_code
def yX2_init : MethodName := ⟨RX2, "<init>", "()V"⟩
abbrev cX2_size : ByteArray := prog_4_method_2_code
def yX2_size : MethodName := ⟨RX2, "size", "()I"⟩
abbrev cX2_clear : ByteArray := prog_4_method_3_code
def yX2_clear : MethodName := ⟨RX2, "clear", "()V"⟩
abbrev cX2_add : ByteArray := prog_4_method_4_code
def yX2_add : MethodName := ⟨RX2, "add", "(II)V"⟩
abbrev cX2_areAllWritten : ByteArray := prog_4_method_5_code
def yX2_areAllWritten : MethodName := ⟨RX2, "areAllWritten", "(LOtherSideInk$Chancery;III)Z"⟩
def RX3 : String := "OtherSideInk$Text"
def TX3 : u_T := fun k => match k with
  | 0 => ("OtherSideInk$Text", "letters", "[I", true)
  | 1 => ("OtherSideInk$Text", "length", "I", false)
  | 2 => ("OtherSideInk$Text", "numbers", "[I", true)
  | _ => ("OtherSideInk$Text", "numberCount", "I", false)
def tyX3 : Nat → FieldType := fun k => match k with
  | 0 => .array .int
  | 1 => .int
  | 2 => .array .int
  | _ => .int
theorem nmX3 : ∀ a, a < 4 → ∀ b, b < 4 → a ≠ b → (TX3 a).2.1 ≠ (TX3 b).2.1 := by decide +kernel
theorem tyX3_ok : ∀ k, k < 4 → parseFieldDescriptor (TX3 k).2.2.1 = some (tyX3 k) := by decide +kernel
abbrev cX3_init : ByteArray := prog_5_method_1_code
def yX3_init : MethodName := ⟨RX3, "<init>", "()V"⟩
abbrev cX3_size : ByteArray := prog_5_method_2_code
def yX3_size : MethodName := ⟨RX3, "size", "()I"⟩
abbrev cX3_clear : ByteArray := prog_5_method_3_code
def yX3_clear : MethodName := ⟨RX3, "clear", "()V"⟩
abbrev cX3_append : ByteArray := prog_5_method_4_code
def yX3_append : MethodName := ⟨RX3, "append", "(I)V"⟩
abbrev cX3_readInto : ByteArray := prog_5_method_5_code
def yX3_readInto : MethodName := ⟨RX3, "readInto", "(LOtherSideInk$Chancery;)I"⟩
abbrev cX3_readNumbers : ByteArray := prog_5_method_6_code
def yX3_readNumbers : MethodName := ⟨RX3, "readNumbers", "(I)I"⟩
abbrev cX3_tellItem : ByteArray := prog_5_method_7_code
def yX3_tellItem : MethodName := ⟨RX3, "tellItem", "(ILOtherSideInk$Chancery;)Z"⟩
abbrev cX3_figuresAt : ByteArray := prog_5_method_8_code
def yX3_figuresAt : MethodName := ⟨RX3, "figuresAt", "(I)I"⟩
abbrev cX3_numberAt : ByteArray := prog_5_method_9_code
def yX3_numberAt : MethodName := ⟨RX3, "numberAt", "(II)I"⟩
abbrev cX3_isFigure : ByteArray := prog_5_method_10_code
def yX3_isFigure : MethodName := ⟨RX3, "isFigure", "(I)Z"⟩
abbrev cX3_letterAt : ByteArray := prog_5_method_11_code
def yX3_letterAt : MethodName := ⟨RX3, "letterAt", "(I)I"⟩
def RX4 : String := "OtherSideInk"
def TX4 : u_T := fun k => match k with
  | 0 => ("OtherSideInk", "text", "LOtherSideInk$Text;", true)
  | 1 => ("OtherSideInk", "now", "LOtherSideInk$Chancery;", true)
  | 2 => ("OtherSideInk", "draft", "LOtherSideInk$Chancery;", true)
  | 3 => ("OtherSideInk", "past", "LOtherSideInk$Shelf;", true)
  | 4 => ("OtherSideInk", "kept", "LOtherSideInk$Shelf;", true)
  | 5 => ("OtherSideInk", "signed", "LOtherSideInk$Signatures;", true)
  | _ => ("OtherSideInk", "seen", "[I", true)
def tyX4 : Nat → FieldType := fun k => match k with
  | 0 => .object "OtherSideInk$Text"
  | 1 => .object "OtherSideInk$Chancery"
  | 2 => .object "OtherSideInk$Chancery"
  | 3 => .object "OtherSideInk$Shelf"
  | 4 => .object "OtherSideInk$Shelf"
  | 5 => .object "OtherSideInk$Signatures"
  | _ => .array .int
theorem nmX4 : ∀ a, a < 7 → ∀ b, b < 7 → a ≠ b → (TX4 a).2.1 ≠ (TX4 b).2.1 := by decide +kernel
theorem tyX4_ok : ∀ k, k < 7 → parseFieldDescriptor (TX4 k).2.2.1 = some (tyX4 k) := by decide +kernel
abbrev cX4_init : ByteArray := prog_1_method_1_code
def yX4_init : MethodName := ⟨RX4, "<init>", "()V"⟩
abbrev cX4_write : ByteArray := prog_1_method_2_code
def yX4_write : MethodName := ⟨RX4, "write", "(I)I"⟩
abbrev cX4_wipe : ByteArray := prog_1_method_3_code
def yX4_wipe : MethodName := ⟨RX4, "wipe", "()I"⟩
abbrev cX4_fault : ByteArray := prog_1_method_4_code
def yX4_fault : MethodName := ⟨RX4, "fault", "()I"⟩
abbrev cX4_lay : ByteArray := prog_1_method_5_code
def yX4_lay : MethodName := ⟨RX4, "lay", "()I"⟩
abbrev cX4_person : ByteArray := prog_1_method_6_code
def yX4_person : MethodName := ⟨RX4, "person", "(II)I"⟩
abbrev cX4_view : ByteArray := prog_1_method_7_code
def yX4_view : MethodName := ⟨RX4, "view", "(II)I"⟩
abbrev cX4_line : ByteArray := prog_1_method_8_code
def yX4_line : MethodName := ⟨RX4, "line", "(II)I"⟩
abbrev cX4_would : ByteArray := prog_1_method_9_code
def yX4_would : MethodName := ⟨RX4, "would", "(III)I"⟩
abbrev cX4_set : ByteArray := prog_1_method_10_code
def yX4_set : MethodName := ⟨RX4, "set", "(IIII)I"⟩
abbrev cX4_erase : ByteArray := prog_1_method_11_code
def yX4_erase : MethodName := ⟨RX4, "erase", "(III)I"⟩
abbrev cX4_copy : ByteArray := prog_1_method_12_code
def yX4_copy : MethodName := ⟨RX4, "copy", "(III)I"⟩
abbrev cX4_think : ByteArray := prog_1_method_13_code
def yX4_think : MethodName := ⟨RX4, "think", "(III)I"⟩
abbrev cX4_mind : ByteArray := prog_1_method_14_code
def yX4_mind : MethodName := ⟨RX4, "mind", "(II)I"⟩
abbrev cX4_undo : ByteArray := prog_1_method_15_code
def yX4_undo : MethodName := ⟨RX4, "undo", "()I"⟩
abbrev cX4_own : ByteArray := prog_1_method_16_code
def yX4_own : MethodName := ⟨RX4, "own", "(II)I"⟩
abbrev cX4_tears : ByteArray := prog_1_method_17_code
def yX4_tears : MethodName := ⟨RX4, "tears", "(III)I"⟩
abbrev cX4_whom : ByteArray := prog_1_method_18_code
def yX4_whom : MethodName := ⟨RX4, "whom", "(III)I"⟩
abbrev cX4_treaty : ByteArray := prog_1_method_19_code
def yX4_treaty : MethodName := ⟨RX4, "treaty", "(III)I"⟩
abbrev cX4_round : ByteArray := prog_1_method_20_code
def yX4_round : MethodName := ⟨RX4, "round", "(III)I"⟩
abbrev cX4_again : ByteArray := prog_1_method_21_code
def yX4_again : MethodName := ⟨RX4, "again", "(II)I"⟩
abbrev cX4_least : ByteArray := prog_1_method_22_code
def yX4_least : MethodName := ⟨RX4, "least", "(III)I"⟩
abbrev cX4_sign : ByteArray := prog_1_method_23_code
def yX4_sign : MethodName := ⟨RX4, "sign", "(II)I"⟩
abbrev cX4_forget : ByteArray := prog_1_method_24_code
def yX4_forget : MethodName := ⟨RX4, "forget", "()I"⟩
abbrev cX4_who : ByteArray := prog_1_method_25_code
def yX4_who : MethodName := ⟨RX4, "who", "(I)I"⟩
abbrev cX4_views : ByteArray := prog_1_method_26_code
def yX4_views : MethodName := ⟨RX4, "views", "(III)I"⟩
abbrev cX4_drops : ByteArray := prog_1_method_27_code
def yX4_drops : MethodName := ⟨RX4, "drops", "(IIIII)J"⟩
abbrev cX4_weeks : ByteArray := prog_1_method_28_code
def yX4_weeks : MethodName := ⟨RX4, "weeks", "(III)I"⟩
abbrev cX4_keep : ByteArray := prog_1_method_29_code
def yX4_keep : MethodName := ⟨RX4, "keep", "()I"⟩
abbrev cX4_back : ByteArray := prog_1_method_30_code
def yX4_back : MethodName := ⟨RX4, "back", "()I"⟩
abbrev cX4_count : ByteArray := prog_1_method_31_code
def yX4_count : MethodName := ⟨RX4, "count", "(I)I"⟩
abbrev cX4_firstSeen : ByteArray := prog_1_method_32_code
def yX4_firstSeen : MethodName := ⟨RX4, "firstSeen", "(II)I"⟩
abbrev cX4_isUpTo : ByteArray := prog_1_method_33_code
def yX4_isUpTo : MethodName := ⟨RX4, "isUpTo", "(II)Z"⟩
abbrev cX4_isTheme : ByteArray := prog_1_method_34_code
def yX4_isTheme : MethodName := ⟨RX4, "isTheme", "(I)Z"⟩
abbrev cX4_told : ByteArray := prog_1_method_35_code
def yX4_told : MethodName := ⟨RX4, "told", "(I)I"⟩
abbrev cX4_at : ByteArray := prog_1_method_36_code
def yX4_at : MethodName := ⟨RX4, "at", "([II)I"⟩
abbrev cX4_put : ByteArray := prog_1_method_37_code
def yX4_put : MethodName := ⟨RX4, "put", "([III)V"⟩
abbrev cX4_remainder : ByteArray := prog_1_method_38_code
def yX4_remainder : MethodName := ⟨RX4, "remainder", "(II)I"⟩
abbrev cX4_drawOf : ByteArray := prog_1_method_39_code
def yX4_drawOf : MethodName := ⟨RX4, "drawOf", "(II)I"⟩
abbrev cX4_waysOfTears : ByteArray := prog_1_method_40_code
def yX4_waysOfTears : MethodName := ⟨RX4, "waysOfTears", "(II)J"⟩
abbrev cX4_greatestDivisor : ByteArray := prog_1_method_41_code
def yX4_greatestDivisor : MethodName := ⟨RX4, "greatestDivisor", "(JJ)J"⟩
abbrev cX4_inked : ByteArray := prog_1_method_42_code
def yX4_inked : MethodName := ⟨RX4, "inked", "(IIII)I"⟩
abbrev cX4_mixed : ByteArray := prog_1_method_43_code
def yX4_mixed : MethodName := ⟨RX4, "mixed", "(III)I"⟩
abbrev cX4_carried : ByteArray := prog_1_method_44_code
def yX4_carried : MethodName := ⟨RX4, "carried", "(III)I"⟩
abbrev cX4_toward : ByteArray := prog_1_method_45_code
def yX4_toward : MethodName := ⟨RX4, "toward", "(III)I"⟩
def RX5 : String := "OtherSideInkModel"
def TX5 : u_T := fun k => match k with
  | 0 => ("OtherSideInkModel", "persons", "I", false)
  | 1 => ("OtherSideInkModel", "kinds", "[I", true)
  | 2 => ("OtherSideInkModel", "papers", "I", false)
  | 3 => ("OtherSideInkModel", "st", "[I", true)
  | 4 => ("OtherSideInkModel", "acts", "I", false)
  | 5 => ("OtherSideInkModel", "was", "[I", true)
  | 6 => ("OtherSideInkModel", "keeps", "I", false)
  | 7 => ("OtherSideInkModel", "kept", "[I", true)
  | 8 => ("OtherSideInkModel", "signs", "I", false)
  | 9 => ("OtherSideInkModel", "signed", "[I", true)
  | 10 => ("OtherSideInkModel", "text", "[I", true)
  | 11 => ("OtherSideInkModel", "texted", "I", false)
  | 12 => ("OtherSideInkModel", "at", "I", false)
  | 13 => ("OtherSideInkModel", "told", "[I", true)
  | 14 => ("OtherSideInkModel", "readPersons", "I", false)
  | 15 => ("OtherSideInkModel", "readKinds", "[I", true)
  | 16 => ("OtherSideInkModel", "readPapers", "I", false)
  | 17 => ("OtherSideInkModel", "read", "[I", true)
  | 18 => ("OtherSideInkModel", "now", "[I", true)
  | _ => ("OtherSideInkModel", "rows", "[I", true)
def tyX5 : Nat → FieldType := fun k => match k with
  | 0 => .int
  | 1 => .array .int
  | 2 => .int
  | 3 => .array .int
  | 4 => .int
  | 5 => .array .int
  | 6 => .int
  | 7 => .array .int
  | 8 => .int
  | 9 => .array .int
  | 10 => .array .int
  | 11 => .int
  | 12 => .int
  | 13 => .array .int
  | 14 => .int
  | 15 => .array .int
  | 16 => .int
  | 17 => .array .int
  | 18 => .array .int
  | _ => .array .int
theorem nmX5 : ∀ a, a < 20 → ∀ b, b < 20 → a ≠ b → (TX5 a).2.1 ≠ (TX5 b).2.1 := by decide +kernel
theorem tyX5_ok : ∀ k, k < 20 → parseFieldDescriptor (TX5 k).2.2.1 = some (tyX5 k) := by decide +kernel
abbrev cX5_init : ByteArray := prog_7_method_1_code
def yX5_init : MethodName := ⟨RX5, "<init>", "()V"⟩
abbrev cX5_tellsPerson : ByteArray := prog_7_method_3_code
def yX5_tellsPerson : MethodName := ⟨RX5, "tellsPerson", "(II)V"⟩
abbrev cX5_in : ByteArray := prog_7_method_4_code
def yX5_in : MethodName := ⟨RX5, "in", "(III)Z"⟩
abbrev cX5_isPerson : ByteArray := prog_7_method_6_code
def yX5_isPerson : MethodName := ⟨RX5, "isPerson", "(I)Z"⟩
abbrev cX5_isPaper : ByteArray := prog_7_method_7_code
def yX5_isPaper : MethodName := ⟨RX5, "isPaper", "(I)Z"⟩
abbrev cX5_isTheme : ByteArray := prog_7_method_8_code
def yX5_isTheme : MethodName := ⟨RX5, "isTheme", "(I)Z"⟩
abbrev cX5_write : ByteArray := prog_7_method_9_code
def yX5_write : MethodName := ⟨RX5, "write", "(I)I"⟩
abbrev cX5_wipe : ByteArray := prog_7_method_10_code
def yX5_wipe : MethodName := ⟨RX5, "wipe", "()I"⟩
abbrev cX5_letterAt : ByteArray := prog_7_method_11_code
def yX5_letterAt : MethodName := ⟨RX5, "letterAt", "(I)I"⟩
abbrev cX5_isFigure : ByteArray := prog_7_method_12_code
def yX5_isFigure : MethodName := ⟨RX5, "isFigure", "(I)Z"⟩
abbrev cX5_readNumbers : ByteArray := prog_7_method_13_code
def yX5_readNumbers : MethodName := ⟨RX5, "readNumbers", "(I)Z"⟩
abbrev cX5_isTold : ByteArray := prog_7_method_14_code
def yX5_isTold : MethodName := ⟨RX5, "isTold", "(III)Z"⟩
abbrev cX5_clearTold : ByteArray := prog_7_method_15_code
def yX5_clearTold : MethodName := ⟨RX5, "clearTold", "()V"⟩
abbrev cX5_readPersonOf : ByteArray := prog_7_method_16_code
def yX5_readPersonOf : MethodName := ⟨RX5, "readPersonOf", "()Z"⟩
abbrev cX5_readViewOf : ByteArray := prog_7_method_17_code
def yX5_readViewOf : MethodName := ⟨RX5, "readViewOf", "()Z"⟩
abbrev cX5_readPapersOf : ByteArray := prog_7_method_18_code
def yX5_readPapersOf : MethodName := ⟨RX5, "readPapersOf", "()Z"⟩
abbrev cX5_readItem : ByteArray := prog_7_method_19_code
def yX5_readItem : MethodName := ⟨RX5, "readItem", "()Z"⟩
abbrev cX5_fault : ByteArray := prog_7_method_20_code
def yX5_fault : MethodName := ⟨RX5, "fault", "()I"⟩
abbrev cX5_lay : ByteArray := prog_7_method_21_code
def yX5_lay : MethodName := ⟨RX5, "lay", "()I"⟩
abbrev cX5_settles : ByteArray := prog_7_method_22_code
def yX5_settles : MethodName := ⟨RX5, "settles", "()V"⟩
abbrev cX5_copies : ByteArray := prog_7_method_23_code
def yX5_copies : MethodName := ⟨RX5, "copies", "([II[II)V"⟩
abbrev cX5_asItIs : ByteArray := prog_7_method_24_code
def yX5_asItIs : MethodName := ⟨RX5, "asItIs", "()V"⟩
abbrev cX5_viewOf : ByteArray := prog_7_method_25_code
def yX5_viewOf : MethodName := ⟨RX5, "viewOf", "(II)I"⟩
abbrev cX5_writes : ByteArray := prog_7_method_26_code
def yX5_writes : MethodName := ⟨RX5, "writes", "(IIII)I"⟩
abbrev cX5_toward : ByteArray := prog_7_method_27_code
def yX5_toward : MethodName := ⟨RX5, "toward", "(III)I"⟩
abbrev cX5_copied : ByteArray := prog_7_method_28_code
def yX5_copied : MethodName := ⟨RX5, "copied", "(III)I"⟩
abbrev cX5_copying : ByteArray := prog_7_method_29_code
def yX5_copying : MethodName := ⟨RX5, "copying", "(III)V"⟩
abbrev cX5_says : ByteArray := prog_7_method_30_code
def yX5_says : MethodName := ⟨RX5, "says", "(I)I"⟩
abbrev cX5_person : ByteArray := prog_7_method_31_code
def yX5_person : MethodName := ⟨RX5, "person", "(II)I"⟩
abbrev cX5_view : ByteArray := prog_7_method_32_code
def yX5_view : MethodName := ⟨RX5, "view", "(II)I"⟩
abbrev cX5_line : ByteArray := prog_7_method_33_code
def yX5_line : MethodName := ⟨RX5, "line", "(II)I"⟩
abbrev cX5_would : ByteArray := prog_7_method_34_code
def yX5_would : MethodName := ⟨RX5, "would", "(III)I"⟩
abbrev cX5_remembers : ByteArray := prog_7_method_35_code
def yX5_remembers : MethodName := ⟨RX5, "remembers", "()V"⟩
abbrev cX5_set : ByteArray := prog_7_method_36_code
def yX5_set : MethodName := ⟨RX5, "set", "(IIII)I"⟩
abbrev cX5_erase : ByteArray := prog_7_method_37_code
def yX5_erase : MethodName := ⟨RX5, "erase", "(III)I"⟩
abbrev cX5_filled : ByteArray := prog_7_method_38_code
def yX5_filled : MethodName := ⟨RX5, "filled", "(I)I"⟩
abbrev cX5_copy : ByteArray := prog_7_method_39_code
def yX5_copy : MethodName := ⟨RX5, "copy", "(III)I"⟩
abbrev cX5_think : ByteArray := prog_7_method_40_code
def yX5_think : MethodName := ⟨RX5, "think", "(III)I"⟩
abbrev cX5_mind : ByteArray := prog_7_method_41_code
def yX5_mind : MethodName := ⟨RX5, "mind", "(II)I"⟩
abbrev cX5_undo : ByteArray := prog_7_method_42_code
def yX5_undo : MethodName := ⟨RX5, "undo", "()I"⟩
abbrev cX5_ownOf : ByteArray := prog_7_method_43_code
def yX5_ownOf : MethodName := ⟨RX5, "ownOf", "(II)I"⟩
abbrev cX5_own : ByteArray := prog_7_method_44_code
def yX5_own : MethodName := ⟨RX5, "own", "(II)I"⟩
abbrev cX5_tears : ByteArray := prog_7_method_45_code
def yX5_tears : MethodName := ⟨RX5, "tears", "(III)I"⟩
abbrev cX5_whom : ByteArray := prog_7_method_46_code
def yX5_whom : MethodName := ⟨RX5, "whom", "(III)I"⟩
abbrev cX5_treaty : ByteArray := prog_7_method_47_code
def yX5_treaty : MethodName := ⟨RX5, "treaty", "(III)I"⟩
abbrev cX5_round : ByteArray := prog_7_method_48_code
def yX5_round : MethodName := ⟨RX5, "round", "(III)I"⟩
abbrev cX5_again : ByteArray := prog_7_method_49_code
def yX5_again : MethodName := ⟨RX5, "again", "(II)I"⟩
abbrev cX5_least : ByteArray := prog_7_method_50_code
def yX5_least : MethodName := ⟨RX5, "least", "(III)I"⟩
abbrev cX5_sign : ByteArray := prog_7_method_51_code
def yX5_sign : MethodName := ⟨RX5, "sign", "(II)I"⟩
abbrev cX5_forget : ByteArray := prog_7_method_52_code
def yX5_forget : MethodName := ⟨RX5, "forget", "()I"⟩
abbrev cX5_isWritten : ByteArray := prog_7_method_53_code
def yX5_isWritten : MethodName := ⟨RX5, "isWritten", "(III)Z"⟩
abbrev cX5_who : ByteArray := prog_7_method_54_code
def yX5_who : MethodName := ⟨RX5, "who", "(I)I"⟩
abbrev cX5_views : ByteArray := prog_7_method_55_code
def yX5_views : MethodName := ⟨RX5, "views", "(III)I"⟩
abbrev cX5_drops : ByteArray := prog_7_method_56_code
def yX5_drops : MethodName := ⟨RX5, "drops", "(IIIII)J"⟩
abbrev cX5_weeks : ByteArray := prog_7_method_57_code
def yX5_weeks : MethodName := ⟨RX5, "weeks", "(III)I"⟩
abbrev cX5_keep : ByteArray := prog_7_method_58_code
def yX5_keep : MethodName := ⟨RX5, "keep", "()I"⟩
abbrev cX5_back : ByteArray := prog_7_method_59_code
def yX5_back : MethodName := ⟨RX5, "back", "()I"⟩
abbrev cX5_count : ByteArray := prog_7_method_60_code
def yX5_count : MethodName := ⟨RX5, "count", "(I)I"⟩
def RJx145de : String := "java/io/Serializable"
def RJx9f9b0 : String := "java/lang/CharSequence"
def RJxb160c : String := "java/lang/Comparable"
def RJ6 : String := "java/lang/Integer"
abbrev cJ6_bitCount_0f7a4 : ByteArray := prog_8_method_49_code
def yJ6_bitCount_0f7a4 : MethodName := ⟨RJ6, "bitCount", "(I)I"⟩
def RJ9 : String := "java/lang/Math"
abbrev cJ9_max_7cf53 : ByteArray := prog_9_method_65_code
def yJ9_max_7cf53 : MethodName := ⟨RJ9, "max", "(II)I"⟩
abbrev cJ9_min_7cf53 : ByteArray := prog_9_method_69_code
def yJ9_min_7cf53 : MethodName := ⟨RJ9, "min", "(II)I"⟩
def RJ0 : String := "java/lang/String"
abbrev cJ0_length_8abf5 : ByteArray := prog_10_method_54_code
def yJ0_length_8abf5 : MethodName := ⟨RJ0, "length", "()I"⟩
abbrev cJ0_charAt_5068e : ByteArray := prog_10_method_56_code
def yJ0_charAt_5068e : MethodName := ⟨RJ0, "charAt", "(I)C"⟩
abbrev cJ0_coder_7d493 : ByteArray := prog_10_method_152_code
def yJ0_coder_7d493 : MethodName := ⟨RJ0, "coder", "()B"⟩
abbrev cJ0_isLatin1_aae02 : ByteArray := prog_10_method_154_code
def yJ0_isLatin1_aae02 : MethodName := ⟨RJ0, "isLatin1", "()Z"⟩
abbrev cJ0_checkIndex_df160 : ByteArray := prog_10_method_155_code
def yJ0_checkIndex_df160 : MethodName := ⟨RJ0, "checkIndex", "(II)V"⟩
def RJ1 : String := "java/lang/StringLatin1"
abbrev cJ1_charAt_3b067 : ByteArray := prog_11_method_2_code
def yJ1_charAt_3b067 : MethodName := ⟨RJ1, "charAt", "([BI)C"⟩
def RJ2 : String := "java/lang/StringUTF16"
abbrev cJ2_getChar_3b067 : ByteArray := prog_12_method_5_code
def yJ2_getChar_3b067 : MethodName := ⟨RJ2, "getChar", "([BI)C"⟩
abbrev cJ2_length_9d52b : ByteArray := prog_12_method_6_code
def yJ2_length_9d52b : MethodName := ⟨RJ2, "length", "([B)I"⟩
abbrev cJ2_charAt_3b067 : ByteArray := prog_12_method_83_code
def yJ2_charAt_3b067 : MethodName := ⟨RJ2, "charAt", "([BI)C"⟩
abbrev cJ2_checkIndex_2214a : ByteArray := prog_12_method_91_code
def yJ2_checkIndex_2214a : MethodName := ⟨RJ2, "checkIndex", "(I[B)V"⟩
def RJ10 : String := "java/lang/System"
def RJxfd54e : String := "java/lang/constant/Constable"
def RJx3cf43 : String := "java/lang/constant/ConstantDesc"
def RJ7 : String := "java/util/Arrays"
abbrev cJ7_fill_53178 : ByteArray := prog_14_method_103_code
def yJ7_fill_53178 : MethodName := ⟨RJ7, "fill", "([II)V"⟩
def RJ3 : String := "jdk/internal/util/Preconditions"
abbrev cJ3_checkIndex_8e157 : ByteArray := prog_15_method_11_code
def yJ3_checkIndex_8e157 : MethodName := ⟨RJ3, "checkIndex", "(IILjava/util/function/BiFunction;)I"⟩
def RL : String := "OtherSideInkLaw"
abbrev cL_law : ByteArray := code
def yL_law : MethodName := ⟨RL, "law", "([I)Z"⟩
abbrev vwCl : List vw_C := [(RX0, TX0, 6), (RX1, TX1, 3), (RX2, TX2, 3), (RX3, TX3, 4), (RX4, TX4, 7), (RX5, TX5, 20)]
/-! ===== the words that every method may use: the good ones of the tables ===== -/
def wU : List Cond := lw_tbl.filter goodWord
theorem wU_good : ∀ w ∈ wU, goodWord w = true := fun w h => (List.mem_filter.mp h).2
theorem wU_in : ∀ w ∈ wU, w ∈ lw_tbl := fun w h => (List.mem_filter.mp h).1
theorem mem_tab {w : Cond} (k : Nat) (h : tables_1[k]? = some w) (g : goodWord w = true) : w ∈ wU := List.mem_filter.mpr ⟨List.mem_append_right _ (List.mem_of_getElem? h), g⟩
theorem mem_sel {w : Cond} (k : Nat) (h : (k2_sels lw_privs)[k]? = some w) (g : goodWord w = true) : w ∈ wU := List.mem_filter.mpr ⟨List.mem_append_left _ (List.mem_of_getElem? h), g⟩
theorem mem_tbl {w : Cond} (k : Nat) (h : tables_1[k]? = some w) : w ∈ lw_tbl := List.mem_append_right _ (List.mem_of_getElem? h)
theorem wi_L : Cond.initialized RL ∈ wU := mem_tab 0 (by decide +kernel) (by decide +kernel)
theorem wi_X4 : Cond.initialized RX4 ∈ wU := mem_tab 1 (by decide +kernel) (by decide +kernel)
theorem wi_X3 : Cond.initialized RX3 ∈ wU := mem_tab 2 (by decide +kernel) (by decide +kernel)
theorem wi_X0 : Cond.initialized RX0 ∈ wU := mem_tab 3 (by decide +kernel) (by decide +kernel)
theorem wi_X1 : Cond.initialized RX1 ∈ wU := mem_tab 4 (by decide +kernel) (by decide +kernel)
theorem wi_J9 : Cond.initialized RJ9 ∈ wU := mem_tab 5 (by decide +kernel) (by decide +kernel)
theorem wi_X2 : Cond.initialized RX2 ∈ wU := mem_tab 6 (by decide +kernel) (by decide +kernel)
theorem wi_J0 : Cond.initialized RJ0 ∈ wU := mem_tab 7 (by decide +kernel) (by decide +kernel)
theorem wi_J1 : Cond.initialized RJ1 ∈ wU := mem_tab 8 (by decide +kernel) (by decide +kernel)
theorem wi_J3 : Cond.initialized RJ3 ∈ wU := mem_tab 9 (by decide +kernel) (by decide +kernel)
theorem wi_J2 : Cond.initialized RJ2 ∈ wU := mem_tab 10 (by decide +kernel) (by decide +kernel)
theorem wi_J7 : Cond.initialized RJ7 ∈ wU := mem_tab 11 (by decide +kernel) (by decide +kernel)
theorem wi_X5 : Cond.initialized RX5 ∈ wU := mem_tab 12 (by decide +kernel) (by decide +kernel)
theorem wi_J10 : Cond.initialized RJ10 ∈ wU := mem_tab 13 (by decide +kernel) (by decide +kernel)
theorem wi_J6 : Cond.initialized RJ6 ∈ wU := mem_tab 14 (by decide +kernel) (by decide +kernel)
theorem wcl_L_7 : Cond.classLink RL 7 RX4 ∈ wU := mem_tab 15 (by decide +kernel) (by decide +kernel)
theorem wns_X4 : Cond.instantiable RX4 7 ∈ wU := mem_tab 16 (by decide +kernel) (by decide +kernel)
theorem wl_L_9 : Cond.methodLink RL 9 yX4_init ∈ wU := mem_tab 17 (by decide +kernel) (by decide +kernel)
theorem win_X4_init : Cond.instanceMethod yX4_init ∈ wU := mem_tab 18 (by decide +kernel) (by decide +kernel)
theorem wco_X4_init : Cond.code yX4_init cX4_init 2 none ∈ wU := mem_tab 19 (by decide +kernel) (by decide +kernel)
theorem wl_X4_1 : Cond.methodLink RX4 1 objectInit ∈ wU := mem_tab 20 (by decide +kernel) (by decide +kernel)
theorem win_Obj : Cond.instanceMethod objectInit ∈ wU := mem_tab 21 (by decide +kernel) (by decide +kernel)
theorem wco_Obj : Cond.code objectInit ⟨#[0xb1]⟩ 1 none ∈ wU := mem_tab 22 (by decide +kernel) (by decide +kernel)
theorem wcl_X4_7 : Cond.classLink RX4 7 RX3 ∈ wU := mem_tab 23 (by decide +kernel) (by decide +kernel)
theorem wns_X3 : Cond.instantiable RX3 4 ∈ wU := mem_tab 24 (by decide +kernel) (by decide +kernel)
theorem wl_X4_9 : Cond.methodLink RX4 9 yX3_init ∈ wU := mem_tab 25 (by decide +kernel) (by decide +kernel)
theorem win_X3_init : Cond.instanceMethod yX3_init ∈ wU := mem_tab 26 (by decide +kernel) (by decide +kernel)
theorem wco_X3_init : Cond.code yX3_init cX3_init 1 none ∈ wU := mem_tab 27 (by decide +kernel) (by decide +kernel)
theorem wl_X3_3 : Cond.methodLink RX3 3 objectInit ∈ wU := mem_tab 28 (by decide +kernel) (by decide +kernel)
theorem wf_X3_9 : Cond.fieldLink RX3 9 "OtherSideInk$Text" "letters" "[I" ∈ wU := mem_tab 29 (by decide +kernel) (by decide +kernel)
theorem wf_X3_18 : Cond.fieldLink RX3 18 "OtherSideInk$Text" "length" "I" ∈ wU := mem_tab 30 (by decide +kernel) (by decide +kernel)
theorem wf_X3_15 : Cond.fieldLink RX3 15 "OtherSideInk$Text" "numbers" "[I" ∈ wU := mem_tab 31 (by decide +kernel) (by decide +kernel)
theorem wf_X3_42 : Cond.fieldLink RX3 42 "OtherSideInk$Text" "numberCount" "I" ∈ wU := mem_tab 32 (by decide +kernel) (by decide +kernel)
theorem war_int : Cond.arrayClass .int ∈ wU := mem_tab 42 (by decide +kernel) (by decide +kernel)
theorem wcl_X4_16 : Cond.classLink RX4 16 RX0 ∈ wU := mem_tab 43 (by decide +kernel) (by decide +kernel)
theorem wns_X0 : Cond.instantiable RX0 6 ∈ wU := mem_tab 44 (by decide +kernel) (by decide +kernel)
theorem wl_X4_18 : Cond.methodLink RX4 18 yX0_init ∈ wU := mem_tab 45 (by decide +kernel) (by decide +kernel)
theorem win_X0_init : Cond.instanceMethod yX0_init ∈ wU := mem_tab 46 (by decide +kernel) (by decide +kernel)
theorem wco_X0_init : Cond.code yX0_init cX0_init 1 none ∈ wU := mem_tab 47 (by decide +kernel) (by decide +kernel)
theorem wl_X0_3 : Cond.methodLink RX0 3 objectInit ∈ wU := mem_tab 48 (by decide +kernel) (by decide +kernel)
theorem wf_X0_24 : Cond.fieldLink RX0 24 "OtherSideInk$Chancery" "personCount" "I" ∈ wU := mem_tab 49 (by decide +kernel) (by decide +kernel)
theorem wf_X0_28 : Cond.fieldLink RX0 28 "OtherSideInk$Chancery" "paperCount" "I" ∈ wU := mem_tab 50 (by decide +kernel) (by decide +kernel)
theorem wf_X0_9 : Cond.fieldLink RX0 9 "OtherSideInk$Chancery" "kindRow" "[I" ∈ wU := mem_tab 51 (by decide +kernel) (by decide +kernel)
theorem wf_X0_15 : Cond.fieldLink RX0 15 "OtherSideInk$Chancery" "mindRow" "[I" ∈ wU := mem_tab 52 (by decide +kernel) (by decide +kernel)
theorem wf_X0_18 : Cond.fieldLink RX0 18 "OtherSideInk$Chancery" "viewRow" "[I" ∈ wU := mem_tab 53 (by decide +kernel) (by decide +kernel)
theorem wf_X0_21 : Cond.fieldLink RX0 21 "OtherSideInk$Chancery" "lineRow" "[I" ∈ wU := mem_tab 54 (by decide +kernel) (by decide +kernel)
theorem wcl_X4_26 : Cond.classLink RX4 26 RX1 ∈ wU := mem_tab 68 (by decide +kernel) (by decide +kernel)
theorem wns_X1 : Cond.instantiable RX1 3 ∈ wU := mem_tab 69 (by decide +kernel) (by decide +kernel)
theorem wl_X4_28 : Cond.methodLink RX4 28 yX1_init ∈ wU := mem_tab 70 (by decide +kernel) (by decide +kernel)
theorem win_X1_init : Cond.instanceMethod yX1_init ∈ wU := mem_tab 71 (by decide +kernel) (by decide +kernel)
theorem wco_X1_init : Cond.code yX1_init cX1_init 3 none ∈ wU := mem_tab 72 (by decide +kernel) (by decide +kernel)
theorem wl_X1_1 : Cond.methodLink RX1 1 objectInit ∈ wU := mem_tab 73 (by decide +kernel) (by decide +kernel)
theorem wl_X1_7 : Cond.methodLink RX1 7 Lib.Math.max.name ∈ wU := mem_tab 74 (by decide +kernel) (by decide +kernel)
theorem wst_max : Cond.static Lib.Math.max.name ∈ wU := mem_tab 75 (by decide +kernel) (by decide +kernel)
theorem wco_max : Cond.code Lib.Math.max.name Lib.Math.max.code 2 (some .int) ∈ wU := mem_tab 76 (by decide +kernel) (by decide +kernel)
theorem wcl_X1_13 : Cond.classLink RX1 13 RX0 ∈ wU := mem_tab 77 (by decide +kernel) (by decide +kernel)
theorem wl_X1_21 : Cond.methodLink RX1 21 yX0_init ∈ wU := mem_tab 79 (by decide +kernel) (by decide +kernel)
theorem wf_X1_15 : Cond.fieldLink RX1 15 "OtherSideInk$Shelf" "places" "[LOtherSideInk$Chancery;" ∈ wU := mem_tab 80 (by decide +kernel) (by decide +kernel)
theorem wf_X1_34 : Cond.fieldLink RX1 34 "OtherSideInk$Shelf" "lowest" "I" ∈ wU := mem_tab 81 (by decide +kernel) (by decide +kernel)
theorem wf_X1_22 : Cond.fieldLink RX1 22 "OtherSideInk$Shelf" "size" "I" ∈ wU := mem_tab 82 (by decide +kernel) (by decide +kernel)
theorem wcl_X4_38 : Cond.classLink RX4 38 RX2 ∈ wU := mem_tab 90 (by decide +kernel) (by decide +kernel)
theorem wns_X2 : Cond.instantiable RX2 3 ∈ wU := mem_tab 91 (by decide +kernel) (by decide +kernel)
theorem wl_X4_40 : Cond.methodLink RX4 40 yX2_init ∈ wU := mem_tab 92 (by decide +kernel) (by decide +kernel)
theorem win_X2_init : Cond.instanceMethod yX2_init ∈ wU := mem_tab 93 (by decide +kernel) (by decide +kernel)
theorem wco_X2_init : Cond.code yX2_init cX2_init 1 none ∈ wU := mem_tab 94 (by decide +kernel) (by decide +kernel)
theorem wl_X2_3 : Cond.methodLink RX2 3 objectInit ∈ wU := mem_tab 95 (by decide +kernel) (by decide +kernel)
theorem wf_X2_9 : Cond.fieldLink RX2 9 "OtherSideInk$Signatures" "themeRow" "[I" ∈ wU := mem_tab 96 (by decide +kernel) (by decide +kernel)
theorem wf_X2_15 : Cond.fieldLink RX2 15 "OtherSideInk$Signatures" "saidRow" "[I" ∈ wU := mem_tab 97 (by decide +kernel) (by decide +kernel)
theorem wf_X2_18 : Cond.fieldLink RX2 18 "OtherSideInk$Signatures" "size" "I" ∈ wU := mem_tab 98 (by decide +kernel) (by decide +kernel)
theorem wl_X4_51 : Cond.methodLink RX4 51 yJ0_length_8abf5 ∈ wU := mem_tab 107 (by decide +kernel) (by decide +kernel)
theorem win_J0_length_8abf5 : Cond.instanceMethod yJ0_length_8abf5 ∈ wU := mem_tab 108 (by decide +kernel) (by decide +kernel)
theorem wse_J0_length_8abf5 : Cond.selects RJ0 yJ0_length_8abf5 yJ0_length_8abf5 ∈ wU := mem_tab 109 (by decide +kernel) (by decide +kernel)
theorem wco_J0_length_8abf5 : Cond.code yJ0_length_8abf5 cJ0_length_8abf5 1 (some .int) ∈ wU := mem_tab 110 (by decide +kernel) (by decide +kernel)
theorem wl_J0_335 : Cond.methodLink RJ0 335 yJ0_coder_7d493 ∈ wU := mem_tab 111 (by decide +kernel) (by decide +kernel)
theorem win_J0_coder_7d493 : Cond.instanceMethod yJ0_coder_7d493 ∈ wU := mem_tab 112 (by decide +kernel) (by decide +kernel)
theorem wse_J0_coder_7d493 : Cond.selects RJ0 yJ0_coder_7d493 yJ0_coder_7d493 ∈ wU := mem_tab 113 (by decide +kernel) (by decide +kernel)
theorem wco_J0_coder_7d493 : Cond.code yJ0_coder_7d493 cJ0_coder_7d493 1 (some .byte) ∈ wU := mem_tab 114 (by decide +kernel) (by decide +kernel)
theorem wf_J0_38 : Cond.fieldLink RJ0 38 "java/lang/String" "COMPACT_STRINGS" "Z" ∈ wU := mem_tab 115 (by decide +kernel) (by decide +kernel)
theorem wl_X4_57 : Cond.methodLink RX4 57 yJ0_charAt_5068e ∈ wU := mem_tab 117 (by decide +kernel) (by decide +kernel)
theorem win_J0_charAt_5068e : Cond.instanceMethod yJ0_charAt_5068e ∈ wU := mem_tab 118 (by decide +kernel) (by decide +kernel)
theorem wse_J0_charAt_5068e : Cond.selects RJ0 yJ0_charAt_5068e yJ0_charAt_5068e ∈ wU := mem_tab 119 (by decide +kernel) (by decide +kernel)
theorem wco_J0_charAt_5068e : Cond.code yJ0_charAt_5068e cJ0_charAt_5068e 2 (some .char) ∈ wU := mem_tab 120 (by decide +kernel) (by decide +kernel)
theorem wl_J0_492 : Cond.methodLink RJ0 492 yJ0_isLatin1_aae02 ∈ wU := mem_tab 121 (by decide +kernel) (by decide +kernel)
theorem win_J0_isLatin1_aae02 : Cond.instanceMethod yJ0_isLatin1_aae02 ∈ wU := mem_tab 122 (by decide +kernel) (by decide +kernel)
theorem wse_J0_isLatin1_aae02 : Cond.selects RJ0 yJ0_isLatin1_aae02 yJ0_isLatin1_aae02 ∈ wU := mem_tab 123 (by decide +kernel) (by decide +kernel)
theorem wco_J0_isLatin1_aae02 : Cond.code yJ0_isLatin1_aae02 cJ0_isLatin1_aae02 1 (some .boolean) ∈ wU := mem_tab 124 (by decide +kernel) (by decide +kernel)
theorem wl_J0_495 : Cond.methodLink RJ0 495 yJ1_charAt_3b067 ∈ wU := mem_tab 125 (by decide +kernel) (by decide +kernel)
theorem wst_J1_charAt_3b067 : Cond.static yJ1_charAt_3b067 ∈ wU := mem_tab 126 (by decide +kernel) (by decide +kernel)
theorem wco_J1_charAt_3b067 : Cond.code yJ1_charAt_3b067 cJ1_charAt_3b067 2 (some .char) ∈ wU := mem_tab 127 (by decide +kernel) (by decide +kernel)
theorem wl_J1_9 : Cond.methodLink RJ1 9 yJ0_checkIndex_df160 ∈ wU := mem_tab 128 (by decide +kernel) (by decide +kernel)
theorem wst_J0_checkIndex_df160 : Cond.static yJ0_checkIndex_df160 ∈ wU := mem_tab 129 (by decide +kernel) (by decide +kernel)
theorem wco_J0_checkIndex_df160 : Cond.code yJ0_checkIndex_df160 cJ0_checkIndex_df160 2 none ∈ wU := mem_tab 130 (by decide +kernel) (by decide +kernel)
theorem wf_J0_1053 : Cond.fieldLink RJ0 1053 "jdk/internal/util/Preconditions" "SIOOBE_FORMATTER" "Ljava/util/function/BiFunction;" ∈ wU := mem_tab 131 (by decide +kernel) (by decide +kernel)
theorem wl_J0_1059 : Cond.methodLink RJ0 1059 yJ3_checkIndex_8e157 ∈ wU := mem_tab 133 (by decide +kernel) (by decide +kernel)
theorem wst_J3_checkIndex_8e157 : Cond.static yJ3_checkIndex_8e157 ∈ wU := mem_tab 134 (by decide +kernel) (by decide +kernel)
theorem wco_J3_checkIndex_8e157 : Cond.code yJ3_checkIndex_8e157 cJ3_checkIndex_8e157 3 (some .int) ∈ wU := mem_tab 135 (by decide +kernel) (by decide +kernel)
theorem wl_J0_498 : Cond.methodLink RJ0 498 yJ2_charAt_3b067 ∈ wU := mem_tab 136 (by decide +kernel) (by decide +kernel)
theorem wst_J2_charAt_3b067 : Cond.static yJ2_charAt_3b067 ∈ wU := mem_tab 137 (by decide +kernel) (by decide +kernel)
theorem wco_J2_charAt_3b067 : Cond.code yJ2_charAt_3b067 cJ2_charAt_3b067 2 (some .char) ∈ wU := mem_tab 138 (by decide +kernel) (by decide +kernel)
theorem wl_J2_67 : Cond.methodLink RJ2 67 yJ2_checkIndex_2214a ∈ wU := mem_tab 139 (by decide +kernel) (by decide +kernel)
theorem wst_J2_checkIndex_2214a : Cond.static yJ2_checkIndex_2214a ∈ wU := mem_tab 140 (by decide +kernel) (by decide +kernel)
theorem wco_J2_checkIndex_2214a : Cond.code yJ2_checkIndex_2214a cJ2_checkIndex_2214a 2 none ∈ wU := mem_tab 141 (by decide +kernel) (by decide +kernel)
theorem wl_J2_48 : Cond.methodLink RJ2 48 yJ2_length_9d52b ∈ wU := mem_tab 142 (by decide +kernel) (by decide +kernel)
theorem wst_J2_length_9d52b : Cond.static yJ2_length_9d52b ∈ wU := mem_tab 143 (by decide +kernel) (by decide +kernel)
theorem wco_J2_length_9d52b : Cond.code yJ2_length_9d52b cJ2_length_9d52b 1 (some .int) ∈ wU := mem_tab 144 (by decide +kernel) (by decide +kernel)
theorem wl_J2_414 : Cond.methodLink RJ2 414 yJ0_checkIndex_df160 ∈ wU := mem_tab 145 (by decide +kernel) (by decide +kernel)
theorem wl_J2_71 : Cond.methodLink RJ2 71 yJ2_getChar_3b067 ∈ wU := mem_tab 146 (by decide +kernel) (by decide +kernel)
theorem wst_J2_getChar_3b067 : Cond.static yJ2_getChar_3b067 ∈ wU := mem_tab 147 (by decide +kernel) (by decide +kernel)
theorem wco_J2_getChar_3b067 : Cond.code yJ2_getChar_3b067 cJ2_getChar_3b067 2 (some .char) ∈ wU := mem_tab 148 (by decide +kernel) (by decide +kernel)
theorem wf_J2_44 : Cond.fieldLink RJ2 44 "java/lang/StringUTF16" "$assertionsDisabled" "Z" ∈ wU := mem_tab 149 (by decide +kernel) (by decide +kernel)
theorem wf_J2_59 : Cond.fieldLink RJ2 59 "java/lang/StringUTF16" "HI_BYTE_SHIFT" "I" ∈ wU := mem_tab 151 (by decide +kernel) (by decide +kernel)
theorem wf_J2_63 : Cond.fieldLink RJ2 63 "java/lang/StringUTF16" "LO_BYTE_SHIFT" "I" ∈ wU := mem_tab 153 (by decide +kernel) (by decide +kernel)
theorem wl_X4_61 : Cond.methodLink RX4 61 yX3_append ∈ wU := mem_tab 155 (by decide +kernel) (by decide +kernel)
theorem win_X3_append : Cond.instanceMethod yX3_append ∈ wU := mem_tab 156 (by decide +kernel) (by decide +kernel)
theorem wse_X3_append : Cond.selects RX3 yX3_append yX3_append ∈ wU := mem_tab 157 (by decide +kernel) (by decide +kernel)
theorem wco_X3_append : Cond.code yX3_append cX3_append 2 none ∈ wU := mem_tab 158 (by decide +kernel) (by decide +kernel)
theorem wst_X4_put : Cond.static yX4_put ∈ wU := mem_tab 160 (by decide +kernel) (by decide +kernel)
theorem wco_X4_put : Cond.code yX4_put cX4_put 3 none ∈ wU := mem_tab 161 (by decide +kernel) (by decide +kernel)
theorem wl_X4_64 : Cond.methodLink RX4 64 yX3_readInto ∈ wU := mem_tab 162 (by decide +kernel) (by decide +kernel)
theorem win_X3_readInto : Cond.instanceMethod yX3_readInto ∈ wU := mem_tab 163 (by decide +kernel) (by decide +kernel)
theorem wse_X3_readInto : Cond.selects RX3 yX3_readInto yX3_readInto ∈ wU := mem_tab 164 (by decide +kernel) (by decide +kernel)
theorem wco_X3_readInto : Cond.code yX3_readInto cX3_readInto 5 (some .int) ∈ wU := mem_tab 165 (by decide +kernel) (by decide +kernel)
theorem wl_X3_26 : Cond.methodLink RX3 26 yX0_becomeBlank ∈ wU := mem_tab 166 (by decide +kernel) (by decide +kernel)
theorem win_X0_becomeBlank : Cond.instanceMethod yX0_becomeBlank ∈ wU := mem_tab 167 (by decide +kernel) (by decide +kernel)
theorem wse_X0_becomeBlank : Cond.selects RX0 yX0_becomeBlank yX0_becomeBlank ∈ wU := mem_tab 168 (by decide +kernel) (by decide +kernel)
theorem wco_X0_becomeBlank : Cond.code yX0_becomeBlank cX0_becomeBlank 1 none ∈ wU := mem_tab 169 (by decide +kernel) (by decide +kernel)
theorem wl_X0_31 : Cond.methodLink RX0 31 yJ7_fill_53178 ∈ wU := mem_tab 170 (by decide +kernel) (by decide +kernel)
theorem wst_J7_fill_53178 : Cond.static yJ7_fill_53178 ∈ wU := mem_tab 171 (by decide +kernel) (by decide +kernel)
theorem wco_J7_fill_53178 : Cond.code yJ7_fill_53178 cJ7_fill_53178 4 none ∈ wU := mem_tab 172 (by decide +kernel) (by decide +kernel)
theorem wl_X3_31 : Cond.methodLink RX3 31 yX3_readNumbers ∈ wU := mem_tab 173 (by decide +kernel) (by decide +kernel)
theorem win_X3_readNumbers : Cond.instanceMethod yX3_readNumbers ∈ wU := mem_tab 175 (by decide +kernel) (by decide +kernel)
theorem wco_X3_readNumbers : Cond.code yX3_readNumbers cX3_readNumbers 6 (some .int) ∈ wU := mem_tab 176 (by decide +kernel) (by decide +kernel)
theorem wl_X3_45 : Cond.methodLink RX3 45 yX3_figuresAt ∈ wU := mem_tab 177 (by decide +kernel) (by decide +kernel)
theorem win_X3_figuresAt : Cond.instanceMethod yX3_figuresAt ∈ wU := mem_tab 179 (by decide +kernel) (by decide +kernel)
theorem wco_X3_figuresAt : Cond.code yX3_figuresAt cX3_figuresAt 4 (some .int) ∈ wU := mem_tab 180 (by decide +kernel) (by decide +kernel)
theorem wl_X3_35 : Cond.methodLink RX3 35 yX3_letterAt ∈ wU := mem_tab 181 (by decide +kernel) (by decide +kernel)
theorem win_X3_letterAt : Cond.instanceMethod yX3_letterAt ∈ wU := mem_tab 183 (by decide +kernel) (by decide +kernel)
theorem wco_X3_letterAt : Cond.code yX3_letterAt cX3_letterAt 2 (some .int) ∈ wU := mem_tab 184 (by decide +kernel) (by decide +kernel)
theorem wst_X4_at : Cond.static yX4_at ∈ wU := mem_tab 186 (by decide +kernel) (by decide +kernel)
theorem wco_X4_at : Cond.code yX4_at cX4_at 2 (some .int) ∈ wU := mem_tab 187 (by decide +kernel) (by decide +kernel)
theorem wl_X3_68 : Cond.methodLink RX3 68 yX3_isFigure ∈ wU := mem_tab 188 (by decide +kernel) (by decide +kernel)
theorem wst_X3_isFigure : Cond.static yX3_isFigure ∈ wU := mem_tab 189 (by decide +kernel) (by decide +kernel)
theorem wco_X3_isFigure : Cond.code yX3_isFigure cX3_isFigure 1 (some .boolean) ∈ wU := mem_tab 190 (by decide +kernel) (by decide +kernel)
theorem wl_X3_48 : Cond.methodLink RX3 48 yX3_numberAt ∈ wU := mem_tab 191 (by decide +kernel) (by decide +kernel)
theorem win_X3_numberAt : Cond.instanceMethod yX3_numberAt ∈ wU := mem_tab 193 (by decide +kernel) (by decide +kernel)
theorem wco_X3_numberAt : Cond.code yX3_numberAt cX3_numberAt 5 (some .int) ∈ wU := mem_tab 194 (by decide +kernel) (by decide +kernel)
theorem wl_X3_38 : Cond.methodLink RX3 38 yX3_tellItem ∈ wU := mem_tab 195 (by decide +kernel) (by decide +kernel)
theorem win_X3_tellItem : Cond.instanceMethod yX3_tellItem ∈ wU := mem_tab 197 (by decide +kernel) (by decide +kernel)
theorem wco_X3_tellItem : Cond.code yX3_tellItem cX3_tellItem 3 (some .boolean) ∈ wU := mem_tab 198 (by decide +kernel) (by decide +kernel)
theorem wl_X3_56 : Cond.methodLink RX3 56 yX0_tellPerson ∈ wU := mem_tab 199 (by decide +kernel) (by decide +kernel)
theorem win_X0_tellPerson : Cond.instanceMethod yX0_tellPerson ∈ wU := mem_tab 200 (by decide +kernel) (by decide +kernel)
theorem wse_X0_tellPerson : Cond.selects RX0 yX0_tellPerson yX0_tellPerson ∈ wU := mem_tab 201 (by decide +kernel) (by decide +kernel)
theorem wco_X0_tellPerson : Cond.code yX0_tellPerson cX0_tellPerson 3 (some .boolean) ∈ wU := mem_tab 202 (by decide +kernel) (by decide +kernel)
theorem wst_X4_isUpTo : Cond.static yX4_isUpTo ∈ wU := mem_tab 204 (by decide +kernel) (by decide +kernel)
theorem wco_X4_isUpTo : Cond.code yX4_isUpTo cX4_isUpTo 2 (some .boolean) ∈ wU := mem_tab 205 (by decide +kernel) (by decide +kernel)
theorem wl_X3_60 : Cond.methodLink RX3 60 yX0_tellView ∈ wU := mem_tab 207 (by decide +kernel) (by decide +kernel)
theorem win_X0_tellView : Cond.instanceMethod yX0_tellView ∈ wU := mem_tab 208 (by decide +kernel) (by decide +kernel)
theorem wse_X0_tellView : Cond.selects RX0 yX0_tellView yX0_tellView ∈ wU := mem_tab 209 (by decide +kernel) (by decide +kernel)
theorem wco_X0_tellView : Cond.code yX0_tellView cX0_tellView 4 (some .boolean) ∈ wU := mem_tab 210 (by decide +kernel) (by decide +kernel)
theorem wl_X0_61 : Cond.methodLink RX0 61 yX0_hasPerson ∈ wU := mem_tab 211 (by decide +kernel) (by decide +kernel)
theorem win_X0_hasPerson : Cond.instanceMethod yX0_hasPerson ∈ wU := mem_tab 212 (by decide +kernel) (by decide +kernel)
theorem wse_X0_hasPerson : Cond.selects RX0 yX0_hasPerson yX0_hasPerson ∈ wU := mem_tab 213 (by decide +kernel) (by decide +kernel)
theorem wco_X0_hasPerson : Cond.code yX0_hasPerson cX0_hasPerson 2 (some .boolean) ∈ wU := mem_tab 214 (by decide +kernel) (by decide +kernel)
theorem wst_X4_isTheme : Cond.static yX4_isTheme ∈ wU := mem_tab 216 (by decide +kernel) (by decide +kernel)
theorem wco_X4_isTheme : Cond.code yX4_isTheme cX4_isTheme 1 (some .boolean) ∈ wU := mem_tab 217 (by decide +kernel) (by decide +kernel)
theorem wl_X0_68 : Cond.methodLink RX0 68 yX0_putView ∈ wU := mem_tab 218 (by decide +kernel) (by decide +kernel)
theorem win_X0_putView : Cond.instanceMethod yX0_putView ∈ wU := mem_tab 219 (by decide +kernel) (by decide +kernel)
theorem wse_X0_putView : Cond.selects RX0 yX0_putView yX0_putView ∈ wU := mem_tab 220 (by decide +kernel) (by decide +kernel)
theorem wco_X0_putView : Cond.code yX0_putView cX0_putView 4 none ∈ wU := mem_tab 221 (by decide +kernel) (by decide +kernel)
theorem wl_X3_64 : Cond.methodLink RX3 64 yX0_tellPapers ∈ wU := mem_tab 222 (by decide +kernel) (by decide +kernel)
theorem win_X0_tellPapers : Cond.instanceMethod yX0_tellPapers ∈ wU := mem_tab 223 (by decide +kernel) (by decide +kernel)
theorem wse_X0_tellPapers : Cond.selects RX0 yX0_tellPapers yX0_tellPapers ∈ wU := mem_tab 224 (by decide +kernel) (by decide +kernel)
theorem wco_X0_tellPapers : Cond.code yX0_tellPapers cX0_tellPapers 2 (some .boolean) ∈ wU := mem_tab 225 (by decide +kernel) (by decide +kernel)
theorem wl_X4_68 : Cond.methodLink RX4 68 yX3_clear ∈ wU := mem_tab 226 (by decide +kernel) (by decide +kernel)
theorem win_X3_clear : Cond.instanceMethod yX3_clear ∈ wU := mem_tab 227 (by decide +kernel) (by decide +kernel)
theorem wse_X3_clear : Cond.selects RX3 yX3_clear yX3_clear ∈ wU := mem_tab 228 (by decide +kernel) (by decide +kernel)
theorem wco_X3_clear : Cond.code yX3_clear cX3_clear 1 none ∈ wU := mem_tab 229 (by decide +kernel) (by decide +kernel)
theorem wf_X4_10 : Cond.fieldLink RX4 10 "OtherSideInk" "text" "LOtherSideInk$Text;" ∈ wU := mem_tab 230 (by decide +kernel) (by decide +kernel)
theorem wf_X4_19 : Cond.fieldLink RX4 19 "OtherSideInk" "now" "LOtherSideInk$Chancery;" ∈ wU := mem_tab 231 (by decide +kernel) (by decide +kernel)
theorem wf_X4_23 : Cond.fieldLink RX4 23 "OtherSideInk" "draft" "LOtherSideInk$Chancery;" ∈ wU := mem_tab 232 (by decide +kernel) (by decide +kernel)
theorem wf_X4_31 : Cond.fieldLink RX4 31 "OtherSideInk" "past" "LOtherSideInk$Shelf;" ∈ wU := mem_tab 233 (by decide +kernel) (by decide +kernel)
theorem wf_X4_35 : Cond.fieldLink RX4 35 "OtherSideInk" "kept" "LOtherSideInk$Shelf;" ∈ wU := mem_tab 234 (by decide +kernel) (by decide +kernel)
theorem wf_X4_41 : Cond.fieldLink RX4 41 "OtherSideInk" "signed" "LOtherSideInk$Signatures;" ∈ wU := mem_tab 235 (by decide +kernel) (by decide +kernel)
theorem wf_X4_45 : Cond.fieldLink RX4 45 "OtherSideInk" "seen" "[I" ∈ wU := mem_tab 236 (by decide +kernel) (by decide +kernel)
theorem war_byte : Cond.arrayClass .byte ∈ wU := mem_tab 252 (by decide +kernel) (by decide +kernel)
theorem wl_L_13 : Cond.methodLink RL 13 yX4_write ∈ wU := mem_tab 253 (by decide +kernel) (by decide +kernel)
theorem win_X4_write : Cond.instanceMethod yX4_write ∈ wU := mem_tab 254 (by decide +kernel) (by decide +kernel)
theorem wse_X4_write : Cond.selects RX4 yX4_write yX4_write ∈ wU := mem_tab 255 (by decide +kernel) (by decide +kernel)
theorem wco_X4_write : Cond.code yX4_write cX4_write 2 (some .int) ∈ wU := mem_tab 256 (by decide +kernel) (by decide +kernel)
theorem wl_X4_71 : Cond.methodLink RX4 71 yX3_size ∈ wU := mem_tab 257 (by decide +kernel) (by decide +kernel)
theorem win_X3_size : Cond.instanceMethod yX3_size ∈ wU := mem_tab 258 (by decide +kernel) (by decide +kernel)
theorem wse_X3_size : Cond.selects RX3 yX3_size yX3_size ∈ wU := mem_tab 259 (by decide +kernel) (by decide +kernel)
theorem wco_X3_size : Cond.code yX3_size cX3_size 1 (some .int) ∈ wU := mem_tab 260 (by decide +kernel) (by decide +kernel)
theorem wl_L_18 : Cond.methodLink RL 18 yX4_wipe ∈ wU := mem_tab 261 (by decide +kernel) (by decide +kernel)
theorem win_X4_wipe : Cond.instanceMethod yX4_wipe ∈ wU := mem_tab 262 (by decide +kernel) (by decide +kernel)
theorem wse_X4_wipe : Cond.selects RX4 yX4_wipe yX4_wipe ∈ wU := mem_tab 263 (by decide +kernel) (by decide +kernel)
theorem wco_X4_wipe : Cond.code yX4_wipe cX4_wipe 2 (some .int) ∈ wU := mem_tab 264 (by decide +kernel) (by decide +kernel)
theorem wl_L_23 : Cond.methodLink RL 23 yX4_fault ∈ wU := mem_tab 265 (by decide +kernel) (by decide +kernel)
theorem win_X4_fault : Cond.instanceMethod yX4_fault ∈ wU := mem_tab 266 (by decide +kernel) (by decide +kernel)
theorem wse_X4_fault : Cond.selects RX4 yX4_fault yX4_fault ∈ wU := mem_tab 267 (by decide +kernel) (by decide +kernel)
theorem wco_X4_fault : Cond.code yX4_fault cX4_fault 1 (some .int) ∈ wU := mem_tab 268 (by decide +kernel) (by decide +kernel)
theorem wl_L_27 : Cond.methodLink RL 27 yX4_lay ∈ wU := mem_tab 269 (by decide +kernel) (by decide +kernel)
theorem win_X4_lay : Cond.instanceMethod yX4_lay ∈ wU := mem_tab 270 (by decide +kernel) (by decide +kernel)
theorem wse_X4_lay : Cond.selects RX4 yX4_lay yX4_lay ∈ wU := mem_tab 271 (by decide +kernel) (by decide +kernel)
theorem wco_X4_lay : Cond.code yX4_lay cX4_lay 1 (some .int) ∈ wU := mem_tab 272 (by decide +kernel) (by decide +kernel)
theorem wl_X4_74 : Cond.methodLink RX4 74 yX0_canBeLaid ∈ wU := mem_tab 273 (by decide +kernel) (by decide +kernel)
theorem win_X0_canBeLaid : Cond.instanceMethod yX0_canBeLaid ∈ wU := mem_tab 274 (by decide +kernel) (by decide +kernel)
theorem wse_X0_canBeLaid : Cond.selects RX0 yX0_canBeLaid yX0_canBeLaid ∈ wU := mem_tab 275 (by decide +kernel) (by decide +kernel)
theorem wco_X0_canBeLaid : Cond.code yX0_canBeLaid cX0_canBeLaid 2 (some .boolean) ∈ wU := mem_tab 276 (by decide +kernel) (by decide +kernel)
theorem wl_X0_72 : Cond.methodLink RX0 72 yX0_mindOf ∈ wU := mem_tab 277 (by decide +kernel) (by decide +kernel)
theorem win_X0_mindOf : Cond.instanceMethod yX0_mindOf ∈ wU := mem_tab 278 (by decide +kernel) (by decide +kernel)
theorem wse_X0_mindOf : Cond.selects RX0 yX0_mindOf yX0_mindOf ∈ wU := mem_tab 279 (by decide +kernel) (by decide +kernel)
theorem wco_X0_mindOf : Cond.code yX0_mindOf cX0_mindOf 2 (some .int) ∈ wU := mem_tab 280 (by decide +kernel) (by decide +kernel)
theorem wl_X4_78 : Cond.methodLink RX4 78 yX0_becomeLike ∈ wU := mem_tab 282 (by decide +kernel) (by decide +kernel)
theorem win_X0_becomeLike : Cond.instanceMethod yX0_becomeLike ∈ wU := mem_tab 283 (by decide +kernel) (by decide +kernel)
theorem wse_X0_becomeLike : Cond.selects RX0 yX0_becomeLike yX0_becomeLike ∈ wU := mem_tab 284 (by decide +kernel) (by decide +kernel)
theorem wco_X0_becomeLike : Cond.code yX0_becomeLike cX0_becomeLike 2 none ∈ wU := mem_tab 285 (by decide +kernel) (by decide +kernel)
theorem wl_X0_37 : Cond.methodLink RX0 37 yX0_takeRow ∈ wU := mem_tab 286 (by decide +kernel) (by decide +kernel)
theorem wst_X0_takeRow : Cond.static yX0_takeRow ∈ wU := mem_tab 287 (by decide +kernel) (by decide +kernel)
theorem wco_X0_takeRow : Cond.code yX0_takeRow cX0_takeRow 2 none ∈ wU := mem_tab 288 (by decide +kernel) (by decide +kernel)
theorem wl_X0_41 : Cond.methodLink RX0 41 Lib.Math.min.name ∈ wU := mem_tab 289 (by decide +kernel) (by decide +kernel)
theorem wst_min : Cond.static Lib.Math.min.name ∈ wU := mem_tab 290 (by decide +kernel) (by decide +kernel)
theorem wco_min : Cond.code Lib.Math.min.name Lib.Math.min.code 2 (some .int) ∈ wU := mem_tab 291 (by decide +kernel) (by decide +kernel)
theorem wl_X0_47 : Cond.methodLink RX0 47 arraycopyName ∈ wU := mem_tab 292 (by decide +kernel) (by decide +kernel)
theorem wst_arraycopy : Cond.static arraycopyName ∈ wU := mem_tab 293 (by decide +kernel) (by decide +kernel)
theorem wna_arraycopy : Cond.native arraycopyName ∈ wU := mem_tab 294 (by decide +kernel) (by decide +kernel)
theorem wl_X4_82 : Cond.methodLink RX4 82 yX2_clear ∈ wU := mem_tab 295 (by decide +kernel) (by decide +kernel)
theorem win_X2_clear : Cond.instanceMethod yX2_clear ∈ wU := mem_tab 296 (by decide +kernel) (by decide +kernel)
theorem wse_X2_clear : Cond.selects RX2 yX2_clear yX2_clear ∈ wU := mem_tab 297 (by decide +kernel) (by decide +kernel)
theorem wco_X2_clear : Cond.code yX2_clear cX2_clear 1 none ∈ wU := mem_tab 298 (by decide +kernel) (by decide +kernel)
theorem wl_X4_83 : Cond.methodLink RX4 83 yX1_clear ∈ wU := mem_tab 299 (by decide +kernel) (by decide +kernel)
theorem win_X1_clear : Cond.instanceMethod yX1_clear ∈ wU := mem_tab 300 (by decide +kernel) (by decide +kernel)
theorem wse_X1_clear : Cond.selects RX1 yX1_clear yX1_clear ∈ wU := mem_tab 301 (by decide +kernel) (by decide +kernel)
theorem wco_X1_clear : Cond.code yX1_clear cX1_clear 1 none ∈ wU := mem_tab 302 (by decide +kernel) (by decide +kernel)
theorem wl_X4_84 : Cond.methodLink RX4 84 yX0_persons ∈ wU := mem_tab 303 (by decide +kernel) (by decide +kernel)
theorem win_X0_persons : Cond.instanceMethod yX0_persons ∈ wU := mem_tab 304 (by decide +kernel) (by decide +kernel)
theorem wse_X0_persons : Cond.selects RX0 yX0_persons yX0_persons ∈ wU := mem_tab 305 (by decide +kernel) (by decide +kernel)
theorem wco_X0_persons : Cond.code yX0_persons cX0_persons 1 (some .int) ∈ wU := mem_tab 306 (by decide +kernel) (by decide +kernel)
theorem wl_L_31 : Cond.methodLink RL 31 yX4_person ∈ wU := mem_tab 307 (by decide +kernel) (by decide +kernel)
theorem win_X4_person : Cond.instanceMethod yX4_person ∈ wU := mem_tab 308 (by decide +kernel) (by decide +kernel)
theorem wse_X4_person : Cond.selects RX4 yX4_person yX4_person ∈ wU := mem_tab 309 (by decide +kernel) (by decide +kernel)
theorem wco_X4_person : Cond.code yX4_person cX4_person 3 (some .int) ∈ wU := mem_tab 310 (by decide +kernel) (by decide +kernel)
theorem wl_X4_87 : Cond.methodLink RX4 87 yX0_hasPerson ∈ wU := mem_tab 311 (by decide +kernel) (by decide +kernel)
theorem wl_X4_91 : Cond.methodLink RX4 91 yX4_isUpTo ∈ wU := mem_tab 312 (by decide +kernel) (by decide +kernel)
theorem wl_X4_95 : Cond.methodLink RX4 95 yX0_kindOf ∈ wU := mem_tab 313 (by decide +kernel) (by decide +kernel)
theorem win_X0_kindOf : Cond.instanceMethod yX0_kindOf ∈ wU := mem_tab 314 (by decide +kernel) (by decide +kernel)
theorem wse_X0_kindOf : Cond.selects RX0 yX0_kindOf yX0_kindOf ∈ wU := mem_tab 315 (by decide +kernel) (by decide +kernel)
theorem wco_X0_kindOf : Cond.code yX0_kindOf cX0_kindOf 2 (some .int) ∈ wU := mem_tab 316 (by decide +kernel) (by decide +kernel)
theorem wl_X4_99 : Cond.methodLink RX4 99 yX0_mindOf ∈ wU := mem_tab 317 (by decide +kernel) (by decide +kernel)
theorem wl_L_36 : Cond.methodLink RL 36 yX4_view ∈ wU := mem_tab 318 (by decide +kernel) (by decide +kernel)
theorem win_X4_view : Cond.instanceMethod yX4_view ∈ wU := mem_tab 319 (by decide +kernel) (by decide +kernel)
theorem wse_X4_view : Cond.selects RX4 yX4_view yX4_view ∈ wU := mem_tab 320 (by decide +kernel) (by decide +kernel)
theorem wco_X4_view : Cond.code yX4_view cX4_view 3 (some .int) ∈ wU := mem_tab 321 (by decide +kernel) (by decide +kernel)
theorem wl_X4_102 : Cond.methodLink RX4 102 yX4_isTheme ∈ wU := mem_tab 322 (by decide +kernel) (by decide +kernel)
theorem wl_X4_105 : Cond.methodLink RX4 105 yX0_viewOf ∈ wU := mem_tab 323 (by decide +kernel) (by decide +kernel)
theorem win_X0_viewOf : Cond.instanceMethod yX0_viewOf ∈ wU := mem_tab 324 (by decide +kernel) (by decide +kernel)
theorem wse_X0_viewOf : Cond.selects RX0 yX0_viewOf yX0_viewOf ∈ wU := mem_tab 325 (by decide +kernel) (by decide +kernel)
theorem wco_X0_viewOf : Cond.code yX0_viewOf cX0_viewOf 3 (some .int) ∈ wU := mem_tab 326 (by decide +kernel) (by decide +kernel)
theorem wl_L_40 : Cond.methodLink RL 40 yX4_line ∈ wU := mem_tab 327 (by decide +kernel) (by decide +kernel)
theorem win_X4_line : Cond.instanceMethod yX4_line ∈ wU := mem_tab 328 (by decide +kernel) (by decide +kernel)
theorem wse_X4_line : Cond.selects RX4 yX4_line yX4_line ∈ wU := mem_tab 329 (by decide +kernel) (by decide +kernel)
theorem wco_X4_line : Cond.code yX4_line cX4_line 3 (some .int) ∈ wU := mem_tab 330 (by decide +kernel) (by decide +kernel)
theorem wl_X4_109 : Cond.methodLink RX4 109 yX0_hasPaper ∈ wU := mem_tab 331 (by decide +kernel) (by decide +kernel)
theorem win_X0_hasPaper : Cond.instanceMethod yX0_hasPaper ∈ wU := mem_tab 332 (by decide +kernel) (by decide +kernel)
theorem wse_X0_hasPaper : Cond.selects RX0 yX0_hasPaper yX0_hasPaper ∈ wU := mem_tab 333 (by decide +kernel) (by decide +kernel)
theorem wco_X0_hasPaper : Cond.code yX0_hasPaper cX0_hasPaper 2 (some .boolean) ∈ wU := mem_tab 334 (by decide +kernel) (by decide +kernel)
theorem wl_X4_112 : Cond.methodLink RX4 112 yX0_lineOf ∈ wU := mem_tab 335 (by decide +kernel) (by decide +kernel)
theorem win_X0_lineOf : Cond.instanceMethod yX0_lineOf ∈ wU := mem_tab 336 (by decide +kernel) (by decide +kernel)
theorem wse_X0_lineOf : Cond.selects RX0 yX0_lineOf yX0_lineOf ∈ wU := mem_tab 337 (by decide +kernel) (by decide +kernel)
theorem wco_X0_lineOf : Cond.code yX0_lineOf cX0_lineOf 3 (some .int) ∈ wU := mem_tab 338 (by decide +kernel) (by decide +kernel)
theorem wl_X4_115 : Cond.methodLink RX4 115 yX4_told ∈ wU := mem_tab 339 (by decide +kernel) (by decide +kernel)
theorem wst_X4_told : Cond.static yX4_told ∈ wU := mem_tab 340 (by decide +kernel) (by decide +kernel)
theorem wco_X4_told : Cond.code yX4_told cX4_told 1 (some .int) ∈ wU := mem_tab 341 (by decide +kernel) (by decide +kernel)
theorem wl_L_44 : Cond.methodLink RL 44 yX4_would ∈ wU := mem_tab 342 (by decide +kernel) (by decide +kernel)
theorem win_X4_would : Cond.instanceMethod yX4_would ∈ wU := mem_tab 343 (by decide +kernel) (by decide +kernel)
theorem wse_X4_would : Cond.selects RX4 yX4_would yX4_would ∈ wU := mem_tab 344 (by decide +kernel) (by decide +kernel)
theorem wco_X4_would : Cond.code yX4_would cX4_would 4 (some .int) ∈ wU := mem_tab 345 (by decide +kernel) (by decide +kernel)
theorem wl_X4_118 : Cond.methodLink RX4 118 yX0_written ∈ wU := mem_tab 346 (by decide +kernel) (by decide +kernel)
theorem win_X0_written : Cond.instanceMethod yX0_written ∈ wU := mem_tab 347 (by decide +kernel) (by decide +kernel)
theorem wse_X0_written : Cond.selects RX0 yX0_written yX0_written ∈ wU := mem_tab 348 (by decide +kernel) (by decide +kernel)
theorem wco_X0_written : Cond.code yX0_written cX0_written 4 (some .int) ∈ wU := mem_tab 349 (by decide +kernel) (by decide +kernel)
theorem wl_X0_80 : Cond.methodLink RX0 80 yX0_writtenFor ∈ wU := mem_tab 350 (by decide +kernel) (by decide +kernel)
theorem win_X0_writtenFor : Cond.instanceMethod yX0_writtenFor ∈ wU := mem_tab 351 (by decide +kernel) (by decide +kernel)
theorem wse_X0_writtenFor : Cond.selects RX0 yX0_writtenFor yX0_writtenFor ∈ wU := mem_tab 352 (by decide +kernel) (by decide +kernel)
theorem wco_X0_writtenFor : Cond.code yX0_writtenFor cX0_writtenFor 5 (some .int) ∈ wU := mem_tab 353 (by decide +kernel) (by decide +kernel)
theorem wl_X0_84 : Cond.methodLink RX0 84 yX0_kindOf ∈ wU := mem_tab 354 (by decide +kernel) (by decide +kernel)
theorem wl_X0_87 : Cond.methodLink RX0 87 yX0_viewOf ∈ wU := mem_tab 355 (by decide +kernel) (by decide +kernel)
theorem wst_X4_inked : Cond.static yX4_inked ∈ wU := mem_tab 357 (by decide +kernel) (by decide +kernel)
theorem wco_X4_inked : Cond.code yX4_inked cX4_inked 4 (some .int) ∈ wU := mem_tab 358 (by decide +kernel) (by decide +kernel)
theorem wl_X4_223 : Cond.methodLink RX4 223 yX4_mixed ∈ wU := mem_tab 359 (by decide +kernel) (by decide +kernel)
theorem wst_X4_mixed : Cond.static yX4_mixed ∈ wU := mem_tab 360 (by decide +kernel) (by decide +kernel)
theorem wco_X4_mixed : Cond.code yX4_mixed cX4_mixed 3 (some .int) ∈ wU := mem_tab 361 (by decide +kernel) (by decide +kernel)
theorem wl_L_49 : Cond.methodLink RL 49 yX4_set ∈ wU := mem_tab 362 (by decide +kernel) (by decide +kernel)
theorem win_X4_set : Cond.instanceMethod yX4_set ∈ wU := mem_tab 363 (by decide +kernel) (by decide +kernel)
theorem wse_X4_set : Cond.selects RX4 yX4_set yX4_set ∈ wU := mem_tab 364 (by decide +kernel) (by decide +kernel)
theorem wco_X4_set : Cond.code yX4_set cX4_set 6 (some .int) ∈ wU := mem_tab 365 (by decide +kernel) (by decide +kernel)
theorem wl_X4_122 : Cond.methodLink RX4 122 yX1_push ∈ wU := mem_tab 366 (by decide +kernel) (by decide +kernel)
theorem win_X1_push : Cond.instanceMethod yX1_push ∈ wU := mem_tab 367 (by decide +kernel) (by decide +kernel)
theorem wse_X1_push : Cond.selects RX1 yX1_push yX1_push ∈ wU := mem_tab 368 (by decide +kernel) (by decide +kernel)
theorem wco_X1_push : Cond.code yX1_push cX1_push 3 none ∈ wU := mem_tab 369 (by decide +kernel) (by decide +kernel)
theorem wl_X1_26 : Cond.methodLink RX1 26 yX1_placeAbove ∈ wU := mem_tab 370 (by decide +kernel) (by decide +kernel)
theorem win_X1_placeAbove : Cond.instanceMethod yX1_placeAbove ∈ wU := mem_tab 372 (by decide +kernel) (by decide +kernel)
theorem wco_X1_placeAbove : Cond.code yX1_placeAbove cX1_placeAbove 3 (some (.object "OtherSideInk$Chancery")) ∈ wU := mem_tab 373 (by decide +kernel) (by decide +kernel)
theorem wst_X4_remainder : Cond.static yX4_remainder ∈ wU := mem_tab 375 (by decide +kernel) (by decide +kernel)
theorem wco_X4_remainder : Cond.code yX4_remainder cX4_remainder 2 (some .int) ∈ wU := mem_tab 376 (by decide +kernel) (by decide +kernel)
theorem wl_X1_30 : Cond.methodLink RX1 30 yX0_becomeLike ∈ wU := mem_tab 377 (by decide +kernel) (by decide +kernel)
theorem wl_X4_125 : Cond.methodLink RX4 125 yX0_putLine ∈ wU := mem_tab 378 (by decide +kernel) (by decide +kernel)
theorem win_X0_putLine : Cond.instanceMethod yX0_putLine ∈ wU := mem_tab 379 (by decide +kernel) (by decide +kernel)
theorem wse_X0_putLine : Cond.selects RX0 yX0_putLine yX0_putLine ∈ wU := mem_tab 380 (by decide +kernel) (by decide +kernel)
theorem wco_X0_putLine : Cond.code yX0_putLine cX0_putLine 4 none ∈ wU := mem_tab 381 (by decide +kernel) (by decide +kernel)
theorem wl_L_54 : Cond.methodLink RL 54 yX4_erase ∈ wU := mem_tab 382 (by decide +kernel) (by decide +kernel)
theorem win_X4_erase : Cond.instanceMethod yX4_erase ∈ wU := mem_tab 383 (by decide +kernel) (by decide +kernel)
theorem wse_X4_erase : Cond.selects RX4 yX4_erase yX4_erase ∈ wU := mem_tab 384 (by decide +kernel) (by decide +kernel)
theorem wco_X4_erase : Cond.code yX4_erase cX4_erase 5 (some .int) ∈ wU := mem_tab 385 (by decide +kernel) (by decide +kernel)
theorem wl_L_58 : Cond.methodLink RL 58 yX4_copy ∈ wU := mem_tab 386 (by decide +kernel) (by decide +kernel)
theorem win_X4_copy : Cond.instanceMethod yX4_copy ∈ wU := mem_tab 387 (by decide +kernel) (by decide +kernel)
theorem wse_X4_copy : Cond.selects RX4 yX4_copy yX4_copy ∈ wU := mem_tab 388 (by decide +kernel) (by decide +kernel)
theorem wco_X4_copy : Cond.code yX4_copy cX4_copy 4 (some .int) ∈ wU := mem_tab 389 (by decide +kernel) (by decide +kernel)
theorem wl_X4_129 : Cond.methodLink RX4 129 yX0_copyPaper ∈ wU := mem_tab 390 (by decide +kernel) (by decide +kernel)
theorem win_X0_copyPaper : Cond.instanceMethod yX0_copyPaper ∈ wU := mem_tab 391 (by decide +kernel) (by decide +kernel)
theorem wse_X0_copyPaper : Cond.selects RX0 yX0_copyPaper yX0_copyPaper ∈ wU := mem_tab 392 (by decide +kernel) (by decide +kernel)
theorem wco_X0_copyPaper : Cond.code yX0_copyPaper cX0_copyPaper 5 none ∈ wU := mem_tab 393 (by decide +kernel) (by decide +kernel)
theorem wl_X0_97 : Cond.methodLink RX0 97 yX0_lineOf ∈ wU := mem_tab 394 (by decide +kernel) (by decide +kernel)
theorem wl_X0_100 : Cond.methodLink RX0 100 yX0_copied ∈ wU := mem_tab 395 (by decide +kernel) (by decide +kernel)
theorem win_X0_copied : Cond.instanceMethod yX0_copied ∈ wU := mem_tab 396 (by decide +kernel) (by decide +kernel)
theorem wse_X0_copied : Cond.selects RX0 yX0_copied yX0_copied ∈ wU := mem_tab 397 (by decide +kernel) (by decide +kernel)
theorem wco_X0_copied : Cond.code yX0_copied cX0_copied 4 (some .int) ∈ wU := mem_tab 398 (by decide +kernel) (by decide +kernel)
theorem wst_X4_carried : Cond.static yX4_carried ∈ wU := mem_tab 400 (by decide +kernel) (by decide +kernel)
theorem wco_X4_carried : Cond.code yX4_carried cX4_carried 3 (some .int) ∈ wU := mem_tab 401 (by decide +kernel) (by decide +kernel)
theorem wl_X4_226 : Cond.methodLink RX4 226 yX4_toward ∈ wU := mem_tab 402 (by decide +kernel) (by decide +kernel)
theorem wst_X4_toward : Cond.static yX4_toward ∈ wU := mem_tab 403 (by decide +kernel) (by decide +kernel)
theorem wco_X4_toward : Cond.code yX4_toward cX4_toward 3 (some .int) ∈ wU := mem_tab 404 (by decide +kernel) (by decide +kernel)
theorem wl_X4_229 : Cond.methodLink RX4 229 Lib.Math.min.name ∈ wU := mem_tab 405 (by decide +kernel) (by decide +kernel)
theorem wl_X4_234 : Cond.methodLink RX4 234 Lib.Math.max.name ∈ wU := mem_tab 406 (by decide +kernel) (by decide +kernel)
theorem wl_X0_103 : Cond.methodLink RX0 103 yX0_putLine ∈ wU := mem_tab 407 (by decide +kernel) (by decide +kernel)
theorem wl_X4_132 : Cond.methodLink RX4 132 yX0_filledLinesOf ∈ wU := mem_tab 408 (by decide +kernel) (by decide +kernel)
theorem win_X0_filledLinesOf : Cond.instanceMethod yX0_filledLinesOf ∈ wU := mem_tab 409 (by decide +kernel) (by decide +kernel)
theorem wse_X0_filledLinesOf : Cond.selects RX0 yX0_filledLinesOf yX0_filledLinesOf ∈ wU := mem_tab 410 (by decide +kernel) (by decide +kernel)
theorem wco_X0_filledLinesOf : Cond.code yX0_filledLinesOf cX0_filledLinesOf 4 (some .int) ∈ wU := mem_tab 411 (by decide +kernel) (by decide +kernel)
theorem wl_L_62 : Cond.methodLink RL 62 yX4_think ∈ wU := mem_tab 412 (by decide +kernel) (by decide +kernel)
theorem win_X4_think : Cond.instanceMethod yX4_think ∈ wU := mem_tab 413 (by decide +kernel) (by decide +kernel)
theorem wse_X4_think : Cond.selects RX4 yX4_think yX4_think ∈ wU := mem_tab 414 (by decide +kernel) (by decide +kernel)
theorem wco_X4_think : Cond.code yX4_think cX4_think 5 (some .int) ∈ wU := mem_tab 415 (by decide +kernel) (by decide +kernel)
theorem wl_X4_135 : Cond.methodLink RX4 135 yX0_putView ∈ wU := mem_tab 416 (by decide +kernel) (by decide +kernel)
theorem wl_L_66 : Cond.methodLink RL 66 yX4_mind ∈ wU := mem_tab 417 (by decide +kernel) (by decide +kernel)
theorem win_X4_mind : Cond.instanceMethod yX4_mind ∈ wU := mem_tab 418 (by decide +kernel) (by decide +kernel)
theorem wse_X4_mind : Cond.selects RX4 yX4_mind yX4_mind ∈ wU := mem_tab 419 (by decide +kernel) (by decide +kernel)
theorem wco_X4_mind : Cond.code yX4_mind cX4_mind 4 (some .int) ∈ wU := mem_tab 420 (by decide +kernel) (by decide +kernel)
theorem wl_X4_138 : Cond.methodLink RX4 138 yX0_putMind ∈ wU := mem_tab 421 (by decide +kernel) (by decide +kernel)
theorem win_X0_putMind : Cond.instanceMethod yX0_putMind ∈ wU := mem_tab 422 (by decide +kernel) (by decide +kernel)
theorem wse_X0_putMind : Cond.selects RX0 yX0_putMind yX0_putMind ∈ wU := mem_tab 423 (by decide +kernel) (by decide +kernel)
theorem wco_X0_putMind : Cond.code yX0_putMind cX0_putMind 3 none ∈ wU := mem_tab 424 (by decide +kernel) (by decide +kernel)
theorem wl_L_70 : Cond.methodLink RL 70 yX4_undo ∈ wU := mem_tab 425 (by decide +kernel) (by decide +kernel)
theorem win_X4_undo : Cond.instanceMethod yX4_undo ∈ wU := mem_tab 426 (by decide +kernel) (by decide +kernel)
theorem wse_X4_undo : Cond.selects RX4 yX4_undo yX4_undo ∈ wU := mem_tab 427 (by decide +kernel) (by decide +kernel)
theorem wco_X4_undo : Cond.code yX4_undo cX4_undo 1 (some .int) ∈ wU := mem_tab 428 (by decide +kernel) (by decide +kernel)
theorem wl_X4_142 : Cond.methodLink RX4 142 yX1_popInto ∈ wU := mem_tab 429 (by decide +kernel) (by decide +kernel)
theorem win_X1_popInto : Cond.instanceMethod yX1_popInto ∈ wU := mem_tab 430 (by decide +kernel) (by decide +kernel)
theorem wse_X1_popInto : Cond.selects RX1 yX1_popInto yX1_popInto ∈ wU := mem_tab 431 (by decide +kernel) (by decide +kernel)
theorem wco_X1_popInto : Cond.code yX1_popInto cX1_popInto 3 (some .boolean) ∈ wU := mem_tab 432 (by decide +kernel) (by decide +kernel)
theorem wl_X4_146 : Cond.methodLink RX4 146 yX1_size ∈ wU := mem_tab 433 (by decide +kernel) (by decide +kernel)
theorem win_X1_size : Cond.instanceMethod yX1_size ∈ wU := mem_tab 434 (by decide +kernel) (by decide +kernel)
theorem wse_X1_size : Cond.selects RX1 yX1_size yX1_size ∈ wU := mem_tab 435 (by decide +kernel) (by decide +kernel)
theorem wco_X1_size : Cond.code yX1_size cX1_size 1 (some .int) ∈ wU := mem_tab 436 (by decide +kernel) (by decide +kernel)
theorem wl_L_74 : Cond.methodLink RL 74 yX4_own ∈ wU := mem_tab 437 (by decide +kernel) (by decide +kernel)
theorem win_X4_own : Cond.instanceMethod yX4_own ∈ wU := mem_tab 438 (by decide +kernel) (by decide +kernel)
theorem wse_X4_own : Cond.selects RX4 yX4_own yX4_own ∈ wU := mem_tab 439 (by decide +kernel) (by decide +kernel)
theorem wco_X4_own : Cond.code yX4_own cX4_own 5 (some .int) ∈ wU := mem_tab 440 (by decide +kernel) (by decide +kernel)
theorem wl_L_78 : Cond.methodLink RL 78 yX4_tears ∈ wU := mem_tab 441 (by decide +kernel) (by decide +kernel)
theorem win_X4_tears : Cond.instanceMethod yX4_tears ∈ wU := mem_tab 442 (by decide +kernel) (by decide +kernel)
theorem wse_X4_tears : Cond.selects RX4 yX4_tears yX4_tears ∈ wU := mem_tab 443 (by decide +kernel) (by decide +kernel)
theorem wco_X4_tears : Cond.code yX4_tears cX4_tears 5 (some .int) ∈ wU := mem_tab 444 (by decide +kernel) (by decide +kernel)
theorem wl_L_82 : Cond.methodLink RL 82 yX4_whom ∈ wU := mem_tab 445 (by decide +kernel) (by decide +kernel)
theorem win_X4_whom : Cond.instanceMethod yX4_whom ∈ wU := mem_tab 446 (by decide +kernel) (by decide +kernel)
theorem wse_X4_whom : Cond.selects RX4 yX4_whom yX4_whom ∈ wU := mem_tab 447 (by decide +kernel) (by decide +kernel)
theorem wco_X4_whom : Cond.code yX4_whom cX4_whom 5 (some .int) ∈ wU := mem_tab 448 (by decide +kernel) (by decide +kernel)
theorem wl_X4_147 : Cond.methodLink RX4 147 yX0_writtenFor ∈ wU := mem_tab 449 (by decide +kernel) (by decide +kernel)
theorem wl_L_86 : Cond.methodLink RL 86 yX4_treaty ∈ wU := mem_tab 450 (by decide +kernel) (by decide +kernel)
theorem win_X4_treaty : Cond.instanceMethod yX4_treaty ∈ wU := mem_tab 451 (by decide +kernel) (by decide +kernel)
theorem wse_X4_treaty : Cond.selects RX4 yX4_treaty yX4_treaty ∈ wU := mem_tab 452 (by decide +kernel) (by decide +kernel)
theorem wco_X4_treaty : Cond.code yX4_treaty cX4_treaty 6 (some .int) ∈ wU := mem_tab 453 (by decide +kernel) (by decide +kernel)
theorem wl_L_90 : Cond.methodLink RL 90 yX4_round ∈ wU := mem_tab 454 (by decide +kernel) (by decide +kernel)
theorem win_X4_round : Cond.instanceMethod yX4_round ∈ wU := mem_tab 455 (by decide +kernel) (by decide +kernel)
theorem wse_X4_round : Cond.selects RX4 yX4_round yX4_round ∈ wU := mem_tab 456 (by decide +kernel) (by decide +kernel)
theorem wco_X4_round : Cond.code yX4_round cX4_round 6 (some .int) ∈ wU := mem_tab 457 (by decide +kernel) (by decide +kernel)
theorem wl_X4_151 : Cond.methodLink RX4 151 yX4_remainder ∈ wU := mem_tab 458 (by decide +kernel) (by decide +kernel)
theorem wl_X4_154 : Cond.methodLink RX4 154 yX0_copied ∈ wU := mem_tab 459 (by decide +kernel) (by decide +kernel)
theorem wl_L_94 : Cond.methodLink RL 94 yX4_again ∈ wU := mem_tab 460 (by decide +kernel) (by decide +kernel)
theorem win_X4_again : Cond.instanceMethod yX4_again ∈ wU := mem_tab 461 (by decide +kernel) (by decide +kernel)
theorem wse_X4_again : Cond.selects RX4 yX4_again yX4_again ∈ wU := mem_tab 462 (by decide +kernel) (by decide +kernel)
theorem wco_X4_again : Cond.code yX4_again cX4_again 6 (some .int) ∈ wU := mem_tab 463 (by decide +kernel) (by decide +kernel)
theorem wl_X4_157 : Cond.methodLink RX4 157 yX0_codeOf ∈ wU := mem_tab 464 (by decide +kernel) (by decide +kernel)
theorem win_X0_codeOf : Cond.instanceMethod yX0_codeOf ∈ wU := mem_tab 465 (by decide +kernel) (by decide +kernel)
theorem wse_X0_codeOf : Cond.selects RX0 yX0_codeOf yX0_codeOf ∈ wU := mem_tab 466 (by decide +kernel) (by decide +kernel)
theorem wco_X0_codeOf : Cond.code yX0_codeOf cX0_codeOf 5 (some .int) ∈ wU := mem_tab 467 (by decide +kernel) (by decide +kernel)
theorem wl_X4_160 : Cond.methodLink RX4 160 yX4_put ∈ wU := mem_tab 468 (by decide +kernel) (by decide +kernel)
theorem wl_X4_164 : Cond.methodLink RX4 164 yX0_goRound ∈ wU := mem_tab 469 (by decide +kernel) (by decide +kernel)
theorem win_X0_goRound : Cond.instanceMethod yX0_goRound ∈ wU := mem_tab 470 (by decide +kernel) (by decide +kernel)
theorem wse_X0_goRound : Cond.selects RX0 yX0_goRound yX0_goRound ∈ wU := mem_tab 471 (by decide +kernel) (by decide +kernel)
theorem wco_X0_goRound : Cond.code yX0_goRound cX0_goRound 3 none ∈ wU := mem_tab 472 (by decide +kernel) (by decide +kernel)
theorem wl_X0_106 : Cond.methodLink RX0 106 yX0_copyPaper ∈ wU := mem_tab 473 (by decide +kernel) (by decide +kernel)
theorem wl_X4_167 : Cond.methodLink RX4 167 yX4_firstSeen ∈ wU := mem_tab 474 (by decide +kernel) (by decide +kernel)
theorem win_X4_firstSeen : Cond.instanceMethod yX4_firstSeen ∈ wU := mem_tab 476 (by decide +kernel) (by decide +kernel)
theorem wco_X4_firstSeen : Cond.code yX4_firstSeen cX4_firstSeen 4 (some .int) ∈ wU := mem_tab 477 (by decide +kernel) (by decide +kernel)
theorem wl_X4_207 : Cond.methodLink RX4 207 yX4_at ∈ wU := mem_tab 478 (by decide +kernel) (by decide +kernel)
theorem wl_L_98 : Cond.methodLink RL 98 yX4_least ∈ wU := mem_tab 479 (by decide +kernel) (by decide +kernel)
theorem win_X4_least : Cond.instanceMethod yX4_least ∈ wU := mem_tab 480 (by decide +kernel) (by decide +kernel)
theorem wse_X4_least : Cond.selects RX4 yX4_least yX4_least ∈ wU := mem_tab 481 (by decide +kernel) (by decide +kernel)
theorem wco_X4_least : Cond.code yX4_least cX4_least 6 (some .int) ∈ wU := mem_tab 482 (by decide +kernel) (by decide +kernel)
theorem wl_X4_170 : Cond.methodLink RX4 170 yJ6_bitCount_0f7a4 ∈ wU := mem_tab 483 (by decide +kernel) (by decide +kernel)
theorem wst_J6_bitCount_0f7a4 : Cond.static yJ6_bitCount_0f7a4 ∈ wU := mem_tab 484 (by decide +kernel) (by decide +kernel)
theorem wco_J6_bitCount_0f7a4 : Cond.code yJ6_bitCount_0f7a4 cJ6_bitCount_0f7a4 1 (some .int) ∈ wU := mem_tab 485 (by decide +kernel) (by decide +kernel)
theorem wk_J6_265 : Cond.constant RJ6 265 (1431655765 : Int32) ∈ wU := mem_tab 486 (by decide +kernel) (by decide +kernel)
theorem wk_J6_266 : Cond.constant RJ6 266 (858993459 : Int32) ∈ wU := mem_tab 487 (by decide +kernel) (by decide +kernel)
theorem wk_J6_267 : Cond.constant RJ6 267 (252645135 : Int32) ∈ wU := mem_tab 488 (by decide +kernel) (by decide +kernel)
theorem wl_L_102 : Cond.methodLink RL 102 yX4_sign ∈ wU := mem_tab 489 (by decide +kernel) (by decide +kernel)
theorem win_X4_sign : Cond.instanceMethod yX4_sign ∈ wU := mem_tab 490 (by decide +kernel) (by decide +kernel)
theorem wse_X4_sign : Cond.selects RX4 yX4_sign yX4_sign ∈ wU := mem_tab 491 (by decide +kernel) (by decide +kernel)
theorem wco_X4_sign : Cond.code yX4_sign cX4_sign 3 (some .int) ∈ wU := mem_tab 492 (by decide +kernel) (by decide +kernel)
theorem wl_X4_175 : Cond.methodLink RX4 175 yX2_size ∈ wU := mem_tab 493 (by decide +kernel) (by decide +kernel)
theorem win_X2_size : Cond.instanceMethod yX2_size ∈ wU := mem_tab 494 (by decide +kernel) (by decide +kernel)
theorem wse_X2_size : Cond.selects RX2 yX2_size yX2_size ∈ wU := mem_tab 495 (by decide +kernel) (by decide +kernel)
theorem wco_X2_size : Cond.code yX2_size cX2_size 1 (some .int) ∈ wU := mem_tab 496 (by decide +kernel) (by decide +kernel)
theorem wl_X4_176 : Cond.methodLink RX4 176 yX2_add ∈ wU := mem_tab 497 (by decide +kernel) (by decide +kernel)
theorem win_X2_add : Cond.instanceMethod yX2_add ∈ wU := mem_tab 498 (by decide +kernel) (by decide +kernel)
theorem wse_X2_add : Cond.selects RX2 yX2_add yX2_add ∈ wU := mem_tab 499 (by decide +kernel) (by decide +kernel)
theorem wco_X2_add : Cond.code yX2_add cX2_add 3 none ∈ wU := mem_tab 500 (by decide +kernel) (by decide +kernel)
theorem wl_L_106 : Cond.methodLink RL 106 yX4_forget ∈ wU := mem_tab 502 (by decide +kernel) (by decide +kernel)
theorem win_X4_forget : Cond.instanceMethod yX4_forget ∈ wU := mem_tab 503 (by decide +kernel) (by decide +kernel)
theorem wse_X4_forget : Cond.selects RX4 yX4_forget yX4_forget ∈ wU := mem_tab 504 (by decide +kernel) (by decide +kernel)
theorem wco_X4_forget : Cond.code yX4_forget cX4_forget 2 (some .int) ∈ wU := mem_tab 505 (by decide +kernel) (by decide +kernel)
theorem wl_L_110 : Cond.methodLink RL 110 yX4_who ∈ wU := mem_tab 506 (by decide +kernel) (by decide +kernel)
theorem win_X4_who : Cond.instanceMethod yX4_who ∈ wU := mem_tab 507 (by decide +kernel) (by decide +kernel)
theorem wse_X4_who : Cond.selects RX4 yX4_who yX4_who ∈ wU := mem_tab 508 (by decide +kernel) (by decide +kernel)
theorem wco_X4_who : Cond.code yX4_who cX4_who 7 (some .int) ∈ wU := mem_tab 509 (by decide +kernel) (by decide +kernel)
theorem wl_X4_179 : Cond.methodLink RX4 179 yX2_areAllWritten ∈ wU := mem_tab 510 (by decide +kernel) (by decide +kernel)
theorem win_X2_areAllWritten : Cond.instanceMethod yX2_areAllWritten ∈ wU := mem_tab 511 (by decide +kernel) (by decide +kernel)
theorem wse_X2_areAllWritten : Cond.selects RX2 yX2_areAllWritten yX2_areAllWritten ∈ wU := mem_tab 512 (by decide +kernel) (by decide +kernel)
theorem wco_X2_areAllWritten : Cond.code yX2_areAllWritten cX2_areAllWritten 6 (some .boolean) ∈ wU := mem_tab 513 (by decide +kernel) (by decide +kernel)
theorem wl_X2_30 : Cond.methodLink RX2 30 yX0_writtenFor ∈ wU := mem_tab 515 (by decide +kernel) (by decide +kernel)
theorem wl_L_114 : Cond.methodLink RL 114 yX4_views ∈ wU := mem_tab 516 (by decide +kernel) (by decide +kernel)
theorem win_X4_views : Cond.instanceMethod yX4_views ∈ wU := mem_tab 517 (by decide +kernel) (by decide +kernel)
theorem wse_X4_views : Cond.selects RX4 yX4_views yX4_views ∈ wU := mem_tab 518 (by decide +kernel) (by decide +kernel)
theorem wco_X4_views : Cond.code yX4_views cX4_views 6 (some .int) ∈ wU := mem_tab 519 (by decide +kernel) (by decide +kernel)
theorem wl_L_118 : Cond.methodLink RL 118 yX4_drops ∈ wU := mem_tab 520 (by decide +kernel) (by decide +kernel)
theorem win_X4_drops : Cond.instanceMethod yX4_drops ∈ wU := mem_tab 521 (by decide +kernel) (by decide +kernel)
theorem wse_X4_drops : Cond.selects RX4 yX4_drops yX4_drops ∈ wU := mem_tab 522 (by decide +kernel) (by decide +kernel)
theorem wco_X4_drops : Cond.code yX4_drops cX4_drops 12 (some .long) ∈ wU := mem_tab 523 (by decide +kernel) (by decide +kernel)
theorem wk_X4_183 : Cond.constantLong RX4 183 (-1 : Int64) ∈ wU := mem_tab 524 (by decide +kernel) (by decide +kernel)
theorem wl_X4_185 : Cond.methodLink RX4 185 yX4_waysOfTears ∈ wU := mem_tab 525 (by decide +kernel) (by decide +kernel)
theorem wst_X4_waysOfTears : Cond.static yX4_waysOfTears ∈ wU := mem_tab 526 (by decide +kernel) (by decide +kernel)
theorem wco_X4_waysOfTears : Cond.code yX4_waysOfTears cX4_waysOfTears 5 (some .long) ∈ wU := mem_tab 527 (by decide +kernel) (by decide +kernel)
theorem wf_X4_219 : Cond.fieldLink RX4 219 "OtherSideInk" "WAYS_OF_TEN" "[J" ∈ wU := mem_tab 528 (by decide +kernel) (by decide +kernel)
theorem wk_X4_189 : Cond.constantLong RX4 189 (10000000000 : Int64) ∈ wU := mem_tab 530 (by decide +kernel) (by decide +kernel)
theorem wl_X4_191 : Cond.methodLink RX4 191 yX4_greatestDivisor ∈ wU := mem_tab 531 (by decide +kernel) (by decide +kernel)
theorem wst_X4_greatestDivisor : Cond.static yX4_greatestDivisor ∈ wU := mem_tab 532 (by decide +kernel) (by decide +kernel)
theorem wco_X4_greatestDivisor : Cond.code yX4_greatestDivisor cX4_greatestDivisor 11 (some .long) ∈ wU := mem_tab 533 (by decide +kernel) (by decide +kernel)
theorem wl_L_123 : Cond.methodLink RL 123 yX4_weeks ∈ wU := mem_tab 534 (by decide +kernel) (by decide +kernel)
theorem win_X4_weeks : Cond.instanceMethod yX4_weeks ∈ wU := mem_tab 535 (by decide +kernel) (by decide +kernel)
theorem wse_X4_weeks : Cond.selects RX4 yX4_weeks yX4_weeks ∈ wU := mem_tab 536 (by decide +kernel) (by decide +kernel)
theorem wco_X4_weeks : Cond.code yX4_weeks cX4_weeks 8 (some .int) ∈ wU := mem_tab 537 (by decide +kernel) (by decide +kernel)
theorem wl_X4_195 : Cond.methodLink RX4 195 yX4_drawOf ∈ wU := mem_tab 538 (by decide +kernel) (by decide +kernel)
theorem wst_X4_drawOf : Cond.static yX4_drawOf ∈ wU := mem_tab 539 (by decide +kernel) (by decide +kernel)
theorem wco_X4_drawOf : Cond.code yX4_drawOf cX4_drawOf 4 (some .int) ∈ wU := mem_tab 540 (by decide +kernel) (by decide +kernel)
theorem wk_X4_211 : Cond.constantLong RX4 211 (7919 : Int64) ∈ wU := mem_tab 541 (by decide +kernel) (by decide +kernel)
theorem wk_X4_213 : Cond.constantLong RX4 213 (6151 : Int64) ∈ wU := mem_tab 542 (by decide +kernel) (by decide +kernel)
theorem wk_X4_215 : Cond.constantLong RX4 215 (65521 : Int64) ∈ wU := mem_tab 543 (by decide +kernel) (by decide +kernel)
theorem wk_X4_217 : Cond.constantLong RX4 217 (2 : Int64) ∈ wU := mem_tab 544 (by decide +kernel) (by decide +kernel)
theorem wl_X4_198 : Cond.methodLink RX4 198 yX0_papers ∈ wU := mem_tab 545 (by decide +kernel) (by decide +kernel)
theorem win_X0_papers : Cond.instanceMethod yX0_papers ∈ wU := mem_tab 546 (by decide +kernel) (by decide +kernel)
theorem wse_X0_papers : Cond.selects RX0 yX0_papers yX0_papers ∈ wU := mem_tab 547 (by decide +kernel) (by decide +kernel)
theorem wco_X0_papers : Cond.code yX0_papers cX0_papers 1 (some .int) ∈ wU := mem_tab 548 (by decide +kernel) (by decide +kernel)
theorem wl_X4_201 : Cond.methodLink RX4 201 yX0_filledLines ∈ wU := mem_tab 549 (by decide +kernel) (by decide +kernel)
theorem win_X0_filledLines : Cond.instanceMethod yX0_filledLines ∈ wU := mem_tab 550 (by decide +kernel) (by decide +kernel)
theorem wse_X0_filledLines : Cond.selects RX0 yX0_filledLines yX0_filledLines ∈ wU := mem_tab 551 (by decide +kernel) (by decide +kernel)
theorem wco_X0_filledLines : Cond.code yX0_filledLines cX0_filledLines 3 (some .int) ∈ wU := mem_tab 552 (by decide +kernel) (by decide +kernel)
theorem wl_X0_109 : Cond.methodLink RX0 109 yX0_filledLinesOf ∈ wU := mem_tab 553 (by decide +kernel) (by decide +kernel)
theorem wl_X4_204 : Cond.methodLink RX4 204 yX0_sumOfLines ∈ wU := mem_tab 554 (by decide +kernel) (by decide +kernel)
theorem win_X0_sumOfLines : Cond.instanceMethod yX0_sumOfLines ∈ wU := mem_tab 555 (by decide +kernel) (by decide +kernel)
theorem wse_X0_sumOfLines : Cond.selects RX0 yX0_sumOfLines yX0_sumOfLines ∈ wU := mem_tab 556 (by decide +kernel) (by decide +kernel)
theorem wco_X0_sumOfLines : Cond.code yX0_sumOfLines cX0_sumOfLines 5 (some .int) ∈ wU := mem_tab 557 (by decide +kernel) (by decide +kernel)
theorem wl_L_127 : Cond.methodLink RL 127 yX4_keep ∈ wU := mem_tab 558 (by decide +kernel) (by decide +kernel)
theorem win_X4_keep : Cond.instanceMethod yX4_keep ∈ wU := mem_tab 559 (by decide +kernel) (by decide +kernel)
theorem wse_X4_keep : Cond.selects RX4 yX4_keep yX4_keep ∈ wU := mem_tab 560 (by decide +kernel) (by decide +kernel)
theorem wco_X4_keep : Cond.code yX4_keep cX4_keep 1 (some .int) ∈ wU := mem_tab 561 (by decide +kernel) (by decide +kernel)
theorem wl_L_131 : Cond.methodLink RL 131 yX4_back ∈ wU := mem_tab 562 (by decide +kernel) (by decide +kernel)
theorem win_X4_back : Cond.instanceMethod yX4_back ∈ wU := mem_tab 563 (by decide +kernel) (by decide +kernel)
theorem wse_X4_back : Cond.selects RX4 yX4_back yX4_back ∈ wU := mem_tab 564 (by decide +kernel) (by decide +kernel)
theorem wco_X4_back : Cond.code yX4_back cX4_back 1 (some .int) ∈ wU := mem_tab 565 (by decide +kernel) (by decide +kernel)
theorem wl_L_135 : Cond.methodLink RL 135 yX4_count ∈ wU := mem_tab 566 (by decide +kernel) (by decide +kernel)
theorem win_X4_count : Cond.instanceMethod yX4_count ∈ wU := mem_tab 567 (by decide +kernel) (by decide +kernel)
theorem wse_X4_count : Cond.selects RX4 yX4_count yX4_count ∈ wU := mem_tab 568 (by decide +kernel) (by decide +kernel)
theorem wco_X4_count : Cond.code yX4_count cX4_count 2 (some .int) ∈ wU := mem_tab 569 (by decide +kernel) (by decide +kernel)
theorem wcl_L_10 : Cond.classLink RL 10 RX5 ∈ wU := mem_tab 570 (by decide +kernel) (by decide +kernel)
theorem wns_X5 : Cond.instantiable RX5 20 ∈ wU := mem_tab 571 (by decide +kernel) (by decide +kernel)
theorem wl_L_12 : Cond.methodLink RL 12 yX5_init ∈ wU := mem_tab 572 (by decide +kernel) (by decide +kernel)
theorem win_X5_init : Cond.instanceMethod yX5_init ∈ wU := mem_tab 573 (by decide +kernel) (by decide +kernel)
theorem wco_X5_init : Cond.code yX5_init cX5_init 1 none ∈ wU := mem_tab 574 (by decide +kernel) (by decide +kernel)
theorem wl_X5_1 : Cond.methodLink RX5 1 objectInit ∈ wU := mem_tab 575 (by decide +kernel) (by decide +kernel)
theorem wl_X5_43 : Cond.methodLink RX5 43 yX5_clearTold ∈ wU := mem_tab 576 (by decide +kernel) (by decide +kernel)
theorem win_X5_clearTold : Cond.instanceMethod yX5_clearTold ∈ wU := mem_tab 578 (by decide +kernel) (by decide +kernel)
theorem wco_X5_clearTold : Cond.code yX5_clearTold cX5_clearTold 2 none ∈ wU := mem_tab 579 (by decide +kernel) (by decide +kernel)
theorem wl_X5_46 : Cond.methodLink RX5 46 yX5_tellsPerson ∈ wU := mem_tab 580 (by decide +kernel) (by decide +kernel)
theorem win_X5_tellsPerson : Cond.instanceMethod yX5_tellsPerson ∈ wU := mem_tab 582 (by decide +kernel) (by decide +kernel)
theorem wco_X5_tellsPerson : Cond.code yX5_tellsPerson cX5_tellsPerson 3 none ∈ wU := mem_tab 583 (by decide +kernel) (by decide +kernel)
theorem wl_X5_54 : Cond.methodLink RX5 54 yX5_settles ∈ wU := mem_tab 584 (by decide +kernel) (by decide +kernel)
theorem win_X5_settles : Cond.instanceMethod yX5_settles ∈ wU := mem_tab 586 (by decide +kernel) (by decide +kernel)
theorem wco_X5_settles : Cond.code yX5_settles cX5_settles 2 none ∈ wU := mem_tab 587 (by decide +kernel) (by decide +kernel)
theorem wl_X5_107 : Cond.methodLink RX5 107 yX5_copies ∈ wU := mem_tab 588 (by decide +kernel) (by decide +kernel)
theorem wst_X5_copies : Cond.static yX5_copies ∈ wU := mem_tab 589 (by decide +kernel) (by decide +kernel)
theorem wco_X5_copies : Cond.code yX5_copies cX5_copies 5 none ∈ wU := mem_tab 590 (by decide +kernel) (by decide +kernel)
theorem wf_X5_60 : Cond.fieldLink RX5 60 "OtherSideInkModel" "persons" "I" ∈ wU := mem_tab 591 (by decide +kernel) (by decide +kernel)
theorem wf_X5_7 : Cond.fieldLink RX5 7 "OtherSideInkModel" "kinds" "[I" ∈ wU := mem_tab 592 (by decide +kernel) (by decide +kernel)
theorem wf_X5_67 : Cond.fieldLink RX5 67 "OtherSideInkModel" "papers" "I" ∈ wU := mem_tab 593 (by decide +kernel) (by decide +kernel)
theorem wf_X5_13 : Cond.fieldLink RX5 13 "OtherSideInkModel" "st" "[I" ∈ wU := mem_tab 594 (by decide +kernel) (by decide +kernel)
theorem wf_X5_111 : Cond.fieldLink RX5 111 "OtherSideInkModel" "acts" "I" ∈ wU := mem_tab 595 (by decide +kernel) (by decide +kernel)
theorem wf_X5_16 : Cond.fieldLink RX5 16 "OtherSideInkModel" "was" "[I" ∈ wU := mem_tab 596 (by decide +kernel) (by decide +kernel)
theorem wf_X5_114 : Cond.fieldLink RX5 114 "OtherSideInkModel" "keeps" "I" ∈ wU := mem_tab 597 (by decide +kernel) (by decide +kernel)
theorem wf_X5_19 : Cond.fieldLink RX5 19 "OtherSideInkModel" "kept" "[I" ∈ wU := mem_tab 598 (by decide +kernel) (by decide +kernel)
theorem wf_X5_117 : Cond.fieldLink RX5 117 "OtherSideInkModel" "signs" "I" ∈ wU := mem_tab 599 (by decide +kernel) (by decide +kernel)
theorem wf_X5_22 : Cond.fieldLink RX5 22 "OtherSideInkModel" "signed" "[I" ∈ wU := mem_tab 600 (by decide +kernel) (by decide +kernel)
theorem wf_X5_25 : Cond.fieldLink RX5 25 "OtherSideInkModel" "text" "[I" ∈ wU := mem_tab 601 (by decide +kernel) (by decide +kernel)
theorem wf_X5_70 : Cond.fieldLink RX5 70 "OtherSideInkModel" "texted" "I" ∈ wU := mem_tab 602 (by decide +kernel) (by decide +kernel)
theorem wf_X5_73 : Cond.fieldLink RX5 73 "OtherSideInkModel" "at" "I" ∈ wU := mem_tab 603 (by decide +kernel) (by decide +kernel)
theorem wf_X5_28 : Cond.fieldLink RX5 28 "OtherSideInkModel" "told" "[I" ∈ wU := mem_tab 604 (by decide +kernel) (by decide +kernel)
theorem wf_X5_57 : Cond.fieldLink RX5 57 "OtherSideInkModel" "readPersons" "I" ∈ wU := mem_tab 605 (by decide +kernel) (by decide +kernel)
theorem wf_X5_31 : Cond.fieldLink RX5 31 "OtherSideInkModel" "readKinds" "[I" ∈ wU := mem_tab 606 (by decide +kernel) (by decide +kernel)
theorem wf_X5_50 : Cond.fieldLink RX5 50 "OtherSideInkModel" "readPapers" "I" ∈ wU := mem_tab 607 (by decide +kernel) (by decide +kernel)
theorem wf_X5_34 : Cond.fieldLink RX5 34 "OtherSideInkModel" "read" "[I" ∈ wU := mem_tab 608 (by decide +kernel) (by decide +kernel)
theorem wf_X5_37 : Cond.fieldLink RX5 37 "OtherSideInkModel" "now" "[I" ∈ wU := mem_tab 609 (by decide +kernel) (by decide +kernel)
theorem wf_X5_40 : Cond.fieldLink RX5 40 "OtherSideInkModel" "rows" "[I" ∈ wU := mem_tab 610 (by decide +kernel) (by decide +kernel)
theorem wl_L_17 : Cond.methodLink RL 17 yX5_write ∈ wU := mem_tab 652 (by decide +kernel) (by decide +kernel)
theorem win_X5_write : Cond.instanceMethod yX5_write ∈ wU := mem_tab 653 (by decide +kernel) (by decide +kernel)
theorem wse_X5_write : Cond.selects RX5 yX5_write yX5_write ∈ wU := mem_tab 654 (by decide +kernel) (by decide +kernel)
theorem wco_X5_write : Cond.code yX5_write cX5_write 2 (some .int) ∈ wU := mem_tab 655 (by decide +kernel) (by decide +kernel)
theorem wl_X5_63 : Cond.methodLink RX5 63 yX5_in ∈ wU := mem_tab 656 (by decide +kernel) (by decide +kernel)
theorem wst_X5_in : Cond.static yX5_in ∈ wU := mem_tab 657 (by decide +kernel) (by decide +kernel)
theorem wco_X5_in : Cond.code yX5_in cX5_in 3 (some .boolean) ∈ wU := mem_tab 658 (by decide +kernel) (by decide +kernel)
theorem wl_L_22 : Cond.methodLink RL 22 yX5_wipe ∈ wU := mem_tab 659 (by decide +kernel) (by decide +kernel)
theorem win_X5_wipe : Cond.instanceMethod yX5_wipe ∈ wU := mem_tab 660 (by decide +kernel) (by decide +kernel)
theorem wse_X5_wipe : Cond.selects RX5 yX5_wipe yX5_wipe ∈ wU := mem_tab 661 (by decide +kernel) (by decide +kernel)
theorem wco_X5_wipe : Cond.code yX5_wipe cX5_wipe 2 (some .int) ∈ wU := mem_tab 662 (by decide +kernel) (by decide +kernel)
theorem wl_L_26 : Cond.methodLink RL 26 yX5_fault ∈ wU := mem_tab 663 (by decide +kernel) (by decide +kernel)
theorem win_X5_fault : Cond.instanceMethod yX5_fault ∈ wU := mem_tab 664 (by decide +kernel) (by decide +kernel)
theorem wse_X5_fault : Cond.selects RX5 yX5_fault yX5_fault ∈ wU := mem_tab 665 (by decide +kernel) (by decide +kernel)
theorem wco_X5_fault : Cond.code yX5_fault cX5_fault 2 (some .int) ∈ wU := mem_tab 666 (by decide +kernel) (by decide +kernel)
theorem wl_X5_100 : Cond.methodLink RX5 100 yX5_readItem ∈ wU := mem_tab 667 (by decide +kernel) (by decide +kernel)
theorem win_X5_readItem : Cond.instanceMethod yX5_readItem ∈ wU := mem_tab 669 (by decide +kernel) (by decide +kernel)
theorem wco_X5_readItem : Cond.code yX5_readItem cX5_readItem 2 (some .boolean) ∈ wU := mem_tab 670 (by decide +kernel) (by decide +kernel)
theorem wl_X5_76 : Cond.methodLink RX5 76 yX5_letterAt ∈ wU := mem_tab 671 (by decide +kernel) (by decide +kernel)
theorem win_X5_letterAt : Cond.instanceMethod yX5_letterAt ∈ wU := mem_tab 673 (by decide +kernel) (by decide +kernel)
theorem wco_X5_letterAt : Cond.code yX5_letterAt cX5_letterAt 2 (some .int) ∈ wU := mem_tab 674 (by decide +kernel) (by decide +kernel)
theorem wl_X5_90 : Cond.methodLink RX5 90 yX5_readPersonOf ∈ wU := mem_tab 675 (by decide +kernel) (by decide +kernel)
theorem win_X5_readPersonOf : Cond.instanceMethod yX5_readPersonOf ∈ wU := mem_tab 677 (by decide +kernel) (by decide +kernel)
theorem wco_X5_readPersonOf : Cond.code yX5_readPersonOf cX5_readPersonOf 1 (some .boolean) ∈ wU := mem_tab 678 (by decide +kernel) (by decide +kernel)
theorem wl_X5_84 : Cond.methodLink RX5 84 yX5_readNumbers ∈ wU := mem_tab 679 (by decide +kernel) (by decide +kernel)
theorem win_X5_readNumbers : Cond.instanceMethod yX5_readNumbers ∈ wU := mem_tab 681 (by decide +kernel) (by decide +kernel)
theorem wco_X5_readNumbers : Cond.code yX5_readNumbers cX5_readNumbers 3 (some .boolean) ∈ wU := mem_tab 682 (by decide +kernel) (by decide +kernel)
theorem wl_X5_80 : Cond.methodLink RX5 80 yX5_isFigure ∈ wU := mem_tab 683 (by decide +kernel) (by decide +kernel)
theorem wst_X5_isFigure : Cond.static yX5_isFigure ∈ wU := mem_tab 684 (by decide +kernel) (by decide +kernel)
theorem wco_X5_isFigure : Cond.code yX5_isFigure cX5_isFigure 1 (some .boolean) ∈ wU := mem_tab 685 (by decide +kernel) (by decide +kernel)
theorem wl_X5_87 : Cond.methodLink RX5 87 yX5_isTold ∈ wU := mem_tab 686 (by decide +kernel) (by decide +kernel)
theorem win_X5_isTold : Cond.instanceMethod yX5_isTold ∈ wU := mem_tab 688 (by decide +kernel) (by decide +kernel)
theorem wco_X5_isTold : Cond.code yX5_isTold cX5_isTold 4 (some .boolean) ∈ wU := mem_tab 689 (by decide +kernel) (by decide +kernel)
theorem wl_X5_94 : Cond.methodLink RX5 94 yX5_readViewOf ∈ wU := mem_tab 690 (by decide +kernel) (by decide +kernel)
theorem win_X5_readViewOf : Cond.instanceMethod yX5_readViewOf ∈ wU := mem_tab 692 (by decide +kernel) (by decide +kernel)
theorem wco_X5_readViewOf : Cond.code yX5_readViewOf cX5_readViewOf 1 (some .boolean) ∈ wU := mem_tab 693 (by decide +kernel) (by decide +kernel)
theorem wl_X5_97 : Cond.methodLink RX5 97 yX5_readPapersOf ∈ wU := mem_tab 694 (by decide +kernel) (by decide +kernel)
theorem win_X5_readPapersOf : Cond.instanceMethod yX5_readPapersOf ∈ wU := mem_tab 696 (by decide +kernel) (by decide +kernel)
theorem wco_X5_readPapersOf : Cond.code yX5_readPapersOf cX5_readPapersOf 2 (some .boolean) ∈ wU := mem_tab 697 (by decide +kernel) (by decide +kernel)
theorem wl_L_30 : Cond.methodLink RL 30 yX5_lay ∈ wU := mem_tab 698 (by decide +kernel) (by decide +kernel)
theorem win_X5_lay : Cond.instanceMethod yX5_lay ∈ wU := mem_tab 699 (by decide +kernel) (by decide +kernel)
theorem wse_X5_lay : Cond.selects RX5 yX5_lay yX5_lay ∈ wU := mem_tab 700 (by decide +kernel) (by decide +kernel)
theorem wco_X5_lay : Cond.code yX5_lay cX5_lay 2 (some .int) ∈ wU := mem_tab 701 (by decide +kernel) (by decide +kernel)
theorem wl_X5_103 : Cond.methodLink RX5 103 yX5_fault ∈ wU := mem_tab 702 (by decide +kernel) (by decide +kernel)
theorem wl_L_35 : Cond.methodLink RL 35 yX5_person ∈ wU := mem_tab 703 (by decide +kernel) (by decide +kernel)
theorem win_X5_person : Cond.instanceMethod yX5_person ∈ wU := mem_tab 704 (by decide +kernel) (by decide +kernel)
theorem wse_X5_person : Cond.selects RX5 yX5_person yX5_person ∈ wU := mem_tab 705 (by decide +kernel) (by decide +kernel)
theorem wco_X5_person : Cond.code yX5_person cX5_person 3 (some .int) ∈ wU := mem_tab 706 (by decide +kernel) (by decide +kernel)
theorem wl_X5_131 : Cond.methodLink RX5 131 yX5_isPerson ∈ wU := mem_tab 707 (by decide +kernel) (by decide +kernel)
theorem win_X5_isPerson : Cond.instanceMethod yX5_isPerson ∈ wU := mem_tab 709 (by decide +kernel) (by decide +kernel)
theorem wco_X5_isPerson : Cond.code yX5_isPerson cX5_isPerson 2 (some .boolean) ∈ wU := mem_tab 710 (by decide +kernel) (by decide +kernel)
theorem wl_L_39 : Cond.methodLink RL 39 yX5_view ∈ wU := mem_tab 711 (by decide +kernel) (by decide +kernel)
theorem win_X5_view : Cond.instanceMethod yX5_view ∈ wU := mem_tab 712 (by decide +kernel) (by decide +kernel)
theorem wse_X5_view : Cond.selects RX5 yX5_view yX5_view ∈ wU := mem_tab 713 (by decide +kernel) (by decide +kernel)
theorem wco_X5_view : Cond.code yX5_view cX5_view 3 (some .int) ∈ wU := mem_tab 714 (by decide +kernel) (by decide +kernel)
theorem wl_X5_134 : Cond.methodLink RX5 134 yX5_isTheme ∈ wU := mem_tab 715 (by decide +kernel) (by decide +kernel)
theorem wst_X5_isTheme : Cond.static yX5_isTheme ∈ wU := mem_tab 716 (by decide +kernel) (by decide +kernel)
theorem wco_X5_isTheme : Cond.code yX5_isTheme cX5_isTheme 1 (some .boolean) ∈ wU := mem_tab 717 (by decide +kernel) (by decide +kernel)
theorem wl_L_43 : Cond.methodLink RL 43 yX5_line ∈ wU := mem_tab 718 (by decide +kernel) (by decide +kernel)
theorem win_X5_line : Cond.instanceMethod yX5_line ∈ wU := mem_tab 719 (by decide +kernel) (by decide +kernel)
theorem wse_X5_line : Cond.selects RX5 yX5_line yX5_line ∈ wU := mem_tab 720 (by decide +kernel) (by decide +kernel)
theorem wco_X5_line : Cond.code yX5_line cX5_line 3 (some .int) ∈ wU := mem_tab 721 (by decide +kernel) (by decide +kernel)
theorem wl_X5_137 : Cond.methodLink RX5 137 yX5_isPaper ∈ wU := mem_tab 722 (by decide +kernel) (by decide +kernel)
theorem win_X5_isPaper : Cond.instanceMethod yX5_isPaper ∈ wU := mem_tab 724 (by decide +kernel) (by decide +kernel)
theorem wco_X5_isPaper : Cond.code yX5_isPaper cX5_isPaper 2 (some .boolean) ∈ wU := mem_tab 725 (by decide +kernel) (by decide +kernel)
theorem wl_X5_140 : Cond.methodLink RX5 140 yX5_says ∈ wU := mem_tab 726 (by decide +kernel) (by decide +kernel)
theorem wst_X5_says : Cond.static yX5_says ∈ wU := mem_tab 727 (by decide +kernel) (by decide +kernel)
theorem wco_X5_says : Cond.code yX5_says cX5_says 1 (some .int) ∈ wU := mem_tab 728 (by decide +kernel) (by decide +kernel)
theorem wl_L_48 : Cond.methodLink RL 48 yX5_would ∈ wU := mem_tab 729 (by decide +kernel) (by decide +kernel)
theorem win_X5_would : Cond.instanceMethod yX5_would ∈ wU := mem_tab 730 (by decide +kernel) (by decide +kernel)
theorem wse_X5_would : Cond.selects RX5 yX5_would yX5_would ∈ wU := mem_tab 731 (by decide +kernel) (by decide +kernel)
theorem wco_X5_would : Cond.code yX5_would cX5_would 4 (some .int) ∈ wU := mem_tab 732 (by decide +kernel) (by decide +kernel)
theorem wl_X5_143 : Cond.methodLink RX5 143 yX5_asItIs ∈ wU := mem_tab 733 (by decide +kernel) (by decide +kernel)
theorem win_X5_asItIs : Cond.instanceMethod yX5_asItIs ∈ wU := mem_tab 735 (by decide +kernel) (by decide +kernel)
theorem wco_X5_asItIs : Cond.code yX5_asItIs cX5_asItIs 1 none ∈ wU := mem_tab 736 (by decide +kernel) (by decide +kernel)
theorem wl_X5_146 : Cond.methodLink RX5 146 yX5_writes ∈ wU := mem_tab 737 (by decide +kernel) (by decide +kernel)
theorem win_X5_writes : Cond.instanceMethod yX5_writes ∈ wU := mem_tab 739 (by decide +kernel) (by decide +kernel)
theorem wco_X5_writes : Cond.code yX5_writes cX5_writes 7 (some .int) ∈ wU := mem_tab 740 (by decide +kernel) (by decide +kernel)
theorem wl_X5_120 : Cond.methodLink RX5 120 yX5_viewOf ∈ wU := mem_tab 741 (by decide +kernel) (by decide +kernel)
theorem win_X5_viewOf : Cond.instanceMethod yX5_viewOf ∈ wU := mem_tab 743 (by decide +kernel) (by decide +kernel)
theorem wco_X5_viewOf : Cond.code yX5_viewOf cX5_viewOf 3 (some .int) ∈ wU := mem_tab 744 (by decide +kernel) (by decide +kernel)
theorem wl_L_53 : Cond.methodLink RL 53 yX5_set ∈ wU := mem_tab 745 (by decide +kernel) (by decide +kernel)
theorem win_X5_set : Cond.instanceMethod yX5_set ∈ wU := mem_tab 746 (by decide +kernel) (by decide +kernel)
theorem wse_X5_set : Cond.selects RX5 yX5_set yX5_set ∈ wU := mem_tab 747 (by decide +kernel) (by decide +kernel)
theorem wco_X5_set : Cond.code yX5_set cX5_set 6 (some .int) ∈ wU := mem_tab 748 (by decide +kernel) (by decide +kernel)
theorem wl_X5_150 : Cond.methodLink RX5 150 yX5_remembers ∈ wU := mem_tab 749 (by decide +kernel) (by decide +kernel)
theorem win_X5_remembers : Cond.instanceMethod yX5_remembers ∈ wU := mem_tab 751 (by decide +kernel) (by decide +kernel)
theorem wco_X5_remembers : Cond.code yX5_remembers cX5_remembers 2 none ∈ wU := mem_tab 752 (by decide +kernel) (by decide +kernel)
theorem wl_L_57 : Cond.methodLink RL 57 yX5_erase ∈ wU := mem_tab 753 (by decide +kernel) (by decide +kernel)
theorem win_X5_erase : Cond.instanceMethod yX5_erase ∈ wU := mem_tab 754 (by decide +kernel) (by decide +kernel)
theorem wse_X5_erase : Cond.selects RX5 yX5_erase yX5_erase ∈ wU := mem_tab 755 (by decide +kernel) (by decide +kernel)
theorem wco_X5_erase : Cond.code yX5_erase cX5_erase 5 (some .int) ∈ wU := mem_tab 756 (by decide +kernel) (by decide +kernel)
theorem wl_L_61 : Cond.methodLink RL 61 yX5_copy ∈ wU := mem_tab 757 (by decide +kernel) (by decide +kernel)
theorem win_X5_copy : Cond.instanceMethod yX5_copy ∈ wU := mem_tab 758 (by decide +kernel) (by decide +kernel)
theorem wse_X5_copy : Cond.selects RX5 yX5_copy yX5_copy ∈ wU := mem_tab 759 (by decide +kernel) (by decide +kernel)
theorem wco_X5_copy : Cond.code yX5_copy cX5_copy 4 (some .int) ∈ wU := mem_tab 760 (by decide +kernel) (by decide +kernel)
theorem wl_X5_153 : Cond.methodLink RX5 153 yX5_copying ∈ wU := mem_tab 761 (by decide +kernel) (by decide +kernel)
theorem win_X5_copying : Cond.instanceMethod yX5_copying ∈ wU := mem_tab 763 (by decide +kernel) (by decide +kernel)
theorem wco_X5_copying : Cond.code yX5_copying cX5_copying 6 none ∈ wU := mem_tab 764 (by decide +kernel) (by decide +kernel)
theorem wl_X5_128 : Cond.methodLink RX5 128 yX5_copied ∈ wU := mem_tab 765 (by decide +kernel) (by decide +kernel)
theorem win_X5_copied : Cond.instanceMethod yX5_copied ∈ wU := mem_tab 767 (by decide +kernel) (by decide +kernel)
theorem wco_X5_copied : Cond.code yX5_copied cX5_copied 5 (some .int) ∈ wU := mem_tab 768 (by decide +kernel) (by decide +kernel)
theorem wl_X5_124 : Cond.methodLink RX5 124 yX5_toward ∈ wU := mem_tab 769 (by decide +kernel) (by decide +kernel)
theorem win_X5_toward : Cond.instanceMethod yX5_toward ∈ wU := mem_tab 771 (by decide +kernel) (by decide +kernel)
theorem wco_X5_toward : Cond.code yX5_toward cX5_toward 6 (some .int) ∈ wU := mem_tab 772 (by decide +kernel) (by decide +kernel)
theorem wl_X5_157 : Cond.methodLink RX5 157 yX5_filled ∈ wU := mem_tab 773 (by decide +kernel) (by decide +kernel)
theorem win_X5_filled : Cond.instanceMethod yX5_filled ∈ wU := mem_tab 775 (by decide +kernel) (by decide +kernel)
theorem wco_X5_filled : Cond.code yX5_filled cX5_filled 4 (some .int) ∈ wU := mem_tab 776 (by decide +kernel) (by decide +kernel)
theorem wl_L_65 : Cond.methodLink RL 65 yX5_think ∈ wU := mem_tab 777 (by decide +kernel) (by decide +kernel)
theorem win_X5_think : Cond.instanceMethod yX5_think ∈ wU := mem_tab 778 (by decide +kernel) (by decide +kernel)
theorem wse_X5_think : Cond.selects RX5 yX5_think yX5_think ∈ wU := mem_tab 779 (by decide +kernel) (by decide +kernel)
theorem wco_X5_think : Cond.code yX5_think cX5_think 5 (some .int) ∈ wU := mem_tab 780 (by decide +kernel) (by decide +kernel)
theorem wl_L_69 : Cond.methodLink RL 69 yX5_mind ∈ wU := mem_tab 781 (by decide +kernel) (by decide +kernel)
theorem win_X5_mind : Cond.instanceMethod yX5_mind ∈ wU := mem_tab 782 (by decide +kernel) (by decide +kernel)
theorem wse_X5_mind : Cond.selects RX5 yX5_mind yX5_mind ∈ wU := mem_tab 783 (by decide +kernel) (by decide +kernel)
theorem wco_X5_mind : Cond.code yX5_mind cX5_mind 4 (some .int) ∈ wU := mem_tab 784 (by decide +kernel) (by decide +kernel)
theorem wl_L_73 : Cond.methodLink RL 73 yX5_undo ∈ wU := mem_tab 785 (by decide +kernel) (by decide +kernel)
theorem win_X5_undo : Cond.instanceMethod yX5_undo ∈ wU := mem_tab 786 (by decide +kernel) (by decide +kernel)
theorem wse_X5_undo : Cond.selects RX5 yX5_undo yX5_undo ∈ wU := mem_tab 787 (by decide +kernel) (by decide +kernel)
theorem wco_X5_undo : Cond.code yX5_undo cX5_undo 1 (some .int) ∈ wU := mem_tab 788 (by decide +kernel) (by decide +kernel)
theorem wl_L_77 : Cond.methodLink RL 77 yX5_own ∈ wU := mem_tab 789 (by decide +kernel) (by decide +kernel)
theorem win_X5_own : Cond.instanceMethod yX5_own ∈ wU := mem_tab 790 (by decide +kernel) (by decide +kernel)
theorem wse_X5_own : Cond.selects RX5 yX5_own yX5_own ∈ wU := mem_tab 791 (by decide +kernel) (by decide +kernel)
theorem wco_X5_own : Cond.code yX5_own cX5_own 3 (some .int) ∈ wU := mem_tab 792 (by decide +kernel) (by decide +kernel)
theorem wl_X5_160 : Cond.methodLink RX5 160 yX5_ownOf ∈ wU := mem_tab 793 (by decide +kernel) (by decide +kernel)
theorem win_X5_ownOf : Cond.instanceMethod yX5_ownOf ∈ wU := mem_tab 795 (by decide +kernel) (by decide +kernel)
theorem wco_X5_ownOf : Cond.code yX5_ownOf cX5_ownOf 5 (some .int) ∈ wU := mem_tab 796 (by decide +kernel) (by decide +kernel)
theorem wl_L_81 : Cond.methodLink RL 81 yX5_tears ∈ wU := mem_tab 797 (by decide +kernel) (by decide +kernel)
theorem win_X5_tears : Cond.instanceMethod yX5_tears ∈ wU := mem_tab 798 (by decide +kernel) (by decide +kernel)
theorem wse_X5_tears : Cond.selects RX5 yX5_tears yX5_tears ∈ wU := mem_tab 799 (by decide +kernel) (by decide +kernel)
theorem wco_X5_tears : Cond.code yX5_tears cX5_tears 5 (some .int) ∈ wU := mem_tab 800 (by decide +kernel) (by decide +kernel)
theorem wl_L_85 : Cond.methodLink RL 85 yX5_whom ∈ wU := mem_tab 801 (by decide +kernel) (by decide +kernel)
theorem win_X5_whom : Cond.instanceMethod yX5_whom ∈ wU := mem_tab 802 (by decide +kernel) (by decide +kernel)
theorem wse_X5_whom : Cond.selects RX5 yX5_whom yX5_whom ∈ wU := mem_tab 803 (by decide +kernel) (by decide +kernel)
theorem wco_X5_whom : Cond.code yX5_whom cX5_whom 5 (some .int) ∈ wU := mem_tab 804 (by decide +kernel) (by decide +kernel)
theorem wl_L_89 : Cond.methodLink RL 89 yX5_treaty ∈ wU := mem_tab 805 (by decide +kernel) (by decide +kernel)
theorem win_X5_treaty : Cond.instanceMethod yX5_treaty ∈ wU := mem_tab 806 (by decide +kernel) (by decide +kernel)
theorem wse_X5_treaty : Cond.selects RX5 yX5_treaty yX5_treaty ∈ wU := mem_tab 807 (by decide +kernel) (by decide +kernel)
theorem wco_X5_treaty : Cond.code yX5_treaty cX5_treaty 6 (some .int) ∈ wU := mem_tab 808 (by decide +kernel) (by decide +kernel)
theorem wl_L_93 : Cond.methodLink RL 93 yX5_round ∈ wU := mem_tab 809 (by decide +kernel) (by decide +kernel)
theorem win_X5_round : Cond.instanceMethod yX5_round ∈ wU := mem_tab 810 (by decide +kernel) (by decide +kernel)
theorem wse_X5_round : Cond.selects RX5 yX5_round yX5_round ∈ wU := mem_tab 811 (by decide +kernel) (by decide +kernel)
theorem wco_X5_round : Cond.code yX5_round cX5_round 5 (some .int) ∈ wU := mem_tab 812 (by decide +kernel) (by decide +kernel)
theorem wl_L_97 : Cond.methodLink RL 97 yX5_again ∈ wU := mem_tab 813 (by decide +kernel) (by decide +kernel)
theorem win_X5_again : Cond.instanceMethod yX5_again ∈ wU := mem_tab 814 (by decide +kernel) (by decide +kernel)
theorem wse_X5_again : Cond.selects RX5 yX5_again yX5_again ∈ wU := mem_tab 815 (by decide +kernel) (by decide +kernel)
theorem wco_X5_again : Cond.code yX5_again cX5_again 7 (some .int) ∈ wU := mem_tab 816 (by decide +kernel) (by decide +kernel)
theorem wl_L_101 : Cond.methodLink RL 101 yX5_least ∈ wU := mem_tab 817 (by decide +kernel) (by decide +kernel)
theorem win_X5_least : Cond.instanceMethod yX5_least ∈ wU := mem_tab 818 (by decide +kernel) (by decide +kernel)
theorem wse_X5_least : Cond.selects RX5 yX5_least yX5_least ∈ wU := mem_tab 819 (by decide +kernel) (by decide +kernel)
theorem wco_X5_least : Cond.code yX5_least cX5_least 7 (some .int) ∈ wU := mem_tab 820 (by decide +kernel) (by decide +kernel)
theorem wl_L_105 : Cond.methodLink RL 105 yX5_sign ∈ wU := mem_tab 821 (by decide +kernel) (by decide +kernel)
theorem win_X5_sign : Cond.instanceMethod yX5_sign ∈ wU := mem_tab 822 (by decide +kernel) (by decide +kernel)
theorem wse_X5_sign : Cond.selects RX5 yX5_sign yX5_sign ∈ wU := mem_tab 823 (by decide +kernel) (by decide +kernel)
theorem wco_X5_sign : Cond.code yX5_sign cX5_sign 3 (some .int) ∈ wU := mem_tab 824 (by decide +kernel) (by decide +kernel)
theorem wl_L_109 : Cond.methodLink RL 109 yX5_forget ∈ wU := mem_tab 825 (by decide +kernel) (by decide +kernel)
theorem win_X5_forget : Cond.instanceMethod yX5_forget ∈ wU := mem_tab 826 (by decide +kernel) (by decide +kernel)
theorem wse_X5_forget : Cond.selects RX5 yX5_forget yX5_forget ∈ wU := mem_tab 827 (by decide +kernel) (by decide +kernel)
theorem wco_X5_forget : Cond.code yX5_forget cX5_forget 2 (some .int) ∈ wU := mem_tab 828 (by decide +kernel) (by decide +kernel)
theorem wl_L_113 : Cond.methodLink RL 113 yX5_who ∈ wU := mem_tab 829 (by decide +kernel) (by decide +kernel)
theorem win_X5_who : Cond.instanceMethod yX5_who ∈ wU := mem_tab 830 (by decide +kernel) (by decide +kernel)
theorem wse_X5_who : Cond.selects RX5 yX5_who yX5_who ∈ wU := mem_tab 831 (by decide +kernel) (by decide +kernel)
theorem wco_X5_who : Cond.code yX5_who cX5_who 8 (some .int) ∈ wU := mem_tab 832 (by decide +kernel) (by decide +kernel)
theorem wl_X5_163 : Cond.methodLink RX5 163 yX5_isWritten ∈ wU := mem_tab 833 (by decide +kernel) (by decide +kernel)
theorem win_X5_isWritten : Cond.instanceMethod yX5_isWritten ∈ wU := mem_tab 835 (by decide +kernel) (by decide +kernel)
theorem wco_X5_isWritten : Cond.code yX5_isWritten cX5_isWritten 6 (some .boolean) ∈ wU := mem_tab 836 (by decide +kernel) (by decide +kernel)
theorem wl_L_117 : Cond.methodLink RL 117 yX5_views ∈ wU := mem_tab 837 (by decide +kernel) (by decide +kernel)
theorem win_X5_views : Cond.instanceMethod yX5_views ∈ wU := mem_tab 838 (by decide +kernel) (by decide +kernel)
theorem wse_X5_views : Cond.selects RX5 yX5_views yX5_views ∈ wU := mem_tab 839 (by decide +kernel) (by decide +kernel)
theorem wco_X5_views : Cond.code yX5_views cX5_views 6 (some .int) ∈ wU := mem_tab 840 (by decide +kernel) (by decide +kernel)
theorem wl_L_122 : Cond.methodLink RL 122 yX5_drops ∈ wU := mem_tab 841 (by decide +kernel) (by decide +kernel)
theorem win_X5_drops : Cond.instanceMethod yX5_drops ∈ wU := mem_tab 842 (by decide +kernel) (by decide +kernel)
theorem wse_X5_drops : Cond.selects RX5 yX5_drops yX5_drops ∈ wU := mem_tab 843 (by decide +kernel) (by decide +kernel)
theorem wco_X5_drops : Cond.code yX5_drops cX5_drops 14 (some .long) ∈ wU := mem_tab 844 (by decide +kernel) (by decide +kernel)
theorem wk_X5_166 : Cond.constantLong RX5 166 (-1 : Int64) ∈ wU := mem_tab 845 (by decide +kernel) (by decide +kernel)
theorem wk_X5_168 : Cond.constantLong RX5 168 (10000000000 : Int64) ∈ wU := mem_tab 846 (by decide +kernel) (by decide +kernel)
theorem wl_L_126 : Cond.methodLink RL 126 yX5_weeks ∈ wU := mem_tab 847 (by decide +kernel) (by decide +kernel)
theorem win_X5_weeks : Cond.instanceMethod yX5_weeks ∈ wU := mem_tab 848 (by decide +kernel) (by decide +kernel)
theorem wse_X5_weeks : Cond.selects RX5 yX5_weeks yX5_weeks ∈ wU := mem_tab 849 (by decide +kernel) (by decide +kernel)
theorem wco_X5_weeks : Cond.code yX5_weeks cX5_weeks 10 (some .int) ∈ wU := mem_tab 850 (by decide +kernel) (by decide +kernel)
theorem wk_X5_170 : Cond.constantLong RX5 170 (7919 : Int64) ∈ wU := mem_tab 851 (by decide +kernel) (by decide +kernel)
theorem wk_X5_172 : Cond.constantLong RX5 172 (6151 : Int64) ∈ wU := mem_tab 852 (by decide +kernel) (by decide +kernel)
theorem wk_X5_174 : Cond.constantLong RX5 174 (65521 : Int64) ∈ wU := mem_tab 853 (by decide +kernel) (by decide +kernel)
theorem wk_X5_176 : Cond.constantLong RX5 176 (2 : Int64) ∈ wU := mem_tab 854 (by decide +kernel) (by decide +kernel)
theorem wl_L_130 : Cond.methodLink RL 130 yX5_keep ∈ wU := mem_tab 855 (by decide +kernel) (by decide +kernel)
theorem win_X5_keep : Cond.instanceMethod yX5_keep ∈ wU := mem_tab 856 (by decide +kernel) (by decide +kernel)
theorem wse_X5_keep : Cond.selects RX5 yX5_keep yX5_keep ∈ wU := mem_tab 857 (by decide +kernel) (by decide +kernel)
theorem wco_X5_keep : Cond.code yX5_keep cX5_keep 1 (some .int) ∈ wU := mem_tab 858 (by decide +kernel) (by decide +kernel)
theorem wl_L_134 : Cond.methodLink RL 134 yX5_back ∈ wU := mem_tab 859 (by decide +kernel) (by decide +kernel)
theorem win_X5_back : Cond.instanceMethod yX5_back ∈ wU := mem_tab 860 (by decide +kernel) (by decide +kernel)
theorem wse_X5_back : Cond.selects RX5 yX5_back yX5_back ∈ wU := mem_tab 861 (by decide +kernel) (by decide +kernel)
theorem wco_X5_back : Cond.code yX5_back cX5_back 1 (some .int) ∈ wU := mem_tab 862 (by decide +kernel) (by decide +kernel)
theorem wl_L_138 : Cond.methodLink RL 138 yX5_count ∈ wU := mem_tab 863 (by decide +kernel) (by decide +kernel)
theorem win_X5_count : Cond.instanceMethod yX5_count ∈ wU := mem_tab 864 (by decide +kernel) (by decide +kernel)
theorem wse_X5_count : Cond.selects RX5 yX5_count yX5_count ∈ wU := mem_tab 865 (by decide +kernel) (by decide +kernel)
theorem wco_X5_count : Cond.code yX5_count cX5_count 4 (some .int) ∈ wU := mem_tab 866 (by decide +kernel) (by decide +kernel)
theorem wf_J0_9 : Cond.fieldLink RJ0 9 "java/lang/String" "value" "[B" ∈ wU := mem_tab 867 (by decide +kernel) (by decide +kernel)
theorem wf_J0_15 : Cond.fieldLink RJ0 15 "java/lang/String" "coder" "B" ∈ wU := mem_tab 868 (by decide +kernel) (by decide +kernel)
theorem war_long : Cond.arrayClass .long ∈ wU := mem_tab 869 (by decide +kernel) (by decide +kernel)
theorem wse_X3_readNumbers : Cond.selects RX3 yX3_readNumbers yX3_readNumbers ∈ wU := mem_sel 0 (by decide +kernel) (by decide +kernel)
theorem wse_X3_figuresAt : Cond.selects RX3 yX3_figuresAt yX3_figuresAt ∈ wU := mem_sel 1 (by decide +kernel) (by decide +kernel)
theorem wse_X3_letterAt : Cond.selects RX3 yX3_letterAt yX3_letterAt ∈ wU := mem_sel 2 (by decide +kernel) (by decide +kernel)
theorem wse_X3_numberAt : Cond.selects RX3 yX3_numberAt yX3_numberAt ∈ wU := mem_sel 3 (by decide +kernel) (by decide +kernel)
theorem wse_X3_tellItem : Cond.selects RX3 yX3_tellItem yX3_tellItem ∈ wU := mem_sel 4 (by decide +kernel) (by decide +kernel)
theorem wse_X1_placeAbove : Cond.selects RX1 yX1_placeAbove yX1_placeAbove ∈ wU := mem_sel 5 (by decide +kernel) (by decide +kernel)
theorem wse_X4_firstSeen : Cond.selects RX4 yX4_firstSeen yX4_firstSeen ∈ wU := mem_sel 6 (by decide +kernel) (by decide +kernel)
theorem wse_X5_clearTold : Cond.selects RX5 yX5_clearTold yX5_clearTold ∈ wU := mem_sel 7 (by decide +kernel) (by decide +kernel)
theorem wse_X5_tellsPerson : Cond.selects RX5 yX5_tellsPerson yX5_tellsPerson ∈ wU := mem_sel 8 (by decide +kernel) (by decide +kernel)
theorem wse_X5_settles : Cond.selects RX5 yX5_settles yX5_settles ∈ wU := mem_sel 9 (by decide +kernel) (by decide +kernel)
theorem wse_X5_readItem : Cond.selects RX5 yX5_readItem yX5_readItem ∈ wU := mem_sel 10 (by decide +kernel) (by decide +kernel)
theorem wse_X5_letterAt : Cond.selects RX5 yX5_letterAt yX5_letterAt ∈ wU := mem_sel 11 (by decide +kernel) (by decide +kernel)
theorem wse_X5_readPersonOf : Cond.selects RX5 yX5_readPersonOf yX5_readPersonOf ∈ wU := mem_sel 12 (by decide +kernel) (by decide +kernel)
theorem wse_X5_readNumbers : Cond.selects RX5 yX5_readNumbers yX5_readNumbers ∈ wU := mem_sel 13 (by decide +kernel) (by decide +kernel)
theorem wse_X5_isTold : Cond.selects RX5 yX5_isTold yX5_isTold ∈ wU := mem_sel 14 (by decide +kernel) (by decide +kernel)
theorem wse_X5_readViewOf : Cond.selects RX5 yX5_readViewOf yX5_readViewOf ∈ wU := mem_sel 15 (by decide +kernel) (by decide +kernel)
theorem wse_X5_readPapersOf : Cond.selects RX5 yX5_readPapersOf yX5_readPapersOf ∈ wU := mem_sel 16 (by decide +kernel) (by decide +kernel)
theorem wse_X5_isPerson : Cond.selects RX5 yX5_isPerson yX5_isPerson ∈ wU := mem_sel 17 (by decide +kernel) (by decide +kernel)
theorem wse_X5_isPaper : Cond.selects RX5 yX5_isPaper yX5_isPaper ∈ wU := mem_sel 18 (by decide +kernel) (by decide +kernel)
theorem wse_X5_asItIs : Cond.selects RX5 yX5_asItIs yX5_asItIs ∈ wU := mem_sel 19 (by decide +kernel) (by decide +kernel)
theorem wse_X5_writes : Cond.selects RX5 yX5_writes yX5_writes ∈ wU := mem_sel 20 (by decide +kernel) (by decide +kernel)
theorem wse_X5_viewOf : Cond.selects RX5 yX5_viewOf yX5_viewOf ∈ wU := mem_sel 21 (by decide +kernel) (by decide +kernel)
theorem wse_X5_remembers : Cond.selects RX5 yX5_remembers yX5_remembers ∈ wU := mem_sel 22 (by decide +kernel) (by decide +kernel)
theorem wse_X5_copying : Cond.selects RX5 yX5_copying yX5_copying ∈ wU := mem_sel 23 (by decide +kernel) (by decide +kernel)
theorem wse_X5_copied : Cond.selects RX5 yX5_copied yX5_copied ∈ wU := mem_sel 24 (by decide +kernel) (by decide +kernel)
theorem wse_X5_toward : Cond.selects RX5 yX5_toward yX5_toward ∈ wU := mem_sel 25 (by decide +kernel) (by decide +kernel)
theorem wse_X5_filled : Cond.selects RX5 yX5_filled yX5_filled ∈ wU := mem_sel 26 (by decide +kernel) (by decide +kernel)
theorem wse_X5_ownOf : Cond.selects RX5 yX5_ownOf yX5_ownOf ∈ wU := mem_sel 27 (by decide +kernel) (by decide +kernel)
theorem wse_X5_isWritten : Cond.selects RX5 yX5_isWritten yX5_isWritten ∈ wU := mem_sel 28 (by decide +kernel) (by decide +kernel)
/-- the links to private methods of a nest mate: own class, index, method, host -/
def xNest : List (String × Nat × MethodName × String) := [(RX3, 22, yX4_put, RX4), (RX3, 52, yX4_at, RX4), (RX0, 53, yX4_isUpTo, RX4), (RX0, 57, yX4_put, RX4), (RX0, 65, yX4_isTheme, RX4), (RX0, 76, yX4_at, RX4), (RX0, 90, yX4_inked, RX4), (RX1, 37, yX4_remainder, RX4), (RX0, 93, yX4_carried, RX4), (RX2, 22, yX4_put, RX4), (RX2, 26, yX4_at, RX4)]
theorem xNest_tbl : ∀ q ∈ xNest, Cond.methodLinkNest q.1 q.2.1 q.2.2.1 q.2.2.2 ∈ lw_tbl := by
  intro q hq
  simp only [xNest, List.mem_cons, List.not_mem_nil, or_false] at hq
  rcases hq with rfl | rfl | rfl | rfl | rfl | rfl | rfl | rfl | rfl | rfl | rfl
  · exact mem_tbl 159 (by decide +kernel)
  · exact mem_tbl 185 (by decide +kernel)
  · exact mem_tbl 203 (by decide +kernel)
  · exact mem_tbl 206 (by decide +kernel)
  · exact mem_tbl 215 (by decide +kernel)
  · exact mem_tbl 281 (by decide +kernel)
  · exact mem_tbl 356 (by decide +kernel)
  · exact mem_tbl 374 (by decide +kernel)
  · exact mem_tbl 399 (by decide +kernel)
  · exact mem_tbl 501 (by decide +kernel)
  · exact mem_tbl 514 (by decide +kernel)
theorem wn_X3_22 : (RX3, 22, yX4_put, RX4) ∈ xNest := List.mem_of_getElem? (i := 0) rfl
theorem wn_X3_52 : (RX3, 52, yX4_at, RX4) ∈ xNest := List.mem_of_getElem? (i := 1) rfl
theorem wn_X0_53 : (RX0, 53, yX4_isUpTo, RX4) ∈ xNest := List.mem_of_getElem? (i := 2) rfl
theorem wn_X0_57 : (RX0, 57, yX4_put, RX4) ∈ xNest := List.mem_of_getElem? (i := 3) rfl
theorem wn_X0_65 : (RX0, 65, yX4_isTheme, RX4) ∈ xNest := List.mem_of_getElem? (i := 4) rfl
theorem wn_X0_76 : (RX0, 76, yX4_at, RX4) ∈ xNest := List.mem_of_getElem? (i := 5) rfl
theorem wn_X0_90 : (RX0, 90, yX4_inked, RX4) ∈ xNest := List.mem_of_getElem? (i := 6) rfl
theorem wn_X1_37 : (RX1, 37, yX4_remainder, RX4) ∈ xNest := List.mem_of_getElem? (i := 7) rfl
theorem wn_X0_93 : (RX0, 93, yX4_carried, RX4) ∈ xNest := List.mem_of_getElem? (i := 8) rfl
theorem wn_X2_22 : (RX2, 22, yX4_put, RX4) ∈ xNest := List.mem_of_getElem? (i := 9) rfl
theorem wn_X2_26 : (RX2, 26, yX4_at, RX4) ∈ xNest := List.mem_of_getElem? (i := 10) rfl
theorem wu_X0 : ∀ w ∈ u_ws RX0 TX0 6, w ∈ wU := by decide +kernel
theorem wu_X1 : ∀ w ∈ u_ws RX1 TX1 3, w ∈ wU := by decide +kernel
theorem wu_X2 : ∀ w ∈ u_ws RX2 TX2 3, w ∈ wU := by decide +kernel
theorem wu_X3 : ∀ w ∈ u_ws RX3 TX3 4, w ∈ wU := by decide +kernel
theorem wu_X4 : ∀ w ∈ u_ws RX4 TX4 7, w ∈ wU := by decide +kernel
theorem wu_X5 : ∀ w ∈ u_ws RX5 TX5 20, w ∈ wU := by decide +kernel
end
section
/-- an int that tells a Bool -/
def bI (b : Bool) : Int32 := if b then 1 else 0
theorem bI_0 (b : Bool) : bI b = 0 ↔ b = false := by cases b <;> decide
theorem bI_n0 (b : Bool) : ¬ bI b = 0 ↔ b = true := by cases b <;> decide
theorem bI_narrow (b : Bool) : narrow .boolean (.int (bI b)) = .int (bI b) := by cases b <;> rfl
theorem arrV_congr {cA : ClassId} {n : Nat} {f g : Nat → Int32} (h : ∀ j, j < n → g j = f j) : arrV cA n (fun j => .int (g j)) = arrV cA n (fun j => .int (f j)) := by
  unfold arrV
  congr 1
  apply Array.ext
  · simp
  · intro i h1 h2
    simp at h1
    simp [h i (by simpa using h1)]
/-! ===== contracts and rows with heap, locals' array and written places hidden ===== -/
abbrev xG : Type := va_G × ClassId × ClassId
abbrev xTY (G : xG) : List (ClassId × FieldType) := [(G.2.1, .int), (G.2.2, .object RX0)]
abbrev xL : Type := List (Nat × Value)
/-- what stays, of a launch: classes, arrays, links to nest mates -/
def xK (G : xG) (U : State) : Prop := va_K G.1 vwCl (xTY G) U ∧ ∀ q ∈ xNest, va_Nw (.methodLinkNest q.1 q.2.1 q.2.2.1 q.2.2.2) U
theorem xK.call {G : xG} {U : State} {g : JFrame} {mk : MethodId} {a : Array Value} (h : xK G U) : xK G (U.calling g mk a) :=
  ⟨va_K.moved (u := U) (U := U.calling g mk a) (Vm.Alike.refl U.vm) h.1, fun q hq => va_Nw.same (u := U) (U := U.calling g mk a) rfl rfl (h.2 q hq)⟩
theorem xK.warm {G : xG} {s U : State} (hW : s.WarmedH U.vm) (h : xK G s) : xK G U := ⟨va_K.moved hW.alike h.1, fun q hq => va_Nw.warmM hW (h.2 q hq)⟩
/-- what a method wants beside (statics, constant texts): of an area that may be written, and a state -/
abbrev xE : Type := (Nat → Prop) → State → Prop
def xEok (E : xE) : Prop := (∀ (A : Nat → Prop) (U : State) (g : JFrame) (mk : MethodId) (a : Array Value), E A U → E A (U.calling g mk a)) ∧
  ∀ (A A1 : Nat → Prop) (s U : State), s.WarmedH U.vm → (∀ q : Nat, q < s.heap.size → ¬ A q → U.heap[q]? = s.heap[q]?) → (∀ q, A1 q → A q) → E A s → E A1 U
def xE0 : xE := fun _ _ => True
theorem xE0_ok : xEok xE0 := ⟨fun _ _ _ _ _ _ => trivial, fun _ _ _ _ _ _ _ _ => trivial⟩
def xQ (r : Option Value) (B : State → Prop) (A : Nat → Prop) : Array Value → State → Outcome → State → Prop := fun _ st oc t => (oc = .returned r ∧ B t) ∧ va_F A st t
abbrev xRm (fr lo mc ms : Nat) : Room := { frames := fr, cells := mc, slots := ms, locals := lo }
/-- what an answer must be for a return type -/
def xOK (ret : Option FieldType) : Option Value → Prop
  | none => ret = none
  | some (.int i) => ∃ ty, ret = some ty ∧ narrow ty (.int i) = .int i
  | some (.long _) => ret = some .long
  | some (.ref _) => ∃ n, ret = some (.object n)
  | some .null => ∃ n, ret = some (.object n)
  | _ => False
/-- A CONTRACT: arguments av, world w; it answers r, in a world of which Fin holds -/
def xM (l : Launch) (G : xG) (E : xE) (y : MethodName) (cc : ByteArray) (n : Nat) (ret : Option FieldType) (fr lo mc ms : Nat) (av : List Value) (w : va_W) (r : Option Value) (Fin : va_W → Prop) : Prop :=
  ∀ sz : Nat, Met l y (.code y cc n ret :: wU) (xRm fr lo mc ms) (va_Pc av (fun U => U.heap.size = sz ∧ va_P G.1 vwCl w U.heap ∧ xK G U ∧ va_D (fun _ => True) w ∧ E (va_A w sz) U))
    (xQ r (fun t => ∃ w1, Fin w1 ∧ va_P G.1 vwCl w1 t.heap ∧ va_D (va_A w sz) w1) (va_A w sz)) mc ms (va_A w sz)
abbrev xKt : Type := va_W → Nat → Nat → Nat → xL → List Value → Prop
/-- the walk's judgement: heap, places written and the locals' array are hidden -/
def xW (p : Program) (l : Launch) (e : Env) (R : Room) (s : State) (m : MethodId) (args : Array Value) (below : List Frame) (meth : Method) (c : Code) (Q : State → Prop) (G : xG) (A : Nat → Prop) (nL : Nat) : xKt := fun ws k z pc lv st =>
  ∀ (H : Heap) (locs : List Loc) (ls : Array Slot), va_P G.1 vwCl ws H → va_D A ws → va_S A s.heap H locs → lv_has ls nL lv → W p l e R s m args below meth c H locs k z Q (F0 m pc ls st)
/-- the opcode that gives an answer back -/
def xRetOp (cc : ByteArray) (pc : Nat) : Option Value → Prop
  | none => decode cc pc = .ok (.return_, 1)
  | some (.int _) => decode cc pc = .ok (.ireturn, 1)
  | some (.long _) => decode cc pc = .ok (.lreturn, 1)
  | some (.ref _) => decode cc pc = .ok (.areturn, 1)
  | some .null => decode cc pc = .ok (.areturn, 1)
  | _ => False
/-- where a walk stands: its method, what stays, and when it may end (Z) -/
def xR (l : Launch) (G : xG) (E : xE) (own nm : String) (cc : ByteArray) (nL : Nat) (R : Room) (Z : Option Value → va_W → Nat → Nat → Prop) (K : xKt) : Prop :=
  ∃ (p : Program) (e : Env) (s : State) (m : MethodId) (args : Array Value) (below : List Frame) (meth : Method) (c : Code) (Q : State → Prop) (A : Nat → Prop),
    p.tables.exec = Jvm.exec ∧ c.code = cc ∧ c.maxLocals = nL ∧ s.vm.findClass own = some m.cls ∧ (∀ w ∈ wU, w.before args s = true) ∧ xK G s ∧ E A s ∧ (∀ q, s.heap.size ≤ q → A q) ∧ meth.name = nm ∧
    K = xW p l e R s m args below meth c Q G A nL ∧
    ∀ (v : Option Value) (ws : va_W) (k z pc : Nat) (lv : xL), Z v ws k z → xRetOp cc pc v → K ws k z pc lv v.toList
def xZ (r : Option Value) (Fin : va_W → Prop) (mc ms : Nat) : Option Value → va_W → Nat → Nat → Prop := fun v ws k z => v = r ∧ Fin ws ∧ k ≤ mc ∧ z ≤ ms
set_option maxHeartbeats 4000000 in
theorem x_entry {l : Launch} {G : xG} {E : xE} {y : MethodName} {cc : ByteArray} {n : Nat} {ret : Option FieldType} {fr lo mc ms : Nat} {av : List Value} {w : va_W} {r : Option Value} {Fin : va_W → Prop} {lv : xL}
    (hy : plainName y.cls = true) (hlen : (lg_sl av).length ≤ n) (hlv : lv_args 0 av = lv) (hret : xOK ret r)
    (body : ∀ K : xKt, xR l G E y.cls y.name cc n (xRm fr lo mc ms) (xZ r Fin mc ms) K → K w 0 0 0 lv []) : xM l G E y cc n ret fr lo mc ms av w r Fin := by
  intro sz
  refine Met.ofW (cc := cc) (maxL := n) (ret := ret) hy rfl ?_
  intro p e s m args below meth c s₁ B hml hv
  obtain ⟨rfl, hsz, hP, hK, hD0, hE⟩ := hv
  have hts := atoms_spec (ws := .code y cc n ret :: wU) B.pre
  have hown : s.vm.findClass y.cls = some m.cls := findClass_of_methodNamed B.named
  subst hsz
  have hD := hD0.self (sz := s.heap.size)
  have hA : ∀ q : Nat, s.heap.size ≤ q → va_A w s.heap.size q := fun q h => Or.inr h
  have hl := lv_entry av (n := n) hlen
  rw [lg_entry_eq]
  have hr := B.returns
  have hlocks := B.notSynchronized
  have hb := B.bytes
  have hx := B.exec
  refine body (xW p l e (xRm fr lo mc ms) s m av.toArray below meth c (MQ below (xQ r (fun t => ∃ w1, Fin w1 ∧ va_P G.1 vwCl w1 t.heap ∧ va_D (va_A w s.heap.size) w1) (va_A w s.heap.size)) av.toArray s mc ms (va_A w s.heap.size)) G (va_A w s.heap.size) n)
    ⟨p, e, s, m, av.toArray, below, meth, c, _, va_A w s.heap.size, hx, hb, hml, hown, fun w hw => hts w (List.mem_cons_of_mem _ hw), hK, hE, hA, (name_of_methodNamed B.named B.method).1, rfl, ?_⟩ s.heap [] _ hP hD va_S.rf (hlv ▸ hl)
  intro v ws k z pc lv' hZ hop H locs ls hP1 hD1 hS1 hl1
  obtain ⟨rfl, hF, hk, hz⟩ := hZ
  refine W.widen (k := mc) (n := ms) hk hz ?_
  have hq : ∀ t : State, t.heap = H → s.WarmedH t.vm → xQ v (fun t => ∃ w1, Fin w1 ∧ va_P G.1 vwCl w1 t.heap ∧ va_D (va_A w s.heap.size) w1) (va_A w s.heap.size) av.toArray s (.returned v) t :=
    fun t ht hW => ⟨⟨rfl, ws, hF, by rw [ht]; exact hP1, hD1⟩, hS1.F ht⟩
  match v, hret, hop, hq with
  | none, hret, hop, hq => exact W.vret hx hb (by rw [hr]; exact hret) hq hS1.2.2 hop
  | some (.int i), hret, hop, hq =>
    obtain ⟨ty, h1, h2⟩ := hret
    exact W.zret hx hb (by rw [hr]; exact h1) h2 hq hS1.2.2 hop
  | some (.long i), hret, hop, hq => exact W.lret hx hb (by rw [hr]; exact hret) hq hS1.2.2 hop
  | some (.ref i), hret, hop, hq =>
    obtain ⟨nn, h1⟩ := hret
    exact W.aret hx hb (by rw [hr]; exact h1) (Or.inl ⟨nn, rfl⟩) (Or.inr ⟨i, rfl⟩) hq hS1.2.2 hop
  | some .null, hret, hop, hq =>
    obtain ⟨nn, h1⟩ := hret
    exact W.aret hx hb (by rw [hr]; exact h1) (Or.inl ⟨nn, rfl⟩) (Or.inl rfl) hq hS1.2.2 hop
section XR
variable {l : Launch} {G : xG} {E : xE} {own nm : String} {cc : ByteArray} {nL : Nat} {R : Room} {Z : Option Value → va_W → Nat → Nat → Prop} {K : xKt} {ws : va_W} {k z pc : Nat} {lv : xL} {st : List Value}

theorem x_iconst {n : Int} {v : Int32} (X : xR l G E own nm cc nL R Z K) (hdg : decode cc pc = .ok (.iconst n, 1)) (hv : Int32.ofInt n = v) (kk : K ws k z (pc + 1) lv (.int v :: st)) : K ws k z pc lv (st) := by
  obtain ⟨p, e, s, m, args, below, meth, c, Q, A, hx, hb, hml, hown, hts, hK, hE, hA, hnm, rfl, hZ⟩ := X
  intro H locs ls hP hD hS hl
  exact lv_iconst hx hb hdg hv (kk H locs ls hP hD hS hl)

theorem x_bipush {n : Int} {v : Int32} (X : xR l G E own nm cc nL R Z K) (hdg : decode cc pc = .ok (.bipush n, 2)) (hv : (Int8.ofInt n).toInt32 = v) (kk : K ws k z (pc + 2) lv (.int v :: st)) : K ws k z pc lv (st) := by
  obtain ⟨p, e, s, m, args, below, meth, c, Q, A, hx, hb, hml, hown, hts, hK, hE, hA, hnm, rfl, hZ⟩ := X
  intro H locs ls hP hD hS hl
  exact lv_bipush hx hb hdg hv (kk H locs ls hP hD hS hl)

theorem x_sipush {n : Int} {v : Int32} (X : xR l G E own nm cc nL R Z K) (hdg : decode cc pc = .ok (.sipush n, 3)) (hv : (Int16.ofInt n).toInt32 = v) (kk : K ws k z (pc + 3) lv (.int v :: st)) : K ws k z pc lv (st) := by
  obtain ⟨p, e, s, m, args, below, meth, c, Q, A, hx, hb, hml, hown, hts, hK, hE, hA, hnm, rfl, hZ⟩ := X
  intro H locs ls hP hD hS hl
  exact lv_sipush hx hb hdg hv (kk H locs ls hP hD hS hl)

theorem x_lconst {n : Fin 2} {v : Int64} (X : xR l G E own nm cc nL R Z K) (hdg : decode cc pc = .ok (.lconst n, 1)) (hv : Int64.ofNat (n : Nat) = v) (kk : K ws k z (pc + 1) lv (.long v :: st)) : K ws k z pc lv (st) := by
  obtain ⟨p, e, s, m, args, below, meth, c, Q, A, hx, hb, hml, hown, hts, hK, hE, hA, hnm, rfl, hZ⟩ := X
  intro H locs ls hP hD hS hl
  exact lv_lconst hx hb hdg hv (kk H locs ls hP hD hS hl)

theorem x_null  (X : xR l G E own nm cc nL R Z K) (hdg : decode cc pc = .ok (.aconst_null, 1)) (kk : K ws k z (pc + 1) lv (.null :: st)) : K ws k z pc lv (st) := by
  obtain ⟨p, e, s, m, args, below, meth, c, Q, A, hx, hb, hml, hown, hts, hK, hE, hA, hnm, rfl, hZ⟩ := X
  intro H locs ls hP hD hS hl
  exact lv_null hx hb hdg (kk H locs ls hP hD hS hl)

theorem x_ldc {index : Nat} {v : Int32} (X : xR l G E own nm cc nL R Z K) (hc : Cond.constant own index v ∈ wU) (hdg : decode cc pc = .ok (.ldc index, 2)) (kk : K ws k z (pc + 2) lv (.int v :: st)) : K ws k z pc lv (st) := by
  obtain ⟨p, e, s, m, args, below, meth, c, Q, A, hx, hb, hml, hown, hts, hK, hE, hA, hnm, rfl, hZ⟩ := X
  intro H locs ls hP hD hS hl
  exact lv_ldc hx hb hown (hts _ hc) hdg (kk H locs ls hP hD hS hl)

theorem x_ldcw {index : Nat} {v : Int32} (X : xR l G E own nm cc nL R Z K) (hc : Cond.constant own index v ∈ wU) (hdg : decode cc pc = .ok (.ldc_w index, 3)) (kk : K ws k z (pc + 3) lv (.int v :: st)) : K ws k z pc lv (st) := by
  obtain ⟨p, e, s, m, args, below, meth, c, Q, A, hx, hb, hml, hown, hts, hK, hE, hA, hnm, rfl, hZ⟩ := X
  intro H locs ls hP hD hS hl
  exact lv_ldcw hx hb hown (hts _ hc) hdg (kk H locs ls hP hD hS hl)

theorem x_ldc2 {index : Nat} {v : Int64} (X : xR l G E own nm cc nL R Z K) (hc : Cond.constantLong own index v ∈ wU) (hdg : decode cc pc = .ok (.ldc2_w index, 3)) (kk : K ws k z (pc + 3) lv (.long v :: st)) : K ws k z pc lv (st) := by
  obtain ⟨p, e, s, m, args, below, meth, c, Q, A, hx, hb, hml, hown, hts, hK, hE, hA, hnm, rfl, hZ⟩ := X
  intro H locs ls hP hD hS hl
  exact lv_ldc2 hx hb hown (hts _ hc) hdg (kk H locs ls hP hD hS hl)

theorem x_iloadn {k0 : Fin 4} {x : Int32} (X : xR l G E own nm cc nL R Z K) (hdg : decode cc pc = .ok (.iload_n k0, 1)) (j : Nat) (hj : lv[j]? = some ((k0 : Nat), .int x)) (kk : K ws k z (pc + 1) lv (.int x :: st)) : K ws k z pc lv (st) := by
  obtain ⟨p, e, s, m, args, below, meth, c, Q, A, hx, hb, hml, hown, hts, hK, hE, hA, hnm, rfl, hZ⟩ := X
  intro H locs ls hP hD hS hl
  exact lv_iload_n hx hb hdg rfl (lv_at hl j hj) (kk H locs ls hP hD hS hl)

theorem x_iload {i : Nat} {x : Int32} (X : xR l G E own nm cc nL R Z K) (hdg : decode cc pc = .ok (.iload i, 2)) (j : Nat) (hj : lv[j]? = some (i, .int x)) (kk : K ws k z (pc + 2) lv (.int x :: st)) : K ws k z pc lv (st) := by
  obtain ⟨p, e, s, m, args, below, meth, c, Q, A, hx, hb, hml, hown, hts, hK, hE, hA, hnm, rfl, hZ⟩ := X
  intro H locs ls hP hD hS hl
  exact lv_iload hx hb hdg (lv_at hl j hj) (kk H locs ls hP hD hS hl)

theorem x_istoren {k0 : Fin 4} {x : Int32} {lv' : xL} (X : xR l G E own nm cc nL R Z K) (hdg : decode cc pc = .ok (.istore_n k0, 1)) (hn : (k0 : Nat) < nL) (hl' : ((k0 : Nat), Value.int x) :: lv.filter (fun q => !(q.1 == (k0 : Nat)) && !(q.1 + 1 == (k0 : Nat) && q.2.category == 2)) = lv') (kk : K ws k z (pc + 1) lv' st) : K ws k z pc lv (.int x :: st) := by
  obtain ⟨p, e, s, m, args, below, meth, c, Q, A, hx, hb, hml, hown, hts, hK, hE, hA, hnm, rfl, hZ⟩ := X
  intro H locs ls hP hD hS hl
  exact lv_istore_n hx hb hdg rfl hl hn hl' (fun ls1 h1 => kk H locs ls1 hP hD hS h1)

theorem x_istore {i : Nat} {x : Int32} {lv' : xL} (X : xR l G E own nm cc nL R Z K) (hdg : decode cc pc = .ok (.istore i, 2)) (hn : i < nL) (hl' : (i, Value.int x) :: lv.filter (fun q => !(q.1 == i) && !(q.1 + 1 == i && q.2.category == 2)) = lv') (kk : K ws k z (pc + 2) lv' st) : K ws k z pc lv (.int x :: st) := by
  obtain ⟨p, e, s, m, args, below, meth, c, Q, A, hx, hb, hml, hown, hts, hK, hE, hA, hnm, rfl, hZ⟩ := X
  intro H locs ls hP hD hS hl
  exact lv_istore hx hb hdg hl hn hl' (fun ls1 h1 => kk H locs ls1 hP hD hS h1)

theorem x_lloadn {k0 : Fin 4} {x : Int64} (X : xR l G E own nm cc nL R Z K) (hdg : decode cc pc = .ok (.lload_n k0, 1)) (j : Nat) (hj : lv[j]? = some ((k0 : Nat), .long x)) (kk : K ws k z (pc + 1) lv (.long x :: st)) : K ws k z pc lv (st) := by
  obtain ⟨p, e, s, m, args, below, meth, c, Q, A, hx, hb, hml, hown, hts, hK, hE, hA, hnm, rfl, hZ⟩ := X
  intro H locs ls hP hD hS hl
  exact lv_lload_n hx hb hdg rfl (lv_at hl j hj) (kk H locs ls hP hD hS hl)

theorem x_lload {i : Nat} {x : Int64} (X : xR l G E own nm cc nL R Z K) (hdg : decode cc pc = .ok (.lload i, 2)) (j : Nat) (hj : lv[j]? = some (i, .long x)) (kk : K ws k z (pc + 2) lv (.long x :: st)) : K ws k z pc lv (st) := by
  obtain ⟨p, e, s, m, args, below, meth, c, Q, A, hx, hb, hml, hown, hts, hK, hE, hA, hnm, rfl, hZ⟩ := X
  intro H locs ls hP hD hS hl
  exact lv_lload hx hb hdg (lv_at hl j hj) (kk H locs ls hP hD hS hl)

theorem x_lstoren {k0 : Fin 4} {x : Int64} {lv' : xL} (X : xR l G E own nm cc nL R Z K) (hdg : decode cc pc = .ok (.lstore_n k0, 1)) (hn : (k0 : Nat) + 1 < nL) (hl' : ((k0 : Nat), Value.long x) :: lv.filter (fun q => !(q.1 == (k0 : Nat)) && (!(q.1 == (k0 : Nat) + 1) && !(q.1 + 1 == (k0 : Nat) && q.2.category == 2))) = lv') (kk : K ws k z (pc + 1) lv' st) : K ws k z pc lv (.long x :: st) := by
  obtain ⟨p, e, s, m, args, below, meth, c, Q, A, hx, hb, hml, hown, hts, hK, hE, hA, hnm, rfl, hZ⟩ := X
  intro H locs ls hP hD hS hl
  exact lv_lstore_n hx hb hdg rfl hl hn hl' (fun ls1 h1 => kk H locs ls1 hP hD hS h1)

theorem x_lstore {i : Nat} {x : Int64} {lv' : xL} (X : xR l G E own nm cc nL R Z K) (hdg : decode cc pc = .ok (.lstore i, 2)) (hn : i + 1 < nL) (hl' : (i, Value.long x) :: lv.filter (fun q => !(q.1 == i) && (!(q.1 == i + 1) && !(q.1 + 1 == i && q.2.category == 2))) = lv') (kk : K ws k z (pc + 2) lv' st) : K ws k z pc lv (.long x :: st) := by
  obtain ⟨p, e, s, m, args, below, meth, c, Q, A, hx, hb, hml, hown, hts, hK, hE, hA, hnm, rfl, hZ⟩ := X
  intro H locs ls hP hD hS hl
  exact lv_lstore hx hb hdg hl hn hl' (fun ls1 h1 => kk H locs ls1 hP hD hS h1)

theorem x_aloadn {k0 : Fin 4} {x : Nat} (X : xR l G E own nm cc nL R Z K) (hdg : decode cc pc = .ok (.aload_n k0, 1)) (j : Nat) (hj : lv[j]? = some ((k0 : Nat), .ref x)) (kk : K ws k z (pc + 1) lv (.ref x :: st)) : K ws k z pc lv (st) := by
  obtain ⟨p, e, s, m, args, below, meth, c, Q, A, hx, hb, hml, hown, hts, hK, hE, hA, hnm, rfl, hZ⟩ := X
  intro H locs ls hP hD hS hl
  exact lv_aload_n hx hb hdg rfl (lv_at hl j hj) (kk H locs ls hP hD hS hl)

theorem x_aload {i : Nat} {x : Nat} (X : xR l G E own nm cc nL R Z K) (hdg : decode cc pc = .ok (.aload i, 2)) (j : Nat) (hj : lv[j]? = some (i, .ref x)) (kk : K ws k z (pc + 2) lv (.ref x :: st)) : K ws k z pc lv (st) := by
  obtain ⟨p, e, s, m, args, below, meth, c, Q, A, hx, hb, hml, hown, hts, hK, hE, hA, hnm, rfl, hZ⟩ := X
  intro H locs ls hP hD hS hl
  exact lv_aload hx hb hdg (lv_at hl j hj) (kk H locs ls hP hD hS hl)

theorem x_astoren {k0 : Fin 4} {x : Nat} {lv' : xL} (X : xR l G E own nm cc nL R Z K) (hdg : decode cc pc = .ok (.astore_n k0, 1)) (hn : (k0 : Nat) < nL) (hl' : ((k0 : Nat), Value.ref x) :: lv.filter (fun q => !(q.1 == (k0 : Nat)) && !(q.1 + 1 == (k0 : Nat) && q.2.category == 2)) = lv') (kk : K ws k z (pc + 1) lv' st) : K ws k z pc lv (.ref x :: st) := by
  obtain ⟨p, e, s, m, args, below, meth, c, Q, A, hx, hb, hml, hown, hts, hK, hE, hA, hnm, rfl, hZ⟩ := X
  intro H locs ls hP hD hS hl
  exact lv_astore_n hx hb hdg rfl hl hn hl' (fun ls1 h1 => kk H locs ls1 hP hD hS h1)

theorem x_astore {i : Nat} {x : Nat} {lv' : xL} (X : xR l G E own nm cc nL R Z K) (hdg : decode cc pc = .ok (.astore i, 2)) (hn : i < nL) (hl' : (i, Value.ref x) :: lv.filter (fun q => !(q.1 == i) && !(q.1 + 1 == i && q.2.category == 2)) = lv') (kk : K ws k z (pc + 2) lv' st) : K ws k z pc lv (.ref x :: st) := by
  obtain ⟨p, e, s, m, args, below, meth, c, Q, A, hx, hb, hml, hown, hts, hK, hE, hA, hnm, rfl, hZ⟩ := X
  intro H locs ls hP hD hS hl
  exact lv_astore hx hb hdg hl hn hl' (fun ls1 h1 => kk H locs ls1 hP hD hS h1)

theorem x_iinc {i : Nat} {n : Int} {x v : Int32} {lv' : xL} (X : xR l G E own nm cc nL R Z K) (hdg : decode cc pc = .ok (.iinc i n, 3)) (j : Nat) (hj : lv[j]? = some (i, .int x)) (hv : x + Int32.ofInt n = v) (hn : i < nL) (hl' : (i, Value.int v) :: lv.filter (fun q => !(q.1 == i) && !(q.1 + 1 == i && q.2.category == 2)) = lv') (kk : K ws k z (pc + 3) lv' st) : K ws k z pc lv st := by
  obtain ⟨p, e, s, m, args, below, meth, c, Q, A, hx, hb, hml, hown, hts, hK, hE, hA, hnm, rfl, hZ⟩ := X
  intro H locs ls hP hD hS hl
  exact lv_iinc hx hb hdg hl hj hv hn hl' (fun ls1 h1 => kk H locs ls1 hP hD hS h1)

theorem x_iadd {x y v : Int32} (X : xR l G E own nm cc nL R Z K) (hdg : decode cc pc = .ok (.iadd, 1)) (hv : x + y = v) (kk : K ws k z (pc + 1) lv (.int v :: st)) : K ws k z pc lv (.int y :: .int x :: st) := by
  obtain ⟨p, e, s, m, args, below, meth, c, Q, A, hx, hb, hml, hown, hts, hK, hE, hA, hnm, rfl, hZ⟩ := X
  intro H locs ls hP hD hS hl
  exact lv_iadd hx hb hdg (hv ▸ (kk H locs ls hP hD hS hl))

theorem x_isub {x y v : Int32} (X : xR l G E own nm cc nL R Z K) (hdg : decode cc pc = .ok (.isub, 1)) (hv : x - y = v) (kk : K ws k z (pc + 1) lv (.int v :: st)) : K ws k z pc lv (.int y :: .int x :: st) := by
  obtain ⟨p, e, s, m, args, below, meth, c, Q, A, hx, hb, hml, hown, hts, hK, hE, hA, hnm, rfl, hZ⟩ := X
  intro H locs ls hP hD hS hl
  exact lv_isub hx hb hdg (hv ▸ (kk H locs ls hP hD hS hl))

theorem x_imul {x y v : Int32} (X : xR l G E own nm cc nL R Z K) (hdg : decode cc pc = .ok (.imul, 1)) (hv : x * y = v) (kk : K ws k z (pc + 1) lv (.int v :: st)) : K ws k z pc lv (.int y :: .int x :: st) := by
  obtain ⟨p, e, s, m, args, below, meth, c, Q, A, hx, hb, hml, hown, hts, hK, hE, hA, hnm, rfl, hZ⟩ := X
  intro H locs ls hP hD hS hl
  exact lv_imul hx hb hdg (hv ▸ (kk H locs ls hP hD hS hl))

theorem x_iand {x y v : Int32} (X : xR l G E own nm cc nL R Z K) (hdg : decode cc pc = .ok (.iand, 1)) (hv : x &&& y = v) (kk : K ws k z (pc + 1) lv (.int v :: st)) : K ws k z pc lv (.int y :: .int x :: st) := by
  obtain ⟨p, e, s, m, args, below, meth, c, Q, A, hx, hb, hml, hown, hts, hK, hE, hA, hnm, rfl, hZ⟩ := X
  intro H locs ls hP hD hS hl
  exact lv_iand hx hb hdg (hv ▸ (kk H locs ls hP hD hS hl))

theorem x_ior {x y v : Int32} (X : xR l G E own nm cc nL R Z K) (hdg : decode cc pc = .ok (.ior, 1)) (hv : x ||| y = v) (kk : K ws k z (pc + 1) lv (.int v :: st)) : K ws k z pc lv (.int y :: .int x :: st) := by
  obtain ⟨p, e, s, m, args, below, meth, c, Q, A, hx, hb, hml, hown, hts, hK, hE, hA, hnm, rfl, hZ⟩ := X
  intro H locs ls hP hD hS hl
  exact lv_ior hx hb hdg (hv ▸ (kk H locs ls hP hD hS hl))

theorem x_ixor {x y v : Int32} (X : xR l G E own nm cc nL R Z K) (hdg : decode cc pc = .ok (.ixor, 1)) (hv : x ^^^ y = v) (kk : K ws k z (pc + 1) lv (.int v :: st)) : K ws k z pc lv (.int y :: .int x :: st) := by
  obtain ⟨p, e, s, m, args, below, meth, c, Q, A, hx, hb, hml, hown, hts, hK, hE, hA, hnm, rfl, hZ⟩ := X
  intro H locs ls hP hD hS hl
  exact lv_ixor hx hb hdg (hv ▸ (kk H locs ls hP hD hS hl))

theorem x_idiv {x y v : Int32} (X : xR l G E own nm cc nL R Z K) (hdg : decode cc pc = .ok (.idiv, 1)) (hne : ¬ y = 0) (hv : x / y = v) (kk : K ws k z (pc + 1) lv (.int v :: st)) : K ws k z pc lv (.int y :: .int x :: st) := by
  obtain ⟨p, e, s, m, args, below, meth, c, Q, A, hx, hb, hml, hown, hts, hK, hE, hA, hnm, rfl, hZ⟩ := X
  intro H locs ls hP hD hS hl
  exact lv_idiv hx hb hdg hne (hv ▸ (kk H locs ls hP hD hS hl))

theorem x_irem {x y v : Int32} (X : xR l G E own nm cc nL R Z K) (hdg : decode cc pc = .ok (.irem, 1)) (hne : ¬ y = 0) (hv : x - x / y * y = v) (kk : K ws k z (pc + 1) lv (.int v :: st)) : K ws k z pc lv (.int y :: .int x :: st) := by
  obtain ⟨p, e, s, m, args, below, meth, c, Q, A, hx, hb, hml, hown, hts, hK, hE, hA, hnm, rfl, hZ⟩ := X
  intro H locs ls hP hD hS hl
  exact lv_irem hx hb hdg hne (hv ▸ (kk H locs ls hP hD hS hl))

theorem x_ladd {x y v : Int64} (X : xR l G E own nm cc nL R Z K) (hdg : decode cc pc = .ok (.ladd, 1)) (hv : x + y = v) (kk : K ws k z (pc + 1) lv (.long v :: st)) : K ws k z pc lv (.long y :: .long x :: st) := by
  obtain ⟨p, e, s, m, args, below, meth, c, Q, A, hx, hb, hml, hown, hts, hK, hE, hA, hnm, rfl, hZ⟩ := X
  intro H locs ls hP hD hS hl
  exact lv_ladd hx hb hdg (hv ▸ (kk H locs ls hP hD hS hl))

theorem x_lsub {x y v : Int64} (X : xR l G E own nm cc nL R Z K) (hdg : decode cc pc = .ok (.lsub, 1)) (hv : x - y = v) (kk : K ws k z (pc + 1) lv (.long v :: st)) : K ws k z pc lv (.long y :: .long x :: st) := by
  obtain ⟨p, e, s, m, args, below, meth, c, Q, A, hx, hb, hml, hown, hts, hK, hE, hA, hnm, rfl, hZ⟩ := X
  intro H locs ls hP hD hS hl
  exact lv_lsub hx hb hdg (hv ▸ (kk H locs ls hP hD hS hl))

theorem x_lmul {x y v : Int64} (X : xR l G E own nm cc nL R Z K) (hdg : decode cc pc = .ok (.lmul, 1)) (hv : x * y = v) (kk : K ws k z (pc + 1) lv (.long v :: st)) : K ws k z pc lv (.long y :: .long x :: st) := by
  obtain ⟨p, e, s, m, args, below, meth, c, Q, A, hx, hb, hml, hown, hts, hK, hE, hA, hnm, rfl, hZ⟩ := X
  intro H locs ls hP hD hS hl
  exact lv_lmul hx hb hdg (hv ▸ (kk H locs ls hP hD hS hl))

theorem x_ldiv {x y v : Int64} (X : xR l G E own nm cc nL R Z K) (hdg : decode cc pc = .ok (.ldiv, 1)) (hne : ¬ y = 0) (hv : x / y = v) (kk : K ws k z (pc + 1) lv (.long v :: st)) : K ws k z pc lv (.long y :: .long x :: st) := by
  obtain ⟨p, e, s, m, args, below, meth, c, Q, A, hx, hb, hml, hown, hts, hK, hE, hA, hnm, rfl, hZ⟩ := X
  intro H locs ls hP hD hS hl
  exact lv_ldiv hx hb hdg hne (hv ▸ (kk H locs ls hP hD hS hl))

theorem x_lrem {x y v : Int64} (X : xR l G E own nm cc nL R Z K) (hdg : decode cc pc = .ok (.lrem, 1)) (hne : ¬ y = 0) (hv : x - x / y * y = v) (kk : K ws k z (pc + 1) lv (.long v :: st)) : K ws k z pc lv (.long y :: .long x :: st) := by
  obtain ⟨p, e, s, m, args, below, meth, c, Q, A, hx, hb, hml, hown, hts, hK, hE, hA, hnm, rfl, hZ⟩ := X
  intro H locs ls hP hD hS hl
  exact lv_lrem hx hb hdg hne (hv ▸ (kk H locs ls hP hD hS hl))

theorem x_ineg {x v : Int32} (X : xR l G E own nm cc nL R Z K) (hdg : decode cc pc = .ok (.ineg, 1)) (hv : -x = v) (kk : K ws k z (pc + 1) lv (.int v :: st)) : K ws k z pc lv (.int x :: st) := by
  obtain ⟨p, e, s, m, args, below, meth, c, Q, A, hx, hb, hml, hown, hts, hK, hE, hA, hnm, rfl, hZ⟩ := X
  intro H locs ls hP hD hS hl
  exact lv_ineg hx hb hdg (hv ▸ (kk H locs ls hP hD hS hl))

theorem x_i2l {x : Int32} {v : Int64} (X : xR l G E own nm cc nL R Z K) (hdg : decode cc pc = .ok (.i2l, 1)) (hv : x.toInt64 = v) (kk : K ws k z (pc + 1) lv (.long v :: st)) : K ws k z pc lv (.int x :: st) := by
  obtain ⟨p, e, s, m, args, below, meth, c, Q, A, hx, hb, hml, hown, hts, hK, hE, hA, hnm, rfl, hZ⟩ := X
  intro H locs ls hP hD hS hl
  exact lv_i2l hx hb hdg hv (kk H locs ls hP hD hS hl)

theorem x_l2i {x : Int64} {v : Int32} (X : xR l G E own nm cc nL R Z K) (hdg : decode cc pc = .ok (.l2i, 1)) (hv : x.toInt32 = v) (kk : K ws k z (pc + 1) lv (.int v :: st)) : K ws k z pc lv (.long x :: st) := by
  obtain ⟨p, e, s, m, args, below, meth, c, Q, A, hx, hb, hml, hown, hts, hK, hE, hA, hnm, rfl, hZ⟩ := X
  intro H locs ls hP hD hS hl
  exact lv_l2i hx hb hdg hv (kk H locs ls hP hD hS hl)

theorem x_iushr {x y v : Int32} (X : xR l G E own nm cc nL R Z K) (hdg : decode cc pc = .ok (.iushr, 1)) (hv : (x.toUInt32 >>> (y.toUInt32 &&& Int32.toUInt32 31)).toInt32 = v) (kk : K ws k z (pc + 1) lv (.int v :: st)) : K ws k z pc lv (.int y :: .int x :: st) := by
  obtain ⟨p, e, s, m, args, below, meth, c, Q, A, hx, hb, hml, hown, hts, hK, hE, hA, hnm, rfl, hZ⟩ := X
  intro H locs ls hP hD hS hl
  exact lv_iushr hx hb hdg hv (kk H locs ls hP hD hS hl)

theorem x_lcmp {x y : Int64} (X : xR l G E own nm cc nL R Z K) (hdg : decode cc pc = .ok (.lcmp, 1)) (kk : K ws k z (pc + 1) lv (.int (lg_cmp x y) :: st)) : K ws k z pc lv (.long y :: .long x :: st) := by
  obtain ⟨p, e, s, m, args, below, meth, c, Q, A, hx, hb, hml, hown, hts, hK, hE, hA, hnm, rfl, hZ⟩ := X
  intro H locs ls hP hD hS hl
  exact W.lcmp hx hb hdg (kk H locs ls hP hD hS hl)

theorem x_dup {va : Value} (X : xR l G E own nm cc nL R Z K) (hdg : decode cc pc = .ok (.dup, 1)) (hva : va.category = 1) (kk : K ws k z (pc + 1) lv (va :: va :: st)) : K ws k z pc lv (va :: st) := by
  obtain ⟨p, e, s, m, args, below, meth, c, Q, A, hx, hb, hml, hown, hts, hK, hE, hA, hnm, rfl, hZ⟩ := X
  intro H locs ls hP hD hS hl
  exact lv_dup hx hb hdg hva (kk H locs ls hP hD hS hl)

theorem x_pop {va : Value} (X : xR l G E own nm cc nL R Z K) (hdg : decode cc pc = .ok (.pop, 1)) (hva : va.category = 1) (kk : K ws k z (pc + 1) lv (st)) : K ws k z pc lv (va :: st) := by
  obtain ⟨p, e, s, m, args, below, meth, c, Q, A, hx, hb, hml, hown, hts, hK, hE, hA, hnm, rfl, hZ⟩ := X
  intro H locs ls hP hD hS hl
  exact lv_pop hx hb hdg hva (kk H locs ls hP hD hS hl)

theorem x_dup_x1 {va vb : Value} (X : xR l G E own nm cc nL R Z K) (hdg : decode cc pc = .ok (.dup_x1, 1)) (hva : va.category = 1) (hvb : vb.category = 1) (kk : K ws k z (pc + 1) lv (va :: vb :: va :: st)) : K ws k z pc lv (va :: vb :: st) := by
  obtain ⟨p, e, s, m, args, below, meth, c, Q, A, hx, hb, hml, hown, hts, hK, hE, hA, hnm, rfl, hZ⟩ := X
  intro H locs ls hP hD hS hl
  exact lv_dup_x1 hx hb hdg hva hvb (kk H locs ls hP hD hS hl)

theorem x_dup2 {va vb : Value} (X : xR l G E own nm cc nL R Z K) (hdg : decode cc pc = .ok (.dup2, 1)) (hva : va.category = 1) (hvb : vb.category = 1) (kk : K ws k z (pc + 1) lv (va :: vb :: va :: vb :: st)) : K ws k z pc lv (va :: vb :: st) := by
  obtain ⟨p, e, s, m, args, below, meth, c, Q, A, hx, hb, hml, hown, hts, hK, hE, hA, hnm, rfl, hZ⟩ := X
  intro H locs ls hP hD hS hl
  exact lv_dup2_11 hx hb hdg hva hvb (kk H locs ls hP hD hS hl)

theorem x_goto {off : Int} (tgt : Nat) (X : xR l G E own nm cc nL R Z K) (hdg : decode cc pc = .ok (.goto off, 3)) (ht : (pc : Int) + off = (tgt : Int)) (kk : K ws k z tgt lv st) : K ws k z pc lv st := by
  obtain ⟨p, e, s, m, args, below, meth, c, Q, A, hx, hb, hml, hown, hts, hK, hE, hA, hnm, rfl, hZ⟩ := X
  intro H locs ls hP hD hS hl
  exact lv_goto hx hb hdg ht (kk H locs ls hP hD hS hl)

theorem x_icmp_eq {x y : Int32} {off : Int} (tgt : Nat) (X : xR l G E own nm cc nL R Z K) (hdg : decode cc pc = .ok (.if_icmp .eq off, 3)) (ht : (pc : Int) + off = (tgt : Int)) (kt : x = y → K ws k z tgt lv st) (kf : ¬ x = y → K ws k z (pc + 3) lv st) : K ws k z pc lv (.int y :: .int x :: st) := by
  obtain ⟨p, e, s, m, args, below, meth, c, Q, A, hx, hb, hml, hown, hts, hK, hE, hA, hnm, rfl, hZ⟩ := X
  intro H locs ls hP hD hS hl
  exact lv_icmp_eq hx hb hdg ht (fun h => kt h H locs ls hP hD hS hl) (fun h => kf h H locs ls hP hD hS hl)

theorem x_if_eq {x : Int32} {off : Int} (tgt : Nat) (X : xR l G E own nm cc nL R Z K) (hdg : decode cc pc = .ok (.ifCond .eq off, 3)) (ht : (pc : Int) + off = (tgt : Int)) (kt : x = 0 → K ws k z tgt lv st) (kf : ¬ x = 0 → K ws k z (pc + 3) lv st) : K ws k z pc lv (.int x :: st) := by
  obtain ⟨p, e, s, m, args, below, meth, c, Q, A, hx, hb, hml, hown, hts, hK, hE, hA, hnm, rfl, hZ⟩ := X
  intro H locs ls hP hD hS hl
  exact lv_if_eq hx hb hdg ht (fun h => kt h H locs ls hP hD hS hl) (fun h => kf h H locs ls hP hD hS hl)

theorem x_icmp_eq_n {a b : Nat} {off : Int} (tgt : Nat) (X : xR l G E own nm cc nL R Z K) (hdg : decode cc pc = .ok (.if_icmp .eq off, 3)) (ht : (pc : Int) + off = (tgt : Int)) (ha : a < 2 ^ 31) (hb : b < 2 ^ 31) (kt : a = b → K ws k z tgt lv st) (kf : a ≠ b → K ws k z (pc + 3) lv st) : K ws k z pc lv (.int (nI b) :: .int (nI a) :: st) :=
  x_icmp_eq tgt X hdg ht (fun h => kt ((nI_eq ha hb).mp h)) (fun h => kf (fun q => h ((nI_eq ha hb).mpr q)))

theorem x_if_eq_n {a : Nat} {off : Int} (tgt : Nat) (X : xR l G E own nm cc nL R Z K) (hdg : decode cc pc = .ok (.ifCond .eq off, 3)) (ht : (pc : Int) + off = (tgt : Int)) (ha : a < 2 ^ 31) (kt : a = 0 → K ws k z tgt lv st) (kf : a ≠ 0 → K ws k z (pc + 3) lv st) : K ws k z pc lv (.int (nI a) :: st) := by
  have hb : (0 : Nat) < 2 ^ 31 := by decide
  refine x_if_eq tgt X hdg ht (fun h => kt ?_) (fun h => kf ?_)
  · rw [← nI_0] at h; exact (nI_eq ha hb).mp h
  · rw [← nI_0] at h; exact fun q => h ((nI_eq ha hb).mpr q)

theorem x_icmp_ne {x y : Int32} {off : Int} (tgt : Nat) (X : xR l G E own nm cc nL R Z K) (hdg : decode cc pc = .ok (.if_icmp .ne off, 3)) (ht : (pc : Int) + off = (tgt : Int)) (kt : ¬ x = y → K ws k z tgt lv st) (kf : x = y → K ws k z (pc + 3) lv st) : K ws k z pc lv (.int y :: .int x :: st) := by
  obtain ⟨p, e, s, m, args, below, meth, c, Q, A, hx, hb, hml, hown, hts, hK, hE, hA, hnm, rfl, hZ⟩ := X
  intro H locs ls hP hD hS hl
  exact lv_icmp_ne hx hb hdg ht (fun h => kt h H locs ls hP hD hS hl) (fun h => kf h H locs ls hP hD hS hl)

theorem x_if_ne {x : Int32} {off : Int} (tgt : Nat) (X : xR l G E own nm cc nL R Z K) (hdg : decode cc pc = .ok (.ifCond .ne off, 3)) (ht : (pc : Int) + off = (tgt : Int)) (kt : ¬ x = 0 → K ws k z tgt lv st) (kf : x = 0 → K ws k z (pc + 3) lv st) : K ws k z pc lv (.int x :: st) := by
  obtain ⟨p, e, s, m, args, below, meth, c, Q, A, hx, hb, hml, hown, hts, hK, hE, hA, hnm, rfl, hZ⟩ := X
  intro H locs ls hP hD hS hl
  exact lv_if_ne hx hb hdg ht (fun h => kt h H locs ls hP hD hS hl) (fun h => kf h H locs ls hP hD hS hl)

theorem x_icmp_ne_n {a b : Nat} {off : Int} (tgt : Nat) (X : xR l G E own nm cc nL R Z K) (hdg : decode cc pc = .ok (.if_icmp .ne off, 3)) (ht : (pc : Int) + off = (tgt : Int)) (ha : a < 2 ^ 31) (hb : b < 2 ^ 31) (kt : a ≠ b → K ws k z tgt lv st) (kf : a = b → K ws k z (pc + 3) lv st) : K ws k z pc lv (.int (nI b) :: .int (nI a) :: st) :=
  x_icmp_ne tgt X hdg ht (fun h => kt (fun q => h ((nI_eq ha hb).mpr q))) (fun h => kf ((nI_eq ha hb).mp h))

theorem x_if_ne_n {a : Nat} {off : Int} (tgt : Nat) (X : xR l G E own nm cc nL R Z K) (hdg : decode cc pc = .ok (.ifCond .ne off, 3)) (ht : (pc : Int) + off = (tgt : Int)) (ha : a < 2 ^ 31) (kt : a ≠ 0 → K ws k z tgt lv st) (kf : a = 0 → K ws k z (pc + 3) lv st) : K ws k z pc lv (.int (nI a) :: st) := by
  have hb : (0 : Nat) < 2 ^ 31 := by decide
  refine x_if_ne tgt X hdg ht (fun h => kt ?_) (fun h => kf ?_)
  · rw [← nI_0] at h; exact fun q => h ((nI_eq ha hb).mpr q)
  · rw [← nI_0] at h; exact (nI_eq ha hb).mp h

theorem x_icmp_lt {x y : Int32} {off : Int} (tgt : Nat) (X : xR l G E own nm cc nL R Z K) (hdg : decode cc pc = .ok (.if_icmp .lt off, 3)) (ht : (pc : Int) + off = (tgt : Int)) (kt : x < y → K ws k z tgt lv st) (kf : ¬ x < y → K ws k z (pc + 3) lv st) : K ws k z pc lv (.int y :: .int x :: st) := by
  obtain ⟨p, e, s, m, args, below, meth, c, Q, A, hx, hb, hml, hown, hts, hK, hE, hA, hnm, rfl, hZ⟩ := X
  intro H locs ls hP hD hS hl
  exact lv_icmp_lt hx hb hdg ht (fun h => kt h H locs ls hP hD hS hl) (fun h => kf h H locs ls hP hD hS hl)

theorem x_if_lt {x : Int32} {off : Int} (tgt : Nat) (X : xR l G E own nm cc nL R Z K) (hdg : decode cc pc = .ok (.ifCond .lt off, 3)) (ht : (pc : Int) + off = (tgt : Int)) (kt : x < 0 → K ws k z tgt lv st) (kf : ¬ x < 0 → K ws k z (pc + 3) lv st) : K ws k z pc lv (.int x :: st) := by
  obtain ⟨p, e, s, m, args, below, meth, c, Q, A, hx, hb, hml, hown, hts, hK, hE, hA, hnm, rfl, hZ⟩ := X
  intro H locs ls hP hD hS hl
  exact lv_if_lt hx hb hdg ht (fun h => kt h H locs ls hP hD hS hl) (fun h => kf h H locs ls hP hD hS hl)

theorem x_icmp_lt_n {a b : Nat} {off : Int} (tgt : Nat) (X : xR l G E own nm cc nL R Z K) (hdg : decode cc pc = .ok (.if_icmp .lt off, 3)) (ht : (pc : Int) + off = (tgt : Int)) (ha : a < 2 ^ 31) (hb : b < 2 ^ 31) (kt : a < b → K ws k z tgt lv st) (kf : b ≤ a → K ws k z (pc + 3) lv st) : K ws k z pc lv (.int (nI b) :: .int (nI a) :: st) :=
  x_icmp_lt tgt X hdg ht (fun h => kt ((nI_ltI ha hb).mp h)) (fun h => kf (Nat.not_lt.mp (fun q => h ((nI_ltI ha hb).mpr q))))

theorem x_if_lt_n {a : Nat} {off : Int} (tgt : Nat) (X : xR l G E own nm cc nL R Z K) (hdg : decode cc pc = .ok (.ifCond .lt off, 3)) (ht : (pc : Int) + off = (tgt : Int)) (ha : a < 2 ^ 31) (kt : a < 0 → K ws k z tgt lv st) (kf : 0 ≤ a → K ws k z (pc + 3) lv st) : K ws k z pc lv (.int (nI a) :: st) := by
  have hb : (0 : Nat) < 2 ^ 31 := by decide
  refine x_if_lt tgt X hdg ht (fun h => kt ?_) (fun h => kf ?_)
  · rw [← nI_0] at h; exact (nI_ltI ha hb).mp h
  · rw [← nI_0] at h; exact Nat.not_lt.mp (fun q => h ((nI_ltI ha hb).mpr q))

theorem x_icmp_ge {x y : Int32} {off : Int} (tgt : Nat) (X : xR l G E own nm cc nL R Z K) (hdg : decode cc pc = .ok (.if_icmp .ge off, 3)) (ht : (pc : Int) + off = (tgt : Int)) (kt : y ≤ x → K ws k z tgt lv st) (kf : ¬ y ≤ x → K ws k z (pc + 3) lv st) : K ws k z pc lv (.int y :: .int x :: st) := by
  obtain ⟨p, e, s, m, args, below, meth, c, Q, A, hx, hb, hml, hown, hts, hK, hE, hA, hnm, rfl, hZ⟩ := X
  intro H locs ls hP hD hS hl
  exact lv_icmp_ge hx hb hdg ht (fun h => kt h H locs ls hP hD hS hl) (fun h => kf h H locs ls hP hD hS hl)

theorem x_if_ge {x : Int32} {off : Int} (tgt : Nat) (X : xR l G E own nm cc nL R Z K) (hdg : decode cc pc = .ok (.ifCond .ge off, 3)) (ht : (pc : Int) + off = (tgt : Int)) (kt : 0 ≤ x → K ws k z tgt lv st) (kf : ¬ 0 ≤ x → K ws k z (pc + 3) lv st) : K ws k z pc lv (.int x :: st) := by
  obtain ⟨p, e, s, m, args, below, meth, c, Q, A, hx, hb, hml, hown, hts, hK, hE, hA, hnm, rfl, hZ⟩ := X
  intro H locs ls hP hD hS hl
  exact lv_if_ge hx hb hdg ht (fun h => kt h H locs ls hP hD hS hl) (fun h => kf h H locs ls hP hD hS hl)

theorem x_icmp_ge_n {a b : Nat} {off : Int} (tgt : Nat) (X : xR l G E own nm cc nL R Z K) (hdg : decode cc pc = .ok (.if_icmp .ge off, 3)) (ht : (pc : Int) + off = (tgt : Int)) (ha : a < 2 ^ 31) (hb : b < 2 ^ 31) (kt : b ≤ a → K ws k z tgt lv st) (kf : a < b → K ws k z (pc + 3) lv st) : K ws k z pc lv (.int (nI b) :: .int (nI a) :: st) :=
  x_icmp_ge tgt X hdg ht (fun h => kt ((nI_leI hb ha).mp h)) (fun h => kf (Nat.not_le.mp (fun q => h ((nI_leI hb ha).mpr q))))

theorem x_if_ge_n {a : Nat} {off : Int} (tgt : Nat) (X : xR l G E own nm cc nL R Z K) (hdg : decode cc pc = .ok (.ifCond .ge off, 3)) (ht : (pc : Int) + off = (tgt : Int)) (ha : a < 2 ^ 31) (kt : 0 ≤ a → K ws k z tgt lv st) (kf : a < 0 → K ws k z (pc + 3) lv st) : K ws k z pc lv (.int (nI a) :: st) := by
  have hb : (0 : Nat) < 2 ^ 31 := by decide
  refine x_if_ge tgt X hdg ht (fun h => kt ?_) (fun h => kf ?_)
  · rw [← nI_0] at h; exact (nI_leI hb ha).mp h
  · rw [← nI_0] at h; exact Nat.not_le.mp (fun q => h ((nI_leI hb ha).mpr q))

theorem x_icmp_gt {x y : Int32} {off : Int} (tgt : Nat) (X : xR l G E own nm cc nL R Z K) (hdg : decode cc pc = .ok (.if_icmp .gt off, 3)) (ht : (pc : Int) + off = (tgt : Int)) (kt : y < x → K ws k z tgt lv st) (kf : ¬ y < x → K ws k z (pc + 3) lv st) : K ws k z pc lv (.int y :: .int x :: st) := by
  obtain ⟨p, e, s, m, args, below, meth, c, Q, A, hx, hb, hml, hown, hts, hK, hE, hA, hnm, rfl, hZ⟩ := X
  intro H locs ls hP hD hS hl
  exact lv_icmp_gt hx hb hdg ht (fun h => kt h H locs ls hP hD hS hl) (fun h => kf h H locs ls hP hD hS hl)

theorem x_if_gt {x : Int32} {off : Int} (tgt : Nat) (X : xR l G E own nm cc nL R Z K) (hdg : decode cc pc = .ok (.ifCond .gt off, 3)) (ht : (pc : Int) + off = (tgt : Int)) (kt : 0 < x → K ws k z tgt lv st) (kf : ¬ 0 < x → K ws k z (pc + 3) lv st) : K ws k z pc lv (.int x :: st) := by
  obtain ⟨p, e, s, m, args, below, meth, c, Q, A, hx, hb, hml, hown, hts, hK, hE, hA, hnm, rfl, hZ⟩ := X
  intro H locs ls hP hD hS hl
  exact lv_if_gt hx hb hdg ht (fun h => kt h H locs ls hP hD hS hl) (fun h => kf h H locs ls hP hD hS hl)

theorem x_icmp_gt_n {a b : Nat} {off : Int} (tgt : Nat) (X : xR l G E own nm cc nL R Z K) (hdg : decode cc pc = .ok (.if_icmp .gt off, 3)) (ht : (pc : Int) + off = (tgt : Int)) (ha : a < 2 ^ 31) (hb : b < 2 ^ 31) (kt : b < a → K ws k z tgt lv st) (kf : a ≤ b → K ws k z (pc + 3) lv st) : K ws k z pc lv (.int (nI b) :: .int (nI a) :: st) :=
  x_icmp_gt tgt X hdg ht (fun h => kt ((nI_ltI hb ha).mp h)) (fun h => kf (Nat.not_lt.mp (fun q => h ((nI_ltI hb ha).mpr q))))

theorem x_if_gt_n {a : Nat} {off : Int} (tgt : Nat) (X : xR l G E own nm cc nL R Z K) (hdg : decode cc pc = .ok (.ifCond .gt off, 3)) (ht : (pc : Int) + off = (tgt : Int)) (ha : a < 2 ^ 31) (kt : 0 < a → K ws k z tgt lv st) (kf : a ≤ 0 → K ws k z (pc + 3) lv st) : K ws k z pc lv (.int (nI a) :: st) := by
  have hb : (0 : Nat) < 2 ^ 31 := by decide
  refine x_if_gt tgt X hdg ht (fun h => kt ?_) (fun h => kf ?_)
  · rw [← nI_0] at h; exact (nI_ltI hb ha).mp h
  · rw [← nI_0] at h; exact Nat.not_lt.mp (fun q => h ((nI_ltI hb ha).mpr q))

theorem x_icmp_le {x y : Int32} {off : Int} (tgt : Nat) (X : xR l G E own nm cc nL R Z K) (hdg : decode cc pc = .ok (.if_icmp .le off, 3)) (ht : (pc : Int) + off = (tgt : Int)) (kt : x ≤ y → K ws k z tgt lv st) (kf : ¬ x ≤ y → K ws k z (pc + 3) lv st) : K ws k z pc lv (.int y :: .int x :: st) := by
  obtain ⟨p, e, s, m, args, below, meth, c, Q, A, hx, hb, hml, hown, hts, hK, hE, hA, hnm, rfl, hZ⟩ := X
  intro H locs ls hP hD hS hl
  exact lv_icmp_le hx hb hdg ht (fun h => kt h H locs ls hP hD hS hl) (fun h => kf h H locs ls hP hD hS hl)

theorem x_if_le {x : Int32} {off : Int} (tgt : Nat) (X : xR l G E own nm cc nL R Z K) (hdg : decode cc pc = .ok (.ifCond .le off, 3)) (ht : (pc : Int) + off = (tgt : Int)) (kt : x ≤ 0 → K ws k z tgt lv st) (kf : ¬ x ≤ 0 → K ws k z (pc + 3) lv st) : K ws k z pc lv (.int x :: st) := by
  obtain ⟨p, e, s, m, args, below, meth, c, Q, A, hx, hb, hml, hown, hts, hK, hE, hA, hnm, rfl, hZ⟩ := X
  intro H locs ls hP hD hS hl
  exact lv_if_le hx hb hdg ht (fun h => kt h H locs ls hP hD hS hl) (fun h => kf h H locs ls hP hD hS hl)

theorem x_icmp_le_n {a b : Nat} {off : Int} (tgt : Nat) (X : xR l G E own nm cc nL R Z K) (hdg : decode cc pc = .ok (.if_icmp .le off, 3)) (ht : (pc : Int) + off = (tgt : Int)) (ha : a < 2 ^ 31) (hb : b < 2 ^ 31) (kt : a ≤ b → K ws k z tgt lv st) (kf : b < a → K ws k z (pc + 3) lv st) : K ws k z pc lv (.int (nI b) :: .int (nI a) :: st) :=
  x_icmp_le tgt X hdg ht (fun h => kt ((nI_leI ha hb).mp h)) (fun h => kf (Nat.not_le.mp (fun q => h ((nI_leI ha hb).mpr q))))

theorem x_if_le_n {a : Nat} {off : Int} (tgt : Nat) (X : xR l G E own nm cc nL R Z K) (hdg : decode cc pc = .ok (.ifCond .le off, 3)) (ht : (pc : Int) + off = (tgt : Int)) (ha : a < 2 ^ 31) (kt : a ≤ 0 → K ws k z tgt lv st) (kf : 0 < a → K ws k z (pc + 3) lv st) : K ws k z pc lv (.int (nI a) :: st) := by
  have hb : (0 : Nat) < 2 ^ 31 := by decide
  refine x_if_le tgt X hdg ht (fun h => kt ?_) (fun h => kf ?_)
  · rw [← nI_0] at h; exact (nI_leI ha hb).mp h
  · rw [← nI_0] at h; exact Nat.not_le.mp (fun q => h ((nI_leI ha hb).mpr q))

theorem x_ifeq_b {b : Bool} {off : Int} (tgt : Nat) (X : xR l G E own nm cc nL R Z K) (hdg : decode cc pc = .ok (.ifCond .eq off, 3)) (ht : (pc : Int) + off = (tgt : Int)) (kt : b = false → K ws k z tgt lv st) (kf : b = true → K ws k z (pc + 3) lv st) : K ws k z pc lv (.int (bI b) :: st) :=
  x_if_eq tgt X hdg ht (fun h => kt ((bI_0 b).mp h)) (fun h => kf ((bI_n0 b).mp h))
theorem x_ifne_b {b : Bool} {off : Int} (tgt : Nat) (X : xR l G E own nm cc nL R Z K) (hdg : decode cc pc = .ok (.ifCond .ne off, 3)) (ht : (pc : Int) + off = (tgt : Int)) (kt : b = true → K ws k z tgt lv st) (kf : b = false → K ws k z (pc + 3) lv st) : K ws k z pc lv (.int (bI b) :: st) :=
  x_if_ne tgt X hdg ht (fun h => kt ((bI_n0 b).mp h)) (fun h => kf ((bI_0 b).mp h))
theorem x_ifnonnull {x : Nat} {off : Int} (tgt : Nat) (X : xR l G E own nm cc nL R Z K) (hdg : decode cc pc = .ok (.ifnonnull off, 3)) (ht : (pc : Int) + off = (tgt : Int)) (kk : K ws k z tgt lv st) : K ws k z pc lv (.ref x :: st) := by
  obtain ⟨p, e, s, m, args, below, meth, c, Q, A, hx, hb, hml, hown, hts, hK, hE, hA, hnm, rfl, hZ⟩ := X
  intro H locs ls hP hD hS hl
  exact lv_ifnonnull hx hb hdg ht (kk H locs ls hP hD hS hl)

theorem x_lookup {dflt : Int} {ps : Array (Int × Int)} {len : Nat} {x : Int32} {off : Int} (tgt : Nat) (X : xR l G E own nm cc nL R Z K) (hdg : decode cc pc = .ok (.lookupswitch dflt ps, len)) (hp : (ps.toList.zip (ps.toList.drop 1)).all (fun (a, next) => a.1 < next.1) = true) (ho : Op.lookupswitch.offset ps.toList dflt x.toInt = off) (ht : (pc : Int) + off = (tgt : Int)) (kk : K ws k z tgt lv st) : K ws k z pc lv (.int x :: st) := by
  obtain ⟨p, e, s, m, args, below, meth, c, Q, A, hx, hb, hml, hown, hts, hK, hE, hA, hnm, rfl, hZ⟩ := X
  intro H locs ls hP hD hS hl
  exact lv_lookup hx hb hdg hp ho ht (kk H locs ls hP hD hS hl)

theorem x_tableOut {dflt lo hi : Int} {offs : Array Int} {len : Nat} {x : Int32} (tgt : Nat) (X : xR l G E own nm cc nL R Z K) (hdg : decode cc pc = .ok (.tableswitch dflt lo hi offs, len)) (h : x.toInt < lo ∨ hi < x.toInt) (ht : (pc : Int) + dflt = (tgt : Int)) (kk : K ws k z tgt lv st) : K ws k z pc lv (.int x :: st) := by
  obtain ⟨p, e, s, m, args, below, meth, c, Q, A, hx, hb, hml, hown, hts, hK, hE, hA, hnm, rfl, hZ⟩ := X
  intro H locs ls hP hD hS hl
  exact lv_tableOut hx hb hdg h ht (kk H locs ls hP hD hS hl)

theorem x_tableIn {dflt lo hi : Int} {offs : Array Int} {len : Nat} {x : Int32} {off : Int} (tgt : Nat) (X : xR l G E own nm cc nL R Z K) (hdg : decode cc pc = .ok (.tableswitch dflt lo hi offs, len)) (h1 : ¬ x.toInt < lo) (h2 : ¬ hi < x.toInt) (ho : offs[(x.toInt - lo).toNat]? = some off) (ht : (pc : Int) + off = (tgt : Int)) (kk : K ws k z tgt lv st) : K ws k z pc lv (.int x :: st) := by
  obtain ⟨p, e, s, m, args, below, meth, c, Q, A, hx, hb, hml, hown, hts, hK, hE, hA, hnm, rfl, hZ⟩ := X
  intro H locs ls hP hD hS hl
  exact lv_tableIn hx hb hdg h1 h2 ho ht (kk H locs ls hP hD hS hl)

theorem x_ret {v : Value} (X : xR l G E own nm cc nL R Z K) (hop : xRetOp cc pc (some v)) (hz : Z (some v) ws k z) : K ws k z pc lv [v] := by
  obtain ⟨p, e, s, m, args, below, meth, c, Q, A, hx, hb, hml, hown, hts, hK, hE, hA, hnm, rfl, hZ⟩ := X
  exact hZ (some v) ws k z pc lv hz hop
theorem x_retv (X : xR l G E own nm cc nL R Z K) (hop : xRetOp cc pc none) (hz : Z none ws k z) : K ws k z pc lv [] := by
  obtain ⟨p, e, s, m, args, below, meth, c, Q, A, hx, hb, hml, hown, hts, hK, hE, hA, hnm, rfl, hZ⟩ := X
  exact hZ none ws k z pc lv hz hop
theorem x_world {ws' : va_W} (he : ws = ws') (kk : K ws' k z pc lv st) : K ws k z pc lv st := he ▸ kk
theorem x_lv {lv' : xL} (X : xR l G E own nm cc nL R Z K) (is : List Nat) (he : lv_pick lv is = lv') (kk : K ws k z pc lv' st) : K ws k z pc lv st := by
  obtain ⟨p, e, s, m, args, below, meth, c, Q, A, hx, hb, hml, hown, hts, hK, hE, hA, hnm, rfl, hZ⟩ := X
  intro H locs ls hP hD hS hl
  exact kk H locs ls hP hD hS (lv_sub hl is he)
theorem x_int {x y : Int32} (he : x = y) (kk : K ws k z pc lv (.int y :: st)) : K ws k z pc lv (.int x :: st) := he ▸ kk
theorem x_long {x y : Int64} (he : x = y) (kk : K ws k z pc lv (.long y :: st)) : K ws k z pc lv (.long x :: st) := he ▸ kk
/-- the int rows of a world agree where they are read -/
theorem x_row {q0 a n : Nat} {cA : ClassId} {f g : Nat → Int32} (X : xR l G E own nm cc nL R Z K) (h0 : ws[q0]? = some (a, .inl (cA, n, .inl f))) (hfg : ∀ j, j < n → f j = g j) (kk : K (ws.set q0 (a, .inl (cA, n, .inl g))) k z pc lv st) : K ws k z pc lv st := by
  obtain ⟨p, e, s, m, args, below, meth, c, Q, A, hx, hb, hml, hown, hts, hK, hE, hA, hnm, rfl, hZ⟩ := X
  intro H locs ls hP hD hS hl
  have e : va_at G.1 vwCl (a, .inl (cA, n, .inl g)) H := by
    have h1 := hP q0 _ h0
    have e2 : vp_cell cA (n, .inl g) = vp_cell cA (n, .inl f) := by
      rw [vp_cell_i, vp_cell_i]
      exact arrV_congr (fun j hj => by rw [hfg j hj])
    show H[a]? = some (vp_cell cA (n, .inl g))
    rw [e2]
    exact h1
  exact kk H locs ls (hP.set hD h0 e (fun _ _ => rfl)) (hD.set h0) hS hl

theorem x_get {C : String} {T : u_T} {N ci idx a : Nat} {fs : List Value} {v : Value} (X : xR l G E own nm cc nL R Z K) (hin : ∀ w ∈ u_ws C T N, w ∈ wU) (q0 : Nat) (he : ws[q0]? = some (a, .inr (ci, fs))) (hc : vwCl[ci]? = some (C, T, N)) (i : Nat) (hi : i < N) (hlk : Cond.fieldLink own idx C (T i).2.1 (T i).2.2.1 ∈ wU) (h1 : (T i).1 = C) (hv : fs[i]? = some v) (hdg : decode cc pc = .ok (.getfield idx, 3)) (kk : K ws k z (pc + 3) lv (v :: st)) : K ws k z pc lv (.ref a :: st) := by
  obtain ⟨p, e, s, m, args, below, meth, c, Q, A, hx, hb, hml, hown, hts, hK, hE, hA, hnm, rfl, hZ⟩ := X
  intro H locs ls hP hD hS hl
  exact va_get (D := G.1) hx hb hts hin hown hK.1 hP q0 he hc i hi (hts _ hlk) (fun _ h9 => by rw [h1] at h9; exact h9) hv hdg (kk H locs ls hP hD hS hl)
theorem x_put {C : String} {T : u_T} {N ci idx a : Nat} {fs : List Value} {v : Value} {ws' : va_W} {ty0 : Nat → FieldType} {ty : FieldType} (X : xR l G E own nm cc nL R Z K) (hin : ∀ w ∈ u_ws C T N, w ∈ wU) (hty : ∀ k, k < N → parseFieldDescriptor (T k).2.2.1 = some (ty0 k)) (hnm2 : ∀ a, a < N → ∀ b, b < N → a ≠ b → (T a).2.1 ≠ (T b).2.1) (q0 : Nat) (he : ws[q0]? = some (a, .inr (ci, fs))) (hc : vwCl[ci]? = some (C, T, N)) (i : Nat) (hi : i < N) (hlk : Cond.fieldLink own idx C (T i).2.1 (T i).2.2.1 ∈ wU) (h1 : (T i).1 = C) (hfin : (T i).2.2.2 = false) (hd : parseFieldDescriptor (T i).2.2.1 = some ty) (hn : narrow ty v = v) (hfit : fits ty v = true) (hlf : i < fs.length) (hws : ws.set q0 (a, .inr (ci, fs.set i v)) = ws') (hdg : decode cc pc = .ok (.putfield idx, 3)) (kk : K ws' k z (pc + 3) lv st) : K ws k z pc lv (v :: .ref a :: st) := by
  subst hws
  obtain ⟨p, e, s, m, args, below, meth, c, Q, A, hx, hb, hml, hown, hts, hK, hE, hA, hnm, rfl, hZ⟩ := X
  intro H locs ls hP hD hS hl
  exact va_put (D := G.1) hx hb hts hin ty0 hty hnm2 hown hK.1 hP hD hS q0 he hc i hi (hts _ hlk) (fun _ h9 => by rw [h1] at h9; exact h9) hfin hd hn hfit hlf hdg (fun H1 locs1 hP1 hD1 hS1 => kk H1 locs1 ls hP1 hD1 hS1 hl)
theorem x_putF {C : String} {T : u_T} {N ci idx a : Nat} {fs : List Value} {v : Value} {ws' : va_W} {ty0 : Nat → FieldType} {ty : FieldType} (X : xR l G E own "<init>" cc nL R Z K) (hin : ∀ w ∈ u_ws C T N, w ∈ wU) (hty : ∀ k, k < N → parseFieldDescriptor (T k).2.2.1 = some (ty0 k)) (hnm2 : ∀ a, a < N → ∀ b, b < N → a ≠ b → (T a).2.1 ≠ (T b).2.1) (q0 : Nat) (he : ws[q0]? = some (a, .inr (ci, fs))) (hc : vwCl[ci]? = some (C, T, N)) (i : Nat) (hi : i < N) (hlk : Cond.fieldLink own idx C (T i).2.1 (T i).2.2.1 ∈ wU) (h1 : (T i).1 = C) (h1o : (T i).1 = own) (hfin : (T i).2.2.2 = true) (hd : parseFieldDescriptor (T i).2.2.1 = some ty) (hn : narrow ty v = v) (hfit : fits ty v = true) (hlf : i < fs.length) (hws : ws.set q0 (a, .inr (ci, fs.set i v)) = ws') (hdg : decode cc pc = .ok (.putfield idx, 3)) (kk : K ws' k z (pc + 3) lv st) : K ws k z pc lv (v :: .ref a :: st) := by
  subst hws
  obtain ⟨p, e, s, m, args, below, meth, c, Q, A, hx, hb, hml, hown, hts, hK, hE, hA, hnm, rfl, hZ⟩ := X
  intro H locs ls hP hD hS hl
  exact va_putF (D := G.1) hx hb hts hin ty0 hty hnm2 hown hK.1 hP hD hS q0 he hc i hi (hts _ hlk) (fun _ h9 => by rw [h1] at h9; exact h9) hfin hnm h1o hd hn hfit hlf hdg (fun H1 locs1 hP1 hD1 hS1 => kk H1 locs1 ls hP1 hD1 hS1 hl)
theorem x_iald {a n : Nat} {f : Nat → Int32} {i : Int32} (X : xR l G E own nm cc nL R Z K) (q0 : Nat) (ha : ws[q0]? = some (a, .inl (G.2.1, n, .inl f))) (hin : vp_in i n) (hdg : decode cc pc = .ok (.iaload, 1)) (kk : K ws k z (pc + 1) lv (.int (f i.toNatClampNeg) :: st)) : K ws k z pc lv (.int i :: .ref a :: st) := by
  obtain ⟨p, e, s, m, args, below, meth, c, Q, A, hx, hb, hml, hown, hts, hK, hE, hA, hnm, rfl, hZ⟩ := X
  intro H locs ls hP hD hS hl
  exact va_iald hx hb hK.1 hP q0 0 ha rfl hin hdg (kk H locs ls hP hD hS hl)
theorem x_iald_n {a n j : Nat} {f : Nat → Int32} {v : Int32} (X : xR l G E own nm cc nL R Z K) (q0 : Nat) (ha : ws[q0]? = some (a, .inl (G.2.1, n, .inl f))) (hj : j < n) (hn : n < 2 ^ 31) (hv : f j = v) (hdg : decode cc pc = .ok (.iaload, 1)) (kk : K ws k z (pc + 1) lv (.int v :: st)) : K ws k z pc lv (.int (nI j) :: .ref a :: st) :=
  x_iald X q0 ha (vp_in_nI hj hn) hdg (by rw [nI_clamp (Nat.lt_trans hj hn), hv]; exact kk)
theorem x_iast {a n : Nat} {f : Nat → Int32} {i x : Int32} {ws' : va_W} (X : xR l G E own nm cc nL R Z K) (q0 : Nat) (ha : ws[q0]? = some (a, .inl (G.2.1, n, .inl f))) (hin : vp_in i n) (hws : ws.set q0 (a, .inl (G.2.1, n, .inl (upd f i.toNatClampNeg x))) = ws') (hdg : decode cc pc = .ok (.iastore, 1)) (kk : K ws' k z (pc + 1) lv st) : K ws k z pc lv (.int x :: .int i :: .ref a :: st) := by
  subst hws
  obtain ⟨p, e, s, m, args, below, meth, c, Q, A, hx, hb, hml, hown, hts, hK, hE, hA, hnm, rfl, hZ⟩ := X
  intro H locs ls hP hD hS hl
  exact va_iast hx hb hK.1 hP hD hS q0 0 ha rfl hin hdg (fun H1 locs1 hP1 hD1 hS1 => kk H1 locs1 ls hP1 hD1 hS1 hl)
theorem x_iast_n {a n j : Nat} {f g : Nat → Int32} {x : Int32} {ws' : va_W} (X : xR l G E own nm cc nL R Z K) (q0 : Nat) (ha : ws[q0]? = some (a, .inl (G.2.1, n, .inl f))) (hj : j < n) (hn : n < 2 ^ 31) (hg : upd f j x = g) (hws : ws.set q0 (a, .inl (G.2.1, n, .inl g)) = ws') (hdg : decode cc pc = .ok (.iastore, 1)) (kk : K ws' k z (pc + 1) lv st) : K ws k z pc lv (.int x :: .int (nI j) :: .ref a :: st) :=
  x_iast X q0 ha (vp_in_nI hj hn) (by rw [nI_clamp (Nat.lt_trans hj hn), hg]; exact hws) hdg kk
theorem x_alen {a n : Nat} {f : Nat → Int32} (X : xR l G E own nm cc nL R Z K) (q0 : Nat) (ha : ws[q0]? = some (a, .inl (G.2.1, n, .inl f))) (hdg : decode cc pc = .ok (.arraylength, 1)) (kk : K ws k z (pc + 1) lv (.int (nI n) :: st)) : K ws k z pc lv (.ref a :: st) := by
  obtain ⟨p, e, s, m, args, below, meth, c, Q, A, hx, hb, hml, hown, hts, hK, hE, hA, hnm, rfl, hZ⟩ := X
  intro H locs ls hP hD hS hl
  exact va_alen hx hb hK.1 hP q0 0 ha rfl rfl hdg (kk H locs ls hP hD hS hl)
theorem x_alenq {a n : Nat} {f : Nat → Option Nat} (X : xR l G E own nm cc nL R Z K) (q0 : Nat) (ha : ws[q0]? = some (a, .inl (G.2.2, n, .inr (.inr (.inr (.inr f)))))) (hdg : decode cc pc = .ok (.arraylength, 1)) (kk : K ws k z (pc + 1) lv (.int (nI n) :: st)) : K ws k z pc lv (.ref a :: st) := by
  obtain ⟨p, e, s, m, args, below, meth, c, Q, A, hx, hb, hml, hown, hts, hK, hE, hA, hnm, rfl, hZ⟩ := X
  intro H locs ls hP hD hS hl
  exact va_alen hx hb hK.1 hP q0 1 ha rfl rfl hdg (kk H locs ls hP hD hS hl)
theorem x_aald_n {a n j : Nat} {f : Nat → Option Nat} {v : Value} (X : xR l G E own nm cc nL R Z K) (q0 : Nat) (ha : ws[q0]? = some (a, .inl (G.2.2, n, .inr (.inr (.inr (.inr f)))))) (hj : j < n) (hn : n < 2 ^ 31) (hv : va_rf (f j) = v) (hdg : decode cc pc = .ok (.aaload, 1)) (kk : K ws k z (pc + 1) lv (v :: st)) : K ws k z pc lv (.int (nI j) :: .ref a :: st) := by
  subst hv
  obtain ⟨p, e, s, m, args, below, meth, c, Q, A, hx, hb, hml, hown, hts, hK, hE, hA, hnm, rfl, hZ⟩ := X
  intro H locs ls hP hD hS hl
  refine va_aldq hx hb hK.1 hP q0 1 ha rfl (vp_in_nI hj hn) hdg ?_
  rw [nI_clamp (Nat.lt_trans hj hn)]
  exact kk H locs ls hP hD hS hl

end XR
end
section
/-! ===== calls: the callee's world is a part of ours, by its places; it comes back in its place ===== -/
theorem good_wU {ws : List Cond} (h : ∀ w ∈ ws, w ∈ wU) : GoodIn wU ws := fun w hw => ⟨h w hw, good_of_word (wU_good w (h w hw))⟩
def x_put_ws (ws : va_W) : List Nat → va_W → va_W
  | i :: is, q :: qs => x_put_ws (ws.set i q) is qs
  | _, _ => ws
theorem x_put_at : ∀ (is : List Nat) (w1 ws : va_W) (k : Nat) (q : Nat × va_E), is.length = w1.length → (x_put_ws ws is w1)[k]? = some q → (ws[k]? = some q ∧ k ∉ is) ∨ ∃ j : Nat, is[j]? = some k ∧ w1[j]? = some q := by
  intro is
  induction is with
  | nil =>
    intro w1 ws k q hl h
    cases w1 with
    | nil => exact Or.inl ⟨h, List.not_mem_nil⟩
    | cons a b => simp at hl
  | cons i is ih =>
    intro w1 ws k q hl h
    cases w1 with
    | nil => simp at hl
    | cons q0 w1 =>
      rcases ih w1 (ws.set i q0) k q (by simpa using hl) h with ⟨h1, h2⟩ | ⟨j, h1, h2⟩
      · by_cases hk : k = i
        · subst hk
          have hlt : k < ws.length := by
            have := (List.getElem?_eq_some_iff.mp h1).1
            simpa using this
          rw [List.getElem?_set_self hlt] at h1
          exact Or.inr ⟨0, rfl, h1⟩
        · rw [List.getElem?_set_ne (fun e => hk e.symm)] at h1
          exact Or.inl ⟨h1, fun h => by rcases List.mem_cons.mp h with h | h; exact hk h; exact h2 h⟩
      · exact Or.inr ⟨j + 1, h1, h2⟩
theorem x_map_at {is : List Nat} {ws wc : va_W} (hC : is.map (fun i => ws[i]?) = wc.map some) {j i : Nat} (hj : is[j]? = some i) : ∃ q, wc[j]? = some q ∧ ws[i]? = some q := by
  have h1 : (is.map (fun i => ws[i]?))[j]? = some (ws[i]?) := by rw [List.getElem?_map, hj]; rfl
  rw [hC, List.getElem?_map] at h1
  cases hq : wc[j]? with
  | none => rw [hq] at h1; cases h1
  | some q => rw [hq] at h1; exact ⟨q, rfl, (Option.some.inj h1).symm⟩
theorem x_map_back {is : List Nat} {ws wc : va_W} (hC : is.map (fun i => ws[i]?) = wc.map some) {j : Nat} {q : Nat × va_E} (hq : wc[j]? = some q) : ∃ i, is[j]? = some i ∧ ws[i]? = some q := by
  have h1 : (is.map (fun i => ws[i]?))[j]? = some (some q) := by rw [hC, List.getElem?_map, hq]; rfl
  rw [List.getElem?_map] at h1
  cases hi : is[j]? with
  | none => rw [hi] at h1; cases h1
  | some i => rw [hi] at h1; exact ⟨i, rfl, Option.some.inj h1⟩
theorem x_upd {D : va_G} {cl : List vw_C} {ws wc w1 : va_W} {A : Nat → Prop} {H H1 : Heap} (hP : va_P D cl ws H) (hD : va_D A ws) (is : List Nat) (hC : is.map (fun i => ws[i]?) = wc.map some) (hlen : is.length = w1.length) (hadr : w1.map Prod.fst = wc.map Prod.fst)
    (hk : ∀ q : Nat, q < H.size → ¬ va_A wc H.size q → H1[q]? = H[q]?) (hP1 : va_P D cl w1 H1) : va_P D cl (x_put_ws ws is w1) H1 ∧ va_D A (x_put_ws ws is w1) := by
  have key : ∀ (k : Nat) (q : Nat × va_E), (x_put_ws ws is w1)[k]? = some q → ∃ q0, ws[k]? = some q0 ∧ q0.1 = q.1 := by
    intro k q hq
    rcases x_put_at is w1 ws k q hlen hq with ⟨h1, -⟩ | ⟨j, h1, h2⟩
    · exact ⟨q, h1, rfl⟩
    · obtain ⟨q', h3, h4⟩ := x_map_at hC h1
      refine ⟨q', h4, ?_⟩
      have e : (w1.map Prod.fst)[j]? = (wc.map Prod.fst)[j]? := by rw [hadr]
      rw [List.getElem?_map, List.getElem?_map, h2, h3] at e
      exact (Option.some.inj e).symm
  refine ⟨fun k q hq => ?_, fun i j a b ha hb hab => ?_, fun k q hq => ?_⟩
  · rcases x_put_at is w1 ws k q hlen hq with ⟨h1, h2⟩ | ⟨j, -, h2⟩
    · have hlt := (hP k q h1).lt
      refine (hP k q h1).kept (hk q.1 hlt ?_)
      rintro (⟨j, e, h⟩ | h)
      · obtain ⟨i, h3, h4⟩ := x_map_back hC h
        have : k = i := hD.1 k i q (q.1, e) h1 h4 rfl
        subst this
        exact h2 (List.mem_of_getElem? h3)
      · omega
    · exact hP1 j q h2
  · obtain ⟨a0, g1, g2⟩ := key i a ha
    obtain ⟨b0, g3, g4⟩ := key j b hb
    exact hD.1 i j a0 b0 g1 g3 (g2.trans (hab.trans g4.symm))
  · obtain ⟨q0, g1, g2⟩ := key k q hq
    rw [← g2]
    exact hD.2 k q0 g1
theorem x_put_self : ∀ (is : List Nat) (ws wc : va_W), is.map (fun i => ws[i]?) = wc.map some → x_put_ws ws is wc = ws := by
  intro is
  induction is with
  | nil =>
    intro ws wc h
    cases wc <;> rfl
  | cons i is ih =>
    intro ws wc h
    cases wc with
    | nil => rfl
    | cons q wc =>
      simp only [List.map_cons, List.cons.injEq] at h
      have hi : i < ws.length := (List.getElem?_eq_some_iff.mp h.1).1
      have e : ws.set i q = ws := by
        apply List.ext_getElem?
        intro k
        by_cases hk : k = i
        · subst hk
          rw [List.getElem?_set_self hi, h.1]
        · rw [List.getElem?_set_ne (fun e => hk e.symm)]
      show x_put_ws (ws.set i q) is wc = ws
      rw [e]
      exact ih ws wc h.2
theorem x_fm {is : List Nat} {ws wc : va_W} (hC : is.map (fun i => ws[i]?) = wc.map some) : is.filterMap (fun i => ws[i]?) = wc := by
  induction is generalizing wc with
  | nil => cases wc with
    | nil => rfl
    | cons a b => cases hC
  | cons i is ih =>
    cases wc with
    | nil => cases hC
    | cons q wc =>
      simp only [List.map_cons, List.cons.injEq] at hC
      rw [List.filterMap_cons, hC.1, ih hC.2]
/-- what a call's words are -/
abbrev xCd (y : MethodName) (n : Nat) : Prop := y.cls ≠ "java/lang/invoke/MethodHandle" ∧ y.cls ≠ "java/lang/invoke/VarHandle" ∧ (parseMethodDescriptor y.desc).map (fun d => d.parameters.length) = some n
section XC
variable {p : Program} {l : Launch} {e : Env} {R : Room} {s : State} {m : MethodId} {args : Array Value} {below : List Frame} {meth : Method} {c : Code} {H : Heap} {locs : List Loc} {k z : Nat} {Q : State → Prop}
variable {pc : Nat} {ls : Array Slot} {rest st0 : List Value} {a : Array Value} {A0 A1 : Nat → Prop} {H0 : Heap} {mc ms : Nat} {free : Addr → Prop}
theorem x_go {r : Option Value} {B : State → Prop} (hr : va_Run p l e R s m args below meth c H locs k z mc ms (F0 m pc ls st0) rest (xQ r B A1 a) free) (hS : va_S A0 H0 H locs) (hA : ∀ q, q < H.size → A1 q → A0 q) (hf : ∀ q, free q → A0 q)
    (kk : ∀ (t : State) (H1 : Heap) (locs1 : List Loc), t.heap = H1 → B t → H.size ≤ H1.size → (∀ q : Nat, q < H.size → ¬ A1 q → H1[q]? = H[q]?) → va_S A0 H0 H1 locs1 → W p l e R s m args below meth c H1 locs1 (k + mc) (z + ms) Q (F0 m (pc + 3) ls (r.toList ++ rest))) : W p l e R s m args below meth c H locs k z Q (F0 m pc ls st0) := by
  intro T hT X
  obtain ⟨v, st₀, t, T', L, h0, X', hL, e1, e2, ⟨⟨hv, hb⟩, hz, hk⟩, st⟩ := hr T hT X
  cases hv
  rw [h0] at hz hk
  obtain ⟨t2, a1, b1⟩ := kk t T'.heap (locs ++ L) e1.symm hb (by rw [e1]; exact hz) (fun q h1 h2 => by rw [e1]; exact hk q h1 h2)
    ⟨Nat.le_trans hS.1 (by rw [e1]; exact hz), fun q h1 h2 => by rw [e1, hk q (Nat.lt_of_lt_of_le h1 hS.1) (fun z => h2 (hA q (Nat.lt_of_lt_of_le h1 hS.1) z))]; exact hS.2.1 q h1 h2, fun q hq => by
      rcases List.mem_append.mp hq with h | h
      · exact hS.2.2 q h
      · exact hf _ (hL q h)⟩ T' rfl X'
  exact ⟨t2, st t2 a1, b1⟩
end XC
section XD
variable {l : Launch} {G : xG} {E E' : xE} {own nm : String} {cc : ByteArray} {nL : Nat} {R : Room} {Z : Option Value → va_W → Nat → Nat → Prop} {K : xKt} {ws ws' wc w1 : va_W} {k z pc : Nat} {lv : xL} {st rest : List Value}
variable {y : MethodName} {cc' : ByteArray} {n' : Nat} {ret' : Option FieldType} {fr' lo' mc' ms' idx : Nat} {As : List Value} {r' : Option Value} {v : Value} {Fin' : va_W → Prop}

set_option maxHeartbeats 1000000 in
theorem x_callV {b ci : Nat} {fs : List Value} {T : u_T} {N : Nat} (X : xR l G E own nm cc nL R Z K) (hM : xM l G E' y cc' n' ret' fr' lo' mc' ms' (.ref b :: As) wc r' Fin') (hE1 : xEok E') (hE2 : ∀ A U, E A U → E' A U) (is : List Nat) (hC : is.map (fun i => ws[i]?) = wc.map some) (j : Nat) (hj : wc[j]? = some (b, .inr (ci, fs))) (hci : vwCl[ci]? = some (y.cls, T, N)) (hnd : va_nd is = true) (hst : st = As.reverse ++ .ref b :: rest) (hco : Cond.code y cc' n' ret' ∈ wU) (hini : Cond.initialized y.cls ∈ wU) (hd : xCd y As.length) (hlk : Cond.methodLink own idx y ∈ wU) (hin : Cond.instanceMethod y ∈ wU) (hse : Cond.selects y.cls y y ∈ wU) (hroom : fr' + 1 ≤ R.frames ∧ 8 + (n' + 11) + lo' ≤ R.locals ∧ k + mc' ≤ R.cells ∧ z + ms' ≤ R.slots) (hrest : (rest.map fun v => v.category).sum ≤ 8) (hdg : decode cc pc = .ok (.invokevirtual idx, 3)) (hsk : ∀ w2, Fin' w2 → is.length = w2.length ∧ w2.map Prod.fst = wc.map Prod.fst) (kk : ∀ w2, Fin' w2 → K (x_put_ws ws is w2) (k + mc') (z + ms') (pc + 3) lv (r'.toList ++ rest)) : K ws k z pc lv st := by
  obtain ⟨p, e, s, m, args, below, meth, c, Q, A, hx, hb, hml, hown, hts, hK, hE, hA, hnm, rfl, hZ⟩ := X
  intro H locs ls hP hD hS hl
  have hPc := hP.sub (ws' := wc) is (x_fm hC)
  have hDc := hD.sub (ws' := wc) is hnd hC
  have hFc := va_free (wc := wc) hD hS hA is hC
  have hW0 : ∀ w ∈ (wsV own idx y.cls y (.code y cc' n' ret' :: wU)), w ∈ wU := by
    intro w hw
    simp only [wsV, List.cons_append, List.nil_append, List.mem_cons] at hw; rcases hw with rfl | rfl | rfl | rfl | rfl | hw; exact hlk; exact hin; exact hse; exact hini; exact hco; exact hw
  refine x_go (va_runV (As := As) ⟨hx, hb, hml, hown, hts⟩ (hM H.size) (cwV (C := y.cls) As.length hts (good_wU hW0) rfl rfl rfl ⟨rfl, hd⟩ ⟨hroom.1, hroom.2.1⟩) ⟨fun a U g mk q => ⟨q.1, q.2.1, q.2.2.1, q.2.2.2.1.call, q.2.2.2.2.1, hE1.1 _ _ _ _ _ q.2.2.2.2.2⟩, va_recv (q := (y.cls, T, N)) hK.1 hPc hci hj, fun U hU hW => ⟨rfl, by rw [hU], by rw [hU]; exact hPc, hK.warm hW, hDc.weaken (fun _ _ _ _ => trivial), hE1.2 A _ s U hW (fun q h1 h2 => by rw [hU]; exact hS.2.1 q h1 h2) (fun q h => hFc q h) (hE2 _ _ hE)⟩⟩ rfl rfl hl.1 hst (lv_room hrest) hdg ⟨hroom.2.2.1, hroom.2.2.2⟩) hS (fun q _ h => hFc q h) hFc (fun t H1 locs1 ht hB hz1 hk1 hS1 => ?_)
  obtain ⟨w2, hF, hP1, hD1⟩ := hB
  rw [ht] at hP1
  obtain ⟨hlen, hadr⟩ := hsk w2 hF
  obtain ⟨hP2, hD2⟩ := x_upd hP hD is hC hlen hadr hk1 hP1
  exact kk w2 hF H1 locs1 ls hP2 hD2 hS1 hl

theorem x_callVfv {b ci : Nat} {fs : List Value} {T : u_T} {N : Nat} (X : xR l G E own nm cc nL R Z K) (hM : xM l G E' y cc' n' ret' fr' lo' mc' ms' (.ref b :: As) wc (some v) (fun w2 => w2 = w1)) (hE1 : xEok E') (hE2 : ∀ A U, E A U → E' A U) (is : List Nat) (hC : is.map (fun i => ws[i]?) = wc.map some) (j : Nat) (hj : wc[j]? = some (b, .inr (ci, fs))) (hci : vwCl[ci]? = some (y.cls, T, N)) (hnd : va_nd is = true) (hst : st = As.reverse ++ .ref b :: rest) (hco : Cond.code y cc' n' ret' ∈ wU) (hini : Cond.initialized y.cls ∈ wU) (hd : xCd y As.length) (hlk : Cond.methodLink own idx y ∈ wU) (hin : Cond.instanceMethod y ∈ wU) (hse : Cond.selects y.cls y y ∈ wU) (hroom : fr' + 1 ≤ R.frames ∧ 8 + (n' + 11) + lo' ≤ R.locals ∧ k + mc' ≤ R.cells ∧ z + ms' ≤ R.slots) (hrest : (rest.map fun v => v.category).sum ≤ 8) (hdg : decode cc pc = .ok (.invokevirtual idx, 3)) (hlen : is.length = w1.length) (hadr : w1.map Prod.fst = wc.map Prod.fst) (hws : x_put_ws ws is w1 = ws') (kk : K ws' (k + mc') (z + ms') (pc + 3) lv (v :: rest)) : K ws k z pc lv st :=
  x_callV X hM hE1 hE2 is hC j hj hci hnd hst hco hini hd hlk hin hse hroom hrest hdg (fun w2 h => by subst h; exact ⟨hlen, hadr⟩) (fun w2 h => by subst h; rw [hws]; exact kk)

theorem x_callVrv {b ci : Nat} {fs : List Value} {T : u_T} {N : Nat} (X : xR l G E own nm cc nL R Z K) (hM : xM l G E' y cc' n' ret' fr' lo' mc' ms' (.ref b :: As) wc (some v) (fun w2 => w2 = wc)) (hE1 : xEok E') (hE2 : ∀ A U, E A U → E' A U) (is : List Nat) (hC : is.map (fun i => ws[i]?) = wc.map some) (j : Nat) (hj : wc[j]? = some (b, .inr (ci, fs))) (hci : vwCl[ci]? = some (y.cls, T, N)) (hnd : va_nd is = true) (hst : st = As.reverse ++ .ref b :: rest) (hco : Cond.code y cc' n' ret' ∈ wU) (hini : Cond.initialized y.cls ∈ wU) (hd : xCd y As.length) (hlk : Cond.methodLink own idx y ∈ wU) (hin : Cond.instanceMethod y ∈ wU) (hse : Cond.selects y.cls y y ∈ wU) (hroom : fr' + 1 ≤ R.frames ∧ 8 + (n' + 11) + lo' ≤ R.locals ∧ k + mc' ≤ R.cells ∧ z + ms' ≤ R.slots) (hrest : (rest.map fun v => v.category).sum ≤ 8) (hdg : decode cc pc = .ok (.invokevirtual idx, 3)) (kk : K ws (k + mc') (z + ms') (pc + 3) lv (v :: rest)) : K ws k z pc lv st :=
  x_callV X hM hE1 hE2 is hC j hj hci hnd hst hco hini hd hlk hin hse hroom hrest hdg (fun w2 h => by subst h; exact ⟨by simpa using congrArg List.length hC, rfl⟩) (fun w2 h => by subst h; rw [x_put_self is ws w2 hC]; exact kk)

theorem x_callVf0 {b ci : Nat} {fs : List Value} {T : u_T} {N : Nat} (X : xR l G E own nm cc nL R Z K) (hM : xM l G E' y cc' n' ret' fr' lo' mc' ms' (.ref b :: As) wc (none) (fun w2 => w2 = w1)) (hE1 : xEok E') (hE2 : ∀ A U, E A U → E' A U) (is : List Nat) (hC : is.map (fun i => ws[i]?) = wc.map some) (j : Nat) (hj : wc[j]? = some (b, .inr (ci, fs))) (hci : vwCl[ci]? = some (y.cls, T, N)) (hnd : va_nd is = true) (hst : st = As.reverse ++ .ref b :: rest) (hco : Cond.code y cc' n' ret' ∈ wU) (hini : Cond.initialized y.cls ∈ wU) (hd : xCd y As.length) (hlk : Cond.methodLink own idx y ∈ wU) (hin : Cond.instanceMethod y ∈ wU) (hse : Cond.selects y.cls y y ∈ wU) (hroom : fr' + 1 ≤ R.frames ∧ 8 + (n' + 11) + lo' ≤ R.locals ∧ k + mc' ≤ R.cells ∧ z + ms' ≤ R.slots) (hrest : (rest.map fun v => v.category).sum ≤ 8) (hdg : decode cc pc = .ok (.invokevirtual idx, 3)) (hlen : is.length = w1.length) (hadr : w1.map Prod.fst = wc.map Prod.fst) (hws : x_put_ws ws is w1 = ws') (kk : K ws' (k + mc') (z + ms') (pc + 3) lv (rest)) : K ws k z pc lv st :=
  x_callV X hM hE1 hE2 is hC j hj hci hnd hst hco hini hd hlk hin hse hroom hrest hdg (fun w2 h => by subst h; exact ⟨hlen, hadr⟩) (fun w2 h => by subst h; rw [hws]; exact kk)

theorem x_callVr0 {b ci : Nat} {fs : List Value} {T : u_T} {N : Nat} (X : xR l G E own nm cc nL R Z K) (hM : xM l G E' y cc' n' ret' fr' lo' mc' ms' (.ref b :: As) wc (none) (fun w2 => w2 = wc)) (hE1 : xEok E') (hE2 : ∀ A U, E A U → E' A U) (is : List Nat) (hC : is.map (fun i => ws[i]?) = wc.map some) (j : Nat) (hj : wc[j]? = some (b, .inr (ci, fs))) (hci : vwCl[ci]? = some (y.cls, T, N)) (hnd : va_nd is = true) (hst : st = As.reverse ++ .ref b :: rest) (hco : Cond.code y cc' n' ret' ∈ wU) (hini : Cond.initialized y.cls ∈ wU) (hd : xCd y As.length) (hlk : Cond.methodLink own idx y ∈ wU) (hin : Cond.instanceMethod y ∈ wU) (hse : Cond.selects y.cls y y ∈ wU) (hroom : fr' + 1 ≤ R.frames ∧ 8 + (n' + 11) + lo' ≤ R.locals ∧ k + mc' ≤ R.cells ∧ z + ms' ≤ R.slots) (hrest : (rest.map fun v => v.category).sum ≤ 8) (hdg : decode cc pc = .ok (.invokevirtual idx, 3)) (kk : K ws (k + mc') (z + ms') (pc + 3) lv (rest)) : K ws k z pc lv st :=
  x_callV X hM hE1 hE2 is hC j hj hci hnd hst hco hini hd hlk hin hse hroom hrest hdg (fun w2 h => by subst h; exact ⟨by simpa using congrArg List.length hC, rfl⟩) (fun w2 h => by subst h; rw [x_put_self is ws w2 hC]; exact kk)

set_option maxHeartbeats 1000000 in
theorem x_callS (X : xR l G E own nm cc nL R Z K) (hM : xM l G E' y cc' n' ret' fr' lo' mc' ms' (As) wc r' Fin') (hE1 : xEok E') (hE2 : ∀ A U, E A U → E' A U) (is : List Nat) (hC : is.map (fun i => ws[i]?) = wc.map some) (hnd : va_nd is = true) (hst : st = As.reverse ++ rest) (hco : Cond.code y cc' n' ret' ∈ wU) (hini : Cond.initialized y.cls ∈ wU) (hd : xCd y As.length) (hlk : Cond.methodLink own idx y ∈ wU) (hst0 : Cond.static y ∈ wU) (hroom : fr' + 1 ≤ R.frames ∧ 8 + (n' + 11) + lo' ≤ R.locals ∧ k + mc' ≤ R.cells ∧ z + ms' ≤ R.slots) (hrest : (rest.map fun v => v.category).sum ≤ 8) (hdg : decode cc pc = .ok (.invokestatic idx, 3)) (hsk : ∀ w2, Fin' w2 → is.length = w2.length ∧ w2.map Prod.fst = wc.map Prod.fst) (kk : ∀ w2, Fin' w2 → K (x_put_ws ws is w2) (k + mc') (z + ms') (pc + 3) lv (r'.toList ++ rest)) : K ws k z pc lv st := by
  obtain ⟨p, e, s, m, args, below, meth, c, Q, A, hx, hb, hml, hown, hts, hK, hE, hA, hnm, rfl, hZ⟩ := X
  intro H locs ls hP hD hS hl
  have hPc := hP.sub (ws' := wc) is (x_fm hC)
  have hDc := hD.sub (ws' := wc) is hnd hC
  have hFc := va_free (wc := wc) hD hS hA is hC
  have hW0 : ∀ w ∈ (va_wsS own idx y (.code y cc' n' ret' :: wU)), w ∈ wU := by
    intro w hw
    simp only [va_wsS, List.cons_append, List.nil_append, List.mem_cons] at hw; rcases hw with rfl | rfl | rfl | rfl | hw; exact hlk; exact hst0; exact hini; exact hco; exact hw
  refine x_go (va_runS (As := As) ⟨hx, hb, hml, hown, hts⟩ (hM H.size) (va_cwS As.length hts (good_wU hW0) rfl rfl rfl hd ⟨hroom.1, hroom.2.1⟩) ⟨fun a U g mk q => ⟨q.1, q.2.1, q.2.2.1, q.2.2.2.1.call, q.2.2.2.2.1, hE1.1 _ _ _ _ _ q.2.2.2.2.2⟩, fun U hU hW => ⟨rfl, by rw [hU], by rw [hU]; exact hPc, hK.warm hW, hDc.weaken (fun _ _ _ _ => trivial), hE1.2 A _ s U hW (fun q h1 h2 => by rw [hU]; exact hS.2.1 q h1 h2) (fun q h => hFc q h) (hE2 _ _ hE)⟩⟩ rfl rfl hl.1 hst (lv_room hrest) hdg ⟨hroom.2.2.1, hroom.2.2.2⟩) hS (fun q _ h => hFc q h) hFc (fun t H1 locs1 ht hB hz1 hk1 hS1 => ?_)
  obtain ⟨w2, hF, hP1, hD1⟩ := hB
  rw [ht] at hP1
  obtain ⟨hlen, hadr⟩ := hsk w2 hF
  obtain ⟨hP2, hD2⟩ := x_upd hP hD is hC hlen hadr hk1 hP1
  exact kk w2 hF H1 locs1 ls hP2 hD2 hS1 hl

theorem x_callSfv (X : xR l G E own nm cc nL R Z K) (hM : xM l G E' y cc' n' ret' fr' lo' mc' ms' (As) wc (some v) (fun w2 => w2 = w1)) (hE1 : xEok E') (hE2 : ∀ A U, E A U → E' A U) (is : List Nat) (hC : is.map (fun i => ws[i]?) = wc.map some) (hnd : va_nd is = true) (hst : st = As.reverse ++ rest) (hco : Cond.code y cc' n' ret' ∈ wU) (hini : Cond.initialized y.cls ∈ wU) (hd : xCd y As.length) (hlk : Cond.methodLink own idx y ∈ wU) (hst0 : Cond.static y ∈ wU) (hroom : fr' + 1 ≤ R.frames ∧ 8 + (n' + 11) + lo' ≤ R.locals ∧ k + mc' ≤ R.cells ∧ z + ms' ≤ R.slots) (hrest : (rest.map fun v => v.category).sum ≤ 8) (hdg : decode cc pc = .ok (.invokestatic idx, 3)) (hlen : is.length = w1.length) (hadr : w1.map Prod.fst = wc.map Prod.fst) (hws : x_put_ws ws is w1 = ws') (kk : K ws' (k + mc') (z + ms') (pc + 3) lv (v :: rest)) : K ws k z pc lv st :=
  x_callS X hM hE1 hE2 is hC hnd hst hco hini hd hlk hst0 hroom hrest hdg (fun w2 h => by subst h; exact ⟨hlen, hadr⟩) (fun w2 h => by subst h; rw [hws]; exact kk)

theorem x_callSrv (X : xR l G E own nm cc nL R Z K) (hM : xM l G E' y cc' n' ret' fr' lo' mc' ms' (As) wc (some v) (fun w2 => w2 = wc)) (hE1 : xEok E') (hE2 : ∀ A U, E A U → E' A U) (is : List Nat) (hC : is.map (fun i => ws[i]?) = wc.map some) (hnd : va_nd is = true) (hst : st = As.reverse ++ rest) (hco : Cond.code y cc' n' ret' ∈ wU) (hini : Cond.initialized y.cls ∈ wU) (hd : xCd y As.length) (hlk : Cond.methodLink own idx y ∈ wU) (hst0 : Cond.static y ∈ wU) (hroom : fr' + 1 ≤ R.frames ∧ 8 + (n' + 11) + lo' ≤ R.locals ∧ k + mc' ≤ R.cells ∧ z + ms' ≤ R.slots) (hrest : (rest.map fun v => v.category).sum ≤ 8) (hdg : decode cc pc = .ok (.invokestatic idx, 3)) (kk : K ws (k + mc') (z + ms') (pc + 3) lv (v :: rest)) : K ws k z pc lv st :=
  x_callS X hM hE1 hE2 is hC hnd hst hco hini hd hlk hst0 hroom hrest hdg (fun w2 h => by subst h; exact ⟨by simpa using congrArg List.length hC, rfl⟩) (fun w2 h => by subst h; rw [x_put_self is ws w2 hC]; exact kk)

theorem x_callSf0 (X : xR l G E own nm cc nL R Z K) (hM : xM l G E' y cc' n' ret' fr' lo' mc' ms' (As) wc (none) (fun w2 => w2 = w1)) (hE1 : xEok E') (hE2 : ∀ A U, E A U → E' A U) (is : List Nat) (hC : is.map (fun i => ws[i]?) = wc.map some) (hnd : va_nd is = true) (hst : st = As.reverse ++ rest) (hco : Cond.code y cc' n' ret' ∈ wU) (hini : Cond.initialized y.cls ∈ wU) (hd : xCd y As.length) (hlk : Cond.methodLink own idx y ∈ wU) (hst0 : Cond.static y ∈ wU) (hroom : fr' + 1 ≤ R.frames ∧ 8 + (n' + 11) + lo' ≤ R.locals ∧ k + mc' ≤ R.cells ∧ z + ms' ≤ R.slots) (hrest : (rest.map fun v => v.category).sum ≤ 8) (hdg : decode cc pc = .ok (.invokestatic idx, 3)) (hlen : is.length = w1.length) (hadr : w1.map Prod.fst = wc.map Prod.fst) (hws : x_put_ws ws is w1 = ws') (kk : K ws' (k + mc') (z + ms') (pc + 3) lv (rest)) : K ws k z pc lv st :=
  x_callS X hM hE1 hE2 is hC hnd hst hco hini hd hlk hst0 hroom hrest hdg (fun w2 h => by subst h; exact ⟨hlen, hadr⟩) (fun w2 h => by subst h; rw [hws]; exact kk)

theorem x_callSr0 (X : xR l G E own nm cc nL R Z K) (hM : xM l G E' y cc' n' ret' fr' lo' mc' ms' (As) wc (none) (fun w2 => w2 = wc)) (hE1 : xEok E') (hE2 : ∀ A U, E A U → E' A U) (is : List Nat) (hC : is.map (fun i => ws[i]?) = wc.map some) (hnd : va_nd is = true) (hst : st = As.reverse ++ rest) (hco : Cond.code y cc' n' ret' ∈ wU) (hini : Cond.initialized y.cls ∈ wU) (hd : xCd y As.length) (hlk : Cond.methodLink own idx y ∈ wU) (hst0 : Cond.static y ∈ wU) (hroom : fr' + 1 ≤ R.frames ∧ 8 + (n' + 11) + lo' ≤ R.locals ∧ k + mc' ≤ R.cells ∧ z + ms' ≤ R.slots) (hrest : (rest.map fun v => v.category).sum ≤ 8) (hdg : decode cc pc = .ok (.invokestatic idx, 3)) (kk : K ws (k + mc') (z + ms') (pc + 3) lv (rest)) : K ws k z pc lv st :=
  x_callS X hM hE1 hE2 is hC hnd hst hco hini hd hlk hst0 hroom hrest hdg (fun w2 h => by subst h; exact ⟨by simpa using congrArg List.length hC, rfl⟩) (fun w2 h => by subst h; rw [x_put_self is ws w2 hC]; exact kk)

set_option maxHeartbeats 1000000 in
theorem x_callN (X : xR l G E own nm cc nL R Z K) (hM : xM l G E' y cc' n' ret' fr' lo' mc' ms' (As) wc r' Fin') (hE1 : xEok E') (hE2 : ∀ A U, E A U → E' A U) (is : List Nat) (hC : is.map (fun i => ws[i]?) = wc.map some) (hnd : va_nd is = true) (hst : st = As.reverse ++ rest) (hco : Cond.code y cc' n' ret' ∈ wU) (hini : Cond.initialized y.cls ∈ wU) (hd : xCd y As.length) {host : String} (hlk : (own, idx, y, host) ∈ xNest) (hst0 : Cond.static y ∈ wU) (hroom : fr' + 1 ≤ R.frames ∧ 8 + (n' + 11) + lo' ≤ R.locals ∧ k + mc' ≤ R.cells ∧ z + ms' ≤ R.slots) (hrest : (rest.map fun v => v.category).sum ≤ 8) (hdg : decode cc pc = .ok (.invokestatic idx, 3)) (hsk : ∀ w2, Fin' w2 → is.length = w2.length ∧ w2.map Prod.fst = wc.map Prod.fst) (kk : ∀ w2, Fin' w2 → K (x_put_ws ws is w2) (k + mc') (z + ms') (pc + 3) lv (r'.toList ++ rest)) : K ws k z pc lv st := by
  obtain ⟨p, e, s, m, args, below, meth, c, Q, A, hx, hb, hml, hown, hts, hK, hE, hA, hnm, rfl, hZ⟩ := X
  intro H locs ls hP hD hS hl
  have hPc := hP.sub (ws' := wc) is (x_fm hC)
  have hDc := hD.sub (ws' := wc) is hnd hC
  have hFc := va_free (wc := wc) hD hS hA is hC
  have hW0 : ∀ w ∈ ((.code y cc' n' ret' :: wU : List Cond)), w ∈ wU := by
    intro w hw
    rcases List.mem_cons.mp hw with rfl | hw; exact hco; exact hw
  refine x_go (va_runSN (As := As) (host := host) ⟨hx, hb, hml, hown, hts⟩ (hM H.size) ⟨va_cnB As.length hts (good_wU hW0) rfl rfl rfl (hK.2 _ hlk) (hts _ hini) hd ⟨hroom.1, hroom.2.1⟩, hts _ hst0, trivial⟩ ⟨fun a U g mk q => ⟨q.1, q.2.1, q.2.2.1, q.2.2.2.1.call, q.2.2.2.2.1, hE1.1 _ _ _ _ _ q.2.2.2.2.2⟩, fun U hU hW => ⟨rfl, by rw [hU], by rw [hU]; exact hPc, hK.warm hW, hDc.weaken (fun _ _ _ _ => trivial), hE1.2 A _ s U hW (fun q h1 h2 => by rw [hU]; exact hS.2.1 q h1 h2) (fun q h => hFc q h) (hE2 _ _ hE)⟩⟩ rfl rfl hl.1 hst (lv_room hrest) hdg ⟨hroom.2.2.1, hroom.2.2.2⟩) hS (fun q _ h => hFc q h) hFc (fun t H1 locs1 ht hB hz1 hk1 hS1 => ?_)
  obtain ⟨w2, hF, hP1, hD1⟩ := hB
  rw [ht] at hP1
  obtain ⟨hlen, hadr⟩ := hsk w2 hF
  obtain ⟨hP2, hD2⟩ := x_upd hP hD is hC hlen hadr hk1 hP1
  exact kk w2 hF H1 locs1 ls hP2 hD2 hS1 hl

theorem x_callNfv (X : xR l G E own nm cc nL R Z K) (hM : xM l G E' y cc' n' ret' fr' lo' mc' ms' (As) wc (some v) (fun w2 => w2 = w1)) (hE1 : xEok E') (hE2 : ∀ A U, E A U → E' A U) (is : List Nat) (hC : is.map (fun i => ws[i]?) = wc.map some) (hnd : va_nd is = true) (hst : st = As.reverse ++ rest) (hco : Cond.code y cc' n' ret' ∈ wU) (hini : Cond.initialized y.cls ∈ wU) (hd : xCd y As.length) {host : String} (hlk : (own, idx, y, host) ∈ xNest) (hst0 : Cond.static y ∈ wU) (hroom : fr' + 1 ≤ R.frames ∧ 8 + (n' + 11) + lo' ≤ R.locals ∧ k + mc' ≤ R.cells ∧ z + ms' ≤ R.slots) (hrest : (rest.map fun v => v.category).sum ≤ 8) (hdg : decode cc pc = .ok (.invokestatic idx, 3)) (hlen : is.length = w1.length) (hadr : w1.map Prod.fst = wc.map Prod.fst) (hws : x_put_ws ws is w1 = ws') (kk : K ws' (k + mc') (z + ms') (pc + 3) lv (v :: rest)) : K ws k z pc lv st :=
  x_callN X hM hE1 hE2 is hC hnd hst hco hini hd hlk hst0 hroom hrest hdg (fun w2 h => by subst h; exact ⟨hlen, hadr⟩) (fun w2 h => by subst h; rw [hws]; exact kk)

theorem x_callNrv (X : xR l G E own nm cc nL R Z K) (hM : xM l G E' y cc' n' ret' fr' lo' mc' ms' (As) wc (some v) (fun w2 => w2 = wc)) (hE1 : xEok E') (hE2 : ∀ A U, E A U → E' A U) (is : List Nat) (hC : is.map (fun i => ws[i]?) = wc.map some) (hnd : va_nd is = true) (hst : st = As.reverse ++ rest) (hco : Cond.code y cc' n' ret' ∈ wU) (hini : Cond.initialized y.cls ∈ wU) (hd : xCd y As.length) {host : String} (hlk : (own, idx, y, host) ∈ xNest) (hst0 : Cond.static y ∈ wU) (hroom : fr' + 1 ≤ R.frames ∧ 8 + (n' + 11) + lo' ≤ R.locals ∧ k + mc' ≤ R.cells ∧ z + ms' ≤ R.slots) (hrest : (rest.map fun v => v.category).sum ≤ 8) (hdg : decode cc pc = .ok (.invokestatic idx, 3)) (kk : K ws (k + mc') (z + ms') (pc + 3) lv (v :: rest)) : K ws k z pc lv st :=
  x_callN X hM hE1 hE2 is hC hnd hst hco hini hd hlk hst0 hroom hrest hdg (fun w2 h => by subst h; exact ⟨by simpa using congrArg List.length hC, rfl⟩) (fun w2 h => by subst h; rw [x_put_self is ws w2 hC]; exact kk)

theorem x_callNf0 (X : xR l G E own nm cc nL R Z K) (hM : xM l G E' y cc' n' ret' fr' lo' mc' ms' (As) wc (none) (fun w2 => w2 = w1)) (hE1 : xEok E') (hE2 : ∀ A U, E A U → E' A U) (is : List Nat) (hC : is.map (fun i => ws[i]?) = wc.map some) (hnd : va_nd is = true) (hst : st = As.reverse ++ rest) (hco : Cond.code y cc' n' ret' ∈ wU) (hini : Cond.initialized y.cls ∈ wU) (hd : xCd y As.length) {host : String} (hlk : (own, idx, y, host) ∈ xNest) (hst0 : Cond.static y ∈ wU) (hroom : fr' + 1 ≤ R.frames ∧ 8 + (n' + 11) + lo' ≤ R.locals ∧ k + mc' ≤ R.cells ∧ z + ms' ≤ R.slots) (hrest : (rest.map fun v => v.category).sum ≤ 8) (hdg : decode cc pc = .ok (.invokestatic idx, 3)) (hlen : is.length = w1.length) (hadr : w1.map Prod.fst = wc.map Prod.fst) (hws : x_put_ws ws is w1 = ws') (kk : K ws' (k + mc') (z + ms') (pc + 3) lv (rest)) : K ws k z pc lv st :=
  x_callN X hM hE1 hE2 is hC hnd hst hco hini hd hlk hst0 hroom hrest hdg (fun w2 h => by subst h; exact ⟨hlen, hadr⟩) (fun w2 h => by subst h; rw [hws]; exact kk)

theorem x_callNr0 (X : xR l G E own nm cc nL R Z K) (hM : xM l G E' y cc' n' ret' fr' lo' mc' ms' (As) wc (none) (fun w2 => w2 = wc)) (hE1 : xEok E') (hE2 : ∀ A U, E A U → E' A U) (is : List Nat) (hC : is.map (fun i => ws[i]?) = wc.map some) (hnd : va_nd is = true) (hst : st = As.reverse ++ rest) (hco : Cond.code y cc' n' ret' ∈ wU) (hini : Cond.initialized y.cls ∈ wU) (hd : xCd y As.length) {host : String} (hlk : (own, idx, y, host) ∈ xNest) (hst0 : Cond.static y ∈ wU) (hroom : fr' + 1 ≤ R.frames ∧ 8 + (n' + 11) + lo' ≤ R.locals ∧ k + mc' ≤ R.cells ∧ z + ms' ≤ R.slots) (hrest : (rest.map fun v => v.category).sum ≤ 8) (hdg : decode cc pc = .ok (.invokestatic idx, 3)) (kk : K ws (k + mc') (z + ms') (pc + 3) lv (rest)) : K ws k z pc lv st :=
  x_callN X hM hE1 hE2 is hC hnd hst hco hini hd hlk hst0 hroom hrest hdg (fun w2 h => by subst h; exact ⟨by simpa using congrArg List.length hC, rfl⟩) (fun w2 h => by subst h; rw [x_put_self is ws w2 hC]; exact kk)

set_option maxHeartbeats 1000000 in
theorem x_callI {b : Nat} (X : xR l G E own nm cc nL R Z K) (hM : xM l G E' y cc' n' none fr' lo' mc' ms' (.ref b :: As) wc r' Fin') (hE1 : xEok E') (hE2 : ∀ A U, E A U → E' A U) (is : List Nat) (hC : is.map (fun i => ws[i]?) = wc.map some) (hnd : va_nd is = true) (hst : st = As.reverse ++ .ref b :: rest) (hco : Cond.code y cc' n' none ∈ wU) (hini : Cond.initialized y.cls ∈ wU) (hd : xCd y As.length) (hlk : Cond.methodLink own idx y ∈ wU) (hin : Cond.instanceMethod y ∈ wU) (hy1 : y.name = "<init>") (hroom : fr' + 1 ≤ R.frames ∧ 8 + (n' + 11) + lo' ≤ R.locals ∧ k + mc' ≤ R.cells ∧ z + ms' ≤ R.slots) (hrest : (rest.map fun v => v.category).sum ≤ 8) (hdg : decode cc pc = .ok (.invokespecial idx, 3)) (hsk : ∀ w2, Fin' w2 → is.length = w2.length ∧ w2.map Prod.fst = wc.map Prod.fst) (kk : ∀ w2, Fin' w2 → K (x_put_ws ws is w2) (k + mc') (z + ms') (pc + 3) lv (r'.toList ++ rest)) : K ws k z pc lv st := by
  obtain ⟨p, e, s, m, args, below, meth, c, Q, A, hx, hb, hml, hown, hts, hK, hE, hA, hnm, rfl, hZ⟩ := X
  intro H locs ls hP hD hS hl
  have hPc := hP.sub (ws' := wc) is (x_fm hC)
  have hDc := hD.sub (ws' := wc) is hnd hC
  have hFc := va_free (wc := wc) hD hS hA is hC
  have hW0 : ∀ w ∈ ((.code y cc' n' none :: wU : List Cond)), w ∈ wU := by
    intro w hw
    rcases List.mem_cons.mp hw with rfl | hw; exact hco; exact hw
  refine x_go (va_runI (As := As) ⟨hx, hb, hml, hown, hts⟩ (hM H.size) (cwI As.length hts (good_wU hW0) rfl rfl rfl (hts _ hini) (hts _ hlk) (hts _ hin) hy1 hd ⟨hroom.1, hroom.2.1⟩) ⟨fun a U g mk q => ⟨q.1, q.2.1, q.2.2.1, q.2.2.2.1.call, q.2.2.2.2.1, hE1.1 _ _ _ _ _ q.2.2.2.2.2⟩, fun U hU hW => ⟨rfl, by rw [hU], by rw [hU]; exact hPc, hK.warm hW, hDc.weaken (fun _ _ _ _ => trivial), hE1.2 A _ s U hW (fun q h1 h2 => by rw [hU]; exact hS.2.1 q h1 h2) (fun q h => hFc q h) (hE2 _ _ hE)⟩⟩ rfl rfl hl.1 hst (lv_room hrest) hdg ⟨hroom.2.2.1, hroom.2.2.2⟩) hS (fun q _ h => hFc q h) hFc (fun t H1 locs1 ht hB hz1 hk1 hS1 => ?_)
  obtain ⟨w2, hF, hP1, hD1⟩ := hB
  rw [ht] at hP1
  obtain ⟨hlen, hadr⟩ := hsk w2 hF
  obtain ⟨hP2, hD2⟩ := x_upd hP hD is hC hlen hadr hk1 hP1
  exact kk w2 hF H1 locs1 ls hP2 hD2 hS1 hl

theorem x_callIf0 {b : Nat} (X : xR l G E own nm cc nL R Z K) (hM : xM l G E' y cc' n' none fr' lo' mc' ms' (.ref b :: As) wc (none) (fun w2 => w2 = w1)) (hE1 : xEok E') (hE2 : ∀ A U, E A U → E' A U) (is : List Nat) (hC : is.map (fun i => ws[i]?) = wc.map some) (hnd : va_nd is = true) (hst : st = As.reverse ++ .ref b :: rest) (hco : Cond.code y cc' n' none ∈ wU) (hini : Cond.initialized y.cls ∈ wU) (hd : xCd y As.length) (hlk : Cond.methodLink own idx y ∈ wU) (hin : Cond.instanceMethod y ∈ wU) (hy1 : y.name = "<init>") (hroom : fr' + 1 ≤ R.frames ∧ 8 + (n' + 11) + lo' ≤ R.locals ∧ k + mc' ≤ R.cells ∧ z + ms' ≤ R.slots) (hrest : (rest.map fun v => v.category).sum ≤ 8) (hdg : decode cc pc = .ok (.invokespecial idx, 3)) (hlen : is.length = w1.length) (hadr : w1.map Prod.fst = wc.map Prod.fst) (hws : x_put_ws ws is w1 = ws') (kk : K ws' (k + mc') (z + ms') (pc + 3) lv (rest)) : K ws k z pc lv st :=
  x_callI X hM hE1 hE2 is hC hnd hst hco hini hd hlk hin hy1 hroom hrest hdg (fun w2 h => by subst h; exact ⟨hlen, hadr⟩) (fun w2 h => by subst h; rw [hws]; exact kk)

theorem x_callIr0 {b : Nat} (X : xR l G E own nm cc nL R Z K) (hM : xM l G E' y cc' n' none fr' lo' mc' ms' (.ref b :: As) wc (none) (fun w2 => w2 = wc)) (hE1 : xEok E') (hE2 : ∀ A U, E A U → E' A U) (is : List Nat) (hC : is.map (fun i => ws[i]?) = wc.map some) (hnd : va_nd is = true) (hst : st = As.reverse ++ .ref b :: rest) (hco : Cond.code y cc' n' none ∈ wU) (hini : Cond.initialized y.cls ∈ wU) (hd : xCd y As.length) (hlk : Cond.methodLink own idx y ∈ wU) (hin : Cond.instanceMethod y ∈ wU) (hy1 : y.name = "<init>") (hroom : fr' + 1 ≤ R.frames ∧ 8 + (n' + 11) + lo' ≤ R.locals ∧ k + mc' ≤ R.cells ∧ z + ms' ≤ R.slots) (hrest : (rest.map fun v => v.category).sum ≤ 8) (hdg : decode cc pc = .ok (.invokespecial idx, 3)) (kk : K ws (k + mc') (z + ms') (pc + 3) lv (rest)) : K ws k z pc lv st :=
  x_callI X hM hE1 hE2 is hC hnd hst hco hini hd hlk hin hy1 hroom hrest hdg (fun w2 h => by subst h; exact ⟨by simpa using congrArg List.length hC, rfl⟩) (fun w2 h => by subst h; rw [x_put_self is ws w2 hC]; exact kk)

set_option maxHeartbeats 1000000 in
theorem x_callIa {b : Nat} (X : xR l G E own nm cc nL R Z K) (hM : xM l G E' y cc' n' none fr' lo' mc' ms' (.ref b :: As) wc r' Fin') (hE1 : xEok E') (hE2 : ∀ A U, E A U → E' A U) (is : List Nat) (hC : is.map (fun i => ws[i]?) = wc.map some) (hnd : va_nd is = true) (hst : st = As.reverse ++ .ref b :: rest) (hco : Cond.code y cc' n' none ∈ wU) (hini : Cond.initialized y.cls ∈ wU) (hd : xCd y As.length) (hlk : Cond.methodLink own idx y ∈ wU) (hin : Cond.instanceMethod y ∈ wU) (hy1 : y.name = "<init>") (hroom : fr' + 1 ≤ R.frames ∧ 8 + (n' + 11) + lo' ≤ R.locals ∧ k + mc' ≤ R.cells ∧ z + ms' ≤ R.slots) (hrest : (rest.map fun v => v.category).sum ≤ 8) (hdg : decode cc pc = .ok (.invokespecial idx, 3)) {wr : va_W} (isR : List Nat) (hR : isR.map (fun i => ws[i]?) = wr.map some) (hnR : va_nd isR = true) (hdis : ∀ i ∈ isR, i ∉ is) (kk : ∀ w2, Fin' w2 → K (wr ++ w2) (k + mc') (z + ms') (pc + 3) lv (r'.toList ++ rest)) : K ws k z pc lv st := by
  obtain ⟨p, e, s, m, args, below, meth, c, Q, A, hx, hb, hml, hown, hts, hK, hE, hA, hnm, rfl, hZ⟩ := X
  intro H locs ls hP hD hS hl
  have hPc := hP.sub (ws' := wc) is (x_fm hC)
  have hDc := hD.sub (ws' := wc) is hnd hC
  have hFc := va_free (wc := wc) hD hS hA is hC
  have hW0 : ∀ w ∈ ((.code y cc' n' none :: wU : List Cond)), w ∈ wU := by
    intro w hw
    rcases List.mem_cons.mp hw with rfl | hw; exact hco; exact hw
  refine x_go (va_runI (As := As) ⟨hx, hb, hml, hown, hts⟩ (hM H.size) (cwI As.length hts (good_wU hW0) rfl rfl rfl (hts _ hini) (hts _ hlk) (hts _ hin) hy1 hd ⟨hroom.1, hroom.2.1⟩) ⟨fun a U g mk q => ⟨q.1, q.2.1, q.2.2.1, q.2.2.2.1.call, q.2.2.2.2.1, hE1.1 _ _ _ _ _ q.2.2.2.2.2⟩, fun U hU hW => ⟨rfl, by rw [hU], by rw [hU]; exact hPc, hK.warm hW, hDc.weaken (fun _ _ _ _ => trivial), hE1.2 A _ s U hW (fun q h1 h2 => by rw [hU]; exact hS.2.1 q h1 h2) (fun q h => hFc q h) (hE2 _ _ hE)⟩⟩ rfl rfl hl.1 hst (lv_room hrest) hdg ⟨hroom.2.2.1, hroom.2.2.2⟩) hS (fun q _ h => hFc q h) hFc (fun t H1 locs1 ht hB hz1 hk1 hS1 => ?_)
  obtain ⟨w2, hF, hP1, hD1⟩ := hB
  rw [ht] at hP1
  obtain ⟨hP2, hD2⟩ := va_join hP hD is isR hC hR hnR hdis hk1 hFc hP1 hD1
  exact kk w2 hF H1 locs1 ls hP2 hD2 hS1 hl

end XD
end
section
/-! ===== decode rows ===== -/
theorem dX0_init_0 : decode cX0_init 0 = .ok (.aload_n 0, 1) := by decide +kernel
theorem dX0_init_1 : decode cX0_init 1 = .ok (.invokespecial 3, 3) := by decide +kernel
theorem dX0_init_4 : decode cX0_init 4 = .ok (.aload_n 0, 1) := by decide +kernel
theorem dX0_init_5 : decode cX0_init 5 = .ok (.bipush 6, 2) := by decide +kernel
theorem dX0_init_7 : decode cX0_init 7 = .ok (.newarray .int, 2) := by decide +kernel
theorem dX0_init_9 : decode cX0_init 9 = .ok (.putfield 9, 3) := by decide +kernel
theorem dX0_init_12 : decode cX0_init 12 = .ok (.aload_n 0, 1) := by decide +kernel
theorem dX0_init_13 : decode cX0_init 13 = .ok (.bipush 6, 2) := by decide +kernel
theorem dX0_init_15 : decode cX0_init 15 = .ok (.newarray .int, 2) := by decide +kernel
theorem dX0_init_17 : decode cX0_init 17 = .ok (.putfield 15, 3) := by decide +kernel
theorem dX0_init_20 : decode cX0_init 20 = .ok (.aload_n 0, 1) := by decide +kernel
theorem dX0_init_21 : decode cX0_init 21 = .ok (.bipush 30, 2) := by decide +kernel
theorem dX0_init_23 : decode cX0_init 23 = .ok (.newarray .int, 2) := by decide +kernel
theorem dX0_init_25 : decode cX0_init 25 = .ok (.putfield 18, 3) := by decide +kernel
theorem dX0_init_28 : decode cX0_init 28 = .ok (.aload_n 0, 1) := by decide +kernel
theorem dX0_init_29 : decode cX0_init 29 = .ok (.bipush 25, 2) := by decide +kernel
theorem dX0_init_31 : decode cX0_init 31 = .ok (.newarray .int, 2) := by decide +kernel
theorem dX0_init_33 : decode cX0_init 33 = .ok (.putfield 21, 3) := by decide +kernel
theorem dX0_init_36 : decode cX0_init 36 = .ok (.return_, 1) := by decide +kernel
theorem dX0_becomeBlank_0 : decode cX0_becomeBlank 0 = .ok (.aload_n 0, 1) := by decide +kernel
theorem dX0_becomeBlank_1 : decode cX0_becomeBlank 1 = .ok (.iconst 0, 1) := by decide +kernel
theorem dX0_becomeBlank_2 : decode cX0_becomeBlank 2 = .ok (.putfield 24, 3) := by decide +kernel
theorem dX0_becomeBlank_5 : decode cX0_becomeBlank 5 = .ok (.aload_n 0, 1) := by decide +kernel
theorem dX0_becomeBlank_6 : decode cX0_becomeBlank 6 = .ok (.iconst 3, 1) := by decide +kernel
theorem dX0_becomeBlank_7 : decode cX0_becomeBlank 7 = .ok (.putfield 28, 3) := by decide +kernel
theorem dX0_becomeBlank_10 : decode cX0_becomeBlank 10 = .ok (.aload_n 0, 1) := by decide +kernel
theorem dX0_becomeBlank_11 : decode cX0_becomeBlank 11 = .ok (.getfield 9, 3) := by decide +kernel
theorem dX0_becomeBlank_14 : decode cX0_becomeBlank 14 = .ok (.iconst 0, 1) := by decide +kernel
theorem dX0_becomeBlank_15 : decode cX0_becomeBlank 15 = .ok (.invokestatic 31, 3) := by decide +kernel
theorem dX0_becomeBlank_18 : decode cX0_becomeBlank 18 = .ok (.aload_n 0, 1) := by decide +kernel
theorem dX0_becomeBlank_19 : decode cX0_becomeBlank 19 = .ok (.getfield 15, 3) := by decide +kernel
theorem dX0_becomeBlank_22 : decode cX0_becomeBlank 22 = .ok (.iconst 0, 1) := by decide +kernel
theorem dX0_becomeBlank_23 : decode cX0_becomeBlank 23 = .ok (.invokestatic 31, 3) := by decide +kernel
theorem dX0_becomeBlank_26 : decode cX0_becomeBlank 26 = .ok (.aload_n 0, 1) := by decide +kernel
theorem dX0_becomeBlank_27 : decode cX0_becomeBlank 27 = .ok (.getfield 18, 3) := by decide +kernel
theorem dX0_becomeBlank_30 : decode cX0_becomeBlank 30 = .ok (.iconst 0, 1) := by decide +kernel
theorem dX0_becomeBlank_31 : decode cX0_becomeBlank 31 = .ok (.invokestatic 31, 3) := by decide +kernel
theorem dX0_becomeBlank_34 : decode cX0_becomeBlank 34 = .ok (.aload_n 0, 1) := by decide +kernel
theorem dX0_becomeBlank_35 : decode cX0_becomeBlank 35 = .ok (.getfield 21, 3) := by decide +kernel
theorem dX0_becomeBlank_38 : decode cX0_becomeBlank 38 = .ok (.bipush 100, 2) := by decide +kernel
theorem dX0_becomeBlank_40 : decode cX0_becomeBlank 40 = .ok (.invokestatic 31, 3) := by decide +kernel
theorem dX0_becomeBlank_43 : decode cX0_becomeBlank 43 = .ok (.return_, 1) := by decide +kernel
theorem dX0_becomeLike_0 : decode cX0_becomeLike 0 = .ok (.aload_n 0, 1) := by decide +kernel
theorem dX0_becomeLike_1 : decode cX0_becomeLike 1 = .ok (.aload_n 1, 1) := by decide +kernel
theorem dX0_becomeLike_2 : decode cX0_becomeLike 2 = .ok (.getfield 24, 3) := by decide +kernel
theorem dX0_becomeLike_5 : decode cX0_becomeLike 5 = .ok (.putfield 24, 3) := by decide +kernel
theorem dX0_becomeLike_8 : decode cX0_becomeLike 8 = .ok (.aload_n 0, 1) := by decide +kernel
theorem dX0_becomeLike_9 : decode cX0_becomeLike 9 = .ok (.aload_n 1, 1) := by decide +kernel
theorem dX0_becomeLike_10 : decode cX0_becomeLike 10 = .ok (.getfield 28, 3) := by decide +kernel
theorem dX0_becomeLike_13 : decode cX0_becomeLike 13 = .ok (.putfield 28, 3) := by decide +kernel
theorem dX0_becomeLike_16 : decode cX0_becomeLike 16 = .ok (.aload_n 1, 1) := by decide +kernel
theorem dX0_becomeLike_17 : decode cX0_becomeLike 17 = .ok (.getfield 9, 3) := by decide +kernel
theorem dX0_becomeLike_20 : decode cX0_becomeLike 20 = .ok (.aload_n 0, 1) := by decide +kernel
theorem dX0_becomeLike_21 : decode cX0_becomeLike 21 = .ok (.getfield 9, 3) := by decide +kernel
theorem dX0_becomeLike_24 : decode cX0_becomeLike 24 = .ok (.invokestatic 37, 3) := by decide +kernel
theorem dX0_becomeLike_27 : decode cX0_becomeLike 27 = .ok (.aload_n 1, 1) := by decide +kernel
theorem dX0_becomeLike_28 : decode cX0_becomeLike 28 = .ok (.getfield 15, 3) := by decide +kernel
theorem dX0_becomeLike_31 : decode cX0_becomeLike 31 = .ok (.aload_n 0, 1) := by decide +kernel
theorem dX0_becomeLike_32 : decode cX0_becomeLike 32 = .ok (.getfield 15, 3) := by decide +kernel
theorem dX0_becomeLike_35 : decode cX0_becomeLike 35 = .ok (.invokestatic 37, 3) := by decide +kernel
theorem dX0_becomeLike_38 : decode cX0_becomeLike 38 = .ok (.aload_n 1, 1) := by decide +kernel
theorem dX0_becomeLike_39 : decode cX0_becomeLike 39 = .ok (.getfield 18, 3) := by decide +kernel
theorem dX0_becomeLike_42 : decode cX0_becomeLike 42 = .ok (.aload_n 0, 1) := by decide +kernel
theorem dX0_becomeLike_43 : decode cX0_becomeLike 43 = .ok (.getfield 18, 3) := by decide +kernel
theorem dX0_becomeLike_46 : decode cX0_becomeLike 46 = .ok (.invokestatic 37, 3) := by decide +kernel
theorem dX0_becomeLike_49 : decode cX0_becomeLike 49 = .ok (.aload_n 1, 1) := by decide +kernel
theorem dX0_becomeLike_50 : decode cX0_becomeLike 50 = .ok (.getfield 21, 3) := by decide +kernel
theorem dX0_becomeLike_53 : decode cX0_becomeLike 53 = .ok (.aload_n 0, 1) := by decide +kernel
theorem dX0_becomeLike_54 : decode cX0_becomeLike 54 = .ok (.getfield 21, 3) := by decide +kernel
theorem dX0_becomeLike_57 : decode cX0_becomeLike 57 = .ok (.invokestatic 37, 3) := by decide +kernel
theorem dX0_becomeLike_60 : decode cX0_becomeLike 60 = .ok (.return_, 1) := by decide +kernel
theorem dX0_takeRow_0 : decode cX0_takeRow 0 = .ok (.aload_n 0, 1) := by decide +kernel
theorem dX0_takeRow_1 : decode cX0_takeRow 1 = .ok (.iconst 0, 1) := by decide +kernel
theorem dX0_takeRow_2 : decode cX0_takeRow 2 = .ok (.aload_n 1, 1) := by decide +kernel
theorem dX0_takeRow_3 : decode cX0_takeRow 3 = .ok (.iconst 0, 1) := by decide +kernel
theorem dX0_takeRow_4 : decode cX0_takeRow 4 = .ok (.aload_n 0, 1) := by decide +kernel
theorem dX0_takeRow_5 : decode cX0_takeRow 5 = .ok (.arraylength, 1) := by decide +kernel
theorem dX0_takeRow_6 : decode cX0_takeRow 6 = .ok (.aload_n 1, 1) := by decide +kernel
theorem dX0_takeRow_7 : decode cX0_takeRow 7 = .ok (.arraylength, 1) := by decide +kernel
theorem dX0_takeRow_8 : decode cX0_takeRow 8 = .ok (.invokestatic 41, 3) := by decide +kernel
theorem dX0_takeRow_11 : decode cX0_takeRow 11 = .ok (.invokestatic 47, 3) := by decide +kernel
theorem dX0_takeRow_14 : decode cX0_takeRow 14 = .ok (.return_, 1) := by decide +kernel
theorem dX0_persons_0 : decode cX0_persons 0 = .ok (.aload_n 0, 1) := by decide +kernel
theorem dX0_persons_1 : decode cX0_persons 1 = .ok (.getfield 24, 3) := by decide +kernel
theorem dX0_persons_4 : decode cX0_persons 4 = .ok (.ireturn, 1) := by decide +kernel
theorem dX0_papers_0 : decode cX0_papers 0 = .ok (.aload_n 0, 1) := by decide +kernel
theorem dX0_papers_1 : decode cX0_papers 1 = .ok (.getfield 28, 3) := by decide +kernel
theorem dX0_papers_4 : decode cX0_papers 4 = .ok (.ireturn, 1) := by decide +kernel
theorem dX0_hasPerson_0 : decode cX0_hasPerson 0 = .ok (.iload_n 1, 1) := by decide +kernel
theorem dX0_hasPerson_1 : decode cX0_hasPerson 1 = .ok (.ifCond .lt 15, 3) := by decide +kernel
theorem dX0_hasPerson_4 : decode cX0_hasPerson 4 = .ok (.iload_n 1, 1) := by decide +kernel
theorem dX0_hasPerson_5 : decode cX0_hasPerson 5 = .ok (.aload_n 0, 1) := by decide +kernel
theorem dX0_hasPerson_6 : decode cX0_hasPerson 6 = .ok (.getfield 24, 3) := by decide +kernel
theorem dX0_hasPerson_9 : decode cX0_hasPerson 9 = .ok (.if_icmp .ge 7, 3) := by decide +kernel
theorem dX0_hasPerson_12 : decode cX0_hasPerson 12 = .ok (.iconst 1, 1) := by decide +kernel
theorem dX0_hasPerson_13 : decode cX0_hasPerson 13 = .ok (.goto 4, 3) := by decide +kernel
theorem dX0_hasPerson_16 : decode cX0_hasPerson 16 = .ok (.iconst 0, 1) := by decide +kernel
theorem dX0_hasPerson_17 : decode cX0_hasPerson 17 = .ok (.ireturn, 1) := by decide +kernel
theorem dX0_hasPaper_0 : decode cX0_hasPaper 0 = .ok (.iload_n 1, 1) := by decide +kernel
theorem dX0_hasPaper_1 : decode cX0_hasPaper 1 = .ok (.ifCond .lt 15, 3) := by decide +kernel
theorem dX0_hasPaper_4 : decode cX0_hasPaper 4 = .ok (.iload_n 1, 1) := by decide +kernel
theorem dX0_hasPaper_5 : decode cX0_hasPaper 5 = .ok (.aload_n 0, 1) := by decide +kernel
theorem dX0_hasPaper_6 : decode cX0_hasPaper 6 = .ok (.getfield 28, 3) := by decide +kernel
theorem dX0_hasPaper_9 : decode cX0_hasPaper 9 = .ok (.if_icmp .ge 7, 3) := by decide +kernel
theorem dX0_hasPaper_12 : decode cX0_hasPaper 12 = .ok (.iconst 1, 1) := by decide +kernel
theorem dX0_hasPaper_13 : decode cX0_hasPaper 13 = .ok (.goto 4, 3) := by decide +kernel
theorem dX0_hasPaper_16 : decode cX0_hasPaper 16 = .ok (.iconst 0, 1) := by decide +kernel
theorem dX0_hasPaper_17 : decode cX0_hasPaper 17 = .ok (.ireturn, 1) := by decide +kernel
theorem dX0_tellPerson_0 : decode cX0_tellPerson 0 = .ok (.aload_n 0, 1) := by decide +kernel
theorem dX0_tellPerson_1 : decode cX0_tellPerson 1 = .ok (.getfield 24, 3) := by decide +kernel
theorem dX0_tellPerson_4 : decode cX0_tellPerson 4 = .ok (.bipush 6, 2) := by decide +kernel
theorem dX0_tellPerson_6 : decode cX0_tellPerson 6 = .ok (.if_icmp .ge 19, 3) := by decide +kernel
theorem dX0_tellPerson_9 : decode cX0_tellPerson 9 = .ok (.iload_n 1, 1) := by decide +kernel
theorem dX0_tellPerson_10 : decode cX0_tellPerson 10 = .ok (.iconst 4, 1) := by decide +kernel
theorem dX0_tellPerson_11 : decode cX0_tellPerson 11 = .ok (.invokestatic 53, 3) := by decide +kernel
theorem dX0_tellPerson_14 : decode cX0_tellPerson 14 = .ok (.ifCond .eq 11, 3) := by decide +kernel
theorem dX0_tellPerson_17 : decode cX0_tellPerson 17 = .ok (.iload_n 2, 1) := by decide +kernel
theorem dX0_tellPerson_18 : decode cX0_tellPerson 18 = .ok (.iconst 5, 1) := by decide +kernel
theorem dX0_tellPerson_19 : decode cX0_tellPerson 19 = .ok (.invokestatic 53, 3) := by decide +kernel
theorem dX0_tellPerson_22 : decode cX0_tellPerson 22 = .ok (.ifCond .ne 5, 3) := by decide +kernel
theorem dX0_tellPerson_25 : decode cX0_tellPerson 25 = .ok (.iconst 0, 1) := by decide +kernel
theorem dX0_tellPerson_26 : decode cX0_tellPerson 26 = .ok (.ireturn, 1) := by decide +kernel
theorem dX0_tellPerson_27 : decode cX0_tellPerson 27 = .ok (.aload_n 0, 1) := by decide +kernel
theorem dX0_tellPerson_28 : decode cX0_tellPerson 28 = .ok (.getfield 9, 3) := by decide +kernel
theorem dX0_tellPerson_31 : decode cX0_tellPerson 31 = .ok (.aload_n 0, 1) := by decide +kernel
theorem dX0_tellPerson_32 : decode cX0_tellPerson 32 = .ok (.getfield 24, 3) := by decide +kernel
theorem dX0_tellPerson_35 : decode cX0_tellPerson 35 = .ok (.iload_n 1, 1) := by decide +kernel
theorem dX0_tellPerson_36 : decode cX0_tellPerson 36 = .ok (.invokestatic 57, 3) := by decide +kernel
theorem dX0_tellPerson_39 : decode cX0_tellPerson 39 = .ok (.aload_n 0, 1) := by decide +kernel
theorem dX0_tellPerson_40 : decode cX0_tellPerson 40 = .ok (.getfield 15, 3) := by decide +kernel
theorem dX0_tellPerson_43 : decode cX0_tellPerson 43 = .ok (.aload_n 0, 1) := by decide +kernel
theorem dX0_tellPerson_44 : decode cX0_tellPerson 44 = .ok (.getfield 24, 3) := by decide +kernel
theorem dX0_tellPerson_47 : decode cX0_tellPerson 47 = .ok (.iload_n 2, 1) := by decide +kernel
theorem dX0_tellPerson_48 : decode cX0_tellPerson 48 = .ok (.invokestatic 57, 3) := by decide +kernel
theorem dX0_tellPerson_51 : decode cX0_tellPerson 51 = .ok (.aload_n 0, 1) := by decide +kernel
theorem dX0_tellPerson_52 : decode cX0_tellPerson 52 = .ok (.dup, 1) := by decide +kernel
theorem dX0_tellPerson_53 : decode cX0_tellPerson 53 = .ok (.getfield 24, 3) := by decide +kernel
theorem dX0_tellPerson_56 : decode cX0_tellPerson 56 = .ok (.iconst 1, 1) := by decide +kernel
theorem dX0_tellPerson_57 : decode cX0_tellPerson 57 = .ok (.iadd, 1) := by decide +kernel
theorem dX0_tellPerson_58 : decode cX0_tellPerson 58 = .ok (.putfield 24, 3) := by decide +kernel
theorem dX0_tellPerson_61 : decode cX0_tellPerson 61 = .ok (.iconst 1, 1) := by decide +kernel
theorem dX0_tellPerson_62 : decode cX0_tellPerson 62 = .ok (.ireturn, 1) := by decide +kernel
theorem dX0_tellView_0 : decode cX0_tellView 0 = .ok (.aload_n 0, 1) := by decide +kernel
theorem dX0_tellView_1 : decode cX0_tellView 1 = .ok (.iload_n 1, 1) := by decide +kernel
theorem dX0_tellView_2 : decode cX0_tellView 2 = .ok (.invokevirtual 61, 3) := by decide +kernel
theorem dX0_tellView_5 : decode cX0_tellView 5 = .ok (.ifCond .eq 19, 3) := by decide +kernel
theorem dX0_tellView_8 : decode cX0_tellView 8 = .ok (.iload_n 2, 1) := by decide +kernel
theorem dX0_tellView_9 : decode cX0_tellView 9 = .ok (.invokestatic 65, 3) := by decide +kernel
theorem dX0_tellView_12 : decode cX0_tellView 12 = .ok (.ifCond .eq 12, 3) := by decide +kernel
theorem dX0_tellView_15 : decode cX0_tellView 15 = .ok (.iload_n 3, 1) := by decide +kernel
theorem dX0_tellView_16 : decode cX0_tellView 16 = .ok (.bipush 18, 2) := by decide +kernel
theorem dX0_tellView_18 : decode cX0_tellView 18 = .ok (.invokestatic 53, 3) := by decide +kernel
theorem dX0_tellView_21 : decode cX0_tellView 21 = .ok (.ifCond .ne 5, 3) := by decide +kernel
theorem dX0_tellView_24 : decode cX0_tellView 24 = .ok (.iconst 0, 1) := by decide +kernel
theorem dX0_tellView_25 : decode cX0_tellView 25 = .ok (.ireturn, 1) := by decide +kernel
theorem dX0_tellView_26 : decode cX0_tellView 26 = .ok (.aload_n 0, 1) := by decide +kernel
theorem dX0_tellView_27 : decode cX0_tellView 27 = .ok (.iload_n 1, 1) := by decide +kernel
theorem dX0_tellView_28 : decode cX0_tellView 28 = .ok (.iload_n 2, 1) := by decide +kernel
theorem dX0_tellView_29 : decode cX0_tellView 29 = .ok (.iload_n 3, 1) := by decide +kernel
theorem dX0_tellView_30 : decode cX0_tellView 30 = .ok (.bipush 9, 2) := by decide +kernel
theorem dX0_tellView_32 : decode cX0_tellView 32 = .ok (.isub, 1) := by decide +kernel
theorem dX0_tellView_33 : decode cX0_tellView 33 = .ok (.invokevirtual 68, 3) := by decide +kernel
theorem dX0_tellView_36 : decode cX0_tellView 36 = .ok (.iconst 1, 1) := by decide +kernel
theorem dX0_tellView_37 : decode cX0_tellView 37 = .ok (.ireturn, 1) := by decide +kernel
theorem dX0_tellPapers_0 : decode cX0_tellPapers 0 = .ok (.iload_n 1, 1) := by decide +kernel
theorem dX0_tellPapers_1 : decode cX0_tellPapers 1 = .ok (.iconst 1, 1) := by decide +kernel
theorem dX0_tellPapers_2 : decode cX0_tellPapers 2 = .ok (.if_icmp .lt 8, 3) := by decide +kernel
theorem dX0_tellPapers_5 : decode cX0_tellPapers 5 = .ok (.iload_n 1, 1) := by decide +kernel
theorem dX0_tellPapers_6 : decode cX0_tellPapers 6 = .ok (.iconst 5, 1) := by decide +kernel
theorem dX0_tellPapers_7 : decode cX0_tellPapers 7 = .ok (.if_icmp .le 5, 3) := by decide +kernel
theorem dX0_tellPapers_10 : decode cX0_tellPapers 10 = .ok (.iconst 0, 1) := by decide +kernel
theorem dX0_tellPapers_11 : decode cX0_tellPapers 11 = .ok (.ireturn, 1) := by decide +kernel
theorem dX0_tellPapers_12 : decode cX0_tellPapers 12 = .ok (.aload_n 0, 1) := by decide +kernel
theorem dX0_tellPapers_13 : decode cX0_tellPapers 13 = .ok (.iload_n 1, 1) := by decide +kernel
theorem dX0_tellPapers_14 : decode cX0_tellPapers 14 = .ok (.putfield 28, 3) := by decide +kernel
theorem dX0_tellPapers_17 : decode cX0_tellPapers 17 = .ok (.iconst 1, 1) := by decide +kernel
theorem dX0_tellPapers_18 : decode cX0_tellPapers 18 = .ok (.ireturn, 1) := by decide +kernel
theorem dX0_canBeLaid_0 : decode cX0_canBeLaid 0 = .ok (.iconst 0, 1) := by decide +kernel
theorem dX0_canBeLaid_1 : decode cX0_canBeLaid 1 = .ok (.istore_n 1, 1) := by decide +kernel
theorem dX0_canBeLaid_2 : decode cX0_canBeLaid 2 = .ok (.iload_n 1, 1) := by decide +kernel
theorem dX0_canBeLaid_3 : decode cX0_canBeLaid 3 = .ok (.aload_n 0, 1) := by decide +kernel
theorem dX0_canBeLaid_4 : decode cX0_canBeLaid 4 = .ok (.getfield 24, 3) := by decide +kernel
theorem dX0_canBeLaid_7 : decode cX0_canBeLaid 7 = .ok (.if_icmp .ge 23, 3) := by decide +kernel
theorem dX0_canBeLaid_10 : decode cX0_canBeLaid 10 = .ok (.aload_n 0, 1) := by decide +kernel
theorem dX0_canBeLaid_11 : decode cX0_canBeLaid 11 = .ok (.aload_n 0, 1) := by decide +kernel
theorem dX0_canBeLaid_12 : decode cX0_canBeLaid 12 = .ok (.iload_n 1, 1) := by decide +kernel
theorem dX0_canBeLaid_13 : decode cX0_canBeLaid 13 = .ok (.invokevirtual 72, 3) := by decide +kernel
theorem dX0_canBeLaid_16 : decode cX0_canBeLaid 16 = .ok (.invokevirtual 61, 3) := by decide +kernel
theorem dX0_canBeLaid_19 : decode cX0_canBeLaid 19 = .ok (.ifCond .ne 5, 3) := by decide +kernel
theorem dX0_canBeLaid_22 : decode cX0_canBeLaid 22 = .ok (.iconst 0, 1) := by decide +kernel
theorem dX0_canBeLaid_23 : decode cX0_canBeLaid 23 = .ok (.ireturn, 1) := by decide +kernel
theorem dX0_canBeLaid_24 : decode cX0_canBeLaid 24 = .ok (.iinc 1 1, 3) := by decide +kernel
theorem dX0_canBeLaid_27 : decode cX0_canBeLaid 27 = .ok (.goto (-25), 3) := by decide +kernel
theorem dX0_canBeLaid_30 : decode cX0_canBeLaid 30 = .ok (.aload_n 0, 1) := by decide +kernel
theorem dX0_canBeLaid_31 : decode cX0_canBeLaid 31 = .ok (.getfield 24, 3) := by decide +kernel
theorem dX0_canBeLaid_34 : decode cX0_canBeLaid 34 = .ok (.ifCond .le 7, 3) := by decide +kernel
theorem dX0_canBeLaid_37 : decode cX0_canBeLaid 37 = .ok (.iconst 1, 1) := by decide +kernel
theorem dX0_canBeLaid_38 : decode cX0_canBeLaid 38 = .ok (.goto 4, 3) := by decide +kernel
theorem dX0_canBeLaid_41 : decode cX0_canBeLaid 41 = .ok (.iconst 0, 1) := by decide +kernel
theorem dX0_canBeLaid_42 : decode cX0_canBeLaid 42 = .ok (.ireturn, 1) := by decide +kernel
theorem dX0_kindOf_0 : decode cX0_kindOf 0 = .ok (.aload_n 0, 1) := by decide +kernel
theorem dX0_kindOf_1 : decode cX0_kindOf 1 = .ok (.getfield 9, 3) := by decide +kernel
theorem dX0_kindOf_4 : decode cX0_kindOf 4 = .ok (.iload_n 1, 1) := by decide +kernel
theorem dX0_kindOf_5 : decode cX0_kindOf 5 = .ok (.invokestatic 76, 3) := by decide +kernel
theorem dX0_kindOf_8 : decode cX0_kindOf 8 = .ok (.ireturn, 1) := by decide +kernel
theorem dX0_mindOf_0 : decode cX0_mindOf 0 = .ok (.aload_n 0, 1) := by decide +kernel
theorem dX0_mindOf_1 : decode cX0_mindOf 1 = .ok (.getfield 15, 3) := by decide +kernel
theorem dX0_mindOf_4 : decode cX0_mindOf 4 = .ok (.iload_n 1, 1) := by decide +kernel
theorem dX0_mindOf_5 : decode cX0_mindOf 5 = .ok (.invokestatic 76, 3) := by decide +kernel
theorem dX0_mindOf_8 : decode cX0_mindOf 8 = .ok (.ireturn, 1) := by decide +kernel
theorem dX0_putMind_0 : decode cX0_putMind 0 = .ok (.aload_n 0, 1) := by decide +kernel
theorem dX0_putMind_1 : decode cX0_putMind 1 = .ok (.getfield 15, 3) := by decide +kernel
theorem dX0_putMind_4 : decode cX0_putMind 4 = .ok (.iload_n 1, 1) := by decide +kernel
theorem dX0_putMind_5 : decode cX0_putMind 5 = .ok (.iload_n 2, 1) := by decide +kernel
theorem dX0_putMind_6 : decode cX0_putMind 6 = .ok (.invokestatic 57, 3) := by decide +kernel
theorem dX0_putMind_9 : decode cX0_putMind 9 = .ok (.return_, 1) := by decide +kernel
theorem dX0_viewOf_0 : decode cX0_viewOf 0 = .ok (.aload_n 0, 1) := by decide +kernel
theorem dX0_viewOf_1 : decode cX0_viewOf 1 = .ok (.getfield 18, 3) := by decide +kernel
theorem dX0_viewOf_4 : decode cX0_viewOf 4 = .ok (.iload_n 1, 1) := by decide +kernel
theorem dX0_viewOf_5 : decode cX0_viewOf 5 = .ok (.iconst 5, 1) := by decide +kernel
theorem dX0_viewOf_6 : decode cX0_viewOf 6 = .ok (.imul, 1) := by decide +kernel
theorem dX0_viewOf_7 : decode cX0_viewOf 7 = .ok (.iload_n 2, 1) := by decide +kernel
theorem dX0_viewOf_8 : decode cX0_viewOf 8 = .ok (.iadd, 1) := by decide +kernel
theorem dX0_viewOf_9 : decode cX0_viewOf 9 = .ok (.invokestatic 76, 3) := by decide +kernel
theorem dX0_viewOf_12 : decode cX0_viewOf 12 = .ok (.ireturn, 1) := by decide +kernel
theorem dX0_putView_0 : decode cX0_putView 0 = .ok (.aload_n 0, 1) := by decide +kernel
theorem dX0_putView_1 : decode cX0_putView 1 = .ok (.getfield 18, 3) := by decide +kernel
theorem dX0_putView_4 : decode cX0_putView 4 = .ok (.iload_n 1, 1) := by decide +kernel
theorem dX0_putView_5 : decode cX0_putView 5 = .ok (.iconst 5, 1) := by decide +kernel
theorem dX0_putView_6 : decode cX0_putView 6 = .ok (.imul, 1) := by decide +kernel
theorem dX0_putView_7 : decode cX0_putView 7 = .ok (.iload_n 2, 1) := by decide +kernel
theorem dX0_putView_8 : decode cX0_putView 8 = .ok (.iadd, 1) := by decide +kernel
theorem dX0_putView_9 : decode cX0_putView 9 = .ok (.iload_n 3, 1) := by decide +kernel
theorem dX0_putView_10 : decode cX0_putView 10 = .ok (.invokestatic 57, 3) := by decide +kernel
theorem dX0_putView_13 : decode cX0_putView 13 = .ok (.return_, 1) := by decide +kernel
theorem dX0_lineOf_0 : decode cX0_lineOf 0 = .ok (.aload_n 0, 1) := by decide +kernel
theorem dX0_lineOf_1 : decode cX0_lineOf 1 = .ok (.getfield 21, 3) := by decide +kernel
theorem dX0_lineOf_4 : decode cX0_lineOf 4 = .ok (.iload_n 1, 1) := by decide +kernel
theorem dX0_lineOf_5 : decode cX0_lineOf 5 = .ok (.iconst 5, 1) := by decide +kernel
theorem dX0_lineOf_6 : decode cX0_lineOf 6 = .ok (.imul, 1) := by decide +kernel
theorem dX0_lineOf_7 : decode cX0_lineOf 7 = .ok (.iload_n 2, 1) := by decide +kernel
theorem dX0_lineOf_8 : decode cX0_lineOf 8 = .ok (.iadd, 1) := by decide +kernel
theorem dX0_lineOf_9 : decode cX0_lineOf 9 = .ok (.invokestatic 76, 3) := by decide +kernel
theorem dX0_lineOf_12 : decode cX0_lineOf 12 = .ok (.ireturn, 1) := by decide +kernel
theorem dX0_putLine_0 : decode cX0_putLine 0 = .ok (.aload_n 0, 1) := by decide +kernel
theorem dX0_putLine_1 : decode cX0_putLine 1 = .ok (.getfield 21, 3) := by decide +kernel
theorem dX0_putLine_4 : decode cX0_putLine 4 = .ok (.iload_n 1, 1) := by decide +kernel
theorem dX0_putLine_5 : decode cX0_putLine 5 = .ok (.iconst 5, 1) := by decide +kernel
theorem dX0_putLine_6 : decode cX0_putLine 6 = .ok (.imul, 1) := by decide +kernel
theorem dX0_putLine_7 : decode cX0_putLine 7 = .ok (.iload_n 2, 1) := by decide +kernel
theorem dX0_putLine_8 : decode cX0_putLine 8 = .ok (.iadd, 1) := by decide +kernel
theorem dX0_putLine_9 : decode cX0_putLine 9 = .ok (.iload_n 3, 1) := by decide +kernel
theorem dX0_putLine_10 : decode cX0_putLine 10 = .ok (.invokestatic 57, 3) := by decide +kernel
theorem dX0_putLine_13 : decode cX0_putLine 13 = .ok (.return_, 1) := by decide +kernel
theorem dX0_written_0 : decode cX0_written 0 = .ok (.aload_n 0, 1) := by decide +kernel
theorem dX0_written_1 : decode cX0_written 1 = .ok (.iload_n 1, 1) := by decide +kernel
theorem dX0_written_2 : decode cX0_written 2 = .ok (.aload_n 0, 1) := by decide +kernel
theorem dX0_written_3 : decode cX0_written 3 = .ok (.iload_n 1, 1) := by decide +kernel
theorem dX0_written_4 : decode cX0_written 4 = .ok (.invokevirtual 72, 3) := by decide +kernel
theorem dX0_written_7 : decode cX0_written 7 = .ok (.iload_n 2, 1) := by decide +kernel
theorem dX0_written_8 : decode cX0_written 8 = .ok (.iload_n 3, 1) := by decide +kernel
theorem dX0_written_9 : decode cX0_written 9 = .ok (.invokevirtual 80, 3) := by decide +kernel
theorem dX0_written_12 : decode cX0_written 12 = .ok (.ireturn, 1) := by decide +kernel
theorem dX0_writtenFor_0 : decode cX0_writtenFor 0 = .ok (.aload_n 0, 1) := by decide +kernel
theorem dX0_writtenFor_1 : decode cX0_writtenFor 1 = .ok (.iload_n 1, 1) := by decide +kernel
theorem dX0_writtenFor_2 : decode cX0_writtenFor 2 = .ok (.invokevirtual 84, 3) := by decide +kernel
theorem dX0_writtenFor_5 : decode cX0_writtenFor 5 = .ok (.aload_n 0, 1) := by decide +kernel
theorem dX0_writtenFor_6 : decode cX0_writtenFor 6 = .ok (.iload_n 2, 1) := by decide +kernel
theorem dX0_writtenFor_7 : decode cX0_writtenFor 7 = .ok (.iload_n 3, 1) := by decide +kernel
theorem dX0_writtenFor_8 : decode cX0_writtenFor 8 = .ok (.invokevirtual 87, 3) := by decide +kernel
theorem dX0_writtenFor_11 : decode cX0_writtenFor 11 = .ok (.aload_n 0, 1) := by decide +kernel
theorem dX0_writtenFor_12 : decode cX0_writtenFor 12 = .ok (.iload_n 1, 1) := by decide +kernel
theorem dX0_writtenFor_13 : decode cX0_writtenFor 13 = .ok (.iload_n 3, 1) := by decide +kernel
theorem dX0_writtenFor_14 : decode cX0_writtenFor 14 = .ok (.invokevirtual 87, 3) := by decide +kernel
theorem dX0_writtenFor_17 : decode cX0_writtenFor 17 = .ok (.iload 4, 2) := by decide +kernel
theorem dX0_writtenFor_19 : decode cX0_writtenFor 19 = .ok (.invokestatic 90, 3) := by decide +kernel
theorem dX0_writtenFor_22 : decode cX0_writtenFor 22 = .ok (.ireturn, 1) := by decide +kernel
theorem dX0_copied_0 : decode cX0_copied 0 = .ok (.iload_n 3, 1) := by decide +kernel
theorem dX0_copied_1 : decode cX0_copied 1 = .ok (.bipush 100, 2) := by decide +kernel
theorem dX0_copied_3 : decode cX0_copied 3 = .ok (.if_icmp .ne 8, 3) := by decide +kernel
theorem dX0_copied_6 : decode cX0_copied 6 = .ok (.bipush 100, 2) := by decide +kernel
theorem dX0_copied_8 : decode cX0_copied 8 = .ok (.goto 22, 3) := by decide +kernel
theorem dX0_copied_11 : decode cX0_copied 11 = .ok (.aload_n 0, 1) := by decide +kernel
theorem dX0_copied_12 : decode cX0_copied 12 = .ok (.iload_n 1, 1) := by decide +kernel
theorem dX0_copied_13 : decode cX0_copied 13 = .ok (.invokevirtual 84, 3) := by decide +kernel
theorem dX0_copied_16 : decode cX0_copied 16 = .ok (.iload_n 3, 1) := by decide +kernel
theorem dX0_copied_17 : decode cX0_copied 17 = .ok (.aload_n 0, 1) := by decide +kernel
theorem dX0_copied_18 : decode cX0_copied 18 = .ok (.aload_n 0, 1) := by decide +kernel
theorem dX0_copied_19 : decode cX0_copied 19 = .ok (.iload_n 1, 1) := by decide +kernel
theorem dX0_copied_20 : decode cX0_copied 20 = .ok (.invokevirtual 72, 3) := by decide +kernel
theorem dX0_copied_23 : decode cX0_copied 23 = .ok (.iload_n 2, 1) := by decide +kernel
theorem dX0_copied_24 : decode cX0_copied 24 = .ok (.invokevirtual 87, 3) := by decide +kernel
theorem dX0_copied_27 : decode cX0_copied 27 = .ok (.invokestatic 93, 3) := by decide +kernel
theorem dX0_copied_30 : decode cX0_copied 30 = .ok (.ireturn, 1) := by decide +kernel
theorem dX0_copyPaper_0 : decode cX0_copyPaper 0 = .ok (.iconst 0, 1) := by decide +kernel
theorem dX0_copyPaper_1 : decode cX0_copyPaper 1 = .ok (.istore 4, 2) := by decide +kernel
theorem dX0_copyPaper_3 : decode cX0_copyPaper 3 = .ok (.iload 4, 2) := by decide +kernel
theorem dX0_copyPaper_5 : decode cX0_copyPaper 5 = .ok (.iconst 5, 1) := by decide +kernel
theorem dX0_copyPaper_6 : decode cX0_copyPaper 6 = .ok (.if_icmp .ge 30, 3) := by decide +kernel
theorem dX0_copyPaper_9 : decode cX0_copyPaper 9 = .ok (.aload_n 0, 1) := by decide +kernel
theorem dX0_copyPaper_10 : decode cX0_copyPaper 10 = .ok (.iload_n 2, 1) := by decide +kernel
theorem dX0_copyPaper_11 : decode cX0_copyPaper 11 = .ok (.iload 4, 2) := by decide +kernel
theorem dX0_copyPaper_13 : decode cX0_copyPaper 13 = .ok (.aload_n 0, 1) := by decide +kernel
theorem dX0_copyPaper_14 : decode cX0_copyPaper 14 = .ok (.iload_n 3, 1) := by decide +kernel
theorem dX0_copyPaper_15 : decode cX0_copyPaper 15 = .ok (.iload 4, 2) := by decide +kernel
theorem dX0_copyPaper_17 : decode cX0_copyPaper 17 = .ok (.aload_n 0, 1) := by decide +kernel
theorem dX0_copyPaper_18 : decode cX0_copyPaper 18 = .ok (.iload_n 1, 1) := by decide +kernel
theorem dX0_copyPaper_19 : decode cX0_copyPaper 19 = .ok (.iload 4, 2) := by decide +kernel
theorem dX0_copyPaper_21 : decode cX0_copyPaper 21 = .ok (.invokevirtual 97, 3) := by decide +kernel
theorem dX0_copyPaper_24 : decode cX0_copyPaper 24 = .ok (.invokevirtual 100, 3) := by decide +kernel
theorem dX0_copyPaper_27 : decode cX0_copyPaper 27 = .ok (.invokevirtual 103, 3) := by decide +kernel
theorem dX0_copyPaper_30 : decode cX0_copyPaper 30 = .ok (.iinc 4 1, 3) := by decide +kernel
theorem dX0_copyPaper_33 : decode cX0_copyPaper 33 = .ok (.goto (-30), 3) := by decide +kernel
theorem dX0_copyPaper_36 : decode cX0_copyPaper 36 = .ok (.return_, 1) := by decide +kernel
theorem dX0_goRound_0 : decode cX0_goRound 0 = .ok (.iconst 0, 1) := by decide +kernel
theorem dX0_goRound_1 : decode cX0_goRound 1 = .ok (.istore_n 2, 1) := by decide +kernel
theorem dX0_goRound_2 : decode cX0_goRound 2 = .ok (.iload_n 2, 1) := by decide +kernel
theorem dX0_goRound_3 : decode cX0_goRound 3 = .ok (.aload_n 0, 1) := by decide +kernel
theorem dX0_goRound_4 : decode cX0_goRound 4 = .ok (.getfield 24, 3) := by decide +kernel
theorem dX0_goRound_7 : decode cX0_goRound 7 = .ok (.if_icmp .ge 16, 3) := by decide +kernel
theorem dX0_goRound_10 : decode cX0_goRound 10 = .ok (.aload_n 0, 1) := by decide +kernel
theorem dX0_goRound_11 : decode cX0_goRound 11 = .ok (.iload_n 1, 1) := by decide +kernel
theorem dX0_goRound_12 : decode cX0_goRound 12 = .ok (.iload_n 1, 1) := by decide +kernel
theorem dX0_goRound_13 : decode cX0_goRound 13 = .ok (.iload_n 2, 1) := by decide +kernel
theorem dX0_goRound_14 : decode cX0_goRound 14 = .ok (.invokevirtual 106, 3) := by decide +kernel
theorem dX0_goRound_17 : decode cX0_goRound 17 = .ok (.iinc 2 1, 3) := by decide +kernel
theorem dX0_goRound_20 : decode cX0_goRound 20 = .ok (.goto (-18), 3) := by decide +kernel
theorem dX0_goRound_23 : decode cX0_goRound 23 = .ok (.return_, 1) := by decide +kernel
theorem dX0_codeOf_0 : decode cX0_codeOf 0 = .ok (.iconst 0, 1) := by decide +kernel
theorem dX0_codeOf_1 : decode cX0_codeOf 1 = .ok (.istore_n 2, 1) := by decide +kernel
theorem dX0_codeOf_2 : decode cX0_codeOf 2 = .ok (.iconst 0, 1) := by decide +kernel
theorem dX0_codeOf_3 : decode cX0_codeOf 3 = .ok (.istore_n 3, 1) := by decide +kernel
theorem dX0_codeOf_4 : decode cX0_codeOf 4 = .ok (.iload_n 3, 1) := by decide +kernel
theorem dX0_codeOf_5 : decode cX0_codeOf 5 = .ok (.iconst 5, 1) := by decide +kernel
theorem dX0_codeOf_6 : decode cX0_codeOf 6 = .ok (.if_icmp .ge 40, 3) := by decide +kernel
theorem dX0_codeOf_9 : decode cX0_codeOf 9 = .ok (.aload_n 0, 1) := by decide +kernel
theorem dX0_codeOf_10 : decode cX0_codeOf 10 = .ok (.iload_n 1, 1) := by decide +kernel
theorem dX0_codeOf_11 : decode cX0_codeOf 11 = .ok (.iload_n 3, 1) := by decide +kernel
theorem dX0_codeOf_12 : decode cX0_codeOf 12 = .ok (.invokevirtual 97, 3) := by decide +kernel
theorem dX0_codeOf_15 : decode cX0_codeOf 15 = .ok (.istore 4, 2) := by decide +kernel
theorem dX0_codeOf_17 : decode cX0_codeOf 17 = .ok (.iload_n 2, 1) := by decide +kernel
theorem dX0_codeOf_18 : decode cX0_codeOf 18 = .ok (.bipush 20, 2) := by decide +kernel
theorem dX0_codeOf_20 : decode cX0_codeOf 20 = .ok (.imul, 1) := by decide +kernel
theorem dX0_codeOf_21 : decode cX0_codeOf 21 = .ok (.iload 4, 2) := by decide +kernel
theorem dX0_codeOf_23 : decode cX0_codeOf 23 = .ok (.bipush 100, 2) := by decide +kernel
theorem dX0_codeOf_25 : decode cX0_codeOf 25 = .ok (.if_icmp .ne 8, 3) := by decide +kernel
theorem dX0_codeOf_28 : decode cX0_codeOf 28 = .ok (.bipush 19, 2) := by decide +kernel
theorem dX0_codeOf_30 : decode cX0_codeOf 30 = .ok (.goto 8, 3) := by decide +kernel
theorem dX0_codeOf_33 : decode cX0_codeOf 33 = .ok (.iload 4, 2) := by decide +kernel
theorem dX0_codeOf_35 : decode cX0_codeOf 35 = .ok (.bipush 9, 2) := by decide +kernel
theorem dX0_codeOf_37 : decode cX0_codeOf 37 = .ok (.iadd, 1) := by decide +kernel
theorem dX0_codeOf_38 : decode cX0_codeOf 38 = .ok (.iadd, 1) := by decide +kernel
theorem dX0_codeOf_39 : decode cX0_codeOf 39 = .ok (.istore_n 2, 1) := by decide +kernel
theorem dX0_codeOf_40 : decode cX0_codeOf 40 = .ok (.iinc 3 1, 3) := by decide +kernel
theorem dX0_codeOf_43 : decode cX0_codeOf 43 = .ok (.goto (-39), 3) := by decide +kernel
theorem dX0_codeOf_46 : decode cX0_codeOf 46 = .ok (.iload_n 2, 1) := by decide +kernel
theorem dX0_codeOf_47 : decode cX0_codeOf 47 = .ok (.ireturn, 1) := by decide +kernel
theorem dX0_filledLinesOf_0 : decode cX0_filledLinesOf 0 = .ok (.iconst 0, 1) := by decide +kernel
theorem dX0_filledLinesOf_1 : decode cX0_filledLinesOf 1 = .ok (.istore_n 2, 1) := by decide +kernel
theorem dX0_filledLinesOf_2 : decode cX0_filledLinesOf 2 = .ok (.iconst 0, 1) := by decide +kernel
theorem dX0_filledLinesOf_3 : decode cX0_filledLinesOf 3 = .ok (.istore_n 3, 1) := by decide +kernel
theorem dX0_filledLinesOf_4 : decode cX0_filledLinesOf 4 = .ok (.iload_n 3, 1) := by decide +kernel
theorem dX0_filledLinesOf_5 : decode cX0_filledLinesOf 5 = .ok (.iconst 5, 1) := by decide +kernel
theorem dX0_filledLinesOf_6 : decode cX0_filledLinesOf 6 = .ok (.if_icmp .ge 28, 3) := by decide +kernel
theorem dX0_filledLinesOf_9 : decode cX0_filledLinesOf 9 = .ok (.iload_n 2, 1) := by decide +kernel
theorem dX0_filledLinesOf_10 : decode cX0_filledLinesOf 10 = .ok (.aload_n 0, 1) := by decide +kernel
theorem dX0_filledLinesOf_11 : decode cX0_filledLinesOf 11 = .ok (.iload_n 1, 1) := by decide +kernel
theorem dX0_filledLinesOf_12 : decode cX0_filledLinesOf 12 = .ok (.iload_n 3, 1) := by decide +kernel
theorem dX0_filledLinesOf_13 : decode cX0_filledLinesOf 13 = .ok (.invokevirtual 97, 3) := by decide +kernel
theorem dX0_filledLinesOf_16 : decode cX0_filledLinesOf 16 = .ok (.bipush 100, 2) := by decide +kernel
theorem dX0_filledLinesOf_18 : decode cX0_filledLinesOf 18 = .ok (.if_icmp .ne 7, 3) := by decide +kernel
theorem dX0_filledLinesOf_21 : decode cX0_filledLinesOf 21 = .ok (.iconst 0, 1) := by decide +kernel
theorem dX0_filledLinesOf_22 : decode cX0_filledLinesOf 22 = .ok (.goto 4, 3) := by decide +kernel
theorem dX0_filledLinesOf_25 : decode cX0_filledLinesOf 25 = .ok (.iconst 1, 1) := by decide +kernel
theorem dX0_filledLinesOf_26 : decode cX0_filledLinesOf 26 = .ok (.iadd, 1) := by decide +kernel
theorem dX0_filledLinesOf_27 : decode cX0_filledLinesOf 27 = .ok (.istore_n 2, 1) := by decide +kernel
theorem dX0_filledLinesOf_28 : decode cX0_filledLinesOf 28 = .ok (.iinc 3 1, 3) := by decide +kernel
theorem dX0_filledLinesOf_31 : decode cX0_filledLinesOf 31 = .ok (.goto (-27), 3) := by decide +kernel
theorem dX0_filledLinesOf_34 : decode cX0_filledLinesOf 34 = .ok (.iload_n 2, 1) := by decide +kernel
theorem dX0_filledLinesOf_35 : decode cX0_filledLinesOf 35 = .ok (.ireturn, 1) := by decide +kernel
theorem dX0_filledLines_0 : decode cX0_filledLines 0 = .ok (.iconst 0, 1) := by decide +kernel
theorem dX0_filledLines_1 : decode cX0_filledLines 1 = .ok (.istore_n 1, 1) := by decide +kernel
theorem dX0_filledLines_2 : decode cX0_filledLines 2 = .ok (.iconst 0, 1) := by decide +kernel
theorem dX0_filledLines_3 : decode cX0_filledLines 3 = .ok (.istore_n 2, 1) := by decide +kernel
theorem dX0_filledLines_4 : decode cX0_filledLines 4 = .ok (.iload_n 2, 1) := by decide +kernel
theorem dX0_filledLines_5 : decode cX0_filledLines 5 = .ok (.aload_n 0, 1) := by decide +kernel
theorem dX0_filledLines_6 : decode cX0_filledLines 6 = .ok (.getfield 28, 3) := by decide +kernel
theorem dX0_filledLines_9 : decode cX0_filledLines 9 = .ok (.if_icmp .ge 17, 3) := by decide +kernel
theorem dX0_filledLines_12 : decode cX0_filledLines 12 = .ok (.iload_n 1, 1) := by decide +kernel
theorem dX0_filledLines_13 : decode cX0_filledLines 13 = .ok (.aload_n 0, 1) := by decide +kernel
theorem dX0_filledLines_14 : decode cX0_filledLines 14 = .ok (.iload_n 2, 1) := by decide +kernel
theorem dX0_filledLines_15 : decode cX0_filledLines 15 = .ok (.invokevirtual 109, 3) := by decide +kernel
theorem dX0_filledLines_18 : decode cX0_filledLines 18 = .ok (.iadd, 1) := by decide +kernel
theorem dX0_filledLines_19 : decode cX0_filledLines 19 = .ok (.istore_n 1, 1) := by decide +kernel
theorem dX0_filledLines_20 : decode cX0_filledLines 20 = .ok (.iinc 2 1, 3) := by decide +kernel
theorem dX0_filledLines_23 : decode cX0_filledLines 23 = .ok (.goto (-19), 3) := by decide +kernel
theorem dX0_filledLines_26 : decode cX0_filledLines 26 = .ok (.iload_n 1, 1) := by decide +kernel
theorem dX0_filledLines_27 : decode cX0_filledLines 27 = .ok (.ireturn, 1) := by decide +kernel
theorem dX0_sumOfLines_0 : decode cX0_sumOfLines 0 = .ok (.iconst 0, 1) := by decide +kernel
theorem dX0_sumOfLines_1 : decode cX0_sumOfLines 1 = .ok (.istore_n 1, 1) := by decide +kernel
theorem dX0_sumOfLines_2 : decode cX0_sumOfLines 2 = .ok (.iconst 0, 1) := by decide +kernel
theorem dX0_sumOfLines_3 : decode cX0_sumOfLines 3 = .ok (.istore_n 2, 1) := by decide +kernel
theorem dX0_sumOfLines_4 : decode cX0_sumOfLines 4 = .ok (.iload_n 2, 1) := by decide +kernel
theorem dX0_sumOfLines_5 : decode cX0_sumOfLines 5 = .ok (.aload_n 0, 1) := by decide +kernel
theorem dX0_sumOfLines_6 : decode cX0_sumOfLines 6 = .ok (.getfield 28, 3) := by decide +kernel
theorem dX0_sumOfLines_9 : decode cX0_sumOfLines 9 = .ok (.if_icmp .ge 46, 3) := by decide +kernel
theorem dX0_sumOfLines_12 : decode cX0_sumOfLines 12 = .ok (.iconst 0, 1) := by decide +kernel
theorem dX0_sumOfLines_13 : decode cX0_sumOfLines 13 = .ok (.istore_n 3, 1) := by decide +kernel
theorem dX0_sumOfLines_14 : decode cX0_sumOfLines 14 = .ok (.iload_n 3, 1) := by decide +kernel
theorem dX0_sumOfLines_15 : decode cX0_sumOfLines 15 = .ok (.iconst 5, 1) := by decide +kernel
theorem dX0_sumOfLines_16 : decode cX0_sumOfLines 16 = .ok (.if_icmp .ge 33, 3) := by decide +kernel
theorem dX0_sumOfLines_19 : decode cX0_sumOfLines 19 = .ok (.aload_n 0, 1) := by decide +kernel
theorem dX0_sumOfLines_20 : decode cX0_sumOfLines 20 = .ok (.iload_n 2, 1) := by decide +kernel
theorem dX0_sumOfLines_21 : decode cX0_sumOfLines 21 = .ok (.iload_n 3, 1) := by decide +kernel
theorem dX0_sumOfLines_22 : decode cX0_sumOfLines 22 = .ok (.invokevirtual 97, 3) := by decide +kernel
theorem dX0_sumOfLines_25 : decode cX0_sumOfLines 25 = .ok (.istore 4, 2) := by decide +kernel
theorem dX0_sumOfLines_27 : decode cX0_sumOfLines 27 = .ok (.iload_n 1, 1) := by decide +kernel
theorem dX0_sumOfLines_28 : decode cX0_sumOfLines 28 = .ok (.iload 4, 2) := by decide +kernel
theorem dX0_sumOfLines_30 : decode cX0_sumOfLines 30 = .ok (.bipush 100, 2) := by decide +kernel
theorem dX0_sumOfLines_32 : decode cX0_sumOfLines 32 = .ok (.if_icmp .ne 7, 3) := by decide +kernel
theorem dX0_sumOfLines_35 : decode cX0_sumOfLines 35 = .ok (.iconst 0, 1) := by decide +kernel
theorem dX0_sumOfLines_36 : decode cX0_sumOfLines 36 = .ok (.goto 5, 3) := by decide +kernel
theorem dX0_sumOfLines_39 : decode cX0_sumOfLines 39 = .ok (.iload 4, 2) := by decide +kernel
theorem dX0_sumOfLines_41 : decode cX0_sumOfLines 41 = .ok (.iadd, 1) := by decide +kernel
theorem dX0_sumOfLines_42 : decode cX0_sumOfLines 42 = .ok (.istore_n 1, 1) := by decide +kernel
theorem dX0_sumOfLines_43 : decode cX0_sumOfLines 43 = .ok (.iinc 3 1, 3) := by decide +kernel
theorem dX0_sumOfLines_46 : decode cX0_sumOfLines 46 = .ok (.goto (-32), 3) := by decide +kernel
theorem dX0_sumOfLines_49 : decode cX0_sumOfLines 49 = .ok (.iinc 2 1, 3) := by decide +kernel
theorem dX0_sumOfLines_52 : decode cX0_sumOfLines 52 = .ok (.goto (-48), 3) := by decide +kernel
theorem dX0_sumOfLines_55 : decode cX0_sumOfLines 55 = .ok (.iload_n 1, 1) := by decide +kernel
theorem dX0_sumOfLines_56 : decode cX0_sumOfLines 56 = .ok (.ireturn, 1) := by decide +kernel
theorem dX1_init_0 : decode cX1_init 0 = .ok (.aload_n 0, 1) := by decide +kernel
theorem dX1_init_1 : decode cX1_init 1 = .ok (.invokespecial 1, 3) := by decide +kernel
theorem dX1_init_4 : decode cX1_init 4 = .ok (.aload_n 0, 1) := by decide +kernel
theorem dX1_init_5 : decode cX1_init 5 = .ok (.iload_n 1, 1) := by decide +kernel
theorem dX1_init_6 : decode cX1_init 6 = .ok (.iconst 0, 1) := by decide +kernel
theorem dX1_init_7 : decode cX1_init 7 = .ok (.invokestatic 7, 3) := by decide +kernel
theorem dX1_init_10 : decode cX1_init 10 = .ok (.anewarray 13, 3) := by decide +kernel
theorem dX1_init_13 : decode cX1_init 13 = .ok (.putfield 15, 3) := by decide +kernel
theorem dX1_init_16 : decode cX1_init 16 = .ok (.iconst 0, 1) := by decide +kernel
theorem dX1_init_17 : decode cX1_init 17 = .ok (.istore_n 2, 1) := by decide +kernel
theorem dX1_init_18 : decode cX1_init 18 = .ok (.iload_n 2, 1) := by decide +kernel
theorem dX1_init_19 : decode cX1_init 19 = .ok (.aload_n 0, 1) := by decide +kernel
theorem dX1_init_20 : decode cX1_init 20 = .ok (.getfield 15, 3) := by decide +kernel
theorem dX1_init_23 : decode cX1_init 23 = .ok (.arraylength, 1) := by decide +kernel
theorem dX1_init_24 : decode cX1_init 24 = .ok (.if_icmp .ge 22, 3) := by decide +kernel
theorem dX1_init_27 : decode cX1_init 27 = .ok (.aload_n 0, 1) := by decide +kernel
theorem dX1_init_28 : decode cX1_init 28 = .ok (.getfield 15, 3) := by decide +kernel
theorem dX1_init_31 : decode cX1_init 31 = .ok (.iload_n 2, 1) := by decide +kernel
theorem dX1_init_32 : decode cX1_init 32 = .ok (.new 13, 3) := by decide +kernel
theorem dX1_init_35 : decode cX1_init 35 = .ok (.dup, 1) := by decide +kernel
theorem dX1_init_36 : decode cX1_init 36 = .ok (.invokespecial 21, 3) := by decide +kernel
theorem dX1_init_39 : decode cX1_init 39 = .ok (.aastore, 1) := by decide +kernel
theorem dX1_init_40 : decode cX1_init 40 = .ok (.iinc 2 1, 3) := by decide +kernel
theorem dX1_init_43 : decode cX1_init 43 = .ok (.goto (-25), 3) := by decide +kernel
theorem dX1_init_46 : decode cX1_init 46 = .ok (.return_, 1) := by decide +kernel
theorem dX1_size_0 : decode cX1_size 0 = .ok (.aload_n 0, 1) := by decide +kernel
theorem dX1_size_1 : decode cX1_size 1 = .ok (.getfield 22, 3) := by decide +kernel
theorem dX1_size_4 : decode cX1_size 4 = .ok (.ireturn, 1) := by decide +kernel
theorem dX1_clear_0 : decode cX1_clear 0 = .ok (.aload_n 0, 1) := by decide +kernel
theorem dX1_clear_1 : decode cX1_clear 1 = .ok (.iconst 0, 1) := by decide +kernel
theorem dX1_clear_2 : decode cX1_clear 2 = .ok (.putfield 22, 3) := by decide +kernel
theorem dX1_clear_5 : decode cX1_clear 5 = .ok (.return_, 1) := by decide +kernel
theorem dX1_push_0 : decode cX1_push 0 = .ok (.aload_n 0, 1) := by decide +kernel
theorem dX1_push_1 : decode cX1_push 1 = .ok (.aload_n 0, 1) := by decide +kernel
theorem dX1_push_2 : decode cX1_push 2 = .ok (.getfield 22, 3) := by decide +kernel
theorem dX1_push_5 : decode cX1_push 5 = .ok (.invokevirtual 26, 3) := by decide +kernel
theorem dX1_push_8 : decode cX1_push 8 = .ok (.astore_n 2, 1) := by decide +kernel
theorem dX1_push_9 : decode cX1_push 9 = .ok (.aload_n 2, 1) := by decide +kernel
theorem dX1_push_10 : decode cX1_push 10 = .ok (.ifnonnull 4, 3) := by decide +kernel
theorem dX1_push_13 : decode cX1_push 13 = .ok (.return_, 1) := by decide +kernel
theorem dX1_push_14 : decode cX1_push 14 = .ok (.aload_n 2, 1) := by decide +kernel
theorem dX1_push_15 : decode cX1_push 15 = .ok (.aload_n 1, 1) := by decide +kernel
theorem dX1_push_16 : decode cX1_push 16 = .ok (.invokevirtual 30, 3) := by decide +kernel
theorem dX1_push_19 : decode cX1_push 19 = .ok (.aload_n 0, 1) := by decide +kernel
theorem dX1_push_20 : decode cX1_push 20 = .ok (.getfield 22, 3) := by decide +kernel
theorem dX1_push_23 : decode cX1_push 23 = .ok (.aload_n 0, 1) := by decide +kernel
theorem dX1_push_24 : decode cX1_push 24 = .ok (.getfield 15, 3) := by decide +kernel
theorem dX1_push_27 : decode cX1_push 27 = .ok (.arraylength, 1) := by decide +kernel
theorem dX1_push_28 : decode cX1_push 28 = .ok (.if_icmp .ge 16, 3) := by decide +kernel
theorem dX1_push_31 : decode cX1_push 31 = .ok (.aload_n 0, 1) := by decide +kernel
theorem dX1_push_32 : decode cX1_push 32 = .ok (.dup, 1) := by decide +kernel
theorem dX1_push_33 : decode cX1_push 33 = .ok (.getfield 22, 3) := by decide +kernel
theorem dX1_push_36 : decode cX1_push 36 = .ok (.iconst 1, 1) := by decide +kernel
theorem dX1_push_37 : decode cX1_push 37 = .ok (.iadd, 1) := by decide +kernel
theorem dX1_push_38 : decode cX1_push 38 = .ok (.putfield 22, 3) := by decide +kernel
theorem dX1_push_41 : decode cX1_push 41 = .ok (.goto 21, 3) := by decide +kernel
theorem dX1_push_44 : decode cX1_push 44 = .ok (.aload_n 0, 1) := by decide +kernel
theorem dX1_push_45 : decode cX1_push 45 = .ok (.aload_n 0, 1) := by decide +kernel
theorem dX1_push_46 : decode cX1_push 46 = .ok (.getfield 34, 3) := by decide +kernel
theorem dX1_push_49 : decode cX1_push 49 = .ok (.iconst 1, 1) := by decide +kernel
theorem dX1_push_50 : decode cX1_push 50 = .ok (.iadd, 1) := by decide +kernel
theorem dX1_push_51 : decode cX1_push 51 = .ok (.aload_n 0, 1) := by decide +kernel
theorem dX1_push_52 : decode cX1_push 52 = .ok (.getfield 15, 3) := by decide +kernel
theorem dX1_push_55 : decode cX1_push 55 = .ok (.arraylength, 1) := by decide +kernel
theorem dX1_push_56 : decode cX1_push 56 = .ok (.invokestatic 37, 3) := by decide +kernel
theorem dX1_push_59 : decode cX1_push 59 = .ok (.putfield 34, 3) := by decide +kernel
theorem dX1_push_62 : decode cX1_push 62 = .ok (.return_, 1) := by decide +kernel
theorem dX1_popInto_0 : decode cX1_popInto 0 = .ok (.aload_n 0, 1) := by decide +kernel
theorem dX1_popInto_1 : decode cX1_popInto 1 = .ok (.getfield 22, 3) := by decide +kernel
theorem dX1_popInto_4 : decode cX1_popInto 4 = .ok (.ifCond .le 16, 3) := by decide +kernel
theorem dX1_popInto_7 : decode cX1_popInto 7 = .ok (.aload_n 0, 1) := by decide +kernel
theorem dX1_popInto_8 : decode cX1_popInto 8 = .ok (.aload_n 0, 1) := by decide +kernel
theorem dX1_popInto_9 : decode cX1_popInto 9 = .ok (.getfield 22, 3) := by decide +kernel
theorem dX1_popInto_12 : decode cX1_popInto 12 = .ok (.iconst 1, 1) := by decide +kernel
theorem dX1_popInto_13 : decode cX1_popInto 13 = .ok (.isub, 1) := by decide +kernel
theorem dX1_popInto_14 : decode cX1_popInto 14 = .ok (.invokevirtual 26, 3) := by decide +kernel
theorem dX1_popInto_17 : decode cX1_popInto 17 = .ok (.goto 4, 3) := by decide +kernel
theorem dX1_popInto_20 : decode cX1_popInto 20 = .ok (.aconst_null, 1) := by decide +kernel
theorem dX1_popInto_21 : decode cX1_popInto 21 = .ok (.astore_n 2, 1) := by decide +kernel
theorem dX1_popInto_22 : decode cX1_popInto 22 = .ok (.aload_n 2, 1) := by decide +kernel
theorem dX1_popInto_23 : decode cX1_popInto 23 = .ok (.ifnonnull 5, 3) := by decide +kernel
theorem dX1_popInto_26 : decode cX1_popInto 26 = .ok (.iconst 0, 1) := by decide +kernel
theorem dX1_popInto_27 : decode cX1_popInto 27 = .ok (.ireturn, 1) := by decide +kernel
theorem dX1_popInto_28 : decode cX1_popInto 28 = .ok (.aload_n 1, 1) := by decide +kernel
theorem dX1_popInto_29 : decode cX1_popInto 29 = .ok (.aload_n 2, 1) := by decide +kernel
theorem dX1_popInto_30 : decode cX1_popInto 30 = .ok (.invokevirtual 30, 3) := by decide +kernel
theorem dX1_popInto_33 : decode cX1_popInto 33 = .ok (.aload_n 0, 1) := by decide +kernel
theorem dX1_popInto_34 : decode cX1_popInto 34 = .ok (.dup, 1) := by decide +kernel
theorem dX1_popInto_35 : decode cX1_popInto 35 = .ok (.getfield 22, 3) := by decide +kernel
theorem dX1_popInto_38 : decode cX1_popInto 38 = .ok (.iconst 1, 1) := by decide +kernel
theorem dX1_popInto_39 : decode cX1_popInto 39 = .ok (.isub, 1) := by decide +kernel
theorem dX1_popInto_40 : decode cX1_popInto 40 = .ok (.putfield 22, 3) := by decide +kernel
theorem dX1_popInto_43 : decode cX1_popInto 43 = .ok (.iconst 1, 1) := by decide +kernel
theorem dX1_popInto_44 : decode cX1_popInto 44 = .ok (.ireturn, 1) := by decide +kernel
theorem dX1_placeAbove_0 : decode cX1_placeAbove 0 = .ok (.aload_n 0, 1) := by decide +kernel
theorem dX1_placeAbove_1 : decode cX1_placeAbove 1 = .ok (.getfield 34, 3) := by decide +kernel
theorem dX1_placeAbove_4 : decode cX1_placeAbove 4 = .ok (.iload_n 1, 1) := by decide +kernel
theorem dX1_placeAbove_5 : decode cX1_placeAbove 5 = .ok (.iadd, 1) := by decide +kernel
theorem dX1_placeAbove_6 : decode cX1_placeAbove 6 = .ok (.aload_n 0, 1) := by decide +kernel
theorem dX1_placeAbove_7 : decode cX1_placeAbove 7 = .ok (.getfield 15, 3) := by decide +kernel
theorem dX1_placeAbove_10 : decode cX1_placeAbove 10 = .ok (.arraylength, 1) := by decide +kernel
theorem dX1_placeAbove_11 : decode cX1_placeAbove 11 = .ok (.invokestatic 37, 3) := by decide +kernel
theorem dX1_placeAbove_14 : decode cX1_placeAbove 14 = .ok (.istore_n 2, 1) := by decide +kernel
theorem dX1_placeAbove_15 : decode cX1_placeAbove 15 = .ok (.iload_n 2, 1) := by decide +kernel
theorem dX1_placeAbove_16 : decode cX1_placeAbove 16 = .ok (.ifCond .lt 21, 3) := by decide +kernel
theorem dX1_placeAbove_19 : decode cX1_placeAbove 19 = .ok (.iload_n 2, 1) := by decide +kernel
theorem dX1_placeAbove_20 : decode cX1_placeAbove 20 = .ok (.aload_n 0, 1) := by decide +kernel
theorem dX1_placeAbove_21 : decode cX1_placeAbove 21 = .ok (.getfield 15, 3) := by decide +kernel
theorem dX1_placeAbove_24 : decode cX1_placeAbove 24 = .ok (.arraylength, 1) := by decide +kernel
theorem dX1_placeAbove_25 : decode cX1_placeAbove 25 = .ok (.if_icmp .ge 12, 3) := by decide +kernel
theorem dX1_placeAbove_28 : decode cX1_placeAbove 28 = .ok (.aload_n 0, 1) := by decide +kernel
theorem dX1_placeAbove_29 : decode cX1_placeAbove 29 = .ok (.getfield 15, 3) := by decide +kernel
theorem dX1_placeAbove_32 : decode cX1_placeAbove 32 = .ok (.iload_n 2, 1) := by decide +kernel
theorem dX1_placeAbove_33 : decode cX1_placeAbove 33 = .ok (.aaload, 1) := by decide +kernel
theorem dX1_placeAbove_34 : decode cX1_placeAbove 34 = .ok (.goto 4, 3) := by decide +kernel
theorem dX1_placeAbove_37 : decode cX1_placeAbove 37 = .ok (.aconst_null, 1) := by decide +kernel
theorem dX1_placeAbove_38 : decode cX1_placeAbove 38 = .ok (.areturn, 1) := by decide +kernel
theorem dX2_init_0 : decode cX2_init 0 = .ok (.aload_n 0, 1) := by decide +kernel
theorem dX2_init_1 : decode cX2_init 1 = .ok (.invokespecial 3, 3) := by decide +kernel
theorem dX2_init_4 : decode cX2_init 4 = .ok (.aload_n 0, 1) := by decide +kernel
theorem dX2_init_5 : decode cX2_init 5 = .ok (.bipush 6, 2) := by decide +kernel
theorem dX2_init_7 : decode cX2_init 7 = .ok (.newarray .int, 2) := by decide +kernel
theorem dX2_init_9 : decode cX2_init 9 = .ok (.putfield 9, 3) := by decide +kernel
theorem dX2_init_12 : decode cX2_init 12 = .ok (.aload_n 0, 1) := by decide +kernel
theorem dX2_init_13 : decode cX2_init 13 = .ok (.bipush 6, 2) := by decide +kernel
theorem dX2_init_15 : decode cX2_init 15 = .ok (.newarray .int, 2) := by decide +kernel
theorem dX2_init_17 : decode cX2_init 17 = .ok (.putfield 15, 3) := by decide +kernel
theorem dX2_init_20 : decode cX2_init 20 = .ok (.return_, 1) := by decide +kernel
theorem dX2_size_0 : decode cX2_size 0 = .ok (.aload_n 0, 1) := by decide +kernel
theorem dX2_size_1 : decode cX2_size 1 = .ok (.getfield 18, 3) := by decide +kernel
theorem dX2_size_4 : decode cX2_size 4 = .ok (.ireturn, 1) := by decide +kernel
theorem dX2_clear_0 : decode cX2_clear 0 = .ok (.aload_n 0, 1) := by decide +kernel
theorem dX2_clear_1 : decode cX2_clear 1 = .ok (.iconst 0, 1) := by decide +kernel
theorem dX2_clear_2 : decode cX2_clear 2 = .ok (.putfield 18, 3) := by decide +kernel
theorem dX2_clear_5 : decode cX2_clear 5 = .ok (.return_, 1) := by decide +kernel
theorem dX2_add_0 : decode cX2_add 0 = .ok (.aload_n 0, 1) := by decide +kernel
theorem dX2_add_1 : decode cX2_add 1 = .ok (.getfield 9, 3) := by decide +kernel
theorem dX2_add_4 : decode cX2_add 4 = .ok (.aload_n 0, 1) := by decide +kernel
theorem dX2_add_5 : decode cX2_add 5 = .ok (.getfield 18, 3) := by decide +kernel
theorem dX2_add_8 : decode cX2_add 8 = .ok (.iload_n 1, 1) := by decide +kernel
theorem dX2_add_9 : decode cX2_add 9 = .ok (.invokestatic 22, 3) := by decide +kernel
theorem dX2_add_12 : decode cX2_add 12 = .ok (.aload_n 0, 1) := by decide +kernel
theorem dX2_add_13 : decode cX2_add 13 = .ok (.getfield 15, 3) := by decide +kernel
theorem dX2_add_16 : decode cX2_add 16 = .ok (.aload_n 0, 1) := by decide +kernel
theorem dX2_add_17 : decode cX2_add 17 = .ok (.getfield 18, 3) := by decide +kernel
theorem dX2_add_20 : decode cX2_add 20 = .ok (.iload_n 2, 1) := by decide +kernel
theorem dX2_add_21 : decode cX2_add 21 = .ok (.invokestatic 22, 3) := by decide +kernel
theorem dX2_add_24 : decode cX2_add 24 = .ok (.aload_n 0, 1) := by decide +kernel
theorem dX2_add_25 : decode cX2_add 25 = .ok (.dup, 1) := by decide +kernel
theorem dX2_add_26 : decode cX2_add 26 = .ok (.getfield 18, 3) := by decide +kernel
theorem dX2_add_29 : decode cX2_add 29 = .ok (.iconst 1, 1) := by decide +kernel
theorem dX2_add_30 : decode cX2_add 30 = .ok (.iadd, 1) := by decide +kernel
theorem dX2_add_31 : decode cX2_add 31 = .ok (.putfield 18, 3) := by decide +kernel
theorem dX2_add_34 : decode cX2_add 34 = .ok (.return_, 1) := by decide +kernel
theorem dX2_areAllWritten_0 : decode cX2_areAllWritten 0 = .ok (.iconst 0, 1) := by decide +kernel
theorem dX2_areAllWritten_1 : decode cX2_areAllWritten 1 = .ok (.istore 5, 2) := by decide +kernel
theorem dX2_areAllWritten_3 : decode cX2_areAllWritten 3 = .ok (.iload 5, 2) := by decide +kernel
theorem dX2_areAllWritten_5 : decode cX2_areAllWritten 5 = .ok (.aload_n 0, 1) := by decide +kernel
theorem dX2_areAllWritten_6 : decode cX2_areAllWritten 6 = .ok (.getfield 18, 3) := by decide +kernel
theorem dX2_areAllWritten_9 : decode cX2_areAllWritten 9 = .ok (.if_icmp .ge 40, 3) := by decide +kernel
theorem dX2_areAllWritten_12 : decode cX2_areAllWritten 12 = .ok (.aload_n 1, 1) := by decide +kernel
theorem dX2_areAllWritten_13 : decode cX2_areAllWritten 13 = .ok (.iload_n 2, 1) := by decide +kernel
theorem dX2_areAllWritten_14 : decode cX2_areAllWritten 14 = .ok (.iload_n 3, 1) := by decide +kernel
theorem dX2_areAllWritten_15 : decode cX2_areAllWritten 15 = .ok (.aload_n 0, 1) := by decide +kernel
theorem dX2_areAllWritten_16 : decode cX2_areAllWritten 16 = .ok (.getfield 9, 3) := by decide +kernel
theorem dX2_areAllWritten_19 : decode cX2_areAllWritten 19 = .ok (.iload 5, 2) := by decide +kernel
theorem dX2_areAllWritten_21 : decode cX2_areAllWritten 21 = .ok (.invokestatic 26, 3) := by decide +kernel
theorem dX2_areAllWritten_24 : decode cX2_areAllWritten 24 = .ok (.iload 4, 2) := by decide +kernel
theorem dX2_areAllWritten_26 : decode cX2_areAllWritten 26 = .ok (.invokevirtual 30, 3) := by decide +kernel
theorem dX2_areAllWritten_29 : decode cX2_areAllWritten 29 = .ok (.aload_n 0, 1) := by decide +kernel
theorem dX2_areAllWritten_30 : decode cX2_areAllWritten 30 = .ok (.getfield 15, 3) := by decide +kernel
theorem dX2_areAllWritten_33 : decode cX2_areAllWritten 33 = .ok (.iload 5, 2) := by decide +kernel
theorem dX2_areAllWritten_35 : decode cX2_areAllWritten 35 = .ok (.invokestatic 26, 3) := by decide +kernel
theorem dX2_areAllWritten_38 : decode cX2_areAllWritten 38 = .ok (.if_icmp .eq 5, 3) := by decide +kernel
theorem dX2_areAllWritten_41 : decode cX2_areAllWritten 41 = .ok (.iconst 0, 1) := by decide +kernel
theorem dX2_areAllWritten_42 : decode cX2_areAllWritten 42 = .ok (.ireturn, 1) := by decide +kernel
theorem dX2_areAllWritten_43 : decode cX2_areAllWritten 43 = .ok (.iinc 5 1, 3) := by decide +kernel
theorem dX2_areAllWritten_46 : decode cX2_areAllWritten 46 = .ok (.goto (-43), 3) := by decide +kernel
theorem dX2_areAllWritten_49 : decode cX2_areAllWritten 49 = .ok (.iconst 1, 1) := by decide +kernel
theorem dX2_areAllWritten_50 : decode cX2_areAllWritten 50 = .ok (.ireturn, 1) := by decide +kernel
theorem dX3_init_0 : decode cX3_init 0 = .ok (.aload_n 0, 1) := by decide +kernel
theorem dX3_init_1 : decode cX3_init 1 = .ok (.invokespecial 3, 3) := by decide +kernel
theorem dX3_init_4 : decode cX3_init 4 = .ok (.aload_n 0, 1) := by decide +kernel
theorem dX3_init_5 : decode cX3_init 5 = .ok (.sipush 200, 3) := by decide +kernel
theorem dX3_init_8 : decode cX3_init 8 = .ok (.newarray .int, 2) := by decide +kernel
theorem dX3_init_10 : decode cX3_init 10 = .ok (.putfield 9, 3) := by decide +kernel
theorem dX3_init_13 : decode cX3_init 13 = .ok (.aload_n 0, 1) := by decide +kernel
theorem dX3_init_14 : decode cX3_init 14 = .ok (.iconst 3, 1) := by decide +kernel
theorem dX3_init_15 : decode cX3_init 15 = .ok (.newarray .int, 2) := by decide +kernel
theorem dX3_init_17 : decode cX3_init 17 = .ok (.putfield 15, 3) := by decide +kernel
theorem dX3_init_20 : decode cX3_init 20 = .ok (.return_, 1) := by decide +kernel
theorem dX3_size_0 : decode cX3_size 0 = .ok (.aload_n 0, 1) := by decide +kernel
theorem dX3_size_1 : decode cX3_size 1 = .ok (.getfield 18, 3) := by decide +kernel
theorem dX3_size_4 : decode cX3_size 4 = .ok (.ireturn, 1) := by decide +kernel
theorem dX3_clear_0 : decode cX3_clear 0 = .ok (.aload_n 0, 1) := by decide +kernel
theorem dX3_clear_1 : decode cX3_clear 1 = .ok (.iconst 0, 1) := by decide +kernel
theorem dX3_clear_2 : decode cX3_clear 2 = .ok (.putfield 18, 3) := by decide +kernel
theorem dX3_clear_5 : decode cX3_clear 5 = .ok (.return_, 1) := by decide +kernel
theorem dX3_append_0 : decode cX3_append 0 = .ok (.aload_n 0, 1) := by decide +kernel
theorem dX3_append_1 : decode cX3_append 1 = .ok (.getfield 18, 3) := by decide +kernel
theorem dX3_append_4 : decode cX3_append 4 = .ok (.sipush 200, 3) := by decide +kernel
theorem dX3_append_7 : decode cX3_append 7 = .ok (.if_icmp .ge 25, 3) := by decide +kernel
theorem dX3_append_10 : decode cX3_append 10 = .ok (.aload_n 0, 1) := by decide +kernel
theorem dX3_append_11 : decode cX3_append 11 = .ok (.getfield 9, 3) := by decide +kernel
theorem dX3_append_14 : decode cX3_append 14 = .ok (.aload_n 0, 1) := by decide +kernel
theorem dX3_append_15 : decode cX3_append 15 = .ok (.getfield 18, 3) := by decide +kernel
theorem dX3_append_18 : decode cX3_append 18 = .ok (.iload_n 1, 1) := by decide +kernel
theorem dX3_append_19 : decode cX3_append 19 = .ok (.invokestatic 22, 3) := by decide +kernel
theorem dX3_append_22 : decode cX3_append 22 = .ok (.aload_n 0, 1) := by decide +kernel
theorem dX3_append_23 : decode cX3_append 23 = .ok (.dup, 1) := by decide +kernel
theorem dX3_append_24 : decode cX3_append 24 = .ok (.getfield 18, 3) := by decide +kernel
theorem dX3_append_27 : decode cX3_append 27 = .ok (.iconst 1, 1) := by decide +kernel
theorem dX3_append_28 : decode cX3_append 28 = .ok (.iadd, 1) := by decide +kernel
theorem dX3_append_29 : decode cX3_append 29 = .ok (.putfield 18, 3) := by decide +kernel
theorem dX3_append_32 : decode cX3_append 32 = .ok (.return_, 1) := by decide +kernel
theorem dX3_readInto_0 : decode cX3_readInto 0 = .ok (.aload_n 1, 1) := by decide +kernel
theorem dX3_readInto_1 : decode cX3_readInto 1 = .ok (.invokevirtual 26, 3) := by decide +kernel
theorem dX3_readInto_4 : decode cX3_readInto 4 = .ok (.iconst 0, 1) := by decide +kernel
theorem dX3_readInto_5 : decode cX3_readInto 5 = .ok (.istore_n 2, 1) := by decide +kernel
theorem dX3_readInto_6 : decode cX3_readInto 6 = .ok (.iconst 0, 1) := by decide +kernel
theorem dX3_readInto_7 : decode cX3_readInto 7 = .ok (.istore_n 3, 1) := by decide +kernel
theorem dX3_readInto_8 : decode cX3_readInto 8 = .ok (.iload_n 3, 1) := by decide +kernel
theorem dX3_readInto_9 : decode cX3_readInto 9 = .ok (.sipush 200, 3) := by decide +kernel
theorem dX3_readInto_12 : decode cX3_readInto 12 = .ok (.if_icmp .ge 51, 3) := by decide +kernel
theorem dX3_readInto_15 : decode cX3_readInto 15 = .ok (.iload_n 2, 1) := by decide +kernel
theorem dX3_readInto_16 : decode cX3_readInto 16 = .ok (.aload_n 0, 1) := by decide +kernel
theorem dX3_readInto_17 : decode cX3_readInto 17 = .ok (.getfield 18, 3) := by decide +kernel
theorem dX3_readInto_20 : decode cX3_readInto 20 = .ok (.if_icmp .ge 43, 3) := by decide +kernel
theorem dX3_readInto_23 : decode cX3_readInto 23 = .ok (.aload_n 0, 1) := by decide +kernel
theorem dX3_readInto_24 : decode cX3_readInto 24 = .ok (.iload_n 2, 1) := by decide +kernel
theorem dX3_readInto_25 : decode cX3_readInto 25 = .ok (.iconst 1, 1) := by decide +kernel
theorem dX3_readInto_26 : decode cX3_readInto 26 = .ok (.iadd, 1) := by decide +kernel
theorem dX3_readInto_27 : decode cX3_readInto 27 = .ok (.invokevirtual 31, 3) := by decide +kernel
theorem dX3_readInto_30 : decode cX3_readInto 30 = .ok (.istore 4, 2) := by decide +kernel
theorem dX3_readInto_32 : decode cX3_readInto 32 = .ok (.iload 4, 2) := by decide +kernel
theorem dX3_readInto_34 : decode cX3_readInto 34 = .ok (.bipush (-4), 2) := by decide +kernel
theorem dX3_readInto_36 : decode cX3_readInto 36 = .ok (.if_icmp .eq 16, 3) := by decide +kernel
theorem dX3_readInto_39 : decode cX3_readInto 39 = .ok (.aload_n 0, 1) := by decide +kernel
theorem dX3_readInto_40 : decode cX3_readInto 40 = .ok (.aload_n 0, 1) := by decide +kernel
theorem dX3_readInto_41 : decode cX3_readInto 41 = .ok (.iload_n 2, 1) := by decide +kernel
theorem dX3_readInto_42 : decode cX3_readInto 42 = .ok (.invokevirtual 35, 3) := by decide +kernel
theorem dX3_readInto_45 : decode cX3_readInto 45 = .ok (.aload_n 1, 1) := by decide +kernel
theorem dX3_readInto_46 : decode cX3_readInto 46 = .ok (.invokevirtual 38, 3) := by decide +kernel
theorem dX3_readInto_49 : decode cX3_readInto 49 = .ok (.ifCond .ne 5, 3) := by decide +kernel
theorem dX3_readInto_52 : decode cX3_readInto 52 = .ok (.iload_n 2, 1) := by decide +kernel
theorem dX3_readInto_53 : decode cX3_readInto 53 = .ok (.ireturn, 1) := by decide +kernel
theorem dX3_readInto_54 : decode cX3_readInto 54 = .ok (.iload 4, 2) := by decide +kernel
theorem dX3_readInto_56 : decode cX3_readInto 56 = .ok (.istore_n 2, 1) := by decide +kernel
theorem dX3_readInto_57 : decode cX3_readInto 57 = .ok (.iinc 3 1, 3) := by decide +kernel
theorem dX3_readInto_60 : decode cX3_readInto 60 = .ok (.goto (-52), 3) := by decide +kernel
theorem dX3_readInto_63 : decode cX3_readInto 63 = .ok (.bipush (-4), 2) := by decide +kernel
theorem dX3_readInto_65 : decode cX3_readInto 65 = .ok (.ireturn, 1) := by decide +kernel
theorem dX3_readNumbers_0 : decode cX3_readNumbers 0 = .ok (.aload_n 0, 1) := by decide +kernel
theorem dX3_readNumbers_1 : decode cX3_readNumbers 1 = .ok (.iconst 0, 1) := by decide +kernel
theorem dX3_readNumbers_2 : decode cX3_readNumbers 2 = .ok (.putfield 42, 3) := by decide +kernel
theorem dX3_readNumbers_5 : decode cX3_readNumbers 5 = .ok (.iload_n 1, 1) := by decide +kernel
theorem dX3_readNumbers_6 : decode cX3_readNumbers 6 = .ok (.istore_n 2, 1) := by decide +kernel
theorem dX3_readNumbers_7 : decode cX3_readNumbers 7 = .ok (.iconst 0, 1) := by decide +kernel
theorem dX3_readNumbers_8 : decode cX3_readNumbers 8 = .ok (.istore_n 3, 1) := by decide +kernel
theorem dX3_readNumbers_9 : decode cX3_readNumbers 9 = .ok (.iload_n 3, 1) := by decide +kernel
theorem dX3_readNumbers_10 : decode cX3_readNumbers 10 = .ok (.iconst 3, 1) := by decide +kernel
theorem dX3_readNumbers_11 : decode cX3_readNumbers 11 = .ok (.if_icmp .ge 84, 3) := by decide +kernel
theorem dX3_readNumbers_14 : decode cX3_readNumbers 14 = .ok (.aload_n 0, 1) := by decide +kernel
theorem dX3_readNumbers_15 : decode cX3_readNumbers 15 = .ok (.iload_n 2, 1) := by decide +kernel
theorem dX3_readNumbers_16 : decode cX3_readNumbers 16 = .ok (.invokevirtual 45, 3) := by decide +kernel
theorem dX3_readNumbers_19 : decode cX3_readNumbers 19 = .ok (.istore 4, 2) := by decide +kernel
theorem dX3_readNumbers_21 : decode cX3_readNumbers 21 = .ok (.iload 4, 2) := by decide +kernel
theorem dX3_readNumbers_23 : decode cX3_readNumbers 23 = .ok (.iconst 1, 1) := by decide +kernel
theorem dX3_readNumbers_24 : decode cX3_readNumbers 24 = .ok (.if_icmp .ge 6, 3) := by decide +kernel
theorem dX3_readNumbers_27 : decode cX3_readNumbers 27 = .ok (.bipush (-4), 2) := by decide +kernel
theorem dX3_readNumbers_29 : decode cX3_readNumbers 29 = .ok (.ireturn, 1) := by decide +kernel
theorem dX3_readNumbers_30 : decode cX3_readNumbers 30 = .ok (.aload_n 0, 1) := by decide +kernel
theorem dX3_readNumbers_31 : decode cX3_readNumbers 31 = .ok (.getfield 15, 3) := by decide +kernel
theorem dX3_readNumbers_34 : decode cX3_readNumbers 34 = .ok (.iload_n 3, 1) := by decide +kernel
theorem dX3_readNumbers_35 : decode cX3_readNumbers 35 = .ok (.aload_n 0, 1) := by decide +kernel
theorem dX3_readNumbers_36 : decode cX3_readNumbers 36 = .ok (.iload_n 2, 1) := by decide +kernel
theorem dX3_readNumbers_37 : decode cX3_readNumbers 37 = .ok (.iload 4, 2) := by decide +kernel
theorem dX3_readNumbers_39 : decode cX3_readNumbers 39 = .ok (.invokevirtual 48, 3) := by decide +kernel
theorem dX3_readNumbers_42 : decode cX3_readNumbers 42 = .ok (.invokestatic 22, 3) := by decide +kernel
theorem dX3_readNumbers_45 : decode cX3_readNumbers 45 = .ok (.aload_n 0, 1) := by decide +kernel
theorem dX3_readNumbers_46 : decode cX3_readNumbers 46 = .ok (.dup, 1) := by decide +kernel
theorem dX3_readNumbers_47 : decode cX3_readNumbers 47 = .ok (.getfield 42, 3) := by decide +kernel
theorem dX3_readNumbers_50 : decode cX3_readNumbers 50 = .ok (.iconst 1, 1) := by decide +kernel
theorem dX3_readNumbers_51 : decode cX3_readNumbers 51 = .ok (.iadd, 1) := by decide +kernel
theorem dX3_readNumbers_52 : decode cX3_readNumbers 52 = .ok (.putfield 42, 3) := by decide +kernel
theorem dX3_readNumbers_55 : decode cX3_readNumbers 55 = .ok (.iload_n 2, 1) := by decide +kernel
theorem dX3_readNumbers_56 : decode cX3_readNumbers 56 = .ok (.iload 4, 2) := by decide +kernel
theorem dX3_readNumbers_58 : decode cX3_readNumbers 58 = .ok (.iadd, 1) := by decide +kernel
theorem dX3_readNumbers_59 : decode cX3_readNumbers 59 = .ok (.istore_n 2, 1) := by decide +kernel
theorem dX3_readNumbers_60 : decode cX3_readNumbers 60 = .ok (.aload_n 0, 1) := by decide +kernel
theorem dX3_readNumbers_61 : decode cX3_readNumbers 61 = .ok (.iload_n 2, 1) := by decide +kernel
theorem dX3_readNumbers_62 : decode cX3_readNumbers 62 = .ok (.invokevirtual 35, 3) := by decide +kernel
theorem dX3_readNumbers_65 : decode cX3_readNumbers 65 = .ok (.istore 5, 2) := by decide +kernel
theorem dX3_readNumbers_67 : decode cX3_readNumbers 67 = .ok (.iinc 2 1, 3) := by decide +kernel
theorem dX3_readNumbers_70 : decode cX3_readNumbers 70 = .ok (.iload 5, 2) := by decide +kernel
theorem dX3_readNumbers_72 : decode cX3_readNumbers 72 = .ok (.bipush 59, 2) := by decide +kernel
theorem dX3_readNumbers_74 : decode cX3_readNumbers 74 = .ok (.if_icmp .ne 5, 3) := by decide +kernel
theorem dX3_readNumbers_77 : decode cX3_readNumbers 77 = .ok (.iload_n 2, 1) := by decide +kernel
theorem dX3_readNumbers_78 : decode cX3_readNumbers 78 = .ok (.ireturn, 1) := by decide +kernel
theorem dX3_readNumbers_79 : decode cX3_readNumbers 79 = .ok (.iload 5, 2) := by decide +kernel
theorem dX3_readNumbers_81 : decode cX3_readNumbers 81 = .ok (.bipush 44, 2) := by decide +kernel
theorem dX3_readNumbers_83 : decode cX3_readNumbers 83 = .ok (.if_icmp .eq 6, 3) := by decide +kernel
theorem dX3_readNumbers_86 : decode cX3_readNumbers 86 = .ok (.bipush (-4), 2) := by decide +kernel
theorem dX3_readNumbers_88 : decode cX3_readNumbers 88 = .ok (.ireturn, 1) := by decide +kernel
theorem dX3_readNumbers_89 : decode cX3_readNumbers 89 = .ok (.iinc 3 1, 3) := by decide +kernel
theorem dX3_readNumbers_92 : decode cX3_readNumbers 92 = .ok (.goto (-83), 3) := by decide +kernel
theorem dX3_readNumbers_95 : decode cX3_readNumbers 95 = .ok (.bipush (-4), 2) := by decide +kernel
theorem dX3_readNumbers_97 : decode cX3_readNumbers 97 = .ok (.ireturn, 1) := by decide +kernel
theorem dX3_tellItem_0 : decode cX3_tellItem 0 = .ok (.iload_n 1, 1) := by decide +kernel
theorem dX3_tellItem_1 : decode cX3_tellItem 1 = .ok (.lookupswitch 146 #[(97, 117), (112, 35), (118, 72)], 35) := by decide +kernel
theorem dX3_tellItem_36 : decode cX3_tellItem 36 = .ok (.aload_n 0, 1) := by decide +kernel
theorem dX3_tellItem_37 : decode cX3_tellItem 37 = .ok (.getfield 42, 3) := by decide +kernel
theorem dX3_tellItem_40 : decode cX3_tellItem 40 = .ok (.iconst 2, 1) := by decide +kernel
theorem dX3_tellItem_41 : decode cX3_tellItem 41 = .ok (.if_icmp .ne 30, 3) := by decide +kernel
theorem dX3_tellItem_44 : decode cX3_tellItem 44 = .ok (.aload_n 2, 1) := by decide +kernel
theorem dX3_tellItem_45 : decode cX3_tellItem 45 = .ok (.aload_n 0, 1) := by decide +kernel
theorem dX3_tellItem_46 : decode cX3_tellItem 46 = .ok (.getfield 15, 3) := by decide +kernel
theorem dX3_tellItem_49 : decode cX3_tellItem 49 = .ok (.iconst 0, 1) := by decide +kernel
theorem dX3_tellItem_50 : decode cX3_tellItem 50 = .ok (.invokestatic 52, 3) := by decide +kernel
theorem dX3_tellItem_53 : decode cX3_tellItem 53 = .ok (.aload_n 0, 1) := by decide +kernel
theorem dX3_tellItem_54 : decode cX3_tellItem 54 = .ok (.getfield 15, 3) := by decide +kernel
theorem dX3_tellItem_57 : decode cX3_tellItem 57 = .ok (.iconst 1, 1) := by decide +kernel
theorem dX3_tellItem_58 : decode cX3_tellItem 58 = .ok (.invokestatic 52, 3) := by decide +kernel
theorem dX3_tellItem_61 : decode cX3_tellItem 61 = .ok (.invokevirtual 56, 3) := by decide +kernel
theorem dX3_tellItem_64 : decode cX3_tellItem 64 = .ok (.ifCond .eq 7, 3) := by decide +kernel
theorem dX3_tellItem_67 : decode cX3_tellItem 67 = .ok (.iconst 1, 1) := by decide +kernel
theorem dX3_tellItem_68 : decode cX3_tellItem 68 = .ok (.goto 4, 3) := by decide +kernel
theorem dX3_tellItem_71 : decode cX3_tellItem 71 = .ok (.iconst 0, 1) := by decide +kernel
theorem dX3_tellItem_72 : decode cX3_tellItem 72 = .ok (.ireturn, 1) := by decide +kernel
theorem dX3_tellItem_73 : decode cX3_tellItem 73 = .ok (.aload_n 0, 1) := by decide +kernel
theorem dX3_tellItem_74 : decode cX3_tellItem 74 = .ok (.getfield 42, 3) := by decide +kernel
theorem dX3_tellItem_77 : decode cX3_tellItem 77 = .ok (.iconst 3, 1) := by decide +kernel
theorem dX3_tellItem_78 : decode cX3_tellItem 78 = .ok (.if_icmp .ne 38, 3) := by decide +kernel
theorem dX3_tellItem_81 : decode cX3_tellItem 81 = .ok (.aload_n 2, 1) := by decide +kernel
theorem dX3_tellItem_82 : decode cX3_tellItem 82 = .ok (.aload_n 0, 1) := by decide +kernel
theorem dX3_tellItem_83 : decode cX3_tellItem 83 = .ok (.getfield 15, 3) := by decide +kernel
theorem dX3_tellItem_86 : decode cX3_tellItem 86 = .ok (.iconst 0, 1) := by decide +kernel
theorem dX3_tellItem_87 : decode cX3_tellItem 87 = .ok (.invokestatic 52, 3) := by decide +kernel
theorem dX3_tellItem_90 : decode cX3_tellItem 90 = .ok (.aload_n 0, 1) := by decide +kernel
theorem dX3_tellItem_91 : decode cX3_tellItem 91 = .ok (.getfield 15, 3) := by decide +kernel
theorem dX3_tellItem_94 : decode cX3_tellItem 94 = .ok (.iconst 1, 1) := by decide +kernel
theorem dX3_tellItem_95 : decode cX3_tellItem 95 = .ok (.invokestatic 52, 3) := by decide +kernel
theorem dX3_tellItem_98 : decode cX3_tellItem 98 = .ok (.aload_n 0, 1) := by decide +kernel
theorem dX3_tellItem_99 : decode cX3_tellItem 99 = .ok (.getfield 15, 3) := by decide +kernel
theorem dX3_tellItem_102 : decode cX3_tellItem 102 = .ok (.iconst 2, 1) := by decide +kernel
theorem dX3_tellItem_103 : decode cX3_tellItem 103 = .ok (.invokestatic 52, 3) := by decide +kernel
theorem dX3_tellItem_106 : decode cX3_tellItem 106 = .ok (.invokevirtual 60, 3) := by decide +kernel
theorem dX3_tellItem_109 : decode cX3_tellItem 109 = .ok (.ifCond .eq 7, 3) := by decide +kernel
theorem dX3_tellItem_112 : decode cX3_tellItem 112 = .ok (.iconst 1, 1) := by decide +kernel
theorem dX3_tellItem_113 : decode cX3_tellItem 113 = .ok (.goto 4, 3) := by decide +kernel
theorem dX3_tellItem_116 : decode cX3_tellItem 116 = .ok (.iconst 0, 1) := by decide +kernel
theorem dX3_tellItem_117 : decode cX3_tellItem 117 = .ok (.ireturn, 1) := by decide +kernel
theorem dX3_tellItem_118 : decode cX3_tellItem 118 = .ok (.aload_n 0, 1) := by decide +kernel
theorem dX3_tellItem_119 : decode cX3_tellItem 119 = .ok (.getfield 42, 3) := by decide +kernel
theorem dX3_tellItem_122 : decode cX3_tellItem 122 = .ok (.iconst 1, 1) := by decide +kernel
theorem dX3_tellItem_123 : decode cX3_tellItem 123 = .ok (.if_icmp .ne 22, 3) := by decide +kernel
theorem dX3_tellItem_126 : decode cX3_tellItem 126 = .ok (.aload_n 2, 1) := by decide +kernel
theorem dX3_tellItem_127 : decode cX3_tellItem 127 = .ok (.aload_n 0, 1) := by decide +kernel
theorem dX3_tellItem_128 : decode cX3_tellItem 128 = .ok (.getfield 15, 3) := by decide +kernel
theorem dX3_tellItem_131 : decode cX3_tellItem 131 = .ok (.iconst 0, 1) := by decide +kernel
theorem dX3_tellItem_132 : decode cX3_tellItem 132 = .ok (.invokestatic 52, 3) := by decide +kernel
theorem dX3_tellItem_135 : decode cX3_tellItem 135 = .ok (.invokevirtual 64, 3) := by decide +kernel
theorem dX3_tellItem_138 : decode cX3_tellItem 138 = .ok (.ifCond .eq 7, 3) := by decide +kernel
theorem dX3_tellItem_141 : decode cX3_tellItem 141 = .ok (.iconst 1, 1) := by decide +kernel
theorem dX3_tellItem_142 : decode cX3_tellItem 142 = .ok (.goto 4, 3) := by decide +kernel
theorem dX3_tellItem_145 : decode cX3_tellItem 145 = .ok (.iconst 0, 1) := by decide +kernel
theorem dX3_tellItem_146 : decode cX3_tellItem 146 = .ok (.ireturn, 1) := by decide +kernel
theorem dX3_tellItem_147 : decode cX3_tellItem 147 = .ok (.iconst 0, 1) := by decide +kernel
theorem dX3_tellItem_148 : decode cX3_tellItem 148 = .ok (.ireturn, 1) := by decide +kernel
theorem dX3_figuresAt_0 : decode cX3_figuresAt 0 = .ok (.iconst 0, 1) := by decide +kernel
theorem dX3_figuresAt_1 : decode cX3_figuresAt 1 = .ok (.istore_n 2, 1) := by decide +kernel
theorem dX3_figuresAt_2 : decode cX3_figuresAt 2 = .ok (.iconst 0, 1) := by decide +kernel
theorem dX3_figuresAt_3 : decode cX3_figuresAt 3 = .ok (.istore_n 3, 1) := by decide +kernel
theorem dX3_figuresAt_4 : decode cX3_figuresAt 4 = .ok (.iload_n 3, 1) := by decide +kernel
theorem dX3_figuresAt_5 : decode cX3_figuresAt 5 = .ok (.iconst 2, 1) := by decide +kernel
theorem dX3_figuresAt_6 : decode cX3_figuresAt 6 = .ok (.if_icmp .ge 25, 3) := by decide +kernel
theorem dX3_figuresAt_9 : decode cX3_figuresAt 9 = .ok (.aload_n 0, 1) := by decide +kernel
theorem dX3_figuresAt_10 : decode cX3_figuresAt 10 = .ok (.iload_n 1, 1) := by decide +kernel
theorem dX3_figuresAt_11 : decode cX3_figuresAt 11 = .ok (.iload_n 3, 1) := by decide +kernel
theorem dX3_figuresAt_12 : decode cX3_figuresAt 12 = .ok (.iadd, 1) := by decide +kernel
theorem dX3_figuresAt_13 : decode cX3_figuresAt 13 = .ok (.invokevirtual 35, 3) := by decide +kernel
theorem dX3_figuresAt_16 : decode cX3_figuresAt 16 = .ok (.invokestatic 68, 3) := by decide +kernel
theorem dX3_figuresAt_19 : decode cX3_figuresAt 19 = .ok (.ifCond .eq 12, 3) := by decide +kernel
theorem dX3_figuresAt_22 : decode cX3_figuresAt 22 = .ok (.iinc 2 1, 3) := by decide +kernel
theorem dX3_figuresAt_25 : decode cX3_figuresAt 25 = .ok (.iinc 3 1, 3) := by decide +kernel
theorem dX3_figuresAt_28 : decode cX3_figuresAt 28 = .ok (.goto (-24), 3) := by decide +kernel
theorem dX3_figuresAt_31 : decode cX3_figuresAt 31 = .ok (.iload_n 2, 1) := by decide +kernel
theorem dX3_figuresAt_32 : decode cX3_figuresAt 32 = .ok (.ireturn, 1) := by decide +kernel
theorem dX3_numberAt_0 : decode cX3_numberAt 0 = .ok (.iconst 0, 1) := by decide +kernel
theorem dX3_numberAt_1 : decode cX3_numberAt 1 = .ok (.istore_n 3, 1) := by decide +kernel
theorem dX3_numberAt_2 : decode cX3_numberAt 2 = .ok (.iconst 0, 1) := by decide +kernel
theorem dX3_numberAt_3 : decode cX3_numberAt 3 = .ok (.istore 4, 2) := by decide +kernel
theorem dX3_numberAt_5 : decode cX3_numberAt 5 = .ok (.iload 4, 2) := by decide +kernel
theorem dX3_numberAt_7 : decode cX3_numberAt 7 = .ok (.iload_n 2, 1) := by decide +kernel
theorem dX3_numberAt_8 : decode cX3_numberAt 8 = .ok (.if_icmp .ge 26, 3) := by decide +kernel
theorem dX3_numberAt_11 : decode cX3_numberAt 11 = .ok (.iload_n 3, 1) := by decide +kernel
theorem dX3_numberAt_12 : decode cX3_numberAt 12 = .ok (.bipush 10, 2) := by decide +kernel
theorem dX3_numberAt_14 : decode cX3_numberAt 14 = .ok (.imul, 1) := by decide +kernel
theorem dX3_numberAt_15 : decode cX3_numberAt 15 = .ok (.aload_n 0, 1) := by decide +kernel
theorem dX3_numberAt_16 : decode cX3_numberAt 16 = .ok (.iload_n 1, 1) := by decide +kernel
theorem dX3_numberAt_17 : decode cX3_numberAt 17 = .ok (.iload 4, 2) := by decide +kernel
theorem dX3_numberAt_19 : decode cX3_numberAt 19 = .ok (.iadd, 1) := by decide +kernel
theorem dX3_numberAt_20 : decode cX3_numberAt 20 = .ok (.invokevirtual 35, 3) := by decide +kernel
theorem dX3_numberAt_23 : decode cX3_numberAt 23 = .ok (.iadd, 1) := by decide +kernel
theorem dX3_numberAt_24 : decode cX3_numberAt 24 = .ok (.bipush 48, 2) := by decide +kernel
theorem dX3_numberAt_26 : decode cX3_numberAt 26 = .ok (.isub, 1) := by decide +kernel
theorem dX3_numberAt_27 : decode cX3_numberAt 27 = .ok (.istore_n 3, 1) := by decide +kernel
theorem dX3_numberAt_28 : decode cX3_numberAt 28 = .ok (.iinc 4 1, 3) := by decide +kernel
theorem dX3_numberAt_31 : decode cX3_numberAt 31 = .ok (.goto (-26), 3) := by decide +kernel
theorem dX3_numberAt_34 : decode cX3_numberAt 34 = .ok (.iload_n 3, 1) := by decide +kernel
theorem dX3_numberAt_35 : decode cX3_numberAt 35 = .ok (.ireturn, 1) := by decide +kernel
theorem dX3_isFigure_0 : decode cX3_isFigure 0 = .ok (.iload_n 0, 1) := by decide +kernel
theorem dX3_isFigure_1 : decode cX3_isFigure 1 = .ok (.bipush 48, 2) := by decide +kernel
theorem dX3_isFigure_3 : decode cX3_isFigure 3 = .ok (.if_icmp .lt 13, 3) := by decide +kernel
theorem dX3_isFigure_6 : decode cX3_isFigure 6 = .ok (.iload_n 0, 1) := by decide +kernel
theorem dX3_isFigure_7 : decode cX3_isFigure 7 = .ok (.bipush 57, 2) := by decide +kernel
theorem dX3_isFigure_9 : decode cX3_isFigure 9 = .ok (.if_icmp .gt 7, 3) := by decide +kernel
theorem dX3_isFigure_12 : decode cX3_isFigure 12 = .ok (.iconst 1, 1) := by decide +kernel
theorem dX3_isFigure_13 : decode cX3_isFigure 13 = .ok (.goto 4, 3) := by decide +kernel
theorem dX3_isFigure_16 : decode cX3_isFigure 16 = .ok (.iconst 0, 1) := by decide +kernel
theorem dX3_isFigure_17 : decode cX3_isFigure 17 = .ok (.ireturn, 1) := by decide +kernel
theorem dX3_letterAt_0 : decode cX3_letterAt 0 = .ok (.iload_n 1, 1) := by decide +kernel
theorem dX3_letterAt_1 : decode cX3_letterAt 1 = .ok (.aload_n 0, 1) := by decide +kernel
theorem dX3_letterAt_2 : decode cX3_letterAt 2 = .ok (.getfield 18, 3) := by decide +kernel
theorem dX3_letterAt_5 : decode cX3_letterAt 5 = .ok (.if_icmp .ge 14, 3) := by decide +kernel
theorem dX3_letterAt_8 : decode cX3_letterAt 8 = .ok (.aload_n 0, 1) := by decide +kernel
theorem dX3_letterAt_9 : decode cX3_letterAt 9 = .ok (.getfield 9, 3) := by decide +kernel
theorem dX3_letterAt_12 : decode cX3_letterAt 12 = .ok (.iload_n 1, 1) := by decide +kernel
theorem dX3_letterAt_13 : decode cX3_letterAt 13 = .ok (.invokestatic 52, 3) := by decide +kernel
theorem dX3_letterAt_16 : decode cX3_letterAt 16 = .ok (.goto 5, 3) := by decide +kernel
theorem dX3_letterAt_19 : decode cX3_letterAt 19 = .ok (.bipush (-4), 2) := by decide +kernel
theorem dX3_letterAt_21 : decode cX3_letterAt 21 = .ok (.ireturn, 1) := by decide +kernel
theorem dX4_init_0 : decode cX4_init 0 = .ok (.aload_n 0, 1) := by decide +kernel
theorem dX4_init_1 : decode cX4_init 1 = .ok (.invokespecial 1, 3) := by decide +kernel
theorem dX4_init_4 : decode cX4_init 4 = .ok (.aload_n 0, 1) := by decide +kernel
theorem dX4_init_5 : decode cX4_init 5 = .ok (.new 7, 3) := by decide +kernel
theorem dX4_init_8 : decode cX4_init 8 = .ok (.dup, 1) := by decide +kernel
theorem dX4_init_9 : decode cX4_init 9 = .ok (.invokespecial 9, 3) := by decide +kernel
theorem dX4_init_12 : decode cX4_init 12 = .ok (.putfield 10, 3) := by decide +kernel
theorem dX4_init_15 : decode cX4_init 15 = .ok (.aload_n 0, 1) := by decide +kernel
theorem dX4_init_16 : decode cX4_init 16 = .ok (.new 16, 3) := by decide +kernel
theorem dX4_init_19 : decode cX4_init 19 = .ok (.dup, 1) := by decide +kernel
theorem dX4_init_20 : decode cX4_init 20 = .ok (.invokespecial 18, 3) := by decide +kernel
theorem dX4_init_23 : decode cX4_init 23 = .ok (.putfield 19, 3) := by decide +kernel
theorem dX4_init_26 : decode cX4_init 26 = .ok (.aload_n 0, 1) := by decide +kernel
theorem dX4_init_27 : decode cX4_init 27 = .ok (.new 16, 3) := by decide +kernel
theorem dX4_init_30 : decode cX4_init 30 = .ok (.dup, 1) := by decide +kernel
theorem dX4_init_31 : decode cX4_init 31 = .ok (.invokespecial 18, 3) := by decide +kernel
theorem dX4_init_34 : decode cX4_init 34 = .ok (.putfield 23, 3) := by decide +kernel
theorem dX4_init_37 : decode cX4_init 37 = .ok (.aload_n 0, 1) := by decide +kernel
theorem dX4_init_38 : decode cX4_init 38 = .ok (.new 26, 3) := by decide +kernel
theorem dX4_init_41 : decode cX4_init 41 = .ok (.dup, 1) := by decide +kernel
theorem dX4_init_42 : decode cX4_init 42 = .ok (.bipush 8, 2) := by decide +kernel
theorem dX4_init_44 : decode cX4_init 44 = .ok (.invokespecial 28, 3) := by decide +kernel
theorem dX4_init_47 : decode cX4_init 47 = .ok (.putfield 31, 3) := by decide +kernel
theorem dX4_init_50 : decode cX4_init 50 = .ok (.aload_n 0, 1) := by decide +kernel
theorem dX4_init_51 : decode cX4_init 51 = .ok (.new 26, 3) := by decide +kernel
theorem dX4_init_54 : decode cX4_init 54 = .ok (.dup, 1) := by decide +kernel
theorem dX4_init_55 : decode cX4_init 55 = .ok (.iconst 2, 1) := by decide +kernel
theorem dX4_init_56 : decode cX4_init 56 = .ok (.invokespecial 28, 3) := by decide +kernel
theorem dX4_init_59 : decode cX4_init 59 = .ok (.putfield 35, 3) := by decide +kernel
theorem dX4_init_62 : decode cX4_init 62 = .ok (.aload_n 0, 1) := by decide +kernel
theorem dX4_init_63 : decode cX4_init 63 = .ok (.new 38, 3) := by decide +kernel
theorem dX4_init_66 : decode cX4_init 66 = .ok (.dup, 1) := by decide +kernel
theorem dX4_init_67 : decode cX4_init 67 = .ok (.invokespecial 40, 3) := by decide +kernel
theorem dX4_init_70 : decode cX4_init 70 = .ok (.putfield 41, 3) := by decide +kernel
theorem dX4_init_73 : decode cX4_init 73 = .ok (.aload_n 0, 1) := by decide +kernel
theorem dX4_init_74 : decode cX4_init 74 = .ok (.bipush 41, 2) := by decide +kernel
theorem dX4_init_76 : decode cX4_init 76 = .ok (.newarray .int, 2) := by decide +kernel
theorem dX4_init_78 : decode cX4_init 78 = .ok (.putfield 45, 3) := by decide +kernel
theorem dX4_init_81 : decode cX4_init 81 = .ok (.iconst 0, 1) := by decide +kernel
theorem dX4_init_82 : decode cX4_init 82 = .ok (.istore_n 1, 1) := by decide +kernel
theorem dX4_init_83 : decode cX4_init 83 = .ok (.iload_n 1, 1) := by decide +kernel
theorem dX4_init_84 : decode cX4_init 84 = .ok (.ldc 49, 2) := by decide +kernel
theorem dX4_init_86 : decode cX4_init 86 = .ok (.invokevirtual 51, 3) := by decide +kernel
theorem dX4_init_89 : decode cX4_init 89 = .ok (.if_icmp .ge 22, 3) := by decide +kernel
theorem dX4_init_92 : decode cX4_init 92 = .ok (.aload_n 0, 1) := by decide +kernel
theorem dX4_init_93 : decode cX4_init 93 = .ok (.getfield 10, 3) := by decide +kernel
theorem dX4_init_96 : decode cX4_init 96 = .ok (.ldc 49, 2) := by decide +kernel
theorem dX4_init_98 : decode cX4_init 98 = .ok (.iload_n 1, 1) := by decide +kernel
theorem dX4_init_99 : decode cX4_init 99 = .ok (.invokevirtual 57, 3) := by decide +kernel
theorem dX4_init_102 : decode cX4_init 102 = .ok (.invokevirtual 61, 3) := by decide +kernel
theorem dX4_init_105 : decode cX4_init 105 = .ok (.iinc 1 1, 3) := by decide +kernel
theorem dX4_init_108 : decode cX4_init 108 = .ok (.goto (-25), 3) := by decide +kernel
theorem dX4_init_111 : decode cX4_init 111 = .ok (.aload_n 0, 1) := by decide +kernel
theorem dX4_init_112 : decode cX4_init 112 = .ok (.getfield 10, 3) := by decide +kernel
theorem dX4_init_115 : decode cX4_init 115 = .ok (.aload_n 0, 1) := by decide +kernel
theorem dX4_init_116 : decode cX4_init 116 = .ok (.getfield 19, 3) := by decide +kernel
theorem dX4_init_119 : decode cX4_init 119 = .ok (.invokevirtual 64, 3) := by decide +kernel
theorem dX4_init_122 : decode cX4_init 122 = .ok (.pop, 1) := by decide +kernel
theorem dX4_init_123 : decode cX4_init 123 = .ok (.aload_n 0, 1) := by decide +kernel
theorem dX4_init_124 : decode cX4_init 124 = .ok (.getfield 10, 3) := by decide +kernel
theorem dX4_init_127 : decode cX4_init 127 = .ok (.invokevirtual 68, 3) := by decide +kernel
theorem dX4_init_130 : decode cX4_init 130 = .ok (.return_, 1) := by decide +kernel
theorem dX4_write_0 : decode cX4_write 0 = .ok (.iload_n 1, 1) := by decide +kernel
theorem dX4_write_1 : decode cX4_write 1 = .ok (.bipush 32, 2) := by decide +kernel
theorem dX4_write_3 : decode cX4_write 3 = .ok (.if_icmp .lt 9, 3) := by decide +kernel
theorem dX4_write_6 : decode cX4_write 6 = .ok (.iload_n 1, 1) := by decide +kernel
theorem dX4_write_7 : decode cX4_write 7 = .ok (.bipush 126, 2) := by decide +kernel
theorem dX4_write_9 : decode cX4_write 9 = .ok (.if_icmp .le 5, 3) := by decide +kernel
theorem dX4_write_12 : decode cX4_write 12 = .ok (.iconst (-1), 1) := by decide +kernel
theorem dX4_write_13 : decode cX4_write 13 = .ok (.ireturn, 1) := by decide +kernel
theorem dX4_write_14 : decode cX4_write 14 = .ok (.aload_n 0, 1) := by decide +kernel
theorem dX4_write_15 : decode cX4_write 15 = .ok (.getfield 10, 3) := by decide +kernel
theorem dX4_write_18 : decode cX4_write 18 = .ok (.invokevirtual 71, 3) := by decide +kernel
theorem dX4_write_21 : decode cX4_write 21 = .ok (.sipush 200, 3) := by decide +kernel
theorem dX4_write_24 : decode cX4_write 24 = .ok (.if_icmp .lt 6, 3) := by decide +kernel
theorem dX4_write_27 : decode cX4_write 27 = .ok (.bipush (-3), 2) := by decide +kernel
theorem dX4_write_29 : decode cX4_write 29 = .ok (.ireturn, 1) := by decide +kernel
theorem dX4_write_30 : decode cX4_write 30 = .ok (.aload_n 0, 1) := by decide +kernel
theorem dX4_write_31 : decode cX4_write 31 = .ok (.getfield 10, 3) := by decide +kernel
theorem dX4_write_34 : decode cX4_write 34 = .ok (.iload_n 1, 1) := by decide +kernel
theorem dX4_write_35 : decode cX4_write 35 = .ok (.invokevirtual 61, 3) := by decide +kernel
theorem dX4_write_38 : decode cX4_write 38 = .ok (.aload_n 0, 1) := by decide +kernel
theorem dX4_write_39 : decode cX4_write 39 = .ok (.getfield 10, 3) := by decide +kernel
theorem dX4_write_42 : decode cX4_write 42 = .ok (.invokevirtual 71, 3) := by decide +kernel
theorem dX4_write_45 : decode cX4_write 45 = .ok (.ireturn, 1) := by decide +kernel
theorem dX4_wipe_0 : decode cX4_wipe 0 = .ok (.aload_n 0, 1) := by decide +kernel
theorem dX4_wipe_1 : decode cX4_wipe 1 = .ok (.getfield 10, 3) := by decide +kernel
theorem dX4_wipe_4 : decode cX4_wipe 4 = .ok (.invokevirtual 71, 3) := by decide +kernel
theorem dX4_wipe_7 : decode cX4_wipe 7 = .ok (.istore_n 1, 1) := by decide +kernel
theorem dX4_wipe_8 : decode cX4_wipe 8 = .ok (.aload_n 0, 1) := by decide +kernel
theorem dX4_wipe_9 : decode cX4_wipe 9 = .ok (.getfield 10, 3) := by decide +kernel
theorem dX4_wipe_12 : decode cX4_wipe 12 = .ok (.invokevirtual 68, 3) := by decide +kernel
theorem dX4_wipe_15 : decode cX4_wipe 15 = .ok (.iload_n 1, 1) := by decide +kernel
theorem dX4_wipe_16 : decode cX4_wipe 16 = .ok (.ireturn, 1) := by decide +kernel
theorem dX4_fault_0 : decode cX4_fault 0 = .ok (.aload_n 0, 1) := by decide +kernel
theorem dX4_fault_1 : decode cX4_fault 1 = .ok (.getfield 10, 3) := by decide +kernel
theorem dX4_fault_4 : decode cX4_fault 4 = .ok (.aload_n 0, 1) := by decide +kernel
theorem dX4_fault_5 : decode cX4_fault 5 = .ok (.getfield 23, 3) := by decide +kernel
theorem dX4_fault_8 : decode cX4_fault 8 = .ok (.invokevirtual 64, 3) := by decide +kernel
theorem dX4_fault_11 : decode cX4_fault 11 = .ok (.ireturn, 1) := by decide +kernel
theorem dX4_lay_0 : decode cX4_lay 0 = .ok (.aload_n 0, 1) := by decide +kernel
theorem dX4_lay_1 : decode cX4_lay 1 = .ok (.getfield 10, 3) := by decide +kernel
theorem dX4_lay_4 : decode cX4_lay 4 = .ok (.aload_n 0, 1) := by decide +kernel
theorem dX4_lay_5 : decode cX4_lay 5 = .ok (.getfield 23, 3) := by decide +kernel
theorem dX4_lay_8 : decode cX4_lay 8 = .ok (.invokevirtual 64, 3) := by decide +kernel
theorem dX4_lay_11 : decode cX4_lay 11 = .ok (.bipush (-4), 2) := by decide +kernel
theorem dX4_lay_13 : decode cX4_lay 13 = .ok (.if_icmp .ne 13, 3) := by decide +kernel
theorem dX4_lay_16 : decode cX4_lay 16 = .ok (.aload_n 0, 1) := by decide +kernel
theorem dX4_lay_17 : decode cX4_lay 17 = .ok (.getfield 23, 3) := by decide +kernel
theorem dX4_lay_20 : decode cX4_lay 20 = .ok (.invokevirtual 74, 3) := by decide +kernel
theorem dX4_lay_23 : decode cX4_lay 23 = .ok (.ifCond .ne 6, 3) := by decide +kernel
theorem dX4_lay_26 : decode cX4_lay 26 = .ok (.bipush (-2), 2) := by decide +kernel
theorem dX4_lay_28 : decode cX4_lay 28 = .ok (.ireturn, 1) := by decide +kernel
theorem dX4_lay_29 : decode cX4_lay 29 = .ok (.aload_n 0, 1) := by decide +kernel
theorem dX4_lay_30 : decode cX4_lay 30 = .ok (.getfield 19, 3) := by decide +kernel
theorem dX4_lay_33 : decode cX4_lay 33 = .ok (.aload_n 0, 1) := by decide +kernel
theorem dX4_lay_34 : decode cX4_lay 34 = .ok (.getfield 23, 3) := by decide +kernel
theorem dX4_lay_37 : decode cX4_lay 37 = .ok (.invokevirtual 78, 3) := by decide +kernel
theorem dX4_lay_40 : decode cX4_lay 40 = .ok (.aload_n 0, 1) := by decide +kernel
theorem dX4_lay_41 : decode cX4_lay 41 = .ok (.getfield 41, 3) := by decide +kernel
theorem dX4_lay_44 : decode cX4_lay 44 = .ok (.invokevirtual 82, 3) := by decide +kernel
theorem dX4_lay_47 : decode cX4_lay 47 = .ok (.aload_n 0, 1) := by decide +kernel
theorem dX4_lay_48 : decode cX4_lay 48 = .ok (.getfield 31, 3) := by decide +kernel
theorem dX4_lay_51 : decode cX4_lay 51 = .ok (.invokevirtual 83, 3) := by decide +kernel
theorem dX4_lay_54 : decode cX4_lay 54 = .ok (.aload_n 0, 1) := by decide +kernel
theorem dX4_lay_55 : decode cX4_lay 55 = .ok (.getfield 35, 3) := by decide +kernel
theorem dX4_lay_58 : decode cX4_lay 58 = .ok (.invokevirtual 83, 3) := by decide +kernel
theorem dX4_lay_61 : decode cX4_lay 61 = .ok (.aload_n 0, 1) := by decide +kernel
theorem dX4_lay_62 : decode cX4_lay 62 = .ok (.getfield 19, 3) := by decide +kernel
theorem dX4_lay_65 : decode cX4_lay 65 = .ok (.invokevirtual 84, 3) := by decide +kernel
theorem dX4_lay_68 : decode cX4_lay 68 = .ok (.ireturn, 1) := by decide +kernel
theorem dX4_person_0 : decode cX4_person 0 = .ok (.aload_n 0, 1) := by decide +kernel
theorem dX4_person_1 : decode cX4_person 1 = .ok (.getfield 19, 3) := by decide +kernel
theorem dX4_person_4 : decode cX4_person 4 = .ok (.iload_n 1, 1) := by decide +kernel
theorem dX4_person_5 : decode cX4_person 5 = .ok (.invokevirtual 87, 3) := by decide +kernel
theorem dX4_person_8 : decode cX4_person 8 = .ok (.ifCond .eq 11, 3) := by decide +kernel
theorem dX4_person_11 : decode cX4_person 11 = .ok (.iload_n 2, 1) := by decide +kernel
theorem dX4_person_12 : decode cX4_person 12 = .ok (.iconst 1, 1) := by decide +kernel
theorem dX4_person_13 : decode cX4_person 13 = .ok (.invokestatic 91, 3) := by decide +kernel
theorem dX4_person_16 : decode cX4_person 16 = .ok (.ifCond .ne 5, 3) := by decide +kernel
theorem dX4_person_19 : decode cX4_person 19 = .ok (.iconst (-1), 1) := by decide +kernel
theorem dX4_person_20 : decode cX4_person 20 = .ok (.ireturn, 1) := by decide +kernel
theorem dX4_person_21 : decode cX4_person 21 = .ok (.iload_n 2, 1) := by decide +kernel
theorem dX4_person_22 : decode cX4_person 22 = .ok (.ifCond .ne 14, 3) := by decide +kernel
theorem dX4_person_25 : decode cX4_person 25 = .ok (.aload_n 0, 1) := by decide +kernel
theorem dX4_person_26 : decode cX4_person 26 = .ok (.getfield 19, 3) := by decide +kernel
theorem dX4_person_29 : decode cX4_person 29 = .ok (.iload_n 1, 1) := by decide +kernel
theorem dX4_person_30 : decode cX4_person 30 = .ok (.invokevirtual 95, 3) := by decide +kernel
theorem dX4_person_33 : decode cX4_person 33 = .ok (.goto 11, 3) := by decide +kernel
theorem dX4_person_36 : decode cX4_person 36 = .ok (.aload_n 0, 1) := by decide +kernel
theorem dX4_person_37 : decode cX4_person 37 = .ok (.getfield 19, 3) := by decide +kernel
theorem dX4_person_40 : decode cX4_person 40 = .ok (.iload_n 1, 1) := by decide +kernel
theorem dX4_person_41 : decode cX4_person 41 = .ok (.invokevirtual 99, 3) := by decide +kernel
theorem dX4_person_44 : decode cX4_person 44 = .ok (.ireturn, 1) := by decide +kernel
theorem dX4_view_0 : decode cX4_view 0 = .ok (.aload_n 0, 1) := by decide +kernel
theorem dX4_view_1 : decode cX4_view 1 = .ok (.getfield 19, 3) := by decide +kernel
theorem dX4_view_4 : decode cX4_view 4 = .ok (.iload_n 1, 1) := by decide +kernel
theorem dX4_view_5 : decode cX4_view 5 = .ok (.invokevirtual 87, 3) := by decide +kernel
theorem dX4_view_8 : decode cX4_view 8 = .ok (.ifCond .eq 10, 3) := by decide +kernel
theorem dX4_view_11 : decode cX4_view 11 = .ok (.iload_n 2, 1) := by decide +kernel
theorem dX4_view_12 : decode cX4_view 12 = .ok (.invokestatic 102, 3) := by decide +kernel
theorem dX4_view_15 : decode cX4_view 15 = .ok (.ifCond .ne 5, 3) := by decide +kernel
theorem dX4_view_18 : decode cX4_view 18 = .ok (.iconst (-1), 1) := by decide +kernel
theorem dX4_view_19 : decode cX4_view 19 = .ok (.ireturn, 1) := by decide +kernel
theorem dX4_view_20 : decode cX4_view 20 = .ok (.aload_n 0, 1) := by decide +kernel
theorem dX4_view_21 : decode cX4_view 21 = .ok (.getfield 19, 3) := by decide +kernel
theorem dX4_view_24 : decode cX4_view 24 = .ok (.iload_n 1, 1) := by decide +kernel
theorem dX4_view_25 : decode cX4_view 25 = .ok (.iload_n 2, 1) := by decide +kernel
theorem dX4_view_26 : decode cX4_view 26 = .ok (.invokevirtual 105, 3) := by decide +kernel
theorem dX4_view_29 : decode cX4_view 29 = .ok (.bipush 9, 2) := by decide +kernel
theorem dX4_view_31 : decode cX4_view 31 = .ok (.iadd, 1) := by decide +kernel
theorem dX4_view_32 : decode cX4_view 32 = .ok (.ireturn, 1) := by decide +kernel
theorem dX4_line_0 : decode cX4_line 0 = .ok (.aload_n 0, 1) := by decide +kernel
theorem dX4_line_1 : decode cX4_line 1 = .ok (.getfield 19, 3) := by decide +kernel
theorem dX4_line_4 : decode cX4_line 4 = .ok (.iload_n 1, 1) := by decide +kernel
theorem dX4_line_5 : decode cX4_line 5 = .ok (.invokevirtual 109, 3) := by decide +kernel
theorem dX4_line_8 : decode cX4_line 8 = .ok (.ifCond .eq 10, 3) := by decide +kernel
theorem dX4_line_11 : decode cX4_line 11 = .ok (.iload_n 2, 1) := by decide +kernel
theorem dX4_line_12 : decode cX4_line 12 = .ok (.invokestatic 102, 3) := by decide +kernel
theorem dX4_line_15 : decode cX4_line 15 = .ok (.ifCond .ne 5, 3) := by decide +kernel
theorem dX4_line_18 : decode cX4_line 18 = .ok (.iconst (-1), 1) := by decide +kernel
theorem dX4_line_19 : decode cX4_line 19 = .ok (.ireturn, 1) := by decide +kernel
theorem dX4_line_20 : decode cX4_line 20 = .ok (.aload_n 0, 1) := by decide +kernel
theorem dX4_line_21 : decode cX4_line 21 = .ok (.getfield 19, 3) := by decide +kernel
theorem dX4_line_24 : decode cX4_line 24 = .ok (.iload_n 1, 1) := by decide +kernel
theorem dX4_line_25 : decode cX4_line 25 = .ok (.iload_n 2, 1) := by decide +kernel
theorem dX4_line_26 : decode cX4_line 26 = .ok (.invokevirtual 112, 3) := by decide +kernel
theorem dX4_line_29 : decode cX4_line 29 = .ok (.invokestatic 115, 3) := by decide +kernel
theorem dX4_line_32 : decode cX4_line 32 = .ok (.ireturn, 1) := by decide +kernel
theorem dX4_would_0 : decode cX4_would 0 = .ok (.aload_n 0, 1) := by decide +kernel
theorem dX4_would_1 : decode cX4_would 1 = .ok (.getfield 19, 3) := by decide +kernel
theorem dX4_would_4 : decode cX4_would 4 = .ok (.iload_n 1, 1) := by decide +kernel
theorem dX4_would_5 : decode cX4_would 5 = .ok (.invokevirtual 87, 3) := by decide +kernel
theorem dX4_would_8 : decode cX4_would 8 = .ok (.ifCond .eq 19, 3) := by decide +kernel
theorem dX4_would_11 : decode cX4_would 11 = .ok (.iload_n 2, 1) := by decide +kernel
theorem dX4_would_12 : decode cX4_would 12 = .ok (.invokestatic 102, 3) := by decide +kernel
theorem dX4_would_15 : decode cX4_would 15 = .ok (.ifCond .eq 12, 3) := by decide +kernel
theorem dX4_would_18 : decode cX4_would 18 = .ok (.iload_n 3, 1) := by decide +kernel
theorem dX4_would_19 : decode cX4_would 19 = .ok (.bipush 10, 2) := by decide +kernel
theorem dX4_would_21 : decode cX4_would 21 = .ok (.invokestatic 91, 3) := by decide +kernel
theorem dX4_would_24 : decode cX4_would 24 = .ok (.ifCond .ne 5, 3) := by decide +kernel
theorem dX4_would_27 : decode cX4_would 27 = .ok (.iconst (-1), 1) := by decide +kernel
theorem dX4_would_28 : decode cX4_would 28 = .ok (.ireturn, 1) := by decide +kernel
theorem dX4_would_29 : decode cX4_would 29 = .ok (.aload_n 0, 1) := by decide +kernel
theorem dX4_would_30 : decode cX4_would 30 = .ok (.getfield 19, 3) := by decide +kernel
theorem dX4_would_33 : decode cX4_would 33 = .ok (.iload_n 1, 1) := by decide +kernel
theorem dX4_would_34 : decode cX4_would 34 = .ok (.iload_n 2, 1) := by decide +kernel
theorem dX4_would_35 : decode cX4_would 35 = .ok (.iload_n 3, 1) := by decide +kernel
theorem dX4_would_36 : decode cX4_would 36 = .ok (.invokevirtual 118, 3) := by decide +kernel
theorem dX4_would_39 : decode cX4_would 39 = .ok (.bipush 9, 2) := by decide +kernel
theorem dX4_would_41 : decode cX4_would 41 = .ok (.iadd, 1) := by decide +kernel
theorem dX4_would_42 : decode cX4_would 42 = .ok (.ireturn, 1) := by decide +kernel
theorem dX4_set_0 : decode cX4_set 0 = .ok (.aload_n 0, 1) := by decide +kernel
theorem dX4_set_1 : decode cX4_set 1 = .ok (.getfield 19, 3) := by decide +kernel
theorem dX4_set_4 : decode cX4_set 4 = .ok (.iload_n 1, 1) := by decide +kernel
theorem dX4_set_5 : decode cX4_set 5 = .ok (.invokevirtual 109, 3) := by decide +kernel
theorem dX4_set_8 : decode cX4_set 8 = .ok (.ifCond .eq 31, 3) := by decide +kernel
theorem dX4_set_11 : decode cX4_set 11 = .ok (.aload_n 0, 1) := by decide +kernel
theorem dX4_set_12 : decode cX4_set 12 = .ok (.getfield 19, 3) := by decide +kernel
theorem dX4_set_15 : decode cX4_set 15 = .ok (.iload_n 2, 1) := by decide +kernel
theorem dX4_set_16 : decode cX4_set 16 = .ok (.invokevirtual 87, 3) := by decide +kernel
theorem dX4_set_19 : decode cX4_set 19 = .ok (.ifCond .eq 20, 3) := by decide +kernel
theorem dX4_set_22 : decode cX4_set 22 = .ok (.iload_n 3, 1) := by decide +kernel
theorem dX4_set_23 : decode cX4_set 23 = .ok (.invokestatic 102, 3) := by decide +kernel
theorem dX4_set_26 : decode cX4_set 26 = .ok (.ifCond .eq 13, 3) := by decide +kernel
theorem dX4_set_29 : decode cX4_set 29 = .ok (.iload 4, 2) := by decide +kernel
theorem dX4_set_31 : decode cX4_set 31 = .ok (.bipush 10, 2) := by decide +kernel
theorem dX4_set_33 : decode cX4_set 33 = .ok (.invokestatic 91, 3) := by decide +kernel
theorem dX4_set_36 : decode cX4_set 36 = .ok (.ifCond .ne 5, 3) := by decide +kernel
theorem dX4_set_39 : decode cX4_set 39 = .ok (.iconst (-1), 1) := by decide +kernel
theorem dX4_set_40 : decode cX4_set 40 = .ok (.ireturn, 1) := by decide +kernel
theorem dX4_set_41 : decode cX4_set 41 = .ok (.aload_n 0, 1) := by decide +kernel
theorem dX4_set_42 : decode cX4_set 42 = .ok (.getfield 31, 3) := by decide +kernel
theorem dX4_set_45 : decode cX4_set 45 = .ok (.aload_n 0, 1) := by decide +kernel
theorem dX4_set_46 : decode cX4_set 46 = .ok (.getfield 19, 3) := by decide +kernel
theorem dX4_set_49 : decode cX4_set 49 = .ok (.invokevirtual 122, 3) := by decide +kernel
theorem dX4_set_52 : decode cX4_set 52 = .ok (.aload_n 0, 1) := by decide +kernel
theorem dX4_set_53 : decode cX4_set 53 = .ok (.getfield 19, 3) := by decide +kernel
theorem dX4_set_56 : decode cX4_set 56 = .ok (.iload_n 2, 1) := by decide +kernel
theorem dX4_set_57 : decode cX4_set 57 = .ok (.iload_n 3, 1) := by decide +kernel
theorem dX4_set_58 : decode cX4_set 58 = .ok (.iload 4, 2) := by decide +kernel
theorem dX4_set_60 : decode cX4_set 60 = .ok (.invokevirtual 118, 3) := by decide +kernel
theorem dX4_set_63 : decode cX4_set 63 = .ok (.istore 5, 2) := by decide +kernel
theorem dX4_set_65 : decode cX4_set 65 = .ok (.aload_n 0, 1) := by decide +kernel
theorem dX4_set_66 : decode cX4_set 66 = .ok (.getfield 19, 3) := by decide +kernel
theorem dX4_set_69 : decode cX4_set 69 = .ok (.iload_n 1, 1) := by decide +kernel
theorem dX4_set_70 : decode cX4_set 70 = .ok (.iload_n 3, 1) := by decide +kernel
theorem dX4_set_71 : decode cX4_set 71 = .ok (.iload 5, 2) := by decide +kernel
theorem dX4_set_73 : decode cX4_set 73 = .ok (.invokevirtual 125, 3) := by decide +kernel
theorem dX4_set_76 : decode cX4_set 76 = .ok (.iload 5, 2) := by decide +kernel
theorem dX4_set_78 : decode cX4_set 78 = .ok (.bipush 9, 2) := by decide +kernel
theorem dX4_set_80 : decode cX4_set 80 = .ok (.iadd, 1) := by decide +kernel
theorem dX4_set_81 : decode cX4_set 81 = .ok (.ireturn, 1) := by decide +kernel
theorem dX4_erase_0 : decode cX4_erase 0 = .ok (.aload_n 0, 1) := by decide +kernel
theorem dX4_erase_1 : decode cX4_erase 1 = .ok (.getfield 19, 3) := by decide +kernel
theorem dX4_erase_4 : decode cX4_erase 4 = .ok (.iload_n 1, 1) := by decide +kernel
theorem dX4_erase_5 : decode cX4_erase 5 = .ok (.invokevirtual 109, 3) := by decide +kernel
theorem dX4_erase_8 : decode cX4_erase 8 = .ok (.ifCond .eq 21, 3) := by decide +kernel
theorem dX4_erase_11 : decode cX4_erase 11 = .ok (.aload_n 0, 1) := by decide +kernel
theorem dX4_erase_12 : decode cX4_erase 12 = .ok (.getfield 19, 3) := by decide +kernel
theorem dX4_erase_15 : decode cX4_erase 15 = .ok (.iload_n 2, 1) := by decide +kernel
theorem dX4_erase_16 : decode cX4_erase 16 = .ok (.invokevirtual 87, 3) := by decide +kernel
theorem dX4_erase_19 : decode cX4_erase 19 = .ok (.ifCond .eq 10, 3) := by decide +kernel
theorem dX4_erase_22 : decode cX4_erase 22 = .ok (.iload_n 3, 1) := by decide +kernel
theorem dX4_erase_23 : decode cX4_erase 23 = .ok (.invokestatic 102, 3) := by decide +kernel
theorem dX4_erase_26 : decode cX4_erase 26 = .ok (.ifCond .ne 5, 3) := by decide +kernel
theorem dX4_erase_29 : decode cX4_erase 29 = .ok (.iconst (-1), 1) := by decide +kernel
theorem dX4_erase_30 : decode cX4_erase 30 = .ok (.ireturn, 1) := by decide +kernel
theorem dX4_erase_31 : decode cX4_erase 31 = .ok (.aload_n 0, 1) := by decide +kernel
theorem dX4_erase_32 : decode cX4_erase 32 = .ok (.getfield 19, 3) := by decide +kernel
theorem dX4_erase_35 : decode cX4_erase 35 = .ok (.iload_n 1, 1) := by decide +kernel
theorem dX4_erase_36 : decode cX4_erase 36 = .ok (.iload_n 3, 1) := by decide +kernel
theorem dX4_erase_37 : decode cX4_erase 37 = .ok (.invokevirtual 112, 3) := by decide +kernel
theorem dX4_erase_40 : decode cX4_erase 40 = .ok (.istore 4, 2) := by decide +kernel
theorem dX4_erase_42 : decode cX4_erase 42 = .ok (.iload 4, 2) := by decide +kernel
theorem dX4_erase_44 : decode cX4_erase 44 = .ok (.bipush 100, 2) := by decide +kernel
theorem dX4_erase_46 : decode cX4_erase 46 = .ok (.if_icmp .ne 6, 3) := by decide +kernel
theorem dX4_erase_49 : decode cX4_erase 49 = .ok (.bipush (-2), 2) := by decide +kernel
theorem dX4_erase_51 : decode cX4_erase 51 = .ok (.ireturn, 1) := by decide +kernel
theorem dX4_erase_52 : decode cX4_erase 52 = .ok (.aload_n 0, 1) := by decide +kernel
theorem dX4_erase_53 : decode cX4_erase 53 = .ok (.getfield 31, 3) := by decide +kernel
theorem dX4_erase_56 : decode cX4_erase 56 = .ok (.aload_n 0, 1) := by decide +kernel
theorem dX4_erase_57 : decode cX4_erase 57 = .ok (.getfield 19, 3) := by decide +kernel
theorem dX4_erase_60 : decode cX4_erase 60 = .ok (.invokevirtual 122, 3) := by decide +kernel
theorem dX4_erase_63 : decode cX4_erase 63 = .ok (.aload_n 0, 1) := by decide +kernel
theorem dX4_erase_64 : decode cX4_erase 64 = .ok (.getfield 19, 3) := by decide +kernel
theorem dX4_erase_67 : decode cX4_erase 67 = .ok (.iload_n 1, 1) := by decide +kernel
theorem dX4_erase_68 : decode cX4_erase 68 = .ok (.iload_n 3, 1) := by decide +kernel
theorem dX4_erase_69 : decode cX4_erase 69 = .ok (.aload_n 0, 1) := by decide +kernel
theorem dX4_erase_70 : decode cX4_erase 70 = .ok (.getfield 19, 3) := by decide +kernel
theorem dX4_erase_73 : decode cX4_erase 73 = .ok (.iload_n 2, 1) := by decide +kernel
theorem dX4_erase_74 : decode cX4_erase 74 = .ok (.iload_n 3, 1) := by decide +kernel
theorem dX4_erase_75 : decode cX4_erase 75 = .ok (.invokevirtual 105, 3) := by decide +kernel
theorem dX4_erase_78 : decode cX4_erase 78 = .ok (.invokevirtual 125, 3) := by decide +kernel
theorem dX4_erase_81 : decode cX4_erase 81 = .ok (.iload 4, 2) := by decide +kernel
theorem dX4_erase_83 : decode cX4_erase 83 = .ok (.bipush 9, 2) := by decide +kernel
theorem dX4_erase_85 : decode cX4_erase 85 = .ok (.iadd, 1) := by decide +kernel
theorem dX4_erase_86 : decode cX4_erase 86 = .ok (.ireturn, 1) := by decide +kernel
theorem dX4_copy_0 : decode cX4_copy 0 = .ok (.aload_n 0, 1) := by decide +kernel
theorem dX4_copy_1 : decode cX4_copy 1 = .ok (.getfield 19, 3) := by decide +kernel
theorem dX4_copy_4 : decode cX4_copy 4 = .ok (.iload_n 1, 1) := by decide +kernel
theorem dX4_copy_5 : decode cX4_copy 5 = .ok (.invokevirtual 109, 3) := by decide +kernel
theorem dX4_copy_8 : decode cX4_copy 8 = .ok (.ifCond .eq 30, 3) := by decide +kernel
theorem dX4_copy_11 : decode cX4_copy 11 = .ok (.aload_n 0, 1) := by decide +kernel
theorem dX4_copy_12 : decode cX4_copy 12 = .ok (.getfield 19, 3) := by decide +kernel
theorem dX4_copy_15 : decode cX4_copy 15 = .ok (.iload_n 2, 1) := by decide +kernel
theorem dX4_copy_16 : decode cX4_copy 16 = .ok (.invokevirtual 109, 3) := by decide +kernel
theorem dX4_copy_19 : decode cX4_copy 19 = .ok (.ifCond .eq 19, 3) := by decide +kernel
theorem dX4_copy_22 : decode cX4_copy 22 = .ok (.iload_n 1, 1) := by decide +kernel
theorem dX4_copy_23 : decode cX4_copy 23 = .ok (.iload_n 2, 1) := by decide +kernel
theorem dX4_copy_24 : decode cX4_copy 24 = .ok (.if_icmp .eq 14, 3) := by decide +kernel
theorem dX4_copy_27 : decode cX4_copy 27 = .ok (.aload_n 0, 1) := by decide +kernel
theorem dX4_copy_28 : decode cX4_copy 28 = .ok (.getfield 19, 3) := by decide +kernel
theorem dX4_copy_31 : decode cX4_copy 31 = .ok (.iload_n 3, 1) := by decide +kernel
theorem dX4_copy_32 : decode cX4_copy 32 = .ok (.invokevirtual 87, 3) := by decide +kernel
theorem dX4_copy_35 : decode cX4_copy 35 = .ok (.ifCond .ne 5, 3) := by decide +kernel
theorem dX4_copy_38 : decode cX4_copy 38 = .ok (.iconst (-1), 1) := by decide +kernel
theorem dX4_copy_39 : decode cX4_copy 39 = .ok (.ireturn, 1) := by decide +kernel
theorem dX4_copy_40 : decode cX4_copy 40 = .ok (.aload_n 0, 1) := by decide +kernel
theorem dX4_copy_41 : decode cX4_copy 41 = .ok (.getfield 31, 3) := by decide +kernel
theorem dX4_copy_44 : decode cX4_copy 44 = .ok (.aload_n 0, 1) := by decide +kernel
theorem dX4_copy_45 : decode cX4_copy 45 = .ok (.getfield 19, 3) := by decide +kernel
theorem dX4_copy_48 : decode cX4_copy 48 = .ok (.invokevirtual 122, 3) := by decide +kernel
theorem dX4_copy_51 : decode cX4_copy 51 = .ok (.aload_n 0, 1) := by decide +kernel
theorem dX4_copy_52 : decode cX4_copy 52 = .ok (.getfield 19, 3) := by decide +kernel
theorem dX4_copy_55 : decode cX4_copy 55 = .ok (.iload_n 1, 1) := by decide +kernel
theorem dX4_copy_56 : decode cX4_copy 56 = .ok (.iload_n 2, 1) := by decide +kernel
theorem dX4_copy_57 : decode cX4_copy 57 = .ok (.iload_n 3, 1) := by decide +kernel
theorem dX4_copy_58 : decode cX4_copy 58 = .ok (.invokevirtual 129, 3) := by decide +kernel
theorem dX4_copy_61 : decode cX4_copy 61 = .ok (.aload_n 0, 1) := by decide +kernel
theorem dX4_copy_62 : decode cX4_copy 62 = .ok (.getfield 19, 3) := by decide +kernel
theorem dX4_copy_65 : decode cX4_copy 65 = .ok (.iload_n 2, 1) := by decide +kernel
theorem dX4_copy_66 : decode cX4_copy 66 = .ok (.invokevirtual 132, 3) := by decide +kernel
theorem dX4_copy_69 : decode cX4_copy 69 = .ok (.ireturn, 1) := by decide +kernel
theorem dX4_think_0 : decode cX4_think 0 = .ok (.aload_n 0, 1) := by decide +kernel
theorem dX4_think_1 : decode cX4_think 1 = .ok (.getfield 19, 3) := by decide +kernel
theorem dX4_think_4 : decode cX4_think 4 = .ok (.iload_n 1, 1) := by decide +kernel
theorem dX4_think_5 : decode cX4_think 5 = .ok (.invokevirtual 87, 3) := by decide +kernel
theorem dX4_think_8 : decode cX4_think 8 = .ok (.ifCond .eq 19, 3) := by decide +kernel
theorem dX4_think_11 : decode cX4_think 11 = .ok (.iload_n 2, 1) := by decide +kernel
theorem dX4_think_12 : decode cX4_think 12 = .ok (.invokestatic 102, 3) := by decide +kernel
theorem dX4_think_15 : decode cX4_think 15 = .ok (.ifCond .eq 12, 3) := by decide +kernel
theorem dX4_think_18 : decode cX4_think 18 = .ok (.iload_n 3, 1) := by decide +kernel
theorem dX4_think_19 : decode cX4_think 19 = .ok (.bipush 18, 2) := by decide +kernel
theorem dX4_think_21 : decode cX4_think 21 = .ok (.invokestatic 91, 3) := by decide +kernel
theorem dX4_think_24 : decode cX4_think 24 = .ok (.ifCond .ne 5, 3) := by decide +kernel
theorem dX4_think_27 : decode cX4_think 27 = .ok (.iconst (-1), 1) := by decide +kernel
theorem dX4_think_28 : decode cX4_think 28 = .ok (.ireturn, 1) := by decide +kernel
theorem dX4_think_29 : decode cX4_think 29 = .ok (.aload_n 0, 1) := by decide +kernel
theorem dX4_think_30 : decode cX4_think 30 = .ok (.getfield 31, 3) := by decide +kernel
theorem dX4_think_33 : decode cX4_think 33 = .ok (.aload_n 0, 1) := by decide +kernel
theorem dX4_think_34 : decode cX4_think 34 = .ok (.getfield 19, 3) := by decide +kernel
theorem dX4_think_37 : decode cX4_think 37 = .ok (.invokevirtual 122, 3) := by decide +kernel
theorem dX4_think_40 : decode cX4_think 40 = .ok (.aload_n 0, 1) := by decide +kernel
theorem dX4_think_41 : decode cX4_think 41 = .ok (.getfield 19, 3) := by decide +kernel
theorem dX4_think_44 : decode cX4_think 44 = .ok (.iload_n 1, 1) := by decide +kernel
theorem dX4_think_45 : decode cX4_think 45 = .ok (.iload_n 2, 1) := by decide +kernel
theorem dX4_think_46 : decode cX4_think 46 = .ok (.invokevirtual 105, 3) := by decide +kernel
theorem dX4_think_49 : decode cX4_think 49 = .ok (.istore 4, 2) := by decide +kernel
theorem dX4_think_51 : decode cX4_think 51 = .ok (.aload_n 0, 1) := by decide +kernel
theorem dX4_think_52 : decode cX4_think 52 = .ok (.getfield 19, 3) := by decide +kernel
theorem dX4_think_55 : decode cX4_think 55 = .ok (.iload_n 1, 1) := by decide +kernel
theorem dX4_think_56 : decode cX4_think 56 = .ok (.iload_n 2, 1) := by decide +kernel
theorem dX4_think_57 : decode cX4_think 57 = .ok (.iload_n 3, 1) := by decide +kernel
theorem dX4_think_58 : decode cX4_think 58 = .ok (.bipush 9, 2) := by decide +kernel
theorem dX4_think_60 : decode cX4_think 60 = .ok (.isub, 1) := by decide +kernel
theorem dX4_think_61 : decode cX4_think 61 = .ok (.invokevirtual 135, 3) := by decide +kernel
theorem dX4_think_64 : decode cX4_think 64 = .ok (.iload 4, 2) := by decide +kernel
theorem dX4_think_66 : decode cX4_think 66 = .ok (.bipush 9, 2) := by decide +kernel
theorem dX4_think_68 : decode cX4_think 68 = .ok (.iadd, 1) := by decide +kernel
theorem dX4_think_69 : decode cX4_think 69 = .ok (.ireturn, 1) := by decide +kernel
theorem dX4_mind_0 : decode cX4_mind 0 = .ok (.aload_n 0, 1) := by decide +kernel
theorem dX4_mind_1 : decode cX4_mind 1 = .ok (.getfield 19, 3) := by decide +kernel
theorem dX4_mind_4 : decode cX4_mind 4 = .ok (.iload_n 1, 1) := by decide +kernel
theorem dX4_mind_5 : decode cX4_mind 5 = .ok (.invokevirtual 87, 3) := by decide +kernel
theorem dX4_mind_8 : decode cX4_mind 8 = .ok (.ifCond .eq 14, 3) := by decide +kernel
theorem dX4_mind_11 : decode cX4_mind 11 = .ok (.aload_n 0, 1) := by decide +kernel
theorem dX4_mind_12 : decode cX4_mind 12 = .ok (.getfield 19, 3) := by decide +kernel
theorem dX4_mind_15 : decode cX4_mind 15 = .ok (.iload_n 2, 1) := by decide +kernel
theorem dX4_mind_16 : decode cX4_mind 16 = .ok (.invokevirtual 87, 3) := by decide +kernel
theorem dX4_mind_19 : decode cX4_mind 19 = .ok (.ifCond .ne 5, 3) := by decide +kernel
theorem dX4_mind_22 : decode cX4_mind 22 = .ok (.iconst (-1), 1) := by decide +kernel
theorem dX4_mind_23 : decode cX4_mind 23 = .ok (.ireturn, 1) := by decide +kernel
theorem dX4_mind_24 : decode cX4_mind 24 = .ok (.aload_n 0, 1) := by decide +kernel
theorem dX4_mind_25 : decode cX4_mind 25 = .ok (.getfield 31, 3) := by decide +kernel
theorem dX4_mind_28 : decode cX4_mind 28 = .ok (.aload_n 0, 1) := by decide +kernel
theorem dX4_mind_29 : decode cX4_mind 29 = .ok (.getfield 19, 3) := by decide +kernel
theorem dX4_mind_32 : decode cX4_mind 32 = .ok (.invokevirtual 122, 3) := by decide +kernel
theorem dX4_mind_35 : decode cX4_mind 35 = .ok (.aload_n 0, 1) := by decide +kernel
theorem dX4_mind_36 : decode cX4_mind 36 = .ok (.getfield 19, 3) := by decide +kernel
theorem dX4_mind_39 : decode cX4_mind 39 = .ok (.iload_n 1, 1) := by decide +kernel
theorem dX4_mind_40 : decode cX4_mind 40 = .ok (.invokevirtual 99, 3) := by decide +kernel
theorem dX4_mind_43 : decode cX4_mind 43 = .ok (.istore_n 3, 1) := by decide +kernel
theorem dX4_mind_44 : decode cX4_mind 44 = .ok (.aload_n 0, 1) := by decide +kernel
theorem dX4_mind_45 : decode cX4_mind 45 = .ok (.getfield 19, 3) := by decide +kernel
theorem dX4_mind_48 : decode cX4_mind 48 = .ok (.iload_n 1, 1) := by decide +kernel
theorem dX4_mind_49 : decode cX4_mind 49 = .ok (.iload_n 2, 1) := by decide +kernel
theorem dX4_mind_50 : decode cX4_mind 50 = .ok (.invokevirtual 138, 3) := by decide +kernel
theorem dX4_mind_53 : decode cX4_mind 53 = .ok (.iload_n 3, 1) := by decide +kernel
theorem dX4_mind_54 : decode cX4_mind 54 = .ok (.ireturn, 1) := by decide +kernel
theorem dX4_undo_0 : decode cX4_undo 0 = .ok (.aload_n 0, 1) := by decide +kernel
theorem dX4_undo_1 : decode cX4_undo 1 = .ok (.getfield 31, 3) := by decide +kernel
theorem dX4_undo_4 : decode cX4_undo 4 = .ok (.aload_n 0, 1) := by decide +kernel
theorem dX4_undo_5 : decode cX4_undo 5 = .ok (.getfield 19, 3) := by decide +kernel
theorem dX4_undo_8 : decode cX4_undo 8 = .ok (.invokevirtual 142, 3) := by decide +kernel
theorem dX4_undo_11 : decode cX4_undo 11 = .ok (.ifCond .eq 13, 3) := by decide +kernel
theorem dX4_undo_14 : decode cX4_undo 14 = .ok (.aload_n 0, 1) := by decide +kernel
theorem dX4_undo_15 : decode cX4_undo 15 = .ok (.getfield 31, 3) := by decide +kernel
theorem dX4_undo_18 : decode cX4_undo 18 = .ok (.invokevirtual 146, 3) := by decide +kernel
theorem dX4_undo_21 : decode cX4_undo 21 = .ok (.goto 5, 3) := by decide +kernel
theorem dX4_undo_24 : decode cX4_undo 24 = .ok (.bipush (-2), 2) := by decide +kernel
theorem dX4_undo_26 : decode cX4_undo 26 = .ok (.ireturn, 1) := by decide +kernel
theorem dX4_own_0 : decode cX4_own 0 = .ok (.aload_n 0, 1) := by decide +kernel
theorem dX4_own_1 : decode cX4_own 1 = .ok (.getfield 19, 3) := by decide +kernel
theorem dX4_own_4 : decode cX4_own 4 = .ok (.iload_n 1, 1) := by decide +kernel
theorem dX4_own_5 : decode cX4_own 5 = .ok (.invokevirtual 109, 3) := by decide +kernel
theorem dX4_own_8 : decode cX4_own 8 = .ok (.ifCond .eq 14, 3) := by decide +kernel
theorem dX4_own_11 : decode cX4_own 11 = .ok (.aload_n 0, 1) := by decide +kernel
theorem dX4_own_12 : decode cX4_own 12 = .ok (.getfield 19, 3) := by decide +kernel
theorem dX4_own_15 : decode cX4_own 15 = .ok (.iload_n 2, 1) := by decide +kernel
theorem dX4_own_16 : decode cX4_own 16 = .ok (.invokevirtual 87, 3) := by decide +kernel
theorem dX4_own_19 : decode cX4_own 19 = .ok (.ifCond .ne 5, 3) := by decide +kernel
theorem dX4_own_22 : decode cX4_own 22 = .ok (.iconst (-1), 1) := by decide +kernel
theorem dX4_own_23 : decode cX4_own 23 = .ok (.ireturn, 1) := by decide +kernel
theorem dX4_own_24 : decode cX4_own 24 = .ok (.iconst 0, 1) := by decide +kernel
theorem dX4_own_25 : decode cX4_own 25 = .ok (.istore_n 3, 1) := by decide +kernel
theorem dX4_own_26 : decode cX4_own 26 = .ok (.iconst 0, 1) := by decide +kernel
theorem dX4_own_27 : decode cX4_own 27 = .ok (.istore 4, 2) := by decide +kernel
theorem dX4_own_29 : decode cX4_own 29 = .ok (.iload 4, 2) := by decide +kernel
theorem dX4_own_31 : decode cX4_own 31 = .ok (.iconst 5, 1) := by decide +kernel
theorem dX4_own_32 : decode cX4_own 32 = .ok (.if_icmp .ge 39, 3) := by decide +kernel
theorem dX4_own_35 : decode cX4_own 35 = .ok (.aload_n 0, 1) := by decide +kernel
theorem dX4_own_36 : decode cX4_own 36 = .ok (.getfield 19, 3) := by decide +kernel
theorem dX4_own_39 : decode cX4_own 39 = .ok (.iload_n 1, 1) := by decide +kernel
theorem dX4_own_40 : decode cX4_own 40 = .ok (.iload 4, 2) := by decide +kernel
theorem dX4_own_42 : decode cX4_own 42 = .ok (.invokevirtual 112, 3) := by decide +kernel
theorem dX4_own_45 : decode cX4_own 45 = .ok (.aload_n 0, 1) := by decide +kernel
theorem dX4_own_46 : decode cX4_own 46 = .ok (.getfield 19, 3) := by decide +kernel
theorem dX4_own_49 : decode cX4_own 49 = .ok (.iload_n 2, 1) := by decide +kernel
theorem dX4_own_50 : decode cX4_own 50 = .ok (.iload 4, 2) := by decide +kernel
theorem dX4_own_52 : decode cX4_own 52 = .ok (.invokevirtual 105, 3) := by decide +kernel
theorem dX4_own_55 : decode cX4_own 55 = .ok (.if_icmp .ne 10, 3) := by decide +kernel
theorem dX4_own_58 : decode cX4_own 58 = .ok (.iload_n 3, 1) := by decide +kernel
theorem dX4_own_59 : decode cX4_own 59 = .ok (.iconst 1, 1) := by decide +kernel
theorem dX4_own_60 : decode cX4_own 60 = .ok (.iload 4, 2) := by decide +kernel
theorem dX4_own_62 : decode cX4_own 62 = .ok (.ishl, 1) := by decide +kernel
theorem dX4_own_63 : decode cX4_own 63 = .ok (.ior, 1) := by decide +kernel
theorem dX4_own_64 : decode cX4_own 64 = .ok (.istore_n 3, 1) := by decide +kernel
theorem dX4_own_65 : decode cX4_own 65 = .ok (.iinc 4 1, 3) := by decide +kernel
theorem dX4_own_68 : decode cX4_own 68 = .ok (.goto (-39), 3) := by decide +kernel
theorem dX4_own_71 : decode cX4_own 71 = .ok (.iload_n 3, 1) := by decide +kernel
theorem dX4_own_72 : decode cX4_own 72 = .ok (.ireturn, 1) := by decide +kernel
theorem dX4_tears_0 : decode cX4_tears 0 = .ok (.aload_n 0, 1) := by decide +kernel
theorem dX4_tears_1 : decode cX4_tears 1 = .ok (.getfield 19, 3) := by decide +kernel
theorem dX4_tears_4 : decode cX4_tears 4 = .ok (.iload_n 1, 1) := by decide +kernel
theorem dX4_tears_5 : decode cX4_tears 5 = .ok (.invokevirtual 87, 3) := by decide +kernel
theorem dX4_tears_8 : decode cX4_tears 8 = .ok (.ifCond .eq 19, 3) := by decide +kernel
theorem dX4_tears_11 : decode cX4_tears 11 = .ok (.iload_n 2, 1) := by decide +kernel
theorem dX4_tears_12 : decode cX4_tears 12 = .ok (.invokestatic 102, 3) := by decide +kernel
theorem dX4_tears_15 : decode cX4_tears 15 = .ok (.ifCond .eq 12, 3) := by decide +kernel
theorem dX4_tears_18 : decode cX4_tears 18 = .ok (.iload_n 3, 1) := by decide +kernel
theorem dX4_tears_19 : decode cX4_tears 19 = .ok (.bipush 18, 2) := by decide +kernel
theorem dX4_tears_21 : decode cX4_tears 21 = .ok (.invokestatic 91, 3) := by decide +kernel
theorem dX4_tears_24 : decode cX4_tears 24 = .ok (.ifCond .ne 5, 3) := by decide +kernel
theorem dX4_tears_27 : decode cX4_tears 27 = .ok (.iconst (-1), 1) := by decide +kernel
theorem dX4_tears_28 : decode cX4_tears 28 = .ok (.ireturn, 1) := by decide +kernel
theorem dX4_tears_29 : decode cX4_tears 29 = .ok (.iconst 0, 1) := by decide +kernel
theorem dX4_tears_30 : decode cX4_tears 30 = .ok (.istore 4, 2) := by decide +kernel
theorem dX4_tears_32 : decode cX4_tears 32 = .ok (.iload 4, 2) := by decide +kernel
theorem dX4_tears_34 : decode cX4_tears 34 = .ok (.bipush 10, 2) := by decide +kernel
theorem dX4_tears_36 : decode cX4_tears 36 = .ok (.if_icmp .gt 30, 3) := by decide +kernel
theorem dX4_tears_39 : decode cX4_tears 39 = .ok (.aload_n 0, 1) := by decide +kernel
theorem dX4_tears_40 : decode cX4_tears 40 = .ok (.getfield 19, 3) := by decide +kernel
theorem dX4_tears_43 : decode cX4_tears 43 = .ok (.iload_n 1, 1) := by decide +kernel
theorem dX4_tears_44 : decode cX4_tears 44 = .ok (.iload_n 2, 1) := by decide +kernel
theorem dX4_tears_45 : decode cX4_tears 45 = .ok (.iload 4, 2) := by decide +kernel
theorem dX4_tears_47 : decode cX4_tears 47 = .ok (.invokevirtual 118, 3) := by decide +kernel
theorem dX4_tears_50 : decode cX4_tears 50 = .ok (.iload_n 3, 1) := by decide +kernel
theorem dX4_tears_51 : decode cX4_tears 51 = .ok (.bipush 9, 2) := by decide +kernel
theorem dX4_tears_53 : decode cX4_tears 53 = .ok (.isub, 1) := by decide +kernel
theorem dX4_tears_54 : decode cX4_tears 54 = .ok (.if_icmp .ne 6, 3) := by decide +kernel
theorem dX4_tears_57 : decode cX4_tears 57 = .ok (.iload 4, 2) := by decide +kernel
theorem dX4_tears_59 : decode cX4_tears 59 = .ok (.ireturn, 1) := by decide +kernel
theorem dX4_tears_60 : decode cX4_tears 60 = .ok (.iinc 4 1, 3) := by decide +kernel
theorem dX4_tears_63 : decode cX4_tears 63 = .ok (.goto (-31), 3) := by decide +kernel
theorem dX4_tears_66 : decode cX4_tears 66 = .ok (.bipush (-4), 2) := by decide +kernel
theorem dX4_tears_68 : decode cX4_tears 68 = .ok (.ireturn, 1) := by decide +kernel
theorem dX4_whom_0 : decode cX4_whom 0 = .ok (.aload_n 0, 1) := by decide +kernel
theorem dX4_whom_1 : decode cX4_whom 1 = .ok (.getfield 19, 3) := by decide +kernel
theorem dX4_whom_4 : decode cX4_whom 4 = .ok (.iload_n 1, 1) := by decide +kernel
theorem dX4_whom_5 : decode cX4_whom 5 = .ok (.invokevirtual 87, 3) := by decide +kernel
theorem dX4_whom_8 : decode cX4_whom 8 = .ok (.ifCond .eq 19, 3) := by decide +kernel
theorem dX4_whom_11 : decode cX4_whom 11 = .ok (.iload_n 2, 1) := by decide +kernel
theorem dX4_whom_12 : decode cX4_whom 12 = .ok (.invokestatic 102, 3) := by decide +kernel
theorem dX4_whom_15 : decode cX4_whom 15 = .ok (.ifCond .eq 12, 3) := by decide +kernel
theorem dX4_whom_18 : decode cX4_whom 18 = .ok (.iload_n 3, 1) := by decide +kernel
theorem dX4_whom_19 : decode cX4_whom 19 = .ok (.bipush 18, 2) := by decide +kernel
theorem dX4_whom_21 : decode cX4_whom 21 = .ok (.invokestatic 91, 3) := by decide +kernel
theorem dX4_whom_24 : decode cX4_whom 24 = .ok (.ifCond .ne 5, 3) := by decide +kernel
theorem dX4_whom_27 : decode cX4_whom 27 = .ok (.iconst (-1), 1) := by decide +kernel
theorem dX4_whom_28 : decode cX4_whom 28 = .ok (.ireturn, 1) := by decide +kernel
theorem dX4_whom_29 : decode cX4_whom 29 = .ok (.iconst 0, 1) := by decide +kernel
theorem dX4_whom_30 : decode cX4_whom 30 = .ok (.istore 4, 2) := by decide +kernel
theorem dX4_whom_32 : decode cX4_whom 32 = .ok (.iload 4, 2) := by decide +kernel
theorem dX4_whom_34 : decode cX4_whom 34 = .ok (.aload_n 0, 1) := by decide +kernel
theorem dX4_whom_35 : decode cX4_whom 35 = .ok (.getfield 19, 3) := by decide +kernel
theorem dX4_whom_38 : decode cX4_whom 38 = .ok (.invokevirtual 84, 3) := by decide +kernel
theorem dX4_whom_41 : decode cX4_whom 41 = .ok (.if_icmp .ge 37, 3) := by decide +kernel
theorem dX4_whom_44 : decode cX4_whom 44 = .ok (.iload 4, 2) := by decide +kernel
theorem dX4_whom_46 : decode cX4_whom 46 = .ok (.iload_n 1, 1) := by decide +kernel
theorem dX4_whom_47 : decode cX4_whom 47 = .ok (.if_icmp .eq 25, 3) := by decide +kernel
theorem dX4_whom_50 : decode cX4_whom 50 = .ok (.aload_n 0, 1) := by decide +kernel
theorem dX4_whom_51 : decode cX4_whom 51 = .ok (.getfield 19, 3) := by decide +kernel
theorem dX4_whom_54 : decode cX4_whom 54 = .ok (.iload_n 1, 1) := by decide +kernel
theorem dX4_whom_55 : decode cX4_whom 55 = .ok (.iload 4, 2) := by decide +kernel
theorem dX4_whom_57 : decode cX4_whom 57 = .ok (.iload_n 2, 1) := by decide +kernel
theorem dX4_whom_58 : decode cX4_whom 58 = .ok (.iconst 0, 1) := by decide +kernel
theorem dX4_whom_59 : decode cX4_whom 59 = .ok (.invokevirtual 147, 3) := by decide +kernel
theorem dX4_whom_62 : decode cX4_whom 62 = .ok (.iload_n 3, 1) := by decide +kernel
theorem dX4_whom_63 : decode cX4_whom 63 = .ok (.bipush 9, 2) := by decide +kernel
theorem dX4_whom_65 : decode cX4_whom 65 = .ok (.isub, 1) := by decide +kernel
theorem dX4_whom_66 : decode cX4_whom 66 = .ok (.if_icmp .ne 6, 3) := by decide +kernel
theorem dX4_whom_69 : decode cX4_whom 69 = .ok (.iload 4, 2) := by decide +kernel
theorem dX4_whom_71 : decode cX4_whom 71 = .ok (.ireturn, 1) := by decide +kernel
theorem dX4_whom_72 : decode cX4_whom 72 = .ok (.iinc 4 1, 3) := by decide +kernel
theorem dX4_whom_75 : decode cX4_whom 75 = .ok (.goto (-43), 3) := by decide +kernel
theorem dX4_whom_78 : decode cX4_whom 78 = .ok (.bipush (-4), 2) := by decide +kernel
theorem dX4_whom_80 : decode cX4_whom 80 = .ok (.ireturn, 1) := by decide +kernel
theorem dX4_treaty_0 : decode cX4_treaty 0 = .ok (.aload_n 0, 1) := by decide +kernel
theorem dX4_treaty_1 : decode cX4_treaty 1 = .ok (.getfield 19, 3) := by decide +kernel
theorem dX4_treaty_4 : decode cX4_treaty 4 = .ok (.iload_n 1, 1) := by decide +kernel
theorem dX4_treaty_5 : decode cX4_treaty 5 = .ok (.invokevirtual 87, 3) := by decide +kernel
theorem dX4_treaty_8 : decode cX4_treaty 8 = .ok (.ifCond .eq 28, 3) := by decide +kernel
theorem dX4_treaty_11 : decode cX4_treaty 11 = .ok (.aload_n 0, 1) := by decide +kernel
theorem dX4_treaty_12 : decode cX4_treaty 12 = .ok (.getfield 19, 3) := by decide +kernel
theorem dX4_treaty_15 : decode cX4_treaty 15 = .ok (.iload_n 2, 1) := by decide +kernel
theorem dX4_treaty_16 : decode cX4_treaty 16 = .ok (.invokevirtual 87, 3) := by decide +kernel
theorem dX4_treaty_19 : decode cX4_treaty 19 = .ok (.ifCond .eq 17, 3) := by decide +kernel
theorem dX4_treaty_22 : decode cX4_treaty 22 = .ok (.iload_n 1, 1) := by decide +kernel
theorem dX4_treaty_23 : decode cX4_treaty 23 = .ok (.iload_n 2, 1) := by decide +kernel
theorem dX4_treaty_24 : decode cX4_treaty 24 = .ok (.if_icmp .eq 12, 3) := by decide +kernel
theorem dX4_treaty_27 : decode cX4_treaty 27 = .ok (.iload_n 3, 1) := by decide +kernel
theorem dX4_treaty_28 : decode cX4_treaty 28 = .ok (.bipush 10, 2) := by decide +kernel
theorem dX4_treaty_30 : decode cX4_treaty 30 = .ok (.invokestatic 91, 3) := by decide +kernel
theorem dX4_treaty_33 : decode cX4_treaty 33 = .ok (.ifCond .ne 5, 3) := by decide +kernel
theorem dX4_treaty_36 : decode cX4_treaty 36 = .ok (.iconst (-1), 1) := by decide +kernel
theorem dX4_treaty_37 : decode cX4_treaty 37 = .ok (.ireturn, 1) := by decide +kernel
theorem dX4_treaty_38 : decode cX4_treaty 38 = .ok (.iconst 0, 1) := by decide +kernel
theorem dX4_treaty_39 : decode cX4_treaty 39 = .ok (.istore 4, 2) := by decide +kernel
theorem dX4_treaty_41 : decode cX4_treaty 41 = .ok (.iconst 0, 1) := by decide +kernel
theorem dX4_treaty_42 : decode cX4_treaty 42 = .ok (.istore 5, 2) := by decide +kernel
theorem dX4_treaty_44 : decode cX4_treaty 44 = .ok (.iload 5, 2) := by decide +kernel
theorem dX4_treaty_46 : decode cX4_treaty 46 = .ok (.iconst 5, 1) := by decide +kernel
theorem dX4_treaty_47 : decode cX4_treaty 47 = .ok (.if_icmp .ge 45, 3) := by decide +kernel
theorem dX4_treaty_50 : decode cX4_treaty 50 = .ok (.aload_n 0, 1) := by decide +kernel
theorem dX4_treaty_51 : decode cX4_treaty 51 = .ok (.getfield 19, 3) := by decide +kernel
theorem dX4_treaty_54 : decode cX4_treaty 54 = .ok (.iload_n 1, 1) := by decide +kernel
theorem dX4_treaty_55 : decode cX4_treaty 55 = .ok (.iload_n 2, 1) := by decide +kernel
theorem dX4_treaty_56 : decode cX4_treaty 56 = .ok (.iload 5, 2) := by decide +kernel
theorem dX4_treaty_58 : decode cX4_treaty 58 = .ok (.iload_n 3, 1) := by decide +kernel
theorem dX4_treaty_59 : decode cX4_treaty 59 = .ok (.invokevirtual 147, 3) := by decide +kernel
theorem dX4_treaty_62 : decode cX4_treaty 62 = .ok (.aload_n 0, 1) := by decide +kernel
theorem dX4_treaty_63 : decode cX4_treaty 63 = .ok (.getfield 19, 3) := by decide +kernel
theorem dX4_treaty_66 : decode cX4_treaty 66 = .ok (.iload_n 2, 1) := by decide +kernel
theorem dX4_treaty_67 : decode cX4_treaty 67 = .ok (.iload_n 1, 1) := by decide +kernel
theorem dX4_treaty_68 : decode cX4_treaty 68 = .ok (.iload 5, 2) := by decide +kernel
theorem dX4_treaty_70 : decode cX4_treaty 70 = .ok (.iload_n 3, 1) := by decide +kernel
theorem dX4_treaty_71 : decode cX4_treaty 71 = .ok (.invokevirtual 147, 3) := by decide +kernel
theorem dX4_treaty_74 : decode cX4_treaty 74 = .ok (.if_icmp .ne 12, 3) := by decide +kernel
theorem dX4_treaty_77 : decode cX4_treaty 77 = .ok (.iload 4, 2) := by decide +kernel
theorem dX4_treaty_79 : decode cX4_treaty 79 = .ok (.iconst 1, 1) := by decide +kernel
theorem dX4_treaty_80 : decode cX4_treaty 80 = .ok (.iload 5, 2) := by decide +kernel
theorem dX4_treaty_82 : decode cX4_treaty 82 = .ok (.ishl, 1) := by decide +kernel
theorem dX4_treaty_83 : decode cX4_treaty 83 = .ok (.ior, 1) := by decide +kernel
theorem dX4_treaty_84 : decode cX4_treaty 84 = .ok (.istore 4, 2) := by decide +kernel
theorem dX4_treaty_86 : decode cX4_treaty 86 = .ok (.iinc 5 1, 3) := by decide +kernel
theorem dX4_treaty_89 : decode cX4_treaty 89 = .ok (.goto (-45), 3) := by decide +kernel
theorem dX4_treaty_92 : decode cX4_treaty 92 = .ok (.iload 4, 2) := by decide +kernel
theorem dX4_treaty_94 : decode cX4_treaty 94 = .ok (.ireturn, 1) := by decide +kernel
theorem dX4_round_0 : decode cX4_round 0 = .ok (.aload_n 0, 1) := by decide +kernel
theorem dX4_round_1 : decode cX4_round 1 = .ok (.getfield 19, 3) := by decide +kernel
theorem dX4_round_4 : decode cX4_round 4 = .ok (.iload_n 1, 1) := by decide +kernel
theorem dX4_round_5 : decode cX4_round 5 = .ok (.invokevirtual 109, 3) := by decide +kernel
theorem dX4_round_8 : decode cX4_round 8 = .ok (.ifCond .eq 19, 3) := by decide +kernel
theorem dX4_round_11 : decode cX4_round 11 = .ok (.iload_n 2, 1) := by decide +kernel
theorem dX4_round_12 : decode cX4_round 12 = .ok (.invokestatic 102, 3) := by decide +kernel
theorem dX4_round_15 : decode cX4_round 15 = .ok (.ifCond .eq 12, 3) := by decide +kernel
theorem dX4_round_18 : decode cX4_round 18 = .ok (.iload_n 3, 1) := by decide +kernel
theorem dX4_round_19 : decode cX4_round 19 = .ok (.bipush 60, 2) := by decide +kernel
theorem dX4_round_21 : decode cX4_round 21 = .ok (.invokestatic 91, 3) := by decide +kernel
theorem dX4_round_24 : decode cX4_round 24 = .ok (.ifCond .ne 5, 3) := by decide +kernel
theorem dX4_round_27 : decode cX4_round 27 = .ok (.iconst (-1), 1) := by decide +kernel
theorem dX4_round_28 : decode cX4_round 28 = .ok (.ireturn, 1) := by decide +kernel
theorem dX4_round_29 : decode cX4_round 29 = .ok (.aload_n 0, 1) := by decide +kernel
theorem dX4_round_30 : decode cX4_round 30 = .ok (.getfield 19, 3) := by decide +kernel
theorem dX4_round_33 : decode cX4_round 33 = .ok (.iload_n 1, 1) := by decide +kernel
theorem dX4_round_34 : decode cX4_round 34 = .ok (.iload_n 2, 1) := by decide +kernel
theorem dX4_round_35 : decode cX4_round 35 = .ok (.invokevirtual 112, 3) := by decide +kernel
theorem dX4_round_38 : decode cX4_round 38 = .ok (.istore 4, 2) := by decide +kernel
theorem dX4_round_40 : decode cX4_round 40 = .ok (.iconst 0, 1) := by decide +kernel
theorem dX4_round_41 : decode cX4_round 41 = .ok (.istore 5, 2) := by decide +kernel
theorem dX4_round_43 : decode cX4_round 43 = .ok (.iload 5, 2) := by decide +kernel
theorem dX4_round_45 : decode cX4_round 45 = .ok (.iload_n 3, 1) := by decide +kernel
theorem dX4_round_46 : decode cX4_round 46 = .ok (.if_icmp .ge 33, 3) := by decide +kernel
theorem dX4_round_49 : decode cX4_round 49 = .ok (.aload_n 0, 1) := by decide +kernel
theorem dX4_round_50 : decode cX4_round 50 = .ok (.getfield 19, 3) := by decide +kernel
theorem dX4_round_53 : decode cX4_round 53 = .ok (.iload 5, 2) := by decide +kernel
theorem dX4_round_55 : decode cX4_round 55 = .ok (.aload_n 0, 1) := by decide +kernel
theorem dX4_round_56 : decode cX4_round 56 = .ok (.getfield 19, 3) := by decide +kernel
theorem dX4_round_59 : decode cX4_round 59 = .ok (.invokevirtual 84, 3) := by decide +kernel
theorem dX4_round_62 : decode cX4_round 62 = .ok (.invokestatic 151, 3) := by decide +kernel
theorem dX4_round_65 : decode cX4_round 65 = .ok (.iload_n 2, 1) := by decide +kernel
theorem dX4_round_66 : decode cX4_round 66 = .ok (.iload 4, 2) := by decide +kernel
theorem dX4_round_68 : decode cX4_round 68 = .ok (.invokevirtual 154, 3) := by decide +kernel
theorem dX4_round_71 : decode cX4_round 71 = .ok (.istore 4, 2) := by decide +kernel
theorem dX4_round_73 : decode cX4_round 73 = .ok (.iinc 5 1, 3) := by decide +kernel
theorem dX4_round_76 : decode cX4_round 76 = .ok (.goto (-33), 3) := by decide +kernel
theorem dX4_round_79 : decode cX4_round 79 = .ok (.iload 4, 2) := by decide +kernel
theorem dX4_round_81 : decode cX4_round 81 = .ok (.invokestatic 115, 3) := by decide +kernel
theorem dX4_round_84 : decode cX4_round 84 = .ok (.ireturn, 1) := by decide +kernel
theorem dX4_again_0 : decode cX4_again 0 = .ok (.aload_n 0, 1) := by decide +kernel
theorem dX4_again_1 : decode cX4_again 1 = .ok (.getfield 19, 3) := by decide +kernel
theorem dX4_again_4 : decode cX4_again 4 = .ok (.iload_n 1, 1) := by decide +kernel
theorem dX4_again_5 : decode cX4_again 5 = .ok (.invokevirtual 109, 3) := by decide +kernel
theorem dX4_again_8 : decode cX4_again 8 = .ok (.ifCond .eq 11, 3) := by decide +kernel
theorem dX4_again_11 : decode cX4_again 11 = .ok (.iload_n 2, 1) := by decide +kernel
theorem dX4_again_12 : decode cX4_again 12 = .ok (.iconst 1, 1) := by decide +kernel
theorem dX4_again_13 : decode cX4_again 13 = .ok (.invokestatic 91, 3) := by decide +kernel
theorem dX4_again_16 : decode cX4_again 16 = .ok (.ifCond .ne 5, 3) := by decide +kernel
theorem dX4_again_19 : decode cX4_again 19 = .ok (.iconst (-1), 1) := by decide +kernel
theorem dX4_again_20 : decode cX4_again 20 = .ok (.ireturn, 1) := by decide +kernel
theorem dX4_again_21 : decode cX4_again 21 = .ok (.aload_n 0, 1) := by decide +kernel
theorem dX4_again_22 : decode cX4_again 22 = .ok (.getfield 23, 3) := by decide +kernel
theorem dX4_again_25 : decode cX4_again 25 = .ok (.aload_n 0, 1) := by decide +kernel
theorem dX4_again_26 : decode cX4_again 26 = .ok (.getfield 19, 3) := by decide +kernel
theorem dX4_again_29 : decode cX4_again 29 = .ok (.invokevirtual 78, 3) := by decide +kernel
theorem dX4_again_32 : decode cX4_again 32 = .ok (.aload_n 0, 1) := by decide +kernel
theorem dX4_again_33 : decode cX4_again 33 = .ok (.getfield 45, 3) := by decide +kernel
theorem dX4_again_36 : decode cX4_again 36 = .ok (.iconst 0, 1) := by decide +kernel
theorem dX4_again_37 : decode cX4_again 37 = .ok (.aload_n 0, 1) := by decide +kernel
theorem dX4_again_38 : decode cX4_again 38 = .ok (.getfield 23, 3) := by decide +kernel
theorem dX4_again_41 : decode cX4_again 41 = .ok (.iload_n 1, 1) := by decide +kernel
theorem dX4_again_42 : decode cX4_again 42 = .ok (.invokevirtual 157, 3) := by decide +kernel
theorem dX4_again_45 : decode cX4_again 45 = .ok (.invokestatic 160, 3) := by decide +kernel
theorem dX4_again_48 : decode cX4_again 48 = .ok (.iconst 1, 1) := by decide +kernel
theorem dX4_again_49 : decode cX4_again 49 = .ok (.istore_n 3, 1) := by decide +kernel
theorem dX4_again_50 : decode cX4_again 50 = .ok (.iload_n 3, 1) := by decide +kernel
theorem dX4_again_51 : decode cX4_again 51 = .ok (.bipush 40, 2) := by decide +kernel
theorem dX4_again_53 : decode cX4_again 53 = .ok (.if_icmp .gt 63, 3) := by decide +kernel
theorem dX4_again_56 : decode cX4_again 56 = .ok (.aload_n 0, 1) := by decide +kernel
theorem dX4_again_57 : decode cX4_again 57 = .ok (.getfield 23, 3) := by decide +kernel
theorem dX4_again_60 : decode cX4_again 60 = .ok (.iload_n 1, 1) := by decide +kernel
theorem dX4_again_61 : decode cX4_again 61 = .ok (.invokevirtual 164, 3) := by decide +kernel
theorem dX4_again_64 : decode cX4_again 64 = .ok (.aload_n 0, 1) := by decide +kernel
theorem dX4_again_65 : decode cX4_again 65 = .ok (.getfield 23, 3) := by decide +kernel
theorem dX4_again_68 : decode cX4_again 68 = .ok (.iload_n 1, 1) := by decide +kernel
theorem dX4_again_69 : decode cX4_again 69 = .ok (.invokevirtual 157, 3) := by decide +kernel
theorem dX4_again_72 : decode cX4_again 72 = .ok (.istore 4, 2) := by decide +kernel
theorem dX4_again_74 : decode cX4_again 74 = .ok (.aload_n 0, 1) := by decide +kernel
theorem dX4_again_75 : decode cX4_again 75 = .ok (.iload 4, 2) := by decide +kernel
theorem dX4_again_77 : decode cX4_again 77 = .ok (.iload_n 3, 1) := by decide +kernel
theorem dX4_again_78 : decode cX4_again 78 = .ok (.invokevirtual 167, 3) := by decide +kernel
theorem dX4_again_81 : decode cX4_again 81 = .ok (.istore 5, 2) := by decide +kernel
theorem dX4_again_83 : decode cX4_again 83 = .ok (.iload 5, 2) := by decide +kernel
theorem dX4_again_85 : decode cX4_again 85 = .ok (.iload_n 3, 1) := by decide +kernel
theorem dX4_again_86 : decode cX4_again 86 = .ok (.if_icmp .ge 14, 3) := by decide +kernel
theorem dX4_again_89 : decode cX4_again 89 = .ok (.iload_n 2, 1) := by decide +kernel
theorem dX4_again_90 : decode cX4_again 90 = .ok (.ifCond .ne 7, 3) := by decide +kernel
theorem dX4_again_93 : decode cX4_again 93 = .ok (.iload_n 3, 1) := by decide +kernel
theorem dX4_again_94 : decode cX4_again 94 = .ok (.goto 5, 3) := by decide +kernel
theorem dX4_again_97 : decode cX4_again 97 = .ok (.iload 5, 2) := by decide +kernel
theorem dX4_again_99 : decode cX4_again 99 = .ok (.ireturn, 1) := by decide +kernel
theorem dX4_again_100 : decode cX4_again 100 = .ok (.aload_n 0, 1) := by decide +kernel
theorem dX4_again_101 : decode cX4_again 101 = .ok (.getfield 45, 3) := by decide +kernel
theorem dX4_again_104 : decode cX4_again 104 = .ok (.iload_n 3, 1) := by decide +kernel
theorem dX4_again_105 : decode cX4_again 105 = .ok (.iload 4, 2) := by decide +kernel
theorem dX4_again_107 : decode cX4_again 107 = .ok (.invokestatic 160, 3) := by decide +kernel
theorem dX4_again_110 : decode cX4_again 110 = .ok (.iinc 3 1, 3) := by decide +kernel
theorem dX4_again_113 : decode cX4_again 113 = .ok (.goto (-63), 3) := by decide +kernel
theorem dX4_again_116 : decode cX4_again 116 = .ok (.bipush (-4), 2) := by decide +kernel
theorem dX4_again_118 : decode cX4_again 118 = .ok (.ireturn, 1) := by decide +kernel
theorem dX4_least_0 : decode cX4_least 0 = .ok (.aload_n 0, 1) := by decide +kernel
theorem dX4_least_1 : decode cX4_least 1 = .ok (.getfield 19, 3) := by decide +kernel
theorem dX4_least_4 : decode cX4_least 4 = .ok (.iload_n 1, 1) := by decide +kernel
theorem dX4_least_5 : decode cX4_least 5 = .ok (.invokevirtual 109, 3) := by decide +kernel
theorem dX4_least_8 : decode cX4_least 8 = .ok (.ifCond .eq 22, 3) := by decide +kernel
theorem dX4_least_11 : decode cX4_least 11 = .ok (.aload_n 0, 1) := by decide +kernel
theorem dX4_least_12 : decode cX4_least 12 = .ok (.getfield 19, 3) := by decide +kernel
theorem dX4_least_15 : decode cX4_least 15 = .ok (.iload_n 2, 1) := by decide +kernel
theorem dX4_least_16 : decode cX4_least 16 = .ok (.invokevirtual 87, 3) := by decide +kernel
theorem dX4_least_19 : decode cX4_least 19 = .ok (.ifCond .eq 11, 3) := by decide +kernel
theorem dX4_least_22 : decode cX4_least 22 = .ok (.iload_n 3, 1) := by decide +kernel
theorem dX4_least_23 : decode cX4_least 23 = .ok (.iconst 1, 1) := by decide +kernel
theorem dX4_least_24 : decode cX4_least 24 = .ok (.invokestatic 91, 3) := by decide +kernel
theorem dX4_least_27 : decode cX4_least 27 = .ok (.ifCond .ne 5, 3) := by decide +kernel
theorem dX4_least_30 : decode cX4_least 30 = .ok (.iconst (-1), 1) := by decide +kernel
theorem dX4_least_31 : decode cX4_least 31 = .ok (.ireturn, 1) := by decide +kernel
theorem dX4_least_32 : decode cX4_least 32 = .ok (.aload_n 0, 1) := by decide +kernel
theorem dX4_least_33 : decode cX4_least 33 = .ok (.getfield 19, 3) := by decide +kernel
theorem dX4_least_36 : decode cX4_least 36 = .ok (.iload_n 1, 1) := by decide +kernel
theorem dX4_least_37 : decode cX4_least 37 = .ok (.invokevirtual 132, 3) := by decide +kernel
theorem dX4_least_40 : decode cX4_least 40 = .ok (.iconst 5, 1) := by decide +kernel
theorem dX4_least_41 : decode cX4_least 41 = .ok (.if_icmp .ge 6, 3) := by decide +kernel
theorem dX4_least_44 : decode cX4_least 44 = .ok (.bipush (-4), 2) := by decide +kernel
theorem dX4_least_46 : decode cX4_least 46 = .ok (.ireturn, 1) := by decide +kernel
theorem dX4_least_47 : decode cX4_least 47 = .ok (.iconst 0, 1) := by decide +kernel
theorem dX4_least_48 : decode cX4_least 48 = .ok (.istore 4, 2) := by decide +kernel
theorem dX4_least_50 : decode cX4_least 50 = .ok (.iconst 0, 1) := by decide +kernel
theorem dX4_least_51 : decode cX4_least 51 = .ok (.istore 5, 2) := by decide +kernel
theorem dX4_least_53 : decode cX4_least 53 = .ok (.iload 5, 2) := by decide +kernel
theorem dX4_least_55 : decode cX4_least 55 = .ok (.iconst 5, 1) := by decide +kernel
theorem dX4_least_56 : decode cX4_least 56 = .ok (.if_icmp .ge 41, 3) := by decide +kernel
theorem dX4_least_59 : decode cX4_least 59 = .ok (.aload_n 0, 1) := by decide +kernel
theorem dX4_least_60 : decode cX4_least 60 = .ok (.getfield 19, 3) := by decide +kernel
theorem dX4_least_63 : decode cX4_least 63 = .ok (.iload_n 1, 1) := by decide +kernel
theorem dX4_least_64 : decode cX4_least 64 = .ok (.iload 5, 2) := by decide +kernel
theorem dX4_least_66 : decode cX4_least 66 = .ok (.invokevirtual 112, 3) := by decide +kernel
theorem dX4_least_69 : decode cX4_least 69 = .ok (.aload_n 0, 1) := by decide +kernel
theorem dX4_least_70 : decode cX4_least 70 = .ok (.getfield 19, 3) := by decide +kernel
theorem dX4_least_73 : decode cX4_least 73 = .ok (.iload_n 2, 1) := by decide +kernel
theorem dX4_least_74 : decode cX4_least 74 = .ok (.iload 5, 2) := by decide +kernel
theorem dX4_least_76 : decode cX4_least 76 = .ok (.invokevirtual 105, 3) := by decide +kernel
theorem dX4_least_79 : decode cX4_least 79 = .ok (.if_icmp .eq 12, 3) := by decide +kernel
theorem dX4_least_82 : decode cX4_least 82 = .ok (.iload 4, 2) := by decide +kernel
theorem dX4_least_84 : decode cX4_least 84 = .ok (.iconst 1, 1) := by decide +kernel
theorem dX4_least_85 : decode cX4_least 85 = .ok (.iload 5, 2) := by decide +kernel
theorem dX4_least_87 : decode cX4_least 87 = .ok (.ishl, 1) := by decide +kernel
theorem dX4_least_88 : decode cX4_least 88 = .ok (.ior, 1) := by decide +kernel
theorem dX4_least_89 : decode cX4_least 89 = .ok (.istore 4, 2) := by decide +kernel
theorem dX4_least_91 : decode cX4_least 91 = .ok (.iinc 5 1, 3) := by decide +kernel
theorem dX4_least_94 : decode cX4_least 94 = .ok (.goto (-41), 3) := by decide +kernel
theorem dX4_least_97 : decode cX4_least 97 = .ok (.iload_n 3, 1) := by decide +kernel
theorem dX4_least_98 : decode cX4_least 98 = .ok (.ifCond .ne 11, 3) := by decide +kernel
theorem dX4_least_101 : decode cX4_least 101 = .ok (.iload 4, 2) := by decide +kernel
theorem dX4_least_103 : decode cX4_least 103 = .ok (.invokestatic 170, 3) := by decide +kernel
theorem dX4_least_106 : decode cX4_least 106 = .ok (.goto 5, 3) := by decide +kernel
theorem dX4_least_109 : decode cX4_least 109 = .ok (.iload 4, 2) := by decide +kernel
theorem dX4_least_111 : decode cX4_least 111 = .ok (.ireturn, 1) := by decide +kernel
theorem dX4_sign_0 : decode cX4_sign 0 = .ok (.iload_n 1, 1) := by decide +kernel
theorem dX4_sign_1 : decode cX4_sign 1 = .ok (.invokestatic 102, 3) := by decide +kernel
theorem dX4_sign_4 : decode cX4_sign 4 = .ok (.ifCond .eq 12, 3) := by decide +kernel
theorem dX4_sign_7 : decode cX4_sign 7 = .ok (.iload_n 2, 1) := by decide +kernel
theorem dX4_sign_8 : decode cX4_sign 8 = .ok (.bipush 18, 2) := by decide +kernel
theorem dX4_sign_10 : decode cX4_sign 10 = .ok (.invokestatic 91, 3) := by decide +kernel
theorem dX4_sign_13 : decode cX4_sign 13 = .ok (.ifCond .ne 5, 3) := by decide +kernel
theorem dX4_sign_16 : decode cX4_sign 16 = .ok (.iconst (-1), 1) := by decide +kernel
theorem dX4_sign_17 : decode cX4_sign 17 = .ok (.ireturn, 1) := by decide +kernel
theorem dX4_sign_18 : decode cX4_sign 18 = .ok (.aload_n 0, 1) := by decide +kernel
theorem dX4_sign_19 : decode cX4_sign 19 = .ok (.getfield 41, 3) := by decide +kernel
theorem dX4_sign_22 : decode cX4_sign 22 = .ok (.invokevirtual 175, 3) := by decide +kernel
theorem dX4_sign_25 : decode cX4_sign 25 = .ok (.bipush 6, 2) := by decide +kernel
theorem dX4_sign_27 : decode cX4_sign 27 = .ok (.if_icmp .lt 6, 3) := by decide +kernel
theorem dX4_sign_30 : decode cX4_sign 30 = .ok (.bipush (-3), 2) := by decide +kernel
theorem dX4_sign_32 : decode cX4_sign 32 = .ok (.ireturn, 1) := by decide +kernel
theorem dX4_sign_33 : decode cX4_sign 33 = .ok (.aload_n 0, 1) := by decide +kernel
theorem dX4_sign_34 : decode cX4_sign 34 = .ok (.getfield 41, 3) := by decide +kernel
theorem dX4_sign_37 : decode cX4_sign 37 = .ok (.iload_n 1, 1) := by decide +kernel
theorem dX4_sign_38 : decode cX4_sign 38 = .ok (.iload_n 2, 1) := by decide +kernel
theorem dX4_sign_39 : decode cX4_sign 39 = .ok (.bipush 9, 2) := by decide +kernel
theorem dX4_sign_41 : decode cX4_sign 41 = .ok (.isub, 1) := by decide +kernel
theorem dX4_sign_42 : decode cX4_sign 42 = .ok (.invokevirtual 176, 3) := by decide +kernel
theorem dX4_sign_45 : decode cX4_sign 45 = .ok (.aload_n 0, 1) := by decide +kernel
theorem dX4_sign_46 : decode cX4_sign 46 = .ok (.getfield 41, 3) := by decide +kernel
theorem dX4_sign_49 : decode cX4_sign 49 = .ok (.invokevirtual 175, 3) := by decide +kernel
theorem dX4_sign_52 : decode cX4_sign 52 = .ok (.ireturn, 1) := by decide +kernel
theorem dX4_forget_0 : decode cX4_forget 0 = .ok (.aload_n 0, 1) := by decide +kernel
theorem dX4_forget_1 : decode cX4_forget 1 = .ok (.getfield 41, 3) := by decide +kernel
theorem dX4_forget_4 : decode cX4_forget 4 = .ok (.invokevirtual 175, 3) := by decide +kernel
theorem dX4_forget_7 : decode cX4_forget 7 = .ok (.istore_n 1, 1) := by decide +kernel
theorem dX4_forget_8 : decode cX4_forget 8 = .ok (.aload_n 0, 1) := by decide +kernel
theorem dX4_forget_9 : decode cX4_forget 9 = .ok (.getfield 41, 3) := by decide +kernel
theorem dX4_forget_12 : decode cX4_forget 12 = .ok (.invokevirtual 82, 3) := by decide +kernel
theorem dX4_forget_15 : decode cX4_forget 15 = .ok (.iload_n 1, 1) := by decide +kernel
theorem dX4_forget_16 : decode cX4_forget 16 = .ok (.ireturn, 1) := by decide +kernel
theorem dX4_who_0 : decode cX4_who 0 = .ok (.iload_n 1, 1) := by decide +kernel
theorem dX4_who_1 : decode cX4_who 1 = .ok (.iconst 1, 1) := by decide +kernel
theorem dX4_who_2 : decode cX4_who 2 = .ok (.invokestatic 91, 3) := by decide +kernel
theorem dX4_who_5 : decode cX4_who 5 = .ok (.ifCond .ne 5, 3) := by decide +kernel
theorem dX4_who_8 : decode cX4_who 8 = .ok (.iconst (-1), 1) := by decide +kernel
theorem dX4_who_9 : decode cX4_who 9 = .ok (.ireturn, 1) := by decide +kernel
theorem dX4_who_10 : decode cX4_who 10 = .ok (.iconst 0, 1) := by decide +kernel
theorem dX4_who_11 : decode cX4_who 11 = .ok (.istore_n 2, 1) := by decide +kernel
theorem dX4_who_12 : decode cX4_who 12 = .ok (.bipush (-4), 2) := by decide +kernel
theorem dX4_who_14 : decode cX4_who 14 = .ok (.istore_n 3, 1) := by decide +kernel
theorem dX4_who_15 : decode cX4_who 15 = .ok (.iconst 0, 1) := by decide +kernel
theorem dX4_who_16 : decode cX4_who 16 = .ok (.istore 4, 2) := by decide +kernel
theorem dX4_who_18 : decode cX4_who 18 = .ok (.iload 4, 2) := by decide +kernel
theorem dX4_who_20 : decode cX4_who 20 = .ok (.aload_n 0, 1) := by decide +kernel
theorem dX4_who_21 : decode cX4_who 21 = .ok (.getfield 19, 3) := by decide +kernel
theorem dX4_who_24 : decode cX4_who 24 = .ok (.invokevirtual 84, 3) := by decide +kernel
theorem dX4_who_27 : decode cX4_who 27 = .ok (.if_icmp .ge 102, 3) := by decide +kernel
theorem dX4_who_30 : decode cX4_who 30 = .ok (.iconst 0, 1) := by decide +kernel
theorem dX4_who_31 : decode cX4_who 31 = .ok (.istore 5, 2) := by decide +kernel
theorem dX4_who_33 : decode cX4_who 33 = .ok (.iload 5, 2) := by decide +kernel
theorem dX4_who_35 : decode cX4_who 35 = .ok (.aload_n 0, 1) := by decide +kernel
theorem dX4_who_36 : decode cX4_who 36 = .ok (.getfield 19, 3) := by decide +kernel
theorem dX4_who_39 : decode cX4_who 39 = .ok (.invokevirtual 84, 3) := by decide +kernel
theorem dX4_who_42 : decode cX4_who 42 = .ok (.if_icmp .ge 81, 3) := by decide +kernel
theorem dX4_who_45 : decode cX4_who 45 = .ok (.iconst 0, 1) := by decide +kernel
theorem dX4_who_46 : decode cX4_who 46 = .ok (.istore 6, 2) := by decide +kernel
theorem dX4_who_48 : decode cX4_who 48 = .ok (.iload 6, 2) := by decide +kernel
theorem dX4_who_50 : decode cX4_who 50 = .ok (.bipush 10, 2) := by decide +kernel
theorem dX4_who_52 : decode cX4_who 52 = .ok (.if_icmp .gt 65, 3) := by decide +kernel
theorem dX4_who_55 : decode cX4_who 55 = .ok (.iload 5, 2) := by decide +kernel
theorem dX4_who_57 : decode cX4_who 57 = .ok (.iload 4, 2) := by decide +kernel
theorem dX4_who_59 : decode cX4_who 59 = .ok (.if_icmp .eq 52, 3) := by decide +kernel
theorem dX4_who_62 : decode cX4_who 62 = .ok (.aload_n 0, 1) := by decide +kernel
theorem dX4_who_63 : decode cX4_who 63 = .ok (.getfield 41, 3) := by decide +kernel
theorem dX4_who_66 : decode cX4_who 66 = .ok (.aload_n 0, 1) := by decide +kernel
theorem dX4_who_67 : decode cX4_who 67 = .ok (.getfield 19, 3) := by decide +kernel
theorem dX4_who_70 : decode cX4_who 70 = .ok (.iload 4, 2) := by decide +kernel
theorem dX4_who_72 : decode cX4_who 72 = .ok (.iload 5, 2) := by decide +kernel
theorem dX4_who_74 : decode cX4_who 74 = .ok (.iload 6, 2) := by decide +kernel
theorem dX4_who_76 : decode cX4_who 76 = .ok (.invokevirtual 179, 3) := by decide +kernel
theorem dX4_who_79 : decode cX4_who 79 = .ok (.ifCond .eq 32, 3) := by decide +kernel
theorem dX4_who_82 : decode cX4_who 82 = .ok (.iinc 2 1, 3) := by decide +kernel
theorem dX4_who_85 : decode cX4_who 85 = .ok (.iload_n 3, 1) := by decide +kernel
theorem dX4_who_86 : decode cX4_who 86 = .ok (.bipush (-4), 2) := by decide +kernel
theorem dX4_who_88 : decode cX4_who 88 = .ok (.if_icmp .ne 21, 3) := by decide +kernel
theorem dX4_who_91 : decode cX4_who 91 = .ok (.sipush 1000, 3) := by decide +kernel
theorem dX4_who_94 : decode cX4_who 94 = .ok (.iload 4, 2) := by decide +kernel
theorem dX4_who_96 : decode cX4_who 96 = .ok (.imul, 1) := by decide +kernel
theorem dX4_who_97 : decode cX4_who 97 = .ok (.bipush 100, 2) := by decide +kernel
theorem dX4_who_99 : decode cX4_who 99 = .ok (.iload 5, 2) := by decide +kernel
theorem dX4_who_101 : decode cX4_who 101 = .ok (.imul, 1) := by decide +kernel
theorem dX4_who_102 : decode cX4_who 102 = .ok (.iadd, 1) := by decide +kernel
theorem dX4_who_103 : decode cX4_who 103 = .ok (.iload 6, 2) := by decide +kernel
theorem dX4_who_105 : decode cX4_who 105 = .ok (.iadd, 1) := by decide +kernel
theorem dX4_who_106 : decode cX4_who 106 = .ok (.goto 4, 3) := by decide +kernel
theorem dX4_who_109 : decode cX4_who 109 = .ok (.iload_n 3, 1) := by decide +kernel
theorem dX4_who_110 : decode cX4_who 110 = .ok (.istore_n 3, 1) := by decide +kernel
theorem dX4_who_111 : decode cX4_who 111 = .ok (.iinc 6 1, 3) := by decide +kernel
theorem dX4_who_114 : decode cX4_who 114 = .ok (.goto (-66), 3) := by decide +kernel
theorem dX4_who_117 : decode cX4_who 117 = .ok (.iinc 5 1, 3) := by decide +kernel
theorem dX4_who_120 : decode cX4_who 120 = .ok (.goto (-87), 3) := by decide +kernel
theorem dX4_who_123 : decode cX4_who 123 = .ok (.iinc 4 1, 3) := by decide +kernel
theorem dX4_who_126 : decode cX4_who 126 = .ok (.goto (-108), 3) := by decide +kernel
theorem dX4_who_129 : decode cX4_who 129 = .ok (.iload_n 1, 1) := by decide +kernel
theorem dX4_who_130 : decode cX4_who 130 = .ok (.ifCond .ne 7, 3) := by decide +kernel
theorem dX4_who_133 : decode cX4_who 133 = .ok (.iload_n 2, 1) := by decide +kernel
theorem dX4_who_134 : decode cX4_who 134 = .ok (.goto 4, 3) := by decide +kernel
theorem dX4_who_137 : decode cX4_who 137 = .ok (.iload_n 3, 1) := by decide +kernel
theorem dX4_who_138 : decode cX4_who 138 = .ok (.ireturn, 1) := by decide +kernel
theorem dX4_views_0 : decode cX4_views 0 = .ok (.aload_n 0, 1) := by decide +kernel
theorem dX4_views_1 : decode cX4_views 1 = .ok (.getfield 19, 3) := by decide +kernel
theorem dX4_views_4 : decode cX4_views 4 = .ok (.iload_n 1, 1) := by decide +kernel
theorem dX4_views_5 : decode cX4_views 5 = .ok (.invokevirtual 87, 3) := by decide +kernel
theorem dX4_views_8 : decode cX4_views 8 = .ok (.ifCond .eq 19, 3) := by decide +kernel
theorem dX4_views_11 : decode cX4_views 11 = .ok (.iload_n 2, 1) := by decide +kernel
theorem dX4_views_12 : decode cX4_views 12 = .ok (.invokestatic 102, 3) := by decide +kernel
theorem dX4_views_15 : decode cX4_views 15 = .ok (.ifCond .eq 12, 3) := by decide +kernel
theorem dX4_views_18 : decode cX4_views 18 = .ok (.iload_n 3, 1) := by decide +kernel
theorem dX4_views_19 : decode cX4_views 19 = .ok (.bipush 10, 2) := by decide +kernel
theorem dX4_views_21 : decode cX4_views 21 = .ok (.invokestatic 91, 3) := by decide +kernel
theorem dX4_views_24 : decode cX4_views 24 = .ok (.ifCond .ne 5, 3) := by decide +kernel
theorem dX4_views_27 : decode cX4_views 27 = .ok (.iconst (-1), 1) := by decide +kernel
theorem dX4_views_28 : decode cX4_views 28 = .ok (.ireturn, 1) := by decide +kernel
theorem dX4_views_29 : decode cX4_views 29 = .ok (.aload_n 0, 1) := by decide +kernel
theorem dX4_views_30 : decode cX4_views 30 = .ok (.getfield 23, 3) := by decide +kernel
theorem dX4_views_33 : decode cX4_views 33 = .ok (.aload_n 0, 1) := by decide +kernel
theorem dX4_views_34 : decode cX4_views 34 = .ok (.getfield 19, 3) := by decide +kernel
theorem dX4_views_37 : decode cX4_views 37 = .ok (.invokevirtual 78, 3) := by decide +kernel
theorem dX4_views_40 : decode cX4_views 40 = .ok (.iconst 0, 1) := by decide +kernel
theorem dX4_views_41 : decode cX4_views 41 = .ok (.istore 4, 2) := by decide +kernel
theorem dX4_views_43 : decode cX4_views 43 = .ok (.iconst 0, 1) := by decide +kernel
theorem dX4_views_44 : decode cX4_views 44 = .ok (.istore 5, 2) := by decide +kernel
theorem dX4_views_46 : decode cX4_views 46 = .ok (.iload 5, 2) := by decide +kernel
theorem dX4_views_48 : decode cX4_views 48 = .ok (.bipush 18, 2) := by decide +kernel
theorem dX4_views_50 : decode cX4_views 50 = .ok (.if_icmp .gt 56, 3) := by decide +kernel
theorem dX4_views_53 : decode cX4_views 53 = .ok (.aload_n 0, 1) := by decide +kernel
theorem dX4_views_54 : decode cX4_views 54 = .ok (.getfield 23, 3) := by decide +kernel
theorem dX4_views_57 : decode cX4_views 57 = .ok (.iload_n 1, 1) := by decide +kernel
theorem dX4_views_58 : decode cX4_views 58 = .ok (.iload_n 2, 1) := by decide +kernel
theorem dX4_views_59 : decode cX4_views 59 = .ok (.iload 5, 2) := by decide +kernel
theorem dX4_views_61 : decode cX4_views 61 = .ok (.bipush 9, 2) := by decide +kernel
theorem dX4_views_63 : decode cX4_views 63 = .ok (.isub, 1) := by decide +kernel
theorem dX4_views_64 : decode cX4_views 64 = .ok (.invokevirtual 135, 3) := by decide +kernel
theorem dX4_views_67 : decode cX4_views 67 = .ok (.aload_n 0, 1) := by decide +kernel
theorem dX4_views_68 : decode cX4_views 68 = .ok (.getfield 41, 3) := by decide +kernel
theorem dX4_views_71 : decode cX4_views 71 = .ok (.aload_n 0, 1) := by decide +kernel
theorem dX4_views_72 : decode cX4_views 72 = .ok (.getfield 23, 3) := by decide +kernel
theorem dX4_views_75 : decode cX4_views 75 = .ok (.iload_n 1, 1) := by decide +kernel
theorem dX4_views_76 : decode cX4_views 76 = .ok (.aload_n 0, 1) := by decide +kernel
theorem dX4_views_77 : decode cX4_views 77 = .ok (.getfield 23, 3) := by decide +kernel
theorem dX4_views_80 : decode cX4_views 80 = .ok (.iload_n 1, 1) := by decide +kernel
theorem dX4_views_81 : decode cX4_views 81 = .ok (.invokevirtual 99, 3) := by decide +kernel
theorem dX4_views_84 : decode cX4_views 84 = .ok (.iload_n 3, 1) := by decide +kernel
theorem dX4_views_85 : decode cX4_views 85 = .ok (.invokevirtual 179, 3) := by decide +kernel
theorem dX4_views_88 : decode cX4_views 88 = .ok (.ifCond .eq 12, 3) := by decide +kernel
theorem dX4_views_91 : decode cX4_views 91 = .ok (.iload 4, 2) := by decide +kernel
theorem dX4_views_93 : decode cX4_views 93 = .ok (.iconst 1, 1) := by decide +kernel
theorem dX4_views_94 : decode cX4_views 94 = .ok (.iload 5, 2) := by decide +kernel
theorem dX4_views_96 : decode cX4_views 96 = .ok (.ishl, 1) := by decide +kernel
theorem dX4_views_97 : decode cX4_views 97 = .ok (.ior, 1) := by decide +kernel
theorem dX4_views_98 : decode cX4_views 98 = .ok (.istore 4, 2) := by decide +kernel
theorem dX4_views_100 : decode cX4_views 100 = .ok (.iinc 5 1, 3) := by decide +kernel
theorem dX4_views_103 : decode cX4_views 103 = .ok (.goto (-57), 3) := by decide +kernel
theorem dX4_views_106 : decode cX4_views 106 = .ok (.iload 4, 2) := by decide +kernel
theorem dX4_views_108 : decode cX4_views 108 = .ok (.ireturn, 1) := by decide +kernel
theorem dX4_drops_0 : decode cX4_drops 0 = .ok (.aload_n 0, 1) := by decide +kernel
theorem dX4_drops_1 : decode cX4_drops 1 = .ok (.getfield 19, 3) := by decide +kernel
theorem dX4_drops_4 : decode cX4_drops 4 = .ok (.iload_n 1, 1) := by decide +kernel
theorem dX4_drops_5 : decode cX4_drops 5 = .ok (.invokevirtual 87, 3) := by decide +kernel
theorem dX4_drops_8 : decode cX4_drops 8 = .ok (.ifCond .eq 19, 3) := by decide +kernel
theorem dX4_drops_11 : decode cX4_drops 11 = .ok (.iload_n 2, 1) := by decide +kernel
theorem dX4_drops_12 : decode cX4_drops 12 = .ok (.invokestatic 102, 3) := by decide +kernel
theorem dX4_drops_15 : decode cX4_drops 15 = .ok (.ifCond .eq 12, 3) := by decide +kernel
theorem dX4_drops_18 : decode cX4_drops 18 = .ok (.iload_n 3, 1) := by decide +kernel
theorem dX4_drops_19 : decode cX4_drops 19 = .ok (.bipush 18, 2) := by decide +kernel
theorem dX4_drops_21 : decode cX4_drops 21 = .ok (.invokestatic 91, 3) := by decide +kernel
theorem dX4_drops_24 : decode cX4_drops 24 = .ok (.ifCond .ne 7, 3) := by decide +kernel
theorem dX4_drops_27 : decode cX4_drops 27 = .ok (.ldc2_w 183, 3) := by decide +kernel
theorem dX4_drops_30 : decode cX4_drops 30 = .ok (.lreturn, 1) := by decide +kernel
theorem dX4_drops_31 : decode cX4_drops 31 = .ok (.iload 4, 2) := by decide +kernel
theorem dX4_drops_33 : decode cX4_drops 33 = .ok (.bipush 10, 2) := by decide +kernel
theorem dX4_drops_35 : decode cX4_drops 35 = .ok (.invokestatic 91, 3) := by decide +kernel
theorem dX4_drops_38 : decode cX4_drops 38 = .ok (.ifCond .eq 12, 3) := by decide +kernel
theorem dX4_drops_41 : decode cX4_drops 41 = .ok (.iload 5, 2) := by decide +kernel
theorem dX4_drops_43 : decode cX4_drops 43 = .ok (.iconst 1, 1) := by decide +kernel
theorem dX4_drops_44 : decode cX4_drops 44 = .ok (.invokestatic 91, 3) := by decide +kernel
theorem dX4_drops_47 : decode cX4_drops 47 = .ok (.ifCond .ne 7, 3) := by decide +kernel
theorem dX4_drops_50 : decode cX4_drops 50 = .ok (.ldc2_w 183, 3) := by decide +kernel
theorem dX4_drops_53 : decode cX4_drops 53 = .ok (.lreturn, 1) := by decide +kernel
theorem dX4_drops_54 : decode cX4_drops 54 = .ok (.lconst 0, 1) := by decide +kernel
theorem dX4_drops_55 : decode cX4_drops 55 = .ok (.lstore 6, 2) := by decide +kernel
theorem dX4_drops_57 : decode cX4_drops 57 = .ok (.iconst 0, 1) := by decide +kernel
theorem dX4_drops_58 : decode cX4_drops 58 = .ok (.istore 8, 2) := by decide +kernel
theorem dX4_drops_60 : decode cX4_drops 60 = .ok (.iload 8, 2) := by decide +kernel
theorem dX4_drops_62 : decode cX4_drops 62 = .ok (.bipush 10, 2) := by decide +kernel
theorem dX4_drops_64 : decode cX4_drops 64 = .ok (.if_icmp .gt 39, 3) := by decide +kernel
theorem dX4_drops_67 : decode cX4_drops 67 = .ok (.aload_n 0, 1) := by decide +kernel
theorem dX4_drops_68 : decode cX4_drops 68 = .ok (.getfield 19, 3) := by decide +kernel
theorem dX4_drops_71 : decode cX4_drops 71 = .ok (.iload_n 1, 1) := by decide +kernel
theorem dX4_drops_72 : decode cX4_drops 72 = .ok (.iload_n 2, 1) := by decide +kernel
theorem dX4_drops_73 : decode cX4_drops 73 = .ok (.iload 8, 2) := by decide +kernel
theorem dX4_drops_75 : decode cX4_drops 75 = .ok (.invokevirtual 118, 3) := by decide +kernel
theorem dX4_drops_78 : decode cX4_drops 78 = .ok (.iload_n 3, 1) := by decide +kernel
theorem dX4_drops_79 : decode cX4_drops 79 = .ok (.bipush 9, 2) := by decide +kernel
theorem dX4_drops_81 : decode cX4_drops 81 = .ok (.isub, 1) := by decide +kernel
theorem dX4_drops_82 : decode cX4_drops 82 = .ok (.if_icmp .ne 15, 3) := by decide +kernel
theorem dX4_drops_85 : decode cX4_drops 85 = .ok (.lload 6, 2) := by decide +kernel
theorem dX4_drops_87 : decode cX4_drops 87 = .ok (.iload 8, 2) := by decide +kernel
theorem dX4_drops_89 : decode cX4_drops 89 = .ok (.iload 4, 2) := by decide +kernel
theorem dX4_drops_91 : decode cX4_drops 91 = .ok (.invokestatic 185, 3) := by decide +kernel
theorem dX4_drops_94 : decode cX4_drops 94 = .ok (.ladd, 1) := by decide +kernel
theorem dX4_drops_95 : decode cX4_drops 95 = .ok (.lstore 6, 2) := by decide +kernel
theorem dX4_drops_97 : decode cX4_drops 97 = .ok (.iinc 8 1, 3) := by decide +kernel
theorem dX4_drops_100 : decode cX4_drops 100 = .ok (.goto (-40), 3) := by decide +kernel
theorem dX4_drops_103 : decode cX4_drops 103 = .ok (.iload 5, 2) := by decide +kernel
theorem dX4_drops_105 : decode cX4_drops 105 = .ok (.ifCond .ne 8, 3) := by decide +kernel
theorem dX4_drops_108 : decode cX4_drops 108 = .ok (.lload 6, 2) := by decide +kernel
theorem dX4_drops_110 : decode cX4_drops 110 = .ok (.goto 6, 3) := by decide +kernel
theorem dX4_drops_113 : decode cX4_drops 113 = .ok (.ldc2_w 189, 3) := by decide +kernel
theorem dX4_drops_116 : decode cX4_drops 116 = .ok (.lstore 8, 2) := by decide +kernel
theorem dX4_drops_118 : decode cX4_drops 118 = .ok (.lload 6, 2) := by decide +kernel
theorem dX4_drops_120 : decode cX4_drops 120 = .ok (.ldc2_w 189, 3) := by decide +kernel
theorem dX4_drops_123 : decode cX4_drops 123 = .ok (.invokestatic 191, 3) := by decide +kernel
theorem dX4_drops_126 : decode cX4_drops 126 = .ok (.lstore 10, 2) := by decide +kernel
theorem dX4_drops_128 : decode cX4_drops 128 = .ok (.lload 10, 2) := by decide +kernel
theorem dX4_drops_130 : decode cX4_drops 130 = .ok (.lconst 0, 1) := by decide +kernel
theorem dX4_drops_131 : decode cX4_drops 131 = .ok (.lcmp, 1) := by decide +kernel
theorem dX4_drops_132 : decode cX4_drops 132 = .ok (.ifCond .le 11, 3) := by decide +kernel
theorem dX4_drops_135 : decode cX4_drops 135 = .ok (.lload 8, 2) := by decide +kernel
theorem dX4_drops_137 : decode cX4_drops 137 = .ok (.lload 10, 2) := by decide +kernel
theorem dX4_drops_139 : decode cX4_drops 139 = .ok (.ldiv, 1) := by decide +kernel
theorem dX4_drops_140 : decode cX4_drops 140 = .ok (.goto 5, 3) := by decide +kernel
theorem dX4_drops_143 : decode cX4_drops 143 = .ok (.lload 8, 2) := by decide +kernel
theorem dX4_drops_145 : decode cX4_drops 145 = .ok (.lreturn, 1) := by decide +kernel
theorem dX4_weeks_0 : decode cX4_weeks 0 = .ok (.iload_n 1, 1) := by decide +kernel
theorem dX4_weeks_1 : decode cX4_weeks 1 = .ok (.sipush 9999, 3) := by decide +kernel
theorem dX4_weeks_4 : decode cX4_weeks 4 = .ok (.invokestatic 91, 3) := by decide +kernel
theorem dX4_weeks_7 : decode cX4_weeks 7 = .ok (.ifCond .eq 22, 3) := by decide +kernel
theorem dX4_weeks_10 : decode cX4_weeks 10 = .ok (.iload_n 2, 1) := by decide +kernel
theorem dX4_weeks_11 : decode cX4_weeks 11 = .ok (.iconst 1, 1) := by decide +kernel
theorem dX4_weeks_12 : decode cX4_weeks 12 = .ok (.if_icmp .lt 17, 3) := by decide +kernel
theorem dX4_weeks_15 : decode cX4_weeks 15 = .ok (.iload_n 2, 1) := by decide +kernel
theorem dX4_weeks_16 : decode cX4_weeks 16 = .ok (.bipush 60, 2) := by decide +kernel
theorem dX4_weeks_18 : decode cX4_weeks 18 = .ok (.if_icmp .gt 11, 3) := by decide +kernel
theorem dX4_weeks_21 : decode cX4_weeks 21 = .ok (.iload_n 3, 1) := by decide +kernel
theorem dX4_weeks_22 : decode cX4_weeks 22 = .ok (.iconst 1, 1) := by decide +kernel
theorem dX4_weeks_23 : decode cX4_weeks 23 = .ok (.invokestatic 91, 3) := by decide +kernel
theorem dX4_weeks_26 : decode cX4_weeks 26 = .ok (.ifCond .ne 5, 3) := by decide +kernel
theorem dX4_weeks_29 : decode cX4_weeks 29 = .ok (.iconst (-1), 1) := by decide +kernel
theorem dX4_weeks_30 : decode cX4_weeks 30 = .ok (.ireturn, 1) := by decide +kernel
theorem dX4_weeks_31 : decode cX4_weeks 31 = .ok (.aload_n 0, 1) := by decide +kernel
theorem dX4_weeks_32 : decode cX4_weeks 32 = .ok (.getfield 23, 3) := by decide +kernel
theorem dX4_weeks_35 : decode cX4_weeks 35 = .ok (.aload_n 0, 1) := by decide +kernel
theorem dX4_weeks_36 : decode cX4_weeks 36 = .ok (.getfield 19, 3) := by decide +kernel
theorem dX4_weeks_39 : decode cX4_weeks 39 = .ok (.invokevirtual 78, 3) := by decide +kernel
theorem dX4_weeks_42 : decode cX4_weeks 42 = .ok (.iconst 0, 1) := by decide +kernel
theorem dX4_weeks_43 : decode cX4_weeks 43 = .ok (.istore 4, 2) := by decide +kernel
theorem dX4_weeks_45 : decode cX4_weeks 45 = .ok (.iload 4, 2) := by decide +kernel
theorem dX4_weeks_47 : decode cX4_weeks 47 = .ok (.iload_n 2, 1) := by decide +kernel
theorem dX4_weeks_48 : decode cX4_weeks 48 = .ok (.if_icmp .ge 80, 3) := by decide +kernel
theorem dX4_weeks_51 : decode cX4_weeks 51 = .ok (.iload_n 1, 1) := by decide +kernel
theorem dX4_weeks_52 : decode cX4_weeks 52 = .ok (.iload 4, 2) := by decide +kernel
theorem dX4_weeks_54 : decode cX4_weeks 54 = .ok (.invokestatic 195, 3) := by decide +kernel
theorem dX4_weeks_57 : decode cX4_weeks 57 = .ok (.istore 5, 2) := by decide +kernel
theorem dX4_weeks_59 : decode cX4_weeks 59 = .ok (.iload 5, 2) := by decide +kernel
theorem dX4_weeks_61 : decode cX4_weeks 61 = .ok (.bipush 8, 2) := by decide +kernel
theorem dX4_weeks_63 : decode cX4_weeks 63 = .ok (.idiv, 1) := by decide +kernel
theorem dX4_weeks_64 : decode cX4_weeks 64 = .ok (.iconst 5, 1) := by decide +kernel
theorem dX4_weeks_65 : decode cX4_weeks 65 = .ok (.irem, 1) := by decide +kernel
theorem dX4_weeks_66 : decode cX4_weeks 66 = .ok (.istore 6, 2) := by decide +kernel
theorem dX4_weeks_68 : decode cX4_weeks 68 = .ok (.aload_n 0, 1) := by decide +kernel
theorem dX4_weeks_69 : decode cX4_weeks 69 = .ok (.getfield 23, 3) := by decide +kernel
theorem dX4_weeks_72 : decode cX4_weeks 72 = .ok (.iload 5, 2) := by decide +kernel
theorem dX4_weeks_74 : decode cX4_weeks 74 = .ok (.aload_n 0, 1) := by decide +kernel
theorem dX4_weeks_75 : decode cX4_weeks 75 = .ok (.getfield 23, 3) := by decide +kernel
theorem dX4_weeks_78 : decode cX4_weeks 78 = .ok (.invokevirtual 84, 3) := by decide +kernel
theorem dX4_weeks_81 : decode cX4_weeks 81 = .ok (.invokestatic 151, 3) := by decide +kernel
theorem dX4_weeks_84 : decode cX4_weeks 84 = .ok (.iload 6, 2) := by decide +kernel
theorem dX4_weeks_86 : decode cX4_weeks 86 = .ok (.iload 5, 2) := by decide +kernel
theorem dX4_weeks_88 : decode cX4_weeks 88 = .ok (.bipush 64, 2) := by decide +kernel
theorem dX4_weeks_90 : decode cX4_weeks 90 = .ok (.idiv, 1) := by decide +kernel
theorem dX4_weeks_91 : decode cX4_weeks 91 = .ok (.bipush 11, 2) := by decide +kernel
theorem dX4_weeks_93 : decode cX4_weeks 93 = .ok (.irem, 1) := by decide +kernel
theorem dX4_weeks_94 : decode cX4_weeks 94 = .ok (.invokevirtual 118, 3) := by decide +kernel
theorem dX4_weeks_97 : decode cX4_weeks 97 = .ok (.istore 7, 2) := by decide +kernel
theorem dX4_weeks_99 : decode cX4_weeks 99 = .ok (.aload_n 0, 1) := by decide +kernel
theorem dX4_weeks_100 : decode cX4_weeks 100 = .ok (.getfield 23, 3) := by decide +kernel
theorem dX4_weeks_103 : decode cX4_weeks 103 = .ok (.iload 4, 2) := by decide +kernel
theorem dX4_weeks_105 : decode cX4_weeks 105 = .ok (.aload_n 0, 1) := by decide +kernel
theorem dX4_weeks_106 : decode cX4_weeks 106 = .ok (.getfield 23, 3) := by decide +kernel
theorem dX4_weeks_109 : decode cX4_weeks 109 = .ok (.invokevirtual 198, 3) := by decide +kernel
theorem dX4_weeks_112 : decode cX4_weeks 112 = .ok (.invokestatic 151, 3) := by decide +kernel
theorem dX4_weeks_115 : decode cX4_weeks 115 = .ok (.iload 6, 2) := by decide +kernel
theorem dX4_weeks_117 : decode cX4_weeks 117 = .ok (.iload 7, 2) := by decide +kernel
theorem dX4_weeks_119 : decode cX4_weeks 119 = .ok (.invokevirtual 125, 3) := by decide +kernel
theorem dX4_weeks_122 : decode cX4_weeks 122 = .ok (.iinc 4 1, 3) := by decide +kernel
theorem dX4_weeks_125 : decode cX4_weeks 125 = .ok (.goto (-80), 3) := by decide +kernel
theorem dX4_weeks_128 : decode cX4_weeks 128 = .ok (.iload_n 3, 1) := by decide +kernel
theorem dX4_weeks_129 : decode cX4_weeks 129 = .ok (.ifCond .ne 13, 3) := by decide +kernel
theorem dX4_weeks_132 : decode cX4_weeks 132 = .ok (.aload_n 0, 1) := by decide +kernel
theorem dX4_weeks_133 : decode cX4_weeks 133 = .ok (.getfield 23, 3) := by decide +kernel
theorem dX4_weeks_136 : decode cX4_weeks 136 = .ok (.invokevirtual 201, 3) := by decide +kernel
theorem dX4_weeks_139 : decode cX4_weeks 139 = .ok (.goto 14, 3) := by decide +kernel
theorem dX4_weeks_142 : decode cX4_weeks 142 = .ok (.aload_n 0, 1) := by decide +kernel
theorem dX4_weeks_143 : decode cX4_weeks 143 = .ok (.getfield 23, 3) := by decide +kernel
theorem dX4_weeks_146 : decode cX4_weeks 146 = .ok (.invokevirtual 204, 3) := by decide +kernel
theorem dX4_weeks_149 : decode cX4_weeks 149 = .ok (.sipush 500, 3) := by decide +kernel
theorem dX4_weeks_152 : decode cX4_weeks 152 = .ok (.iadd, 1) := by decide +kernel
theorem dX4_weeks_153 : decode cX4_weeks 153 = .ok (.ireturn, 1) := by decide +kernel
theorem dX4_keep_0 : decode cX4_keep 0 = .ok (.aload_n 0, 1) := by decide +kernel
theorem dX4_keep_1 : decode cX4_keep 1 = .ok (.getfield 35, 3) := by decide +kernel
theorem dX4_keep_4 : decode cX4_keep 4 = .ok (.invokevirtual 146, 3) := by decide +kernel
theorem dX4_keep_7 : decode cX4_keep 7 = .ok (.iconst 2, 1) := by decide +kernel
theorem dX4_keep_8 : decode cX4_keep 8 = .ok (.if_icmp .lt 6, 3) := by decide +kernel
theorem dX4_keep_11 : decode cX4_keep 11 = .ok (.bipush (-3), 2) := by decide +kernel
theorem dX4_keep_13 : decode cX4_keep 13 = .ok (.ireturn, 1) := by decide +kernel
theorem dX4_keep_14 : decode cX4_keep 14 = .ok (.aload_n 0, 1) := by decide +kernel
theorem dX4_keep_15 : decode cX4_keep 15 = .ok (.getfield 35, 3) := by decide +kernel
theorem dX4_keep_18 : decode cX4_keep 18 = .ok (.aload_n 0, 1) := by decide +kernel
theorem dX4_keep_19 : decode cX4_keep 19 = .ok (.getfield 19, 3) := by decide +kernel
theorem dX4_keep_22 : decode cX4_keep 22 = .ok (.invokevirtual 122, 3) := by decide +kernel
theorem dX4_keep_25 : decode cX4_keep 25 = .ok (.aload_n 0, 1) := by decide +kernel
theorem dX4_keep_26 : decode cX4_keep 26 = .ok (.getfield 35, 3) := by decide +kernel
theorem dX4_keep_29 : decode cX4_keep 29 = .ok (.invokevirtual 146, 3) := by decide +kernel
theorem dX4_keep_32 : decode cX4_keep 32 = .ok (.ireturn, 1) := by decide +kernel
theorem dX4_back_0 : decode cX4_back 0 = .ok (.aload_n 0, 1) := by decide +kernel
theorem dX4_back_1 : decode cX4_back 1 = .ok (.getfield 35, 3) := by decide +kernel
theorem dX4_back_4 : decode cX4_back 4 = .ok (.aload_n 0, 1) := by decide +kernel
theorem dX4_back_5 : decode cX4_back 5 = .ok (.getfield 19, 3) := by decide +kernel
theorem dX4_back_8 : decode cX4_back 8 = .ok (.invokevirtual 142, 3) := by decide +kernel
theorem dX4_back_11 : decode cX4_back 11 = .ok (.ifCond .ne 6, 3) := by decide +kernel
theorem dX4_back_14 : decode cX4_back 14 = .ok (.bipush (-2), 2) := by decide +kernel
theorem dX4_back_16 : decode cX4_back 16 = .ok (.ireturn, 1) := by decide +kernel
theorem dX4_back_17 : decode cX4_back 17 = .ok (.aload_n 0, 1) := by decide +kernel
theorem dX4_back_18 : decode cX4_back 18 = .ok (.getfield 31, 3) := by decide +kernel
theorem dX4_back_21 : decode cX4_back 21 = .ok (.invokevirtual 83, 3) := by decide +kernel
theorem dX4_back_24 : decode cX4_back 24 = .ok (.aload_n 0, 1) := by decide +kernel
theorem dX4_back_25 : decode cX4_back 25 = .ok (.getfield 35, 3) := by decide +kernel
theorem dX4_back_28 : decode cX4_back 28 = .ok (.invokevirtual 146, 3) := by decide +kernel
theorem dX4_back_31 : decode cX4_back 31 = .ok (.ireturn, 1) := by decide +kernel
theorem dX4_count_0 : decode cX4_count 0 = .ok (.iload_n 1, 1) := by decide +kernel
theorem dX4_count_1 : decode cX4_count 1 = .ok (.tableswitch 99 0 6 #[43, 51, 59, 67, 75, 83, 91], 43) := by decide +kernel
theorem dX4_count_44 : decode cX4_count 44 = .ok (.aload_n 0, 1) := by decide +kernel
theorem dX4_count_45 : decode cX4_count 45 = .ok (.getfield 19, 3) := by decide +kernel
theorem dX4_count_48 : decode cX4_count 48 = .ok (.invokevirtual 84, 3) := by decide +kernel
theorem dX4_count_51 : decode cX4_count 51 = .ok (.ireturn, 1) := by decide +kernel
theorem dX4_count_52 : decode cX4_count 52 = .ok (.aload_n 0, 1) := by decide +kernel
theorem dX4_count_53 : decode cX4_count 53 = .ok (.getfield 19, 3) := by decide +kernel
theorem dX4_count_56 : decode cX4_count 56 = .ok (.invokevirtual 198, 3) := by decide +kernel
theorem dX4_count_59 : decode cX4_count 59 = .ok (.ireturn, 1) := by decide +kernel
theorem dX4_count_60 : decode cX4_count 60 = .ok (.aload_n 0, 1) := by decide +kernel
theorem dX4_count_61 : decode cX4_count 61 = .ok (.getfield 19, 3) := by decide +kernel
theorem dX4_count_64 : decode cX4_count 64 = .ok (.invokevirtual 201, 3) := by decide +kernel
theorem dX4_count_67 : decode cX4_count 67 = .ok (.ireturn, 1) := by decide +kernel
theorem dX4_count_68 : decode cX4_count 68 = .ok (.aload_n 0, 1) := by decide +kernel
theorem dX4_count_69 : decode cX4_count 69 = .ok (.getfield 41, 3) := by decide +kernel
theorem dX4_count_72 : decode cX4_count 72 = .ok (.invokevirtual 175, 3) := by decide +kernel
theorem dX4_count_75 : decode cX4_count 75 = .ok (.ireturn, 1) := by decide +kernel
theorem dX4_count_76 : decode cX4_count 76 = .ok (.aload_n 0, 1) := by decide +kernel
theorem dX4_count_77 : decode cX4_count 77 = .ok (.getfield 31, 3) := by decide +kernel
theorem dX4_count_80 : decode cX4_count 80 = .ok (.invokevirtual 146, 3) := by decide +kernel
theorem dX4_count_83 : decode cX4_count 83 = .ok (.ireturn, 1) := by decide +kernel
theorem dX4_count_84 : decode cX4_count 84 = .ok (.aload_n 0, 1) := by decide +kernel
theorem dX4_count_85 : decode cX4_count 85 = .ok (.getfield 35, 3) := by decide +kernel
theorem dX4_count_88 : decode cX4_count 88 = .ok (.invokevirtual 146, 3) := by decide +kernel
theorem dX4_count_91 : decode cX4_count 91 = .ok (.ireturn, 1) := by decide +kernel
theorem dX4_count_92 : decode cX4_count 92 = .ok (.aload_n 0, 1) := by decide +kernel
theorem dX4_count_93 : decode cX4_count 93 = .ok (.getfield 10, 3) := by decide +kernel
theorem dX4_count_96 : decode cX4_count 96 = .ok (.invokevirtual 71, 3) := by decide +kernel
theorem dX4_count_99 : decode cX4_count 99 = .ok (.ireturn, 1) := by decide +kernel
theorem dX4_count_100 : decode cX4_count 100 = .ok (.iconst (-1), 1) := by decide +kernel
theorem dX4_count_101 : decode cX4_count 101 = .ok (.ireturn, 1) := by decide +kernel
theorem dX4_firstSeen_0 : decode cX4_firstSeen 0 = .ok (.iconst 0, 1) := by decide +kernel
theorem dX4_firstSeen_1 : decode cX4_firstSeen 1 = .ok (.istore_n 3, 1) := by decide +kernel
theorem dX4_firstSeen_2 : decode cX4_firstSeen 2 = .ok (.iload_n 3, 1) := by decide +kernel
theorem dX4_firstSeen_3 : decode cX4_firstSeen 3 = .ok (.iload_n 2, 1) := by decide +kernel
theorem dX4_firstSeen_4 : decode cX4_firstSeen 4 = .ok (.if_icmp .ge 23, 3) := by decide +kernel
theorem dX4_firstSeen_7 : decode cX4_firstSeen 7 = .ok (.aload_n 0, 1) := by decide +kernel
theorem dX4_firstSeen_8 : decode cX4_firstSeen 8 = .ok (.getfield 45, 3) := by decide +kernel
theorem dX4_firstSeen_11 : decode cX4_firstSeen 11 = .ok (.iload_n 3, 1) := by decide +kernel
theorem dX4_firstSeen_12 : decode cX4_firstSeen 12 = .ok (.invokestatic 207, 3) := by decide +kernel
theorem dX4_firstSeen_15 : decode cX4_firstSeen 15 = .ok (.iload_n 1, 1) := by decide +kernel
theorem dX4_firstSeen_16 : decode cX4_firstSeen 16 = .ok (.if_icmp .ne 5, 3) := by decide +kernel
theorem dX4_firstSeen_19 : decode cX4_firstSeen 19 = .ok (.iload_n 3, 1) := by decide +kernel
theorem dX4_firstSeen_20 : decode cX4_firstSeen 20 = .ok (.ireturn, 1) := by decide +kernel
theorem dX4_firstSeen_21 : decode cX4_firstSeen 21 = .ok (.iinc 3 1, 3) := by decide +kernel
theorem dX4_firstSeen_24 : decode cX4_firstSeen 24 = .ok (.goto (-22), 3) := by decide +kernel
theorem dX4_firstSeen_27 : decode cX4_firstSeen 27 = .ok (.iload_n 2, 1) := by decide +kernel
theorem dX4_firstSeen_28 : decode cX4_firstSeen 28 = .ok (.ireturn, 1) := by decide +kernel
theorem dX4_isUpTo_0 : decode cX4_isUpTo 0 = .ok (.iload_n 0, 1) := by decide +kernel
theorem dX4_isUpTo_1 : decode cX4_isUpTo 1 = .ok (.ifCond .lt 12, 3) := by decide +kernel
theorem dX4_isUpTo_4 : decode cX4_isUpTo 4 = .ok (.iload_n 0, 1) := by decide +kernel
theorem dX4_isUpTo_5 : decode cX4_isUpTo 5 = .ok (.iload_n 1, 1) := by decide +kernel
theorem dX4_isUpTo_6 : decode cX4_isUpTo 6 = .ok (.if_icmp .gt 7, 3) := by decide +kernel
theorem dX4_isUpTo_9 : decode cX4_isUpTo 9 = .ok (.iconst 1, 1) := by decide +kernel
theorem dX4_isUpTo_10 : decode cX4_isUpTo 10 = .ok (.goto 4, 3) := by decide +kernel
theorem dX4_isUpTo_13 : decode cX4_isUpTo 13 = .ok (.iconst 0, 1) := by decide +kernel
theorem dX4_isUpTo_14 : decode cX4_isUpTo 14 = .ok (.ireturn, 1) := by decide +kernel
theorem dX4_isTheme_0 : decode cX4_isTheme 0 = .ok (.iload_n 0, 1) := by decide +kernel
theorem dX4_isTheme_1 : decode cX4_isTheme 1 = .ok (.ifCond .lt 12, 3) := by decide +kernel
theorem dX4_isTheme_4 : decode cX4_isTheme 4 = .ok (.iload_n 0, 1) := by decide +kernel
theorem dX4_isTheme_5 : decode cX4_isTheme 5 = .ok (.iconst 5, 1) := by decide +kernel
theorem dX4_isTheme_6 : decode cX4_isTheme 6 = .ok (.if_icmp .ge 7, 3) := by decide +kernel
theorem dX4_isTheme_9 : decode cX4_isTheme 9 = .ok (.iconst 1, 1) := by decide +kernel
theorem dX4_isTheme_10 : decode cX4_isTheme 10 = .ok (.goto 4, 3) := by decide +kernel
theorem dX4_isTheme_13 : decode cX4_isTheme 13 = .ok (.iconst 0, 1) := by decide +kernel
theorem dX4_isTheme_14 : decode cX4_isTheme 14 = .ok (.ireturn, 1) := by decide +kernel
theorem dX4_told_0 : decode cX4_told 0 = .ok (.iload_n 0, 1) := by decide +kernel
theorem dX4_told_1 : decode cX4_told 1 = .ok (.bipush 100, 2) := by decide +kernel
theorem dX4_told_3 : decode cX4_told 3 = .ok (.if_icmp .ne 8, 3) := by decide +kernel
theorem dX4_told_6 : decode cX4_told 6 = .ok (.bipush (-4), 2) := by decide +kernel
theorem dX4_told_8 : decode cX4_told 8 = .ok (.goto 7, 3) := by decide +kernel
theorem dX4_told_11 : decode cX4_told 11 = .ok (.iload_n 0, 1) := by decide +kernel
theorem dX4_told_12 : decode cX4_told 12 = .ok (.bipush 9, 2) := by decide +kernel
theorem dX4_told_14 : decode cX4_told 14 = .ok (.iadd, 1) := by decide +kernel
theorem dX4_told_15 : decode cX4_told 15 = .ok (.ireturn, 1) := by decide +kernel
theorem dX4_at_0 : decode cX4_at 0 = .ok (.iload_n 1, 1) := by decide +kernel
theorem dX4_at_1 : decode cX4_at 1 = .ok (.ifCond .lt 15, 3) := by decide +kernel
theorem dX4_at_4 : decode cX4_at 4 = .ok (.iload_n 1, 1) := by decide +kernel
theorem dX4_at_5 : decode cX4_at 5 = .ok (.aload_n 0, 1) := by decide +kernel
theorem dX4_at_6 : decode cX4_at 6 = .ok (.arraylength, 1) := by decide +kernel
theorem dX4_at_7 : decode cX4_at 7 = .ok (.if_icmp .ge 9, 3) := by decide +kernel
theorem dX4_at_10 : decode cX4_at 10 = .ok (.aload_n 0, 1) := by decide +kernel
theorem dX4_at_11 : decode cX4_at 11 = .ok (.iload_n 1, 1) := by decide +kernel
theorem dX4_at_12 : decode cX4_at 12 = .ok (.iaload, 1) := by decide +kernel
theorem dX4_at_13 : decode cX4_at 13 = .ok (.goto 4, 3) := by decide +kernel
theorem dX4_at_16 : decode cX4_at 16 = .ok (.iconst 0, 1) := by decide +kernel
theorem dX4_at_17 : decode cX4_at 17 = .ok (.ireturn, 1) := by decide +kernel
theorem dX4_put_0 : decode cX4_put 0 = .ok (.iload_n 1, 1) := by decide +kernel
theorem dX4_put_1 : decode cX4_put 1 = .ok (.ifCond .lt 13, 3) := by decide +kernel
theorem dX4_put_4 : decode cX4_put 4 = .ok (.iload_n 1, 1) := by decide +kernel
theorem dX4_put_5 : decode cX4_put 5 = .ok (.aload_n 0, 1) := by decide +kernel
theorem dX4_put_6 : decode cX4_put 6 = .ok (.arraylength, 1) := by decide +kernel
theorem dX4_put_7 : decode cX4_put 7 = .ok (.if_icmp .ge 7, 3) := by decide +kernel
theorem dX4_put_10 : decode cX4_put 10 = .ok (.aload_n 0, 1) := by decide +kernel
theorem dX4_put_11 : decode cX4_put 11 = .ok (.iload_n 1, 1) := by decide +kernel
theorem dX4_put_12 : decode cX4_put 12 = .ok (.iload_n 2, 1) := by decide +kernel
theorem dX4_put_13 : decode cX4_put 13 = .ok (.iastore, 1) := by decide +kernel
theorem dX4_put_14 : decode cX4_put 14 = .ok (.return_, 1) := by decide +kernel
theorem dX4_remainder_0 : decode cX4_remainder 0 = .ok (.iload_n 1, 1) := by decide +kernel
theorem dX4_remainder_1 : decode cX4_remainder 1 = .ok (.ifCond .le 9, 3) := by decide +kernel
theorem dX4_remainder_4 : decode cX4_remainder 4 = .ok (.iload_n 0, 1) := by decide +kernel
theorem dX4_remainder_5 : decode cX4_remainder 5 = .ok (.iload_n 1, 1) := by decide +kernel
theorem dX4_remainder_6 : decode cX4_remainder 6 = .ok (.irem, 1) := by decide +kernel
theorem dX4_remainder_7 : decode cX4_remainder 7 = .ok (.goto 4, 3) := by decide +kernel
theorem dX4_remainder_10 : decode cX4_remainder 10 = .ok (.iconst 0, 1) := by decide +kernel
theorem dX4_remainder_11 : decode cX4_remainder 11 = .ok (.ireturn, 1) := by decide +kernel
theorem dX4_drawOf_0 : decode cX4_drawOf 0 = .ok (.ldc2_w 211, 3) := by decide +kernel
theorem dX4_drawOf_3 : decode cX4_drawOf 3 = .ok (.iload_n 0, 1) := by decide +kernel
theorem dX4_drawOf_4 : decode cX4_drawOf 4 = .ok (.i2l, 1) := by decide +kernel
theorem dX4_drawOf_5 : decode cX4_drawOf 5 = .ok (.lmul, 1) := by decide +kernel
theorem dX4_drawOf_6 : decode cX4_drawOf 6 = .ok (.ldc2_w 213, 3) := by decide +kernel
theorem dX4_drawOf_9 : decode cX4_drawOf 9 = .ok (.iload_n 1, 1) := by decide +kernel
theorem dX4_drawOf_10 : decode cX4_drawOf 10 = .ok (.i2l, 1) := by decide +kernel
theorem dX4_drawOf_11 : decode cX4_drawOf 11 = .ok (.lmul, 1) := by decide +kernel
theorem dX4_drawOf_12 : decode cX4_drawOf 12 = .ok (.ladd, 1) := by decide +kernel
theorem dX4_drawOf_13 : decode cX4_drawOf 13 = .ok (.lconst 1, 1) := by decide +kernel
theorem dX4_drawOf_14 : decode cX4_drawOf 14 = .ok (.ladd, 1) := by decide +kernel
theorem dX4_drawOf_15 : decode cX4_drawOf 15 = .ok (.lstore_n 2, 1) := by decide +kernel
theorem dX4_drawOf_16 : decode cX4_drawOf 16 = .ok (.lload_n 2, 1) := by decide +kernel
theorem dX4_drawOf_17 : decode cX4_drawOf 17 = .ok (.lload_n 2, 1) := by decide +kernel
theorem dX4_drawOf_18 : decode cX4_drawOf 18 = .ok (.lmul, 1) := by decide +kernel
theorem dX4_drawOf_19 : decode cX4_drawOf 19 = .ok (.ldc2_w 215, 3) := by decide +kernel
theorem dX4_drawOf_22 : decode cX4_drawOf 22 = .ok (.lrem, 1) := by decide +kernel
theorem dX4_drawOf_23 : decode cX4_drawOf 23 = .ok (.ldc2_w 217, 3) := by decide +kernel
theorem dX4_drawOf_26 : decode cX4_drawOf 26 = .ok (.ldiv, 1) := by decide +kernel
theorem dX4_drawOf_27 : decode cX4_drawOf 27 = .ok (.l2i, 1) := by decide +kernel
theorem dX4_drawOf_28 : decode cX4_drawOf 28 = .ok (.ireturn, 1) := by decide +kernel
theorem dX4_waysOfTears_0 : decode cX4_waysOfTears 0 = .ok (.iload_n 0, 1) := by decide +kernel
theorem dX4_waysOfTears_1 : decode cX4_waysOfTears 1 = .ok (.ifCond .lt 19, 3) := by decide +kernel
theorem dX4_waysOfTears_4 : decode cX4_waysOfTears 4 = .ok (.iload_n 0, 1) := by decide +kernel
theorem dX4_waysOfTears_5 : decode cX4_waysOfTears 5 = .ok (.getstatic 219, 3) := by decide +kernel
theorem dX4_waysOfTears_8 : decode cX4_waysOfTears 8 = .ok (.arraylength, 1) := by decide +kernel
theorem dX4_waysOfTears_9 : decode cX4_waysOfTears 9 = .ok (.if_icmp .ge 11, 3) := by decide +kernel
theorem dX4_waysOfTears_12 : decode cX4_waysOfTears 12 = .ok (.getstatic 219, 3) := by decide +kernel
theorem dX4_waysOfTears_15 : decode cX4_waysOfTears 15 = .ok (.iload_n 0, 1) := by decide +kernel
theorem dX4_waysOfTears_16 : decode cX4_waysOfTears 16 = .ok (.laload, 1) := by decide +kernel
theorem dX4_waysOfTears_17 : decode cX4_waysOfTears 17 = .ok (.goto 4, 3) := by decide +kernel
theorem dX4_waysOfTears_20 : decode cX4_waysOfTears 20 = .ok (.lconst 0, 1) := by decide +kernel
theorem dX4_waysOfTears_21 : decode cX4_waysOfTears 21 = .ok (.lstore_n 2, 1) := by decide +kernel
theorem dX4_waysOfTears_22 : decode cX4_waysOfTears 22 = .ok (.iconst 0, 1) := by decide +kernel
theorem dX4_waysOfTears_23 : decode cX4_waysOfTears 23 = .ok (.istore 4, 2) := by decide +kernel
theorem dX4_waysOfTears_25 : decode cX4_waysOfTears 25 = .ok (.iload 4, 2) := by decide +kernel
theorem dX4_waysOfTears_27 : decode cX4_waysOfTears 27 = .ok (.bipush 10, 2) := by decide +kernel
theorem dX4_waysOfTears_29 : decode cX4_waysOfTears 29 = .ok (.if_icmp .ge 28, 3) := by decide +kernel
theorem dX4_waysOfTears_32 : decode cX4_waysOfTears 32 = .ok (.lload_n 2, 1) := by decide +kernel
theorem dX4_waysOfTears_33 : decode cX4_waysOfTears 33 = .ok (.iload 4, 2) := by decide +kernel
theorem dX4_waysOfTears_35 : decode cX4_waysOfTears 35 = .ok (.iload_n 0, 1) := by decide +kernel
theorem dX4_waysOfTears_36 : decode cX4_waysOfTears 36 = .ok (.if_icmp .ge 8, 3) := by decide +kernel
theorem dX4_waysOfTears_39 : decode cX4_waysOfTears 39 = .ok (.iload_n 1, 1) := by decide +kernel
theorem dX4_waysOfTears_40 : decode cX4_waysOfTears 40 = .ok (.i2l, 1) := by decide +kernel
theorem dX4_waysOfTears_41 : decode cX4_waysOfTears 41 = .ok (.goto 8, 3) := by decide +kernel
theorem dX4_waysOfTears_44 : decode cX4_waysOfTears 44 = .ok (.bipush 10, 2) := by decide +kernel
theorem dX4_waysOfTears_46 : decode cX4_waysOfTears 46 = .ok (.iload_n 1, 1) := by decide +kernel
theorem dX4_waysOfTears_47 : decode cX4_waysOfTears 47 = .ok (.isub, 1) := by decide +kernel
theorem dX4_waysOfTears_48 : decode cX4_waysOfTears 48 = .ok (.i2l, 1) := by decide +kernel
theorem dX4_waysOfTears_49 : decode cX4_waysOfTears 49 = .ok (.lmul, 1) := by decide +kernel
theorem dX4_waysOfTears_50 : decode cX4_waysOfTears 50 = .ok (.lstore_n 2, 1) := by decide +kernel
theorem dX4_waysOfTears_51 : decode cX4_waysOfTears 51 = .ok (.iinc 4 1, 3) := by decide +kernel
theorem dX4_waysOfTears_54 : decode cX4_waysOfTears 54 = .ok (.goto (-29), 3) := by decide +kernel
theorem dX4_waysOfTears_57 : decode cX4_waysOfTears 57 = .ok (.lload_n 2, 1) := by decide +kernel
theorem dX4_waysOfTears_58 : decode cX4_waysOfTears 58 = .ok (.lreturn, 1) := by decide +kernel
theorem dX4_greatestDivisor_0 : decode cX4_greatestDivisor 0 = .ok (.lload_n 2, 1) := by decide +kernel
theorem dX4_greatestDivisor_1 : decode cX4_greatestDivisor 1 = .ok (.lstore 4, 2) := by decide +kernel
theorem dX4_greatestDivisor_3 : decode cX4_greatestDivisor 3 = .ok (.lload_n 0, 1) := by decide +kernel
theorem dX4_greatestDivisor_4 : decode cX4_greatestDivisor 4 = .ok (.lstore 6, 2) := by decide +kernel
theorem dX4_greatestDivisor_6 : decode cX4_greatestDivisor 6 = .ok (.iconst 0, 1) := by decide +kernel
theorem dX4_greatestDivisor_7 : decode cX4_greatestDivisor 7 = .ok (.istore 8, 2) := by decide +kernel
theorem dX4_greatestDivisor_9 : decode cX4_greatestDivisor 9 = .ok (.iload 8, 2) := by decide +kernel
theorem dX4_greatestDivisor_11 : decode cX4_greatestDivisor 11 = .ok (.bipush 100, 2) := by decide +kernel
theorem dX4_greatestDivisor_13 : decode cX4_greatestDivisor 13 = .ok (.if_icmp .ge 31, 3) := by decide +kernel
theorem dX4_greatestDivisor_16 : decode cX4_greatestDivisor 16 = .ok (.lload 6, 2) := by decide +kernel
theorem dX4_greatestDivisor_18 : decode cX4_greatestDivisor 18 = .ok (.lconst 0, 1) := by decide +kernel
theorem dX4_greatestDivisor_19 : decode cX4_greatestDivisor 19 = .ok (.lcmp, 1) := by decide +kernel
theorem dX4_greatestDivisor_20 : decode cX4_greatestDivisor 20 = .ok (.ifCond .eq 24, 3) := by decide +kernel
theorem dX4_greatestDivisor_23 : decode cX4_greatestDivisor 23 = .ok (.lload 4, 2) := by decide +kernel
theorem dX4_greatestDivisor_25 : decode cX4_greatestDivisor 25 = .ok (.lload 6, 2) := by decide +kernel
theorem dX4_greatestDivisor_27 : decode cX4_greatestDivisor 27 = .ok (.lrem, 1) := by decide +kernel
theorem dX4_greatestDivisor_28 : decode cX4_greatestDivisor 28 = .ok (.lstore 9, 2) := by decide +kernel
theorem dX4_greatestDivisor_30 : decode cX4_greatestDivisor 30 = .ok (.lload 6, 2) := by decide +kernel
theorem dX4_greatestDivisor_32 : decode cX4_greatestDivisor 32 = .ok (.lstore 4, 2) := by decide +kernel
theorem dX4_greatestDivisor_34 : decode cX4_greatestDivisor 34 = .ok (.lload 9, 2) := by decide +kernel
theorem dX4_greatestDivisor_36 : decode cX4_greatestDivisor 36 = .ok (.lstore 6, 2) := by decide +kernel
theorem dX4_greatestDivisor_38 : decode cX4_greatestDivisor 38 = .ok (.iinc 8 1, 3) := by decide +kernel
theorem dX4_greatestDivisor_41 : decode cX4_greatestDivisor 41 = .ok (.goto (-32), 3) := by decide +kernel
theorem dX4_greatestDivisor_44 : decode cX4_greatestDivisor 44 = .ok (.lload 4, 2) := by decide +kernel
theorem dX4_greatestDivisor_46 : decode cX4_greatestDivisor 46 = .ok (.lreturn, 1) := by decide +kernel
theorem dX4_inked_0 : decode cX4_inked 0 = .ok (.iload_n 0, 1) := by decide +kernel
theorem dX4_inked_1 : decode cX4_inked 1 = .ok (.tableswitch 46 1 4 #[31, 33, 41, 43], 31) := by decide +kernel
theorem dX4_inked_32 : decode cX4_inked 32 = .ok (.iload_n 1, 1) := by decide +kernel
theorem dX4_inked_33 : decode cX4_inked 33 = .ok (.ireturn, 1) := by decide +kernel
theorem dX4_inked_34 : decode cX4_inked 34 = .ok (.iload_n 1, 1) := by decide +kernel
theorem dX4_inked_35 : decode cX4_inked 35 = .ok (.ineg, 1) := by decide +kernel
theorem dX4_inked_36 : decode cX4_inked 36 = .ok (.iload_n 2, 1) := by decide +kernel
theorem dX4_inked_37 : decode cX4_inked 37 = .ok (.iload_n 3, 1) := by decide +kernel
theorem dX4_inked_38 : decode cX4_inked 38 = .ok (.invokestatic 223, 3) := by decide +kernel
theorem dX4_inked_41 : decode cX4_inked 41 = .ok (.ireturn, 1) := by decide +kernel
theorem dX4_inked_42 : decode cX4_inked 42 = .ok (.iconst 0, 1) := by decide +kernel
theorem dX4_inked_43 : decode cX4_inked 43 = .ok (.ireturn, 1) := by decide +kernel
theorem dX4_inked_44 : decode cX4_inked 44 = .ok (.bipush 9, 2) := by decide +kernel
theorem dX4_inked_46 : decode cX4_inked 46 = .ok (.ireturn, 1) := by decide +kernel
theorem dX4_inked_47 : decode cX4_inked 47 = .ok (.iload_n 1, 1) := by decide +kernel
theorem dX4_inked_48 : decode cX4_inked 48 = .ok (.iload_n 2, 1) := by decide +kernel
theorem dX4_inked_49 : decode cX4_inked 49 = .ok (.iload_n 3, 1) := by decide +kernel
theorem dX4_inked_50 : decode cX4_inked 50 = .ok (.invokestatic 223, 3) := by decide +kernel
theorem dX4_inked_53 : decode cX4_inked 53 = .ok (.ireturn, 1) := by decide +kernel
theorem dX4_mixed_0 : decode cX4_mixed 0 = .ok (.bipush 10, 2) := by decide +kernel
theorem dX4_mixed_2 : decode cX4_mixed 2 = .ok (.iload_n 2, 1) := by decide +kernel
theorem dX4_mixed_3 : decode cX4_mixed 3 = .ok (.isub, 1) := by decide +kernel
theorem dX4_mixed_4 : decode cX4_mixed 4 = .ok (.iload_n 0, 1) := by decide +kernel
theorem dX4_mixed_5 : decode cX4_mixed 5 = .ok (.imul, 1) := by decide +kernel
theorem dX4_mixed_6 : decode cX4_mixed 6 = .ok (.iload_n 2, 1) := by decide +kernel
theorem dX4_mixed_7 : decode cX4_mixed 7 = .ok (.iload_n 1, 1) := by decide +kernel
theorem dX4_mixed_8 : decode cX4_mixed 8 = .ok (.imul, 1) := by decide +kernel
theorem dX4_mixed_9 : decode cX4_mixed 9 = .ok (.iadd, 1) := by decide +kernel
theorem dX4_mixed_10 : decode cX4_mixed 10 = .ok (.bipush 10, 2) := by decide +kernel
theorem dX4_mixed_12 : decode cX4_mixed 12 = .ok (.idiv, 1) := by decide +kernel
theorem dX4_mixed_13 : decode cX4_mixed 13 = .ok (.ireturn, 1) := by decide +kernel
theorem dX4_carried_0 : decode cX4_carried 0 = .ok (.iload_n 0, 1) := by decide +kernel
theorem dX4_carried_1 : decode cX4_carried 1 = .ok (.tableswitch 53 1 4 #[31, 53, 38, 45], 31) := by decide +kernel
theorem dX4_carried_32 : decode cX4_carried 32 = .ok (.iload_n 1, 1) := by decide +kernel
theorem dX4_carried_33 : decode cX4_carried 33 = .ok (.iload_n 2, 1) := by decide +kernel
theorem dX4_carried_34 : decode cX4_carried 34 = .ok (.iconst 2, 1) := by decide +kernel
theorem dX4_carried_35 : decode cX4_carried 35 = .ok (.invokestatic 226, 3) := by decide +kernel
theorem dX4_carried_38 : decode cX4_carried 38 = .ok (.ireturn, 1) := by decide +kernel
theorem dX4_carried_39 : decode cX4_carried 39 = .ok (.iload_n 1, 1) := by decide +kernel
theorem dX4_carried_40 : decode cX4_carried 40 = .ok (.iconst 0, 1) := by decide +kernel
theorem dX4_carried_41 : decode cX4_carried 41 = .ok (.iconst 1, 1) := by decide +kernel
theorem dX4_carried_42 : decode cX4_carried 42 = .ok (.invokestatic 226, 3) := by decide +kernel
theorem dX4_carried_45 : decode cX4_carried 45 = .ok (.ireturn, 1) := by decide +kernel
theorem dX4_carried_46 : decode cX4_carried 46 = .ok (.iload_n 1, 1) := by decide +kernel
theorem dX4_carried_47 : decode cX4_carried 47 = .ok (.bipush 9, 2) := by decide +kernel
theorem dX4_carried_49 : decode cX4_carried 49 = .ok (.iconst 1, 1) := by decide +kernel
theorem dX4_carried_50 : decode cX4_carried 50 = .ok (.invokestatic 226, 3) := by decide +kernel
theorem dX4_carried_53 : decode cX4_carried 53 = .ok (.ireturn, 1) := by decide +kernel
theorem dX4_carried_54 : decode cX4_carried 54 = .ok (.iload_n 1, 1) := by decide +kernel
theorem dX4_carried_55 : decode cX4_carried 55 = .ok (.iload_n 2, 1) := by decide +kernel
theorem dX4_carried_56 : decode cX4_carried 56 = .ok (.iconst 1, 1) := by decide +kernel
theorem dX4_carried_57 : decode cX4_carried 57 = .ok (.invokestatic 226, 3) := by decide +kernel
theorem dX4_carried_60 : decode cX4_carried 60 = .ok (.ireturn, 1) := by decide +kernel
theorem dX4_toward_0 : decode cX4_toward 0 = .ok (.iload_n 0, 1) := by decide +kernel
theorem dX4_toward_1 : decode cX4_toward 1 = .ok (.iload_n 1, 1) := by decide +kernel
theorem dX4_toward_2 : decode cX4_toward 2 = .ok (.if_icmp .ge 13, 3) := by decide +kernel
theorem dX4_toward_5 : decode cX4_toward 5 = .ok (.iload_n 1, 1) := by decide +kernel
theorem dX4_toward_6 : decode cX4_toward 6 = .ok (.iload_n 0, 1) := by decide +kernel
theorem dX4_toward_7 : decode cX4_toward 7 = .ok (.iload_n 2, 1) := by decide +kernel
theorem dX4_toward_8 : decode cX4_toward 8 = .ok (.iadd, 1) := by decide +kernel
theorem dX4_toward_9 : decode cX4_toward 9 = .ok (.invokestatic 229, 3) := by decide +kernel
theorem dX4_toward_12 : decode cX4_toward 12 = .ok (.goto 10, 3) := by decide +kernel
theorem dX4_toward_15 : decode cX4_toward 15 = .ok (.iload_n 1, 1) := by decide +kernel
theorem dX4_toward_16 : decode cX4_toward 16 = .ok (.iload_n 0, 1) := by decide +kernel
theorem dX4_toward_17 : decode cX4_toward 17 = .ok (.iload_n 2, 1) := by decide +kernel
theorem dX4_toward_18 : decode cX4_toward 18 = .ok (.isub, 1) := by decide +kernel
theorem dX4_toward_19 : decode cX4_toward 19 = .ok (.invokestatic 234, 3) := by decide +kernel
theorem dX4_toward_22 : decode cX4_toward 22 = .ok (.ireturn, 1) := by decide +kernel
theorem dJ6_bitCount_0f7a4_0 : decode cJ6_bitCount_0f7a4 0 = .ok (.iload_n 0, 1) := by decide +kernel
theorem dJ6_bitCount_0f7a4_1 : decode cJ6_bitCount_0f7a4 1 = .ok (.iload_n 0, 1) := by decide +kernel
theorem dJ6_bitCount_0f7a4_2 : decode cJ6_bitCount_0f7a4 2 = .ok (.iconst 1, 1) := by decide +kernel
theorem dJ6_bitCount_0f7a4_3 : decode cJ6_bitCount_0f7a4 3 = .ok (.iushr, 1) := by decide +kernel
theorem dJ6_bitCount_0f7a4_4 : decode cJ6_bitCount_0f7a4 4 = .ok (.ldc_w 265, 3) := by decide +kernel
theorem dJ6_bitCount_0f7a4_7 : decode cJ6_bitCount_0f7a4 7 = .ok (.iand, 1) := by decide +kernel
theorem dJ6_bitCount_0f7a4_8 : decode cJ6_bitCount_0f7a4 8 = .ok (.isub, 1) := by decide +kernel
theorem dJ6_bitCount_0f7a4_9 : decode cJ6_bitCount_0f7a4 9 = .ok (.istore_n 0, 1) := by decide +kernel
theorem dJ6_bitCount_0f7a4_10 : decode cJ6_bitCount_0f7a4 10 = .ok (.iload_n 0, 1) := by decide +kernel
theorem dJ6_bitCount_0f7a4_11 : decode cJ6_bitCount_0f7a4 11 = .ok (.ldc_w 266, 3) := by decide +kernel
theorem dJ6_bitCount_0f7a4_14 : decode cJ6_bitCount_0f7a4 14 = .ok (.iand, 1) := by decide +kernel
theorem dJ6_bitCount_0f7a4_15 : decode cJ6_bitCount_0f7a4 15 = .ok (.iload_n 0, 1) := by decide +kernel
theorem dJ6_bitCount_0f7a4_16 : decode cJ6_bitCount_0f7a4 16 = .ok (.iconst 2, 1) := by decide +kernel
theorem dJ6_bitCount_0f7a4_17 : decode cJ6_bitCount_0f7a4 17 = .ok (.iushr, 1) := by decide +kernel
theorem dJ6_bitCount_0f7a4_18 : decode cJ6_bitCount_0f7a4 18 = .ok (.ldc_w 266, 3) := by decide +kernel
theorem dJ6_bitCount_0f7a4_21 : decode cJ6_bitCount_0f7a4 21 = .ok (.iand, 1) := by decide +kernel
theorem dJ6_bitCount_0f7a4_22 : decode cJ6_bitCount_0f7a4 22 = .ok (.iadd, 1) := by decide +kernel
theorem dJ6_bitCount_0f7a4_23 : decode cJ6_bitCount_0f7a4 23 = .ok (.istore_n 0, 1) := by decide +kernel
theorem dJ6_bitCount_0f7a4_24 : decode cJ6_bitCount_0f7a4 24 = .ok (.iload_n 0, 1) := by decide +kernel
theorem dJ6_bitCount_0f7a4_25 : decode cJ6_bitCount_0f7a4 25 = .ok (.iload_n 0, 1) := by decide +kernel
theorem dJ6_bitCount_0f7a4_26 : decode cJ6_bitCount_0f7a4 26 = .ok (.iconst 4, 1) := by decide +kernel
theorem dJ6_bitCount_0f7a4_27 : decode cJ6_bitCount_0f7a4 27 = .ok (.iushr, 1) := by decide +kernel
theorem dJ6_bitCount_0f7a4_28 : decode cJ6_bitCount_0f7a4 28 = .ok (.iadd, 1) := by decide +kernel
theorem dJ6_bitCount_0f7a4_29 : decode cJ6_bitCount_0f7a4 29 = .ok (.ldc_w 267, 3) := by decide +kernel
theorem dJ6_bitCount_0f7a4_32 : decode cJ6_bitCount_0f7a4 32 = .ok (.iand, 1) := by decide +kernel
theorem dJ6_bitCount_0f7a4_33 : decode cJ6_bitCount_0f7a4 33 = .ok (.istore_n 0, 1) := by decide +kernel
theorem dJ6_bitCount_0f7a4_34 : decode cJ6_bitCount_0f7a4 34 = .ok (.iload_n 0, 1) := by decide +kernel
theorem dJ6_bitCount_0f7a4_35 : decode cJ6_bitCount_0f7a4 35 = .ok (.iload_n 0, 1) := by decide +kernel
theorem dJ6_bitCount_0f7a4_36 : decode cJ6_bitCount_0f7a4 36 = .ok (.bipush 8, 2) := by decide +kernel
theorem dJ6_bitCount_0f7a4_38 : decode cJ6_bitCount_0f7a4 38 = .ok (.iushr, 1) := by decide +kernel
theorem dJ6_bitCount_0f7a4_39 : decode cJ6_bitCount_0f7a4 39 = .ok (.iadd, 1) := by decide +kernel
theorem dJ6_bitCount_0f7a4_40 : decode cJ6_bitCount_0f7a4 40 = .ok (.istore_n 0, 1) := by decide +kernel
theorem dJ6_bitCount_0f7a4_41 : decode cJ6_bitCount_0f7a4 41 = .ok (.iload_n 0, 1) := by decide +kernel
theorem dJ6_bitCount_0f7a4_42 : decode cJ6_bitCount_0f7a4 42 = .ok (.iload_n 0, 1) := by decide +kernel
theorem dJ6_bitCount_0f7a4_43 : decode cJ6_bitCount_0f7a4 43 = .ok (.bipush 16, 2) := by decide +kernel
theorem dJ6_bitCount_0f7a4_45 : decode cJ6_bitCount_0f7a4 45 = .ok (.iushr, 1) := by decide +kernel
theorem dJ6_bitCount_0f7a4_46 : decode cJ6_bitCount_0f7a4 46 = .ok (.iadd, 1) := by decide +kernel
theorem dJ6_bitCount_0f7a4_47 : decode cJ6_bitCount_0f7a4 47 = .ok (.istore_n 0, 1) := by decide +kernel
theorem dJ6_bitCount_0f7a4_48 : decode cJ6_bitCount_0f7a4 48 = .ok (.iload_n 0, 1) := by decide +kernel
theorem dJ6_bitCount_0f7a4_49 : decode cJ6_bitCount_0f7a4 49 = .ok (.bipush 63, 2) := by decide +kernel
theorem dJ6_bitCount_0f7a4_51 : decode cJ6_bitCount_0f7a4 51 = .ok (.iand, 1) := by decide +kernel
theorem dJ6_bitCount_0f7a4_52 : decode cJ6_bitCount_0f7a4 52 = .ok (.ireturn, 1) := by decide +kernel
theorem dJ9_max_7cf53_0 : decode cJ9_max_7cf53 0 = .ok (.iload_n 0, 1) := by decide +kernel
theorem dJ9_max_7cf53_1 : decode cJ9_max_7cf53 1 = .ok (.iload_n 1, 1) := by decide +kernel
theorem dJ9_max_7cf53_2 : decode cJ9_max_7cf53 2 = .ok (.if_icmp .lt 7, 3) := by decide +kernel
theorem dJ9_max_7cf53_5 : decode cJ9_max_7cf53 5 = .ok (.iload_n 0, 1) := by decide +kernel
theorem dJ9_max_7cf53_6 : decode cJ9_max_7cf53 6 = .ok (.goto 4, 3) := by decide +kernel
theorem dJ9_max_7cf53_9 : decode cJ9_max_7cf53 9 = .ok (.iload_n 1, 1) := by decide +kernel
theorem dJ9_max_7cf53_10 : decode cJ9_max_7cf53 10 = .ok (.ireturn, 1) := by decide +kernel
theorem dJ9_min_7cf53_0 : decode cJ9_min_7cf53 0 = .ok (.iload_n 0, 1) := by decide +kernel
theorem dJ9_min_7cf53_1 : decode cJ9_min_7cf53 1 = .ok (.iload_n 1, 1) := by decide +kernel
theorem dJ9_min_7cf53_2 : decode cJ9_min_7cf53 2 = .ok (.if_icmp .gt 7, 3) := by decide +kernel
theorem dJ9_min_7cf53_5 : decode cJ9_min_7cf53 5 = .ok (.iload_n 0, 1) := by decide +kernel
theorem dJ9_min_7cf53_6 : decode cJ9_min_7cf53 6 = .ok (.goto 4, 3) := by decide +kernel
theorem dJ9_min_7cf53_9 : decode cJ9_min_7cf53 9 = .ok (.iload_n 1, 1) := by decide +kernel
theorem dJ9_min_7cf53_10 : decode cJ9_min_7cf53 10 = .ok (.ireturn, 1) := by decide +kernel
theorem dJ0_length_8abf5_0 : decode cJ0_length_8abf5 0 = .ok (.aload_n 0, 1) := by decide +kernel
theorem dJ0_length_8abf5_1 : decode cJ0_length_8abf5 1 = .ok (.getfield 9, 3) := by decide +kernel
theorem dJ0_length_8abf5_4 : decode cJ0_length_8abf5 4 = .ok (.arraylength, 1) := by decide +kernel
theorem dJ0_length_8abf5_5 : decode cJ0_length_8abf5 5 = .ok (.aload_n 0, 1) := by decide +kernel
theorem dJ0_length_8abf5_6 : decode cJ0_length_8abf5 6 = .ok (.invokevirtual 335, 3) := by decide +kernel
theorem dJ0_length_8abf5_9 : decode cJ0_length_8abf5 9 = .ok (.ishr, 1) := by decide +kernel
theorem dJ0_length_8abf5_10 : decode cJ0_length_8abf5 10 = .ok (.ireturn, 1) := by decide +kernel
theorem dJ0_charAt_5068e_0 : decode cJ0_charAt_5068e 0 = .ok (.aload_n 0, 1) := by decide +kernel
theorem dJ0_charAt_5068e_1 : decode cJ0_charAt_5068e 1 = .ok (.invokevirtual 492, 3) := by decide +kernel
theorem dJ0_charAt_5068e_4 : decode cJ0_charAt_5068e 4 = .ok (.ifCond .eq 12, 3) := by decide +kernel
theorem dJ0_charAt_5068e_7 : decode cJ0_charAt_5068e 7 = .ok (.aload_n 0, 1) := by decide +kernel
theorem dJ0_charAt_5068e_8 : decode cJ0_charAt_5068e 8 = .ok (.getfield 9, 3) := by decide +kernel
theorem dJ0_charAt_5068e_11 : decode cJ0_charAt_5068e 11 = .ok (.iload_n 1, 1) := by decide +kernel
theorem dJ0_charAt_5068e_12 : decode cJ0_charAt_5068e 12 = .ok (.invokestatic 495, 3) := by decide +kernel
theorem dJ0_charAt_5068e_15 : decode cJ0_charAt_5068e 15 = .ok (.ireturn, 1) := by decide +kernel
theorem dJ0_charAt_5068e_16 : decode cJ0_charAt_5068e 16 = .ok (.aload_n 0, 1) := by decide +kernel
theorem dJ0_charAt_5068e_17 : decode cJ0_charAt_5068e 17 = .ok (.getfield 9, 3) := by decide +kernel
theorem dJ0_charAt_5068e_20 : decode cJ0_charAt_5068e 20 = .ok (.iload_n 1, 1) := by decide +kernel
theorem dJ0_charAt_5068e_21 : decode cJ0_charAt_5068e 21 = .ok (.invokestatic 498, 3) := by decide +kernel
theorem dJ0_charAt_5068e_24 : decode cJ0_charAt_5068e 24 = .ok (.ireturn, 1) := by decide +kernel
theorem dJ0_coder_7d493_0 : decode cJ0_coder_7d493 0 = .ok (.getstatic 38, 3) := by decide +kernel
theorem dJ0_coder_7d493_3 : decode cJ0_coder_7d493 3 = .ok (.ifCond .eq 10, 3) := by decide +kernel
theorem dJ0_coder_7d493_6 : decode cJ0_coder_7d493 6 = .ok (.aload_n 0, 1) := by decide +kernel
theorem dJ0_coder_7d493_7 : decode cJ0_coder_7d493 7 = .ok (.getfield 15, 3) := by decide +kernel
theorem dJ0_coder_7d493_10 : decode cJ0_coder_7d493 10 = .ok (.goto 4, 3) := by decide +kernel
theorem dJ0_coder_7d493_13 : decode cJ0_coder_7d493 13 = .ok (.iconst 1, 1) := by decide +kernel
theorem dJ0_coder_7d493_14 : decode cJ0_coder_7d493 14 = .ok (.ireturn, 1) := by decide +kernel
theorem dJ0_isLatin1_aae02_0 : decode cJ0_isLatin1_aae02 0 = .ok (.getstatic 38, 3) := by decide +kernel
theorem dJ0_isLatin1_aae02_3 : decode cJ0_isLatin1_aae02 3 = .ok (.ifCond .eq 14, 3) := by decide +kernel
theorem dJ0_isLatin1_aae02_6 : decode cJ0_isLatin1_aae02 6 = .ok (.aload_n 0, 1) := by decide +kernel
theorem dJ0_isLatin1_aae02_7 : decode cJ0_isLatin1_aae02 7 = .ok (.getfield 15, 3) := by decide +kernel
theorem dJ0_isLatin1_aae02_10 : decode cJ0_isLatin1_aae02 10 = .ok (.ifCond .ne 7, 3) := by decide +kernel
theorem dJ0_isLatin1_aae02_13 : decode cJ0_isLatin1_aae02 13 = .ok (.iconst 1, 1) := by decide +kernel
theorem dJ0_isLatin1_aae02_14 : decode cJ0_isLatin1_aae02 14 = .ok (.goto 4, 3) := by decide +kernel
theorem dJ0_isLatin1_aae02_17 : decode cJ0_isLatin1_aae02 17 = .ok (.iconst 0, 1) := by decide +kernel
theorem dJ0_isLatin1_aae02_18 : decode cJ0_isLatin1_aae02 18 = .ok (.ireturn, 1) := by decide +kernel
theorem dJ0_checkIndex_df160_0 : decode cJ0_checkIndex_df160 0 = .ok (.iload_n 0, 1) := by decide +kernel
theorem dJ0_checkIndex_df160_1 : decode cJ0_checkIndex_df160 1 = .ok (.iload_n 1, 1) := by decide +kernel
theorem dJ0_checkIndex_df160_2 : decode cJ0_checkIndex_df160 2 = .ok (.getstatic 1053, 3) := by decide +kernel
theorem dJ0_checkIndex_df160_5 : decode cJ0_checkIndex_df160 5 = .ok (.invokestatic 1059, 3) := by decide +kernel
theorem dJ0_checkIndex_df160_8 : decode cJ0_checkIndex_df160 8 = .ok (.pop, 1) := by decide +kernel
theorem dJ0_checkIndex_df160_9 : decode cJ0_checkIndex_df160 9 = .ok (.return_, 1) := by decide +kernel
theorem dJ1_charAt_3b067_0 : decode cJ1_charAt_3b067 0 = .ok (.iload_n 1, 1) := by decide +kernel
theorem dJ1_charAt_3b067_1 : decode cJ1_charAt_3b067 1 = .ok (.aload_n 0, 1) := by decide +kernel
theorem dJ1_charAt_3b067_2 : decode cJ1_charAt_3b067 2 = .ok (.arraylength, 1) := by decide +kernel
theorem dJ1_charAt_3b067_3 : decode cJ1_charAt_3b067 3 = .ok (.invokestatic 9, 3) := by decide +kernel
theorem dJ1_charAt_3b067_6 : decode cJ1_charAt_3b067 6 = .ok (.aload_n 0, 1) := by decide +kernel
theorem dJ1_charAt_3b067_7 : decode cJ1_charAt_3b067 7 = .ok (.iload_n 1, 1) := by decide +kernel
theorem dJ1_charAt_3b067_8 : decode cJ1_charAt_3b067 8 = .ok (.baload, 1) := by decide +kernel
theorem dJ1_charAt_3b067_9 : decode cJ1_charAt_3b067 9 = .ok (.sipush 255, 3) := by decide +kernel
theorem dJ1_charAt_3b067_12 : decode cJ1_charAt_3b067 12 = .ok (.iand, 1) := by decide +kernel
theorem dJ1_charAt_3b067_13 : decode cJ1_charAt_3b067 13 = .ok (.i2c, 1) := by decide +kernel
theorem dJ1_charAt_3b067_14 : decode cJ1_charAt_3b067 14 = .ok (.ireturn, 1) := by decide +kernel
theorem dJ2_getChar_3b067_0 : decode cJ2_getChar_3b067 0 = .ok (.getstatic 44, 3) := by decide +kernel
theorem dJ2_getChar_3b067_3 : decode cJ2_getChar_3b067 3 = .ok (.ifCond .ne 25, 3) := by decide +kernel
theorem dJ2_getChar_3b067_6 : decode cJ2_getChar_3b067 6 = .ok (.iload_n 1, 1) := by decide +kernel
theorem dJ2_getChar_3b067_7 : decode cJ2_getChar_3b067 7 = .ok (.ifCond .lt 11, 3) := by decide +kernel
theorem dJ2_getChar_3b067_10 : decode cJ2_getChar_3b067 10 = .ok (.iload_n 1, 1) := by decide +kernel
theorem dJ2_getChar_3b067_11 : decode cJ2_getChar_3b067 11 = .ok (.aload_n 0, 1) := by decide +kernel
theorem dJ2_getChar_3b067_12 : decode cJ2_getChar_3b067 12 = .ok (.invokestatic 48, 3) := by decide +kernel
theorem dJ2_getChar_3b067_15 : decode cJ2_getChar_3b067 15 = .ok (.if_icmp .lt 13, 3) := by decide +kernel
theorem dJ2_getChar_3b067_18 : decode cJ2_getChar_3b067 18 = .ok (.new 52, 3) := by decide +kernel
theorem dJ2_getChar_3b067_21 : decode cJ2_getChar_3b067 21 = .ok (.dup, 1) := by decide +kernel
theorem dJ2_getChar_3b067_22 : decode cJ2_getChar_3b067 22 = .ok (.ldc 54, 2) := by decide +kernel
theorem dJ2_getChar_3b067_24 : decode cJ2_getChar_3b067 24 = .ok (.invokespecial 56, 3) := by decide +kernel
theorem dJ2_getChar_3b067_27 : decode cJ2_getChar_3b067 27 = .ok (.athrow, 1) := by decide +kernel
theorem dJ2_getChar_3b067_28 : decode cJ2_getChar_3b067 28 = .ok (.iload_n 1, 1) := by decide +kernel
theorem dJ2_getChar_3b067_29 : decode cJ2_getChar_3b067 29 = .ok (.iconst 1, 1) := by decide +kernel
theorem dJ2_getChar_3b067_30 : decode cJ2_getChar_3b067 30 = .ok (.ishl, 1) := by decide +kernel
theorem dJ2_getChar_3b067_31 : decode cJ2_getChar_3b067 31 = .ok (.istore_n 1, 1) := by decide +kernel
theorem dJ2_getChar_3b067_32 : decode cJ2_getChar_3b067 32 = .ok (.aload_n 0, 1) := by decide +kernel
theorem dJ2_getChar_3b067_33 : decode cJ2_getChar_3b067 33 = .ok (.iload_n 1, 1) := by decide +kernel
theorem dJ2_getChar_3b067_34 : decode cJ2_getChar_3b067 34 = .ok (.iinc 1 1, 3) := by decide +kernel
theorem dJ2_getChar_3b067_37 : decode cJ2_getChar_3b067 37 = .ok (.baload, 1) := by decide +kernel
theorem dJ2_getChar_3b067_38 : decode cJ2_getChar_3b067 38 = .ok (.sipush 255, 3) := by decide +kernel
theorem dJ2_getChar_3b067_41 : decode cJ2_getChar_3b067 41 = .ok (.iand, 1) := by decide +kernel
theorem dJ2_getChar_3b067_42 : decode cJ2_getChar_3b067 42 = .ok (.getstatic 59, 3) := by decide +kernel
theorem dJ2_getChar_3b067_45 : decode cJ2_getChar_3b067 45 = .ok (.ishl, 1) := by decide +kernel
theorem dJ2_getChar_3b067_46 : decode cJ2_getChar_3b067 46 = .ok (.aload_n 0, 1) := by decide +kernel
theorem dJ2_getChar_3b067_47 : decode cJ2_getChar_3b067 47 = .ok (.iload_n 1, 1) := by decide +kernel
theorem dJ2_getChar_3b067_48 : decode cJ2_getChar_3b067 48 = .ok (.baload, 1) := by decide +kernel
theorem dJ2_getChar_3b067_49 : decode cJ2_getChar_3b067 49 = .ok (.sipush 255, 3) := by decide +kernel
theorem dJ2_getChar_3b067_52 : decode cJ2_getChar_3b067 52 = .ok (.iand, 1) := by decide +kernel
theorem dJ2_getChar_3b067_53 : decode cJ2_getChar_3b067 53 = .ok (.getstatic 63, 3) := by decide +kernel
theorem dJ2_getChar_3b067_56 : decode cJ2_getChar_3b067 56 = .ok (.ishl, 1) := by decide +kernel
theorem dJ2_getChar_3b067_57 : decode cJ2_getChar_3b067 57 = .ok (.ior, 1) := by decide +kernel
theorem dJ2_getChar_3b067_58 : decode cJ2_getChar_3b067 58 = .ok (.i2c, 1) := by decide +kernel
theorem dJ2_getChar_3b067_59 : decode cJ2_getChar_3b067 59 = .ok (.ireturn, 1) := by decide +kernel
theorem dJ2_length_9d52b_0 : decode cJ2_length_9d52b 0 = .ok (.aload_n 0, 1) := by decide +kernel
theorem dJ2_length_9d52b_1 : decode cJ2_length_9d52b 1 = .ok (.arraylength, 1) := by decide +kernel
theorem dJ2_length_9d52b_2 : decode cJ2_length_9d52b 2 = .ok (.iconst 1, 1) := by decide +kernel
theorem dJ2_length_9d52b_3 : decode cJ2_length_9d52b 3 = .ok (.ishr, 1) := by decide +kernel
theorem dJ2_length_9d52b_4 : decode cJ2_length_9d52b 4 = .ok (.ireturn, 1) := by decide +kernel
theorem dJ2_charAt_3b067_0 : decode cJ2_charAt_3b067 0 = .ok (.iload_n 1, 1) := by decide +kernel
theorem dJ2_charAt_3b067_1 : decode cJ2_charAt_3b067 1 = .ok (.aload_n 0, 1) := by decide +kernel
theorem dJ2_charAt_3b067_2 : decode cJ2_charAt_3b067 2 = .ok (.invokestatic 67, 3) := by decide +kernel
theorem dJ2_charAt_3b067_5 : decode cJ2_charAt_3b067 5 = .ok (.aload_n 0, 1) := by decide +kernel
theorem dJ2_charAt_3b067_6 : decode cJ2_charAt_3b067 6 = .ok (.iload_n 1, 1) := by decide +kernel
theorem dJ2_charAt_3b067_7 : decode cJ2_charAt_3b067 7 = .ok (.invokestatic 71, 3) := by decide +kernel
theorem dJ2_charAt_3b067_10 : decode cJ2_charAt_3b067 10 = .ok (.ireturn, 1) := by decide +kernel
theorem dJ2_checkIndex_2214a_0 : decode cJ2_checkIndex_2214a 0 = .ok (.iload_n 0, 1) := by decide +kernel
theorem dJ2_checkIndex_2214a_1 : decode cJ2_checkIndex_2214a 1 = .ok (.aload_n 1, 1) := by decide +kernel
theorem dJ2_checkIndex_2214a_2 : decode cJ2_checkIndex_2214a 2 = .ok (.invokestatic 48, 3) := by decide +kernel
theorem dJ2_checkIndex_2214a_5 : decode cJ2_checkIndex_2214a 5 = .ok (.invokestatic 414, 3) := by decide +kernel
theorem dJ2_checkIndex_2214a_8 : decode cJ2_checkIndex_2214a 8 = .ok (.return_, 1) := by decide +kernel
theorem dJ7_fill_53178_0 : decode cJ7_fill_53178 0 = .ok (.iconst 0, 1) := by decide +kernel
theorem dJ7_fill_53178_1 : decode cJ7_fill_53178 1 = .ok (.istore_n 2, 1) := by decide +kernel
theorem dJ7_fill_53178_2 : decode cJ7_fill_53178 2 = .ok (.aload_n 0, 1) := by decide +kernel
theorem dJ7_fill_53178_3 : decode cJ7_fill_53178 3 = .ok (.arraylength, 1) := by decide +kernel
theorem dJ7_fill_53178_4 : decode cJ7_fill_53178 4 = .ok (.istore_n 3, 1) := by decide +kernel
theorem dJ7_fill_53178_5 : decode cJ7_fill_53178 5 = .ok (.iload_n 2, 1) := by decide +kernel
theorem dJ7_fill_53178_6 : decode cJ7_fill_53178 6 = .ok (.iload_n 3, 1) := by decide +kernel
theorem dJ7_fill_53178_7 : decode cJ7_fill_53178 7 = .ok (.if_icmp .ge 13, 3) := by decide +kernel
theorem dJ7_fill_53178_10 : decode cJ7_fill_53178 10 = .ok (.aload_n 0, 1) := by decide +kernel
theorem dJ7_fill_53178_11 : decode cJ7_fill_53178 11 = .ok (.iload_n 2, 1) := by decide +kernel
theorem dJ7_fill_53178_12 : decode cJ7_fill_53178 12 = .ok (.iload_n 1, 1) := by decide +kernel
theorem dJ7_fill_53178_13 : decode cJ7_fill_53178 13 = .ok (.iastore, 1) := by decide +kernel
theorem dJ7_fill_53178_14 : decode cJ7_fill_53178 14 = .ok (.iinc 2 1, 3) := by decide +kernel
theorem dJ7_fill_53178_17 : decode cJ7_fill_53178 17 = .ok (.goto (-12), 3) := by decide +kernel
theorem dJ7_fill_53178_20 : decode cJ7_fill_53178 20 = .ok (.return_, 1) := by decide +kernel
theorem dJ3_checkIndex_8e157_0 : decode cJ3_checkIndex_8e157 0 = .ok (.iload_n 0, 1) := by decide +kernel
theorem dJ3_checkIndex_8e157_1 : decode cJ3_checkIndex_8e157 1 = .ok (.ifCond .lt 8, 3) := by decide +kernel
theorem dJ3_checkIndex_8e157_4 : decode cJ3_checkIndex_8e157 4 = .ok (.iload_n 0, 1) := by decide +kernel
theorem dJ3_checkIndex_8e157_5 : decode cJ3_checkIndex_8e157 5 = .ok (.iload_n 1, 1) := by decide +kernel
theorem dJ3_checkIndex_8e157_6 : decode cJ3_checkIndex_8e157 6 = .ok (.if_icmp .lt 10, 3) := by decide +kernel
theorem dJ3_checkIndex_8e157_9 : decode cJ3_checkIndex_8e157 9 = .ok (.aload_n 2, 1) := by decide +kernel
theorem dJ3_checkIndex_8e157_10 : decode cJ3_checkIndex_8e157 10 = .ok (.iload_n 0, 1) := by decide +kernel
theorem dJ3_checkIndex_8e157_11 : decode cJ3_checkIndex_8e157 11 = .ok (.iload_n 1, 1) := by decide +kernel
theorem dJ3_checkIndex_8e157_12 : decode cJ3_checkIndex_8e157 12 = .ok (.invokestatic 95, 3) := by decide +kernel
theorem dJ3_checkIndex_8e157_15 : decode cJ3_checkIndex_8e157 15 = .ok (.athrow, 1) := by decide +kernel
theorem dJ3_checkIndex_8e157_16 : decode cJ3_checkIndex_8e157 16 = .ok (.iload_n 0, 1) := by decide +kernel
theorem dJ3_checkIndex_8e157_17 : decode cJ3_checkIndex_8e157 17 = .ok (.ireturn, 1) := by decide +kernel
end
section
/-! ===== decode rows ===== -/
theorem dX5_init_0 : decode cX5_init 0 = .ok (.aload_n 0, 1) := by decide +kernel
theorem dX5_init_1 : decode cX5_init 1 = .ok (.invokespecial 1, 3) := by decide +kernel
theorem dX5_init_4 : decode cX5_init 4 = .ok (.aload_n 0, 1) := by decide +kernel
theorem dX5_init_5 : decode cX5_init 5 = .ok (.bipush 6, 2) := by decide +kernel
theorem dX5_init_7 : decode cX5_init 7 = .ok (.newarray .int, 2) := by decide +kernel
theorem dX5_init_9 : decode cX5_init 9 = .ok (.putfield 7, 3) := by decide +kernel
theorem dX5_init_12 : decode cX5_init 12 = .ok (.aload_n 0, 1) := by decide +kernel
theorem dX5_init_13 : decode cX5_init 13 = .ok (.bipush 61, 2) := by decide +kernel
theorem dX5_init_15 : decode cX5_init 15 = .ok (.newarray .int, 2) := by decide +kernel
theorem dX5_init_17 : decode cX5_init 17 = .ok (.putfield 13, 3) := by decide +kernel
theorem dX5_init_20 : decode cX5_init 20 = .ok (.aload_n 0, 1) := by decide +kernel
theorem dX5_init_21 : decode cX5_init 21 = .ok (.sipush 488, 3) := by decide +kernel
theorem dX5_init_24 : decode cX5_init 24 = .ok (.newarray .int, 2) := by decide +kernel
theorem dX5_init_26 : decode cX5_init 26 = .ok (.putfield 16, 3) := by decide +kernel
theorem dX5_init_29 : decode cX5_init 29 = .ok (.aload_n 0, 1) := by decide +kernel
theorem dX5_init_30 : decode cX5_init 30 = .ok (.bipush 122, 2) := by decide +kernel
theorem dX5_init_32 : decode cX5_init 32 = .ok (.newarray .int, 2) := by decide +kernel
theorem dX5_init_34 : decode cX5_init 34 = .ok (.putfield 19, 3) := by decide +kernel
theorem dX5_init_37 : decode cX5_init 37 = .ok (.aload_n 0, 1) := by decide +kernel
theorem dX5_init_38 : decode cX5_init 38 = .ok (.bipush 12, 2) := by decide +kernel
theorem dX5_init_40 : decode cX5_init 40 = .ok (.newarray .int, 2) := by decide +kernel
theorem dX5_init_42 : decode cX5_init 42 = .ok (.putfield 22, 3) := by decide +kernel
theorem dX5_init_45 : decode cX5_init 45 = .ok (.aload_n 0, 1) := by decide +kernel
theorem dX5_init_46 : decode cX5_init 46 = .ok (.sipush 200, 3) := by decide +kernel
theorem dX5_init_49 : decode cX5_init 49 = .ok (.newarray .int, 2) := by decide +kernel
theorem dX5_init_51 : decode cX5_init 51 = .ok (.putfield 25, 3) := by decide +kernel
theorem dX5_init_54 : decode cX5_init 54 = .ok (.aload_n 0, 1) := by decide +kernel
theorem dX5_init_55 : decode cX5_init 55 = .ok (.iconst 3, 1) := by decide +kernel
theorem dX5_init_56 : decode cX5_init 56 = .ok (.newarray .int, 2) := by decide +kernel
theorem dX5_init_58 : decode cX5_init 58 = .ok (.putfield 28, 3) := by decide +kernel
theorem dX5_init_61 : decode cX5_init 61 = .ok (.aload_n 0, 1) := by decide +kernel
theorem dX5_init_62 : decode cX5_init 62 = .ok (.bipush 6, 2) := by decide +kernel
theorem dX5_init_64 : decode cX5_init 64 = .ok (.newarray .int, 2) := by decide +kernel
theorem dX5_init_66 : decode cX5_init 66 = .ok (.putfield 31, 3) := by decide +kernel
theorem dX5_init_69 : decode cX5_init 69 = .ok (.aload_n 0, 1) := by decide +kernel
theorem dX5_init_70 : decode cX5_init 70 = .ok (.bipush 61, 2) := by decide +kernel
theorem dX5_init_72 : decode cX5_init 72 = .ok (.newarray .int, 2) := by decide +kernel
theorem dX5_init_74 : decode cX5_init 74 = .ok (.putfield 34, 3) := by decide +kernel
theorem dX5_init_77 : decode cX5_init 77 = .ok (.aload_n 0, 1) := by decide +kernel
theorem dX5_init_78 : decode cX5_init 78 = .ok (.bipush 61, 2) := by decide +kernel
theorem dX5_init_80 : decode cX5_init 80 = .ok (.newarray .int, 2) := by decide +kernel
theorem dX5_init_82 : decode cX5_init 82 = .ok (.putfield 37, 3) := by decide +kernel
theorem dX5_init_85 : decode cX5_init 85 = .ok (.aload_n 0, 1) := by decide +kernel
theorem dX5_init_86 : decode cX5_init 86 = .ok (.sipush 205, 3) := by decide +kernel
theorem dX5_init_89 : decode cX5_init 89 = .ok (.newarray .int, 2) := by decide +kernel
theorem dX5_init_91 : decode cX5_init 91 = .ok (.putfield 40, 3) := by decide +kernel
theorem dX5_init_94 : decode cX5_init 94 = .ok (.aload_n 0, 1) := by decide +kernel
theorem dX5_init_95 : decode cX5_init 95 = .ok (.invokevirtual 43, 3) := by decide +kernel
theorem dX5_init_98 : decode cX5_init 98 = .ok (.aload_n 0, 1) := by decide +kernel
theorem dX5_init_99 : decode cX5_init 99 = .ok (.iconst 0, 1) := by decide +kernel
theorem dX5_init_100 : decode cX5_init 100 = .ok (.iconst 1, 1) := by decide +kernel
theorem dX5_init_101 : decode cX5_init 101 = .ok (.invokevirtual 46, 3) := by decide +kernel
theorem dX5_init_104 : decode cX5_init 104 = .ok (.aload_n 0, 1) := by decide +kernel
theorem dX5_init_105 : decode cX5_init 105 = .ok (.iconst 0, 1) := by decide +kernel
theorem dX5_init_106 : decode cX5_init 106 = .ok (.iconst 0, 1) := by decide +kernel
theorem dX5_init_107 : decode cX5_init 107 = .ok (.invokevirtual 46, 3) := by decide +kernel
theorem dX5_init_110 : decode cX5_init 110 = .ok (.aload_n 0, 1) := by decide +kernel
theorem dX5_init_111 : decode cX5_init 111 = .ok (.iconst 1, 1) := by decide +kernel
theorem dX5_init_112 : decode cX5_init 112 = .ok (.iconst 0, 1) := by decide +kernel
theorem dX5_init_113 : decode cX5_init 113 = .ok (.invokevirtual 46, 3) := by decide +kernel
theorem dX5_init_116 : decode cX5_init 116 = .ok (.aload_n 0, 1) := by decide +kernel
theorem dX5_init_117 : decode cX5_init 117 = .ok (.iconst 2, 1) := by decide +kernel
theorem dX5_init_118 : decode cX5_init 118 = .ok (.iconst 3, 1) := by decide +kernel
theorem dX5_init_119 : decode cX5_init 119 = .ok (.invokevirtual 46, 3) := by decide +kernel
theorem dX5_init_122 : decode cX5_init 122 = .ok (.aload_n 0, 1) := by decide +kernel
theorem dX5_init_123 : decode cX5_init 123 = .ok (.iconst 3, 1) := by decide +kernel
theorem dX5_init_124 : decode cX5_init 124 = .ok (.iconst 1, 1) := by decide +kernel
theorem dX5_init_125 : decode cX5_init 125 = .ok (.invokevirtual 46, 3) := by decide +kernel
theorem dX5_init_128 : decode cX5_init 128 = .ok (.aload_n 0, 1) := by decide +kernel
theorem dX5_init_129 : decode cX5_init 129 = .ok (.iconst 4, 1) := by decide +kernel
theorem dX5_init_130 : decode cX5_init 130 = .ok (.iconst 0, 1) := by decide +kernel
theorem dX5_init_131 : decode cX5_init 131 = .ok (.invokevirtual 46, 3) := by decide +kernel
theorem dX5_init_134 : decode cX5_init 134 = .ok (.aload_n 0, 1) := by decide +kernel
theorem dX5_init_135 : decode cX5_init 135 = .ok (.getfield 34, 3) := by decide +kernel
theorem dX5_init_138 : decode cX5_init 138 = .ok (.bipush 6, 2) := by decide +kernel
theorem dX5_init_140 : decode cX5_init 140 = .ok (.iconst 5, 1) := by decide +kernel
theorem dX5_init_141 : decode cX5_init 141 = .ok (.iastore, 1) := by decide +kernel
theorem dX5_init_142 : decode cX5_init 142 = .ok (.aload_n 0, 1) := by decide +kernel
theorem dX5_init_143 : decode cX5_init 143 = .ok (.getfield 34, 3) := by decide +kernel
theorem dX5_init_146 : decode cX5_init 146 = .ok (.bipush 7, 2) := by decide +kernel
theorem dX5_init_148 : decode cX5_init 148 = .ok (.bipush (-3), 2) := by decide +kernel
theorem dX5_init_150 : decode cX5_init 150 = .ok (.iastore, 1) := by decide +kernel
theorem dX5_init_151 : decode cX5_init 151 = .ok (.aload_n 0, 1) := by decide +kernel
theorem dX5_init_152 : decode cX5_init 152 = .ok (.getfield 34, 3) := by decide +kernel
theorem dX5_init_155 : decode cX5_init 155 = .ok (.bipush 8, 2) := by decide +kernel
theorem dX5_init_157 : decode cX5_init 157 = .ok (.bipush 9, 2) := by decide +kernel
theorem dX5_init_159 : decode cX5_init 159 = .ok (.iastore, 1) := by decide +kernel
theorem dX5_init_160 : decode cX5_init 160 = .ok (.aload_n 0, 1) := by decide +kernel
theorem dX5_init_161 : decode cX5_init 161 = .ok (.getfield 34, 3) := by decide +kernel
theorem dX5_init_164 : decode cX5_init 164 = .ok (.bipush 11, 2) := by decide +kernel
theorem dX5_init_166 : decode cX5_init 166 = .ok (.bipush (-7), 2) := by decide +kernel
theorem dX5_init_168 : decode cX5_init 168 = .ok (.iastore, 1) := by decide +kernel
theorem dX5_init_169 : decode cX5_init 169 = .ok (.aload_n 0, 1) := by decide +kernel
theorem dX5_init_170 : decode cX5_init 170 = .ok (.getfield 34, 3) := by decide +kernel
theorem dX5_init_173 : decode cX5_init 173 = .ok (.bipush 12, 2) := by decide +kernel
theorem dX5_init_175 : decode cX5_init 175 = .ok (.iconst 0, 1) := by decide +kernel
theorem dX5_init_176 : decode cX5_init 176 = .ok (.iastore, 1) := by decide +kernel
theorem dX5_init_177 : decode cX5_init 177 = .ok (.aload_n 0, 1) := by decide +kernel
theorem dX5_init_178 : decode cX5_init 178 = .ok (.getfield 34, 3) := by decide +kernel
theorem dX5_init_181 : decode cX5_init 181 = .ok (.bipush 14, 2) := by decide +kernel
theorem dX5_init_183 : decode cX5_init 183 = .ok (.bipush 7, 2) := by decide +kernel
theorem dX5_init_185 : decode cX5_init 185 = .ok (.iastore, 1) := by decide +kernel
theorem dX5_init_186 : decode cX5_init 186 = .ok (.aload_n 0, 1) := by decide +kernel
theorem dX5_init_187 : decode cX5_init 187 = .ok (.getfield 34, 3) := by decide +kernel
theorem dX5_init_190 : decode cX5_init 190 = .ok (.bipush 16, 2) := by decide +kernel
theorem dX5_init_192 : decode cX5_init 192 = .ok (.iconst 2, 1) := by decide +kernel
theorem dX5_init_193 : decode cX5_init 193 = .ok (.iastore, 1) := by decide +kernel
theorem dX5_init_194 : decode cX5_init 194 = .ok (.aload_n 0, 1) := by decide +kernel
theorem dX5_init_195 : decode cX5_init 195 = .ok (.getfield 34, 3) := by decide +kernel
theorem dX5_init_198 : decode cX5_init 198 = .ok (.bipush 20, 2) := by decide +kernel
theorem dX5_init_200 : decode cX5_init 200 = .ok (.bipush (-9), 2) := by decide +kernel
theorem dX5_init_202 : decode cX5_init 202 = .ok (.iastore, 1) := by decide +kernel
theorem dX5_init_203 : decode cX5_init 203 = .ok (.aload_n 0, 1) := by decide +kernel
theorem dX5_init_204 : decode cX5_init 204 = .ok (.getfield 34, 3) := by decide +kernel
theorem dX5_init_207 : decode cX5_init 207 = .ok (.bipush 21, 2) := by decide +kernel
theorem dX5_init_209 : decode cX5_init 209 = .ok (.bipush 9, 2) := by decide +kernel
theorem dX5_init_211 : decode cX5_init 211 = .ok (.iastore, 1) := by decide +kernel
theorem dX5_init_212 : decode cX5_init 212 = .ok (.aload_n 0, 1) := by decide +kernel
theorem dX5_init_213 : decode cX5_init 213 = .ok (.getfield 34, 3) := by decide +kernel
theorem dX5_init_216 : decode cX5_init 216 = .ok (.bipush 23, 2) := by decide +kernel
theorem dX5_init_218 : decode cX5_init 218 = .ok (.bipush (-6), 2) := by decide +kernel
theorem dX5_init_220 : decode cX5_init 220 = .ok (.iastore, 1) := by decide +kernel
theorem dX5_init_221 : decode cX5_init 221 = .ok (.aload_n 0, 1) := by decide +kernel
theorem dX5_init_222 : decode cX5_init 222 = .ok (.getfield 34, 3) := by decide +kernel
theorem dX5_init_225 : decode cX5_init 225 = .ok (.bipush 26, 2) := by decide +kernel
theorem dX5_init_227 : decode cX5_init 227 = .ok (.bipush (-2), 2) := by decide +kernel
theorem dX5_init_229 : decode cX5_init 229 = .ok (.iastore, 1) := by decide +kernel
theorem dX5_init_230 : decode cX5_init 230 = .ok (.aload_n 0, 1) := by decide +kernel
theorem dX5_init_231 : decode cX5_init 231 = .ok (.getfield 34, 3) := by decide +kernel
theorem dX5_init_234 : decode cX5_init 234 = .ok (.bipush 32, 2) := by decide +kernel
theorem dX5_init_236 : decode cX5_init 236 = .ok (.bipush (-5), 2) := by decide +kernel
theorem dX5_init_238 : decode cX5_init 238 = .ok (.iastore, 1) := by decide +kernel
theorem dX5_init_239 : decode cX5_init 239 = .ok (.aload_n 0, 1) := by decide +kernel
theorem dX5_init_240 : decode cX5_init 240 = .ok (.iconst 4, 1) := by decide +kernel
theorem dX5_init_241 : decode cX5_init 241 = .ok (.putfield 50, 3) := by decide +kernel
theorem dX5_init_244 : decode cX5_init 244 = .ok (.aload_n 0, 1) := by decide +kernel
theorem dX5_init_245 : decode cX5_init 245 = .ok (.invokevirtual 54, 3) := by decide +kernel
theorem dX5_init_248 : decode cX5_init 248 = .ok (.return_, 1) := by decide +kernel
theorem dX5_tellsPerson_0 : decode cX5_tellsPerson 0 = .ok (.aload_n 0, 1) := by decide +kernel
theorem dX5_tellsPerson_1 : decode cX5_tellsPerson 1 = .ok (.getfield 31, 3) := by decide +kernel
theorem dX5_tellsPerson_4 : decode cX5_tellsPerson 4 = .ok (.aload_n 0, 1) := by decide +kernel
theorem dX5_tellsPerson_5 : decode cX5_tellsPerson 5 = .ok (.getfield 57, 3) := by decide +kernel
theorem dX5_tellsPerson_8 : decode cX5_tellsPerson 8 = .ok (.iload_n 1, 1) := by decide +kernel
theorem dX5_tellsPerson_9 : decode cX5_tellsPerson 9 = .ok (.iastore, 1) := by decide +kernel
theorem dX5_tellsPerson_10 : decode cX5_tellsPerson 10 = .ok (.aload_n 0, 1) := by decide +kernel
theorem dX5_tellsPerson_11 : decode cX5_tellsPerson 11 = .ok (.getfield 34, 3) := by decide +kernel
theorem dX5_tellsPerson_14 : decode cX5_tellsPerson 14 = .ok (.iconst 0, 1) := by decide +kernel
theorem dX5_tellsPerson_15 : decode cX5_tellsPerson 15 = .ok (.aload_n 0, 1) := by decide +kernel
theorem dX5_tellsPerson_16 : decode cX5_tellsPerson 16 = .ok (.getfield 57, 3) := by decide +kernel
theorem dX5_tellsPerson_19 : decode cX5_tellsPerson 19 = .ok (.iadd, 1) := by decide +kernel
theorem dX5_tellsPerson_20 : decode cX5_tellsPerson 20 = .ok (.iload_n 2, 1) := by decide +kernel
theorem dX5_tellsPerson_21 : decode cX5_tellsPerson 21 = .ok (.iastore, 1) := by decide +kernel
theorem dX5_tellsPerson_22 : decode cX5_tellsPerson 22 = .ok (.aload_n 0, 1) := by decide +kernel
theorem dX5_tellsPerson_23 : decode cX5_tellsPerson 23 = .ok (.dup, 1) := by decide +kernel
theorem dX5_tellsPerson_24 : decode cX5_tellsPerson 24 = .ok (.getfield 57, 3) := by decide +kernel
theorem dX5_tellsPerson_27 : decode cX5_tellsPerson 27 = .ok (.iconst 1, 1) := by decide +kernel
theorem dX5_tellsPerson_28 : decode cX5_tellsPerson 28 = .ok (.iadd, 1) := by decide +kernel
theorem dX5_tellsPerson_29 : decode cX5_tellsPerson 29 = .ok (.putfield 57, 3) := by decide +kernel
theorem dX5_tellsPerson_32 : decode cX5_tellsPerson 32 = .ok (.return_, 1) := by decide +kernel
theorem dX5_in_0 : decode cX5_in 0 = .ok (.iload_n 0, 1) := by decide +kernel
theorem dX5_in_1 : decode cX5_in 1 = .ok (.iload_n 1, 1) := by decide +kernel
theorem dX5_in_2 : decode cX5_in 2 = .ok (.if_icmp .lt 12, 3) := by decide +kernel
theorem dX5_in_5 : decode cX5_in 5 = .ok (.iload_n 0, 1) := by decide +kernel
theorem dX5_in_6 : decode cX5_in 6 = .ok (.iload_n 2, 1) := by decide +kernel
theorem dX5_in_7 : decode cX5_in 7 = .ok (.if_icmp .gt 7, 3) := by decide +kernel
theorem dX5_in_10 : decode cX5_in 10 = .ok (.iconst 1, 1) := by decide +kernel
theorem dX5_in_11 : decode cX5_in 11 = .ok (.goto 4, 3) := by decide +kernel
theorem dX5_in_14 : decode cX5_in 14 = .ok (.iconst 0, 1) := by decide +kernel
theorem dX5_in_15 : decode cX5_in 15 = .ok (.ireturn, 1) := by decide +kernel
theorem dX5_isPerson_0 : decode cX5_isPerson 0 = .ok (.iload_n 1, 1) := by decide +kernel
theorem dX5_isPerson_1 : decode cX5_isPerson 1 = .ok (.iconst 0, 1) := by decide +kernel
theorem dX5_isPerson_2 : decode cX5_isPerson 2 = .ok (.aload_n 0, 1) := by decide +kernel
theorem dX5_isPerson_3 : decode cX5_isPerson 3 = .ok (.getfield 60, 3) := by decide +kernel
theorem dX5_isPerson_6 : decode cX5_isPerson 6 = .ok (.iconst 1, 1) := by decide +kernel
theorem dX5_isPerson_7 : decode cX5_isPerson 7 = .ok (.isub, 1) := by decide +kernel
theorem dX5_isPerson_8 : decode cX5_isPerson 8 = .ok (.invokestatic 63, 3) := by decide +kernel
theorem dX5_isPerson_11 : decode cX5_isPerson 11 = .ok (.ireturn, 1) := by decide +kernel
theorem dX5_isPaper_0 : decode cX5_isPaper 0 = .ok (.iload_n 1, 1) := by decide +kernel
theorem dX5_isPaper_1 : decode cX5_isPaper 1 = .ok (.iconst 0, 1) := by decide +kernel
theorem dX5_isPaper_2 : decode cX5_isPaper 2 = .ok (.aload_n 0, 1) := by decide +kernel
theorem dX5_isPaper_3 : decode cX5_isPaper 3 = .ok (.getfield 67, 3) := by decide +kernel
theorem dX5_isPaper_6 : decode cX5_isPaper 6 = .ok (.iconst 1, 1) := by decide +kernel
theorem dX5_isPaper_7 : decode cX5_isPaper 7 = .ok (.isub, 1) := by decide +kernel
theorem dX5_isPaper_8 : decode cX5_isPaper 8 = .ok (.invokestatic 63, 3) := by decide +kernel
theorem dX5_isPaper_11 : decode cX5_isPaper 11 = .ok (.ireturn, 1) := by decide +kernel
theorem dX5_isTheme_0 : decode cX5_isTheme 0 = .ok (.iload_n 0, 1) := by decide +kernel
theorem dX5_isTheme_1 : decode cX5_isTheme 1 = .ok (.iconst 0, 1) := by decide +kernel
theorem dX5_isTheme_2 : decode cX5_isTheme 2 = .ok (.iconst 4, 1) := by decide +kernel
theorem dX5_isTheme_3 : decode cX5_isTheme 3 = .ok (.invokestatic 63, 3) := by decide +kernel
theorem dX5_isTheme_6 : decode cX5_isTheme 6 = .ok (.ireturn, 1) := by decide +kernel
theorem dX5_write_0 : decode cX5_write 0 = .ok (.iload_n 1, 1) := by decide +kernel
theorem dX5_write_1 : decode cX5_write 1 = .ok (.bipush 32, 2) := by decide +kernel
theorem dX5_write_3 : decode cX5_write 3 = .ok (.bipush 126, 2) := by decide +kernel
theorem dX5_write_5 : decode cX5_write 5 = .ok (.invokestatic 63, 3) := by decide +kernel
theorem dX5_write_8 : decode cX5_write 8 = .ok (.ifCond .ne 5, 3) := by decide +kernel
theorem dX5_write_11 : decode cX5_write 11 = .ok (.iconst (-1), 1) := by decide +kernel
theorem dX5_write_12 : decode cX5_write 12 = .ok (.ireturn, 1) := by decide +kernel
theorem dX5_write_13 : decode cX5_write 13 = .ok (.aload_n 0, 1) := by decide +kernel
theorem dX5_write_14 : decode cX5_write 14 = .ok (.getfield 70, 3) := by decide +kernel
theorem dX5_write_17 : decode cX5_write 17 = .ok (.sipush 200, 3) := by decide +kernel
theorem dX5_write_20 : decode cX5_write 20 = .ok (.if_icmp .ne 6, 3) := by decide +kernel
theorem dX5_write_23 : decode cX5_write 23 = .ok (.bipush (-3), 2) := by decide +kernel
theorem dX5_write_25 : decode cX5_write 25 = .ok (.ireturn, 1) := by decide +kernel
theorem dX5_write_26 : decode cX5_write 26 = .ok (.aload_n 0, 1) := by decide +kernel
theorem dX5_write_27 : decode cX5_write 27 = .ok (.getfield 25, 3) := by decide +kernel
theorem dX5_write_30 : decode cX5_write 30 = .ok (.aload_n 0, 1) := by decide +kernel
theorem dX5_write_31 : decode cX5_write 31 = .ok (.getfield 70, 3) := by decide +kernel
theorem dX5_write_34 : decode cX5_write 34 = .ok (.iload_n 1, 1) := by decide +kernel
theorem dX5_write_35 : decode cX5_write 35 = .ok (.iastore, 1) := by decide +kernel
theorem dX5_write_36 : decode cX5_write 36 = .ok (.aload_n 0, 1) := by decide +kernel
theorem dX5_write_37 : decode cX5_write 37 = .ok (.dup, 1) := by decide +kernel
theorem dX5_write_38 : decode cX5_write 38 = .ok (.getfield 70, 3) := by decide +kernel
theorem dX5_write_41 : decode cX5_write 41 = .ok (.iconst 1, 1) := by decide +kernel
theorem dX5_write_42 : decode cX5_write 42 = .ok (.iadd, 1) := by decide +kernel
theorem dX5_write_43 : decode cX5_write 43 = .ok (.putfield 70, 3) := by decide +kernel
theorem dX5_write_46 : decode cX5_write 46 = .ok (.aload_n 0, 1) := by decide +kernel
theorem dX5_write_47 : decode cX5_write 47 = .ok (.getfield 70, 3) := by decide +kernel
theorem dX5_write_50 : decode cX5_write 50 = .ok (.ireturn, 1) := by decide +kernel
theorem dX5_wipe_0 : decode cX5_wipe 0 = .ok (.aload_n 0, 1) := by decide +kernel
theorem dX5_wipe_1 : decode cX5_wipe 1 = .ok (.getfield 70, 3) := by decide +kernel
theorem dX5_wipe_4 : decode cX5_wipe 4 = .ok (.istore_n 1, 1) := by decide +kernel
theorem dX5_wipe_5 : decode cX5_wipe 5 = .ok (.aload_n 0, 1) := by decide +kernel
theorem dX5_wipe_6 : decode cX5_wipe 6 = .ok (.iconst 0, 1) := by decide +kernel
theorem dX5_wipe_7 : decode cX5_wipe 7 = .ok (.putfield 70, 3) := by decide +kernel
theorem dX5_wipe_10 : decode cX5_wipe 10 = .ok (.iload_n 1, 1) := by decide +kernel
theorem dX5_wipe_11 : decode cX5_wipe 11 = .ok (.ireturn, 1) := by decide +kernel
theorem dX5_letterAt_0 : decode cX5_letterAt 0 = .ok (.iload_n 1, 1) := by decide +kernel
theorem dX5_letterAt_1 : decode cX5_letterAt 1 = .ok (.aload_n 0, 1) := by decide +kernel
theorem dX5_letterAt_2 : decode cX5_letterAt 2 = .ok (.getfield 70, 3) := by decide +kernel
theorem dX5_letterAt_5 : decode cX5_letterAt 5 = .ok (.if_icmp .ge 12, 3) := by decide +kernel
theorem dX5_letterAt_8 : decode cX5_letterAt 8 = .ok (.aload_n 0, 1) := by decide +kernel
theorem dX5_letterAt_9 : decode cX5_letterAt 9 = .ok (.getfield 25, 3) := by decide +kernel
theorem dX5_letterAt_12 : decode cX5_letterAt 12 = .ok (.iload_n 1, 1) := by decide +kernel
theorem dX5_letterAt_13 : decode cX5_letterAt 13 = .ok (.iaload, 1) := by decide +kernel
theorem dX5_letterAt_14 : decode cX5_letterAt 14 = .ok (.goto 4, 3) := by decide +kernel
theorem dX5_letterAt_17 : decode cX5_letterAt 17 = .ok (.iconst (-1), 1) := by decide +kernel
theorem dX5_letterAt_18 : decode cX5_letterAt 18 = .ok (.ireturn, 1) := by decide +kernel
theorem dX5_isFigure_0 : decode cX5_isFigure 0 = .ok (.iload_n 0, 1) := by decide +kernel
theorem dX5_isFigure_1 : decode cX5_isFigure 1 = .ok (.bipush 48, 2) := by decide +kernel
theorem dX5_isFigure_3 : decode cX5_isFigure 3 = .ok (.bipush 57, 2) := by decide +kernel
theorem dX5_isFigure_5 : decode cX5_isFigure 5 = .ok (.invokestatic 63, 3) := by decide +kernel
theorem dX5_isFigure_8 : decode cX5_isFigure 8 = .ok (.ireturn, 1) := by decide +kernel
theorem dX5_readNumbers_0 : decode cX5_readNumbers 0 = .ok (.iconst 0, 1) := by decide +kernel
theorem dX5_readNumbers_1 : decode cX5_readNumbers 1 = .ok (.istore_n 2, 1) := by decide +kernel
theorem dX5_readNumbers_2 : decode cX5_readNumbers 2 = .ok (.iload_n 2, 1) := by decide +kernel
theorem dX5_readNumbers_3 : decode cX5_readNumbers 3 = .ok (.iload_n 1, 1) := by decide +kernel
theorem dX5_readNumbers_4 : decode cX5_readNumbers 4 = .ok (.if_icmp .ge 140, 3) := by decide +kernel
theorem dX5_readNumbers_7 : decode cX5_readNumbers 7 = .ok (.aload_n 0, 1) := by decide +kernel
theorem dX5_readNumbers_8 : decode cX5_readNumbers 8 = .ok (.aload_n 0, 1) := by decide +kernel
theorem dX5_readNumbers_9 : decode cX5_readNumbers 9 = .ok (.getfield 73, 3) := by decide +kernel
theorem dX5_readNumbers_12 : decode cX5_readNumbers 12 = .ok (.invokevirtual 76, 3) := by decide +kernel
theorem dX5_readNumbers_15 : decode cX5_readNumbers 15 = .ok (.invokestatic 80, 3) := by decide +kernel
theorem dX5_readNumbers_18 : decode cX5_readNumbers 18 = .ok (.ifCond .ne 5, 3) := by decide +kernel
theorem dX5_readNumbers_21 : decode cX5_readNumbers 21 = .ok (.iconst 0, 1) := by decide +kernel
theorem dX5_readNumbers_22 : decode cX5_readNumbers 22 = .ok (.ireturn, 1) := by decide +kernel
theorem dX5_readNumbers_23 : decode cX5_readNumbers 23 = .ok (.aload_n 0, 1) := by decide +kernel
theorem dX5_readNumbers_24 : decode cX5_readNumbers 24 = .ok (.getfield 28, 3) := by decide +kernel
theorem dX5_readNumbers_27 : decode cX5_readNumbers 27 = .ok (.iload_n 2, 1) := by decide +kernel
theorem dX5_readNumbers_28 : decode cX5_readNumbers 28 = .ok (.aload_n 0, 1) := by decide +kernel
theorem dX5_readNumbers_29 : decode cX5_readNumbers 29 = .ok (.aload_n 0, 1) := by decide +kernel
theorem dX5_readNumbers_30 : decode cX5_readNumbers 30 = .ok (.getfield 73, 3) := by decide +kernel
theorem dX5_readNumbers_33 : decode cX5_readNumbers 33 = .ok (.invokevirtual 76, 3) := by decide +kernel
theorem dX5_readNumbers_36 : decode cX5_readNumbers 36 = .ok (.bipush 48, 2) := by decide +kernel
theorem dX5_readNumbers_38 : decode cX5_readNumbers 38 = .ok (.isub, 1) := by decide +kernel
theorem dX5_readNumbers_39 : decode cX5_readNumbers 39 = .ok (.iastore, 1) := by decide +kernel
theorem dX5_readNumbers_40 : decode cX5_readNumbers 40 = .ok (.aload_n 0, 1) := by decide +kernel
theorem dX5_readNumbers_41 : decode cX5_readNumbers 41 = .ok (.dup, 1) := by decide +kernel
theorem dX5_readNumbers_42 : decode cX5_readNumbers 42 = .ok (.getfield 73, 3) := by decide +kernel
theorem dX5_readNumbers_45 : decode cX5_readNumbers 45 = .ok (.iconst 1, 1) := by decide +kernel
theorem dX5_readNumbers_46 : decode cX5_readNumbers 46 = .ok (.iadd, 1) := by decide +kernel
theorem dX5_readNumbers_47 : decode cX5_readNumbers 47 = .ok (.putfield 73, 3) := by decide +kernel
theorem dX5_readNumbers_50 : decode cX5_readNumbers 50 = .ok (.aload_n 0, 1) := by decide +kernel
theorem dX5_readNumbers_51 : decode cX5_readNumbers 51 = .ok (.aload_n 0, 1) := by decide +kernel
theorem dX5_readNumbers_52 : decode cX5_readNumbers 52 = .ok (.getfield 73, 3) := by decide +kernel
theorem dX5_readNumbers_55 : decode cX5_readNumbers 55 = .ok (.invokevirtual 76, 3) := by decide +kernel
theorem dX5_readNumbers_58 : decode cX5_readNumbers 58 = .ok (.invokestatic 80, 3) := by decide +kernel
theorem dX5_readNumbers_61 : decode cX5_readNumbers 61 = .ok (.ifCond .eq 40, 3) := by decide +kernel
theorem dX5_readNumbers_64 : decode cX5_readNumbers 64 = .ok (.aload_n 0, 1) := by decide +kernel
theorem dX5_readNumbers_65 : decode cX5_readNumbers 65 = .ok (.getfield 28, 3) := by decide +kernel
theorem dX5_readNumbers_68 : decode cX5_readNumbers 68 = .ok (.iload_n 2, 1) := by decide +kernel
theorem dX5_readNumbers_69 : decode cX5_readNumbers 69 = .ok (.bipush 10, 2) := by decide +kernel
theorem dX5_readNumbers_71 : decode cX5_readNumbers 71 = .ok (.aload_n 0, 1) := by decide +kernel
theorem dX5_readNumbers_72 : decode cX5_readNumbers 72 = .ok (.getfield 28, 3) := by decide +kernel
theorem dX5_readNumbers_75 : decode cX5_readNumbers 75 = .ok (.iload_n 2, 1) := by decide +kernel
theorem dX5_readNumbers_76 : decode cX5_readNumbers 76 = .ok (.iaload, 1) := by decide +kernel
theorem dX5_readNumbers_77 : decode cX5_readNumbers 77 = .ok (.imul, 1) := by decide +kernel
theorem dX5_readNumbers_78 : decode cX5_readNumbers 78 = .ok (.aload_n 0, 1) := by decide +kernel
theorem dX5_readNumbers_79 : decode cX5_readNumbers 79 = .ok (.aload_n 0, 1) := by decide +kernel
theorem dX5_readNumbers_80 : decode cX5_readNumbers 80 = .ok (.getfield 73, 3) := by decide +kernel
theorem dX5_readNumbers_83 : decode cX5_readNumbers 83 = .ok (.invokevirtual 76, 3) := by decide +kernel
theorem dX5_readNumbers_86 : decode cX5_readNumbers 86 = .ok (.iadd, 1) := by decide +kernel
theorem dX5_readNumbers_87 : decode cX5_readNumbers 87 = .ok (.bipush 48, 2) := by decide +kernel
theorem dX5_readNumbers_89 : decode cX5_readNumbers 89 = .ok (.isub, 1) := by decide +kernel
theorem dX5_readNumbers_90 : decode cX5_readNumbers 90 = .ok (.iastore, 1) := by decide +kernel
theorem dX5_readNumbers_91 : decode cX5_readNumbers 91 = .ok (.aload_n 0, 1) := by decide +kernel
theorem dX5_readNumbers_92 : decode cX5_readNumbers 92 = .ok (.dup, 1) := by decide +kernel
theorem dX5_readNumbers_93 : decode cX5_readNumbers 93 = .ok (.getfield 73, 3) := by decide +kernel
theorem dX5_readNumbers_96 : decode cX5_readNumbers 96 = .ok (.iconst 1, 1) := by decide +kernel
theorem dX5_readNumbers_97 : decode cX5_readNumbers 97 = .ok (.iadd, 1) := by decide +kernel
theorem dX5_readNumbers_98 : decode cX5_readNumbers 98 = .ok (.putfield 73, 3) := by decide +kernel
theorem dX5_readNumbers_101 : decode cX5_readNumbers 101 = .ok (.aload_n 0, 1) := by decide +kernel
theorem dX5_readNumbers_102 : decode cX5_readNumbers 102 = .ok (.aload_n 0, 1) := by decide +kernel
theorem dX5_readNumbers_103 : decode cX5_readNumbers 103 = .ok (.getfield 73, 3) := by decide +kernel
theorem dX5_readNumbers_106 : decode cX5_readNumbers 106 = .ok (.invokevirtual 76, 3) := by decide +kernel
theorem dX5_readNumbers_109 : decode cX5_readNumbers 109 = .ok (.iload_n 2, 1) := by decide +kernel
theorem dX5_readNumbers_110 : decode cX5_readNumbers 110 = .ok (.iload_n 1, 1) := by decide +kernel
theorem dX5_readNumbers_111 : decode cX5_readNumbers 111 = .ok (.iconst 1, 1) := by decide +kernel
theorem dX5_readNumbers_112 : decode cX5_readNumbers 112 = .ok (.isub, 1) := by decide +kernel
theorem dX5_readNumbers_113 : decode cX5_readNumbers 113 = .ok (.if_icmp .ge 8, 3) := by decide +kernel
theorem dX5_readNumbers_116 : decode cX5_readNumbers 116 = .ok (.bipush 44, 2) := by decide +kernel
theorem dX5_readNumbers_118 : decode cX5_readNumbers 118 = .ok (.goto 5, 3) := by decide +kernel
theorem dX5_readNumbers_121 : decode cX5_readNumbers 121 = .ok (.bipush 59, 2) := by decide +kernel
theorem dX5_readNumbers_123 : decode cX5_readNumbers 123 = .ok (.if_icmp .eq 5, 3) := by decide +kernel
theorem dX5_readNumbers_126 : decode cX5_readNumbers 126 = .ok (.iconst 0, 1) := by decide +kernel
theorem dX5_readNumbers_127 : decode cX5_readNumbers 127 = .ok (.ireturn, 1) := by decide +kernel
theorem dX5_readNumbers_128 : decode cX5_readNumbers 128 = .ok (.aload_n 0, 1) := by decide +kernel
theorem dX5_readNumbers_129 : decode cX5_readNumbers 129 = .ok (.dup, 1) := by decide +kernel
theorem dX5_readNumbers_130 : decode cX5_readNumbers 130 = .ok (.getfield 73, 3) := by decide +kernel
theorem dX5_readNumbers_133 : decode cX5_readNumbers 133 = .ok (.iconst 1, 1) := by decide +kernel
theorem dX5_readNumbers_134 : decode cX5_readNumbers 134 = .ok (.iadd, 1) := by decide +kernel
theorem dX5_readNumbers_135 : decode cX5_readNumbers 135 = .ok (.putfield 73, 3) := by decide +kernel
theorem dX5_readNumbers_138 : decode cX5_readNumbers 138 = .ok (.iinc 2 1, 3) := by decide +kernel
theorem dX5_readNumbers_141 : decode cX5_readNumbers 141 = .ok (.goto (-139), 3) := by decide +kernel
theorem dX5_readNumbers_144 : decode cX5_readNumbers 144 = .ok (.iconst 1, 1) := by decide +kernel
theorem dX5_readNumbers_145 : decode cX5_readNumbers 145 = .ok (.ireturn, 1) := by decide +kernel
theorem dX5_isTold_0 : decode cX5_isTold 0 = .ok (.aload_n 0, 1) := by decide +kernel
theorem dX5_isTold_1 : decode cX5_isTold 1 = .ok (.getfield 28, 3) := by decide +kernel
theorem dX5_isTold_4 : decode cX5_isTold 4 = .ok (.iload_n 1, 1) := by decide +kernel
theorem dX5_isTold_5 : decode cX5_isTold 5 = .ok (.iaload, 1) := by decide +kernel
theorem dX5_isTold_6 : decode cX5_isTold 6 = .ok (.iload_n 2, 1) := by decide +kernel
theorem dX5_isTold_7 : decode cX5_isTold 7 = .ok (.iload_n 3, 1) := by decide +kernel
theorem dX5_isTold_8 : decode cX5_isTold 8 = .ok (.invokestatic 63, 3) := by decide +kernel
theorem dX5_isTold_11 : decode cX5_isTold 11 = .ok (.ireturn, 1) := by decide +kernel
theorem dX5_clearTold_0 : decode cX5_clearTold 0 = .ok (.aload_n 0, 1) := by decide +kernel
theorem dX5_clearTold_1 : decode cX5_clearTold 1 = .ok (.iconst 0, 1) := by decide +kernel
theorem dX5_clearTold_2 : decode cX5_clearTold 2 = .ok (.putfield 57, 3) := by decide +kernel
theorem dX5_clearTold_5 : decode cX5_clearTold 5 = .ok (.aload_n 0, 1) := by decide +kernel
theorem dX5_clearTold_6 : decode cX5_clearTold 6 = .ok (.iconst 3, 1) := by decide +kernel
theorem dX5_clearTold_7 : decode cX5_clearTold 7 = .ok (.putfield 50, 3) := by decide +kernel
theorem dX5_clearTold_10 : decode cX5_clearTold 10 = .ok (.iconst 0, 1) := by decide +kernel
theorem dX5_clearTold_11 : decode cX5_clearTold 11 = .ok (.istore_n 1, 1) := by decide +kernel
theorem dX5_clearTold_12 : decode cX5_clearTold 12 = .ok (.iload_n 1, 1) := by decide +kernel
theorem dX5_clearTold_13 : decode cX5_clearTold 13 = .ok (.bipush 61, 2) := by decide +kernel
theorem dX5_clearTold_15 : decode cX5_clearTold 15 = .ok (.if_icmp .ge 16, 3) := by decide +kernel
theorem dX5_clearTold_18 : decode cX5_clearTold 18 = .ok (.aload_n 0, 1) := by decide +kernel
theorem dX5_clearTold_19 : decode cX5_clearTold 19 = .ok (.getfield 34, 3) := by decide +kernel
theorem dX5_clearTold_22 : decode cX5_clearTold 22 = .ok (.iload_n 1, 1) := by decide +kernel
theorem dX5_clearTold_23 : decode cX5_clearTold 23 = .ok (.iconst 0, 1) := by decide +kernel
theorem dX5_clearTold_24 : decode cX5_clearTold 24 = .ok (.iastore, 1) := by decide +kernel
theorem dX5_clearTold_25 : decode cX5_clearTold 25 = .ok (.iinc 1 1, 3) := by decide +kernel
theorem dX5_clearTold_28 : decode cX5_clearTold 28 = .ok (.goto (-16), 3) := by decide +kernel
theorem dX5_clearTold_31 : decode cX5_clearTold 31 = .ok (.return_, 1) := by decide +kernel
theorem dX5_readPersonOf_0 : decode cX5_readPersonOf 0 = .ok (.aload_n 0, 1) := by decide +kernel
theorem dX5_readPersonOf_1 : decode cX5_readPersonOf 1 = .ok (.getfield 57, 3) := by decide +kernel
theorem dX5_readPersonOf_4 : decode cX5_readPersonOf 4 = .ok (.bipush 6, 2) := by decide +kernel
theorem dX5_readPersonOf_6 : decode cX5_readPersonOf 6 = .ok (.if_icmp .eq 31, 3) := by decide +kernel
theorem dX5_readPersonOf_9 : decode cX5_readPersonOf 9 = .ok (.aload_n 0, 1) := by decide +kernel
theorem dX5_readPersonOf_10 : decode cX5_readPersonOf 10 = .ok (.iconst 2, 1) := by decide +kernel
theorem dX5_readPersonOf_11 : decode cX5_readPersonOf 11 = .ok (.invokevirtual 84, 3) := by decide +kernel
theorem dX5_readPersonOf_14 : decode cX5_readPersonOf 14 = .ok (.ifCond .eq 23, 3) := by decide +kernel
theorem dX5_readPersonOf_17 : decode cX5_readPersonOf 17 = .ok (.aload_n 0, 1) := by decide +kernel
theorem dX5_readPersonOf_18 : decode cX5_readPersonOf 18 = .ok (.iconst 0, 1) := by decide +kernel
theorem dX5_readPersonOf_19 : decode cX5_readPersonOf 19 = .ok (.iconst 0, 1) := by decide +kernel
theorem dX5_readPersonOf_20 : decode cX5_readPersonOf 20 = .ok (.iconst 4, 1) := by decide +kernel
theorem dX5_readPersonOf_21 : decode cX5_readPersonOf 21 = .ok (.invokevirtual 87, 3) := by decide +kernel
theorem dX5_readPersonOf_24 : decode cX5_readPersonOf 24 = .ok (.ifCond .eq 13, 3) := by decide +kernel
theorem dX5_readPersonOf_27 : decode cX5_readPersonOf 27 = .ok (.aload_n 0, 1) := by decide +kernel
theorem dX5_readPersonOf_28 : decode cX5_readPersonOf 28 = .ok (.iconst 1, 1) := by decide +kernel
theorem dX5_readPersonOf_29 : decode cX5_readPersonOf 29 = .ok (.iconst 0, 1) := by decide +kernel
theorem dX5_readPersonOf_30 : decode cX5_readPersonOf 30 = .ok (.iconst 5, 1) := by decide +kernel
theorem dX5_readPersonOf_31 : decode cX5_readPersonOf 31 = .ok (.invokevirtual 87, 3) := by decide +kernel
theorem dX5_readPersonOf_34 : decode cX5_readPersonOf 34 = .ok (.ifCond .ne 5, 3) := by decide +kernel
theorem dX5_readPersonOf_37 : decode cX5_readPersonOf 37 = .ok (.iconst 0, 1) := by decide +kernel
theorem dX5_readPersonOf_38 : decode cX5_readPersonOf 38 = .ok (.ireturn, 1) := by decide +kernel
theorem dX5_readPersonOf_39 : decode cX5_readPersonOf 39 = .ok (.aload_n 0, 1) := by decide +kernel
theorem dX5_readPersonOf_40 : decode cX5_readPersonOf 40 = .ok (.aload_n 0, 1) := by decide +kernel
theorem dX5_readPersonOf_41 : decode cX5_readPersonOf 41 = .ok (.getfield 28, 3) := by decide +kernel
theorem dX5_readPersonOf_44 : decode cX5_readPersonOf 44 = .ok (.iconst 0, 1) := by decide +kernel
theorem dX5_readPersonOf_45 : decode cX5_readPersonOf 45 = .ok (.iaload, 1) := by decide +kernel
theorem dX5_readPersonOf_46 : decode cX5_readPersonOf 46 = .ok (.aload_n 0, 1) := by decide +kernel
theorem dX5_readPersonOf_47 : decode cX5_readPersonOf 47 = .ok (.getfield 28, 3) := by decide +kernel
theorem dX5_readPersonOf_50 : decode cX5_readPersonOf 50 = .ok (.iconst 1, 1) := by decide +kernel
theorem dX5_readPersonOf_51 : decode cX5_readPersonOf 51 = .ok (.iaload, 1) := by decide +kernel
theorem dX5_readPersonOf_52 : decode cX5_readPersonOf 52 = .ok (.invokevirtual 46, 3) := by decide +kernel
theorem dX5_readPersonOf_55 : decode cX5_readPersonOf 55 = .ok (.iconst 1, 1) := by decide +kernel
theorem dX5_readPersonOf_56 : decode cX5_readPersonOf 56 = .ok (.ireturn, 1) := by decide +kernel
theorem dX5_readViewOf_0 : decode cX5_readViewOf 0 = .ok (.aload_n 0, 1) := by decide +kernel
theorem dX5_readViewOf_1 : decode cX5_readViewOf 1 = .ok (.iconst 3, 1) := by decide +kernel
theorem dX5_readViewOf_2 : decode cX5_readViewOf 2 = .ok (.invokevirtual 84, 3) := by decide +kernel
theorem dX5_readViewOf_5 : decode cX5_readViewOf 5 = .ok (.ifCond .eq 39, 3) := by decide +kernel
theorem dX5_readViewOf_8 : decode cX5_readViewOf 8 = .ok (.aload_n 0, 1) := by decide +kernel
theorem dX5_readViewOf_9 : decode cX5_readViewOf 9 = .ok (.iconst 0, 1) := by decide +kernel
theorem dX5_readViewOf_10 : decode cX5_readViewOf 10 = .ok (.iconst 0, 1) := by decide +kernel
theorem dX5_readViewOf_11 : decode cX5_readViewOf 11 = .ok (.aload_n 0, 1) := by decide +kernel
theorem dX5_readViewOf_12 : decode cX5_readViewOf 12 = .ok (.getfield 57, 3) := by decide +kernel
theorem dX5_readViewOf_15 : decode cX5_readViewOf 15 = .ok (.iconst 1, 1) := by decide +kernel
theorem dX5_readViewOf_16 : decode cX5_readViewOf 16 = .ok (.isub, 1) := by decide +kernel
theorem dX5_readViewOf_17 : decode cX5_readViewOf 17 = .ok (.invokevirtual 87, 3) := by decide +kernel
theorem dX5_readViewOf_20 : decode cX5_readViewOf 20 = .ok (.ifCond .eq 24, 3) := by decide +kernel
theorem dX5_readViewOf_23 : decode cX5_readViewOf 23 = .ok (.aload_n 0, 1) := by decide +kernel
theorem dX5_readViewOf_24 : decode cX5_readViewOf 24 = .ok (.iconst 1, 1) := by decide +kernel
theorem dX5_readViewOf_25 : decode cX5_readViewOf 25 = .ok (.iconst 0, 1) := by decide +kernel
theorem dX5_readViewOf_26 : decode cX5_readViewOf 26 = .ok (.iconst 4, 1) := by decide +kernel
theorem dX5_readViewOf_27 : decode cX5_readViewOf 27 = .ok (.invokevirtual 87, 3) := by decide +kernel
theorem dX5_readViewOf_30 : decode cX5_readViewOf 30 = .ok (.ifCond .eq 14, 3) := by decide +kernel
theorem dX5_readViewOf_33 : decode cX5_readViewOf 33 = .ok (.aload_n 0, 1) := by decide +kernel
theorem dX5_readViewOf_34 : decode cX5_readViewOf 34 = .ok (.iconst 2, 1) := by decide +kernel
theorem dX5_readViewOf_35 : decode cX5_readViewOf 35 = .ok (.iconst 0, 1) := by decide +kernel
theorem dX5_readViewOf_36 : decode cX5_readViewOf 36 = .ok (.bipush 18, 2) := by decide +kernel
theorem dX5_readViewOf_38 : decode cX5_readViewOf 38 = .ok (.invokevirtual 87, 3) := by decide +kernel
theorem dX5_readViewOf_41 : decode cX5_readViewOf 41 = .ok (.ifCond .ne 5, 3) := by decide +kernel
theorem dX5_readViewOf_44 : decode cX5_readViewOf 44 = .ok (.iconst 0, 1) := by decide +kernel
theorem dX5_readViewOf_45 : decode cX5_readViewOf 45 = .ok (.ireturn, 1) := by decide +kernel
theorem dX5_readViewOf_46 : decode cX5_readViewOf 46 = .ok (.aload_n 0, 1) := by decide +kernel
theorem dX5_readViewOf_47 : decode cX5_readViewOf 47 = .ok (.getfield 34, 3) := by decide +kernel
theorem dX5_readViewOf_50 : decode cX5_readViewOf 50 = .ok (.bipush 6, 2) := by decide +kernel
theorem dX5_readViewOf_52 : decode cX5_readViewOf 52 = .ok (.iconst 5, 1) := by decide +kernel
theorem dX5_readViewOf_53 : decode cX5_readViewOf 53 = .ok (.aload_n 0, 1) := by decide +kernel
theorem dX5_readViewOf_54 : decode cX5_readViewOf 54 = .ok (.getfield 28, 3) := by decide +kernel
theorem dX5_readViewOf_57 : decode cX5_readViewOf 57 = .ok (.iconst 0, 1) := by decide +kernel
theorem dX5_readViewOf_58 : decode cX5_readViewOf 58 = .ok (.iaload, 1) := by decide +kernel
theorem dX5_readViewOf_59 : decode cX5_readViewOf 59 = .ok (.imul, 1) := by decide +kernel
theorem dX5_readViewOf_60 : decode cX5_readViewOf 60 = .ok (.iadd, 1) := by decide +kernel
theorem dX5_readViewOf_61 : decode cX5_readViewOf 61 = .ok (.aload_n 0, 1) := by decide +kernel
theorem dX5_readViewOf_62 : decode cX5_readViewOf 62 = .ok (.getfield 28, 3) := by decide +kernel
theorem dX5_readViewOf_65 : decode cX5_readViewOf 65 = .ok (.iconst 1, 1) := by decide +kernel
theorem dX5_readViewOf_66 : decode cX5_readViewOf 66 = .ok (.iaload, 1) := by decide +kernel
theorem dX5_readViewOf_67 : decode cX5_readViewOf 67 = .ok (.iadd, 1) := by decide +kernel
theorem dX5_readViewOf_68 : decode cX5_readViewOf 68 = .ok (.aload_n 0, 1) := by decide +kernel
theorem dX5_readViewOf_69 : decode cX5_readViewOf 69 = .ok (.getfield 28, 3) := by decide +kernel
theorem dX5_readViewOf_72 : decode cX5_readViewOf 72 = .ok (.iconst 2, 1) := by decide +kernel
theorem dX5_readViewOf_73 : decode cX5_readViewOf 73 = .ok (.iaload, 1) := by decide +kernel
theorem dX5_readViewOf_74 : decode cX5_readViewOf 74 = .ok (.bipush 9, 2) := by decide +kernel
theorem dX5_readViewOf_76 : decode cX5_readViewOf 76 = .ok (.isub, 1) := by decide +kernel
theorem dX5_readViewOf_77 : decode cX5_readViewOf 77 = .ok (.iastore, 1) := by decide +kernel
theorem dX5_readViewOf_78 : decode cX5_readViewOf 78 = .ok (.iconst 1, 1) := by decide +kernel
theorem dX5_readViewOf_79 : decode cX5_readViewOf 79 = .ok (.ireturn, 1) := by decide +kernel
theorem dX5_readPapersOf_0 : decode cX5_readPapersOf 0 = .ok (.aload_n 0, 1) := by decide +kernel
theorem dX5_readPapersOf_1 : decode cX5_readPapersOf 1 = .ok (.iconst 1, 1) := by decide +kernel
theorem dX5_readPapersOf_2 : decode cX5_readPapersOf 2 = .ok (.invokevirtual 84, 3) := by decide +kernel
theorem dX5_readPapersOf_5 : decode cX5_readPapersOf 5 = .ok (.ifCond .eq 17, 3) := by decide +kernel
theorem dX5_readPapersOf_8 : decode cX5_readPapersOf 8 = .ok (.aload_n 0, 1) := by decide +kernel
theorem dX5_readPapersOf_9 : decode cX5_readPapersOf 9 = .ok (.iconst 0, 1) := by decide +kernel
theorem dX5_readPapersOf_10 : decode cX5_readPapersOf 10 = .ok (.iconst 1, 1) := by decide +kernel
theorem dX5_readPapersOf_11 : decode cX5_readPapersOf 11 = .ok (.iconst 5, 1) := by decide +kernel
theorem dX5_readPapersOf_12 : decode cX5_readPapersOf 12 = .ok (.invokevirtual 87, 3) := by decide +kernel
theorem dX5_readPapersOf_15 : decode cX5_readPapersOf 15 = .ok (.ifCond .eq 7, 3) := by decide +kernel
theorem dX5_readPapersOf_18 : decode cX5_readPapersOf 18 = .ok (.iconst 1, 1) := by decide +kernel
theorem dX5_readPapersOf_19 : decode cX5_readPapersOf 19 = .ok (.goto 4, 3) := by decide +kernel
theorem dX5_readPapersOf_22 : decode cX5_readPapersOf 22 = .ok (.iconst 0, 1) := by decide +kernel
theorem dX5_readPapersOf_23 : decode cX5_readPapersOf 23 = .ok (.istore_n 1, 1) := by decide +kernel
theorem dX5_readPapersOf_24 : decode cX5_readPapersOf 24 = .ok (.aload_n 0, 1) := by decide +kernel
theorem dX5_readPapersOf_25 : decode cX5_readPapersOf 25 = .ok (.iload_n 1, 1) := by decide +kernel
theorem dX5_readPapersOf_26 : decode cX5_readPapersOf 26 = .ok (.ifCond .eq 12, 3) := by decide +kernel
theorem dX5_readPapersOf_29 : decode cX5_readPapersOf 29 = .ok (.aload_n 0, 1) := by decide +kernel
theorem dX5_readPapersOf_30 : decode cX5_readPapersOf 30 = .ok (.getfield 28, 3) := by decide +kernel
theorem dX5_readPapersOf_33 : decode cX5_readPapersOf 33 = .ok (.iconst 0, 1) := by decide +kernel
theorem dX5_readPapersOf_34 : decode cX5_readPapersOf 34 = .ok (.iaload, 1) := by decide +kernel
theorem dX5_readPapersOf_35 : decode cX5_readPapersOf 35 = .ok (.goto 7, 3) := by decide +kernel
theorem dX5_readPapersOf_38 : decode cX5_readPapersOf 38 = .ok (.aload_n 0, 1) := by decide +kernel
theorem dX5_readPapersOf_39 : decode cX5_readPapersOf 39 = .ok (.getfield 50, 3) := by decide +kernel
theorem dX5_readPapersOf_42 : decode cX5_readPapersOf 42 = .ok (.putfield 50, 3) := by decide +kernel
theorem dX5_readPapersOf_45 : decode cX5_readPapersOf 45 = .ok (.iload_n 1, 1) := by decide +kernel
theorem dX5_readPapersOf_46 : decode cX5_readPapersOf 46 = .ok (.ireturn, 1) := by decide +kernel
theorem dX5_readItem_0 : decode cX5_readItem 0 = .ok (.aload_n 0, 1) := by decide +kernel
theorem dX5_readItem_1 : decode cX5_readItem 1 = .ok (.aload_n 0, 1) := by decide +kernel
theorem dX5_readItem_2 : decode cX5_readItem 2 = .ok (.getfield 73, 3) := by decide +kernel
theorem dX5_readItem_5 : decode cX5_readItem 5 = .ok (.invokevirtual 76, 3) := by decide +kernel
theorem dX5_readItem_8 : decode cX5_readItem 8 = .ok (.istore_n 1, 1) := by decide +kernel
theorem dX5_readItem_9 : decode cX5_readItem 9 = .ok (.aload_n 0, 1) := by decide +kernel
theorem dX5_readItem_10 : decode cX5_readItem 10 = .ok (.dup, 1) := by decide +kernel
theorem dX5_readItem_11 : decode cX5_readItem 11 = .ok (.getfield 73, 3) := by decide +kernel
theorem dX5_readItem_14 : decode cX5_readItem 14 = .ok (.iconst 1, 1) := by decide +kernel
theorem dX5_readItem_15 : decode cX5_readItem 15 = .ok (.iadd, 1) := by decide +kernel
theorem dX5_readItem_16 : decode cX5_readItem 16 = .ok (.putfield 73, 3) := by decide +kernel
theorem dX5_readItem_19 : decode cX5_readItem 19 = .ok (.iload_n 1, 1) := by decide +kernel
theorem dX5_readItem_20 : decode cX5_readItem 20 = .ok (.lookupswitch 51 #[(97, 46), (112, 36), (118, 41)], 36) := by decide +kernel
theorem dX5_readItem_56 : decode cX5_readItem 56 = .ok (.aload_n 0, 1) := by decide +kernel
theorem dX5_readItem_57 : decode cX5_readItem 57 = .ok (.invokevirtual 90, 3) := by decide +kernel
theorem dX5_readItem_60 : decode cX5_readItem 60 = .ok (.ireturn, 1) := by decide +kernel
theorem dX5_readItem_61 : decode cX5_readItem 61 = .ok (.aload_n 0, 1) := by decide +kernel
theorem dX5_readItem_62 : decode cX5_readItem 62 = .ok (.invokevirtual 94, 3) := by decide +kernel
theorem dX5_readItem_65 : decode cX5_readItem 65 = .ok (.ireturn, 1) := by decide +kernel
theorem dX5_readItem_66 : decode cX5_readItem 66 = .ok (.aload_n 0, 1) := by decide +kernel
theorem dX5_readItem_67 : decode cX5_readItem 67 = .ok (.invokevirtual 97, 3) := by decide +kernel
theorem dX5_readItem_70 : decode cX5_readItem 70 = .ok (.ireturn, 1) := by decide +kernel
theorem dX5_readItem_71 : decode cX5_readItem 71 = .ok (.iconst 0, 1) := by decide +kernel
theorem dX5_readItem_72 : decode cX5_readItem 72 = .ok (.ireturn, 1) := by decide +kernel
theorem dX5_fault_0 : decode cX5_fault 0 = .ok (.aload_n 0, 1) := by decide +kernel
theorem dX5_fault_1 : decode cX5_fault 1 = .ok (.iconst 0, 1) := by decide +kernel
theorem dX5_fault_2 : decode cX5_fault 2 = .ok (.putfield 73, 3) := by decide +kernel
theorem dX5_fault_5 : decode cX5_fault 5 = .ok (.aload_n 0, 1) := by decide +kernel
theorem dX5_fault_6 : decode cX5_fault 6 = .ok (.invokevirtual 43, 3) := by decide +kernel
theorem dX5_fault_9 : decode cX5_fault 9 = .ok (.aload_n 0, 1) := by decide +kernel
theorem dX5_fault_10 : decode cX5_fault 10 = .ok (.getfield 73, 3) := by decide +kernel
theorem dX5_fault_13 : decode cX5_fault 13 = .ok (.aload_n 0, 1) := by decide +kernel
theorem dX5_fault_14 : decode cX5_fault 14 = .ok (.getfield 70, 3) := by decide +kernel
theorem dX5_fault_17 : decode cX5_fault 17 = .ok (.if_icmp .ge 20, 3) := by decide +kernel
theorem dX5_fault_20 : decode cX5_fault 20 = .ok (.aload_n 0, 1) := by decide +kernel
theorem dX5_fault_21 : decode cX5_fault 21 = .ok (.getfield 73, 3) := by decide +kernel
theorem dX5_fault_24 : decode cX5_fault 24 = .ok (.istore_n 1, 1) := by decide +kernel
theorem dX5_fault_25 : decode cX5_fault 25 = .ok (.aload_n 0, 1) := by decide +kernel
theorem dX5_fault_26 : decode cX5_fault 26 = .ok (.invokevirtual 100, 3) := by decide +kernel
theorem dX5_fault_29 : decode cX5_fault 29 = .ok (.ifCond .ne 5, 3) := by decide +kernel
theorem dX5_fault_32 : decode cX5_fault 32 = .ok (.iload_n 1, 1) := by decide +kernel
theorem dX5_fault_33 : decode cX5_fault 33 = .ok (.ireturn, 1) := by decide +kernel
theorem dX5_fault_34 : decode cX5_fault 34 = .ok (.goto (-25), 3) := by decide +kernel
theorem dX5_fault_37 : decode cX5_fault 37 = .ok (.bipush (-4), 2) := by decide +kernel
theorem dX5_fault_39 : decode cX5_fault 39 = .ok (.ireturn, 1) := by decide +kernel
theorem dX5_lay_0 : decode cX5_lay 0 = .ok (.aload_n 0, 1) := by decide +kernel
theorem dX5_lay_1 : decode cX5_lay 1 = .ok (.invokevirtual 103, 3) := by decide +kernel
theorem dX5_lay_4 : decode cX5_lay 4 = .ok (.bipush (-4), 2) := by decide +kernel
theorem dX5_lay_6 : decode cX5_lay 6 = .ok (.if_icmp .ne 10, 3) := by decide +kernel
theorem dX5_lay_9 : decode cX5_lay 9 = .ok (.aload_n 0, 1) := by decide +kernel
theorem dX5_lay_10 : decode cX5_lay 10 = .ok (.getfield 57, 3) := by decide +kernel
theorem dX5_lay_13 : decode cX5_lay 13 = .ok (.ifCond .ne 6, 3) := by decide +kernel
theorem dX5_lay_16 : decode cX5_lay 16 = .ok (.bipush (-2), 2) := by decide +kernel
theorem dX5_lay_18 : decode cX5_lay 18 = .ok (.ireturn, 1) := by decide +kernel
theorem dX5_lay_19 : decode cX5_lay 19 = .ok (.iconst 0, 1) := by decide +kernel
theorem dX5_lay_20 : decode cX5_lay 20 = .ok (.istore_n 1, 1) := by decide +kernel
theorem dX5_lay_21 : decode cX5_lay 21 = .ok (.iload_n 1, 1) := by decide +kernel
theorem dX5_lay_22 : decode cX5_lay 22 = .ok (.aload_n 0, 1) := by decide +kernel
theorem dX5_lay_23 : decode cX5_lay 23 = .ok (.getfield 57, 3) := by decide +kernel
theorem dX5_lay_26 : decode cX5_lay 26 = .ok (.if_icmp .ge 27, 3) := by decide +kernel
theorem dX5_lay_29 : decode cX5_lay 29 = .ok (.aload_n 0, 1) := by decide +kernel
theorem dX5_lay_30 : decode cX5_lay 30 = .ok (.getfield 34, 3) := by decide +kernel
theorem dX5_lay_33 : decode cX5_lay 33 = .ok (.iconst 0, 1) := by decide +kernel
theorem dX5_lay_34 : decode cX5_lay 34 = .ok (.iload_n 1, 1) := by decide +kernel
theorem dX5_lay_35 : decode cX5_lay 35 = .ok (.iadd, 1) := by decide +kernel
theorem dX5_lay_36 : decode cX5_lay 36 = .ok (.iaload, 1) := by decide +kernel
theorem dX5_lay_37 : decode cX5_lay 37 = .ok (.aload_n 0, 1) := by decide +kernel
theorem dX5_lay_38 : decode cX5_lay 38 = .ok (.getfield 57, 3) := by decide +kernel
theorem dX5_lay_41 : decode cX5_lay 41 = .ok (.if_icmp .lt 6, 3) := by decide +kernel
theorem dX5_lay_44 : decode cX5_lay 44 = .ok (.bipush (-2), 2) := by decide +kernel
theorem dX5_lay_46 : decode cX5_lay 46 = .ok (.ireturn, 1) := by decide +kernel
theorem dX5_lay_47 : decode cX5_lay 47 = .ok (.iinc 1 1, 3) := by decide +kernel
theorem dX5_lay_50 : decode cX5_lay 50 = .ok (.goto (-29), 3) := by decide +kernel
theorem dX5_lay_53 : decode cX5_lay 53 = .ok (.aload_n 0, 1) := by decide +kernel
theorem dX5_lay_54 : decode cX5_lay 54 = .ok (.invokevirtual 54, 3) := by decide +kernel
theorem dX5_lay_57 : decode cX5_lay 57 = .ok (.aload_n 0, 1) := by decide +kernel
theorem dX5_lay_58 : decode cX5_lay 58 = .ok (.getfield 60, 3) := by decide +kernel
theorem dX5_lay_61 : decode cX5_lay 61 = .ok (.ireturn, 1) := by decide +kernel
theorem dX5_settles_0 : decode cX5_settles 0 = .ok (.aload_n 0, 1) := by decide +kernel
theorem dX5_settles_1 : decode cX5_settles 1 = .ok (.aload_n 0, 1) := by decide +kernel
theorem dX5_settles_2 : decode cX5_settles 2 = .ok (.getfield 57, 3) := by decide +kernel
theorem dX5_settles_5 : decode cX5_settles 5 = .ok (.putfield 60, 3) := by decide +kernel
theorem dX5_settles_8 : decode cX5_settles 8 = .ok (.aload_n 0, 1) := by decide +kernel
theorem dX5_settles_9 : decode cX5_settles 9 = .ok (.aload_n 0, 1) := by decide +kernel
theorem dX5_settles_10 : decode cX5_settles 10 = .ok (.getfield 50, 3) := by decide +kernel
theorem dX5_settles_13 : decode cX5_settles 13 = .ok (.putfield 67, 3) := by decide +kernel
theorem dX5_settles_16 : decode cX5_settles 16 = .ok (.iconst 0, 1) := by decide +kernel
theorem dX5_settles_17 : decode cX5_settles 17 = .ok (.istore_n 1, 1) := by decide +kernel
theorem dX5_settles_18 : decode cX5_settles 18 = .ok (.iload_n 1, 1) := by decide +kernel
theorem dX5_settles_19 : decode cX5_settles 19 = .ok (.aload_n 0, 1) := by decide +kernel
theorem dX5_settles_20 : decode cX5_settles 20 = .ok (.getfield 60, 3) := by decide +kernel
theorem dX5_settles_23 : decode cX5_settles 23 = .ok (.if_icmp .ge 21, 3) := by decide +kernel
theorem dX5_settles_26 : decode cX5_settles 26 = .ok (.aload_n 0, 1) := by decide +kernel
theorem dX5_settles_27 : decode cX5_settles 27 = .ok (.getfield 7, 3) := by decide +kernel
theorem dX5_settles_30 : decode cX5_settles 30 = .ok (.iload_n 1, 1) := by decide +kernel
theorem dX5_settles_31 : decode cX5_settles 31 = .ok (.aload_n 0, 1) := by decide +kernel
theorem dX5_settles_32 : decode cX5_settles 32 = .ok (.getfield 31, 3) := by decide +kernel
theorem dX5_settles_35 : decode cX5_settles 35 = .ok (.iload_n 1, 1) := by decide +kernel
theorem dX5_settles_36 : decode cX5_settles 36 = .ok (.iaload, 1) := by decide +kernel
theorem dX5_settles_37 : decode cX5_settles 37 = .ok (.iastore, 1) := by decide +kernel
theorem dX5_settles_38 : decode cX5_settles 38 = .ok (.iinc 1 1, 3) := by decide +kernel
theorem dX5_settles_41 : decode cX5_settles 41 = .ok (.goto (-23), 3) := by decide +kernel
theorem dX5_settles_44 : decode cX5_settles 44 = .ok (.aload_n 0, 1) := by decide +kernel
theorem dX5_settles_45 : decode cX5_settles 45 = .ok (.getfield 13, 3) := by decide +kernel
theorem dX5_settles_48 : decode cX5_settles 48 = .ok (.iconst 0, 1) := by decide +kernel
theorem dX5_settles_49 : decode cX5_settles 49 = .ok (.aload_n 0, 1) := by decide +kernel
theorem dX5_settles_50 : decode cX5_settles 50 = .ok (.getfield 34, 3) := by decide +kernel
theorem dX5_settles_53 : decode cX5_settles 53 = .ok (.iconst 0, 1) := by decide +kernel
theorem dX5_settles_54 : decode cX5_settles 54 = .ok (.invokestatic 107, 3) := by decide +kernel
theorem dX5_settles_57 : decode cX5_settles 57 = .ok (.aload_n 0, 1) := by decide +kernel
theorem dX5_settles_58 : decode cX5_settles 58 = .ok (.iconst 0, 1) := by decide +kernel
theorem dX5_settles_59 : decode cX5_settles 59 = .ok (.putfield 111, 3) := by decide +kernel
theorem dX5_settles_62 : decode cX5_settles 62 = .ok (.aload_n 0, 1) := by decide +kernel
theorem dX5_settles_63 : decode cX5_settles 63 = .ok (.iconst 0, 1) := by decide +kernel
theorem dX5_settles_64 : decode cX5_settles 64 = .ok (.putfield 114, 3) := by decide +kernel
theorem dX5_settles_67 : decode cX5_settles 67 = .ok (.aload_n 0, 1) := by decide +kernel
theorem dX5_settles_68 : decode cX5_settles 68 = .ok (.iconst 0, 1) := by decide +kernel
theorem dX5_settles_69 : decode cX5_settles 69 = .ok (.putfield 117, 3) := by decide +kernel
theorem dX5_settles_72 : decode cX5_settles 72 = .ok (.return_, 1) := by decide +kernel
theorem dX5_copies_0 : decode cX5_copies 0 = .ok (.iconst 0, 1) := by decide +kernel
theorem dX5_copies_1 : decode cX5_copies 1 = .ok (.istore 4, 2) := by decide +kernel
theorem dX5_copies_3 : decode cX5_copies 3 = .ok (.iload 4, 2) := by decide +kernel
theorem dX5_copies_5 : decode cX5_copies 5 = .ok (.bipush 61, 2) := by decide +kernel
theorem dX5_copies_7 : decode cX5_copies 7 = .ok (.if_icmp .ge 21, 3) := by decide +kernel
theorem dX5_copies_10 : decode cX5_copies 10 = .ok (.aload_n 0, 1) := by decide +kernel
theorem dX5_copies_11 : decode cX5_copies 11 = .ok (.iload_n 1, 1) := by decide +kernel
theorem dX5_copies_12 : decode cX5_copies 12 = .ok (.iload 4, 2) := by decide +kernel
theorem dX5_copies_14 : decode cX5_copies 14 = .ok (.iadd, 1) := by decide +kernel
theorem dX5_copies_15 : decode cX5_copies 15 = .ok (.aload_n 2, 1) := by decide +kernel
theorem dX5_copies_16 : decode cX5_copies 16 = .ok (.iload_n 3, 1) := by decide +kernel
theorem dX5_copies_17 : decode cX5_copies 17 = .ok (.iload 4, 2) := by decide +kernel
theorem dX5_copies_19 : decode cX5_copies 19 = .ok (.iadd, 1) := by decide +kernel
theorem dX5_copies_20 : decode cX5_copies 20 = .ok (.iaload, 1) := by decide +kernel
theorem dX5_copies_21 : decode cX5_copies 21 = .ok (.iastore, 1) := by decide +kernel
theorem dX5_copies_22 : decode cX5_copies 22 = .ok (.iinc 4 1, 3) := by decide +kernel
theorem dX5_copies_25 : decode cX5_copies 25 = .ok (.goto (-22), 3) := by decide +kernel
theorem dX5_copies_28 : decode cX5_copies 28 = .ok (.return_, 1) := by decide +kernel
theorem dX5_asItIs_0 : decode cX5_asItIs 0 = .ok (.aload_n 0, 1) := by decide +kernel
theorem dX5_asItIs_1 : decode cX5_asItIs 1 = .ok (.getfield 37, 3) := by decide +kernel
theorem dX5_asItIs_4 : decode cX5_asItIs 4 = .ok (.iconst 0, 1) := by decide +kernel
theorem dX5_asItIs_5 : decode cX5_asItIs 5 = .ok (.aload_n 0, 1) := by decide +kernel
theorem dX5_asItIs_6 : decode cX5_asItIs 6 = .ok (.getfield 13, 3) := by decide +kernel
theorem dX5_asItIs_9 : decode cX5_asItIs 9 = .ok (.iconst 0, 1) := by decide +kernel
theorem dX5_asItIs_10 : decode cX5_asItIs 10 = .ok (.invokestatic 107, 3) := by decide +kernel
theorem dX5_asItIs_13 : decode cX5_asItIs 13 = .ok (.return_, 1) := by decide +kernel
theorem dX5_viewOf_0 : decode cX5_viewOf 0 = .ok (.aload_n 0, 1) := by decide +kernel
theorem dX5_viewOf_1 : decode cX5_viewOf 1 = .ok (.getfield 37, 3) := by decide +kernel
theorem dX5_viewOf_4 : decode cX5_viewOf 4 = .ok (.bipush 6, 2) := by decide +kernel
theorem dX5_viewOf_6 : decode cX5_viewOf 6 = .ok (.iconst 5, 1) := by decide +kernel
theorem dX5_viewOf_7 : decode cX5_viewOf 7 = .ok (.iload_n 1, 1) := by decide +kernel
theorem dX5_viewOf_8 : decode cX5_viewOf 8 = .ok (.imul, 1) := by decide +kernel
theorem dX5_viewOf_9 : decode cX5_viewOf 9 = .ok (.iadd, 1) := by decide +kernel
theorem dX5_viewOf_10 : decode cX5_viewOf 10 = .ok (.iload_n 2, 1) := by decide +kernel
theorem dX5_viewOf_11 : decode cX5_viewOf 11 = .ok (.iadd, 1) := by decide +kernel
theorem dX5_viewOf_12 : decode cX5_viewOf 12 = .ok (.iaload, 1) := by decide +kernel
theorem dX5_viewOf_13 : decode cX5_viewOf 13 = .ok (.ireturn, 1) := by decide +kernel
theorem dX5_writes_0 : decode cX5_writes 0 = .ok (.aload_n 0, 1) := by decide +kernel
theorem dX5_writes_1 : decode cX5_writes 1 = .ok (.iload_n 2, 1) := by decide +kernel
theorem dX5_writes_2 : decode cX5_writes 2 = .ok (.iload_n 3, 1) := by decide +kernel
theorem dX5_writes_3 : decode cX5_writes 3 = .ok (.invokevirtual 120, 3) := by decide +kernel
theorem dX5_writes_6 : decode cX5_writes 6 = .ok (.istore 5, 2) := by decide +kernel
theorem dX5_writes_8 : decode cX5_writes 8 = .ok (.aload_n 0, 1) := by decide +kernel
theorem dX5_writes_9 : decode cX5_writes 9 = .ok (.iload_n 1, 1) := by decide +kernel
theorem dX5_writes_10 : decode cX5_writes 10 = .ok (.iload_n 3, 1) := by decide +kernel
theorem dX5_writes_11 : decode cX5_writes 11 = .ok (.invokevirtual 120, 3) := by decide +kernel
theorem dX5_writes_14 : decode cX5_writes 14 = .ok (.istore 6, 2) := by decide +kernel
theorem dX5_writes_16 : decode cX5_writes 16 = .ok (.aload_n 0, 1) := by decide +kernel
theorem dX5_writes_17 : decode cX5_writes 17 = .ok (.getfield 7, 3) := by decide +kernel
theorem dX5_writes_20 : decode cX5_writes 20 = .ok (.iload_n 1, 1) := by decide +kernel
theorem dX5_writes_21 : decode cX5_writes 21 = .ok (.iaload, 1) := by decide +kernel
theorem dX5_writes_22 : decode cX5_writes 22 = .ok (.tableswitch 57 1 4 #[30, 33, 52, 54], 30) := by decide +kernel
theorem dX5_writes_52 : decode cX5_writes 52 = .ok (.iload 5, 2) := by decide +kernel
theorem dX5_writes_54 : decode cX5_writes 54 = .ok (.ireturn, 1) := by decide +kernel
theorem dX5_writes_55 : decode cX5_writes 55 = .ok (.bipush 10, 2) := by decide +kernel
theorem dX5_writes_57 : decode cX5_writes 57 = .ok (.iload 4, 2) := by decide +kernel
theorem dX5_writes_59 : decode cX5_writes 59 = .ok (.isub, 1) := by decide +kernel
theorem dX5_writes_60 : decode cX5_writes 60 = .ok (.iload 5, 2) := by decide +kernel
theorem dX5_writes_62 : decode cX5_writes 62 = .ok (.ineg, 1) := by decide +kernel
theorem dX5_writes_63 : decode cX5_writes 63 = .ok (.imul, 1) := by decide +kernel
theorem dX5_writes_64 : decode cX5_writes 64 = .ok (.iload 4, 2) := by decide +kernel
theorem dX5_writes_66 : decode cX5_writes 66 = .ok (.iload 6, 2) := by decide +kernel
theorem dX5_writes_68 : decode cX5_writes 68 = .ok (.imul, 1) := by decide +kernel
theorem dX5_writes_69 : decode cX5_writes 69 = .ok (.iadd, 1) := by decide +kernel
theorem dX5_writes_70 : decode cX5_writes 70 = .ok (.bipush 10, 2) := by decide +kernel
theorem dX5_writes_72 : decode cX5_writes 72 = .ok (.idiv, 1) := by decide +kernel
theorem dX5_writes_73 : decode cX5_writes 73 = .ok (.ireturn, 1) := by decide +kernel
theorem dX5_writes_74 : decode cX5_writes 74 = .ok (.iconst 0, 1) := by decide +kernel
theorem dX5_writes_75 : decode cX5_writes 75 = .ok (.ireturn, 1) := by decide +kernel
theorem dX5_writes_76 : decode cX5_writes 76 = .ok (.bipush 9, 2) := by decide +kernel
theorem dX5_writes_78 : decode cX5_writes 78 = .ok (.ireturn, 1) := by decide +kernel
theorem dX5_writes_79 : decode cX5_writes 79 = .ok (.bipush 10, 2) := by decide +kernel
theorem dX5_writes_81 : decode cX5_writes 81 = .ok (.iload 4, 2) := by decide +kernel
theorem dX5_writes_83 : decode cX5_writes 83 = .ok (.isub, 1) := by decide +kernel
theorem dX5_writes_84 : decode cX5_writes 84 = .ok (.iload 5, 2) := by decide +kernel
theorem dX5_writes_86 : decode cX5_writes 86 = .ok (.imul, 1) := by decide +kernel
theorem dX5_writes_87 : decode cX5_writes 87 = .ok (.iload 4, 2) := by decide +kernel
theorem dX5_writes_89 : decode cX5_writes 89 = .ok (.iload 6, 2) := by decide +kernel
theorem dX5_writes_91 : decode cX5_writes 91 = .ok (.imul, 1) := by decide +kernel
theorem dX5_writes_92 : decode cX5_writes 92 = .ok (.iadd, 1) := by decide +kernel
theorem dX5_writes_93 : decode cX5_writes 93 = .ok (.bipush 10, 2) := by decide +kernel
theorem dX5_writes_95 : decode cX5_writes 95 = .ok (.idiv, 1) := by decide +kernel
theorem dX5_writes_96 : decode cX5_writes 96 = .ok (.ireturn, 1) := by decide +kernel
theorem dX5_toward_0 : decode cX5_toward 0 = .ok (.iload_n 2, 1) := by decide +kernel
theorem dX5_toward_1 : decode cX5_toward 1 = .ok (.iload_n 1, 1) := by decide +kernel
theorem dX5_toward_2 : decode cX5_toward 2 = .ok (.if_icmp .le 9, 3) := by decide +kernel
theorem dX5_toward_5 : decode cX5_toward 5 = .ok (.iload_n 2, 1) := by decide +kernel
theorem dX5_toward_6 : decode cX5_toward 6 = .ok (.iload_n 1, 1) := by decide +kernel
theorem dX5_toward_7 : decode cX5_toward 7 = .ok (.isub, 1) := by decide +kernel
theorem dX5_toward_8 : decode cX5_toward 8 = .ok (.goto 6, 3) := by decide +kernel
theorem dX5_toward_11 : decode cX5_toward 11 = .ok (.iload_n 1, 1) := by decide +kernel
theorem dX5_toward_12 : decode cX5_toward 12 = .ok (.iload_n 2, 1) := by decide +kernel
theorem dX5_toward_13 : decode cX5_toward 13 = .ok (.isub, 1) := by decide +kernel
theorem dX5_toward_14 : decode cX5_toward 14 = .ok (.istore 4, 2) := by decide +kernel
theorem dX5_toward_16 : decode cX5_toward 16 = .ok (.iload 4, 2) := by decide +kernel
theorem dX5_toward_18 : decode cX5_toward 18 = .ok (.iload_n 3, 1) := by decide +kernel
theorem dX5_toward_19 : decode cX5_toward 19 = .ok (.if_icmp .ge 8, 3) := by decide +kernel
theorem dX5_toward_22 : decode cX5_toward 22 = .ok (.iload 4, 2) := by decide +kernel
theorem dX5_toward_24 : decode cX5_toward 24 = .ok (.goto 4, 3) := by decide +kernel
theorem dX5_toward_27 : decode cX5_toward 27 = .ok (.iload_n 3, 1) := by decide +kernel
theorem dX5_toward_28 : decode cX5_toward 28 = .ok (.istore 5, 2) := by decide +kernel
theorem dX5_toward_30 : decode cX5_toward 30 = .ok (.iload_n 2, 1) := by decide +kernel
theorem dX5_toward_31 : decode cX5_toward 31 = .ok (.iload_n 1, 1) := by decide +kernel
theorem dX5_toward_32 : decode cX5_toward 32 = .ok (.if_icmp .le 10, 3) := by decide +kernel
theorem dX5_toward_35 : decode cX5_toward 35 = .ok (.iload_n 1, 1) := by decide +kernel
theorem dX5_toward_36 : decode cX5_toward 36 = .ok (.iload 5, 2) := by decide +kernel
theorem dX5_toward_38 : decode cX5_toward 38 = .ok (.iadd, 1) := by decide +kernel
theorem dX5_toward_39 : decode cX5_toward 39 = .ok (.goto 7, 3) := by decide +kernel
theorem dX5_toward_42 : decode cX5_toward 42 = .ok (.iload_n 1, 1) := by decide +kernel
theorem dX5_toward_43 : decode cX5_toward 43 = .ok (.iload 5, 2) := by decide +kernel
theorem dX5_toward_45 : decode cX5_toward 45 = .ok (.isub, 1) := by decide +kernel
theorem dX5_toward_46 : decode cX5_toward 46 = .ok (.ireturn, 1) := by decide +kernel
theorem dX5_copied_0 : decode cX5_copied 0 = .ok (.aload_n 0, 1) := by decide +kernel
theorem dX5_copied_1 : decode cX5_copied 1 = .ok (.aload_n 0, 1) := by decide +kernel
theorem dX5_copied_2 : decode cX5_copied 2 = .ok (.getfield 37, 3) := by decide +kernel
theorem dX5_copied_5 : decode cX5_copied 5 = .ok (.iconst 0, 1) := by decide +kernel
theorem dX5_copied_6 : decode cX5_copied 6 = .ok (.iload_n 2, 1) := by decide +kernel
theorem dX5_copied_7 : decode cX5_copied 7 = .ok (.iadd, 1) := by decide +kernel
theorem dX5_copied_8 : decode cX5_copied 8 = .ok (.iaload, 1) := by decide +kernel
theorem dX5_copied_9 : decode cX5_copied 9 = .ok (.iload_n 3, 1) := by decide +kernel
theorem dX5_copied_10 : decode cX5_copied 10 = .ok (.invokevirtual 120, 3) := by decide +kernel
theorem dX5_copied_13 : decode cX5_copied 13 = .ok (.istore 4, 2) := by decide +kernel
theorem dX5_copied_15 : decode cX5_copied 15 = .ok (.aload_n 0, 1) := by decide +kernel
theorem dX5_copied_16 : decode cX5_copied 16 = .ok (.getfield 7, 3) := by decide +kernel
theorem dX5_copied_19 : decode cX5_copied 19 = .ok (.iload_n 2, 1) := by decide +kernel
theorem dX5_copied_20 : decode cX5_copied 20 = .ok (.iaload, 1) := by decide +kernel
theorem dX5_copied_21 : decode cX5_copied 21 = .ok (.tableswitch 63 1 4 #[31, 63, 40, 48], 31) := by decide +kernel
theorem dX5_copied_52 : decode cX5_copied 52 = .ok (.aload_n 0, 1) := by decide +kernel
theorem dX5_copied_53 : decode cX5_copied 53 = .ok (.iload_n 1, 1) := by decide +kernel
theorem dX5_copied_54 : decode cX5_copied 54 = .ok (.iload 4, 2) := by decide +kernel
theorem dX5_copied_56 : decode cX5_copied 56 = .ok (.iconst 2, 1) := by decide +kernel
theorem dX5_copied_57 : decode cX5_copied 57 = .ok (.invokevirtual 124, 3) := by decide +kernel
theorem dX5_copied_60 : decode cX5_copied 60 = .ok (.ireturn, 1) := by decide +kernel
theorem dX5_copied_61 : decode cX5_copied 61 = .ok (.aload_n 0, 1) := by decide +kernel
theorem dX5_copied_62 : decode cX5_copied 62 = .ok (.iload_n 1, 1) := by decide +kernel
theorem dX5_copied_63 : decode cX5_copied 63 = .ok (.iconst 0, 1) := by decide +kernel
theorem dX5_copied_64 : decode cX5_copied 64 = .ok (.iconst 1, 1) := by decide +kernel
theorem dX5_copied_65 : decode cX5_copied 65 = .ok (.invokevirtual 124, 3) := by decide +kernel
theorem dX5_copied_68 : decode cX5_copied 68 = .ok (.ireturn, 1) := by decide +kernel
theorem dX5_copied_69 : decode cX5_copied 69 = .ok (.iload_n 1, 1) := by decide +kernel
theorem dX5_copied_70 : decode cX5_copied 70 = .ok (.bipush 9, 2) := by decide +kernel
theorem dX5_copied_72 : decode cX5_copied 72 = .ok (.if_icmp .ge 9, 3) := by decide +kernel
theorem dX5_copied_75 : decode cX5_copied 75 = .ok (.iload_n 1, 1) := by decide +kernel
theorem dX5_copied_76 : decode cX5_copied 76 = .ok (.iconst 1, 1) := by decide +kernel
theorem dX5_copied_77 : decode cX5_copied 77 = .ok (.iadd, 1) := by decide +kernel
theorem dX5_copied_78 : decode cX5_copied 78 = .ok (.goto 5, 3) := by decide +kernel
theorem dX5_copied_81 : decode cX5_copied 81 = .ok (.bipush 9, 2) := by decide +kernel
theorem dX5_copied_83 : decode cX5_copied 83 = .ok (.ireturn, 1) := by decide +kernel
theorem dX5_copied_84 : decode cX5_copied 84 = .ok (.aload_n 0, 1) := by decide +kernel
theorem dX5_copied_85 : decode cX5_copied 85 = .ok (.iload_n 1, 1) := by decide +kernel
theorem dX5_copied_86 : decode cX5_copied 86 = .ok (.iload 4, 2) := by decide +kernel
theorem dX5_copied_88 : decode cX5_copied 88 = .ok (.iconst 1, 1) := by decide +kernel
theorem dX5_copied_89 : decode cX5_copied 89 = .ok (.invokevirtual 124, 3) := by decide +kernel
theorem dX5_copied_92 : decode cX5_copied 92 = .ok (.ireturn, 1) := by decide +kernel
theorem dX5_copying_0 : decode cX5_copying 0 = .ok (.iconst 0, 1) := by decide +kernel
theorem dX5_copying_1 : decode cX5_copying 1 = .ok (.istore 4, 2) := by decide +kernel
theorem dX5_copying_3 : decode cX5_copying 3 = .ok (.iload 4, 2) := by decide +kernel
theorem dX5_copying_5 : decode cX5_copying 5 = .ok (.iconst 5, 1) := by decide +kernel
theorem dX5_copying_6 : decode cX5_copying 6 = .ok (.if_icmp .ge 63, 3) := by decide +kernel
theorem dX5_copying_9 : decode cX5_copying 9 = .ok (.aload_n 0, 1) := by decide +kernel
theorem dX5_copying_10 : decode cX5_copying 10 = .ok (.getfield 37, 3) := by decide +kernel
theorem dX5_copying_13 : decode cX5_copying 13 = .ok (.bipush 36, 2) := by decide +kernel
theorem dX5_copying_15 : decode cX5_copying 15 = .ok (.iconst 5, 1) := by decide +kernel
theorem dX5_copying_16 : decode cX5_copying 16 = .ok (.iload_n 1, 1) := by decide +kernel
theorem dX5_copying_17 : decode cX5_copying 17 = .ok (.imul, 1) := by decide +kernel
theorem dX5_copying_18 : decode cX5_copying 18 = .ok (.iadd, 1) := by decide +kernel
theorem dX5_copying_19 : decode cX5_copying 19 = .ok (.iload 4, 2) := by decide +kernel
theorem dX5_copying_21 : decode cX5_copying 21 = .ok (.iadd, 1) := by decide +kernel
theorem dX5_copying_22 : decode cX5_copying 22 = .ok (.iaload, 1) := by decide +kernel
theorem dX5_copying_23 : decode cX5_copying 23 = .ok (.istore 5, 2) := by decide +kernel
theorem dX5_copying_25 : decode cX5_copying 25 = .ok (.aload_n 0, 1) := by decide +kernel
theorem dX5_copying_26 : decode cX5_copying 26 = .ok (.getfield 37, 3) := by decide +kernel
theorem dX5_copying_29 : decode cX5_copying 29 = .ok (.bipush 36, 2) := by decide +kernel
theorem dX5_copying_31 : decode cX5_copying 31 = .ok (.iconst 5, 1) := by decide +kernel
theorem dX5_copying_32 : decode cX5_copying 32 = .ok (.iload_n 2, 1) := by decide +kernel
theorem dX5_copying_33 : decode cX5_copying 33 = .ok (.imul, 1) := by decide +kernel
theorem dX5_copying_34 : decode cX5_copying 34 = .ok (.iadd, 1) := by decide +kernel
theorem dX5_copying_35 : decode cX5_copying 35 = .ok (.iload 4, 2) := by decide +kernel
theorem dX5_copying_37 : decode cX5_copying 37 = .ok (.iadd, 1) := by decide +kernel
theorem dX5_copying_38 : decode cX5_copying 38 = .ok (.iload 5, 2) := by decide +kernel
theorem dX5_copying_40 : decode cX5_copying 40 = .ok (.ifCond .ne 7, 3) := by decide +kernel
theorem dX5_copying_43 : decode cX5_copying 43 = .ok (.iconst 0, 1) := by decide +kernel
theorem dX5_copying_44 : decode cX5_copying 44 = .ok (.goto 18, 3) := by decide +kernel
theorem dX5_copying_47 : decode cX5_copying 47 = .ok (.aload_n 0, 1) := by decide +kernel
theorem dX5_copying_48 : decode cX5_copying 48 = .ok (.iload 5, 2) := by decide +kernel
theorem dX5_copying_50 : decode cX5_copying 50 = .ok (.bipush 10, 2) := by decide +kernel
theorem dX5_copying_52 : decode cX5_copying 52 = .ok (.isub, 1) := by decide +kernel
theorem dX5_copying_53 : decode cX5_copying 53 = .ok (.iload_n 3, 1) := by decide +kernel
theorem dX5_copying_54 : decode cX5_copying 54 = .ok (.iload 4, 2) := by decide +kernel
theorem dX5_copying_56 : decode cX5_copying 56 = .ok (.invokevirtual 128, 3) := by decide +kernel
theorem dX5_copying_59 : decode cX5_copying 59 = .ok (.bipush 10, 2) := by decide +kernel
theorem dX5_copying_61 : decode cX5_copying 61 = .ok (.iadd, 1) := by decide +kernel
theorem dX5_copying_62 : decode cX5_copying 62 = .ok (.iastore, 1) := by decide +kernel
theorem dX5_copying_63 : decode cX5_copying 63 = .ok (.iinc 4 1, 3) := by decide +kernel
theorem dX5_copying_66 : decode cX5_copying 66 = .ok (.goto (-63), 3) := by decide +kernel
theorem dX5_copying_69 : decode cX5_copying 69 = .ok (.return_, 1) := by decide +kernel
theorem dX5_says_0 : decode cX5_says 0 = .ok (.iload_n 0, 1) := by decide +kernel
theorem dX5_says_1 : decode cX5_says 1 = .ok (.ifCond .ne 8, 3) := by decide +kernel
theorem dX5_says_4 : decode cX5_says 4 = .ok (.bipush (-4), 2) := by decide +kernel
theorem dX5_says_6 : decode cX5_says 6 = .ok (.goto 6, 3) := by decide +kernel
theorem dX5_says_9 : decode cX5_says 9 = .ok (.iload_n 0, 1) := by decide +kernel
theorem dX5_says_10 : decode cX5_says 10 = .ok (.iconst 1, 1) := by decide +kernel
theorem dX5_says_11 : decode cX5_says 11 = .ok (.isub, 1) := by decide +kernel
theorem dX5_says_12 : decode cX5_says 12 = .ok (.ireturn, 1) := by decide +kernel
theorem dX5_person_0 : decode cX5_person 0 = .ok (.aload_n 0, 1) := by decide +kernel
theorem dX5_person_1 : decode cX5_person 1 = .ok (.iload_n 1, 1) := by decide +kernel
theorem dX5_person_2 : decode cX5_person 2 = .ok (.invokevirtual 131, 3) := by decide +kernel
theorem dX5_person_5 : decode cX5_person 5 = .ok (.ifCond .eq 12, 3) := by decide +kernel
theorem dX5_person_8 : decode cX5_person 8 = .ok (.iload_n 2, 1) := by decide +kernel
theorem dX5_person_9 : decode cX5_person 9 = .ok (.iconst 0, 1) := by decide +kernel
theorem dX5_person_10 : decode cX5_person 10 = .ok (.iconst 1, 1) := by decide +kernel
theorem dX5_person_11 : decode cX5_person 11 = .ok (.invokestatic 63, 3) := by decide +kernel
theorem dX5_person_14 : decode cX5_person 14 = .ok (.ifCond .ne 5, 3) := by decide +kernel
theorem dX5_person_17 : decode cX5_person 17 = .ok (.iconst (-1), 1) := by decide +kernel
theorem dX5_person_18 : decode cX5_person 18 = .ok (.ireturn, 1) := by decide +kernel
theorem dX5_person_19 : decode cX5_person 19 = .ok (.iload_n 2, 1) := by decide +kernel
theorem dX5_person_20 : decode cX5_person 20 = .ok (.ifCond .ne 12, 3) := by decide +kernel
theorem dX5_person_23 : decode cX5_person 23 = .ok (.aload_n 0, 1) := by decide +kernel
theorem dX5_person_24 : decode cX5_person 24 = .ok (.getfield 7, 3) := by decide +kernel
theorem dX5_person_27 : decode cX5_person 27 = .ok (.iload_n 1, 1) := by decide +kernel
theorem dX5_person_28 : decode cX5_person 28 = .ok (.iaload, 1) := by decide +kernel
theorem dX5_person_29 : decode cX5_person 29 = .ok (.goto 11, 3) := by decide +kernel
theorem dX5_person_32 : decode cX5_person 32 = .ok (.aload_n 0, 1) := by decide +kernel
theorem dX5_person_33 : decode cX5_person 33 = .ok (.getfield 13, 3) := by decide +kernel
theorem dX5_person_36 : decode cX5_person 36 = .ok (.iconst 0, 1) := by decide +kernel
theorem dX5_person_37 : decode cX5_person 37 = .ok (.iload_n 1, 1) := by decide +kernel
theorem dX5_person_38 : decode cX5_person 38 = .ok (.iadd, 1) := by decide +kernel
theorem dX5_person_39 : decode cX5_person 39 = .ok (.iaload, 1) := by decide +kernel
theorem dX5_person_40 : decode cX5_person 40 = .ok (.ireturn, 1) := by decide +kernel
theorem dX5_view_0 : decode cX5_view 0 = .ok (.aload_n 0, 1) := by decide +kernel
theorem dX5_view_1 : decode cX5_view 1 = .ok (.iload_n 1, 1) := by decide +kernel
theorem dX5_view_2 : decode cX5_view 2 = .ok (.invokevirtual 131, 3) := by decide +kernel
theorem dX5_view_5 : decode cX5_view 5 = .ok (.ifCond .eq 29, 3) := by decide +kernel
theorem dX5_view_8 : decode cX5_view 8 = .ok (.iload_n 2, 1) := by decide +kernel
theorem dX5_view_9 : decode cX5_view 9 = .ok (.invokestatic 134, 3) := by decide +kernel
theorem dX5_view_12 : decode cX5_view 12 = .ok (.ifCond .eq 22, 3) := by decide +kernel
theorem dX5_view_15 : decode cX5_view 15 = .ok (.aload_n 0, 1) := by decide +kernel
theorem dX5_view_16 : decode cX5_view 16 = .ok (.getfield 13, 3) := by decide +kernel
theorem dX5_view_19 : decode cX5_view 19 = .ok (.bipush 6, 2) := by decide +kernel
theorem dX5_view_21 : decode cX5_view 21 = .ok (.iconst 5, 1) := by decide +kernel
theorem dX5_view_22 : decode cX5_view 22 = .ok (.iload_n 1, 1) := by decide +kernel
theorem dX5_view_23 : decode cX5_view 23 = .ok (.imul, 1) := by decide +kernel
theorem dX5_view_24 : decode cX5_view 24 = .ok (.iadd, 1) := by decide +kernel
theorem dX5_view_25 : decode cX5_view 25 = .ok (.iload_n 2, 1) := by decide +kernel
theorem dX5_view_26 : decode cX5_view 26 = .ok (.iadd, 1) := by decide +kernel
theorem dX5_view_27 : decode cX5_view 27 = .ok (.iaload, 1) := by decide +kernel
theorem dX5_view_28 : decode cX5_view 28 = .ok (.bipush 9, 2) := by decide +kernel
theorem dX5_view_30 : decode cX5_view 30 = .ok (.iadd, 1) := by decide +kernel
theorem dX5_view_31 : decode cX5_view 31 = .ok (.goto 4, 3) := by decide +kernel
theorem dX5_view_34 : decode cX5_view 34 = .ok (.iconst (-1), 1) := by decide +kernel
theorem dX5_view_35 : decode cX5_view 35 = .ok (.ireturn, 1) := by decide +kernel
theorem dX5_line_0 : decode cX5_line 0 = .ok (.aload_n 0, 1) := by decide +kernel
theorem dX5_line_1 : decode cX5_line 1 = .ok (.iload_n 1, 1) := by decide +kernel
theorem dX5_line_2 : decode cX5_line 2 = .ok (.invokevirtual 137, 3) := by decide +kernel
theorem dX5_line_5 : decode cX5_line 5 = .ok (.ifCond .eq 29, 3) := by decide +kernel
theorem dX5_line_8 : decode cX5_line 8 = .ok (.iload_n 2, 1) := by decide +kernel
theorem dX5_line_9 : decode cX5_line 9 = .ok (.invokestatic 134, 3) := by decide +kernel
theorem dX5_line_12 : decode cX5_line 12 = .ok (.ifCond .eq 22, 3) := by decide +kernel
theorem dX5_line_15 : decode cX5_line 15 = .ok (.aload_n 0, 1) := by decide +kernel
theorem dX5_line_16 : decode cX5_line 16 = .ok (.getfield 13, 3) := by decide +kernel
theorem dX5_line_19 : decode cX5_line 19 = .ok (.bipush 36, 2) := by decide +kernel
theorem dX5_line_21 : decode cX5_line 21 = .ok (.iconst 5, 1) := by decide +kernel
theorem dX5_line_22 : decode cX5_line 22 = .ok (.iload_n 1, 1) := by decide +kernel
theorem dX5_line_23 : decode cX5_line 23 = .ok (.imul, 1) := by decide +kernel
theorem dX5_line_24 : decode cX5_line 24 = .ok (.iadd, 1) := by decide +kernel
theorem dX5_line_25 : decode cX5_line 25 = .ok (.iload_n 2, 1) := by decide +kernel
theorem dX5_line_26 : decode cX5_line 26 = .ok (.iadd, 1) := by decide +kernel
theorem dX5_line_27 : decode cX5_line 27 = .ok (.iaload, 1) := by decide +kernel
theorem dX5_line_28 : decode cX5_line 28 = .ok (.invokestatic 140, 3) := by decide +kernel
theorem dX5_line_31 : decode cX5_line 31 = .ok (.goto 4, 3) := by decide +kernel
theorem dX5_line_34 : decode cX5_line 34 = .ok (.iconst (-1), 1) := by decide +kernel
theorem dX5_line_35 : decode cX5_line 35 = .ok (.ireturn, 1) := by decide +kernel
theorem dX5_would_0 : decode cX5_would 0 = .ok (.aload_n 0, 1) := by decide +kernel
theorem dX5_would_1 : decode cX5_would 1 = .ok (.iload_n 1, 1) := by decide +kernel
theorem dX5_would_2 : decode cX5_would 2 = .ok (.invokevirtual 131, 3) := by decide +kernel
theorem dX5_would_5 : decode cX5_would 5 = .ok (.ifCond .eq 20, 3) := by decide +kernel
theorem dX5_would_8 : decode cX5_would 8 = .ok (.iload_n 2, 1) := by decide +kernel
theorem dX5_would_9 : decode cX5_would 9 = .ok (.invokestatic 134, 3) := by decide +kernel
theorem dX5_would_12 : decode cX5_would 12 = .ok (.ifCond .eq 13, 3) := by decide +kernel
theorem dX5_would_15 : decode cX5_would 15 = .ok (.iload_n 3, 1) := by decide +kernel
theorem dX5_would_16 : decode cX5_would 16 = .ok (.iconst 0, 1) := by decide +kernel
theorem dX5_would_17 : decode cX5_would 17 = .ok (.bipush 10, 2) := by decide +kernel
theorem dX5_would_19 : decode cX5_would 19 = .ok (.invokestatic 63, 3) := by decide +kernel
theorem dX5_would_22 : decode cX5_would 22 = .ok (.ifCond .ne 5, 3) := by decide +kernel
theorem dX5_would_25 : decode cX5_would 25 = .ok (.iconst (-1), 1) := by decide +kernel
theorem dX5_would_26 : decode cX5_would 26 = .ok (.ireturn, 1) := by decide +kernel
theorem dX5_would_27 : decode cX5_would 27 = .ok (.aload_n 0, 1) := by decide +kernel
theorem dX5_would_28 : decode cX5_would 28 = .ok (.invokevirtual 143, 3) := by decide +kernel
theorem dX5_would_31 : decode cX5_would 31 = .ok (.aload_n 0, 1) := by decide +kernel
theorem dX5_would_32 : decode cX5_would 32 = .ok (.iload_n 1, 1) := by decide +kernel
theorem dX5_would_33 : decode cX5_would 33 = .ok (.aload_n 0, 1) := by decide +kernel
theorem dX5_would_34 : decode cX5_would 34 = .ok (.getfield 37, 3) := by decide +kernel
theorem dX5_would_37 : decode cX5_would 37 = .ok (.iconst 0, 1) := by decide +kernel
theorem dX5_would_38 : decode cX5_would 38 = .ok (.iload_n 1, 1) := by decide +kernel
theorem dX5_would_39 : decode cX5_would 39 = .ok (.iadd, 1) := by decide +kernel
theorem dX5_would_40 : decode cX5_would 40 = .ok (.iaload, 1) := by decide +kernel
theorem dX5_would_41 : decode cX5_would 41 = .ok (.iload_n 2, 1) := by decide +kernel
theorem dX5_would_42 : decode cX5_would 42 = .ok (.iload_n 3, 1) := by decide +kernel
theorem dX5_would_43 : decode cX5_would 43 = .ok (.invokevirtual 146, 3) := by decide +kernel
theorem dX5_would_46 : decode cX5_would 46 = .ok (.bipush 9, 2) := by decide +kernel
theorem dX5_would_48 : decode cX5_would 48 = .ok (.iadd, 1) := by decide +kernel
theorem dX5_would_49 : decode cX5_would 49 = .ok (.ireturn, 1) := by decide +kernel
theorem dX5_remembers_0 : decode cX5_remembers 0 = .ok (.aload_n 0, 1) := by decide +kernel
theorem dX5_remembers_1 : decode cX5_remembers 1 = .ok (.getfield 111, 3) := by decide +kernel
theorem dX5_remembers_4 : decode cX5_remembers 4 = .ok (.bipush 8, 2) := by decide +kernel
theorem dX5_remembers_6 : decode cX5_remembers 6 = .ok (.if_icmp .ne 43, 3) := by decide +kernel
theorem dX5_remembers_9 : decode cX5_remembers 9 = .ok (.iconst 0, 1) := by decide +kernel
theorem dX5_remembers_10 : decode cX5_remembers 10 = .ok (.istore_n 1, 1) := by decide +kernel
theorem dX5_remembers_11 : decode cX5_remembers 11 = .ok (.iload_n 1, 1) := by decide +kernel
theorem dX5_remembers_12 : decode cX5_remembers 12 = .ok (.sipush 427, 3) := by decide +kernel
theorem dX5_remembers_15 : decode cX5_remembers 15 = .ok (.if_icmp .ge 24, 3) := by decide +kernel
theorem dX5_remembers_18 : decode cX5_remembers 18 = .ok (.aload_n 0, 1) := by decide +kernel
theorem dX5_remembers_19 : decode cX5_remembers 19 = .ok (.getfield 16, 3) := by decide +kernel
theorem dX5_remembers_22 : decode cX5_remembers 22 = .ok (.iload_n 1, 1) := by decide +kernel
theorem dX5_remembers_23 : decode cX5_remembers 23 = .ok (.aload_n 0, 1) := by decide +kernel
theorem dX5_remembers_24 : decode cX5_remembers 24 = .ok (.getfield 16, 3) := by decide +kernel
theorem dX5_remembers_27 : decode cX5_remembers 27 = .ok (.iload_n 1, 1) := by decide +kernel
theorem dX5_remembers_28 : decode cX5_remembers 28 = .ok (.bipush 61, 2) := by decide +kernel
theorem dX5_remembers_30 : decode cX5_remembers 30 = .ok (.iadd, 1) := by decide +kernel
theorem dX5_remembers_31 : decode cX5_remembers 31 = .ok (.iaload, 1) := by decide +kernel
theorem dX5_remembers_32 : decode cX5_remembers 32 = .ok (.iastore, 1) := by decide +kernel
theorem dX5_remembers_33 : decode cX5_remembers 33 = .ok (.iinc 1 1, 3) := by decide +kernel
theorem dX5_remembers_36 : decode cX5_remembers 36 = .ok (.goto (-25), 3) := by decide +kernel
theorem dX5_remembers_39 : decode cX5_remembers 39 = .ok (.aload_n 0, 1) := by decide +kernel
theorem dX5_remembers_40 : decode cX5_remembers 40 = .ok (.dup, 1) := by decide +kernel
theorem dX5_remembers_41 : decode cX5_remembers 41 = .ok (.getfield 111, 3) := by decide +kernel
theorem dX5_remembers_44 : decode cX5_remembers 44 = .ok (.iconst 1, 1) := by decide +kernel
theorem dX5_remembers_45 : decode cX5_remembers 45 = .ok (.isub, 1) := by decide +kernel
theorem dX5_remembers_46 : decode cX5_remembers 46 = .ok (.putfield 111, 3) := by decide +kernel
theorem dX5_remembers_49 : decode cX5_remembers 49 = .ok (.aload_n 0, 1) := by decide +kernel
theorem dX5_remembers_50 : decode cX5_remembers 50 = .ok (.getfield 16, 3) := by decide +kernel
theorem dX5_remembers_53 : decode cX5_remembers 53 = .ok (.bipush 61, 2) := by decide +kernel
theorem dX5_remembers_55 : decode cX5_remembers 55 = .ok (.aload_n 0, 1) := by decide +kernel
theorem dX5_remembers_56 : decode cX5_remembers 56 = .ok (.getfield 111, 3) := by decide +kernel
theorem dX5_remembers_59 : decode cX5_remembers 59 = .ok (.imul, 1) := by decide +kernel
theorem dX5_remembers_60 : decode cX5_remembers 60 = .ok (.aload_n 0, 1) := by decide +kernel
theorem dX5_remembers_61 : decode cX5_remembers 61 = .ok (.getfield 13, 3) := by decide +kernel
theorem dX5_remembers_64 : decode cX5_remembers 64 = .ok (.iconst 0, 1) := by decide +kernel
theorem dX5_remembers_65 : decode cX5_remembers 65 = .ok (.invokestatic 107, 3) := by decide +kernel
theorem dX5_remembers_68 : decode cX5_remembers 68 = .ok (.aload_n 0, 1) := by decide +kernel
theorem dX5_remembers_69 : decode cX5_remembers 69 = .ok (.dup, 1) := by decide +kernel
theorem dX5_remembers_70 : decode cX5_remembers 70 = .ok (.getfield 111, 3) := by decide +kernel
theorem dX5_remembers_73 : decode cX5_remembers 73 = .ok (.iconst 1, 1) := by decide +kernel
theorem dX5_remembers_74 : decode cX5_remembers 74 = .ok (.iadd, 1) := by decide +kernel
theorem dX5_remembers_75 : decode cX5_remembers 75 = .ok (.putfield 111, 3) := by decide +kernel
theorem dX5_remembers_78 : decode cX5_remembers 78 = .ok (.return_, 1) := by decide +kernel
theorem dX5_set_0 : decode cX5_set 0 = .ok (.aload_n 0, 1) := by decide +kernel
theorem dX5_set_1 : decode cX5_set 1 = .ok (.iload_n 1, 1) := by decide +kernel
theorem dX5_set_2 : decode cX5_set 2 = .ok (.invokevirtual 137, 3) := by decide +kernel
theorem dX5_set_5 : decode cX5_set 5 = .ok (.ifCond .eq 29, 3) := by decide +kernel
theorem dX5_set_8 : decode cX5_set 8 = .ok (.aload_n 0, 1) := by decide +kernel
theorem dX5_set_9 : decode cX5_set 9 = .ok (.iload_n 2, 1) := by decide +kernel
theorem dX5_set_10 : decode cX5_set 10 = .ok (.invokevirtual 131, 3) := by decide +kernel
theorem dX5_set_13 : decode cX5_set 13 = .ok (.ifCond .eq 21, 3) := by decide +kernel
theorem dX5_set_16 : decode cX5_set 16 = .ok (.iload_n 3, 1) := by decide +kernel
theorem dX5_set_17 : decode cX5_set 17 = .ok (.invokestatic 134, 3) := by decide +kernel
theorem dX5_set_20 : decode cX5_set 20 = .ok (.ifCond .eq 14, 3) := by decide +kernel
theorem dX5_set_23 : decode cX5_set 23 = .ok (.iload 4, 2) := by decide +kernel
theorem dX5_set_25 : decode cX5_set 25 = .ok (.iconst 0, 1) := by decide +kernel
theorem dX5_set_26 : decode cX5_set 26 = .ok (.bipush 10, 2) := by decide +kernel
theorem dX5_set_28 : decode cX5_set 28 = .ok (.invokestatic 63, 3) := by decide +kernel
theorem dX5_set_31 : decode cX5_set 31 = .ok (.ifCond .ne 5, 3) := by decide +kernel
theorem dX5_set_34 : decode cX5_set 34 = .ok (.iconst (-1), 1) := by decide +kernel
theorem dX5_set_35 : decode cX5_set 35 = .ok (.ireturn, 1) := by decide +kernel
theorem dX5_set_36 : decode cX5_set 36 = .ok (.aload_n 0, 1) := by decide +kernel
theorem dX5_set_37 : decode cX5_set 37 = .ok (.invokevirtual 150, 3) := by decide +kernel
theorem dX5_set_40 : decode cX5_set 40 = .ok (.aload_n 0, 1) := by decide +kernel
theorem dX5_set_41 : decode cX5_set 41 = .ok (.invokevirtual 143, 3) := by decide +kernel
theorem dX5_set_44 : decode cX5_set 44 = .ok (.aload_n 0, 1) := by decide +kernel
theorem dX5_set_45 : decode cX5_set 45 = .ok (.iload_n 2, 1) := by decide +kernel
theorem dX5_set_46 : decode cX5_set 46 = .ok (.aload_n 0, 1) := by decide +kernel
theorem dX5_set_47 : decode cX5_set 47 = .ok (.getfield 37, 3) := by decide +kernel
theorem dX5_set_50 : decode cX5_set 50 = .ok (.iconst 0, 1) := by decide +kernel
theorem dX5_set_51 : decode cX5_set 51 = .ok (.iload_n 2, 1) := by decide +kernel
theorem dX5_set_52 : decode cX5_set 52 = .ok (.iadd, 1) := by decide +kernel
theorem dX5_set_53 : decode cX5_set 53 = .ok (.iaload, 1) := by decide +kernel
theorem dX5_set_54 : decode cX5_set 54 = .ok (.iload_n 3, 1) := by decide +kernel
theorem dX5_set_55 : decode cX5_set 55 = .ok (.iload 4, 2) := by decide +kernel
theorem dX5_set_57 : decode cX5_set 57 = .ok (.invokevirtual 146, 3) := by decide +kernel
theorem dX5_set_60 : decode cX5_set 60 = .ok (.istore 5, 2) := by decide +kernel
theorem dX5_set_62 : decode cX5_set 62 = .ok (.aload_n 0, 1) := by decide +kernel
theorem dX5_set_63 : decode cX5_set 63 = .ok (.getfield 13, 3) := by decide +kernel
theorem dX5_set_66 : decode cX5_set 66 = .ok (.bipush 36, 2) := by decide +kernel
theorem dX5_set_68 : decode cX5_set 68 = .ok (.iconst 5, 1) := by decide +kernel
theorem dX5_set_69 : decode cX5_set 69 = .ok (.iload_n 1, 1) := by decide +kernel
theorem dX5_set_70 : decode cX5_set 70 = .ok (.imul, 1) := by decide +kernel
theorem dX5_set_71 : decode cX5_set 71 = .ok (.iadd, 1) := by decide +kernel
theorem dX5_set_72 : decode cX5_set 72 = .ok (.iload_n 3, 1) := by decide +kernel
theorem dX5_set_73 : decode cX5_set 73 = .ok (.iadd, 1) := by decide +kernel
theorem dX5_set_74 : decode cX5_set 74 = .ok (.iload 5, 2) := by decide +kernel
theorem dX5_set_76 : decode cX5_set 76 = .ok (.bipush 10, 2) := by decide +kernel
theorem dX5_set_78 : decode cX5_set 78 = .ok (.iadd, 1) := by decide +kernel
theorem dX5_set_79 : decode cX5_set 79 = .ok (.iastore, 1) := by decide +kernel
theorem dX5_set_80 : decode cX5_set 80 = .ok (.iload 5, 2) := by decide +kernel
theorem dX5_set_82 : decode cX5_set 82 = .ok (.bipush 9, 2) := by decide +kernel
theorem dX5_set_84 : decode cX5_set 84 = .ok (.iadd, 1) := by decide +kernel
theorem dX5_set_85 : decode cX5_set 85 = .ok (.ireturn, 1) := by decide +kernel
theorem dX5_erase_0 : decode cX5_erase 0 = .ok (.aload_n 0, 1) := by decide +kernel
theorem dX5_erase_1 : decode cX5_erase 1 = .ok (.iload_n 1, 1) := by decide +kernel
theorem dX5_erase_2 : decode cX5_erase 2 = .ok (.invokevirtual 137, 3) := by decide +kernel
theorem dX5_erase_5 : decode cX5_erase 5 = .ok (.ifCond .eq 18, 3) := by decide +kernel
theorem dX5_erase_8 : decode cX5_erase 8 = .ok (.aload_n 0, 1) := by decide +kernel
theorem dX5_erase_9 : decode cX5_erase 9 = .ok (.iload_n 2, 1) := by decide +kernel
theorem dX5_erase_10 : decode cX5_erase 10 = .ok (.invokevirtual 131, 3) := by decide +kernel
theorem dX5_erase_13 : decode cX5_erase 13 = .ok (.ifCond .eq 10, 3) := by decide +kernel
theorem dX5_erase_16 : decode cX5_erase 16 = .ok (.iload_n 3, 1) := by decide +kernel
theorem dX5_erase_17 : decode cX5_erase 17 = .ok (.invokestatic 134, 3) := by decide +kernel
theorem dX5_erase_20 : decode cX5_erase 20 = .ok (.ifCond .ne 5, 3) := by decide +kernel
theorem dX5_erase_23 : decode cX5_erase 23 = .ok (.iconst (-1), 1) := by decide +kernel
theorem dX5_erase_24 : decode cX5_erase 24 = .ok (.ireturn, 1) := by decide +kernel
theorem dX5_erase_25 : decode cX5_erase 25 = .ok (.aload_n 0, 1) := by decide +kernel
theorem dX5_erase_26 : decode cX5_erase 26 = .ok (.getfield 13, 3) := by decide +kernel
theorem dX5_erase_29 : decode cX5_erase 29 = .ok (.bipush 36, 2) := by decide +kernel
theorem dX5_erase_31 : decode cX5_erase 31 = .ok (.iconst 5, 1) := by decide +kernel
theorem dX5_erase_32 : decode cX5_erase 32 = .ok (.iload_n 1, 1) := by decide +kernel
theorem dX5_erase_33 : decode cX5_erase 33 = .ok (.imul, 1) := by decide +kernel
theorem dX5_erase_34 : decode cX5_erase 34 = .ok (.iadd, 1) := by decide +kernel
theorem dX5_erase_35 : decode cX5_erase 35 = .ok (.iload_n 3, 1) := by decide +kernel
theorem dX5_erase_36 : decode cX5_erase 36 = .ok (.iadd, 1) := by decide +kernel
theorem dX5_erase_37 : decode cX5_erase 37 = .ok (.iaload, 1) := by decide +kernel
theorem dX5_erase_38 : decode cX5_erase 38 = .ok (.istore 4, 2) := by decide +kernel
theorem dX5_erase_40 : decode cX5_erase 40 = .ok (.iload 4, 2) := by decide +kernel
theorem dX5_erase_42 : decode cX5_erase 42 = .ok (.ifCond .ne 6, 3) := by decide +kernel
theorem dX5_erase_45 : decode cX5_erase 45 = .ok (.bipush (-2), 2) := by decide +kernel
theorem dX5_erase_47 : decode cX5_erase 47 = .ok (.ireturn, 1) := by decide +kernel
theorem dX5_erase_48 : decode cX5_erase 48 = .ok (.aload_n 0, 1) := by decide +kernel
theorem dX5_erase_49 : decode cX5_erase 49 = .ok (.invokevirtual 150, 3) := by decide +kernel
theorem dX5_erase_52 : decode cX5_erase 52 = .ok (.aload_n 0, 1) := by decide +kernel
theorem dX5_erase_53 : decode cX5_erase 53 = .ok (.getfield 13, 3) := by decide +kernel
theorem dX5_erase_56 : decode cX5_erase 56 = .ok (.bipush 36, 2) := by decide +kernel
theorem dX5_erase_58 : decode cX5_erase 58 = .ok (.iconst 5, 1) := by decide +kernel
theorem dX5_erase_59 : decode cX5_erase 59 = .ok (.iload_n 1, 1) := by decide +kernel
theorem dX5_erase_60 : decode cX5_erase 60 = .ok (.imul, 1) := by decide +kernel
theorem dX5_erase_61 : decode cX5_erase 61 = .ok (.iadd, 1) := by decide +kernel
theorem dX5_erase_62 : decode cX5_erase 62 = .ok (.iload_n 3, 1) := by decide +kernel
theorem dX5_erase_63 : decode cX5_erase 63 = .ok (.iadd, 1) := by decide +kernel
theorem dX5_erase_64 : decode cX5_erase 64 = .ok (.aload_n 0, 1) := by decide +kernel
theorem dX5_erase_65 : decode cX5_erase 65 = .ok (.getfield 13, 3) := by decide +kernel
theorem dX5_erase_68 : decode cX5_erase 68 = .ok (.bipush 6, 2) := by decide +kernel
theorem dX5_erase_70 : decode cX5_erase 70 = .ok (.iconst 5, 1) := by decide +kernel
theorem dX5_erase_71 : decode cX5_erase 71 = .ok (.iload_n 2, 1) := by decide +kernel
theorem dX5_erase_72 : decode cX5_erase 72 = .ok (.imul, 1) := by decide +kernel
theorem dX5_erase_73 : decode cX5_erase 73 = .ok (.iadd, 1) := by decide +kernel
theorem dX5_erase_74 : decode cX5_erase 74 = .ok (.iload_n 3, 1) := by decide +kernel
theorem dX5_erase_75 : decode cX5_erase 75 = .ok (.iadd, 1) := by decide +kernel
theorem dX5_erase_76 : decode cX5_erase 76 = .ok (.iaload, 1) := by decide +kernel
theorem dX5_erase_77 : decode cX5_erase 77 = .ok (.bipush 10, 2) := by decide +kernel
theorem dX5_erase_79 : decode cX5_erase 79 = .ok (.iadd, 1) := by decide +kernel
theorem dX5_erase_80 : decode cX5_erase 80 = .ok (.iastore, 1) := by decide +kernel
theorem dX5_erase_81 : decode cX5_erase 81 = .ok (.iload 4, 2) := by decide +kernel
theorem dX5_erase_83 : decode cX5_erase 83 = .ok (.invokestatic 140, 3) := by decide +kernel
theorem dX5_erase_86 : decode cX5_erase 86 = .ok (.ireturn, 1) := by decide +kernel
theorem dX5_filled_0 : decode cX5_filled 0 = .ok (.iconst 0, 1) := by decide +kernel
theorem dX5_filled_1 : decode cX5_filled 1 = .ok (.istore_n 2, 1) := by decide +kernel
theorem dX5_filled_2 : decode cX5_filled 2 = .ok (.iconst 0, 1) := by decide +kernel
theorem dX5_filled_3 : decode cX5_filled 3 = .ok (.istore_n 3, 1) := by decide +kernel
theorem dX5_filled_4 : decode cX5_filled 4 = .ok (.iload_n 3, 1) := by decide +kernel
theorem dX5_filled_5 : decode cX5_filled 5 = .ok (.iconst 5, 1) := by decide +kernel
theorem dX5_filled_6 : decode cX5_filled 6 = .ok (.if_icmp .ge 33, 3) := by decide +kernel
theorem dX5_filled_9 : decode cX5_filled 9 = .ok (.iload_n 2, 1) := by decide +kernel
theorem dX5_filled_10 : decode cX5_filled 10 = .ok (.aload_n 0, 1) := by decide +kernel
theorem dX5_filled_11 : decode cX5_filled 11 = .ok (.getfield 37, 3) := by decide +kernel
theorem dX5_filled_14 : decode cX5_filled 14 = .ok (.bipush 36, 2) := by decide +kernel
theorem dX5_filled_16 : decode cX5_filled 16 = .ok (.iconst 5, 1) := by decide +kernel
theorem dX5_filled_17 : decode cX5_filled 17 = .ok (.iload_n 1, 1) := by decide +kernel
theorem dX5_filled_18 : decode cX5_filled 18 = .ok (.imul, 1) := by decide +kernel
theorem dX5_filled_19 : decode cX5_filled 19 = .ok (.iadd, 1) := by decide +kernel
theorem dX5_filled_20 : decode cX5_filled 20 = .ok (.iload_n 3, 1) := by decide +kernel
theorem dX5_filled_21 : decode cX5_filled 21 = .ok (.iadd, 1) := by decide +kernel
theorem dX5_filled_22 : decode cX5_filled 22 = .ok (.iaload, 1) := by decide +kernel
theorem dX5_filled_23 : decode cX5_filled 23 = .ok (.ifCond .ne 7, 3) := by decide +kernel
theorem dX5_filled_26 : decode cX5_filled 26 = .ok (.iconst 0, 1) := by decide +kernel
theorem dX5_filled_27 : decode cX5_filled 27 = .ok (.goto 4, 3) := by decide +kernel
theorem dX5_filled_30 : decode cX5_filled 30 = .ok (.iconst 1, 1) := by decide +kernel
theorem dX5_filled_31 : decode cX5_filled 31 = .ok (.iadd, 1) := by decide +kernel
theorem dX5_filled_32 : decode cX5_filled 32 = .ok (.istore_n 2, 1) := by decide +kernel
theorem dX5_filled_33 : decode cX5_filled 33 = .ok (.iinc 3 1, 3) := by decide +kernel
theorem dX5_filled_36 : decode cX5_filled 36 = .ok (.goto (-32), 3) := by decide +kernel
theorem dX5_filled_39 : decode cX5_filled 39 = .ok (.iload_n 2, 1) := by decide +kernel
theorem dX5_filled_40 : decode cX5_filled 40 = .ok (.ireturn, 1) := by decide +kernel
theorem dX5_copy_0 : decode cX5_copy 0 = .ok (.aload_n 0, 1) := by decide +kernel
theorem dX5_copy_1 : decode cX5_copy 1 = .ok (.iload_n 1, 1) := by decide +kernel
theorem dX5_copy_2 : decode cX5_copy 2 = .ok (.invokevirtual 137, 3) := by decide +kernel
theorem dX5_copy_5 : decode cX5_copy 5 = .ok (.ifCond .eq 24, 3) := by decide +kernel
theorem dX5_copy_8 : decode cX5_copy 8 = .ok (.aload_n 0, 1) := by decide +kernel
theorem dX5_copy_9 : decode cX5_copy 9 = .ok (.iload_n 2, 1) := by decide +kernel
theorem dX5_copy_10 : decode cX5_copy 10 = .ok (.invokevirtual 137, 3) := by decide +kernel
theorem dX5_copy_13 : decode cX5_copy 13 = .ok (.ifCond .eq 16, 3) := by decide +kernel
theorem dX5_copy_16 : decode cX5_copy 16 = .ok (.iload_n 1, 1) := by decide +kernel
theorem dX5_copy_17 : decode cX5_copy 17 = .ok (.iload_n 2, 1) := by decide +kernel
theorem dX5_copy_18 : decode cX5_copy 18 = .ok (.if_icmp .eq 11, 3) := by decide +kernel
theorem dX5_copy_21 : decode cX5_copy 21 = .ok (.aload_n 0, 1) := by decide +kernel
theorem dX5_copy_22 : decode cX5_copy 22 = .ok (.iload_n 3, 1) := by decide +kernel
theorem dX5_copy_23 : decode cX5_copy 23 = .ok (.invokevirtual 131, 3) := by decide +kernel
theorem dX5_copy_26 : decode cX5_copy 26 = .ok (.ifCond .ne 5, 3) := by decide +kernel
theorem dX5_copy_29 : decode cX5_copy 29 = .ok (.iconst (-1), 1) := by decide +kernel
theorem dX5_copy_30 : decode cX5_copy 30 = .ok (.ireturn, 1) := by decide +kernel
theorem dX5_copy_31 : decode cX5_copy 31 = .ok (.aload_n 0, 1) := by decide +kernel
theorem dX5_copy_32 : decode cX5_copy 32 = .ok (.invokevirtual 150, 3) := by decide +kernel
theorem dX5_copy_35 : decode cX5_copy 35 = .ok (.aload_n 0, 1) := by decide +kernel
theorem dX5_copy_36 : decode cX5_copy 36 = .ok (.invokevirtual 143, 3) := by decide +kernel
theorem dX5_copy_39 : decode cX5_copy 39 = .ok (.aload_n 0, 1) := by decide +kernel
theorem dX5_copy_40 : decode cX5_copy 40 = .ok (.iload_n 1, 1) := by decide +kernel
theorem dX5_copy_41 : decode cX5_copy 41 = .ok (.iload_n 2, 1) := by decide +kernel
theorem dX5_copy_42 : decode cX5_copy 42 = .ok (.iload_n 3, 1) := by decide +kernel
theorem dX5_copy_43 : decode cX5_copy 43 = .ok (.invokevirtual 153, 3) := by decide +kernel
theorem dX5_copy_46 : decode cX5_copy 46 = .ok (.aload_n 0, 1) := by decide +kernel
theorem dX5_copy_47 : decode cX5_copy 47 = .ok (.getfield 13, 3) := by decide +kernel
theorem dX5_copy_50 : decode cX5_copy 50 = .ok (.iconst 0, 1) := by decide +kernel
theorem dX5_copy_51 : decode cX5_copy 51 = .ok (.aload_n 0, 1) := by decide +kernel
theorem dX5_copy_52 : decode cX5_copy 52 = .ok (.getfield 37, 3) := by decide +kernel
theorem dX5_copy_55 : decode cX5_copy 55 = .ok (.iconst 0, 1) := by decide +kernel
theorem dX5_copy_56 : decode cX5_copy 56 = .ok (.invokestatic 107, 3) := by decide +kernel
theorem dX5_copy_59 : decode cX5_copy 59 = .ok (.aload_n 0, 1) := by decide +kernel
theorem dX5_copy_60 : decode cX5_copy 60 = .ok (.iload_n 2, 1) := by decide +kernel
theorem dX5_copy_61 : decode cX5_copy 61 = .ok (.invokevirtual 157, 3) := by decide +kernel
theorem dX5_copy_64 : decode cX5_copy 64 = .ok (.ireturn, 1) := by decide +kernel
theorem dX5_think_0 : decode cX5_think 0 = .ok (.aload_n 0, 1) := by decide +kernel
theorem dX5_think_1 : decode cX5_think 1 = .ok (.iload_n 1, 1) := by decide +kernel
theorem dX5_think_2 : decode cX5_think 2 = .ok (.invokevirtual 131, 3) := by decide +kernel
theorem dX5_think_5 : decode cX5_think 5 = .ok (.ifCond .eq 20, 3) := by decide +kernel
theorem dX5_think_8 : decode cX5_think 8 = .ok (.iload_n 2, 1) := by decide +kernel
theorem dX5_think_9 : decode cX5_think 9 = .ok (.invokestatic 134, 3) := by decide +kernel
theorem dX5_think_12 : decode cX5_think 12 = .ok (.ifCond .eq 13, 3) := by decide +kernel
theorem dX5_think_15 : decode cX5_think 15 = .ok (.iload_n 3, 1) := by decide +kernel
theorem dX5_think_16 : decode cX5_think 16 = .ok (.iconst 0, 1) := by decide +kernel
theorem dX5_think_17 : decode cX5_think 17 = .ok (.bipush 18, 2) := by decide +kernel
theorem dX5_think_19 : decode cX5_think 19 = .ok (.invokestatic 63, 3) := by decide +kernel
theorem dX5_think_22 : decode cX5_think 22 = .ok (.ifCond .ne 5, 3) := by decide +kernel
theorem dX5_think_25 : decode cX5_think 25 = .ok (.iconst (-1), 1) := by decide +kernel
theorem dX5_think_26 : decode cX5_think 26 = .ok (.ireturn, 1) := by decide +kernel
theorem dX5_think_27 : decode cX5_think 27 = .ok (.aload_n 0, 1) := by decide +kernel
theorem dX5_think_28 : decode cX5_think 28 = .ok (.invokevirtual 150, 3) := by decide +kernel
theorem dX5_think_31 : decode cX5_think 31 = .ok (.aload_n 0, 1) := by decide +kernel
theorem dX5_think_32 : decode cX5_think 32 = .ok (.getfield 13, 3) := by decide +kernel
theorem dX5_think_35 : decode cX5_think 35 = .ok (.bipush 6, 2) := by decide +kernel
theorem dX5_think_37 : decode cX5_think 37 = .ok (.iconst 5, 1) := by decide +kernel
theorem dX5_think_38 : decode cX5_think 38 = .ok (.iload_n 1, 1) := by decide +kernel
theorem dX5_think_39 : decode cX5_think 39 = .ok (.imul, 1) := by decide +kernel
theorem dX5_think_40 : decode cX5_think 40 = .ok (.iadd, 1) := by decide +kernel
theorem dX5_think_41 : decode cX5_think 41 = .ok (.iload_n 2, 1) := by decide +kernel
theorem dX5_think_42 : decode cX5_think 42 = .ok (.iadd, 1) := by decide +kernel
theorem dX5_think_43 : decode cX5_think 43 = .ok (.iaload, 1) := by decide +kernel
theorem dX5_think_44 : decode cX5_think 44 = .ok (.istore 4, 2) := by decide +kernel
theorem dX5_think_46 : decode cX5_think 46 = .ok (.aload_n 0, 1) := by decide +kernel
theorem dX5_think_47 : decode cX5_think 47 = .ok (.getfield 13, 3) := by decide +kernel
theorem dX5_think_50 : decode cX5_think 50 = .ok (.bipush 6, 2) := by decide +kernel
theorem dX5_think_52 : decode cX5_think 52 = .ok (.iconst 5, 1) := by decide +kernel
theorem dX5_think_53 : decode cX5_think 53 = .ok (.iload_n 1, 1) := by decide +kernel
theorem dX5_think_54 : decode cX5_think 54 = .ok (.imul, 1) := by decide +kernel
theorem dX5_think_55 : decode cX5_think 55 = .ok (.iadd, 1) := by decide +kernel
theorem dX5_think_56 : decode cX5_think 56 = .ok (.iload_n 2, 1) := by decide +kernel
theorem dX5_think_57 : decode cX5_think 57 = .ok (.iadd, 1) := by decide +kernel
theorem dX5_think_58 : decode cX5_think 58 = .ok (.iload_n 3, 1) := by decide +kernel
theorem dX5_think_59 : decode cX5_think 59 = .ok (.bipush 9, 2) := by decide +kernel
theorem dX5_think_61 : decode cX5_think 61 = .ok (.isub, 1) := by decide +kernel
theorem dX5_think_62 : decode cX5_think 62 = .ok (.iastore, 1) := by decide +kernel
theorem dX5_think_63 : decode cX5_think 63 = .ok (.iload 4, 2) := by decide +kernel
theorem dX5_think_65 : decode cX5_think 65 = .ok (.bipush 9, 2) := by decide +kernel
theorem dX5_think_67 : decode cX5_think 67 = .ok (.iadd, 1) := by decide +kernel
theorem dX5_think_68 : decode cX5_think 68 = .ok (.ireturn, 1) := by decide +kernel
theorem dX5_mind_0 : decode cX5_mind 0 = .ok (.aload_n 0, 1) := by decide +kernel
theorem dX5_mind_1 : decode cX5_mind 1 = .ok (.iload_n 1, 1) := by decide +kernel
theorem dX5_mind_2 : decode cX5_mind 2 = .ok (.invokevirtual 131, 3) := by decide +kernel
theorem dX5_mind_5 : decode cX5_mind 5 = .ok (.ifCond .eq 11, 3) := by decide +kernel
theorem dX5_mind_8 : decode cX5_mind 8 = .ok (.aload_n 0, 1) := by decide +kernel
theorem dX5_mind_9 : decode cX5_mind 9 = .ok (.iload_n 2, 1) := by decide +kernel
theorem dX5_mind_10 : decode cX5_mind 10 = .ok (.invokevirtual 131, 3) := by decide +kernel
theorem dX5_mind_13 : decode cX5_mind 13 = .ok (.ifCond .ne 5, 3) := by decide +kernel
theorem dX5_mind_16 : decode cX5_mind 16 = .ok (.iconst (-1), 1) := by decide +kernel
theorem dX5_mind_17 : decode cX5_mind 17 = .ok (.ireturn, 1) := by decide +kernel
theorem dX5_mind_18 : decode cX5_mind 18 = .ok (.aload_n 0, 1) := by decide +kernel
theorem dX5_mind_19 : decode cX5_mind 19 = .ok (.invokevirtual 150, 3) := by decide +kernel
theorem dX5_mind_22 : decode cX5_mind 22 = .ok (.aload_n 0, 1) := by decide +kernel
theorem dX5_mind_23 : decode cX5_mind 23 = .ok (.getfield 13, 3) := by decide +kernel
theorem dX5_mind_26 : decode cX5_mind 26 = .ok (.iconst 0, 1) := by decide +kernel
theorem dX5_mind_27 : decode cX5_mind 27 = .ok (.iload_n 1, 1) := by decide +kernel
theorem dX5_mind_28 : decode cX5_mind 28 = .ok (.iadd, 1) := by decide +kernel
theorem dX5_mind_29 : decode cX5_mind 29 = .ok (.iaload, 1) := by decide +kernel
theorem dX5_mind_30 : decode cX5_mind 30 = .ok (.istore_n 3, 1) := by decide +kernel
theorem dX5_mind_31 : decode cX5_mind 31 = .ok (.aload_n 0, 1) := by decide +kernel
theorem dX5_mind_32 : decode cX5_mind 32 = .ok (.getfield 13, 3) := by decide +kernel
theorem dX5_mind_35 : decode cX5_mind 35 = .ok (.iconst 0, 1) := by decide +kernel
theorem dX5_mind_36 : decode cX5_mind 36 = .ok (.iload_n 1, 1) := by decide +kernel
theorem dX5_mind_37 : decode cX5_mind 37 = .ok (.iadd, 1) := by decide +kernel
theorem dX5_mind_38 : decode cX5_mind 38 = .ok (.iload_n 2, 1) := by decide +kernel
theorem dX5_mind_39 : decode cX5_mind 39 = .ok (.iastore, 1) := by decide +kernel
theorem dX5_mind_40 : decode cX5_mind 40 = .ok (.iload_n 3, 1) := by decide +kernel
theorem dX5_mind_41 : decode cX5_mind 41 = .ok (.ireturn, 1) := by decide +kernel
theorem dX5_undo_0 : decode cX5_undo 0 = .ok (.aload_n 0, 1) := by decide +kernel
theorem dX5_undo_1 : decode cX5_undo 1 = .ok (.getfield 111, 3) := by decide +kernel
theorem dX5_undo_4 : decode cX5_undo 4 = .ok (.ifCond .ne 6, 3) := by decide +kernel
theorem dX5_undo_7 : decode cX5_undo 7 = .ok (.bipush (-2), 2) := by decide +kernel
theorem dX5_undo_9 : decode cX5_undo 9 = .ok (.ireturn, 1) := by decide +kernel
theorem dX5_undo_10 : decode cX5_undo 10 = .ok (.aload_n 0, 1) := by decide +kernel
theorem dX5_undo_11 : decode cX5_undo 11 = .ok (.dup, 1) := by decide +kernel
theorem dX5_undo_12 : decode cX5_undo 12 = .ok (.getfield 111, 3) := by decide +kernel
theorem dX5_undo_15 : decode cX5_undo 15 = .ok (.iconst 1, 1) := by decide +kernel
theorem dX5_undo_16 : decode cX5_undo 16 = .ok (.isub, 1) := by decide +kernel
theorem dX5_undo_17 : decode cX5_undo 17 = .ok (.putfield 111, 3) := by decide +kernel
theorem dX5_undo_20 : decode cX5_undo 20 = .ok (.aload_n 0, 1) := by decide +kernel
theorem dX5_undo_21 : decode cX5_undo 21 = .ok (.getfield 13, 3) := by decide +kernel
theorem dX5_undo_24 : decode cX5_undo 24 = .ok (.iconst 0, 1) := by decide +kernel
theorem dX5_undo_25 : decode cX5_undo 25 = .ok (.aload_n 0, 1) := by decide +kernel
theorem dX5_undo_26 : decode cX5_undo 26 = .ok (.getfield 16, 3) := by decide +kernel
theorem dX5_undo_29 : decode cX5_undo 29 = .ok (.bipush 61, 2) := by decide +kernel
theorem dX5_undo_31 : decode cX5_undo 31 = .ok (.aload_n 0, 1) := by decide +kernel
theorem dX5_undo_32 : decode cX5_undo 32 = .ok (.getfield 111, 3) := by decide +kernel
theorem dX5_undo_35 : decode cX5_undo 35 = .ok (.imul, 1) := by decide +kernel
theorem dX5_undo_36 : decode cX5_undo 36 = .ok (.invokestatic 107, 3) := by decide +kernel
theorem dX5_undo_39 : decode cX5_undo 39 = .ok (.aload_n 0, 1) := by decide +kernel
theorem dX5_undo_40 : decode cX5_undo 40 = .ok (.getfield 111, 3) := by decide +kernel
theorem dX5_undo_43 : decode cX5_undo 43 = .ok (.ireturn, 1) := by decide +kernel
theorem dX5_ownOf_0 : decode cX5_ownOf 0 = .ok (.iconst 0, 1) := by decide +kernel
theorem dX5_ownOf_1 : decode cX5_ownOf 1 = .ok (.istore_n 3, 1) := by decide +kernel
theorem dX5_ownOf_2 : decode cX5_ownOf 2 = .ok (.iconst 0, 1) := by decide +kernel
theorem dX5_ownOf_3 : decode cX5_ownOf 3 = .ok (.istore 4, 2) := by decide +kernel
theorem dX5_ownOf_5 : decode cX5_ownOf 5 = .ok (.iload 4, 2) := by decide +kernel
theorem dX5_ownOf_7 : decode cX5_ownOf 7 = .ok (.iconst 5, 1) := by decide +kernel
theorem dX5_ownOf_8 : decode cX5_ownOf 8 = .ok (.if_icmp .ge 54, 3) := by decide +kernel
theorem dX5_ownOf_11 : decode cX5_ownOf 11 = .ok (.iload_n 3, 1) := by decide +kernel
theorem dX5_ownOf_12 : decode cX5_ownOf 12 = .ok (.aload_n 0, 1) := by decide +kernel
theorem dX5_ownOf_13 : decode cX5_ownOf 13 = .ok (.getfield 13, 3) := by decide +kernel
theorem dX5_ownOf_16 : decode cX5_ownOf 16 = .ok (.bipush 36, 2) := by decide +kernel
theorem dX5_ownOf_18 : decode cX5_ownOf 18 = .ok (.iconst 5, 1) := by decide +kernel
theorem dX5_ownOf_19 : decode cX5_ownOf 19 = .ok (.iload_n 1, 1) := by decide +kernel
theorem dX5_ownOf_20 : decode cX5_ownOf 20 = .ok (.imul, 1) := by decide +kernel
theorem dX5_ownOf_21 : decode cX5_ownOf 21 = .ok (.iadd, 1) := by decide +kernel
theorem dX5_ownOf_22 : decode cX5_ownOf 22 = .ok (.iload 4, 2) := by decide +kernel
theorem dX5_ownOf_24 : decode cX5_ownOf 24 = .ok (.iadd, 1) := by decide +kernel
theorem dX5_ownOf_25 : decode cX5_ownOf 25 = .ok (.iaload, 1) := by decide +kernel
theorem dX5_ownOf_26 : decode cX5_ownOf 26 = .ok (.aload_n 0, 1) := by decide +kernel
theorem dX5_ownOf_27 : decode cX5_ownOf 27 = .ok (.getfield 13, 3) := by decide +kernel
theorem dX5_ownOf_30 : decode cX5_ownOf 30 = .ok (.bipush 6, 2) := by decide +kernel
theorem dX5_ownOf_32 : decode cX5_ownOf 32 = .ok (.iconst 5, 1) := by decide +kernel
theorem dX5_ownOf_33 : decode cX5_ownOf 33 = .ok (.iload_n 2, 1) := by decide +kernel
theorem dX5_ownOf_34 : decode cX5_ownOf 34 = .ok (.imul, 1) := by decide +kernel
theorem dX5_ownOf_35 : decode cX5_ownOf 35 = .ok (.iadd, 1) := by decide +kernel
theorem dX5_ownOf_36 : decode cX5_ownOf 36 = .ok (.iload 4, 2) := by decide +kernel
theorem dX5_ownOf_38 : decode cX5_ownOf 38 = .ok (.iadd, 1) := by decide +kernel
theorem dX5_ownOf_39 : decode cX5_ownOf 39 = .ok (.iaload, 1) := by decide +kernel
theorem dX5_ownOf_40 : decode cX5_ownOf 40 = .ok (.bipush 10, 2) := by decide +kernel
theorem dX5_ownOf_42 : decode cX5_ownOf 42 = .ok (.iadd, 1) := by decide +kernel
theorem dX5_ownOf_43 : decode cX5_ownOf 43 = .ok (.if_icmp .ne 10, 3) := by decide +kernel
theorem dX5_ownOf_46 : decode cX5_ownOf 46 = .ok (.iconst 1, 1) := by decide +kernel
theorem dX5_ownOf_47 : decode cX5_ownOf 47 = .ok (.iload 4, 2) := by decide +kernel
theorem dX5_ownOf_49 : decode cX5_ownOf 49 = .ok (.ishl, 1) := by decide +kernel
theorem dX5_ownOf_50 : decode cX5_ownOf 50 = .ok (.goto 4, 3) := by decide +kernel
theorem dX5_ownOf_53 : decode cX5_ownOf 53 = .ok (.iconst 0, 1) := by decide +kernel
theorem dX5_ownOf_54 : decode cX5_ownOf 54 = .ok (.ior, 1) := by decide +kernel
theorem dX5_ownOf_55 : decode cX5_ownOf 55 = .ok (.istore_n 3, 1) := by decide +kernel
theorem dX5_ownOf_56 : decode cX5_ownOf 56 = .ok (.iinc 4 1, 3) := by decide +kernel
theorem dX5_ownOf_59 : decode cX5_ownOf 59 = .ok (.goto (-54), 3) := by decide +kernel
theorem dX5_ownOf_62 : decode cX5_ownOf 62 = .ok (.iload_n 3, 1) := by decide +kernel
theorem dX5_ownOf_63 : decode cX5_ownOf 63 = .ok (.ireturn, 1) := by decide +kernel
theorem dX5_own_0 : decode cX5_own 0 = .ok (.aload_n 0, 1) := by decide +kernel
theorem dX5_own_1 : decode cX5_own 1 = .ok (.iload_n 1, 1) := by decide +kernel
theorem dX5_own_2 : decode cX5_own 2 = .ok (.invokevirtual 137, 3) := by decide +kernel
theorem dX5_own_5 : decode cX5_own 5 = .ok (.ifCond .eq 20, 3) := by decide +kernel
theorem dX5_own_8 : decode cX5_own 8 = .ok (.aload_n 0, 1) := by decide +kernel
theorem dX5_own_9 : decode cX5_own 9 = .ok (.iload_n 2, 1) := by decide +kernel
theorem dX5_own_10 : decode cX5_own 10 = .ok (.invokevirtual 131, 3) := by decide +kernel
theorem dX5_own_13 : decode cX5_own 13 = .ok (.ifCond .eq 12, 3) := by decide +kernel
theorem dX5_own_16 : decode cX5_own 16 = .ok (.aload_n 0, 1) := by decide +kernel
theorem dX5_own_17 : decode cX5_own 17 = .ok (.iload_n 1, 1) := by decide +kernel
theorem dX5_own_18 : decode cX5_own 18 = .ok (.iload_n 2, 1) := by decide +kernel
theorem dX5_own_19 : decode cX5_own 19 = .ok (.invokevirtual 160, 3) := by decide +kernel
theorem dX5_own_22 : decode cX5_own 22 = .ok (.goto 4, 3) := by decide +kernel
theorem dX5_own_25 : decode cX5_own 25 = .ok (.iconst (-1), 1) := by decide +kernel
theorem dX5_own_26 : decode cX5_own 26 = .ok (.ireturn, 1) := by decide +kernel
theorem dX5_tears_0 : decode cX5_tears 0 = .ok (.aload_n 0, 1) := by decide +kernel
theorem dX5_tears_1 : decode cX5_tears 1 = .ok (.iload_n 1, 1) := by decide +kernel
theorem dX5_tears_2 : decode cX5_tears 2 = .ok (.invokevirtual 131, 3) := by decide +kernel
theorem dX5_tears_5 : decode cX5_tears 5 = .ok (.ifCond .eq 20, 3) := by decide +kernel
theorem dX5_tears_8 : decode cX5_tears 8 = .ok (.iload_n 2, 1) := by decide +kernel
theorem dX5_tears_9 : decode cX5_tears 9 = .ok (.invokestatic 134, 3) := by decide +kernel
theorem dX5_tears_12 : decode cX5_tears 12 = .ok (.ifCond .eq 13, 3) := by decide +kernel
theorem dX5_tears_15 : decode cX5_tears 15 = .ok (.iload_n 3, 1) := by decide +kernel
theorem dX5_tears_16 : decode cX5_tears 16 = .ok (.iconst 0, 1) := by decide +kernel
theorem dX5_tears_17 : decode cX5_tears 17 = .ok (.bipush 18, 2) := by decide +kernel
theorem dX5_tears_19 : decode cX5_tears 19 = .ok (.invokestatic 63, 3) := by decide +kernel
theorem dX5_tears_22 : decode cX5_tears 22 = .ok (.ifCond .ne 5, 3) := by decide +kernel
theorem dX5_tears_25 : decode cX5_tears 25 = .ok (.iconst (-1), 1) := by decide +kernel
theorem dX5_tears_26 : decode cX5_tears 26 = .ok (.ireturn, 1) := by decide +kernel
theorem dX5_tears_27 : decode cX5_tears 27 = .ok (.aload_n 0, 1) := by decide +kernel
theorem dX5_tears_28 : decode cX5_tears 28 = .ok (.invokevirtual 143, 3) := by decide +kernel
theorem dX5_tears_31 : decode cX5_tears 31 = .ok (.iconst 0, 1) := by decide +kernel
theorem dX5_tears_32 : decode cX5_tears 32 = .ok (.istore 4, 2) := by decide +kernel
theorem dX5_tears_34 : decode cX5_tears 34 = .ok (.iload 4, 2) := by decide +kernel
theorem dX5_tears_36 : decode cX5_tears 36 = .ok (.bipush 10, 2) := by decide +kernel
theorem dX5_tears_38 : decode cX5_tears 38 = .ok (.if_icmp .gt 35, 3) := by decide +kernel
theorem dX5_tears_41 : decode cX5_tears 41 = .ok (.aload_n 0, 1) := by decide +kernel
theorem dX5_tears_42 : decode cX5_tears 42 = .ok (.iload_n 1, 1) := by decide +kernel
theorem dX5_tears_43 : decode cX5_tears 43 = .ok (.aload_n 0, 1) := by decide +kernel
theorem dX5_tears_44 : decode cX5_tears 44 = .ok (.getfield 37, 3) := by decide +kernel
theorem dX5_tears_47 : decode cX5_tears 47 = .ok (.iconst 0, 1) := by decide +kernel
theorem dX5_tears_48 : decode cX5_tears 48 = .ok (.iload_n 1, 1) := by decide +kernel
theorem dX5_tears_49 : decode cX5_tears 49 = .ok (.iadd, 1) := by decide +kernel
theorem dX5_tears_50 : decode cX5_tears 50 = .ok (.iaload, 1) := by decide +kernel
theorem dX5_tears_51 : decode cX5_tears 51 = .ok (.iload_n 2, 1) := by decide +kernel
theorem dX5_tears_52 : decode cX5_tears 52 = .ok (.iload 4, 2) := by decide +kernel
theorem dX5_tears_54 : decode cX5_tears 54 = .ok (.invokevirtual 146, 3) := by decide +kernel
theorem dX5_tears_57 : decode cX5_tears 57 = .ok (.iload_n 3, 1) := by decide +kernel
theorem dX5_tears_58 : decode cX5_tears 58 = .ok (.bipush 9, 2) := by decide +kernel
theorem dX5_tears_60 : decode cX5_tears 60 = .ok (.isub, 1) := by decide +kernel
theorem dX5_tears_61 : decode cX5_tears 61 = .ok (.if_icmp .ne 6, 3) := by decide +kernel
theorem dX5_tears_64 : decode cX5_tears 64 = .ok (.iload 4, 2) := by decide +kernel
theorem dX5_tears_66 : decode cX5_tears 66 = .ok (.ireturn, 1) := by decide +kernel
theorem dX5_tears_67 : decode cX5_tears 67 = .ok (.iinc 4 1, 3) := by decide +kernel
theorem dX5_tears_70 : decode cX5_tears 70 = .ok (.goto (-36), 3) := by decide +kernel
theorem dX5_tears_73 : decode cX5_tears 73 = .ok (.bipush (-4), 2) := by decide +kernel
theorem dX5_tears_75 : decode cX5_tears 75 = .ok (.ireturn, 1) := by decide +kernel
theorem dX5_whom_0 : decode cX5_whom 0 = .ok (.aload_n 0, 1) := by decide +kernel
theorem dX5_whom_1 : decode cX5_whom 1 = .ok (.iload_n 1, 1) := by decide +kernel
theorem dX5_whom_2 : decode cX5_whom 2 = .ok (.invokevirtual 131, 3) := by decide +kernel
theorem dX5_whom_5 : decode cX5_whom 5 = .ok (.ifCond .eq 20, 3) := by decide +kernel
theorem dX5_whom_8 : decode cX5_whom 8 = .ok (.iload_n 2, 1) := by decide +kernel
theorem dX5_whom_9 : decode cX5_whom 9 = .ok (.invokestatic 134, 3) := by decide +kernel
theorem dX5_whom_12 : decode cX5_whom 12 = .ok (.ifCond .eq 13, 3) := by decide +kernel
theorem dX5_whom_15 : decode cX5_whom 15 = .ok (.iload_n 3, 1) := by decide +kernel
theorem dX5_whom_16 : decode cX5_whom 16 = .ok (.iconst 0, 1) := by decide +kernel
theorem dX5_whom_17 : decode cX5_whom 17 = .ok (.bipush 18, 2) := by decide +kernel
theorem dX5_whom_19 : decode cX5_whom 19 = .ok (.invokestatic 63, 3) := by decide +kernel
theorem dX5_whom_22 : decode cX5_whom 22 = .ok (.ifCond .ne 5, 3) := by decide +kernel
theorem dX5_whom_25 : decode cX5_whom 25 = .ok (.iconst (-1), 1) := by decide +kernel
theorem dX5_whom_26 : decode cX5_whom 26 = .ok (.ireturn, 1) := by decide +kernel
theorem dX5_whom_27 : decode cX5_whom 27 = .ok (.aload_n 0, 1) := by decide +kernel
theorem dX5_whom_28 : decode cX5_whom 28 = .ok (.invokevirtual 143, 3) := by decide +kernel
theorem dX5_whom_31 : decode cX5_whom 31 = .ok (.iconst 0, 1) := by decide +kernel
theorem dX5_whom_32 : decode cX5_whom 32 = .ok (.istore 4, 2) := by decide +kernel
theorem dX5_whom_34 : decode cX5_whom 34 = .ok (.iload 4, 2) := by decide +kernel
theorem dX5_whom_36 : decode cX5_whom 36 = .ok (.aload_n 0, 1) := by decide +kernel
theorem dX5_whom_37 : decode cX5_whom 37 = .ok (.getfield 60, 3) := by decide +kernel
theorem dX5_whom_40 : decode cX5_whom 40 = .ok (.if_icmp .ge 34, 3) := by decide +kernel
theorem dX5_whom_43 : decode cX5_whom 43 = .ok (.iload 4, 2) := by decide +kernel
theorem dX5_whom_45 : decode cX5_whom 45 = .ok (.iload_n 1, 1) := by decide +kernel
theorem dX5_whom_46 : decode cX5_whom 46 = .ok (.if_icmp .eq 22, 3) := by decide +kernel
theorem dX5_whom_49 : decode cX5_whom 49 = .ok (.aload_n 0, 1) := by decide +kernel
theorem dX5_whom_50 : decode cX5_whom 50 = .ok (.iload_n 1, 1) := by decide +kernel
theorem dX5_whom_51 : decode cX5_whom 51 = .ok (.iload 4, 2) := by decide +kernel
theorem dX5_whom_53 : decode cX5_whom 53 = .ok (.iload_n 2, 1) := by decide +kernel
theorem dX5_whom_54 : decode cX5_whom 54 = .ok (.iconst 0, 1) := by decide +kernel
theorem dX5_whom_55 : decode cX5_whom 55 = .ok (.invokevirtual 146, 3) := by decide +kernel
theorem dX5_whom_58 : decode cX5_whom 58 = .ok (.iload_n 3, 1) := by decide +kernel
theorem dX5_whom_59 : decode cX5_whom 59 = .ok (.bipush 9, 2) := by decide +kernel
theorem dX5_whom_61 : decode cX5_whom 61 = .ok (.isub, 1) := by decide +kernel
theorem dX5_whom_62 : decode cX5_whom 62 = .ok (.if_icmp .ne 6, 3) := by decide +kernel
theorem dX5_whom_65 : decode cX5_whom 65 = .ok (.iload 4, 2) := by decide +kernel
theorem dX5_whom_67 : decode cX5_whom 67 = .ok (.ireturn, 1) := by decide +kernel
theorem dX5_whom_68 : decode cX5_whom 68 = .ok (.iinc 4 1, 3) := by decide +kernel
theorem dX5_whom_71 : decode cX5_whom 71 = .ok (.goto (-37), 3) := by decide +kernel
theorem dX5_whom_74 : decode cX5_whom 74 = .ok (.bipush (-4), 2) := by decide +kernel
theorem dX5_whom_76 : decode cX5_whom 76 = .ok (.ireturn, 1) := by decide +kernel
theorem dX5_treaty_0 : decode cX5_treaty 0 = .ok (.aload_n 0, 1) := by decide +kernel
theorem dX5_treaty_1 : decode cX5_treaty 1 = .ok (.iload_n 1, 1) := by decide +kernel
theorem dX5_treaty_2 : decode cX5_treaty 2 = .ok (.invokevirtual 131, 3) := by decide +kernel
theorem dX5_treaty_5 : decode cX5_treaty 5 = .ok (.ifCond .eq 26, 3) := by decide +kernel
theorem dX5_treaty_8 : decode cX5_treaty 8 = .ok (.aload_n 0, 1) := by decide +kernel
theorem dX5_treaty_9 : decode cX5_treaty 9 = .ok (.iload_n 2, 1) := by decide +kernel
theorem dX5_treaty_10 : decode cX5_treaty 10 = .ok (.invokevirtual 131, 3) := by decide +kernel
theorem dX5_treaty_13 : decode cX5_treaty 13 = .ok (.ifCond .eq 18, 3) := by decide +kernel
theorem dX5_treaty_16 : decode cX5_treaty 16 = .ok (.iload_n 1, 1) := by decide +kernel
theorem dX5_treaty_17 : decode cX5_treaty 17 = .ok (.iload_n 2, 1) := by decide +kernel
theorem dX5_treaty_18 : decode cX5_treaty 18 = .ok (.if_icmp .eq 13, 3) := by decide +kernel
theorem dX5_treaty_21 : decode cX5_treaty 21 = .ok (.iload_n 3, 1) := by decide +kernel
theorem dX5_treaty_22 : decode cX5_treaty 22 = .ok (.iconst 0, 1) := by decide +kernel
theorem dX5_treaty_23 : decode cX5_treaty 23 = .ok (.bipush 10, 2) := by decide +kernel
theorem dX5_treaty_25 : decode cX5_treaty 25 = .ok (.invokestatic 63, 3) := by decide +kernel
theorem dX5_treaty_28 : decode cX5_treaty 28 = .ok (.ifCond .ne 5, 3) := by decide +kernel
theorem dX5_treaty_31 : decode cX5_treaty 31 = .ok (.iconst (-1), 1) := by decide +kernel
theorem dX5_treaty_32 : decode cX5_treaty 32 = .ok (.ireturn, 1) := by decide +kernel
theorem dX5_treaty_33 : decode cX5_treaty 33 = .ok (.aload_n 0, 1) := by decide +kernel
theorem dX5_treaty_34 : decode cX5_treaty 34 = .ok (.invokevirtual 143, 3) := by decide +kernel
theorem dX5_treaty_37 : decode cX5_treaty 37 = .ok (.iconst 0, 1) := by decide +kernel
theorem dX5_treaty_38 : decode cX5_treaty 38 = .ok (.istore 4, 2) := by decide +kernel
theorem dX5_treaty_40 : decode cX5_treaty 40 = .ok (.iconst 0, 1) := by decide +kernel
theorem dX5_treaty_41 : decode cX5_treaty 41 = .ok (.istore 5, 2) := by decide +kernel
theorem dX5_treaty_43 : decode cX5_treaty 43 = .ok (.iload 5, 2) := by decide +kernel
theorem dX5_treaty_45 : decode cX5_treaty 45 = .ok (.iconst 5, 1) := by decide +kernel
theorem dX5_treaty_46 : decode cX5_treaty 46 = .ok (.if_icmp .ge 43, 3) := by decide +kernel
theorem dX5_treaty_49 : decode cX5_treaty 49 = .ok (.iload 4, 2) := by decide +kernel
theorem dX5_treaty_51 : decode cX5_treaty 51 = .ok (.aload_n 0, 1) := by decide +kernel
theorem dX5_treaty_52 : decode cX5_treaty 52 = .ok (.iload_n 1, 1) := by decide +kernel
theorem dX5_treaty_53 : decode cX5_treaty 53 = .ok (.iload_n 2, 1) := by decide +kernel
theorem dX5_treaty_54 : decode cX5_treaty 54 = .ok (.iload 5, 2) := by decide +kernel
theorem dX5_treaty_56 : decode cX5_treaty 56 = .ok (.iload_n 3, 1) := by decide +kernel
theorem dX5_treaty_57 : decode cX5_treaty 57 = .ok (.invokevirtual 146, 3) := by decide +kernel
theorem dX5_treaty_60 : decode cX5_treaty 60 = .ok (.aload_n 0, 1) := by decide +kernel
theorem dX5_treaty_61 : decode cX5_treaty 61 = .ok (.iload_n 2, 1) := by decide +kernel
theorem dX5_treaty_62 : decode cX5_treaty 62 = .ok (.iload_n 1, 1) := by decide +kernel
theorem dX5_treaty_63 : decode cX5_treaty 63 = .ok (.iload 5, 2) := by decide +kernel
theorem dX5_treaty_65 : decode cX5_treaty 65 = .ok (.iload_n 3, 1) := by decide +kernel
theorem dX5_treaty_66 : decode cX5_treaty 66 = .ok (.invokevirtual 146, 3) := by decide +kernel
theorem dX5_treaty_69 : decode cX5_treaty 69 = .ok (.if_icmp .ne 10, 3) := by decide +kernel
theorem dX5_treaty_72 : decode cX5_treaty 72 = .ok (.iconst 1, 1) := by decide +kernel
theorem dX5_treaty_73 : decode cX5_treaty 73 = .ok (.iload 5, 2) := by decide +kernel
theorem dX5_treaty_75 : decode cX5_treaty 75 = .ok (.ishl, 1) := by decide +kernel
theorem dX5_treaty_76 : decode cX5_treaty 76 = .ok (.goto 4, 3) := by decide +kernel
theorem dX5_treaty_79 : decode cX5_treaty 79 = .ok (.iconst 0, 1) := by decide +kernel
theorem dX5_treaty_80 : decode cX5_treaty 80 = .ok (.ior, 1) := by decide +kernel
theorem dX5_treaty_81 : decode cX5_treaty 81 = .ok (.istore 4, 2) := by decide +kernel
theorem dX5_treaty_83 : decode cX5_treaty 83 = .ok (.iinc 5 1, 3) := by decide +kernel
theorem dX5_treaty_86 : decode cX5_treaty 86 = .ok (.goto (-43), 3) := by decide +kernel
theorem dX5_treaty_89 : decode cX5_treaty 89 = .ok (.iload 4, 2) := by decide +kernel
theorem dX5_treaty_91 : decode cX5_treaty 91 = .ok (.ireturn, 1) := by decide +kernel
theorem dX5_round_0 : decode cX5_round 0 = .ok (.aload_n 0, 1) := by decide +kernel
theorem dX5_round_1 : decode cX5_round 1 = .ok (.iload_n 1, 1) := by decide +kernel
theorem dX5_round_2 : decode cX5_round 2 = .ok (.invokevirtual 137, 3) := by decide +kernel
theorem dX5_round_5 : decode cX5_round 5 = .ok (.ifCond .eq 20, 3) := by decide +kernel
theorem dX5_round_8 : decode cX5_round 8 = .ok (.iload_n 2, 1) := by decide +kernel
theorem dX5_round_9 : decode cX5_round 9 = .ok (.invokestatic 134, 3) := by decide +kernel
theorem dX5_round_12 : decode cX5_round 12 = .ok (.ifCond .eq 13, 3) := by decide +kernel
theorem dX5_round_15 : decode cX5_round 15 = .ok (.iload_n 3, 1) := by decide +kernel
theorem dX5_round_16 : decode cX5_round 16 = .ok (.iconst 0, 1) := by decide +kernel
theorem dX5_round_17 : decode cX5_round 17 = .ok (.bipush 60, 2) := by decide +kernel
theorem dX5_round_19 : decode cX5_round 19 = .ok (.invokestatic 63, 3) := by decide +kernel
theorem dX5_round_22 : decode cX5_round 22 = .ok (.ifCond .ne 5, 3) := by decide +kernel
theorem dX5_round_25 : decode cX5_round 25 = .ok (.iconst (-1), 1) := by decide +kernel
theorem dX5_round_26 : decode cX5_round 26 = .ok (.ireturn, 1) := by decide +kernel
theorem dX5_round_27 : decode cX5_round 27 = .ok (.aload_n 0, 1) := by decide +kernel
theorem dX5_round_28 : decode cX5_round 28 = .ok (.invokevirtual 143, 3) := by decide +kernel
theorem dX5_round_31 : decode cX5_round 31 = .ok (.iconst 0, 1) := by decide +kernel
theorem dX5_round_32 : decode cX5_round 32 = .ok (.istore 4, 2) := by decide +kernel
theorem dX5_round_34 : decode cX5_round 34 = .ok (.iload 4, 2) := by decide +kernel
theorem dX5_round_36 : decode cX5_round 36 = .ok (.iload_n 3, 1) := by decide +kernel
theorem dX5_round_37 : decode cX5_round 37 = .ok (.if_icmp .ge 22, 3) := by decide +kernel
theorem dX5_round_40 : decode cX5_round 40 = .ok (.aload_n 0, 1) := by decide +kernel
theorem dX5_round_41 : decode cX5_round 41 = .ok (.iload_n 1, 1) := by decide +kernel
theorem dX5_round_42 : decode cX5_round 42 = .ok (.iload_n 1, 1) := by decide +kernel
theorem dX5_round_43 : decode cX5_round 43 = .ok (.iload 4, 2) := by decide +kernel
theorem dX5_round_45 : decode cX5_round 45 = .ok (.aload_n 0, 1) := by decide +kernel
theorem dX5_round_46 : decode cX5_round 46 = .ok (.getfield 60, 3) := by decide +kernel
theorem dX5_round_49 : decode cX5_round 49 = .ok (.irem, 1) := by decide +kernel
theorem dX5_round_50 : decode cX5_round 50 = .ok (.invokevirtual 153, 3) := by decide +kernel
theorem dX5_round_53 : decode cX5_round 53 = .ok (.iinc 4 1, 3) := by decide +kernel
theorem dX5_round_56 : decode cX5_round 56 = .ok (.goto (-22), 3) := by decide +kernel
theorem dX5_round_59 : decode cX5_round 59 = .ok (.aload_n 0, 1) := by decide +kernel
theorem dX5_round_60 : decode cX5_round 60 = .ok (.getfield 37, 3) := by decide +kernel
theorem dX5_round_63 : decode cX5_round 63 = .ok (.bipush 36, 2) := by decide +kernel
theorem dX5_round_65 : decode cX5_round 65 = .ok (.iconst 5, 1) := by decide +kernel
theorem dX5_round_66 : decode cX5_round 66 = .ok (.iload_n 1, 1) := by decide +kernel
theorem dX5_round_67 : decode cX5_round 67 = .ok (.imul, 1) := by decide +kernel
theorem dX5_round_68 : decode cX5_round 68 = .ok (.iadd, 1) := by decide +kernel
theorem dX5_round_69 : decode cX5_round 69 = .ok (.iload_n 2, 1) := by decide +kernel
theorem dX5_round_70 : decode cX5_round 70 = .ok (.iadd, 1) := by decide +kernel
theorem dX5_round_71 : decode cX5_round 71 = .ok (.iaload, 1) := by decide +kernel
theorem dX5_round_72 : decode cX5_round 72 = .ok (.invokestatic 140, 3) := by decide +kernel
theorem dX5_round_75 : decode cX5_round 75 = .ok (.ireturn, 1) := by decide +kernel
theorem dX5_again_0 : decode cX5_again 0 = .ok (.aload_n 0, 1) := by decide +kernel
theorem dX5_again_1 : decode cX5_again 1 = .ok (.iload_n 1, 1) := by decide +kernel
theorem dX5_again_2 : decode cX5_again 2 = .ok (.invokevirtual 137, 3) := by decide +kernel
theorem dX5_again_5 : decode cX5_again 5 = .ok (.ifCond .eq 12, 3) := by decide +kernel
theorem dX5_again_8 : decode cX5_again 8 = .ok (.iload_n 2, 1) := by decide +kernel
theorem dX5_again_9 : decode cX5_again 9 = .ok (.iconst 0, 1) := by decide +kernel
theorem dX5_again_10 : decode cX5_again 10 = .ok (.iconst 1, 1) := by decide +kernel
theorem dX5_again_11 : decode cX5_again 11 = .ok (.invokestatic 63, 3) := by decide +kernel
theorem dX5_again_14 : decode cX5_again 14 = .ok (.ifCond .ne 5, 3) := by decide +kernel
theorem dX5_again_17 : decode cX5_again 17 = .ok (.iconst (-1), 1) := by decide +kernel
theorem dX5_again_18 : decode cX5_again 18 = .ok (.ireturn, 1) := by decide +kernel
theorem dX5_again_19 : decode cX5_again 19 = .ok (.aload_n 0, 1) := by decide +kernel
theorem dX5_again_20 : decode cX5_again 20 = .ok (.invokevirtual 143, 3) := by decide +kernel
theorem dX5_again_23 : decode cX5_again 23 = .ok (.iconst 0, 1) := by decide +kernel
theorem dX5_again_24 : decode cX5_again 24 = .ok (.istore_n 3, 1) := by decide +kernel
theorem dX5_again_25 : decode cX5_again 25 = .ok (.iload_n 3, 1) := by decide +kernel
theorem dX5_again_26 : decode cX5_again 26 = .ok (.bipush 40, 2) := by decide +kernel
theorem dX5_again_28 : decode cX5_again 28 = .ok (.if_icmp .gt 75, 3) := by decide +kernel
theorem dX5_again_31 : decode cX5_again 31 = .ok (.iconst 0, 1) := by decide +kernel
theorem dX5_again_32 : decode cX5_again 32 = .ok (.istore 4, 2) := by decide +kernel
theorem dX5_again_34 : decode cX5_again 34 = .ok (.iload 4, 2) := by decide +kernel
theorem dX5_again_36 : decode cX5_again 36 = .ok (.iconst 5, 1) := by decide +kernel
theorem dX5_again_37 : decode cX5_again 37 = .ok (.if_icmp .ge 34, 3) := by decide +kernel
theorem dX5_again_40 : decode cX5_again 40 = .ok (.aload_n 0, 1) := by decide +kernel
theorem dX5_again_41 : decode cX5_again 41 = .ok (.getfield 40, 3) := by decide +kernel
theorem dX5_again_44 : decode cX5_again 44 = .ok (.iconst 5, 1) := by decide +kernel
theorem dX5_again_45 : decode cX5_again 45 = .ok (.iload_n 3, 1) := by decide +kernel
theorem dX5_again_46 : decode cX5_again 46 = .ok (.imul, 1) := by decide +kernel
theorem dX5_again_47 : decode cX5_again 47 = .ok (.iload 4, 2) := by decide +kernel
theorem dX5_again_49 : decode cX5_again 49 = .ok (.iadd, 1) := by decide +kernel
theorem dX5_again_50 : decode cX5_again 50 = .ok (.aload_n 0, 1) := by decide +kernel
theorem dX5_again_51 : decode cX5_again 51 = .ok (.getfield 37, 3) := by decide +kernel
theorem dX5_again_54 : decode cX5_again 54 = .ok (.bipush 36, 2) := by decide +kernel
theorem dX5_again_56 : decode cX5_again 56 = .ok (.iconst 5, 1) := by decide +kernel
theorem dX5_again_57 : decode cX5_again 57 = .ok (.iload_n 1, 1) := by decide +kernel
theorem dX5_again_58 : decode cX5_again 58 = .ok (.imul, 1) := by decide +kernel
theorem dX5_again_59 : decode cX5_again 59 = .ok (.iadd, 1) := by decide +kernel
theorem dX5_again_60 : decode cX5_again 60 = .ok (.iload 4, 2) := by decide +kernel
theorem dX5_again_62 : decode cX5_again 62 = .ok (.iadd, 1) := by decide +kernel
theorem dX5_again_63 : decode cX5_again 63 = .ok (.iaload, 1) := by decide +kernel
theorem dX5_again_64 : decode cX5_again 64 = .ok (.iastore, 1) := by decide +kernel
theorem dX5_again_65 : decode cX5_again 65 = .ok (.iinc 4 1, 3) := by decide +kernel
theorem dX5_again_68 : decode cX5_again 68 = .ok (.goto (-34), 3) := by decide +kernel
theorem dX5_again_71 : decode cX5_again 71 = .ok (.iconst 0, 1) := by decide +kernel
theorem dX5_again_72 : decode cX5_again 72 = .ok (.istore 4, 2) := by decide +kernel
theorem dX5_again_74 : decode cX5_again 74 = .ok (.iload 4, 2) := by decide +kernel
theorem dX5_again_76 : decode cX5_again 76 = .ok (.aload_n 0, 1) := by decide +kernel
theorem dX5_again_77 : decode cX5_again 77 = .ok (.getfield 60, 3) := by decide +kernel
theorem dX5_again_80 : decode cX5_again 80 = .ok (.if_icmp .ge 17, 3) := by decide +kernel
theorem dX5_again_83 : decode cX5_again 83 = .ok (.aload_n 0, 1) := by decide +kernel
theorem dX5_again_84 : decode cX5_again 84 = .ok (.iload_n 1, 1) := by decide +kernel
theorem dX5_again_85 : decode cX5_again 85 = .ok (.iload_n 1, 1) := by decide +kernel
theorem dX5_again_86 : decode cX5_again 86 = .ok (.iload 4, 2) := by decide +kernel
theorem dX5_again_88 : decode cX5_again 88 = .ok (.invokevirtual 153, 3) := by decide +kernel
theorem dX5_again_91 : decode cX5_again 91 = .ok (.iinc 4 1, 3) := by decide +kernel
theorem dX5_again_94 : decode cX5_again 94 = .ok (.goto (-20), 3) := by decide +kernel
theorem dX5_again_97 : decode cX5_again 97 = .ok (.iinc 3 1, 3) := by decide +kernel
theorem dX5_again_100 : decode cX5_again 100 = .ok (.goto (-75), 3) := by decide +kernel
theorem dX5_again_103 : decode cX5_again 103 = .ok (.iconst 1, 1) := by decide +kernel
theorem dX5_again_104 : decode cX5_again 104 = .ok (.istore_n 3, 1) := by decide +kernel
theorem dX5_again_105 : decode cX5_again 105 = .ok (.iload_n 3, 1) := by decide +kernel
theorem dX5_again_106 : decode cX5_again 106 = .ok (.bipush 40, 2) := by decide +kernel
theorem dX5_again_108 : decode cX5_again 108 = .ok (.if_icmp .gt 96, 3) := by decide +kernel
theorem dX5_again_111 : decode cX5_again 111 = .ok (.iconst 0, 1) := by decide +kernel
theorem dX5_again_112 : decode cX5_again 112 = .ok (.istore 4, 2) := by decide +kernel
theorem dX5_again_114 : decode cX5_again 114 = .ok (.iload 4, 2) := by decide +kernel
theorem dX5_again_116 : decode cX5_again 116 = .ok (.iload_n 3, 1) := by decide +kernel
theorem dX5_again_117 : decode cX5_again 117 = .ok (.if_icmp .ge 81, 3) := by decide +kernel
theorem dX5_again_120 : decode cX5_again 120 = .ok (.iconst 1, 1) := by decide +kernel
theorem dX5_again_121 : decode cX5_again 121 = .ok (.istore 5, 2) := by decide +kernel
theorem dX5_again_123 : decode cX5_again 123 = .ok (.iconst 0, 1) := by decide +kernel
theorem dX5_again_124 : decode cX5_again 124 = .ok (.istore 6, 2) := by decide +kernel
theorem dX5_again_126 : decode cX5_again 126 = .ok (.iload 6, 2) := by decide +kernel
theorem dX5_again_128 : decode cX5_again 128 = .ok (.iconst 5, 1) := by decide +kernel
theorem dX5_again_129 : decode cX5_again 129 = .ok (.if_icmp .ge 47, 3) := by decide +kernel
theorem dX5_again_132 : decode cX5_again 132 = .ok (.iload 5, 2) := by decide +kernel
theorem dX5_again_134 : decode cX5_again 134 = .ok (.ifCond .eq 33, 3) := by decide +kernel
theorem dX5_again_137 : decode cX5_again 137 = .ok (.aload_n 0, 1) := by decide +kernel
theorem dX5_again_138 : decode cX5_again 138 = .ok (.getfield 40, 3) := by decide +kernel
theorem dX5_again_141 : decode cX5_again 141 = .ok (.iconst 5, 1) := by decide +kernel
theorem dX5_again_142 : decode cX5_again 142 = .ok (.iload_n 3, 1) := by decide +kernel
theorem dX5_again_143 : decode cX5_again 143 = .ok (.imul, 1) := by decide +kernel
theorem dX5_again_144 : decode cX5_again 144 = .ok (.iload 6, 2) := by decide +kernel
theorem dX5_again_146 : decode cX5_again 146 = .ok (.iadd, 1) := by decide +kernel
theorem dX5_again_147 : decode cX5_again 147 = .ok (.iaload, 1) := by decide +kernel
theorem dX5_again_148 : decode cX5_again 148 = .ok (.aload_n 0, 1) := by decide +kernel
theorem dX5_again_149 : decode cX5_again 149 = .ok (.getfield 40, 3) := by decide +kernel
theorem dX5_again_152 : decode cX5_again 152 = .ok (.iconst 5, 1) := by decide +kernel
theorem dX5_again_153 : decode cX5_again 153 = .ok (.iload 4, 2) := by decide +kernel
theorem dX5_again_155 : decode cX5_again 155 = .ok (.imul, 1) := by decide +kernel
theorem dX5_again_156 : decode cX5_again 156 = .ok (.iload 6, 2) := by decide +kernel
theorem dX5_again_158 : decode cX5_again 158 = .ok (.iadd, 1) := by decide +kernel
theorem dX5_again_159 : decode cX5_again 159 = .ok (.iaload, 1) := by decide +kernel
theorem dX5_again_160 : decode cX5_again 160 = .ok (.if_icmp .ne 7, 3) := by decide +kernel
theorem dX5_again_163 : decode cX5_again 163 = .ok (.iconst 1, 1) := by decide +kernel
theorem dX5_again_164 : decode cX5_again 164 = .ok (.goto 4, 3) := by decide +kernel
theorem dX5_again_167 : decode cX5_again 167 = .ok (.iconst 0, 1) := by decide +kernel
theorem dX5_again_168 : decode cX5_again 168 = .ok (.istore 5, 2) := by decide +kernel
theorem dX5_again_170 : decode cX5_again 170 = .ok (.iinc 6 1, 3) := by decide +kernel
theorem dX5_again_173 : decode cX5_again 173 = .ok (.goto (-47), 3) := by decide +kernel
theorem dX5_again_176 : decode cX5_again 176 = .ok (.iload 5, 2) := by decide +kernel
theorem dX5_again_178 : decode cX5_again 178 = .ok (.ifCond .eq 14, 3) := by decide +kernel
theorem dX5_again_181 : decode cX5_again 181 = .ok (.iload_n 2, 1) := by decide +kernel
theorem dX5_again_182 : decode cX5_again 182 = .ok (.ifCond .ne 7, 3) := by decide +kernel
theorem dX5_again_185 : decode cX5_again 185 = .ok (.iload_n 3, 1) := by decide +kernel
theorem dX5_again_186 : decode cX5_again 186 = .ok (.goto 5, 3) := by decide +kernel
theorem dX5_again_189 : decode cX5_again 189 = .ok (.iload 4, 2) := by decide +kernel
theorem dX5_again_191 : decode cX5_again 191 = .ok (.ireturn, 1) := by decide +kernel
theorem dX5_again_192 : decode cX5_again 192 = .ok (.iinc 4 1, 3) := by decide +kernel
theorem dX5_again_195 : decode cX5_again 195 = .ok (.goto (-81), 3) := by decide +kernel
theorem dX5_again_198 : decode cX5_again 198 = .ok (.iinc 3 1, 3) := by decide +kernel
theorem dX5_again_201 : decode cX5_again 201 = .ok (.goto (-96), 3) := by decide +kernel
theorem dX5_again_204 : decode cX5_again 204 = .ok (.bipush (-4), 2) := by decide +kernel
theorem dX5_again_206 : decode cX5_again 206 = .ok (.ireturn, 1) := by decide +kernel
theorem dX5_least_0 : decode cX5_least 0 = .ok (.aload_n 0, 1) := by decide +kernel
theorem dX5_least_1 : decode cX5_least 1 = .ok (.iload_n 1, 1) := by decide +kernel
theorem dX5_least_2 : decode cX5_least 2 = .ok (.invokevirtual 137, 3) := by decide +kernel
theorem dX5_least_5 : decode cX5_least 5 = .ok (.ifCond .eq 20, 3) := by decide +kernel
theorem dX5_least_8 : decode cX5_least 8 = .ok (.aload_n 0, 1) := by decide +kernel
theorem dX5_least_9 : decode cX5_least 9 = .ok (.iload_n 2, 1) := by decide +kernel
theorem dX5_least_10 : decode cX5_least 10 = .ok (.invokevirtual 131, 3) := by decide +kernel
theorem dX5_least_13 : decode cX5_least 13 = .ok (.ifCond .eq 12, 3) := by decide +kernel
theorem dX5_least_16 : decode cX5_least 16 = .ok (.iload_n 3, 1) := by decide +kernel
theorem dX5_least_17 : decode cX5_least 17 = .ok (.iconst 0, 1) := by decide +kernel
theorem dX5_least_18 : decode cX5_least 18 = .ok (.iconst 1, 1) := by decide +kernel
theorem dX5_least_19 : decode cX5_least 19 = .ok (.invokestatic 63, 3) := by decide +kernel
theorem dX5_least_22 : decode cX5_least 22 = .ok (.ifCond .ne 5, 3) := by decide +kernel
theorem dX5_least_25 : decode cX5_least 25 = .ok (.iconst (-1), 1) := by decide +kernel
theorem dX5_least_26 : decode cX5_least 26 = .ok (.ireturn, 1) := by decide +kernel
theorem dX5_least_27 : decode cX5_least 27 = .ok (.aload_n 0, 1) := by decide +kernel
theorem dX5_least_28 : decode cX5_least 28 = .ok (.invokevirtual 143, 3) := by decide +kernel
theorem dX5_least_31 : decode cX5_least 31 = .ok (.aload_n 0, 1) := by decide +kernel
theorem dX5_least_32 : decode cX5_least 32 = .ok (.iload_n 1, 1) := by decide +kernel
theorem dX5_least_33 : decode cX5_least 33 = .ok (.invokevirtual 157, 3) := by decide +kernel
theorem dX5_least_36 : decode cX5_least 36 = .ok (.iconst 5, 1) := by decide +kernel
theorem dX5_least_37 : decode cX5_least 37 = .ok (.if_icmp .ge 6, 3) := by decide +kernel
theorem dX5_least_40 : decode cX5_least 40 = .ok (.bipush (-4), 2) := by decide +kernel
theorem dX5_least_42 : decode cX5_least 42 = .ok (.ireturn, 1) := by decide +kernel
theorem dX5_least_43 : decode cX5_least 43 = .ok (.bipush 31, 2) := by decide +kernel
theorem dX5_least_45 : decode cX5_least 45 = .ok (.aload_n 0, 1) := by decide +kernel
theorem dX5_least_46 : decode cX5_least 46 = .ok (.iload_n 1, 1) := by decide +kernel
theorem dX5_least_47 : decode cX5_least 47 = .ok (.iload_n 2, 1) := by decide +kernel
theorem dX5_least_48 : decode cX5_least 48 = .ok (.invokevirtual 160, 3) := by decide +kernel
theorem dX5_least_51 : decode cX5_least 51 = .ok (.iconst (-1), 1) := by decide +kernel
theorem dX5_least_52 : decode cX5_least 52 = .ok (.ixor, 1) := by decide +kernel
theorem dX5_least_53 : decode cX5_least 53 = .ok (.iand, 1) := by decide +kernel
theorem dX5_least_54 : decode cX5_least 54 = .ok (.istore 4, 2) := by decide +kernel
theorem dX5_least_56 : decode cX5_least 56 = .ok (.iconst 0, 1) := by decide +kernel
theorem dX5_least_57 : decode cX5_least 57 = .ok (.istore 5, 2) := by decide +kernel
theorem dX5_least_59 : decode cX5_least 59 = .ok (.iconst 0, 1) := by decide +kernel
theorem dX5_least_60 : decode cX5_least 60 = .ok (.istore 6, 2) := by decide +kernel
theorem dX5_least_62 : decode cX5_least 62 = .ok (.iload 6, 2) := by decide +kernel
theorem dX5_least_64 : decode cX5_least 64 = .ok (.iconst 5, 1) := by decide +kernel
theorem dX5_least_65 : decode cX5_least 65 = .ok (.if_icmp .ge 21, 3) := by decide +kernel
theorem dX5_least_68 : decode cX5_least 68 = .ok (.iload 5, 2) := by decide +kernel
theorem dX5_least_70 : decode cX5_least 70 = .ok (.iload 4, 2) := by decide +kernel
theorem dX5_least_72 : decode cX5_least 72 = .ok (.iload 6, 2) := by decide +kernel
theorem dX5_least_74 : decode cX5_least 74 = .ok (.ishr, 1) := by decide +kernel
theorem dX5_least_75 : decode cX5_least 75 = .ok (.iconst 1, 1) := by decide +kernel
theorem dX5_least_76 : decode cX5_least 76 = .ok (.iand, 1) := by decide +kernel
theorem dX5_least_77 : decode cX5_least 77 = .ok (.iadd, 1) := by decide +kernel
theorem dX5_least_78 : decode cX5_least 78 = .ok (.istore 5, 2) := by decide +kernel
theorem dX5_least_80 : decode cX5_least 80 = .ok (.iinc 6 1, 3) := by decide +kernel
theorem dX5_least_83 : decode cX5_least 83 = .ok (.goto (-21), 3) := by decide +kernel
theorem dX5_least_86 : decode cX5_least 86 = .ok (.iload_n 3, 1) := by decide +kernel
theorem dX5_least_87 : decode cX5_least 87 = .ok (.ifCond .ne 8, 3) := by decide +kernel
theorem dX5_least_90 : decode cX5_least 90 = .ok (.iload 5, 2) := by decide +kernel
theorem dX5_least_92 : decode cX5_least 92 = .ok (.goto 5, 3) := by decide +kernel
theorem dX5_least_95 : decode cX5_least 95 = .ok (.iload 4, 2) := by decide +kernel
theorem dX5_least_97 : decode cX5_least 97 = .ok (.ireturn, 1) := by decide +kernel
theorem dX5_sign_0 : decode cX5_sign 0 = .ok (.iload_n 1, 1) := by decide +kernel
theorem dX5_sign_1 : decode cX5_sign 1 = .ok (.invokestatic 134, 3) := by decide +kernel
theorem dX5_sign_4 : decode cX5_sign 4 = .ok (.ifCond .eq 13, 3) := by decide +kernel
theorem dX5_sign_7 : decode cX5_sign 7 = .ok (.iload_n 2, 1) := by decide +kernel
theorem dX5_sign_8 : decode cX5_sign 8 = .ok (.iconst 0, 1) := by decide +kernel
theorem dX5_sign_9 : decode cX5_sign 9 = .ok (.bipush 18, 2) := by decide +kernel
theorem dX5_sign_11 : decode cX5_sign 11 = .ok (.invokestatic 63, 3) := by decide +kernel
theorem dX5_sign_14 : decode cX5_sign 14 = .ok (.ifCond .ne 5, 3) := by decide +kernel
theorem dX5_sign_17 : decode cX5_sign 17 = .ok (.iconst (-1), 1) := by decide +kernel
theorem dX5_sign_18 : decode cX5_sign 18 = .ok (.ireturn, 1) := by decide +kernel
theorem dX5_sign_19 : decode cX5_sign 19 = .ok (.aload_n 0, 1) := by decide +kernel
theorem dX5_sign_20 : decode cX5_sign 20 = .ok (.getfield 117, 3) := by decide +kernel
theorem dX5_sign_23 : decode cX5_sign 23 = .ok (.bipush 6, 2) := by decide +kernel
theorem dX5_sign_25 : decode cX5_sign 25 = .ok (.if_icmp .ne 6, 3) := by decide +kernel
theorem dX5_sign_28 : decode cX5_sign 28 = .ok (.bipush (-3), 2) := by decide +kernel
theorem dX5_sign_30 : decode cX5_sign 30 = .ok (.ireturn, 1) := by decide +kernel
theorem dX5_sign_31 : decode cX5_sign 31 = .ok (.aload_n 0, 1) := by decide +kernel
theorem dX5_sign_32 : decode cX5_sign 32 = .ok (.getfield 22, 3) := by decide +kernel
theorem dX5_sign_35 : decode cX5_sign 35 = .ok (.iconst 2, 1) := by decide +kernel
theorem dX5_sign_36 : decode cX5_sign 36 = .ok (.aload_n 0, 1) := by decide +kernel
theorem dX5_sign_37 : decode cX5_sign 37 = .ok (.getfield 117, 3) := by decide +kernel
theorem dX5_sign_40 : decode cX5_sign 40 = .ok (.imul, 1) := by decide +kernel
theorem dX5_sign_41 : decode cX5_sign 41 = .ok (.iload_n 1, 1) := by decide +kernel
theorem dX5_sign_42 : decode cX5_sign 42 = .ok (.iastore, 1) := by decide +kernel
theorem dX5_sign_43 : decode cX5_sign 43 = .ok (.aload_n 0, 1) := by decide +kernel
theorem dX5_sign_44 : decode cX5_sign 44 = .ok (.getfield 22, 3) := by decide +kernel
theorem dX5_sign_47 : decode cX5_sign 47 = .ok (.iconst 2, 1) := by decide +kernel
theorem dX5_sign_48 : decode cX5_sign 48 = .ok (.aload_n 0, 1) := by decide +kernel
theorem dX5_sign_49 : decode cX5_sign 49 = .ok (.getfield 117, 3) := by decide +kernel
theorem dX5_sign_52 : decode cX5_sign 52 = .ok (.imul, 1) := by decide +kernel
theorem dX5_sign_53 : decode cX5_sign 53 = .ok (.iconst 1, 1) := by decide +kernel
theorem dX5_sign_54 : decode cX5_sign 54 = .ok (.iadd, 1) := by decide +kernel
theorem dX5_sign_55 : decode cX5_sign 55 = .ok (.iload_n 2, 1) := by decide +kernel
theorem dX5_sign_56 : decode cX5_sign 56 = .ok (.iastore, 1) := by decide +kernel
theorem dX5_sign_57 : decode cX5_sign 57 = .ok (.aload_n 0, 1) := by decide +kernel
theorem dX5_sign_58 : decode cX5_sign 58 = .ok (.dup, 1) := by decide +kernel
theorem dX5_sign_59 : decode cX5_sign 59 = .ok (.getfield 117, 3) := by decide +kernel
theorem dX5_sign_62 : decode cX5_sign 62 = .ok (.iconst 1, 1) := by decide +kernel
theorem dX5_sign_63 : decode cX5_sign 63 = .ok (.iadd, 1) := by decide +kernel
theorem dX5_sign_64 : decode cX5_sign 64 = .ok (.putfield 117, 3) := by decide +kernel
theorem dX5_sign_67 : decode cX5_sign 67 = .ok (.aload_n 0, 1) := by decide +kernel
theorem dX5_sign_68 : decode cX5_sign 68 = .ok (.getfield 117, 3) := by decide +kernel
theorem dX5_sign_71 : decode cX5_sign 71 = .ok (.ireturn, 1) := by decide +kernel
theorem dX5_forget_0 : decode cX5_forget 0 = .ok (.aload_n 0, 1) := by decide +kernel
theorem dX5_forget_1 : decode cX5_forget 1 = .ok (.getfield 117, 3) := by decide +kernel
theorem dX5_forget_4 : decode cX5_forget 4 = .ok (.istore_n 1, 1) := by decide +kernel
theorem dX5_forget_5 : decode cX5_forget 5 = .ok (.aload_n 0, 1) := by decide +kernel
theorem dX5_forget_6 : decode cX5_forget 6 = .ok (.iconst 0, 1) := by decide +kernel
theorem dX5_forget_7 : decode cX5_forget 7 = .ok (.putfield 117, 3) := by decide +kernel
theorem dX5_forget_10 : decode cX5_forget 10 = .ok (.iload_n 1, 1) := by decide +kernel
theorem dX5_forget_11 : decode cX5_forget 11 = .ok (.ireturn, 1) := by decide +kernel
theorem dX5_isWritten_0 : decode cX5_isWritten 0 = .ok (.iconst 1, 1) := by decide +kernel
theorem dX5_isWritten_1 : decode cX5_isWritten 1 = .ok (.istore 4, 2) := by decide +kernel
theorem dX5_isWritten_3 : decode cX5_isWritten 3 = .ok (.iconst 0, 1) := by decide +kernel
theorem dX5_isWritten_4 : decode cX5_isWritten 4 = .ok (.istore 5, 2) := by decide +kernel
theorem dX5_isWritten_6 : decode cX5_isWritten 6 = .ok (.iload 5, 2) := by decide +kernel
theorem dX5_isWritten_8 : decode cX5_isWritten 8 = .ok (.aload_n 0, 1) := by decide +kernel
theorem dX5_isWritten_9 : decode cX5_isWritten 9 = .ok (.getfield 117, 3) := by decide +kernel
theorem dX5_isWritten_12 : decode cX5_isWritten 12 = .ok (.if_icmp .ge 54, 3) := by decide +kernel
theorem dX5_isWritten_15 : decode cX5_isWritten 15 = .ok (.iload 4, 2) := by decide +kernel
theorem dX5_isWritten_17 : decode cX5_isWritten 17 = .ok (.ifCond .eq 40, 3) := by decide +kernel
theorem dX5_isWritten_20 : decode cX5_isWritten 20 = .ok (.aload_n 0, 1) := by decide +kernel
theorem dX5_isWritten_21 : decode cX5_isWritten 21 = .ok (.iload_n 1, 1) := by decide +kernel
theorem dX5_isWritten_22 : decode cX5_isWritten 22 = .ok (.iload_n 2, 1) := by decide +kernel
theorem dX5_isWritten_23 : decode cX5_isWritten 23 = .ok (.aload_n 0, 1) := by decide +kernel
theorem dX5_isWritten_24 : decode cX5_isWritten 24 = .ok (.getfield 22, 3) := by decide +kernel
theorem dX5_isWritten_27 : decode cX5_isWritten 27 = .ok (.iconst 2, 1) := by decide +kernel
theorem dX5_isWritten_28 : decode cX5_isWritten 28 = .ok (.iload 5, 2) := by decide +kernel
theorem dX5_isWritten_30 : decode cX5_isWritten 30 = .ok (.imul, 1) := by decide +kernel
theorem dX5_isWritten_31 : decode cX5_isWritten 31 = .ok (.iaload, 1) := by decide +kernel
theorem dX5_isWritten_32 : decode cX5_isWritten 32 = .ok (.iload_n 3, 1) := by decide +kernel
theorem dX5_isWritten_33 : decode cX5_isWritten 33 = .ok (.invokevirtual 146, 3) := by decide +kernel
theorem dX5_isWritten_36 : decode cX5_isWritten 36 = .ok (.aload_n 0, 1) := by decide +kernel
theorem dX5_isWritten_37 : decode cX5_isWritten 37 = .ok (.getfield 22, 3) := by decide +kernel
theorem dX5_isWritten_40 : decode cX5_isWritten 40 = .ok (.iconst 2, 1) := by decide +kernel
theorem dX5_isWritten_41 : decode cX5_isWritten 41 = .ok (.iload 5, 2) := by decide +kernel
theorem dX5_isWritten_43 : decode cX5_isWritten 43 = .ok (.imul, 1) := by decide +kernel
theorem dX5_isWritten_44 : decode cX5_isWritten 44 = .ok (.iconst 1, 1) := by decide +kernel
theorem dX5_isWritten_45 : decode cX5_isWritten 45 = .ok (.iadd, 1) := by decide +kernel
theorem dX5_isWritten_46 : decode cX5_isWritten 46 = .ok (.iaload, 1) := by decide +kernel
theorem dX5_isWritten_47 : decode cX5_isWritten 47 = .ok (.bipush 9, 2) := by decide +kernel
theorem dX5_isWritten_49 : decode cX5_isWritten 49 = .ok (.isub, 1) := by decide +kernel
theorem dX5_isWritten_50 : decode cX5_isWritten 50 = .ok (.if_icmp .ne 7, 3) := by decide +kernel
theorem dX5_isWritten_53 : decode cX5_isWritten 53 = .ok (.iconst 1, 1) := by decide +kernel
theorem dX5_isWritten_54 : decode cX5_isWritten 54 = .ok (.goto 4, 3) := by decide +kernel
theorem dX5_isWritten_57 : decode cX5_isWritten 57 = .ok (.iconst 0, 1) := by decide +kernel
theorem dX5_isWritten_58 : decode cX5_isWritten 58 = .ok (.istore 4, 2) := by decide +kernel
theorem dX5_isWritten_60 : decode cX5_isWritten 60 = .ok (.iinc 5 1, 3) := by decide +kernel
theorem dX5_isWritten_63 : decode cX5_isWritten 63 = .ok (.goto (-57), 3) := by decide +kernel
theorem dX5_isWritten_66 : decode cX5_isWritten 66 = .ok (.iload 4, 2) := by decide +kernel
theorem dX5_isWritten_68 : decode cX5_isWritten 68 = .ok (.ireturn, 1) := by decide +kernel
theorem dX5_who_0 : decode cX5_who 0 = .ok (.iload_n 1, 1) := by decide +kernel
theorem dX5_who_1 : decode cX5_who 1 = .ok (.iconst 0, 1) := by decide +kernel
theorem dX5_who_2 : decode cX5_who 2 = .ok (.iconst 1, 1) := by decide +kernel
theorem dX5_who_3 : decode cX5_who 3 = .ok (.invokestatic 63, 3) := by decide +kernel
theorem dX5_who_6 : decode cX5_who 6 = .ok (.ifCond .ne 5, 3) := by decide +kernel
theorem dX5_who_9 : decode cX5_who 9 = .ok (.iconst (-1), 1) := by decide +kernel
theorem dX5_who_10 : decode cX5_who 10 = .ok (.ireturn, 1) := by decide +kernel
theorem dX5_who_11 : decode cX5_who 11 = .ok (.aload_n 0, 1) := by decide +kernel
theorem dX5_who_12 : decode cX5_who 12 = .ok (.invokevirtual 143, 3) := by decide +kernel
theorem dX5_who_15 : decode cX5_who 15 = .ok (.iconst 0, 1) := by decide +kernel
theorem dX5_who_16 : decode cX5_who 16 = .ok (.istore_n 2, 1) := by decide +kernel
theorem dX5_who_17 : decode cX5_who 17 = .ok (.bipush (-4), 2) := by decide +kernel
theorem dX5_who_19 : decode cX5_who 19 = .ok (.istore_n 3, 1) := by decide +kernel
theorem dX5_who_20 : decode cX5_who 20 = .ok (.aload_n 0, 1) := by decide +kernel
theorem dX5_who_21 : decode cX5_who 21 = .ok (.getfield 60, 3) := by decide +kernel
theorem dX5_who_24 : decode cX5_who 24 = .ok (.iconst 1, 1) := by decide +kernel
theorem dX5_who_25 : decode cX5_who 25 = .ok (.isub, 1) := by decide +kernel
theorem dX5_who_26 : decode cX5_who 26 = .ok (.istore 4, 2) := by decide +kernel
theorem dX5_who_28 : decode cX5_who 28 = .ok (.iload 4, 2) := by decide +kernel
theorem dX5_who_30 : decode cX5_who 30 = .ok (.ifCond .lt 108, 3) := by decide +kernel
theorem dX5_who_33 : decode cX5_who 33 = .ok (.aload_n 0, 1) := by decide +kernel
theorem dX5_who_34 : decode cX5_who 34 = .ok (.getfield 60, 3) := by decide +kernel
theorem dX5_who_37 : decode cX5_who 37 = .ok (.iconst 1, 1) := by decide +kernel
theorem dX5_who_38 : decode cX5_who 38 = .ok (.isub, 1) := by decide +kernel
theorem dX5_who_39 : decode cX5_who 39 = .ok (.istore 5, 2) := by decide +kernel
theorem dX5_who_41 : decode cX5_who 41 = .ok (.iload 5, 2) := by decide +kernel
theorem dX5_who_43 : decode cX5_who 43 = .ok (.ifCond .lt 89, 3) := by decide +kernel
theorem dX5_who_46 : decode cX5_who 46 = .ok (.bipush 10, 2) := by decide +kernel
theorem dX5_who_48 : decode cX5_who 48 = .ok (.istore 6, 2) := by decide +kernel
theorem dX5_who_50 : decode cX5_who 50 = .ok (.iload 6, 2) := by decide +kernel
theorem dX5_who_52 : decode cX5_who 52 = .ok (.ifCond .lt 74, 3) := by decide +kernel
theorem dX5_who_55 : decode cX5_who 55 = .ok (.iload 5, 2) := by decide +kernel
theorem dX5_who_57 : decode cX5_who 57 = .ok (.iload 4, 2) := by decide +kernel
theorem dX5_who_59 : decode cX5_who 59 = .ok (.if_icmp .eq 20, 3) := by decide +kernel
theorem dX5_who_62 : decode cX5_who 62 = .ok (.aload_n 0, 1) := by decide +kernel
theorem dX5_who_63 : decode cX5_who 63 = .ok (.iload 4, 2) := by decide +kernel
theorem dX5_who_65 : decode cX5_who 65 = .ok (.iload 5, 2) := by decide +kernel
theorem dX5_who_67 : decode cX5_who 67 = .ok (.iload 6, 2) := by decide +kernel
theorem dX5_who_69 : decode cX5_who 69 = .ok (.invokevirtual 163, 3) := by decide +kernel
theorem dX5_who_72 : decode cX5_who 72 = .ok (.ifCond .eq 7, 3) := by decide +kernel
theorem dX5_who_75 : decode cX5_who 75 = .ok (.iconst 1, 1) := by decide +kernel
theorem dX5_who_76 : decode cX5_who 76 = .ok (.goto 4, 3) := by decide +kernel
theorem dX5_who_79 : decode cX5_who 79 = .ok (.iconst 0, 1) := by decide +kernel
theorem dX5_who_80 : decode cX5_who 80 = .ok (.istore 7, 2) := by decide +kernel
theorem dX5_who_82 : decode cX5_who 82 = .ok (.iload_n 2, 1) := by decide +kernel
theorem dX5_who_83 : decode cX5_who 83 = .ok (.iload 7, 2) := by decide +kernel
theorem dX5_who_85 : decode cX5_who 85 = .ok (.ifCond .eq 7, 3) := by decide +kernel
theorem dX5_who_88 : decode cX5_who 88 = .ok (.iconst 1, 1) := by decide +kernel
theorem dX5_who_89 : decode cX5_who 89 = .ok (.goto 4, 3) := by decide +kernel
theorem dX5_who_92 : decode cX5_who 92 = .ok (.iconst 0, 1) := by decide +kernel
theorem dX5_who_93 : decode cX5_who 93 = .ok (.iadd, 1) := by decide +kernel
theorem dX5_who_94 : decode cX5_who 94 = .ok (.istore_n 2, 1) := by decide +kernel
theorem dX5_who_95 : decode cX5_who 95 = .ok (.iload 7, 2) := by decide +kernel
theorem dX5_who_97 : decode cX5_who 97 = .ok (.ifCond .eq 21, 3) := by decide +kernel
theorem dX5_who_100 : decode cX5_who 100 = .ok (.sipush 1000, 3) := by decide +kernel
theorem dX5_who_103 : decode cX5_who 103 = .ok (.iload 4, 2) := by decide +kernel
theorem dX5_who_105 : decode cX5_who 105 = .ok (.imul, 1) := by decide +kernel
theorem dX5_who_106 : decode cX5_who 106 = .ok (.bipush 100, 2) := by decide +kernel
theorem dX5_who_108 : decode cX5_who 108 = .ok (.iload 5, 2) := by decide +kernel
theorem dX5_who_110 : decode cX5_who 110 = .ok (.imul, 1) := by decide +kernel
theorem dX5_who_111 : decode cX5_who 111 = .ok (.iadd, 1) := by decide +kernel
theorem dX5_who_112 : decode cX5_who 112 = .ok (.iload 6, 2) := by decide +kernel
theorem dX5_who_114 : decode cX5_who 114 = .ok (.iadd, 1) := by decide +kernel
theorem dX5_who_115 : decode cX5_who 115 = .ok (.goto 4, 3) := by decide +kernel
theorem dX5_who_118 : decode cX5_who 118 = .ok (.iload_n 3, 1) := by decide +kernel
theorem dX5_who_119 : decode cX5_who 119 = .ok (.istore_n 3, 1) := by decide +kernel
theorem dX5_who_120 : decode cX5_who 120 = .ok (.iinc 6 (-1), 3) := by decide +kernel
theorem dX5_who_123 : decode cX5_who 123 = .ok (.goto (-73), 3) := by decide +kernel
theorem dX5_who_126 : decode cX5_who 126 = .ok (.iinc 5 (-1), 3) := by decide +kernel
theorem dX5_who_129 : decode cX5_who 129 = .ok (.goto (-88), 3) := by decide +kernel
theorem dX5_who_132 : decode cX5_who 132 = .ok (.iinc 4 (-1), 3) := by decide +kernel
theorem dX5_who_135 : decode cX5_who 135 = .ok (.goto (-107), 3) := by decide +kernel
theorem dX5_who_138 : decode cX5_who 138 = .ok (.iload_n 1, 1) := by decide +kernel
theorem dX5_who_139 : decode cX5_who 139 = .ok (.ifCond .ne 7, 3) := by decide +kernel
theorem dX5_who_142 : decode cX5_who 142 = .ok (.iload_n 2, 1) := by decide +kernel
theorem dX5_who_143 : decode cX5_who 143 = .ok (.goto 4, 3) := by decide +kernel
theorem dX5_who_146 : decode cX5_who 146 = .ok (.iload_n 3, 1) := by decide +kernel
theorem dX5_who_147 : decode cX5_who 147 = .ok (.ireturn, 1) := by decide +kernel
theorem dX5_views_0 : decode cX5_views 0 = .ok (.aload_n 0, 1) := by decide +kernel
theorem dX5_views_1 : decode cX5_views 1 = .ok (.iload_n 1, 1) := by decide +kernel
theorem dX5_views_2 : decode cX5_views 2 = .ok (.invokevirtual 131, 3) := by decide +kernel
theorem dX5_views_5 : decode cX5_views 5 = .ok (.ifCond .eq 20, 3) := by decide +kernel
theorem dX5_views_8 : decode cX5_views 8 = .ok (.iload_n 2, 1) := by decide +kernel
theorem dX5_views_9 : decode cX5_views 9 = .ok (.invokestatic 134, 3) := by decide +kernel
theorem dX5_views_12 : decode cX5_views 12 = .ok (.ifCond .eq 13, 3) := by decide +kernel
theorem dX5_views_15 : decode cX5_views 15 = .ok (.iload_n 3, 1) := by decide +kernel
theorem dX5_views_16 : decode cX5_views 16 = .ok (.iconst 0, 1) := by decide +kernel
theorem dX5_views_17 : decode cX5_views 17 = .ok (.bipush 10, 2) := by decide +kernel
theorem dX5_views_19 : decode cX5_views 19 = .ok (.invokestatic 63, 3) := by decide +kernel
theorem dX5_views_22 : decode cX5_views 22 = .ok (.ifCond .ne 5, 3) := by decide +kernel
theorem dX5_views_25 : decode cX5_views 25 = .ok (.iconst (-1), 1) := by decide +kernel
theorem dX5_views_26 : decode cX5_views 26 = .ok (.ireturn, 1) := by decide +kernel
theorem dX5_views_27 : decode cX5_views 27 = .ok (.aload_n 0, 1) := by decide +kernel
theorem dX5_views_28 : decode cX5_views 28 = .ok (.invokevirtual 143, 3) := by decide +kernel
theorem dX5_views_31 : decode cX5_views 31 = .ok (.iconst 0, 1) := by decide +kernel
theorem dX5_views_32 : decode cX5_views 32 = .ok (.istore 4, 2) := by decide +kernel
theorem dX5_views_34 : decode cX5_views 34 = .ok (.iconst 0, 1) := by decide +kernel
theorem dX5_views_35 : decode cX5_views 35 = .ok (.istore 5, 2) := by decide +kernel
theorem dX5_views_37 : decode cX5_views 37 = .ok (.iload 5, 2) := by decide +kernel
theorem dX5_views_39 : decode cX5_views 39 = .ok (.bipush 18, 2) := by decide +kernel
theorem dX5_views_41 : decode cX5_views 41 = .ok (.if_icmp .gt 57, 3) := by decide +kernel
theorem dX5_views_44 : decode cX5_views 44 = .ok (.aload_n 0, 1) := by decide +kernel
theorem dX5_views_45 : decode cX5_views 45 = .ok (.getfield 37, 3) := by decide +kernel
theorem dX5_views_48 : decode cX5_views 48 = .ok (.bipush 6, 2) := by decide +kernel
theorem dX5_views_50 : decode cX5_views 50 = .ok (.iconst 5, 1) := by decide +kernel
theorem dX5_views_51 : decode cX5_views 51 = .ok (.iload_n 1, 1) := by decide +kernel
theorem dX5_views_52 : decode cX5_views 52 = .ok (.imul, 1) := by decide +kernel
theorem dX5_views_53 : decode cX5_views 53 = .ok (.iadd, 1) := by decide +kernel
theorem dX5_views_54 : decode cX5_views 54 = .ok (.iload_n 2, 1) := by decide +kernel
theorem dX5_views_55 : decode cX5_views 55 = .ok (.iadd, 1) := by decide +kernel
theorem dX5_views_56 : decode cX5_views 56 = .ok (.iload 5, 2) := by decide +kernel
theorem dX5_views_58 : decode cX5_views 58 = .ok (.bipush 9, 2) := by decide +kernel
theorem dX5_views_60 : decode cX5_views 60 = .ok (.isub, 1) := by decide +kernel
theorem dX5_views_61 : decode cX5_views 61 = .ok (.iastore, 1) := by decide +kernel
theorem dX5_views_62 : decode cX5_views 62 = .ok (.iload 4, 2) := by decide +kernel
theorem dX5_views_64 : decode cX5_views 64 = .ok (.aload_n 0, 1) := by decide +kernel
theorem dX5_views_65 : decode cX5_views 65 = .ok (.iload_n 1, 1) := by decide +kernel
theorem dX5_views_66 : decode cX5_views 66 = .ok (.aload_n 0, 1) := by decide +kernel
theorem dX5_views_67 : decode cX5_views 67 = .ok (.getfield 37, 3) := by decide +kernel
theorem dX5_views_70 : decode cX5_views 70 = .ok (.iconst 0, 1) := by decide +kernel
theorem dX5_views_71 : decode cX5_views 71 = .ok (.iload_n 1, 1) := by decide +kernel
theorem dX5_views_72 : decode cX5_views 72 = .ok (.iadd, 1) := by decide +kernel
theorem dX5_views_73 : decode cX5_views 73 = .ok (.iaload, 1) := by decide +kernel
theorem dX5_views_74 : decode cX5_views 74 = .ok (.iload_n 3, 1) := by decide +kernel
theorem dX5_views_75 : decode cX5_views 75 = .ok (.invokevirtual 163, 3) := by decide +kernel
theorem dX5_views_78 : decode cX5_views 78 = .ok (.ifCond .eq 10, 3) := by decide +kernel
theorem dX5_views_81 : decode cX5_views 81 = .ok (.iconst 1, 1) := by decide +kernel
theorem dX5_views_82 : decode cX5_views 82 = .ok (.iload 5, 2) := by decide +kernel
theorem dX5_views_84 : decode cX5_views 84 = .ok (.ishl, 1) := by decide +kernel
theorem dX5_views_85 : decode cX5_views 85 = .ok (.goto 4, 3) := by decide +kernel
theorem dX5_views_88 : decode cX5_views 88 = .ok (.iconst 0, 1) := by decide +kernel
theorem dX5_views_89 : decode cX5_views 89 = .ok (.ior, 1) := by decide +kernel
theorem dX5_views_90 : decode cX5_views 90 = .ok (.istore 4, 2) := by decide +kernel
theorem dX5_views_92 : decode cX5_views 92 = .ok (.iinc 5 1, 3) := by decide +kernel
theorem dX5_views_95 : decode cX5_views 95 = .ok (.goto (-58), 3) := by decide +kernel
theorem dX5_views_98 : decode cX5_views 98 = .ok (.iload 4, 2) := by decide +kernel
theorem dX5_views_100 : decode cX5_views 100 = .ok (.ireturn, 1) := by decide +kernel
theorem dX5_drops_0 : decode cX5_drops 0 = .ok (.aload_n 0, 1) := by decide +kernel
theorem dX5_drops_1 : decode cX5_drops 1 = .ok (.iload_n 1, 1) := by decide +kernel
theorem dX5_drops_2 : decode cX5_drops 2 = .ok (.invokevirtual 131, 3) := by decide +kernel
theorem dX5_drops_5 : decode cX5_drops 5 = .ok (.ifCond .eq 41, 3) := by decide +kernel
theorem dX5_drops_8 : decode cX5_drops 8 = .ok (.iload_n 2, 1) := by decide +kernel
theorem dX5_drops_9 : decode cX5_drops 9 = .ok (.invokestatic 134, 3) := by decide +kernel
theorem dX5_drops_12 : decode cX5_drops 12 = .ok (.ifCond .eq 34, 3) := by decide +kernel
theorem dX5_drops_15 : decode cX5_drops 15 = .ok (.iload_n 3, 1) := by decide +kernel
theorem dX5_drops_16 : decode cX5_drops 16 = .ok (.iconst 0, 1) := by decide +kernel
theorem dX5_drops_17 : decode cX5_drops 17 = .ok (.bipush 18, 2) := by decide +kernel
theorem dX5_drops_19 : decode cX5_drops 19 = .ok (.invokestatic 63, 3) := by decide +kernel
theorem dX5_drops_22 : decode cX5_drops 22 = .ok (.ifCond .eq 24, 3) := by decide +kernel
theorem dX5_drops_25 : decode cX5_drops 25 = .ok (.iload 4, 2) := by decide +kernel
theorem dX5_drops_27 : decode cX5_drops 27 = .ok (.iconst 0, 1) := by decide +kernel
theorem dX5_drops_28 : decode cX5_drops 28 = .ok (.bipush 10, 2) := by decide +kernel
theorem dX5_drops_30 : decode cX5_drops 30 = .ok (.invokestatic 63, 3) := by decide +kernel
theorem dX5_drops_33 : decode cX5_drops 33 = .ok (.ifCond .eq 13, 3) := by decide +kernel
theorem dX5_drops_36 : decode cX5_drops 36 = .ok (.iload 5, 2) := by decide +kernel
theorem dX5_drops_38 : decode cX5_drops 38 = .ok (.iconst 0, 1) := by decide +kernel
theorem dX5_drops_39 : decode cX5_drops 39 = .ok (.iconst 1, 1) := by decide +kernel
theorem dX5_drops_40 : decode cX5_drops 40 = .ok (.invokestatic 63, 3) := by decide +kernel
theorem dX5_drops_43 : decode cX5_drops 43 = .ok (.ifCond .ne 7, 3) := by decide +kernel
theorem dX5_drops_46 : decode cX5_drops 46 = .ok (.ldc2_w 166, 3) := by decide +kernel
theorem dX5_drops_49 : decode cX5_drops 49 = .ok (.lreturn, 1) := by decide +kernel
theorem dX5_drops_50 : decode cX5_drops 50 = .ok (.aload_n 0, 1) := by decide +kernel
theorem dX5_drops_51 : decode cX5_drops 51 = .ok (.invokevirtual 143, 3) := by decide +kernel
theorem dX5_drops_54 : decode cX5_drops 54 = .ok (.lconst 0, 1) := by decide +kernel
theorem dX5_drops_55 : decode cX5_drops 55 = .ok (.lstore 6, 2) := by decide +kernel
theorem dX5_drops_57 : decode cX5_drops 57 = .ok (.iconst 0, 1) := by decide +kernel
theorem dX5_drops_58 : decode cX5_drops 58 = .ok (.istore 8, 2) := by decide +kernel
theorem dX5_drops_60 : decode cX5_drops 60 = .ok (.iload 8, 2) := by decide +kernel
theorem dX5_drops_62 : decode cX5_drops 62 = .ok (.bipush 10, 2) := by decide +kernel
theorem dX5_drops_64 : decode cX5_drops 64 = .ok (.if_icmp .gt 113, 3) := by decide +kernel
theorem dX5_drops_67 : decode cX5_drops 67 = .ok (.aload_n 0, 1) := by decide +kernel
theorem dX5_drops_68 : decode cX5_drops 68 = .ok (.iload_n 1, 1) := by decide +kernel
theorem dX5_drops_69 : decode cX5_drops 69 = .ok (.aload_n 0, 1) := by decide +kernel
theorem dX5_drops_70 : decode cX5_drops 70 = .ok (.getfield 37, 3) := by decide +kernel
theorem dX5_drops_73 : decode cX5_drops 73 = .ok (.iconst 0, 1) := by decide +kernel
theorem dX5_drops_74 : decode cX5_drops 74 = .ok (.iload_n 1, 1) := by decide +kernel
theorem dX5_drops_75 : decode cX5_drops 75 = .ok (.iadd, 1) := by decide +kernel
theorem dX5_drops_76 : decode cX5_drops 76 = .ok (.iaload, 1) := by decide +kernel
theorem dX5_drops_77 : decode cX5_drops 77 = .ok (.iload_n 2, 1) := by decide +kernel
theorem dX5_drops_78 : decode cX5_drops 78 = .ok (.iload 8, 2) := by decide +kernel
theorem dX5_drops_80 : decode cX5_drops 80 = .ok (.invokevirtual 146, 3) := by decide +kernel
theorem dX5_drops_83 : decode cX5_drops 83 = .ok (.iload_n 3, 1) := by decide +kernel
theorem dX5_drops_84 : decode cX5_drops 84 = .ok (.bipush 9, 2) := by decide +kernel
theorem dX5_drops_86 : decode cX5_drops 86 = .ok (.isub, 1) := by decide +kernel
theorem dX5_drops_87 : decode cX5_drops 87 = .ok (.if_icmp .ne 84, 3) := by decide +kernel
theorem dX5_drops_90 : decode cX5_drops 90 = .ok (.lconst 1, 1) := by decide +kernel
theorem dX5_drops_91 : decode cX5_drops 91 = .ok (.lstore 9, 2) := by decide +kernel
theorem dX5_drops_93 : decode cX5_drops 93 = .ok (.iconst 1, 1) := by decide +kernel
theorem dX5_drops_94 : decode cX5_drops 94 = .ok (.istore 11, 2) := by decide +kernel
theorem dX5_drops_96 : decode cX5_drops 96 = .ok (.iload 11, 2) := by decide +kernel
theorem dX5_drops_98 : decode cX5_drops 98 = .ok (.iload 8, 2) := by decide +kernel
theorem dX5_drops_100 : decode cX5_drops 100 = .ok (.if_icmp .gt 24, 3) := by decide +kernel
theorem dX5_drops_103 : decode cX5_drops 103 = .ok (.lload 9, 2) := by decide +kernel
theorem dX5_drops_105 : decode cX5_drops 105 = .ok (.bipush 11, 2) := by decide +kernel
theorem dX5_drops_107 : decode cX5_drops 107 = .ok (.iload 11, 2) := by decide +kernel
theorem dX5_drops_109 : decode cX5_drops 109 = .ok (.isub, 1) := by decide +kernel
theorem dX5_drops_110 : decode cX5_drops 110 = .ok (.i2l, 1) := by decide +kernel
theorem dX5_drops_111 : decode cX5_drops 111 = .ok (.lmul, 1) := by decide +kernel
theorem dX5_drops_112 : decode cX5_drops 112 = .ok (.iload 11, 2) := by decide +kernel
theorem dX5_drops_114 : decode cX5_drops 114 = .ok (.i2l, 1) := by decide +kernel
theorem dX5_drops_115 : decode cX5_drops 115 = .ok (.ldiv, 1) := by decide +kernel
theorem dX5_drops_116 : decode cX5_drops 116 = .ok (.lstore 9, 2) := by decide +kernel
theorem dX5_drops_118 : decode cX5_drops 118 = .ok (.iinc 11 1, 3) := by decide +kernel
theorem dX5_drops_121 : decode cX5_drops 121 = .ok (.goto (-25), 3) := by decide +kernel
theorem dX5_drops_124 : decode cX5_drops 124 = .ok (.iconst 0, 1) := by decide +kernel
theorem dX5_drops_125 : decode cX5_drops 125 = .ok (.istore 11, 2) := by decide +kernel
theorem dX5_drops_127 : decode cX5_drops 127 = .ok (.iload 11, 2) := by decide +kernel
theorem dX5_drops_129 : decode cX5_drops 129 = .ok (.bipush 10, 2) := by decide +kernel
theorem dX5_drops_131 : decode cX5_drops 131 = .ok (.if_icmp .ge 33, 3) := by decide +kernel
theorem dX5_drops_134 : decode cX5_drops 134 = .ok (.lload 9, 2) := by decide +kernel
theorem dX5_drops_136 : decode cX5_drops 136 = .ok (.iload 11, 2) := by decide +kernel
theorem dX5_drops_138 : decode cX5_drops 138 = .ok (.iload 8, 2) := by decide +kernel
theorem dX5_drops_140 : decode cX5_drops 140 = .ok (.if_icmp .ge 9, 3) := by decide +kernel
theorem dX5_drops_143 : decode cX5_drops 143 = .ok (.iload 4, 2) := by decide +kernel
theorem dX5_drops_145 : decode cX5_drops 145 = .ok (.i2l, 1) := by decide +kernel
theorem dX5_drops_146 : decode cX5_drops 146 = .ok (.goto 9, 3) := by decide +kernel
theorem dX5_drops_149 : decode cX5_drops 149 = .ok (.bipush 10, 2) := by decide +kernel
theorem dX5_drops_151 : decode cX5_drops 151 = .ok (.iload 4, 2) := by decide +kernel
theorem dX5_drops_153 : decode cX5_drops 153 = .ok (.isub, 1) := by decide +kernel
theorem dX5_drops_154 : decode cX5_drops 154 = .ok (.i2l, 1) := by decide +kernel
theorem dX5_drops_155 : decode cX5_drops 155 = .ok (.lmul, 1) := by decide +kernel
theorem dX5_drops_156 : decode cX5_drops 156 = .ok (.lstore 9, 2) := by decide +kernel
theorem dX5_drops_158 : decode cX5_drops 158 = .ok (.iinc 11 1, 3) := by decide +kernel
theorem dX5_drops_161 : decode cX5_drops 161 = .ok (.goto (-34), 3) := by decide +kernel
theorem dX5_drops_164 : decode cX5_drops 164 = .ok (.lload 6, 2) := by decide +kernel
theorem dX5_drops_166 : decode cX5_drops 166 = .ok (.lload 9, 2) := by decide +kernel
theorem dX5_drops_168 : decode cX5_drops 168 = .ok (.ladd, 1) := by decide +kernel
theorem dX5_drops_169 : decode cX5_drops 169 = .ok (.lstore 6, 2) := by decide +kernel
theorem dX5_drops_171 : decode cX5_drops 171 = .ok (.iinc 8 1, 3) := by decide +kernel
theorem dX5_drops_174 : decode cX5_drops 174 = .ok (.goto (-114), 3) := by decide +kernel
theorem dX5_drops_177 : decode cX5_drops 177 = .ok (.lload 6, 2) := by decide +kernel
theorem dX5_drops_179 : decode cX5_drops 179 = .ok (.lstore 8, 2) := by decide +kernel
theorem dX5_drops_181 : decode cX5_drops 181 = .ok (.ldc2_w 168, 3) := by decide +kernel
theorem dX5_drops_184 : decode cX5_drops 184 = .ok (.lstore 10, 2) := by decide +kernel
theorem dX5_drops_186 : decode cX5_drops 186 = .ok (.lload 10, 2) := by decide +kernel
theorem dX5_drops_188 : decode cX5_drops 188 = .ok (.lconst 0, 1) := by decide +kernel
theorem dX5_drops_189 : decode cX5_drops 189 = .ok (.lcmp, 1) := by decide +kernel
theorem dX5_drops_190 : decode cX5_drops 190 = .ok (.ifCond .le 21, 3) := by decide +kernel
theorem dX5_drops_193 : decode cX5_drops 193 = .ok (.lload 8, 2) := by decide +kernel
theorem dX5_drops_195 : decode cX5_drops 195 = .ok (.lload 10, 2) := by decide +kernel
theorem dX5_drops_197 : decode cX5_drops 197 = .ok (.lrem, 1) := by decide +kernel
theorem dX5_drops_198 : decode cX5_drops 198 = .ok (.lstore 12, 2) := by decide +kernel
theorem dX5_drops_200 : decode cX5_drops 200 = .ok (.lload 10, 2) := by decide +kernel
theorem dX5_drops_202 : decode cX5_drops 202 = .ok (.lstore 8, 2) := by decide +kernel
theorem dX5_drops_204 : decode cX5_drops 204 = .ok (.lload 12, 2) := by decide +kernel
theorem dX5_drops_206 : decode cX5_drops 206 = .ok (.lstore 10, 2) := by decide +kernel
theorem dX5_drops_208 : decode cX5_drops 208 = .ok (.goto (-22), 3) := by decide +kernel
theorem dX5_drops_211 : decode cX5_drops 211 = .ok (.iload 5, 2) := by decide +kernel
theorem dX5_drops_213 : decode cX5_drops 213 = .ok (.ifCond .ne 8, 3) := by decide +kernel
theorem dX5_drops_216 : decode cX5_drops 216 = .ok (.lload 6, 2) := by decide +kernel
theorem dX5_drops_218 : decode cX5_drops 218 = .ok (.goto 6, 3) := by decide +kernel
theorem dX5_drops_221 : decode cX5_drops 221 = .ok (.ldc2_w 168, 3) := by decide +kernel
theorem dX5_drops_224 : decode cX5_drops 224 = .ok (.lload 8, 2) := by decide +kernel
theorem dX5_drops_226 : decode cX5_drops 226 = .ok (.ldiv, 1) := by decide +kernel
theorem dX5_drops_227 : decode cX5_drops 227 = .ok (.lreturn, 1) := by decide +kernel
theorem dX5_weeks_0 : decode cX5_weeks 0 = .ok (.iload_n 1, 1) := by decide +kernel
theorem dX5_weeks_1 : decode cX5_weeks 1 = .ok (.iconst 0, 1) := by decide +kernel
theorem dX5_weeks_2 : decode cX5_weeks 2 = .ok (.sipush 9999, 3) := by decide +kernel
theorem dX5_weeks_5 : decode cX5_weeks 5 = .ok (.invokestatic 63, 3) := by decide +kernel
theorem dX5_weeks_8 : decode cX5_weeks 8 = .ok (.ifCond .eq 22, 3) := by decide +kernel
theorem dX5_weeks_11 : decode cX5_weeks 11 = .ok (.iload_n 2, 1) := by decide +kernel
theorem dX5_weeks_12 : decode cX5_weeks 12 = .ok (.iconst 1, 1) := by decide +kernel
theorem dX5_weeks_13 : decode cX5_weeks 13 = .ok (.bipush 60, 2) := by decide +kernel
theorem dX5_weeks_15 : decode cX5_weeks 15 = .ok (.invokestatic 63, 3) := by decide +kernel
theorem dX5_weeks_18 : decode cX5_weeks 18 = .ok (.ifCond .eq 12, 3) := by decide +kernel
theorem dX5_weeks_21 : decode cX5_weeks 21 = .ok (.iload_n 3, 1) := by decide +kernel
theorem dX5_weeks_22 : decode cX5_weeks 22 = .ok (.iconst 0, 1) := by decide +kernel
theorem dX5_weeks_23 : decode cX5_weeks 23 = .ok (.iconst 1, 1) := by decide +kernel
theorem dX5_weeks_24 : decode cX5_weeks 24 = .ok (.invokestatic 63, 3) := by decide +kernel
theorem dX5_weeks_27 : decode cX5_weeks 27 = .ok (.ifCond .ne 5, 3) := by decide +kernel
theorem dX5_weeks_30 : decode cX5_weeks 30 = .ok (.iconst (-1), 1) := by decide +kernel
theorem dX5_weeks_31 : decode cX5_weeks 31 = .ok (.ireturn, 1) := by decide +kernel
theorem dX5_weeks_32 : decode cX5_weeks 32 = .ok (.aload_n 0, 1) := by decide +kernel
theorem dX5_weeks_33 : decode cX5_weeks 33 = .ok (.invokevirtual 143, 3) := by decide +kernel
theorem dX5_weeks_36 : decode cX5_weeks 36 = .ok (.iconst 0, 1) := by decide +kernel
theorem dX5_weeks_37 : decode cX5_weeks 37 = .ok (.istore 4, 2) := by decide +kernel
theorem dX5_weeks_39 : decode cX5_weeks 39 = .ok (.iload 4, 2) := by decide +kernel
theorem dX5_weeks_41 : decode cX5_weeks 41 = .ok (.iload_n 2, 1) := by decide +kernel
theorem dX5_weeks_42 : decode cX5_weeks 42 = .ok (.if_icmp .ge 109, 3) := by decide +kernel
theorem dX5_weeks_45 : decode cX5_weeks 45 = .ok (.ldc2_w 170, 3) := by decide +kernel
theorem dX5_weeks_48 : decode cX5_weeks 48 = .ok (.iload_n 1, 1) := by decide +kernel
theorem dX5_weeks_49 : decode cX5_weeks 49 = .ok (.i2l, 1) := by decide +kernel
theorem dX5_weeks_50 : decode cX5_weeks 50 = .ok (.lmul, 1) := by decide +kernel
theorem dX5_weeks_51 : decode cX5_weeks 51 = .ok (.ldc2_w 172, 3) := by decide +kernel
theorem dX5_weeks_54 : decode cX5_weeks 54 = .ok (.iload 4, 2) := by decide +kernel
theorem dX5_weeks_56 : decode cX5_weeks 56 = .ok (.i2l, 1) := by decide +kernel
theorem dX5_weeks_57 : decode cX5_weeks 57 = .ok (.lmul, 1) := by decide +kernel
theorem dX5_weeks_58 : decode cX5_weeks 58 = .ok (.ladd, 1) := by decide +kernel
theorem dX5_weeks_59 : decode cX5_weeks 59 = .ok (.lconst 1, 1) := by decide +kernel
theorem dX5_weeks_60 : decode cX5_weeks 60 = .ok (.ladd, 1) := by decide +kernel
theorem dX5_weeks_61 : decode cX5_weeks 61 = .ok (.lstore 5, 2) := by decide +kernel
theorem dX5_weeks_63 : decode cX5_weeks 63 = .ok (.lload 5, 2) := by decide +kernel
theorem dX5_weeks_65 : decode cX5_weeks 65 = .ok (.lload 5, 2) := by decide +kernel
theorem dX5_weeks_67 : decode cX5_weeks 67 = .ok (.lmul, 1) := by decide +kernel
theorem dX5_weeks_68 : decode cX5_weeks 68 = .ok (.ldc2_w 174, 3) := by decide +kernel
theorem dX5_weeks_71 : decode cX5_weeks 71 = .ok (.lrem, 1) := by decide +kernel
theorem dX5_weeks_72 : decode cX5_weeks 72 = .ok (.ldc2_w 176, 3) := by decide +kernel
theorem dX5_weeks_75 : decode cX5_weeks 75 = .ok (.ldiv, 1) := by decide +kernel
theorem dX5_weeks_76 : decode cX5_weeks 76 = .ok (.l2i, 1) := by decide +kernel
theorem dX5_weeks_77 : decode cX5_weeks 77 = .ok (.istore 7, 2) := by decide +kernel
theorem dX5_weeks_79 : decode cX5_weeks 79 = .ok (.iload 7, 2) := by decide +kernel
theorem dX5_weeks_81 : decode cX5_weeks 81 = .ok (.aload_n 0, 1) := by decide +kernel
theorem dX5_weeks_82 : decode cX5_weeks 82 = .ok (.getfield 60, 3) := by decide +kernel
theorem dX5_weeks_85 : decode cX5_weeks 85 = .ok (.irem, 1) := by decide +kernel
theorem dX5_weeks_86 : decode cX5_weeks 86 = .ok (.istore 8, 2) := by decide +kernel
theorem dX5_weeks_88 : decode cX5_weeks 88 = .ok (.iload 7, 2) := by decide +kernel
theorem dX5_weeks_90 : decode cX5_weeks 90 = .ok (.bipush 8, 2) := by decide +kernel
theorem dX5_weeks_92 : decode cX5_weeks 92 = .ok (.idiv, 1) := by decide +kernel
theorem dX5_weeks_93 : decode cX5_weeks 93 = .ok (.iconst 5, 1) := by decide +kernel
theorem dX5_weeks_94 : decode cX5_weeks 94 = .ok (.irem, 1) := by decide +kernel
theorem dX5_weeks_95 : decode cX5_weeks 95 = .ok (.istore 9, 2) := by decide +kernel
theorem dX5_weeks_97 : decode cX5_weeks 97 = .ok (.aload_n 0, 1) := by decide +kernel
theorem dX5_weeks_98 : decode cX5_weeks 98 = .ok (.getfield 37, 3) := by decide +kernel
theorem dX5_weeks_101 : decode cX5_weeks 101 = .ok (.bipush 36, 2) := by decide +kernel
theorem dX5_weeks_103 : decode cX5_weeks 103 = .ok (.iconst 5, 1) := by decide +kernel
theorem dX5_weeks_104 : decode cX5_weeks 104 = .ok (.iload 4, 2) := by decide +kernel
theorem dX5_weeks_106 : decode cX5_weeks 106 = .ok (.aload_n 0, 1) := by decide +kernel
theorem dX5_weeks_107 : decode cX5_weeks 107 = .ok (.getfield 67, 3) := by decide +kernel
theorem dX5_weeks_110 : decode cX5_weeks 110 = .ok (.irem, 1) := by decide +kernel
theorem dX5_weeks_111 : decode cX5_weeks 111 = .ok (.imul, 1) := by decide +kernel
theorem dX5_weeks_112 : decode cX5_weeks 112 = .ok (.iadd, 1) := by decide +kernel
theorem dX5_weeks_113 : decode cX5_weeks 113 = .ok (.iload 9, 2) := by decide +kernel
theorem dX5_weeks_115 : decode cX5_weeks 115 = .ok (.iadd, 1) := by decide +kernel
theorem dX5_weeks_116 : decode cX5_weeks 116 = .ok (.aload_n 0, 1) := by decide +kernel
theorem dX5_weeks_117 : decode cX5_weeks 117 = .ok (.iload 8, 2) := by decide +kernel
theorem dX5_weeks_119 : decode cX5_weeks 119 = .ok (.aload_n 0, 1) := by decide +kernel
theorem dX5_weeks_120 : decode cX5_weeks 120 = .ok (.getfield 37, 3) := by decide +kernel
theorem dX5_weeks_123 : decode cX5_weeks 123 = .ok (.iconst 0, 1) := by decide +kernel
theorem dX5_weeks_124 : decode cX5_weeks 124 = .ok (.iload 8, 2) := by decide +kernel
theorem dX5_weeks_126 : decode cX5_weeks 126 = .ok (.iadd, 1) := by decide +kernel
theorem dX5_weeks_127 : decode cX5_weeks 127 = .ok (.iaload, 1) := by decide +kernel
theorem dX5_weeks_128 : decode cX5_weeks 128 = .ok (.iload 9, 2) := by decide +kernel
theorem dX5_weeks_130 : decode cX5_weeks 130 = .ok (.iload 7, 2) := by decide +kernel
theorem dX5_weeks_132 : decode cX5_weeks 132 = .ok (.bipush 64, 2) := by decide +kernel
theorem dX5_weeks_134 : decode cX5_weeks 134 = .ok (.idiv, 1) := by decide +kernel
theorem dX5_weeks_135 : decode cX5_weeks 135 = .ok (.bipush 11, 2) := by decide +kernel
theorem dX5_weeks_137 : decode cX5_weeks 137 = .ok (.irem, 1) := by decide +kernel
theorem dX5_weeks_138 : decode cX5_weeks 138 = .ok (.invokevirtual 146, 3) := by decide +kernel
theorem dX5_weeks_141 : decode cX5_weeks 141 = .ok (.bipush 10, 2) := by decide +kernel
theorem dX5_weeks_143 : decode cX5_weeks 143 = .ok (.iadd, 1) := by decide +kernel
theorem dX5_weeks_144 : decode cX5_weeks 144 = .ok (.iastore, 1) := by decide +kernel
theorem dX5_weeks_145 : decode cX5_weeks 145 = .ok (.iinc 4 1, 3) := by decide +kernel
theorem dX5_weeks_148 : decode cX5_weeks 148 = .ok (.goto (-109), 3) := by decide +kernel
theorem dX5_weeks_151 : decode cX5_weeks 151 = .ok (.iconst 0, 1) := by decide +kernel
theorem dX5_weeks_152 : decode cX5_weeks 152 = .ok (.istore 4, 2) := by decide +kernel
theorem dX5_weeks_154 : decode cX5_weeks 154 = .ok (.sipush 500, 3) := by decide +kernel
theorem dX5_weeks_157 : decode cX5_weeks 157 = .ok (.istore 5, 2) := by decide +kernel
theorem dX5_weeks_159 : decode cX5_weeks 159 = .ok (.iconst 0, 1) := by decide +kernel
theorem dX5_weeks_160 : decode cX5_weeks 160 = .ok (.istore 6, 2) := by decide +kernel
theorem dX5_weeks_162 : decode cX5_weeks 162 = .ok (.iload 6, 2) := by decide +kernel
theorem dX5_weeks_164 : decode cX5_weeks 164 = .ok (.aload_n 0, 1) := by decide +kernel
theorem dX5_weeks_165 : decode cX5_weeks 165 = .ok (.getfield 67, 3) := by decide +kernel
theorem dX5_weeks_168 : decode cX5_weeks 168 = .ok (.if_icmp .ge 71, 3) := by decide +kernel
theorem dX5_weeks_171 : decode cX5_weeks 171 = .ok (.iload 4, 2) := by decide +kernel
theorem dX5_weeks_173 : decode cX5_weeks 173 = .ok (.aload_n 0, 1) := by decide +kernel
theorem dX5_weeks_174 : decode cX5_weeks 174 = .ok (.iload 6, 2) := by decide +kernel
theorem dX5_weeks_176 : decode cX5_weeks 176 = .ok (.invokevirtual 157, 3) := by decide +kernel
theorem dX5_weeks_179 : decode cX5_weeks 179 = .ok (.iadd, 1) := by decide +kernel
theorem dX5_weeks_180 : decode cX5_weeks 180 = .ok (.istore 4, 2) := by decide +kernel
theorem dX5_weeks_182 : decode cX5_weeks 182 = .ok (.iconst 0, 1) := by decide +kernel
theorem dX5_weeks_183 : decode cX5_weeks 183 = .ok (.istore 7, 2) := by decide +kernel
theorem dX5_weeks_185 : decode cX5_weeks 185 = .ok (.iload 7, 2) := by decide +kernel
theorem dX5_weeks_187 : decode cX5_weeks 187 = .ok (.iconst 5, 1) := by decide +kernel
theorem dX5_weeks_188 : decode cX5_weeks 188 = .ok (.if_icmp .ge 45, 3) := by decide +kernel
theorem dX5_weeks_191 : decode cX5_weeks 191 = .ok (.aload_n 0, 1) := by decide +kernel
theorem dX5_weeks_192 : decode cX5_weeks 192 = .ok (.getfield 37, 3) := by decide +kernel
theorem dX5_weeks_195 : decode cX5_weeks 195 = .ok (.bipush 36, 2) := by decide +kernel
theorem dX5_weeks_197 : decode cX5_weeks 197 = .ok (.iconst 5, 1) := by decide +kernel
theorem dX5_weeks_198 : decode cX5_weeks 198 = .ok (.iload 6, 2) := by decide +kernel
theorem dX5_weeks_200 : decode cX5_weeks 200 = .ok (.imul, 1) := by decide +kernel
theorem dX5_weeks_201 : decode cX5_weeks 201 = .ok (.iadd, 1) := by decide +kernel
theorem dX5_weeks_202 : decode cX5_weeks 202 = .ok (.iload 7, 2) := by decide +kernel
theorem dX5_weeks_204 : decode cX5_weeks 204 = .ok (.iadd, 1) := by decide +kernel
theorem dX5_weeks_205 : decode cX5_weeks 205 = .ok (.iaload, 1) := by decide +kernel
theorem dX5_weeks_206 : decode cX5_weeks 206 = .ok (.istore 8, 2) := by decide +kernel
theorem dX5_weeks_208 : decode cX5_weeks 208 = .ok (.iload 5, 2) := by decide +kernel
theorem dX5_weeks_210 : decode cX5_weeks 210 = .ok (.iload 8, 2) := by decide +kernel
theorem dX5_weeks_212 : decode cX5_weeks 212 = .ok (.ifCond .ne 7, 3) := by decide +kernel
theorem dX5_weeks_215 : decode cX5_weeks 215 = .ok (.iconst 0, 1) := by decide +kernel
theorem dX5_weeks_216 : decode cX5_weeks 216 = .ok (.goto 8, 3) := by decide +kernel
theorem dX5_weeks_219 : decode cX5_weeks 219 = .ok (.iload 8, 2) := by decide +kernel
theorem dX5_weeks_221 : decode cX5_weeks 221 = .ok (.bipush 10, 2) := by decide +kernel
theorem dX5_weeks_223 : decode cX5_weeks 223 = .ok (.isub, 1) := by decide +kernel
theorem dX5_weeks_224 : decode cX5_weeks 224 = .ok (.iadd, 1) := by decide +kernel
theorem dX5_weeks_225 : decode cX5_weeks 225 = .ok (.istore 5, 2) := by decide +kernel
theorem dX5_weeks_227 : decode cX5_weeks 227 = .ok (.iinc 7 1, 3) := by decide +kernel
theorem dX5_weeks_230 : decode cX5_weeks 230 = .ok (.goto (-45), 3) := by decide +kernel
theorem dX5_weeks_233 : decode cX5_weeks 233 = .ok (.iinc 6 1, 3) := by decide +kernel
theorem dX5_weeks_236 : decode cX5_weeks 236 = .ok (.goto (-74), 3) := by decide +kernel
theorem dX5_weeks_239 : decode cX5_weeks 239 = .ok (.iload_n 3, 1) := by decide +kernel
theorem dX5_weeks_240 : decode cX5_weeks 240 = .ok (.ifCond .ne 8, 3) := by decide +kernel
theorem dX5_weeks_243 : decode cX5_weeks 243 = .ok (.iload 4, 2) := by decide +kernel
theorem dX5_weeks_245 : decode cX5_weeks 245 = .ok (.goto 5, 3) := by decide +kernel
theorem dX5_weeks_248 : decode cX5_weeks 248 = .ok (.iload 5, 2) := by decide +kernel
theorem dX5_weeks_250 : decode cX5_weeks 250 = .ok (.ireturn, 1) := by decide +kernel
theorem dX5_keep_0 : decode cX5_keep 0 = .ok (.aload_n 0, 1) := by decide +kernel
theorem dX5_keep_1 : decode cX5_keep 1 = .ok (.getfield 114, 3) := by decide +kernel
theorem dX5_keep_4 : decode cX5_keep 4 = .ok (.iconst 2, 1) := by decide +kernel
theorem dX5_keep_5 : decode cX5_keep 5 = .ok (.if_icmp .ne 6, 3) := by decide +kernel
theorem dX5_keep_8 : decode cX5_keep 8 = .ok (.bipush (-3), 2) := by decide +kernel
theorem dX5_keep_10 : decode cX5_keep 10 = .ok (.ireturn, 1) := by decide +kernel
theorem dX5_keep_11 : decode cX5_keep 11 = .ok (.aload_n 0, 1) := by decide +kernel
theorem dX5_keep_12 : decode cX5_keep 12 = .ok (.getfield 19, 3) := by decide +kernel
theorem dX5_keep_15 : decode cX5_keep 15 = .ok (.bipush 61, 2) := by decide +kernel
theorem dX5_keep_17 : decode cX5_keep 17 = .ok (.aload_n 0, 1) := by decide +kernel
theorem dX5_keep_18 : decode cX5_keep 18 = .ok (.getfield 114, 3) := by decide +kernel
theorem dX5_keep_21 : decode cX5_keep 21 = .ok (.imul, 1) := by decide +kernel
theorem dX5_keep_22 : decode cX5_keep 22 = .ok (.aload_n 0, 1) := by decide +kernel
theorem dX5_keep_23 : decode cX5_keep 23 = .ok (.getfield 13, 3) := by decide +kernel
theorem dX5_keep_26 : decode cX5_keep 26 = .ok (.iconst 0, 1) := by decide +kernel
theorem dX5_keep_27 : decode cX5_keep 27 = .ok (.invokestatic 107, 3) := by decide +kernel
theorem dX5_keep_30 : decode cX5_keep 30 = .ok (.aload_n 0, 1) := by decide +kernel
theorem dX5_keep_31 : decode cX5_keep 31 = .ok (.dup, 1) := by decide +kernel
theorem dX5_keep_32 : decode cX5_keep 32 = .ok (.getfield 114, 3) := by decide +kernel
theorem dX5_keep_35 : decode cX5_keep 35 = .ok (.iconst 1, 1) := by decide +kernel
theorem dX5_keep_36 : decode cX5_keep 36 = .ok (.iadd, 1) := by decide +kernel
theorem dX5_keep_37 : decode cX5_keep 37 = .ok (.putfield 114, 3) := by decide +kernel
theorem dX5_keep_40 : decode cX5_keep 40 = .ok (.aload_n 0, 1) := by decide +kernel
theorem dX5_keep_41 : decode cX5_keep 41 = .ok (.getfield 114, 3) := by decide +kernel
theorem dX5_keep_44 : decode cX5_keep 44 = .ok (.ireturn, 1) := by decide +kernel
theorem dX5_back_0 : decode cX5_back 0 = .ok (.aload_n 0, 1) := by decide +kernel
theorem dX5_back_1 : decode cX5_back 1 = .ok (.getfield 114, 3) := by decide +kernel
theorem dX5_back_4 : decode cX5_back 4 = .ok (.ifCond .ne 6, 3) := by decide +kernel
theorem dX5_back_7 : decode cX5_back 7 = .ok (.bipush (-2), 2) := by decide +kernel
theorem dX5_back_9 : decode cX5_back 9 = .ok (.ireturn, 1) := by decide +kernel
theorem dX5_back_10 : decode cX5_back 10 = .ok (.aload_n 0, 1) := by decide +kernel
theorem dX5_back_11 : decode cX5_back 11 = .ok (.dup, 1) := by decide +kernel
theorem dX5_back_12 : decode cX5_back 12 = .ok (.getfield 114, 3) := by decide +kernel
theorem dX5_back_15 : decode cX5_back 15 = .ok (.iconst 1, 1) := by decide +kernel
theorem dX5_back_16 : decode cX5_back 16 = .ok (.isub, 1) := by decide +kernel
theorem dX5_back_17 : decode cX5_back 17 = .ok (.putfield 114, 3) := by decide +kernel
theorem dX5_back_20 : decode cX5_back 20 = .ok (.aload_n 0, 1) := by decide +kernel
theorem dX5_back_21 : decode cX5_back 21 = .ok (.getfield 13, 3) := by decide +kernel
theorem dX5_back_24 : decode cX5_back 24 = .ok (.iconst 0, 1) := by decide +kernel
theorem dX5_back_25 : decode cX5_back 25 = .ok (.aload_n 0, 1) := by decide +kernel
theorem dX5_back_26 : decode cX5_back 26 = .ok (.getfield 19, 3) := by decide +kernel
theorem dX5_back_29 : decode cX5_back 29 = .ok (.bipush 61, 2) := by decide +kernel
theorem dX5_back_31 : decode cX5_back 31 = .ok (.aload_n 0, 1) := by decide +kernel
theorem dX5_back_32 : decode cX5_back 32 = .ok (.getfield 114, 3) := by decide +kernel
theorem dX5_back_35 : decode cX5_back 35 = .ok (.imul, 1) := by decide +kernel
theorem dX5_back_36 : decode cX5_back 36 = .ok (.invokestatic 107, 3) := by decide +kernel
theorem dX5_back_39 : decode cX5_back 39 = .ok (.aload_n 0, 1) := by decide +kernel
theorem dX5_back_40 : decode cX5_back 40 = .ok (.iconst 0, 1) := by decide +kernel
theorem dX5_back_41 : decode cX5_back 41 = .ok (.putfield 111, 3) := by decide +kernel
theorem dX5_back_44 : decode cX5_back 44 = .ok (.aload_n 0, 1) := by decide +kernel
theorem dX5_back_45 : decode cX5_back 45 = .ok (.getfield 114, 3) := by decide +kernel
theorem dX5_back_48 : decode cX5_back 48 = .ok (.ireturn, 1) := by decide +kernel
theorem dX5_count_0 : decode cX5_count 0 = .ok (.aload_n 0, 1) := by decide +kernel
theorem dX5_count_1 : decode cX5_count 1 = .ok (.invokevirtual 143, 3) := by decide +kernel
theorem dX5_count_4 : decode cX5_count 4 = .ok (.iconst 0, 1) := by decide +kernel
theorem dX5_count_5 : decode cX5_count 5 = .ok (.istore_n 2, 1) := by decide +kernel
theorem dX5_count_6 : decode cX5_count 6 = .ok (.iconst 0, 1) := by decide +kernel
theorem dX5_count_7 : decode cX5_count 7 = .ok (.istore_n 3, 1) := by decide +kernel
theorem dX5_count_8 : decode cX5_count 8 = .ok (.iload_n 3, 1) := by decide +kernel
theorem dX5_count_9 : decode cX5_count 9 = .ok (.aload_n 0, 1) := by decide +kernel
theorem dX5_count_10 : decode cX5_count 10 = .ok (.getfield 67, 3) := by decide +kernel
theorem dX5_count_13 : decode cX5_count 13 = .ok (.if_icmp .ge 17, 3) := by decide +kernel
theorem dX5_count_16 : decode cX5_count 16 = .ok (.iload_n 2, 1) := by decide +kernel
theorem dX5_count_17 : decode cX5_count 17 = .ok (.aload_n 0, 1) := by decide +kernel
theorem dX5_count_18 : decode cX5_count 18 = .ok (.iload_n 3, 1) := by decide +kernel
theorem dX5_count_19 : decode cX5_count 19 = .ok (.invokevirtual 157, 3) := by decide +kernel
theorem dX5_count_22 : decode cX5_count 22 = .ok (.iadd, 1) := by decide +kernel
theorem dX5_count_23 : decode cX5_count 23 = .ok (.istore_n 2, 1) := by decide +kernel
theorem dX5_count_24 : decode cX5_count 24 = .ok (.iinc 3 1, 3) := by decide +kernel
theorem dX5_count_27 : decode cX5_count 27 = .ok (.goto (-19), 3) := by decide +kernel
theorem dX5_count_30 : decode cX5_count 30 = .ok (.iload_n 1, 1) := by decide +kernel
theorem dX5_count_31 : decode cX5_count 31 = .ok (.tableswitch 73 0 6 #[41, 46, 51, 53, 58, 63, 68], 41) := by decide +kernel
theorem dX5_count_72 : decode cX5_count 72 = .ok (.aload_n 0, 1) := by decide +kernel
theorem dX5_count_73 : decode cX5_count 73 = .ok (.getfield 60, 3) := by decide +kernel
theorem dX5_count_76 : decode cX5_count 76 = .ok (.ireturn, 1) := by decide +kernel
theorem dX5_count_77 : decode cX5_count 77 = .ok (.aload_n 0, 1) := by decide +kernel
theorem dX5_count_78 : decode cX5_count 78 = .ok (.getfield 67, 3) := by decide +kernel
theorem dX5_count_81 : decode cX5_count 81 = .ok (.ireturn, 1) := by decide +kernel
theorem dX5_count_82 : decode cX5_count 82 = .ok (.iload_n 2, 1) := by decide +kernel
theorem dX5_count_83 : decode cX5_count 83 = .ok (.ireturn, 1) := by decide +kernel
theorem dX5_count_84 : decode cX5_count 84 = .ok (.aload_n 0, 1) := by decide +kernel
theorem dX5_count_85 : decode cX5_count 85 = .ok (.getfield 117, 3) := by decide +kernel
theorem dX5_count_88 : decode cX5_count 88 = .ok (.ireturn, 1) := by decide +kernel
theorem dX5_count_89 : decode cX5_count 89 = .ok (.aload_n 0, 1) := by decide +kernel
theorem dX5_count_90 : decode cX5_count 90 = .ok (.getfield 111, 3) := by decide +kernel
theorem dX5_count_93 : decode cX5_count 93 = .ok (.ireturn, 1) := by decide +kernel
theorem dX5_count_94 : decode cX5_count 94 = .ok (.aload_n 0, 1) := by decide +kernel
theorem dX5_count_95 : decode cX5_count 95 = .ok (.getfield 114, 3) := by decide +kernel
theorem dX5_count_98 : decode cX5_count 98 = .ok (.ireturn, 1) := by decide +kernel
theorem dX5_count_99 : decode cX5_count 99 = .ok (.aload_n 0, 1) := by decide +kernel
theorem dX5_count_100 : decode cX5_count 100 = .ok (.getfield 70, 3) := by decide +kernel
theorem dX5_count_103 : decode cX5_count 103 = .ok (.ireturn, 1) := by decide +kernel
theorem dX5_count_104 : decode cX5_count 104 = .ok (.iconst (-1), 1) := by decide +kernel
theorem dX5_count_105 : decode cX5_count 105 = .ok (.ireturn, 1) := by decide +kernel
end
section
/-! ===== more rows; ranges; the worlds of the class ===== -/
def inR (x : Int32) (n : Nat) : Bool := decide (0 ≤ x) && decide (x < nI n)
theorem inR_nat {x : Int32} {n : Nat} (h : inR x n = true) (hn : n < 2 ^ 31) : ∃ j : Nat, j < n ∧ x = nI j := by
  simp only [inR, Bool.and_eq_true, decide_eq_true_eq] at h
  obtain ⟨j, hj, e⟩ := nI_of (x := x) (fun q => by
    have h1 := Int32.le_iff_toInt_le.mp h.1
    have h2 := Int32.lt_iff_toInt_lt.mp q
    omega)
  subst e
  exact ⟨j, (nI_ltI hj hn).mp h.2, rfl⟩
theorem inR_of {j n : Nat} (h : j < n) (hn : n < 2 ^ 31) : inR (nI j) n = true := by
  simp only [inR, Bool.and_eq_true, decide_eq_true_eq]
  exact ⟨nI_pos' (Nat.lt_trans h hn), (nI_ltI (Nat.lt_trans h hn) hn).mpr h⟩
theorem inR_ge {x : Int32} {n : Nat} (h : nI n ≤ x) : inR x n = false := by
  simp only [inR, Bool.and_eq_false_iff, decide_eq_false_iff_not]
  exact Or.inr (Int32.not_lt.mpr h)
theorem inR_neg {x : Int32} {n : Nat} (h : x < 0) : inR x n = false := by
  simp only [inR, Bool.and_eq_false_iff, decide_eq_false_iff_not]
  exact Or.inl (Int32.not_le.mpr h)
theorem inR_in {x : Int32} {n : Nat} (h0 : ¬ x < 0) (h : ¬ nI n ≤ x) : inR x n = true := by
  simp only [inR, Bool.and_eq_true, decide_eq_true_eq]
  exact ⟨Int32.not_lt.mp h0, Int32.not_le.mp h⟩
theorem inR_le {x : Int32} {n : Nat} (hn : n + 1 < 2 ^ 31) (h0 : ¬ x < 0) (h : x ≤ nI n) : inR x (n + 1) = true := by
  refine inR_in h0 (fun q => ?_)
  have h1 := Int32.le_iff_toInt_le.mp q
  have h2 := Int32.le_iff_toInt_le.mp h
  rw [nI_toInt hn] at h1
  rw [nI_toInt (by omega)] at h2
  omega
theorem inR_gt {x : Int32} {n : Nat} (hn : n + 1 < 2 ^ 31) (h : nI n < x) : inR x (n + 1) = false := by
  refine inR_ge ?_
  have h1 := Int32.lt_iff_toInt_lt.mp h
  rw [nI_toInt (by omega)] at h1
  rw [Int32.le_iff_toInt_le, nI_toInt hn]
  omega
theorem ret_i {a b : Int32} (h : a = b) : some (Value.int a) = some (Value.int b) := congrArg (fun x => some (Value.int x)) h
theorem ret_l {a b : Int64} (h : a = b) : some (Value.long a) = some (Value.long b) := congrArg (fun x => some (Value.long x)) h
/-! the worlds -/
/-- pieces of a world, side by side -/
def xJ : List va_W → va_W
  | [] => []
  | [a] => a
  | a :: b :: l => a ++ xJ (b :: l)
abbrev wIA (G : xG) (a n : Nat) (f : Nat → Int32) : va_W := [(a, .inl (G.2.1, n, .inl f))]
abbrev wQA (G : xG) (a n : Nat) (f : Nat → Option Nat) : va_W := [(a, .inl (G.2.2, n, .inr (.inr (.inr (.inr f)))))]
abbrev wCh (G : xG) (a : Nat → Nat) (np nq : Nat) (kd mi vi li : Nat → Int32) : va_W := [(a 0, .inr (0, [.int (nI np), .int (nI nq), .ref (a 1), .ref (a 2), .ref (a 3), .ref (a 4)])), (a 1, .inl (G.2.1, 6, .inl kd)), (a 2, .inl (G.2.1, 6, .inl mi)), (a 3, .inl (G.2.1, 30, .inl vi)), (a 4, .inl (G.2.1, 25, .inl li))]
abbrev wSg (G : xG) (a : Nat → Nat) (th sa : Nat → Int32) (ns : Nat) : va_W := [(a 0, .inr (2, [.ref (a 1), .ref (a 2), .int (nI ns)])), (a 1, .inl (G.2.1, 6, .inl th)), (a 2, .inl (G.2.1, 6, .inl sa))]
abbrev wTx (G : xG) (a : Nat → Nat) (le : Nat → Int32) (nl : Nat) (nu : Nat → Int32) (nc : Nat) : va_W := [(a 0, .inr (3, [.ref (a 1), .int (nI nl), .ref (a 2), .int (nI nc)])), (a 1, .inl (G.2.1, 200, .inl le)), (a 2, .inl (G.2.1, 3, .inl nu))]
section XR
variable {l : Launch} {G : xG} {E : xE} {own nm : String} {cc : ByteArray} {nL : Nat} {R : Room} {Z : Option Value → va_W → Nat → Nat → Prop} {K : xKt} {ws : va_W} {k z pc : Nat} {lv : xL} {st : List Value}
theorem x_ishl {x y v : Int32} (X : xR l G E own nm cc nL R Z K) (hdg : decode cc pc = .ok (.ishl, 1)) (hv : x <<< (y &&& 31) = v) (kk : K ws k z (pc + 1) lv (.int v :: st)) : K ws k z pc lv (.int y :: .int x :: st) := by
  obtain ⟨p, e, s, m, args, below, meth, c, Q, A, hx, hb, hml, hown, hts, hK, hE, hA, hnm, rfl, hZ⟩ := X
  intro H locs ls hP hD hS hl
  exact lv_ishl hx hb hdg (hv ▸ (kk H locs ls hP hD hS hl))
theorem x_ishr {x y v : Int32} (X : xR l G E own nm cc nL R Z K) (hdg : decode cc pc = .ok (.ishr, 1)) (hv : x >>> (y &&& 31) = v) (kk : K ws k z (pc + 1) lv (.int v :: st)) : K ws k z pc lv (.int y :: .int x :: st) := by
  obtain ⟨p, e, s, m, args, below, meth, c, Q, A, hx, hb, hml, hown, hts, hK, hE, hA, hnm, rfl, hZ⟩ := X
  intro H locs ls hP hD hS hl
  exact lv_ishr hx hb hdg (hv ▸ (kk H locs ls hP hD hS hl))
theorem x_min {idx : Nat} {x y v : Int32} (X : xR l G E own nm cc nL R Z K) (hlk : Cond.methodLink own idx Lib.Math.min.name ∈ wU) (hfr : 1 ≤ R.frames) (hlo : (st.map fun v => v.category).sum + 13 ≤ R.locals) (hcz : k ≤ R.cells ∧ z ≤ R.slots) (hv : (if y < x then y else x) = v) (hdg : decode cc pc = .ok (.invokestatic idx, 3)) (kk : K ws k z (pc + 3) lv (.int v :: st)) : K ws k z pc lv (.int y :: .int x :: st) := by
  subst hv
  obtain ⟨p, e, s, m, args, below, meth, c, Q, A, hx, hb, hml, hown, hts, hK, hE, hA, hnm, rfl, hZ⟩ := X
  intro H locs ls hP hD hS hl
  exact va_mmin hx hb (hml.trans hl.1.symm) hown (hts _ hlk) (hts _ wst_min) (hts _ wi_J9) (hts _ wco_min) hfr hlo hcz.1 hcz.2 hdg (kk H locs ls hP hD hS hl)
theorem x_max {idx : Nat} {x y v : Int32} (X : xR l G E own nm cc nL R Z K) (hlk : Cond.methodLink own idx Lib.Math.max.name ∈ wU) (hfr : 1 ≤ R.frames) (hlo : (st.map fun v => v.category).sum + 13 ≤ R.locals) (hcz : k ≤ R.cells ∧ z ≤ R.slots) (hv : (if x < y then y else x) = v) (hdg : decode cc pc = .ok (.invokestatic idx, 3)) (kk : K ws k z (pc + 3) lv (.int v :: st)) : K ws k z pc lv (.int y :: .int x :: st) := by
  subst hv
  obtain ⟨p, e, s, m, args, below, meth, c, Q, A, hx, hb, hml, hown, hts, hK, hE, hA, hnm, rfl, hZ⟩ := X
  intro H locs ls hP hD hS hl
  exact va_mmax hx hb (hml.trans hl.1.symm) hown (hts _ hlk) (hts _ wst_max) (hts _ wi_J9) (hts _ wco_max) hfr hlo hcz.1 hcz.2 hdg (kk H locs ls hP hD hS hl)
theorem x_copy_n {idx a a0 n0 n1 sp dp n : Nat} {f g : Nat → Int32} {ws' : va_W} (X : xR l G E own nm cc nL R Z K) (hlk : Cond.methodLink own idx arraycopyName ∈ wU) (q0 q1 : Nat) (ha0 : ws[q0]? = some (a0, .inl (G.2.1, n0, .inl f))) (ha1 : ws[q1]? = some (a, .inl (G.2.1, n1, .inl g))) (h1 : sp < 2 ^ 31) (h2 : dp < 2 ^ 31) (h3 : n < 2 ^ 31) (h4 : sp + n ≤ n0) (h5 : dp + n ≤ n1)
    (hfr : 1 ≤ R.frames) (hlo : (st.map fun v => v.category).sum + (nativeFrameWords "java/lang/System" "arraycopy" 5 + 11) ≤ R.locals) (hws : ws.set q1 (a, .inl (G.2.1, n1, .inl (va_cpy f g sp dp n))) = ws') (hdg : decode cc pc = .ok (.invokestatic idx, 3)) (kk : K ws' k z (pc + 3) lv st) : K ws k z pc lv (.int (nI n) :: .int (nI dp) :: .ref a :: .int (nI sp) :: .ref a0 :: st) := by
  subst hws
  obtain ⟨p, e, s, m, args, below, meth, c, Q, A, hx, hb, hml, hown, hts, hK, hE, hA, hnm, rfl, hZ⟩ := X
  intro H locs ls hP hD hS hl
  refine va_copyi hx hb (hml.trans hl.1.symm) hown (hts _ hlk) (hts _ wna_arraycopy) (hts _ wst_arraycopy) (hts _ wi_J10) hK.1 hP hD hS q0 q1 0 0 (ty := .int) ha0 ha1 rfl rfl rfl (nI_pos h1) (nI_pos h2) (nI_pos h3) (by rw [nI_clamp h1, nI_clamp h3]; exact h4) (by rw [nI_clamp h2, nI_clamp h3]; exact h5) (fun _ _ => rfl) hfr hlo hdg ?_
  rw [nI_clamp h1, nI_clamp h2, nI_clamp h3]
  exact fun H1 locs1 hP1 hD1 hS1 => kk H1 locs1 ls hP1 hD1 hS1 hl
theorem x_objInit {idx a : Nat} (X : xR l G E own nm cc nL R Z K) (hlk : Cond.methodLink own idx objectInit ∈ wU) (hfr : 1 ≤ R.frames) (hlo : (st.map fun v => v.category).sum + 12 ≤ R.locals) (hdg : decode cc pc = .ok (.invokespecial idx, 3)) (kk : K ws k z (pc + 3) lv st) : K ws k z pc lv (.ref a :: st) := by
  obtain ⟨p, e, s, m, args, below, meth, c, Q, A, hx, hb, hml, hown, hts, hK, hE, hA, hnm, rfl, hZ⟩ := X
  intro H locs ls hP hD hS hl
  exact W.objInit hx hb hown (hts _ hlk) (hts _ win_Obj) (hts _ wco_Obj) rfl (by rw [hml]; exact hl.1) rfl hdg hfr (by show 2 * 0 + _ + 12 ≤ _; omega) (kk H locs ls hP hD hS hl)
end XR
end
section
/-! ===== what the calls of each method need to know of its name ===== -/
theorem xd_X0_init : xCd yX0_init 0 := by decide +kernel
theorem xd_X0_becomeBlank : xCd yX0_becomeBlank 0 := by decide +kernel
theorem xd_X0_becomeLike : xCd yX0_becomeLike 1 := by decide +kernel
theorem xd_X0_takeRow : xCd yX0_takeRow 2 := by decide +kernel
theorem xd_X0_persons : xCd yX0_persons 0 := by decide +kernel
theorem xd_X0_papers : xCd yX0_papers 0 := by decide +kernel
theorem xd_X0_hasPerson : xCd yX0_hasPerson 1 := by decide +kernel
theorem xd_X0_hasPaper : xCd yX0_hasPaper 1 := by decide +kernel
theorem xd_X0_tellPerson : xCd yX0_tellPerson 2 := by decide +kernel
theorem xd_X0_tellView : xCd yX0_tellView 3 := by decide +kernel
theorem xd_X0_tellPapers : xCd yX0_tellPapers 1 := by decide +kernel
theorem xd_X0_canBeLaid : xCd yX0_canBeLaid 0 := by decide +kernel
theorem xd_X0_kindOf : xCd yX0_kindOf 1 := by decide +kernel
theorem xd_X0_mindOf : xCd yX0_mindOf 1 := by decide +kernel
theorem xd_X0_putMind : xCd yX0_putMind 2 := by decide +kernel
theorem xd_X0_viewOf : xCd yX0_viewOf 2 := by decide +kernel
theorem xd_X0_putView : xCd yX0_putView 3 := by decide +kernel
theorem xd_X0_lineOf : xCd yX0_lineOf 2 := by decide +kernel
theorem xd_X0_putLine : xCd yX0_putLine 3 := by decide +kernel
theorem xd_X0_written : xCd yX0_written 3 := by decide +kernel
theorem xd_X0_writtenFor : xCd yX0_writtenFor 4 := by decide +kernel
theorem xd_X0_copied : xCd yX0_copied 3 := by decide +kernel
theorem xd_X0_copyPaper : xCd yX0_copyPaper 3 := by decide +kernel
theorem xd_X0_goRound : xCd yX0_goRound 1 := by decide +kernel
theorem xd_X0_codeOf : xCd yX0_codeOf 1 := by decide +kernel
theorem xd_X0_filledLinesOf : xCd yX0_filledLinesOf 1 := by decide +kernel
theorem xd_X0_filledLines : xCd yX0_filledLines 0 := by decide +kernel
theorem xd_X0_sumOfLines : xCd yX0_sumOfLines 0 := by decide +kernel
theorem xd_X1_init : xCd yX1_init 1 := by decide +kernel
theorem xd_X1_size : xCd yX1_size 0 := by decide +kernel
theorem xd_X1_clear : xCd yX1_clear 0 := by decide +kernel
theorem xd_X1_push : xCd yX1_push 1 := by decide +kernel
theorem xd_X1_popInto : xCd yX1_popInto 1 := by decide +kernel
theorem xd_X1_placeAbove : xCd yX1_placeAbove 1 := by decide +kernel
theorem xd_X2_init : xCd yX2_init 0 := by decide +kernel
theorem xd_X2_size : xCd yX2_size 0 := by decide +kernel
theorem xd_X2_clear : xCd yX2_clear 0 := by decide +kernel
theorem xd_X2_add : xCd yX2_add 2 := by decide +kernel
theorem xd_X2_areAllWritten : xCd yX2_areAllWritten 4 := by decide +kernel
theorem xd_X3_init : xCd yX3_init 0 := by decide +kernel
theorem xd_X3_size : xCd yX3_size 0 := by decide +kernel
theorem xd_X3_clear : xCd yX3_clear 0 := by decide +kernel
theorem xd_X3_append : xCd yX3_append 1 := by decide +kernel
theorem xd_X3_readInto : xCd yX3_readInto 1 := by decide +kernel
theorem xd_X3_readNumbers : xCd yX3_readNumbers 1 := by decide +kernel
theorem xd_X3_tellItem : xCd yX3_tellItem 2 := by decide +kernel
theorem xd_X3_figuresAt : xCd yX3_figuresAt 1 := by decide +kernel
theorem xd_X3_numberAt : xCd yX3_numberAt 2 := by decide +kernel
theorem xd_X3_isFigure : xCd yX3_isFigure 1 := by decide +kernel
theorem xd_X3_letterAt : xCd yX3_letterAt 1 := by decide +kernel
theorem xd_X4_init : xCd yX4_init 0 := by decide +kernel
theorem xd_X4_write : xCd yX4_write 1 := by decide +kernel
theorem xd_X4_wipe : xCd yX4_wipe 0 := by decide +kernel
theorem xd_X4_fault : xCd yX4_fault 0 := by decide +kernel
theorem xd_X4_lay : xCd yX4_lay 0 := by decide +kernel
theorem xd_X4_person : xCd yX4_person 2 := by decide +kernel
theorem xd_X4_view : xCd yX4_view 2 := by decide +kernel
theorem xd_X4_line : xCd yX4_line 2 := by decide +kernel
theorem xd_X4_would : xCd yX4_would 3 := by decide +kernel
theorem xd_X4_set : xCd yX4_set 4 := by decide +kernel
theorem xd_X4_erase : xCd yX4_erase 3 := by decide +kernel
theorem xd_X4_copy : xCd yX4_copy 3 := by decide +kernel
theorem xd_X4_think : xCd yX4_think 3 := by decide +kernel
theorem xd_X4_mind : xCd yX4_mind 2 := by decide +kernel
theorem xd_X4_undo : xCd yX4_undo 0 := by decide +kernel
theorem xd_X4_own : xCd yX4_own 2 := by decide +kernel
theorem xd_X4_tears : xCd yX4_tears 3 := by decide +kernel
theorem xd_X4_whom : xCd yX4_whom 3 := by decide +kernel
theorem xd_X4_treaty : xCd yX4_treaty 3 := by decide +kernel
theorem xd_X4_round : xCd yX4_round 3 := by decide +kernel
theorem xd_X4_again : xCd yX4_again 2 := by decide +kernel
theorem xd_X4_least : xCd yX4_least 3 := by decide +kernel
theorem xd_X4_sign : xCd yX4_sign 2 := by decide +kernel
theorem xd_X4_forget : xCd yX4_forget 0 := by decide +kernel
theorem xd_X4_who : xCd yX4_who 1 := by decide +kernel
theorem xd_X4_views : xCd yX4_views 3 := by decide +kernel
theorem xd_X4_drops : xCd yX4_drops 5 := by decide +kernel
theorem xd_X4_weeks : xCd yX4_weeks 3 := by decide +kernel
theorem xd_X4_keep : xCd yX4_keep 0 := by decide +kernel
theorem xd_X4_back : xCd yX4_back 0 := by decide +kernel
theorem xd_X4_count : xCd yX4_count 1 := by decide +kernel
theorem xd_X4_firstSeen : xCd yX4_firstSeen 2 := by decide +kernel
theorem xd_X4_isUpTo : xCd yX4_isUpTo 2 := by decide +kernel
theorem xd_X4_isTheme : xCd yX4_isTheme 1 := by decide +kernel
theorem xd_X4_told : xCd yX4_told 1 := by decide +kernel
theorem xd_X4_at : xCd yX4_at 2 := by decide +kernel
theorem xd_X4_put : xCd yX4_put 3 := by decide +kernel
theorem xd_X4_remainder : xCd yX4_remainder 2 := by decide +kernel
theorem xd_X4_drawOf : xCd yX4_drawOf 2 := by decide +kernel
theorem xd_X4_waysOfTears : xCd yX4_waysOfTears 2 := by decide +kernel
theorem xd_X4_greatestDivisor : xCd yX4_greatestDivisor 2 := by decide +kernel
theorem xd_X4_inked : xCd yX4_inked 4 := by decide +kernel
theorem xd_X4_mixed : xCd yX4_mixed 3 := by decide +kernel
theorem xd_X4_carried : xCd yX4_carried 3 := by decide +kernel
theorem xd_X4_toward : xCd yX4_toward 3 := by decide +kernel
theorem xd_X5_init : xCd yX5_init 0 := by decide +kernel
theorem xd_X5_tellsPerson : xCd yX5_tellsPerson 2 := by decide +kernel
theorem xd_X5_in : xCd yX5_in 3 := by decide +kernel
theorem xd_X5_isPerson : xCd yX5_isPerson 1 := by decide +kernel
theorem xd_X5_isPaper : xCd yX5_isPaper 1 := by decide +kernel
theorem xd_X5_isTheme : xCd yX5_isTheme 1 := by decide +kernel
theorem xd_X5_write : xCd yX5_write 1 := by decide +kernel
theorem xd_X5_wipe : xCd yX5_wipe 0 := by decide +kernel
theorem xd_X5_letterAt : xCd yX5_letterAt 1 := by decide +kernel
theorem xd_X5_isFigure : xCd yX5_isFigure 1 := by decide +kernel
theorem xd_X5_readNumbers : xCd yX5_readNumbers 1 := by decide +kernel
theorem xd_X5_isTold : xCd yX5_isTold 3 := by decide +kernel
theorem xd_X5_clearTold : xCd yX5_clearTold 0 := by decide +kernel
theorem xd_X5_readPersonOf : xCd yX5_readPersonOf 0 := by decide +kernel
theorem xd_X5_readViewOf : xCd yX5_readViewOf 0 := by decide +kernel
theorem xd_X5_readPapersOf : xCd yX5_readPapersOf 0 := by decide +kernel
theorem xd_X5_readItem : xCd yX5_readItem 0 := by decide +kernel
theorem xd_X5_fault : xCd yX5_fault 0 := by decide +kernel
theorem xd_X5_lay : xCd yX5_lay 0 := by decide +kernel
theorem xd_X5_settles : xCd yX5_settles 0 := by decide +kernel
theorem xd_X5_copies : xCd yX5_copies 4 := by decide +kernel
theorem xd_X5_asItIs : xCd yX5_asItIs 0 := by decide +kernel
theorem xd_X5_viewOf : xCd yX5_viewOf 2 := by decide +kernel
theorem xd_X5_writes : xCd yX5_writes 4 := by decide +kernel
theorem xd_X5_toward : xCd yX5_toward 3 := by decide +kernel
theorem xd_X5_copied : xCd yX5_copied 3 := by decide +kernel
theorem xd_X5_copying : xCd yX5_copying 3 := by decide +kernel
theorem xd_X5_says : xCd yX5_says 1 := by decide +kernel
theorem xd_X5_person : xCd yX5_person 2 := by decide +kernel
theorem xd_X5_view : xCd yX5_view 2 := by decide +kernel
theorem xd_X5_line : xCd yX5_line 2 := by decide +kernel
theorem xd_X5_would : xCd yX5_would 3 := by decide +kernel
theorem xd_X5_remembers : xCd yX5_remembers 0 := by decide +kernel
theorem xd_X5_set : xCd yX5_set 4 := by decide +kernel
theorem xd_X5_erase : xCd yX5_erase 3 := by decide +kernel
theorem xd_X5_filled : xCd yX5_filled 1 := by decide +kernel
theorem xd_X5_copy : xCd yX5_copy 3 := by decide +kernel
theorem xd_X5_think : xCd yX5_think 3 := by decide +kernel
theorem xd_X5_mind : xCd yX5_mind 2 := by decide +kernel
theorem xd_X5_undo : xCd yX5_undo 0 := by decide +kernel
theorem xd_X5_ownOf : xCd yX5_ownOf 2 := by decide +kernel
theorem xd_X5_own : xCd yX5_own 2 := by decide +kernel
theorem xd_X5_tears : xCd yX5_tears 3 := by decide +kernel
theorem xd_X5_whom : xCd yX5_whom 3 := by decide +kernel
theorem xd_X5_treaty : xCd yX5_treaty 3 := by decide +kernel
theorem xd_X5_round : xCd yX5_round 3 := by decide +kernel
theorem xd_X5_again : xCd yX5_again 2 := by decide +kernel
theorem xd_X5_least : xCd yX5_least 3 := by decide +kernel
theorem xd_X5_sign : xCd yX5_sign 2 := by decide +kernel
theorem xd_X5_forget : xCd yX5_forget 0 := by decide +kernel
theorem xd_X5_isWritten : xCd yX5_isWritten 3 := by decide +kernel
theorem xd_X5_who : xCd yX5_who 1 := by decide +kernel
theorem xd_X5_views : xCd yX5_views 3 := by decide +kernel
theorem xd_X5_drops : xCd yX5_drops 5 := by decide +kernel
theorem xd_X5_weeks : xCd yX5_weeks 3 := by decide +kernel
theorem xd_X5_keep : xCd yX5_keep 0 := by decide +kernel
theorem xd_X5_back : xCd yX5_back 0 := by decide +kernel
theorem xd_X5_count : xCd yX5_count 1 := by decide +kernel
theorem xd_J6_bitCount_0f7a4 : xCd yJ6_bitCount_0f7a4 1 := by decide +kernel
theorem xd_J9_max_7cf53 : xCd yJ9_max_7cf53 2 := by decide +kernel
theorem xd_J9_min_7cf53 : xCd yJ9_min_7cf53 2 := by decide +kernel
theorem xd_J0_length_8abf5 : xCd yJ0_length_8abf5 0 := by decide +kernel
theorem xd_J0_charAt_5068e : xCd yJ0_charAt_5068e 1 := by decide +kernel
theorem xd_J0_coder_7d493 : xCd yJ0_coder_7d493 0 := by decide +kernel
theorem xd_J0_isLatin1_aae02 : xCd yJ0_isLatin1_aae02 0 := by decide +kernel
theorem xd_J0_checkIndex_df160 : xCd yJ0_checkIndex_df160 2 := by decide +kernel
theorem xd_J1_charAt_3b067 : xCd yJ1_charAt_3b067 2 := by decide +kernel
theorem xd_J2_getChar_3b067 : xCd yJ2_getChar_3b067 2 := by decide +kernel
theorem xd_J2_length_9d52b : xCd yJ2_length_9d52b 1 := by decide +kernel
theorem xd_J2_charAt_3b067 : xCd yJ2_charAt_3b067 2 := by decide +kernel
theorem xd_J2_checkIndex_2214a : xCd yJ2_checkIndex_2214a 2 := by decide +kernel
theorem xd_J7_fill_53178 : xCd yJ7_fill_53178 2 := by decide +kernel
theorem xd_J3_checkIndex_8e157 : xCd yJ3_checkIndex_8e157 3 := by decide +kernel
end
section
/-! ===== worlds by pieces: a call whose world is some of our pieces, in any order ===== -/
theorem xJ_eq : ∀ l : List va_W, xJ l = l.flatten
  | [] => rfl
  | [a] => by simp [xJ]
  | a :: b :: l => by
    show a ++ xJ (b :: l) = a ++ (b :: l).flatten
    rw [xJ_eq (b :: l)]
theorem x_permP {D : va_G} {cl : List vw_C} {ws ws' : va_W} {H : Heap} (h : ws.Perm ws') (hP : va_P D cl ws H) : va_P D cl ws' H := by
  intro k q hq
  obtain ⟨j, hj⟩ := List.getElem?_of_mem (h.mem_iff.mpr (List.mem_of_getElem? hq))
  exact hP j q hj
theorem x_nodupD {A : Nat → Prop} {ws : va_W} : va_D A ws ↔ (ws.map Prod.fst).Nodup ∧ ∀ q ∈ ws, A q.1 := by
  constructor
  · intro h
    refine ⟨?_, fun q hq => ?_⟩
    · rw [List.nodup_iff_pairwise_ne, List.pairwise_iff_getElem]
      intro i j hi hj hij e
      simp only [List.length_map] at hi hj
      simp only [List.getElem_map] at e
      have := h.1 i j ws[i] ws[j] (List.getElem?_eq_getElem hi) (List.getElem?_eq_getElem hj) e
      omega
    · obtain ⟨j, hj⟩ := List.getElem?_of_mem hq
      exact h.2 j q hj
  · rintro ⟨h1, h2⟩
    refine ⟨fun i j p q hi hj e => ?_, fun k q hk => h2 q (List.mem_of_getElem? hk)⟩
    rw [List.nodup_iff_pairwise_ne, List.pairwise_iff_getElem] at h1
    obtain ⟨li, rfl⟩ := List.getElem?_eq_some_iff.mp hi
    obtain ⟨lj, rfl⟩ := List.getElem?_eq_some_iff.mp hj
    rcases Nat.lt_trichotomy i j with h | h | h
    · exact absurd (show (ws.map Prod.fst)[i]'(by simpa using li) = (ws.map Prod.fst)[j]'(by simpa using lj) from by rw [List.getElem_map, List.getElem_map]; exact e) (h1 i j _ _ h)
    · exact h
    · exact absurd (show (ws.map Prod.fst)[j]'(by simpa using lj) = (ws.map Prod.fst)[i]'(by simpa using li) from by rw [List.getElem_map, List.getElem_map]; exact e.symm) (h1 j i _ _ h)
theorem x_permD {A : Nat → Prop} {ws ws' : va_W} (h : ws.Perm ws') (hD : va_D A ws) : va_D A ws' := by
  obtain ⟨h1, h2⟩ := x_nodupD.mp hD
  exact x_nodupD.mpr ⟨(h.map Prod.fst).nodup h1, fun q hq => h2 q (h.mem_iff.mpr hq)⟩
def xAt (segs : List va_W) (is : List Nat) : List va_W := is.map (fun i => segs.getD i [])
theorem xAt_all (segs : List va_W) : xAt segs (List.range segs.length) = segs := by
  apply List.ext_getElem
  · simp [xAt]
  · intro i h1 h2
    simp [xAt, List.getD_eq_getElem?_getD, h2]
theorem xJ_perm {segs : List va_W} {is js : List Nat} (h : (is ++ js).Perm (List.range segs.length)) : (xJ segs).Perm (xJ (xAt segs is) ++ xJ (xAt segs js)) := by
  rw [xJ_eq, xJ_eq, xJ_eq, ← List.flatten_append]
  have e : xAt segs is ++ xAt segs js = xAt segs (is ++ js) := by simp [xAt]
  rw [e]
  have h2 : (xAt segs (is ++ js)).Perm (xAt segs (List.range segs.length)) := h.map _
  rw [xAt_all] at h2
  exact h2.symm.flatten
section XP
variable {l : Launch} {G : xG} {E E' : xE} {own nm : String} {cc : ByteArray} {nL : Nat} {R : Room} {Z : Option Value → va_W → Nat → Nat → Prop} {K : xKt} {ws ws' wc w1 wr : va_W} {k z pc : Nat} {lv : xL} {st rest : List Value}
variable {y : MethodName} {cc' : ByteArray} {n' : Nat} {ret' : Option FieldType} {fr' lo' mc' ms' idx : Nat} {As : List Value} {r' : Option Value} {v : Value} {Fin' : va_W → Prop}
theorem x_perm (X : xR l G E own nm cc nL R Z K) (h : ws.Perm ws') (kk : K ws' k z pc lv st) : K ws k z pc lv st := by
  obtain ⟨p, e, s, m, args, below, meth, c, Q, A, hx, hb, hml, hown, hts, hK, hE, hA, hnm, rfl, hZ⟩ := X
  intro H locs ls hP hD hS hl
  exact kk H locs ls (x_permP h hP) (x_permD h hD) hS hl
theorem xP_nd : ∀ (n b : Nat), va_nd ((List.range' b n)) = true
  | 0, _ => rfl
  | n + 1, b => by
    rw [List.range'_succ]
    simp only [va_nd, Bool.and_eq_true, decide_eq_true_eq]
    exact ⟨by rw [List.mem_range']; omega, xP_nd n (b + 1)⟩
theorem xP_at : ∀ (wc pre wr : va_W), (List.range' pre.length wc.length).map (fun i => (pre ++ (wc ++ wr))[i]?) = wc.map some
  | [], pre, wr => rfl
  | q :: wc, pre, wr => by
    rw [List.length_cons, List.range'_succ, List.map_cons, List.map_cons]
    congr 1
    · simp
    · have h := xP_at wc (pre ++ [q]) wr
      simpa using h
theorem xP_put : ∀ (w1 wc pre wr : va_W), w1.length = wc.length → x_put_ws (pre ++ (wc ++ wr)) (List.range' pre.length wc.length) w1 = pre ++ (w1 ++ wr)
  | [], wc, pre, wr, h => by
    cases wc with
    | nil => rfl
    | cons a b => simp at h
  | q1 :: w1, [], pre, wr, h => by simp at h
  | q1 :: w1, q :: wc, pre, wr, h => by
    rw [List.length_cons, List.range'_succ]
    show x_put_ws ((pre ++ (q :: wc ++ wr)).set pre.length q1) (List.range' (pre.length + 1) wc.length) w1 = _
    have e : (pre ++ (q :: wc ++ wr)).set pre.length q1 = (pre ++ [q1]) ++ (wc ++ wr) := by simp
    rw [e, show pre.length + 1 = (pre ++ [q1]).length by simp, xP_put w1 wc (pre ++ [q1]) wr (by simpa using h)]
    simp
theorem x_callVP {b ci : Nat} {fs : List Value} {T : u_T} {N : Nat} (X : xR l G E own nm cc nL R Z K) (hM : xM l G E' y cc' n' ret' fr' lo' mc' ms' (.ref b :: As) wc r' Fin') (hE1 : xEok E') (hE2 : ∀ A U, E A U → E' A U) (j : Nat) (hj : wc[j]? = some (b, .inr (ci, fs))) (hci : vwCl[ci]? = some (y.cls, T, N)) (hst : st = As.reverse ++ .ref b :: rest) (hco : Cond.code y cc' n' ret' ∈ wU) (hini : Cond.initialized y.cls ∈ wU) (hd : xCd y As.length) (hlk : Cond.methodLink own idx y ∈ wU) (hin : Cond.instanceMethod y ∈ wU) (hse : Cond.selects y.cls y y ∈ wU) (hroom : fr' + 1 ≤ R.frames ∧ 8 + (n' + 11) + lo' ≤ R.locals ∧ k + mc' ≤ R.cells ∧ z + ms' ≤ R.slots) (hrest : (rest.map fun v => v.category).sum ≤ 8) (hdg : decode cc pc = .ok (.invokevirtual idx, 3)) (hsk : ∀ w2, Fin' w2 → w2.map Prod.fst = wc.map Prod.fst) (kk : ∀ w2, Fin' w2 → K (w2 ++ wr) (k + mc') (z + ms') (pc + 3) lv (r'.toList ++ rest)) : K (wc ++ wr) k z pc lv st := by
  have hlen : ∀ w2, Fin' w2 → w2.length = wc.length := fun w2 h => by simpa using congrArg List.length (hsk w2 h)
  have e := xP_at wc [] wr
  simp only [List.length_nil, List.nil_append] at e
  refine x_callV X hM hE1 hE2 (List.range' 0 wc.length) e j hj hci (xP_nd _ _) hst hco hini hd hlk hin hse hroom hrest hdg (fun w2 h => ⟨by rw [hlen w2 h]; simp, hsk w2 h⟩) (fun w2 h => ?_)
  have e2 := xP_put w2 wc [] wr (hlen w2 h)
  simp only [List.length_nil, List.nil_append] at e2
  rw [e2]
  exact kk w2 h
theorem x_callVJ {b ci : Nat} {fs : List Value} {T : u_T} {N : Nat} {segs : List va_W} (is js : List Nat) (hpm : (is ++ js).Perm (List.range segs.length)) (X : xR l G E own nm cc nL R Z K) (hM : xM l G E' y cc' n' ret' fr' lo' mc' ms' (.ref b :: As) wc r' Fin') (hwc : xJ (xAt segs is) = wc) (hE1 : xEok E') (hE2 : ∀ A U, E A U → E' A U) (j : Nat) (hj : wc[j]? = some (b, .inr (ci, fs))) (hci : vwCl[ci]? = some (y.cls, T, N)) (hst : st = As.reverse ++ .ref b :: rest) (hco : Cond.code y cc' n' ret' ∈ wU) (hini : Cond.initialized y.cls ∈ wU) (hd : xCd y As.length) (hlk : Cond.methodLink own idx y ∈ wU) (hin : Cond.instanceMethod y ∈ wU) (hse : Cond.selects y.cls y y ∈ wU) (hroom : fr' + 1 ≤ R.frames ∧ 8 + (n' + 11) + lo' ≤ R.locals ∧ k + mc' ≤ R.cells ∧ z + ms' ≤ R.slots) (hrest : (rest.map fun v => v.category).sum ≤ 8) (hdg : decode cc pc = .ok (.invokevirtual idx, 3)) (hsk : ∀ w2, Fin' w2 → w2.map Prod.fst = wc.map Prod.fst) (kk : ∀ w2, Fin' w2 → K (w2 ++ xJ (xAt segs js)) (k + mc') (z + ms') (pc + 3) lv (r'.toList ++ rest)) : K (xJ segs) k z pc lv st := by
  subst hwc
  refine x_perm X (xJ_perm hpm) ?_
  exact x_callVP X hM hE1 hE2 j hj hci hst hco hini hd hlk hin hse hroom hrest hdg hsk kk
theorem x_callVJfv {b ci : Nat} {fs : List Value} {T : u_T} {N : Nat} {segs segs' : List va_W} {mid : List va_W} (is js : List Nat) (hpm : (is ++ js).Perm (List.range segs.length)) (hln : segs'.length = segs.length) (X : xR l G E own nm cc nL R Z K) (hM : xM l G E' y cc' n' ret' fr' lo' mc' ms' (.ref b :: As) wc (some v) (fun w2 => w2 = w1)) (hwc : xJ (xAt segs is) = wc) (hw1 : xJ (xAt segs' is) = w1) (hj1 : xAt segs js = mid) (hj2 : xAt segs' js = mid) (hE1 : xEok E') (hE2 : ∀ A U, E A U → E' A U) (j : Nat) (hj : wc[j]? = some (b, .inr (ci, fs))) (hci : vwCl[ci]? = some (y.cls, T, N)) (hst : st = As.reverse ++ .ref b :: rest) (hco : Cond.code y cc' n' ret' ∈ wU) (hini : Cond.initialized y.cls ∈ wU) (hd : xCd y As.length) (hlk : Cond.methodLink own idx y ∈ wU) (hin : Cond.instanceMethod y ∈ wU) (hse : Cond.selects y.cls y y ∈ wU) (hroom : fr' + 1 ≤ R.frames ∧ 8 + (n' + 11) + lo' ≤ R.locals ∧ k + mc' ≤ R.cells ∧ z + ms' ≤ R.slots) (hrest : (rest.map fun v => v.category).sum ≤ 8) (hdg : decode cc pc = .ok (.invokevirtual idx, 3)) (hsk : w1.map Prod.fst = wc.map Prod.fst) (kk : K (xJ segs') (k + mc') (z + ms') (pc + 3) lv (v :: rest)) : K (xJ segs) k z pc lv st := by
  refine x_callVJ is js hpm X hM hwc hE1 hE2 j hj hci hst hco hini hd hlk hin hse hroom hrest hdg (fun w2 h => by subst h; exact hsk) (fun w2 h => ?_)
  subst h; subst hw1
  refine x_perm X (List.Perm.symm ?_) kk
  rw [hj1, ← hj2]
  exact xJ_perm (by rw [hln]; exact hpm)
theorem x_callVJrv {b ci : Nat} {fs : List Value} {T : u_T} {N : Nat} {segs : List va_W} (is js : List Nat) (hpm : (is ++ js).Perm (List.range segs.length)) (X : xR l G E own nm cc nL R Z K) (hM : xM l G E' y cc' n' ret' fr' lo' mc' ms' (.ref b :: As) wc (some v) (fun w2 => w2 = wc)) (hwc : xJ (xAt segs is) = wc) (hE1 : xEok E') (hE2 : ∀ A U, E A U → E' A U) (j : Nat) (hj : wc[j]? = some (b, .inr (ci, fs))) (hci : vwCl[ci]? = some (y.cls, T, N)) (hst : st = As.reverse ++ .ref b :: rest) (hco : Cond.code y cc' n' ret' ∈ wU) (hini : Cond.initialized y.cls ∈ wU) (hd : xCd y As.length) (hlk : Cond.methodLink own idx y ∈ wU) (hin : Cond.instanceMethod y ∈ wU) (hse : Cond.selects y.cls y y ∈ wU) (hroom : fr' + 1 ≤ R.frames ∧ 8 + (n' + 11) + lo' ≤ R.locals ∧ k + mc' ≤ R.cells ∧ z + ms' ≤ R.slots) (hrest : (rest.map fun v => v.category).sum ≤ 8) (hdg : decode cc pc = .ok (.invokevirtual idx, 3)) (kk : K (xJ segs) (k + mc') (z + ms') (pc + 3) lv (v :: rest)) : K (xJ segs) k z pc lv st := by
  refine x_callVJ is js hpm X hM hwc hE1 hE2 j hj hci hst hco hini hd hlk hin hse hroom hrest hdg (fun w2 h => by subst h; rfl) (fun w2 h => ?_)
  subst h; subst hwc
  exact x_perm X (List.Perm.symm (xJ_perm hpm)) kk
theorem x_callVJf0 {b ci : Nat} {fs : List Value} {T : u_T} {N : Nat} {segs segs' : List va_W} {mid : List va_W} (is js : List Nat) (hpm : (is ++ js).Perm (List.range segs.length)) (hln : segs'.length = segs.length) (X : xR l G E own nm cc nL R Z K) (hM : xM l G E' y cc' n' ret' fr' lo' mc' ms' (.ref b :: As) wc (none) (fun w2 => w2 = w1)) (hwc : xJ (xAt segs is) = wc) (hw1 : xJ (xAt segs' is) = w1) (hj1 : xAt segs js = mid) (hj2 : xAt segs' js = mid) (hE1 : xEok E') (hE2 : ∀ A U, E A U → E' A U) (j : Nat) (hj : wc[j]? = some (b, .inr (ci, fs))) (hci : vwCl[ci]? = some (y.cls, T, N)) (hst : st = As.reverse ++ .ref b :: rest) (hco : Cond.code y cc' n' ret' ∈ wU) (hini : Cond.initialized y.cls ∈ wU) (hd : xCd y As.length) (hlk : Cond.methodLink own idx y ∈ wU) (hin : Cond.instanceMethod y ∈ wU) (hse : Cond.selects y.cls y y ∈ wU) (hroom : fr' + 1 ≤ R.frames ∧ 8 + (n' + 11) + lo' ≤ R.locals ∧ k + mc' ≤ R.cells ∧ z + ms' ≤ R.slots) (hrest : (rest.map fun v => v.category).sum ≤ 8) (hdg : decode cc pc = .ok (.invokevirtual idx, 3)) (hsk : w1.map Prod.fst = wc.map Prod.fst) (kk : K (xJ segs') (k + mc') (z + ms') (pc + 3) lv (rest)) : K (xJ segs) k z pc lv st := by
  refine x_callVJ is js hpm X hM hwc hE1 hE2 j hj hci hst hco hini hd hlk hin hse hroom hrest hdg (fun w2 h => by subst h; exact hsk) (fun w2 h => ?_)
  subst h; subst hw1
  refine x_perm X (List.Perm.symm ?_) kk
  rw [hj1, ← hj2]
  exact xJ_perm (by rw [hln]; exact hpm)
theorem x_callVJr0 {b ci : Nat} {fs : List Value} {T : u_T} {N : Nat} {segs : List va_W} (is js : List Nat) (hpm : (is ++ js).Perm (List.range segs.length)) (X : xR l G E own nm cc nL R Z K) (hM : xM l G E' y cc' n' ret' fr' lo' mc' ms' (.ref b :: As) wc (none) (fun w2 => w2 = wc)) (hwc : xJ (xAt segs is) = wc) (hE1 : xEok E') (hE2 : ∀ A U, E A U → E' A U) (j : Nat) (hj : wc[j]? = some (b, .inr (ci, fs))) (hci : vwCl[ci]? = some (y.cls, T, N)) (hst : st = As.reverse ++ .ref b :: rest) (hco : Cond.code y cc' n' ret' ∈ wU) (hini : Cond.initialized y.cls ∈ wU) (hd : xCd y As.length) (hlk : Cond.methodLink own idx y ∈ wU) (hin : Cond.instanceMethod y ∈ wU) (hse : Cond.selects y.cls y y ∈ wU) (hroom : fr' + 1 ≤ R.frames ∧ 8 + (n' + 11) + lo' ≤ R.locals ∧ k + mc' ≤ R.cells ∧ z + ms' ≤ R.slots) (hrest : (rest.map fun v => v.category).sum ≤ 8) (hdg : decode cc pc = .ok (.invokevirtual idx, 3)) (kk : K (xJ segs) (k + mc') (z + ms') (pc + 3) lv (rest)) : K (xJ segs) k z pc lv st := by
  refine x_callVJ is js hpm X hM hwc hE1 hE2 j hj hci hst hco hini hd hlk hin hse hroom hrest hdg (fun w2 h => by subst h; rfl) (fun w2 h => ?_)
  subst h; subst hwc
  exact x_perm X (List.Perm.symm (xJ_perm hpm)) kk
theorem x_backV {segs' : List va_W} {mid : List va_W} {segs : List va_W} (is js : List Nat) (hpm : (is ++ js).Perm (List.range segs'.length)) (X : xR l G E own nm cc nL R Z K) (hw1 : xJ (xAt segs' is) = w1) (hj1 : xAt segs js = mid) (hj2 : xAt segs' js = mid) (kk : K (xJ segs') k z pc lv st) : K (w1 ++ xJ (xAt segs js)) k z pc lv st := by
  subst hw1
  refine x_perm X (List.Perm.symm ?_) kk
  rw [hj1, ← hj2]
  exact xJ_perm hpm
theorem x_callSP (X : xR l G E own nm cc nL R Z K) (hM : xM l G E' y cc' n' ret' fr' lo' mc' ms' (As) wc r' Fin') (hE1 : xEok E') (hE2 : ∀ A U, E A U → E' A U) (hst : st = As.reverse ++ rest) (hco : Cond.code y cc' n' ret' ∈ wU) (hini : Cond.initialized y.cls ∈ wU) (hd : xCd y As.length) (hlk : Cond.methodLink own idx y ∈ wU) (hst0 : Cond.static y ∈ wU) (hroom : fr' + 1 ≤ R.frames ∧ 8 + (n' + 11) + lo' ≤ R.locals ∧ k + mc' ≤ R.cells ∧ z + ms' ≤ R.slots) (hrest : (rest.map fun v => v.category).sum ≤ 8) (hdg : decode cc pc = .ok (.invokestatic idx, 3)) (hsk : ∀ w2, Fin' w2 → w2.map Prod.fst = wc.map Prod.fst) (kk : ∀ w2, Fin' w2 → K (w2 ++ wr) (k + mc') (z + ms') (pc + 3) lv (r'.toList ++ rest)) : K (wc ++ wr) k z pc lv st := by
  have hlen : ∀ w2, Fin' w2 → w2.length = wc.length := fun w2 h => by simpa using congrArg List.length (hsk w2 h)
  have e := xP_at wc [] wr
  simp only [List.length_nil, List.nil_append] at e
  refine x_callS X hM hE1 hE2 (List.range' 0 wc.length) e (xP_nd _ _) hst hco hini hd hlk hst0 hroom hrest hdg (fun w2 h => ⟨by rw [hlen w2 h]; simp, hsk w2 h⟩) (fun w2 h => ?_)
  have e2 := xP_put w2 wc [] wr (hlen w2 h)
  simp only [List.length_nil, List.nil_append] at e2
  rw [e2]
  exact kk w2 h
theorem x_callSJ {segs : List va_W} (is js : List Nat) (hpm : (is ++ js).Perm (List.range segs.length)) (X : xR l G E own nm cc nL R Z K) (hM : xM l G E' y cc' n' ret' fr' lo' mc' ms' (As) wc r' Fin') (hwc : xJ (xAt segs is) = wc) (hE1 : xEok E') (hE2 : ∀ A U, E A U → E' A U) (hst : st = As.reverse ++ rest) (hco : Cond.code y cc' n' ret' ∈ wU) (hini : Cond.initialized y.cls ∈ wU) (hd : xCd y As.length) (hlk : Cond.methodLink own idx y ∈ wU) (hst0 : Cond.static y ∈ wU) (hroom : fr' + 1 ≤ R.frames ∧ 8 + (n' + 11) + lo' ≤ R.locals ∧ k + mc' ≤ R.cells ∧ z + ms' ≤ R.slots) (hrest : (rest.map fun v => v.category).sum ≤ 8) (hdg : decode cc pc = .ok (.invokestatic idx, 3)) (hsk : ∀ w2, Fin' w2 → w2.map Prod.fst = wc.map Prod.fst) (kk : ∀ w2, Fin' w2 → K (w2 ++ xJ (xAt segs js)) (k + mc') (z + ms') (pc + 3) lv (r'.toList ++ rest)) : K (xJ segs) k z pc lv st := by
  subst hwc
  refine x_perm X (xJ_perm hpm) ?_
  exact x_callSP X hM hE1 hE2  hst hco hini hd hlk hst0 hroom hrest hdg hsk kk
theorem x_callSJfv {segs segs' : List va_W} {mid : List va_W} (is js : List Nat) (hpm : (is ++ js).Perm (List.range segs.length)) (hln : segs'.length = segs.length) (X : xR l G E own nm cc nL R Z K) (hM : xM l G E' y cc' n' ret' fr' lo' mc' ms' (As) wc (some v) (fun w2 => w2 = w1)) (hwc : xJ (xAt segs is) = wc) (hw1 : xJ (xAt segs' is) = w1) (hj1 : xAt segs js = mid) (hj2 : xAt segs' js = mid) (hE1 : xEok E') (hE2 : ∀ A U, E A U → E' A U) (hst : st = As.reverse ++ rest) (hco : Cond.code y cc' n' ret' ∈ wU) (hini : Cond.initialized y.cls ∈ wU) (hd : xCd y As.length) (hlk : Cond.methodLink own idx y ∈ wU) (hst0 : Cond.static y ∈ wU) (hroom : fr' + 1 ≤ R.frames ∧ 8 + (n' + 11) + lo' ≤ R.locals ∧ k + mc' ≤ R.cells ∧ z + ms' ≤ R.slots) (hrest : (rest.map fun v => v.category).sum ≤ 8) (hdg : decode cc pc = .ok (.invokestatic idx, 3)) (hsk : w1.map Prod.fst = wc.map Prod.fst) (kk : K (xJ segs') (k + mc') (z + ms') (pc + 3) lv (v :: rest)) : K (xJ segs) k z pc lv st := by
  refine x_callSJ is js hpm X hM hwc hE1 hE2  hst hco hini hd hlk hst0 hroom hrest hdg (fun w2 h => by subst h; exact hsk) (fun w2 h => ?_)
  subst h; subst hw1
  refine x_perm X (List.Perm.symm ?_) kk
  rw [hj1, ← hj2]
  exact xJ_perm (by rw [hln]; exact hpm)
theorem x_callSJrv {segs : List va_W} (is js : List Nat) (hpm : (is ++ js).Perm (List.range segs.length)) (X : xR l G E own nm cc nL R Z K) (hM : xM l G E' y cc' n' ret' fr' lo' mc' ms' (As) wc (some v) (fun w2 => w2 = wc)) (hwc : xJ (xAt segs is) = wc) (hE1 : xEok E') (hE2 : ∀ A U, E A U → E' A U) (hst : st = As.reverse ++ rest) (hco : Cond.code y cc' n' ret' ∈ wU) (hini : Cond.initialized y.cls ∈ wU) (hd : xCd y As.length) (hlk : Cond.methodLink own idx y ∈ wU) (hst0 : Cond.static y ∈ wU) (hroom : fr' + 1 ≤ R.frames ∧ 8 + (n' + 11) + lo' ≤ R.locals ∧ k + mc' ≤ R.cells ∧ z + ms' ≤ R.slots) (hrest : (rest.map fun v => v.category).sum ≤ 8) (hdg : decode cc pc = .ok (.invokestatic idx, 3)) (kk : K (xJ segs) (k + mc') (z + ms') (pc + 3) lv (v :: rest)) : K (xJ segs) k z pc lv st := by
  refine x_callSJ is js hpm X hM hwc hE1 hE2  hst hco hini hd hlk hst0 hroom hrest hdg (fun w2 h => by subst h; rfl) (fun w2 h => ?_)
  subst h; subst hwc
  exact x_perm X (List.Perm.symm (xJ_perm hpm)) kk
theorem x_callSJf0 {segs segs' : List va_W} {mid : List va_W} (is js : List Nat) (hpm : (is ++ js).Perm (List.range segs.length)) (hln : segs'.length = segs.length) (X : xR l G E own nm cc nL R Z K) (hM : xM l G E' y cc' n' ret' fr' lo' mc' ms' (As) wc (none) (fun w2 => w2 = w1)) (hwc : xJ (xAt segs is) = wc) (hw1 : xJ (xAt segs' is) = w1) (hj1 : xAt segs js = mid) (hj2 : xAt segs' js = mid) (hE1 : xEok E') (hE2 : ∀ A U, E A U → E' A U) (hst : st = As.reverse ++ rest) (hco : Cond.code y cc' n' ret' ∈ wU) (hini : Cond.initialized y.cls ∈ wU) (hd : xCd y As.length) (hlk : Cond.methodLink own idx y ∈ wU) (hst0 : Cond.static y ∈ wU) (hroom : fr' + 1 ≤ R.frames ∧ 8 + (n' + 11) + lo' ≤ R.locals ∧ k + mc' ≤ R.cells ∧ z + ms' ≤ R.slots) (hrest : (rest.map fun v => v.category).sum ≤ 8) (hdg : decode cc pc = .ok (.invokestatic idx, 3)) (hsk : w1.map Prod.fst = wc.map Prod.fst) (kk : K (xJ segs') (k + mc') (z + ms') (pc + 3) lv (rest)) : K (xJ segs) k z pc lv st := by
  refine x_callSJ is js hpm X hM hwc hE1 hE2  hst hco hini hd hlk hst0 hroom hrest hdg (fun w2 h => by subst h; exact hsk) (fun w2 h => ?_)
  subst h; subst hw1
  refine x_perm X (List.Perm.symm ?_) kk
  rw [hj1, ← hj2]
  exact xJ_perm (by rw [hln]; exact hpm)
theorem x_callSJr0 {segs : List va_W} (is js : List Nat) (hpm : (is ++ js).Perm (List.range segs.length)) (X : xR l G E own nm cc nL R Z K) (hM : xM l G E' y cc' n' ret' fr' lo' mc' ms' (As) wc (none) (fun w2 => w2 = wc)) (hwc : xJ (xAt segs is) = wc) (hE1 : xEok E') (hE2 : ∀ A U, E A U → E' A U) (hst : st = As.reverse ++ rest) (hco : Cond.code y cc' n' ret' ∈ wU) (hini : Cond.initialized y.cls ∈ wU) (hd : xCd y As.length) (hlk : Cond.methodLink own idx y ∈ wU) (hst0 : Cond.static y ∈ wU) (hroom : fr' + 1 ≤ R.frames ∧ 8 + (n' + 11) + lo' ≤ R.locals ∧ k + mc' ≤ R.cells ∧ z + ms' ≤ R.slots) (hrest : (rest.map fun v => v.category).sum ≤ 8) (hdg : decode cc pc = .ok (.invokestatic idx, 3)) (kk : K (xJ segs) (k + mc') (z + ms') (pc + 3) lv (rest)) : K (xJ segs) k z pc lv st := by
  refine x_callSJ is js hpm X hM hwc hE1 hE2  hst hco hini hd hlk hst0 hroom hrest hdg (fun w2 h => by subst h; rfl) (fun w2 h => ?_)
  subst h; subst hwc
  exact x_perm X (List.Perm.symm (xJ_perm hpm)) kk
theorem x_callNP (X : xR l G E own nm cc nL R Z K) (hM : xM l G E' y cc' n' ret' fr' lo' mc' ms' (As) wc r' Fin') (hE1 : xEok E') (hE2 : ∀ A U, E A U → E' A U) (hst : st = As.reverse ++ rest) (hco : Cond.code y cc' n' ret' ∈ wU) (hini : Cond.initialized y.cls ∈ wU) (hd : xCd y As.length) {host : String} (hlk : (own, idx, y, host) ∈ xNest) (hst0 : Cond.static y ∈ wU) (hroom : fr' + 1 ≤ R.frames ∧ 8 + (n' + 11) + lo' ≤ R.locals ∧ k + mc' ≤ R.cells ∧ z + ms' ≤ R.slots) (hrest : (rest.map fun v => v.category).sum ≤ 8) (hdg : decode cc pc = .ok (.invokestatic idx, 3)) (hsk : ∀ w2, Fin' w2 → w2.map Prod.fst = wc.map Prod.fst) (kk : ∀ w2, Fin' w2 → K (w2 ++ wr) (k + mc') (z + ms') (pc + 3) lv (r'.toList ++ rest)) : K (wc ++ wr) k z pc lv st := by
  have hlen : ∀ w2, Fin' w2 → w2.length = wc.length := fun w2 h => by simpa using congrArg List.length (hsk w2 h)
  have e := xP_at wc [] wr
  simp only [List.length_nil, List.nil_append] at e
  refine x_callN X hM hE1 hE2 (List.range' 0 wc.length) e (xP_nd _ _) hst hco hini hd hlk hst0 hroom hrest hdg (fun w2 h => ⟨by rw [hlen w2 h]; simp, hsk w2 h⟩) (fun w2 h => ?_)
  have e2 := xP_put w2 wc [] wr (hlen w2 h)
  simp only [List.length_nil, List.nil_append] at e2
  rw [e2]
  exact kk w2 h
theorem x_callNJ {segs : List va_W} (is js : List Nat) (hpm : (is ++ js).Perm (List.range segs.length)) (X : xR l G E own nm cc nL R Z K) (hM : xM l G E' y cc' n' ret' fr' lo' mc' ms' (As) wc r' Fin') (hwc : xJ (xAt segs is) = wc) (hE1 : xEok E') (hE2 : ∀ A U, E A U → E' A U) (hst : st = As.reverse ++ rest) (hco : Cond.code y cc' n' ret' ∈ wU) (hini : Cond.initialized y.cls ∈ wU) (hd : xCd y As.length) {host : String} (hlk : (own, idx, y, host) ∈ xNest) (hst0 : Cond.static y ∈ wU) (hroom : fr' + 1 ≤ R.frames ∧ 8 + (n' + 11) + lo' ≤ R.locals ∧ k + mc' ≤ R.cells ∧ z + ms' ≤ R.slots) (hrest : (rest.map fun v => v.category).sum ≤ 8) (hdg : decode cc pc = .ok (.invokestatic idx, 3)) (hsk : ∀ w2, Fin' w2 → w2.map Prod.fst = wc.map Prod.fst) (kk : ∀ w2, Fin' w2 → K (w2 ++ xJ (xAt segs js)) (k + mc') (z + ms') (pc + 3) lv (r'.toList ++ rest)) : K (xJ segs) k z pc lv st := by
  subst hwc
  refine x_perm X (xJ_perm hpm) ?_
  exact x_callNP X hM hE1 hE2  hst hco hini hd hlk hst0 hroom hrest hdg hsk kk
theorem x_callNJfv {segs segs' : List va_W} {mid : List va_W} (is js : List Nat) (hpm : (is ++ js).Perm (List.range segs.length)) (hln : segs'.length = segs.length) (X : xR l G E own nm cc nL R Z K) (hM : xM l G E' y cc' n' ret' fr' lo' mc' ms' (As) wc (some v) (fun w2 => w2 = w1)) (hwc : xJ (xAt segs is) = wc) (hw1 : xJ (xAt segs' is) = w1) (hj1 : xAt segs js = mid) (hj2 : xAt segs' js = mid) (hE1 : xEok E') (hE2 : ∀ A U, E A U → E' A U) (hst : st = As.reverse ++ rest) (hco : Cond.code y cc' n' ret' ∈ wU) (hini : Cond.initialized y.cls ∈ wU) (hd : xCd y As.length) {host : String} (hlk : (own, idx, y, host) ∈ xNest) (hst0 : Cond.static y ∈ wU) (hroom : fr' + 1 ≤ R.frames ∧ 8 + (n' + 11) + lo' ≤ R.locals ∧ k + mc' ≤ R.cells ∧ z + ms' ≤ R.slots) (hrest : (rest.map fun v => v.category).sum ≤ 8) (hdg : decode cc pc = .ok (.invokestatic idx, 3)) (hsk : w1.map Prod.fst = wc.map Prod.fst) (kk : K (xJ segs') (k + mc') (z + ms') (pc + 3) lv (v :: rest)) : K (xJ segs) k z pc lv st := by
  refine x_callNJ is js hpm X hM hwc hE1 hE2  hst hco hini hd hlk hst0 hroom hrest hdg (fun w2 h => by subst h; exact hsk) (fun w2 h => ?_)
  subst h; subst hw1
  refine x_perm X (List.Perm.symm ?_) kk
  rw [hj1, ← hj2]
  exact xJ_perm (by rw [hln]; exact hpm)
theorem x_callNJrv {segs : List va_W} (is js : List Nat) (hpm : (is ++ js).Perm (List.range segs.length)) (X : xR l G E own nm cc nL R Z K) (hM : xM l G E' y cc' n' ret' fr' lo' mc' ms' (As) wc (some v) (fun w2 => w2 = wc)) (hwc : xJ (xAt segs is) = wc) (hE1 : xEok E') (hE2 : ∀ A U, E A U → E' A U) (hst : st = As.reverse ++ rest) (hco : Cond.code y cc' n' ret' ∈ wU) (hini : Cond.initialized y.cls ∈ wU) (hd : xCd y As.length) {host : String} (hlk : (own, idx, y, host) ∈ xNest) (hst0 : Cond.static y ∈ wU) (hroom : fr' + 1 ≤ R.frames ∧ 8 + (n' + 11) + lo' ≤ R.locals ∧ k + mc' ≤ R.cells ∧ z + ms' ≤ R.slots) (hrest : (rest.map fun v => v.category).sum ≤ 8) (hdg : decode cc pc = .ok (.invokestatic idx, 3)) (kk : K (xJ segs) (k + mc') (z + ms') (pc + 3) lv (v :: rest)) : K (xJ segs) k z pc lv st := by
  refine x_callNJ is js hpm X hM hwc hE1 hE2  hst hco hini hd hlk hst0 hroom hrest hdg (fun w2 h => by subst h; rfl) (fun w2 h => ?_)
  subst h; subst hwc
  exact x_perm X (List.Perm.symm (xJ_perm hpm)) kk
theorem x_callNJf0 {segs segs' : List va_W} {mid : List va_W} (is js : List Nat) (hpm : (is ++ js).Perm (List.range segs.length)) (hln : segs'.length = segs.length) (X : xR l G E own nm cc nL R Z K) (hM : xM l G E' y cc' n' ret' fr' lo' mc' ms' (As) wc (none) (fun w2 => w2 = w1)) (hwc : xJ (xAt segs is) = wc) (hw1 : xJ (xAt segs' is) = w1) (hj1 : xAt segs js = mid) (hj2 : xAt segs' js = mid) (hE1 : xEok E') (hE2 : ∀ A U, E A U → E' A U) (hst : st = As.reverse ++ rest) (hco : Cond.code y cc' n' ret' ∈ wU) (hini : Cond.initialized y.cls ∈ wU) (hd : xCd y As.length) {host : String} (hlk : (own, idx, y, host) ∈ xNest) (hst0 : Cond.static y ∈ wU) (hroom : fr' + 1 ≤ R.frames ∧ 8 + (n' + 11) + lo' ≤ R.locals ∧ k + mc' ≤ R.cells ∧ z + ms' ≤ R.slots) (hrest : (rest.map fun v => v.category).sum ≤ 8) (hdg : decode cc pc = .ok (.invokestatic idx, 3)) (hsk : w1.map Prod.fst = wc.map Prod.fst) (kk : K (xJ segs') (k + mc') (z + ms') (pc + 3) lv (rest)) : K (xJ segs) k z pc lv st := by
  refine x_callNJ is js hpm X hM hwc hE1 hE2  hst hco hini hd hlk hst0 hroom hrest hdg (fun w2 h => by subst h; exact hsk) (fun w2 h => ?_)
  subst h; subst hw1
  refine x_perm X (List.Perm.symm ?_) kk
  rw [hj1, ← hj2]
  exact xJ_perm (by rw [hln]; exact hpm)
theorem x_callNJr0 {segs : List va_W} (is js : List Nat) (hpm : (is ++ js).Perm (List.range segs.length)) (X : xR l G E own nm cc nL R Z K) (hM : xM l G E' y cc' n' ret' fr' lo' mc' ms' (As) wc (none) (fun w2 => w2 = wc)) (hwc : xJ (xAt segs is) = wc) (hE1 : xEok E') (hE2 : ∀ A U, E A U → E' A U) (hst : st = As.reverse ++ rest) (hco : Cond.code y cc' n' ret' ∈ wU) (hini : Cond.initialized y.cls ∈ wU) (hd : xCd y As.length) {host : String} (hlk : (own, idx, y, host) ∈ xNest) (hst0 : Cond.static y ∈ wU) (hroom : fr' + 1 ≤ R.frames ∧ 8 + (n' + 11) + lo' ≤ R.locals ∧ k + mc' ≤ R.cells ∧ z + ms' ≤ R.slots) (hrest : (rest.map fun v => v.category).sum ≤ 8) (hdg : decode cc pc = .ok (.invokestatic idx, 3)) (kk : K (xJ segs) (k + mc') (z + ms') (pc + 3) lv (rest)) : K (xJ segs) k z pc lv st := by
  refine x_callNJ is js hpm X hM hwc hE1 hE2  hst hco hini hd hlk hst0 hroom hrest hdg (fun w2 h => by subst h; rfl) (fun w2 h => ?_)
  subst h; subst hwc
  exact x_perm X (List.Perm.symm (xJ_perm hpm)) kk
end XP
end
section
/-! ===== what the class computes on numbers alone; its readers and writers of a row; the Chancery's ===== -/
def F_mix (x y n : Int32) : Int32 := ((nI 10 - n) * x + n * y) / nI 10
def F_ink (kd th ow n : Int32) : Int32 := if kd = 1 then th else if kd = 2 then F_mix (-th) ow n else if kd = 3 then nI 0 else if kd = 4 then nI 9 else F_mix th ow n
def F_tow (a b m : Int32) : Int32 := if a < b then (if a + m < b then a + m else b) else (if b < a - m then a - m else b)
def F_car (kd sy th : Int32) : Int32 := if kd = 1 then F_tow sy th (nI 2) else if kd = 3 then F_tow sy (nI 0) (nI 1) else if kd = 4 then F_tow sy (nI 9) (nI 1) else F_tow sy th (nI 1)
def F_told (x : Int32) : Int32 := if x = nI 100 then (-4) else x + nI 9
def F_cop (kd th x : Int32) : Int32 := if x = nI 100 then nI 100 else F_car kd x th

set_option maxRecDepth 100000 in
set_option maxHeartbeats 4000000 in
/-- X4_isUpTo -/
theorem c_X4_isUpTo (l : Launch) (G : xG) (x : Int32) (m : Nat) (hm : m + 1 < 2 ^ 31) : xM l G xE0 yX4_isUpTo cX4_isUpTo 2 (some .boolean) 0 0 0 0 [.int x, .int (nI m)] ([]) (some (.int (bI (inR x (m + 1))))) (fun w2 => w2 = []) := by
  refine x_entry (by decide +kernel) (Nat.le_of_ble_eq_true rfl) rfl ⟨_, rfl, bI_narrow _⟩ (fun K X => ?_)
  refine x_iloadn X dX4_isUpTo_0 0 rfl ?_
  refine x_if_lt 13 X dX4_isUpTo_1 (by decide) (fun c_1 => ?_) (fun c_1 => ?_)
  · -- 1 t
    refine x_iconst (v := nI 0) X dX4_isUpTo_13 (by decide) ?_
    exact x_ret X dX4_isUpTo_14 ⟨ret_i (by simp only [bI]; first | rw [inR_neg (by assumption)]; rfl | rw [inR_gt hm (by assumption)]; rfl | rw [inR_le hm (by assumption) (Int32.not_lt.mp (by assumption))]; rfl), rfl, by decide, by decide⟩
  · -- 1 f
    refine x_iloadn X dX4_isUpTo_4 0 rfl ?_
    refine x_iloadn X dX4_isUpTo_5 1 rfl ?_
    refine x_icmp_gt 13 X dX4_isUpTo_6 (by decide) (fun c_2 => ?_) (fun c_2 => ?_)
    · -- 6 t
      refine x_iconst (v := nI 0) X dX4_isUpTo_13 (by decide) ?_
      exact x_ret X dX4_isUpTo_14 ⟨ret_i (by simp only [bI]; first | rw [inR_neg (by assumption)]; rfl | rw [inR_gt hm (by assumption)]; rfl | rw [inR_le hm (by assumption) (Int32.not_lt.mp (by assumption))]; rfl), rfl, by decide, by decide⟩
    · -- 6 f
      refine x_iconst (v := nI 1) X dX4_isUpTo_9 (by decide) ?_
      refine x_goto 14 X dX4_isUpTo_10 (by decide) ?_
      exact x_ret X dX4_isUpTo_14 ⟨ret_i (by simp only [bI]; first | rw [inR_neg (by assumption)]; rfl | rw [inR_gt hm (by assumption)]; rfl | rw [inR_le hm (by assumption) (Int32.not_lt.mp (by assumption))]; rfl), rfl, by decide, by decide⟩
set_option maxRecDepth 100000 in
set_option maxHeartbeats 4000000 in
/-- X4_isTheme -/
theorem c_X4_isTheme (l : Launch) (G : xG) (x : Int32)  : xM l G xE0 yX4_isTheme cX4_isTheme 1 (some .boolean) 0 0 0 0 [.int x] ([]) (some (.int (bI (inR x 5)))) (fun w2 => w2 = []) := by
  refine x_entry (by decide +kernel) (Nat.le_of_ble_eq_true rfl) rfl ⟨_, rfl, bI_narrow _⟩ (fun K X => ?_)
  refine x_iloadn X dX4_isTheme_0 0 rfl ?_
  refine x_if_lt 13 X dX4_isTheme_1 (by decide) (fun c_1 => ?_) (fun c_1 => ?_)
  · -- 1 t
    refine x_iconst (v := nI 0) X dX4_isTheme_13 (by decide) ?_
    exact x_ret X dX4_isTheme_14 ⟨ret_i (by simp only [bI]; first | rw [inR_in (by assumption) (Int32.not_le.mpr (by assumption))]; rfl | rw [inR_neg (by assumption)]; rfl | rw [inR_ge (Int32.not_lt.mp (by assumption))]; rfl), rfl, by decide, by decide⟩
  · -- 1 f
    refine x_iloadn X dX4_isTheme_4 0 rfl ?_
    refine x_iconst (v := nI 5) X dX4_isTheme_5 (by decide) ?_
    refine x_icmp_ge 13 X dX4_isTheme_6 (by decide) (fun c_2 => ?_) (fun c_2 => ?_)
    · -- 6 t
      replace c_2 := Int32.not_lt.mpr c_2
      refine x_iconst (v := nI 0) X dX4_isTheme_13 (by decide) ?_
      exact x_ret X dX4_isTheme_14 ⟨ret_i (by simp only [bI]; first | rw [inR_in (by assumption) (Int32.not_le.mpr (by assumption))]; rfl | rw [inR_neg (by assumption)]; rfl | rw [inR_ge (Int32.not_lt.mp (by assumption))]; rfl), rfl, by decide, by decide⟩
    · -- 6 f
      replace c_2 := Int32.not_le.mp c_2
      refine x_iconst (v := nI 1) X dX4_isTheme_9 (by decide) ?_
      refine x_goto 14 X dX4_isTheme_10 (by decide) ?_
      exact x_ret X dX4_isTheme_14 ⟨ret_i (by simp only [bI]; first | rw [inR_in (by assumption) (Int32.not_le.mpr (by assumption))]; rfl | rw [inR_neg (by assumption)]; rfl | rw [inR_ge (Int32.not_lt.mp (by assumption))]; rfl), rfl, by decide, by decide⟩
set_option maxRecDepth 100000 in
set_option maxHeartbeats 4000000 in
/-- X4_told -/
theorem c_X4_told (l : Launch) (G : xG) (x : Int32)  : xM l G xE0 yX4_told cX4_told 1 (some .int) 0 0 0 0 [.int x] ([]) (some (.int (F_told x))) (fun w2 => w2 = []) := by
  refine x_entry (by decide +kernel) (Nat.le_of_ble_eq_true rfl) rfl ⟨_, rfl, rfl⟩ (fun K X => ?_)
  refine x_iloadn X dX4_told_0 0 rfl ?_
  refine x_bipush (v := nI 100) X dX4_told_1 (by decide) ?_
  refine x_icmp_ne 11 X dX4_told_3 (by decide) (fun c_1 => ?_) (fun c_1 => ?_)
  · -- 3 t
    refine x_iloadn X dX4_told_11 0 rfl ?_
    refine x_bipush (v := nI 9) X dX4_told_12 (by decide) ?_
    refine x_iadd (v := x + (nI 9)) X dX4_told_14 rfl ?_
    exact x_ret X dX4_told_15 ⟨ret_i (by simp [F_told, c_1]), rfl, by decide, by decide⟩
  · -- 3 f
    refine x_bipush (v := (-4)) X dX4_told_6 (by decide) ?_
    refine x_goto 15 X dX4_told_8 (by decide) ?_
    exact x_ret X dX4_told_15 ⟨ret_i (by simp [F_told, c_1]), rfl, by decide, by decide⟩
set_option maxRecDepth 100000 in
set_option maxHeartbeats 4000000 in
/-- X4_at -/
theorem c_X4_at (l : Launch) (G : xG) (a : Nat) (n : Nat) (f : Nat → Int32) (j : Nat) (hj : j < n) (hn : n < 2 ^ 31) : xM l G xE0 yX4_at cX4_at 2 (some .int) 0 0 0 0 [.ref a, .int (nI j)] (wIA G a n f) (some (.int (f j))) (fun w2 => w2 = wIA G a n f) := by
  refine x_entry (by decide +kernel) (Nat.le_of_ble_eq_true rfl) rfl ⟨_, rfl, rfl⟩ (fun K X => ?_)
  refine x_iloadn X dX4_at_0 1 rfl ?_
  refine x_if_lt_n 16 X dX4_at_1 (by decide) (by omega) (fun c_1 => ?_) (fun c_1 => ?_)
  · -- 1 t
    exact absurd c_1 (by omega)
  · -- 1 f
    refine x_iloadn X dX4_at_4 1 rfl ?_
    refine x_aloadn X dX4_at_5 0 rfl ?_
    refine x_alen X 0 rfl dX4_at_6 ?_
    refine x_icmp_ge_n 16 X dX4_at_7 (by decide) (by omega) (by omega) (fun c_2 => ?_) (fun c_2 => ?_)
    · -- 7 t
      exact absurd c_2 (by omega)
    · -- 7 f
      refine x_aloadn X dX4_at_10 0 rfl ?_
      refine x_iloadn X dX4_at_11 1 rfl ?_
      refine x_iald_n (v := f j) X 0 rfl (by omega) (by omega) rfl dX4_at_12 ?_
      refine x_goto 17 X dX4_at_13 (by decide) ?_
      exact x_ret X dX4_at_17 ⟨rfl, rfl, by decide, by decide⟩
set_option maxRecDepth 100000 in
set_option maxHeartbeats 4000000 in
/-- X4_put -/
theorem c_X4_put (l : Launch) (G : xG) (a : Nat) (n : Nat) (f : Nat → Int32) (j : Nat) (v : Int32) (hj : j < n) (hn : n < 2 ^ 31) : xM l G xE0 yX4_put cX4_put 3 none 0 0 0 0 [.ref a, .int (nI j), .int v] (wIA G a n f) none (fun w2 => w2 = wIA G a n (upd f j v)) := by
  refine x_entry (by decide +kernel) (Nat.le_of_ble_eq_true rfl) rfl rfl (fun K X => ?_)
  refine x_iloadn X dX4_put_0 1 rfl ?_
  refine x_if_lt_n 14 X dX4_put_1 (by decide) (by omega) (fun c_1 => ?_) (fun c_1 => ?_)
  · -- 1 t
    exact absurd c_1 (by omega)
  · -- 1 f
    refine x_iloadn X dX4_put_4 1 rfl ?_
    refine x_aloadn X dX4_put_5 0 rfl ?_
    refine x_alen X 0 rfl dX4_put_6 ?_
    refine x_icmp_ge_n 14 X dX4_put_7 (by decide) (by omega) (by omega) (fun c_2 => ?_) (fun c_2 => ?_)
    · -- 7 t
      exact absurd c_2 (by omega)
    · -- 7 f
      refine x_aloadn X dX4_put_10 0 rfl ?_
      refine x_iloadn X dX4_put_11 1 rfl ?_
      refine x_iloadn X dX4_put_12 2 rfl ?_
      refine x_iast_n (g := upd f j v) (ws' := wIA G a n (upd f j v)) X 0 rfl (by omega) (by omega) rfl rfl dX4_put_13 ?_
      exact x_retv X dX4_put_14 ⟨rfl, rfl, by decide, by decide⟩
set_option maxRecDepth 100000 in
set_option maxHeartbeats 4000000 in
/-- X4_remainder -/
theorem c_X4_remainder (l : Launch) (G : xG) (x : Nat) (y : Nat) (hx : x < 2 ^ 31) (hy0 : 0 < y) (hy : y < 2 ^ 31) : xM l G xE0 yX4_remainder cX4_remainder 2 (some .int) 0 0 0 0 [.int (nI x), .int (nI y)] ([]) (some (.int (nI (x % y)))) (fun w2 => w2 = []) := by
  refine x_entry (by decide +kernel) (Nat.le_of_ble_eq_true rfl) rfl ⟨_, rfl, rfl⟩ (fun K X => ?_)
  refine x_iloadn X dX4_remainder_0 1 rfl ?_
  refine x_if_le_n 10 X dX4_remainder_1 (by decide) (by omega) (fun c_1 => ?_) (fun c_1 => ?_)
  · -- 1 t
    exact absurd c_1 (by omega)
  · -- 1 f
    refine x_iloadn X dX4_remainder_4 0 rfl ?_
    refine x_iloadn X dX4_remainder_5 1 rfl ?_
    refine x_irem (v := nI (x % y)) X dX4_remainder_6 (nI_ne0 (by omega) (by omega)) (pk_rem (by omega) (by omega) (by omega)) ?_
    refine x_goto 11 X dX4_remainder_7 (by decide) ?_
    exact x_ret X dX4_remainder_11 ⟨rfl, rfl, by decide, by decide⟩
set_option maxRecDepth 100000 in
set_option maxHeartbeats 4000000 in
/-- X4_mixed -/
theorem c_X4_mixed (l : Launch) (G : xG) (x : Int32) (y : Int32) (n : Int32)  : xM l G xE0 yX4_mixed cX4_mixed 3 (some .int) 0 0 0 0 [.int x, .int y, .int n] ([]) (some (.int (F_mix x y n))) (fun w2 => w2 = []) := by
  refine x_entry (by decide +kernel) (Nat.le_of_ble_eq_true rfl) rfl ⟨_, rfl, rfl⟩ (fun K X => ?_)
  refine x_bipush (v := nI 10) X dX4_mixed_0 (by decide) ?_
  refine x_iloadn X dX4_mixed_2 2 rfl ?_
  refine x_isub (v := (nI 10) - n) X dX4_mixed_3 rfl ?_
  refine x_iloadn X dX4_mixed_4 0 rfl ?_
  refine x_imul (v := ((nI 10) - n) * x) X dX4_mixed_5 rfl ?_
  refine x_iloadn X dX4_mixed_6 2 rfl ?_
  refine x_iloadn X dX4_mixed_7 1 rfl ?_
  refine x_imul (v := n * y) X dX4_mixed_8 rfl ?_
  refine x_iadd (v := (((nI 10) - n) * x) + (n * y)) X dX4_mixed_9 rfl ?_
  refine x_bipush (v := nI 10) X dX4_mixed_10 (by decide) ?_
  refine x_idiv (v := ((((nI 10) - n) * x) + (n * y)) / (nI 10)) X dX4_mixed_12 (by decide) rfl ?_
  exact x_ret X dX4_mixed_13 ⟨ret_i (by rfl), rfl, by decide, by decide⟩
set_option maxRecDepth 100000 in
set_option maxHeartbeats 4000000 in
/-- X4_inked -/
theorem c_X4_inked (l : Launch) (G : xG) (kd : Int32) (th : Int32) (ow : Int32) (n : Int32)  : xM l G xE0 yX4_inked cX4_inked 4 (some .int) 1 22 0 0 [.int kd, .int th, .int ow, .int n] ([]) (some (.int (F_ink kd th ow n))) (fun w2 => w2 = []) := by
  refine x_entry (by decide +kernel) (Nat.le_of_ble_eq_true rfl) rfl ⟨_, rfl, rfl⟩ (fun K X => ?_)
  refine x_iloadn X dX4_inked_0 0 rfl ?_
  by_cases c_1 : kd = 1
  · -- case 1
    refine x_int c_1 ?_
    refine x_tableIn 32 X dX4_inked_1 (by decide) (by decide) rfl (by decide) ?_
    refine x_iloadn X dX4_inked_32 1 rfl ?_
    exact x_ret X dX4_inked_33 ⟨ret_i (by simp [F_ink, c_1]), rfl, by decide, by decide⟩
  by_cases c_2 : kd = 2
  · -- case 2
    refine x_int c_2 ?_
    refine x_tableIn 34 X dX4_inked_1 (by decide) (by decide) rfl (by decide) ?_
    refine x_iloadn X dX4_inked_34 1 rfl ?_
    refine x_ineg (v := -th) X dX4_inked_35 rfl ?_
    refine x_iloadn X dX4_inked_36 2 rfl ?_
    refine x_iloadn X dX4_inked_37 3 rfl ?_
    refine x_callSrv (As := [.int (-th), .int ow, .int n]) (rest := []) X (c_X4_mixed l G (-th) ow n) xE0_ok (fun _ _ _ => trivial) [] rfl rfl rfl wco_X4_mixed wi_X4 xd_X4_mixed wl_X4_223 wst_X4_mixed (by decide) (Nat.le_of_ble_eq_true rfl) dX4_inked_38 ?_
    exact x_ret X dX4_inked_41 ⟨ret_i (by simp [F_ink, c_1, c_2]), rfl, by decide, by decide⟩
  by_cases c_3 : kd = 3
  · -- case 3
    refine x_int c_3 ?_
    refine x_tableIn 42 X dX4_inked_1 (by decide) (by decide) rfl (by decide) ?_
    refine x_iconst (v := nI 0) X dX4_inked_42 (by decide) ?_
    exact x_ret X dX4_inked_43 ⟨ret_i (by simp [F_ink, c_1, c_2, c_3]), rfl, by decide, by decide⟩
  by_cases c_4 : kd = 4
  · -- case 4
    refine x_int c_4 ?_
    refine x_tableIn 44 X dX4_inked_1 (by decide) (by decide) rfl (by decide) ?_
    refine x_bipush (v := nI 9) X dX4_inked_44 (by decide) ?_
    exact x_ret X dX4_inked_46 ⟨ret_i (by simp [F_ink, c_1, c_2, c_3, c_4]), rfl, by decide, by decide⟩
  refine x_tableOut 47 X dX4_inked_1 (by have := lv_neT (a := 1) c_1 rfl; have := lv_neT (a := 2) c_2 rfl; have := lv_neT (a := 3) c_3 rfl; have := lv_neT (a := 4) c_4 rfl; omega) (by decide) ?_
  refine x_iloadn X dX4_inked_47 1 rfl ?_
  refine x_iloadn X dX4_inked_48 2 rfl ?_
  refine x_iloadn X dX4_inked_49 3 rfl ?_
  refine x_callSrv (As := [.int th, .int ow, .int n]) (rest := []) X (c_X4_mixed l G th ow n) xE0_ok (fun _ _ _ => trivial) [] rfl rfl rfl wco_X4_mixed wi_X4 xd_X4_mixed wl_X4_223 wst_X4_mixed (by decide) (Nat.le_of_ble_eq_true rfl) dX4_inked_50 ?_
  exact x_ret X dX4_inked_53 ⟨ret_i (by simp [F_ink, c_1, c_2, c_3, c_4]), rfl, by decide, by decide⟩
set_option maxRecDepth 100000 in
set_option maxHeartbeats 4000000 in
/-- X4_toward -/
theorem c_X4_toward (l : Launch) (G : xG) (x : Int32) (y : Int32) (m : Int32)  : xM l G xE0 yX4_toward cX4_toward 3 (some .int) 1 13 0 0 [.int x, .int y, .int m] ([]) (some (.int (F_tow x y m))) (fun w2 => w2 = []) := by
  refine x_entry (by decide +kernel) (Nat.le_of_ble_eq_true rfl) rfl ⟨_, rfl, rfl⟩ (fun K X => ?_)
  refine x_iloadn X dX4_toward_0 0 rfl ?_
  refine x_iloadn X dX4_toward_1 1 rfl ?_
  refine x_icmp_ge 15 X dX4_toward_2 (by decide) (fun c_1 => ?_) (fun c_1 => ?_)
  · -- 2 t
    replace c_1 := Int32.not_lt.mpr c_1
    refine x_iloadn X dX4_toward_15 1 rfl ?_
    refine x_iloadn X dX4_toward_16 0 rfl ?_
    refine x_iloadn X dX4_toward_17 2 rfl ?_
    refine x_isub (v := x - m) X dX4_toward_18 rfl ?_
    refine x_max (v := if y < x - m then x - m else y) X wl_X4_234 (by decide) (Nat.le_of_ble_eq_true rfl) (by decide) rfl dX4_toward_19 ?_
    exact x_ret X dX4_toward_22 ⟨ret_i (by simp [F_tow, c_1]), rfl, by decide, by decide⟩
  · -- 2 f
    replace c_1 := Int32.not_le.mp c_1
    refine x_iloadn X dX4_toward_5 1 rfl ?_
    refine x_iloadn X dX4_toward_6 0 rfl ?_
    refine x_iloadn X dX4_toward_7 2 rfl ?_
    refine x_iadd (v := x + m) X dX4_toward_8 rfl ?_
    refine x_min (v := if x + m < y then x + m else y) X wl_X4_229 (by decide) (Nat.le_of_ble_eq_true rfl) (by decide) rfl dX4_toward_9 ?_
    refine x_goto 22 X dX4_toward_12 (by decide) ?_
    exact x_ret X dX4_toward_22 ⟨ret_i (by simp [F_tow, c_1]), rfl, by decide, by decide⟩
set_option maxRecDepth 100000 in
set_option maxHeartbeats 4000000 in
/-- X4_carried -/
theorem c_X4_carried (l : Launch) (G : xG) (kd : Int32) (sy : Int32) (th : Int32)  : xM l G xE0 yX4_carried cX4_carried 3 (some .int) 2 35 0 0 [.int kd, .int sy, .int th] ([]) (some (.int (F_car kd sy th))) (fun w2 => w2 = []) := by
  refine x_entry (by decide +kernel) (Nat.le_of_ble_eq_true rfl) rfl ⟨_, rfl, rfl⟩ (fun K X => ?_)
  refine x_iloadn X dX4_carried_0 0 rfl ?_
  by_cases c_1 : kd = 1
  · -- case 1
    refine x_int c_1 ?_
    refine x_tableIn 32 X dX4_carried_1 (by decide) (by decide) rfl (by decide) ?_
    refine x_iloadn X dX4_carried_32 1 rfl ?_
    refine x_iloadn X dX4_carried_33 2 rfl ?_
    refine x_iconst (v := nI 2) X dX4_carried_34 (by decide) ?_
    refine x_callSrv (As := [.int sy, .int th, .int (nI 2)]) (rest := []) X (c_X4_toward l G sy th (nI 2)) xE0_ok (fun _ _ _ => trivial) [] rfl rfl rfl wco_X4_toward wi_X4 xd_X4_toward wl_X4_226 wst_X4_toward (by decide) (Nat.le_of_ble_eq_true rfl) dX4_carried_35 ?_
    exact x_ret X dX4_carried_38 ⟨ret_i (by simp [F_car, c_1]), rfl, by decide, by decide⟩
  by_cases c_2 : kd = 2
  · -- case 2
    refine x_int c_2 ?_
    refine x_tableIn 54 X dX4_carried_1 (by decide) (by decide) rfl (by decide) ?_
    refine x_iloadn X dX4_carried_54 1 rfl ?_
    refine x_iloadn X dX4_carried_55 2 rfl ?_
    refine x_iconst (v := nI 1) X dX4_carried_56 (by decide) ?_
    refine x_callSrv (As := [.int sy, .int th, .int (nI 1)]) (rest := []) X (c_X4_toward l G sy th (nI 1)) xE0_ok (fun _ _ _ => trivial) [] rfl rfl rfl wco_X4_toward wi_X4 xd_X4_toward wl_X4_226 wst_X4_toward (by decide) (Nat.le_of_ble_eq_true rfl) dX4_carried_57 ?_
    exact x_ret X dX4_carried_60 ⟨ret_i (by simp [F_car, c_1, c_2]), rfl, by decide, by decide⟩
  by_cases c_3 : kd = 3
  · -- case 3
    refine x_int c_3 ?_
    refine x_tableIn 39 X dX4_carried_1 (by decide) (by decide) rfl (by decide) ?_
    refine x_iloadn X dX4_carried_39 1 rfl ?_
    refine x_iconst (v := nI 0) X dX4_carried_40 (by decide) ?_
    refine x_iconst (v := nI 1) X dX4_carried_41 (by decide) ?_
    refine x_callSrv (As := [.int sy, .int (nI 0), .int (nI 1)]) (rest := []) X (c_X4_toward l G sy (nI 0) (nI 1)) xE0_ok (fun _ _ _ => trivial) [] rfl rfl rfl wco_X4_toward wi_X4 xd_X4_toward wl_X4_226 wst_X4_toward (by decide) (Nat.le_of_ble_eq_true rfl) dX4_carried_42 ?_
    exact x_ret X dX4_carried_45 ⟨ret_i (by simp [F_car, c_1, c_2, c_3]), rfl, by decide, by decide⟩
  by_cases c_4 : kd = 4
  · -- case 4
    refine x_int c_4 ?_
    refine x_tableIn 46 X dX4_carried_1 (by decide) (by decide) rfl (by decide) ?_
    refine x_iloadn X dX4_carried_46 1 rfl ?_
    refine x_bipush (v := nI 9) X dX4_carried_47 (by decide) ?_
    refine x_iconst (v := nI 1) X dX4_carried_49 (by decide) ?_
    refine x_callSrv (As := [.int sy, .int (nI 9), .int (nI 1)]) (rest := []) X (c_X4_toward l G sy (nI 9) (nI 1)) xE0_ok (fun _ _ _ => trivial) [] rfl rfl rfl wco_X4_toward wi_X4 xd_X4_toward wl_X4_226 wst_X4_toward (by decide) (Nat.le_of_ble_eq_true rfl) dX4_carried_50 ?_
    exact x_ret X dX4_carried_53 ⟨ret_i (by simp [F_car, c_1, c_2, c_3, c_4]), rfl, by decide, by decide⟩
  refine x_tableOut 54 X dX4_carried_1 (by have := lv_neT (a := 1) c_1 rfl; have := lv_neT (a := 2) c_2 rfl; have := lv_neT (a := 3) c_3 rfl; have := lv_neT (a := 4) c_4 rfl; omega) (by decide) ?_
  refine x_iloadn X dX4_carried_54 1 rfl ?_
  refine x_iloadn X dX4_carried_55 2 rfl ?_
  refine x_iconst (v := nI 1) X dX4_carried_56 (by decide) ?_
  refine x_callSrv (As := [.int sy, .int th, .int (nI 1)]) (rest := []) X (c_X4_toward l G sy th (nI 1)) xE0_ok (fun _ _ _ => trivial) [] rfl rfl rfl wco_X4_toward wi_X4 xd_X4_toward wl_X4_226 wst_X4_toward (by decide) (Nat.le_of_ble_eq_true rfl) dX4_carried_57 ?_
  exact x_ret X dX4_carried_60 ⟨ret_i (by simp [F_car, c_1, c_2, c_3, c_4]), rfl, by decide, by decide⟩
set_option maxRecDepth 100000 in
set_option maxHeartbeats 4000000 in
/-- X0_persons -/
theorem c_X0_persons (l : Launch) (G : xG) (a : Nat → Nat) (np : Nat) (nq : Nat) (kd : Nat → Int32) (mi : Nat → Int32) (vi : Nat → Int32) (li : Nat → Int32)  : xM l G xE0 yX0_persons cX0_persons 1 (some .int) 0 0 0 0 [.ref (a 0)] (wCh G a np nq kd mi vi li) (some (.int (nI np))) (fun w2 => w2 = wCh G a np nq kd mi vi li) := by
  refine x_entry (by decide +kernel) (Nat.le_of_ble_eq_true rfl) rfl ⟨_, rfl, rfl⟩ (fun K X => ?_)
  refine x_aloadn X dX0_persons_0 0 rfl ?_
  refine x_get X wu_X0 0 rfl rfl 0 (by decide) wf_X0_24 rfl rfl dX0_persons_1 ?_
  exact x_ret X dX0_persons_4 ⟨rfl, rfl, by decide, by decide⟩
set_option maxRecDepth 100000 in
set_option maxHeartbeats 4000000 in
/-- X0_papers -/
theorem c_X0_papers (l : Launch) (G : xG) (a : Nat → Nat) (np : Nat) (nq : Nat) (kd : Nat → Int32) (mi : Nat → Int32) (vi : Nat → Int32) (li : Nat → Int32)  : xM l G xE0 yX0_papers cX0_papers 1 (some .int) 0 0 0 0 [.ref (a 0)] (wCh G a np nq kd mi vi li) (some (.int (nI nq))) (fun w2 => w2 = wCh G a np nq kd mi vi li) := by
  refine x_entry (by decide +kernel) (Nat.le_of_ble_eq_true rfl) rfl ⟨_, rfl, rfl⟩ (fun K X => ?_)
  refine x_aloadn X dX0_papers_0 0 rfl ?_
  refine x_get X wu_X0 0 rfl rfl 1 (by decide) wf_X0_28 rfl rfl dX0_papers_1 ?_
  exact x_ret X dX0_papers_4 ⟨rfl, rfl, by decide, by decide⟩
set_option maxRecDepth 100000 in
set_option maxHeartbeats 4000000 in
/-- X0_hasPerson -/
theorem c_X0_hasPerson (l : Launch) (G : xG) (a : Nat → Nat) (np : Nat) (nq : Nat) (kd : Nat → Int32) (mi : Nat → Int32) (vi : Nat → Int32) (li : Nat → Int32) (p : Int32) (hnp : np < 2 ^ 31) : xM l G xE0 yX0_hasPerson cX0_hasPerson 2 (some .boolean) 0 0 0 0 [.ref (a 0), .int p] (wCh G a np nq kd mi vi li) (some (.int (bI (inR p np)))) (fun w2 => w2 = wCh G a np nq kd mi vi li) := by
  refine x_entry (by decide +kernel) (Nat.le_of_ble_eq_true rfl) rfl ⟨_, rfl, bI_narrow _⟩ (fun K X => ?_)
  refine x_iloadn X dX0_hasPerson_0 1 rfl ?_
  refine x_if_lt 16 X dX0_hasPerson_1 (by decide) (fun c_1 => ?_) (fun c_1 => ?_)
  · -- 1 t
    refine x_iconst (v := nI 0) X dX0_hasPerson_16 (by decide) ?_
    exact x_ret X dX0_hasPerson_17 ⟨ret_i (by simp only [bI]; first | rw [inR_in (by assumption) (Int32.not_le.mpr (by assumption))]; rfl | rw [inR_neg (by assumption)]; rfl | rw [inR_ge (Int32.not_lt.mp (by assumption))]; rfl), rfl, by decide, by decide⟩
  · -- 1 f
    refine x_iloadn X dX0_hasPerson_4 1 rfl ?_
    refine x_aloadn X dX0_hasPerson_5 0 rfl ?_
    refine x_get X wu_X0 0 rfl rfl 0 (by decide) wf_X0_24 rfl rfl dX0_hasPerson_6 ?_
    refine x_icmp_ge 16 X dX0_hasPerson_9 (by decide) (fun c_2 => ?_) (fun c_2 => ?_)
    · -- 9 t
      replace c_2 := Int32.not_lt.mpr c_2
      refine x_iconst (v := nI 0) X dX0_hasPerson_16 (by decide) ?_
      exact x_ret X dX0_hasPerson_17 ⟨ret_i (by simp only [bI]; first | rw [inR_in (by assumption) (Int32.not_le.mpr (by assumption))]; rfl | rw [inR_neg (by assumption)]; rfl | rw [inR_ge (Int32.not_lt.mp (by assumption))]; rfl), rfl, by decide, by decide⟩
    · -- 9 f
      replace c_2 := Int32.not_le.mp c_2
      refine x_iconst (v := nI 1) X dX0_hasPerson_12 (by decide) ?_
      refine x_goto 17 X dX0_hasPerson_13 (by decide) ?_
      exact x_ret X dX0_hasPerson_17 ⟨ret_i (by simp only [bI]; first | rw [inR_in (by assumption) (Int32.not_le.mpr (by assumption))]; rfl | rw [inR_neg (by assumption)]; rfl | rw [inR_ge (Int32.not_lt.mp (by assumption))]; rfl), rfl, by decide, by decide⟩
set_option maxRecDepth 100000 in
set_option maxHeartbeats 4000000 in
/-- X0_hasPaper -/
theorem c_X0_hasPaper (l : Launch) (G : xG) (a : Nat → Nat) (np : Nat) (nq : Nat) (kd : Nat → Int32) (mi : Nat → Int32) (vi : Nat → Int32) (li : Nat → Int32) (p : Int32) (hnq : nq < 2 ^ 31) : xM l G xE0 yX0_hasPaper cX0_hasPaper 2 (some .boolean) 0 0 0 0 [.ref (a 0), .int p] (wCh G a np nq kd mi vi li) (some (.int (bI (inR p nq)))) (fun w2 => w2 = wCh G a np nq kd mi vi li) := by
  refine x_entry (by decide +kernel) (Nat.le_of_ble_eq_true rfl) rfl ⟨_, rfl, bI_narrow _⟩ (fun K X => ?_)
  refine x_iloadn X dX0_hasPaper_0 1 rfl ?_
  refine x_if_lt 16 X dX0_hasPaper_1 (by decide) (fun c_1 => ?_) (fun c_1 => ?_)
  · -- 1 t
    refine x_iconst (v := nI 0) X dX0_hasPaper_16 (by decide) ?_
    exact x_ret X dX0_hasPaper_17 ⟨ret_i (by simp only [bI]; first | rw [inR_in (by assumption) (Int32.not_le.mpr (by assumption))]; rfl | rw [inR_neg (by assumption)]; rfl | rw [inR_ge (Int32.not_lt.mp (by assumption))]; rfl), rfl, by decide, by decide⟩
  · -- 1 f
    refine x_iloadn X dX0_hasPaper_4 1 rfl ?_
    refine x_aloadn X dX0_hasPaper_5 0 rfl ?_
    refine x_get X wu_X0 0 rfl rfl 1 (by decide) wf_X0_28 rfl rfl dX0_hasPaper_6 ?_
    refine x_icmp_ge 16 X dX0_hasPaper_9 (by decide) (fun c_2 => ?_) (fun c_2 => ?_)
    · -- 9 t
      replace c_2 := Int32.not_lt.mpr c_2
      refine x_iconst (v := nI 0) X dX0_hasPaper_16 (by decide) ?_
      exact x_ret X dX0_hasPaper_17 ⟨ret_i (by simp only [bI]; first | rw [inR_in (by assumption) (Int32.not_le.mpr (by assumption))]; rfl | rw [inR_neg (by assumption)]; rfl | rw [inR_ge (Int32.not_lt.mp (by assumption))]; rfl), rfl, by decide, by decide⟩
    · -- 9 f
      replace c_2 := Int32.not_le.mp c_2
      refine x_iconst (v := nI 1) X dX0_hasPaper_12 (by decide) ?_
      refine x_goto 17 X dX0_hasPaper_13 (by decide) ?_
      exact x_ret X dX0_hasPaper_17 ⟨ret_i (by simp only [bI]; first | rw [inR_in (by assumption) (Int32.not_le.mpr (by assumption))]; rfl | rw [inR_neg (by assumption)]; rfl | rw [inR_ge (Int32.not_lt.mp (by assumption))]; rfl), rfl, by decide, by decide⟩
set_option maxRecDepth 100000 in
set_option maxHeartbeats 4000000 in
/-- X0_kindOf -/
theorem c_X0_kindOf (l : Launch) (G : xG) (a : Nat → Nat) (np : Nat) (nq : Nat) (kd : Nat → Int32) (mi : Nat → Int32) (vi : Nat → Int32) (li : Nat → Int32) (p : Nat) (hp : p < 6) : xM l G xE0 yX0_kindOf cX0_kindOf 2 (some .int) 1 21 0 0 [.ref (a 0), .int (nI p)] (wCh G a np nq kd mi vi li) (some (.int (kd p))) (fun w2 => w2 = wCh G a np nq kd mi vi li) := by
  refine x_entry (by decide +kernel) (Nat.le_of_ble_eq_true rfl) rfl ⟨_, rfl, rfl⟩ (fun K X => ?_)
  refine x_aloadn X dX0_kindOf_0 0 rfl ?_
  refine x_get X wu_X0 0 rfl rfl 2 (by decide) wf_X0_9 rfl rfl dX0_kindOf_1 ?_
  refine x_iloadn X dX0_kindOf_4 1 rfl ?_
  refine x_callNrv (As := [.ref (a 1), .int (nI p)]) (rest := []) X (c_X4_at l G (a 1) 6 kd p (by omega) (by omega)) xE0_ok (fun _ _ _ => trivial) [1] rfl rfl rfl wco_X4_at wi_X4 xd_X4_at wn_X0_76 wst_X4_at (by decide) (Nat.le_of_ble_eq_true rfl) dX0_kindOf_5 ?_
  exact x_ret X dX0_kindOf_8 ⟨rfl, rfl, by decide, by decide⟩
set_option maxRecDepth 100000 in
set_option maxHeartbeats 4000000 in
/-- X0_mindOf -/
theorem c_X0_mindOf (l : Launch) (G : xG) (a : Nat → Nat) (np : Nat) (nq : Nat) (kd : Nat → Int32) (mi : Nat → Int32) (vi : Nat → Int32) (li : Nat → Int32) (p : Nat) (hp : p < 6) : xM l G xE0 yX0_mindOf cX0_mindOf 2 (some .int) 1 21 0 0 [.ref (a 0), .int (nI p)] (wCh G a np nq kd mi vi li) (some (.int (mi p))) (fun w2 => w2 = wCh G a np nq kd mi vi li) := by
  refine x_entry (by decide +kernel) (Nat.le_of_ble_eq_true rfl) rfl ⟨_, rfl, rfl⟩ (fun K X => ?_)
  refine x_aloadn X dX0_mindOf_0 0 rfl ?_
  refine x_get X wu_X0 0 rfl rfl 3 (by decide) wf_X0_15 rfl rfl dX0_mindOf_1 ?_
  refine x_iloadn X dX0_mindOf_4 1 rfl ?_
  refine x_callNrv (As := [.ref (a 2), .int (nI p)]) (rest := []) X (c_X4_at l G (a 2) 6 mi p (by omega) (by omega)) xE0_ok (fun _ _ _ => trivial) [2] rfl rfl rfl wco_X4_at wi_X4 xd_X4_at wn_X0_76 wst_X4_at (by decide) (Nat.le_of_ble_eq_true rfl) dX0_mindOf_5 ?_
  exact x_ret X dX0_mindOf_8 ⟨rfl, rfl, by decide, by decide⟩
set_option maxRecDepth 100000 in
set_option maxHeartbeats 4000000 in
/-- X0_putMind -/
theorem c_X0_putMind (l : Launch) (G : xG) (a : Nat → Nat) (np : Nat) (nq : Nat) (kd : Nat → Int32) (mi : Nat → Int32) (vi : Nat → Int32) (li : Nat → Int32) (p : Nat) (m : Int32) (hp : p < 6) : xM l G xE0 yX0_putMind cX0_putMind 3 none 1 22 0 0 [.ref (a 0), .int (nI p), .int m] (wCh G a np nq kd mi vi li) none (fun w2 => w2 = wCh G a np nq kd (upd mi p m) vi li) := by
  refine x_entry (by decide +kernel) (Nat.le_of_ble_eq_true rfl) rfl rfl (fun K X => ?_)
  refine x_aloadn X dX0_putMind_0 0 rfl ?_
  refine x_get X wu_X0 0 rfl rfl 3 (by decide) wf_X0_15 rfl rfl dX0_putMind_1 ?_
  refine x_iloadn X dX0_putMind_4 1 rfl ?_
  refine x_iloadn X dX0_putMind_5 2 rfl ?_
  refine x_callNf0 (As := [.ref (a 2), .int (nI p), .int m]) (rest := []) (w1 := wIA G (a 2) 6 (upd mi p m)) (ws' := wCh G a np nq kd (upd mi p m) vi li) X (c_X4_put l G (a 2) 6 mi p m (by omega) (by omega)) xE0_ok (fun _ _ _ => trivial) [2] rfl rfl rfl wco_X4_put wi_X4 xd_X4_put wn_X0_57 wst_X4_put (by decide) (Nat.le_of_ble_eq_true rfl) dX0_putMind_6 rfl (Eq.trans (b := [a 2]) rfl rfl) rfl ?_
  exact x_retv X dX0_putMind_9 ⟨rfl, rfl, by decide, by decide⟩
set_option maxRecDepth 100000 in
set_option maxHeartbeats 4000000 in
/-- X0_viewOf -/
theorem c_X0_viewOf (l : Launch) (G : xG) (a : Nat → Nat) (np : Nat) (nq : Nat) (kd : Nat → Int32) (mi : Nat → Int32) (vi : Nat → Int32) (li : Nat → Int32) (p : Nat) (t : Nat) (hp : p < 6) (ht : t < 5) : xM l G xE0 yX0_viewOf cX0_viewOf 3 (some .int) 1 21 0 0 [.ref (a 0), .int (nI p), .int (nI t)] (wCh G a np nq kd mi vi li) (some (.int (vi (p * 5 + t)))) (fun w2 => w2 = wCh G a np nq kd mi vi li) := by
  refine x_entry (by decide +kernel) (Nat.le_of_ble_eq_true rfl) rfl ⟨_, rfl, rfl⟩ (fun K X => ?_)
  refine x_aloadn X dX0_viewOf_0 0 rfl ?_
  refine x_get X wu_X0 0 rfl rfl 4 (by decide) wf_X0_18 rfl rfl dX0_viewOf_1 ?_
  refine x_iloadn X dX0_viewOf_4 1 rfl ?_
  refine x_iconst (v := nI 5) X dX0_viewOf_5 (by decide) ?_
  refine x_imul (v := nI (p * 5)) X dX0_viewOf_6 (pk_mul _ _) ?_
  refine x_iloadn X dX0_viewOf_7 2 rfl ?_
  refine x_iadd (v := nI (p * 5 + t)) X dX0_viewOf_8 (nI_add _ _) ?_
  refine x_callNrv (As := [.ref (a 3), .int (nI (p * 5 + t))]) (rest := []) X (c_X4_at l G (a 3) 30 vi (p * 5 + t) (by omega) (by omega)) xE0_ok (fun _ _ _ => trivial) [3] rfl rfl rfl wco_X4_at wi_X4 xd_X4_at wn_X0_76 wst_X4_at (by decide) (Nat.le_of_ble_eq_true rfl) dX0_viewOf_9 ?_
  exact x_ret X dX0_viewOf_12 ⟨rfl, rfl, by decide, by decide⟩
set_option maxRecDepth 100000 in
set_option maxHeartbeats 4000000 in
/-- X0_putView -/
theorem c_X0_putView (l : Launch) (G : xG) (a : Nat → Nat) (np : Nat) (nq : Nat) (kd : Nat → Int32) (mi : Nat → Int32) (vi : Nat → Int32) (li : Nat → Int32) (p : Nat) (t : Nat) (v : Int32) (hp : p < 6) (ht : t < 5) : xM l G xE0 yX0_putView cX0_putView 4 none 1 22 0 0 [.ref (a 0), .int (nI p), .int (nI t), .int v] (wCh G a np nq kd mi vi li) none (fun w2 => w2 = wCh G a np nq kd mi (upd vi (p * 5 + t) v) li) := by
  refine x_entry (by decide +kernel) (Nat.le_of_ble_eq_true rfl) rfl rfl (fun K X => ?_)
  refine x_aloadn X dX0_putView_0 0 rfl ?_
  refine x_get X wu_X0 0 rfl rfl 4 (by decide) wf_X0_18 rfl rfl dX0_putView_1 ?_
  refine x_iloadn X dX0_putView_4 1 rfl ?_
  refine x_iconst (v := nI 5) X dX0_putView_5 (by decide) ?_
  refine x_imul (v := nI (p * 5)) X dX0_putView_6 (pk_mul _ _) ?_
  refine x_iloadn X dX0_putView_7 2 rfl ?_
  refine x_iadd (v := nI (p * 5 + t)) X dX0_putView_8 (nI_add _ _) ?_
  refine x_iloadn X dX0_putView_9 3 rfl ?_
  refine x_callNf0 (As := [.ref (a 3), .int (nI (p * 5 + t)), .int v]) (rest := []) (w1 := wIA G (a 3) 30 (upd vi (p * 5 + t) v)) (ws' := wCh G a np nq kd mi (upd vi (p * 5 + t) v) li) X (c_X4_put l G (a 3) 30 vi (p * 5 + t) v (by omega) (by omega)) xE0_ok (fun _ _ _ => trivial) [3] rfl rfl rfl wco_X4_put wi_X4 xd_X4_put wn_X0_57 wst_X4_put (by decide) (Nat.le_of_ble_eq_true rfl) dX0_putView_10 rfl (Eq.trans (b := [a 3]) rfl rfl) rfl ?_
  exact x_retv X dX0_putView_13 ⟨rfl, rfl, by decide, by decide⟩
set_option maxRecDepth 100000 in
set_option maxHeartbeats 4000000 in
/-- X0_lineOf -/
theorem c_X0_lineOf (l : Launch) (G : xG) (a : Nat → Nat) (np : Nat) (nq : Nat) (kd : Nat → Int32) (mi : Nat → Int32) (vi : Nat → Int32) (li : Nat → Int32) (p : Nat) (t : Nat) (hp : p < 5) (ht : t < 5) : xM l G xE0 yX0_lineOf cX0_lineOf 3 (some .int) 1 21 0 0 [.ref (a 0), .int (nI p), .int (nI t)] (wCh G a np nq kd mi vi li) (some (.int (li (p * 5 + t)))) (fun w2 => w2 = wCh G a np nq kd mi vi li) := by
  refine x_entry (by decide +kernel) (Nat.le_of_ble_eq_true rfl) rfl ⟨_, rfl, rfl⟩ (fun K X => ?_)
  refine x_aloadn X dX0_lineOf_0 0 rfl ?_
  refine x_get X wu_X0 0 rfl rfl 5 (by decide) wf_X0_21 rfl rfl dX0_lineOf_1 ?_
  refine x_iloadn X dX0_lineOf_4 1 rfl ?_
  refine x_iconst (v := nI 5) X dX0_lineOf_5 (by decide) ?_
  refine x_imul (v := nI (p * 5)) X dX0_lineOf_6 (pk_mul _ _) ?_
  refine x_iloadn X dX0_lineOf_7 2 rfl ?_
  refine x_iadd (v := nI (p * 5 + t)) X dX0_lineOf_8 (nI_add _ _) ?_
  refine x_callNrv (As := [.ref (a 4), .int (nI (p * 5 + t))]) (rest := []) X (c_X4_at l G (a 4) 25 li (p * 5 + t) (by omega) (by omega)) xE0_ok (fun _ _ _ => trivial) [4] rfl rfl rfl wco_X4_at wi_X4 xd_X4_at wn_X0_76 wst_X4_at (by decide) (Nat.le_of_ble_eq_true rfl) dX0_lineOf_9 ?_
  exact x_ret X dX0_lineOf_12 ⟨rfl, rfl, by decide, by decide⟩
set_option maxRecDepth 100000 in
set_option maxHeartbeats 4000000 in
/-- X0_putLine -/
theorem c_X0_putLine (l : Launch) (G : xG) (a : Nat → Nat) (np : Nat) (nq : Nat) (kd : Nat → Int32) (mi : Nat → Int32) (vi : Nat → Int32) (li : Nat → Int32) (p : Nat) (t : Nat) (v : Int32) (hp : p < 5) (ht : t < 5) : xM l G xE0 yX0_putLine cX0_putLine 4 none 1 22 0 0 [.ref (a 0), .int (nI p), .int (nI t), .int v] (wCh G a np nq kd mi vi li) none (fun w2 => w2 = wCh G a np nq kd mi vi (upd li (p * 5 + t) v)) := by
  refine x_entry (by decide +kernel) (Nat.le_of_ble_eq_true rfl) rfl rfl (fun K X => ?_)
  refine x_aloadn X dX0_putLine_0 0 rfl ?_
  refine x_get X wu_X0 0 rfl rfl 5 (by decide) wf_X0_21 rfl rfl dX0_putLine_1 ?_
  refine x_iloadn X dX0_putLine_4 1 rfl ?_
  refine x_iconst (v := nI 5) X dX0_putLine_5 (by decide) ?_
  refine x_imul (v := nI (p * 5)) X dX0_putLine_6 (pk_mul _ _) ?_
  refine x_iloadn X dX0_putLine_7 2 rfl ?_
  refine x_iadd (v := nI (p * 5 + t)) X dX0_putLine_8 (nI_add _ _) ?_
  refine x_iloadn X dX0_putLine_9 3 rfl ?_
  refine x_callNf0 (As := [.ref (a 4), .int (nI (p * 5 + t)), .int v]) (rest := []) (w1 := wIA G (a 4) 25 (upd li (p * 5 + t) v)) (ws' := wCh G a np nq kd mi vi (upd li (p * 5 + t) v)) X (c_X4_put l G (a 4) 25 li (p * 5 + t) v (by omega) (by omega)) xE0_ok (fun _ _ _ => trivial) [4] rfl rfl rfl wco_X4_put wi_X4 xd_X4_put wn_X0_57 wst_X4_put (by decide) (Nat.le_of_ble_eq_true rfl) dX0_putLine_10 rfl (Eq.trans (b := [a 4]) rfl rfl) rfl ?_
  exact x_retv X dX0_putLine_13 ⟨rfl, rfl, by decide, by decide⟩
set_option maxRecDepth 100000 in
set_option maxHeartbeats 4000000 in
/-- X0_writtenFor -/
theorem c_X0_writtenFor (l : Launch) (G : xG) (a : Nat → Nat) (np : Nat) (nq : Nat) (kd : Nat → Int32) (mi : Nat → Int32) (vi : Nat → Int32) (li : Nat → Int32) (p : Nat) (m : Nat) (t : Nat) (n : Int32) (hp : p < 6) (hm : m < 6) (ht : t < 5) : xM l G xE0 yX0_writtenFor cX0_writtenFor 5 (some .int) 2 45 0 0 [.ref (a 0), .int (nI p), .int (nI m), .int (nI t), .int n] (wCh G a np nq kd mi vi li) (some (.int (F_ink (kd p) (vi (m * 5 + t)) (vi (p * 5 + t)) n))) (fun w2 => w2 = wCh G a np nq kd mi vi li) := by
  refine x_entry (by decide +kernel) (Nat.le_of_ble_eq_true rfl) rfl ⟨_, rfl, rfl⟩ (fun K X => ?_)
  refine x_aloadn X dX0_writtenFor_0 0 rfl ?_
  refine x_iloadn X dX0_writtenFor_1 1 rfl ?_
  refine x_callVrv (As := [.int (nI p)]) (rest := []) X (c_X0_kindOf l G a np nq kd mi vi li p (by omega)) xE0_ok (fun _ _ _ => trivial) [0, 1, 2, 3, 4] rfl 0 rfl rfl rfl rfl wco_X0_kindOf wi_X0 xd_X0_kindOf wl_X0_84 win_X0_kindOf wse_X0_kindOf (by decide) (Nat.le_of_ble_eq_true rfl) dX0_writtenFor_2 ?_
  refine x_aloadn X dX0_writtenFor_5 0 rfl ?_
  refine x_iloadn X dX0_writtenFor_6 2 rfl ?_
  refine x_iloadn X dX0_writtenFor_7 3 rfl ?_
  refine x_callVrv (As := [.int (nI m), .int (nI t)]) (rest := [.int (kd p)]) X (c_X0_viewOf l G a np nq kd mi vi li m t (by omega) (by omega)) xE0_ok (fun _ _ _ => trivial) [0, 1, 2, 3, 4] rfl 0 rfl rfl rfl rfl wco_X0_viewOf wi_X0 xd_X0_viewOf wl_X0_87 win_X0_viewOf wse_X0_viewOf (by decide) (Nat.le_of_ble_eq_true rfl) dX0_writtenFor_8 ?_
  refine x_aloadn X dX0_writtenFor_11 0 rfl ?_
  refine x_iloadn X dX0_writtenFor_12 1 rfl ?_
  refine x_iloadn X dX0_writtenFor_13 3 rfl ?_
  refine x_callVrv (As := [.int (nI p), .int (nI t)]) (rest := [.int (vi (m * 5 + t)), .int (kd p)]) X (c_X0_viewOf l G a np nq kd mi vi li p t (by omega) (by omega)) xE0_ok (fun _ _ _ => trivial) [0, 1, 2, 3, 4] rfl 0 rfl rfl rfl rfl wco_X0_viewOf wi_X0 xd_X0_viewOf wl_X0_87 win_X0_viewOf wse_X0_viewOf (by decide) (Nat.le_of_ble_eq_true rfl) dX0_writtenFor_14 ?_
  refine x_iload X dX0_writtenFor_17 4 rfl ?_
  refine x_callNrv (As := [.int (kd p), .int (vi (m * 5 + t)), .int (vi (p * 5 + t)), .int n]) (rest := []) X (c_X4_inked l G (kd p) (vi (m * 5 + t)) (vi (p * 5 + t)) n) xE0_ok (fun _ _ _ => trivial) [] rfl rfl rfl wco_X4_inked wi_X4 xd_X4_inked wn_X0_90 wst_X4_inked (by decide) (Nat.le_of_ble_eq_true rfl) dX0_writtenFor_19 ?_
  exact x_ret X dX0_writtenFor_22 ⟨rfl, rfl, by decide, by decide⟩
end
section
/-! ===== the Chancery's loops ===== -/
abbrev tn (x : Int32) : Nat := x.toNatClampNeg
theorem inR_eq {x : Int32} {n : Nat} (h : inR x n = true) (hn : n < 2 ^ 31) : x = nI (tn x) ∧ tn x < n := by
  obtain ⟨j, hj, rfl⟩ := inR_nat h hn
  have e : tn (nI j) = j := nI_clamp (Nat.lt_trans hj hn)
  rw [e]
  exact ⟨rfl, hj⟩
def fillF (f : Nat → Int32) (v : Int32) (i : Nat) : Nat → Int32 := fun j => if j < i then v else f j
theorem fillF_0 (f : Nat → Int32) (v : Int32) : f = fillF f v 0 := by funext j; simp [fillF]
theorem fillF_s (f : Nat → Int32) (v : Int32) (i : Nat) : upd (fillF f v i) i v = fillF f v (i + 1) := by
  funext j
  simp only [upd, fillF]
  by_cases h : j = i
  · subst h; simp
  · simp only [h, if_false]
    by_cases h2 : j < i
    · rw [if_pos h2, if_pos (by omega)]
    · rw [if_neg h2, if_neg (by omega)]
section XR
variable {l : Launch} {G : xG} {E : xE} {own nm : String} {cc : ByteArray} {nL : Nat} {R : Room} {Z : Option Value → va_W → Nat → Nat → Prop} {K : xKt} {ws : va_W} {k z pc : Nat} {lv : xL} {st : List Value}
theorem x_rowc {a n : Nat} {cA : ClassId} {f : Nat → Int32} {ws' : va_W} (g : Nat → Int32) (X : xR l G E own nm cc nL R Z K) (q0 : Nat) (h0 : ws[q0]? = some (a, .inl (cA, n, .inl f))) (hfg : ∀ j, j < n → f j = g j) (hws : ws.set q0 (a, .inl (cA, n, .inl g)) = ws') (kk : K ws' k z pc lv st) : K ws k z pc lv st :=
  x_row X h0 hfg (by rw [hws]; exact kk)
end XR
/-- what PERSON p copies onto PAPER b from PAPER a, behind t THEMES -/
def cpP (kd mi vi li : Nat → Int32) (p a b t : Nat) : Nat → Int32 := fun j => if b * 5 ≤ j ∧ j < b * 5 + t then F_cop (kd p) (vi (tn (mi p) * 5 + (j - b * 5))) (li (a * 5 + (j - b * 5))) else li j
theorem cpP_0 (kd mi vi li : Nat → Int32) (p a b : Nat) : li = cpP kd mi vi li p a b 0 := by
  funext j
  simp only [cpP]
  rw [if_neg (by omega)]
theorem cpP_at (kd mi vi li : Nat → Int32) (p a b t : Nat) (ht : t < 5) : cpP kd mi vi li p a b t (a * 5 + t) = li (a * 5 + t) := by
  simp only [cpP]
  rw [if_neg (by omega)]
theorem cpP_s (kd mi vi li : Nat → Int32) (p a b t : Nat) : upd (cpP kd mi vi li p a b t) (b * 5 + t) (F_cop (kd p) (vi (tn (mi p) * 5 + t)) (li (a * 5 + t))) = cpP kd mi vi li p a b (t + 1) := by
  funext j
  simp only [upd, cpP]
  by_cases h : j = b * 5 + t
  · subst h
    rw [if_pos rfl, if_pos (by omega), show b * 5 + t - b * 5 = t by omega]
  · rw [if_neg h]
    by_cases h2 : b * 5 ≤ j ∧ j < b * 5 + t
    · rw [if_pos h2, if_pos (by omega)]
    · rw [if_neg h2, if_neg (by omega)]
def goR (kd mi vi li : Nat → Int32) (a : Nat) : Nat → Nat → Int32
  | 0 => li
  | p + 1 => cpP kd mi vi (goR kd mi vi li a p) p a a 5
def F_code (li : Nat → Int32) (a : Nat) : Nat → Int32
  | 0 => nI 0
  | t + 1 => F_code li a t * nI 20 + (if li (a * 5 + t) = nI 100 then nI 19 else li (a * 5 + t) + nI 9)
def F_fil (li : Nat → Int32) (a : Nat) : Nat → Nat
  | 0 => 0
  | t + 1 => F_fil li a t + (if li (a * 5 + t) = nI 100 then 0 else 1)
theorem F_fil_le (li : Nat → Int32) (a : Nat) : ∀ t, F_fil li a t ≤ t
  | 0 => Nat.le_refl 0
  | t + 1 => by
    have := F_fil_le li a t
    simp only [F_fil]
    split <;> omega
def F_fils (li : Nat → Int32) : Nat → Nat
  | 0 => 0
  | a + 1 => F_fils li a + F_fil li a 5
def F_sum (li : Nat → Int32) (s0 : Int32) (a : Nat) : Nat → Int32
  | 0 => s0
  | t + 1 => F_sum li s0 a t + (if li (a * 5 + t) = nI 100 then nI 0 else li (a * 5 + t))
def F_sums (li : Nat → Int32) : Nat → Int32
  | 0 => nI 0
  | a + 1 => F_sum li (F_sums li a) a 5

set_option maxRecDepth 100000 in
set_option maxHeartbeats 4000000 in
/-- J7_fill_53178 -/
theorem c_J7_fill_53178 (l : Launch) (G : xG) (a : Nat) (n : Nat) (f : Nat → Int32) (v : Int32) (hn : n < 2 ^ 31) : xM l G xE0 yJ7_fill_53178 cJ7_fill_53178 4 none 0 0 0 0 [.ref a, .int v] (wIA G a n f) none (fun w2 => w2 = wIA G a n (fun _ => v)) := by
  refine x_entry (by decide +kernel) (Nat.le_of_ble_eq_true rfl) rfl rfl (fun K X => ?_)
  refine x_iconst (v := nI 0) X dJ7_fill_53178_0 (by decide) ?_
  refine x_istoren (lv' := [(2, .int (nI 0)), (0, .ref a), (1, .int v)]) X dJ7_fill_53178_1 (by decide) rfl ?_
  refine x_aloadn X dJ7_fill_53178_2 1 rfl ?_
  refine x_alen X 0 rfl dJ7_fill_53178_3 ?_
  refine x_istoren (lv' := [(3, .int (nI n)), (2, .int (nI 0)), (0, .ref a), (1, .int v)]) X dJ7_fill_53178_4 (by decide) rfl ?_
  have L5 : ∀ (fu : Nat) (i : Nat) (g : Nat → Int32), n - i < fu → (i ≤ n) → (g = fillF f v i) → K (wIA G a n g) 0 0 5 [(0, .ref a), (1, .int v), (2, .int (nI i)), (3, .int (nI n))] [] := by
    intro fu
    induction fu with
    | zero => intro i g hfu; exact absurd hfu (Nat.not_lt_zero _)
    | succ fu ih_L5 =>
      intro i g hfu_L5 hi hg
      refine x_iloadn X dJ7_fill_53178_5 2 rfl ?_
      refine x_iloadn X dJ7_fill_53178_6 3 rfl ?_
      refine x_icmp_ge_n 20 X dJ7_fill_53178_7 (by decide) (by omega) (by omega) (fun c_1 => ?_) (fun c_1 => ?_)
      · -- 7 t
        have n_1 := Nat.not_lt.mpr c_1
        refine x_rowc (ws' := wIA G a n (fun _ => v)) (fun _ => v) X 0 rfl (fun j hj => by rw [hg]; simp [fillF]; omega) rfl ?_
        exact x_retv X dJ7_fill_53178_20 ⟨rfl, rfl, by decide, by decide⟩
      · -- 7 f
        refine x_aloadn X dJ7_fill_53178_10 0 rfl ?_
        refine x_iloadn X dJ7_fill_53178_11 2 rfl ?_
        refine x_iloadn X dJ7_fill_53178_12 1 rfl ?_
        refine x_iast_n (g := upd g i v) (ws' := wIA G a n (upd g i v)) X 0 rfl (by omega) (by omega) rfl rfl dJ7_fill_53178_13 ?_
        refine x_iinc (v := nI (i + 1)) (lv' := [(2, .int (nI (i + 1))), (0, .ref a), (1, .int v), (3, .int (nI n))]) X dJ7_fill_53178_14 2 rfl (nI_1 _) (by decide) rfl ?_
        refine x_goto 5 X dJ7_fill_53178_17 (by decide) ?_
        refine x_lv (lv' := [(0, .ref a), (1, .int v), (2, .int (nI (i + 1))), (3, .int (nI n))]) X [1, 2, 0, 3] rfl ?_
        exact ih_L5 (i + 1) (upd g i v) (by omega) ((by omega)) (by rw [hg]; exact fillF_s _ _ _)
  refine x_lv (lv' := [(0, .ref a), (1, .int v), (2, .int (nI 0)), (3, .int (nI n))]) X [2, 3, 1, 0] rfl ?_
  exact L5 _ 0 f (Nat.lt_succ_self _) ((by omega)) (fillF_0 _ _)
set_option maxRecDepth 100000 in
set_option maxHeartbeats 4000000 in
/-- X0_takeRow -/
theorem c_X0_takeRow (l : Launch) (G : xG) (a : Nat) (n : Nat) (f : Nat → Int32) (b : Nat) (g : Nat → Int32) (hn : n < 2 ^ 31) : xM l G xE0 yX0_takeRow cX0_takeRow 2 none 1 30 0 0 [.ref a, .ref b] (xJ [wIA G a n f, wIA G b n g]) none (fun w2 => w2 = xJ [wIA G a n f, wIA G b n f]) := by
  refine x_entry (by decide +kernel) (Nat.le_of_ble_eq_true rfl) rfl rfl (fun K X => ?_)
  refine x_aloadn X dX0_takeRow_0 0 rfl ?_
  refine x_iconst (v := nI 0) X dX0_takeRow_1 (by decide) ?_
  refine x_aloadn X dX0_takeRow_2 1 rfl ?_
  refine x_iconst (v := nI 0) X dX0_takeRow_3 (by decide) ?_
  refine x_aloadn X dX0_takeRow_4 0 rfl ?_
  refine x_alen X 0 rfl dX0_takeRow_5 ?_
  refine x_aloadn X dX0_takeRow_6 1 rfl ?_
  refine x_alen X 1 rfl dX0_takeRow_7 ?_
  refine x_min (v := nI n) X wl_X0_41 (by decide) (Nat.le_of_ble_eq_true rfl) (by decide) (by simp) dX0_takeRow_8 ?_
  refine x_copy_n (ws' := xJ [wIA G a n f, wIA G b n (va_cpy f g 0 0 n)]) X wl_X0_47 0 1 rfl rfl (by omega) (by omega) (by omega) (by omega) (by omega) (by decide) (Nat.le_of_ble_eq_true rfl) rfl dX0_takeRow_11 ?_
  refine x_rowc (ws' := xJ [wIA G a n f, wIA G b n f]) f X 1 rfl (fun j hj => by simp [va_cpy, hj]) rfl ?_
  exact x_retv X dX0_takeRow_14 ⟨rfl, rfl, by decide, by decide⟩
set_option maxRecDepth 100000 in
set_option maxHeartbeats 4000000 in
/-- X0_becomeLike -/
theorem c_X0_becomeLike (l : Launch) (G : xG) (a : Nat → Nat) (np : Nat) (nq : Nat) (kd : Nat → Int32) (mi : Nat → Int32) (vi : Nat → Int32) (li : Nat → Int32) (b : Nat → Nat) (np2 : Nat) (nq2 : Nat) (kd2 : Nat → Int32) (mi2 : Nat → Int32) (vi2 : Nat → Int32) (li2 : Nat → Int32)  : xM l G xE0 yX0_becomeLike cX0_becomeLike 2 none 2 51 0 0 [.ref (a 0), .ref (b 0)] (xJ [wCh G a np nq kd mi vi li, wCh G b np2 nq2 kd2 mi2 vi2 li2]) none (fun w2 => w2 = xJ [wCh G a np2 nq2 kd2 mi2 vi2 li2, wCh G b np2 nq2 kd2 mi2 vi2 li2]) := by
  refine x_entry (by decide +kernel) (Nat.le_of_ble_eq_true rfl) rfl rfl (fun K X => ?_)
  refine x_aloadn X dX0_becomeLike_0 0 rfl ?_
  refine x_aloadn X dX0_becomeLike_1 1 rfl ?_
  refine x_get X wu_X0 5 rfl rfl 0 (by decide) wf_X0_24 rfl rfl dX0_becomeLike_2 ?_
  refine x_put (ws' := xJ [wCh G a np2 nq kd mi vi li, wCh G b np2 nq2 kd2 mi2 vi2 li2]) (ty := tyX0 0) X wu_X0 tyX0_ok nmX0 0 rfl rfl 0 (by decide) wf_X0_24 rfl rfl (by decide +kernel) rfl rfl (Nat.le_of_ble_eq_true rfl) rfl dX0_becomeLike_5 ?_
  refine x_aloadn X dX0_becomeLike_8 0 rfl ?_
  refine x_aloadn X dX0_becomeLike_9 1 rfl ?_
  refine x_get X wu_X0 5 rfl rfl 1 (by decide) wf_X0_28 rfl rfl dX0_becomeLike_10 ?_
  refine x_put (ws' := xJ [wCh G a np2 nq2 kd mi vi li, wCh G b np2 nq2 kd2 mi2 vi2 li2]) (ty := tyX0 1) X wu_X0 tyX0_ok nmX0 0 rfl rfl 1 (by decide) wf_X0_28 rfl rfl (by decide +kernel) rfl rfl (Nat.le_of_ble_eq_true rfl) rfl dX0_becomeLike_13 ?_
  refine x_aloadn X dX0_becomeLike_16 1 rfl ?_
  refine x_get X wu_X0 5 rfl rfl 2 (by decide) wf_X0_9 rfl rfl dX0_becomeLike_17 ?_
  refine x_aloadn X dX0_becomeLike_20 0 rfl ?_
  refine x_get X wu_X0 0 rfl rfl 2 (by decide) wf_X0_9 rfl rfl dX0_becomeLike_21 ?_
  refine x_callSf0 (As := [.ref (b 1), .ref (a 1)]) (rest := []) (w1 := xJ [wIA G (b 1) 6 kd2, wIA G (a 1) 6 kd2]) (ws' := xJ [wCh G a np2 nq2 kd2 mi vi li, wCh G b np2 nq2 kd2 mi2 vi2 li2]) X (c_X0_takeRow l G (b 1) 6 kd2 (a 1) kd (by omega)) xE0_ok (fun _ _ _ => trivial) [6, 1] rfl rfl rfl wco_X0_takeRow wi_X0 xd_X0_takeRow wl_X0_37 wst_X0_takeRow (by decide) (Nat.le_of_ble_eq_true rfl) dX0_becomeLike_24 rfl (Eq.trans (b := [b 1, a 1]) rfl rfl) rfl ?_
  refine x_aloadn X dX0_becomeLike_27 1 rfl ?_
  refine x_get X wu_X0 5 rfl rfl 3 (by decide) wf_X0_15 rfl rfl dX0_becomeLike_28 ?_
  refine x_aloadn X dX0_becomeLike_31 0 rfl ?_
  refine x_get X wu_X0 0 rfl rfl 3 (by decide) wf_X0_15 rfl rfl dX0_becomeLike_32 ?_
  refine x_callSf0 (As := [.ref (b 2), .ref (a 2)]) (rest := []) (w1 := xJ [wIA G (b 2) 6 mi2, wIA G (a 2) 6 mi2]) (ws' := xJ [wCh G a np2 nq2 kd2 mi2 vi li, wCh G b np2 nq2 kd2 mi2 vi2 li2]) X (c_X0_takeRow l G (b 2) 6 mi2 (a 2) mi (by omega)) xE0_ok (fun _ _ _ => trivial) [7, 2] rfl rfl rfl wco_X0_takeRow wi_X0 xd_X0_takeRow wl_X0_37 wst_X0_takeRow (by decide) (Nat.le_of_ble_eq_true rfl) dX0_becomeLike_35 rfl (Eq.trans (b := [b 2, a 2]) rfl rfl) rfl ?_
  refine x_aloadn X dX0_becomeLike_38 1 rfl ?_
  refine x_get X wu_X0 5 rfl rfl 4 (by decide) wf_X0_18 rfl rfl dX0_becomeLike_39 ?_
  refine x_aloadn X dX0_becomeLike_42 0 rfl ?_
  refine x_get X wu_X0 0 rfl rfl 4 (by decide) wf_X0_18 rfl rfl dX0_becomeLike_43 ?_
  refine x_callSf0 (As := [.ref (b 3), .ref (a 3)]) (rest := []) (w1 := xJ [wIA G (b 3) 30 vi2, wIA G (a 3) 30 vi2]) (ws' := xJ [wCh G a np2 nq2 kd2 mi2 vi2 li, wCh G b np2 nq2 kd2 mi2 vi2 li2]) X (c_X0_takeRow l G (b 3) 30 vi2 (a 3) vi (by omega)) xE0_ok (fun _ _ _ => trivial) [8, 3] rfl rfl rfl wco_X0_takeRow wi_X0 xd_X0_takeRow wl_X0_37 wst_X0_takeRow (by decide) (Nat.le_of_ble_eq_true rfl) dX0_becomeLike_46 rfl (Eq.trans (b := [b 3, a 3]) rfl rfl) rfl ?_
  refine x_aloadn X dX0_becomeLike_49 1 rfl ?_
  refine x_get X wu_X0 5 rfl rfl 5 (by decide) wf_X0_21 rfl rfl dX0_becomeLike_50 ?_
  refine x_aloadn X dX0_becomeLike_53 0 rfl ?_
  refine x_get X wu_X0 0 rfl rfl 5 (by decide) wf_X0_21 rfl rfl dX0_becomeLike_54 ?_
  refine x_callSf0 (As := [.ref (b 4), .ref (a 4)]) (rest := []) (w1 := xJ [wIA G (b 4) 25 li2, wIA G (a 4) 25 li2]) (ws' := xJ [wCh G a np2 nq2 kd2 mi2 vi2 li2, wCh G b np2 nq2 kd2 mi2 vi2 li2]) X (c_X0_takeRow l G (b 4) 25 li2 (a 4) li (by omega)) xE0_ok (fun _ _ _ => trivial) [9, 4] rfl rfl rfl wco_X0_takeRow wi_X0 xd_X0_takeRow wl_X0_37 wst_X0_takeRow (by decide) (Nat.le_of_ble_eq_true rfl) dX0_becomeLike_57 rfl (Eq.trans (b := [b 4, a 4]) rfl rfl) rfl ?_
  exact x_retv X dX0_becomeLike_60 ⟨rfl, rfl, by decide, by decide⟩
set_option maxRecDepth 100000 in
set_option maxHeartbeats 4000000 in
/-- X0_becomeBlank -/
theorem c_X0_becomeBlank (l : Launch) (G : xG) (a : Nat → Nat) (np : Nat) (nq : Nat) (kd : Nat → Int32) (mi : Nat → Int32) (vi : Nat → Int32) (li : Nat → Int32)  : xM l G xE0 yX0_becomeBlank cX0_becomeBlank 1 none 1 23 0 0 [.ref (a 0)] (wCh G a np nq kd mi vi li) none (fun w2 => w2 = wCh G a 0 3 (fun _ => nI 0) (fun _ => nI 0) (fun _ => nI 0) (fun _ => nI 100)) := by
  refine x_entry (by decide +kernel) (Nat.le_of_ble_eq_true rfl) rfl rfl (fun K X => ?_)
  refine x_aloadn X dX0_becomeBlank_0 0 rfl ?_
  refine x_iconst (v := nI 0) X dX0_becomeBlank_1 (by decide) ?_
  refine x_put (ws' := wCh G a 0 nq kd mi vi li) (ty := tyX0 0) X wu_X0 tyX0_ok nmX0 0 rfl rfl 0 (by decide) wf_X0_24 rfl rfl (by decide +kernel) rfl rfl (Nat.le_of_ble_eq_true rfl) rfl dX0_becomeBlank_2 ?_
  refine x_aloadn X dX0_becomeBlank_5 0 rfl ?_
  refine x_iconst (v := nI 3) X dX0_becomeBlank_6 (by decide) ?_
  refine x_put (ws' := wCh G a 0 3 kd mi vi li) (ty := tyX0 1) X wu_X0 tyX0_ok nmX0 0 rfl rfl 1 (by decide) wf_X0_28 rfl rfl (by decide +kernel) rfl rfl (Nat.le_of_ble_eq_true rfl) rfl dX0_becomeBlank_7 ?_
  refine x_aloadn X dX0_becomeBlank_10 0 rfl ?_
  refine x_get X wu_X0 0 rfl rfl 2 (by decide) wf_X0_9 rfl rfl dX0_becomeBlank_11 ?_
  refine x_iconst (v := nI 0) X dX0_becomeBlank_14 (by decide) ?_
  refine x_callSf0 (As := [.ref (a 1), .int (nI 0)]) (rest := []) (w1 := wIA G (a 1) 6 (fun _ => (nI 0))) (ws' := wCh G a 0 3 (fun _ => (nI 0)) mi vi li) X (c_J7_fill_53178 l G (a 1) 6 kd (nI 0) (by omega)) xE0_ok (fun _ _ _ => trivial) [1] rfl rfl rfl wco_J7_fill_53178 wi_J7 xd_J7_fill_53178 wl_X0_31 wst_J7_fill_53178 (by decide) (Nat.le_of_ble_eq_true rfl) dX0_becomeBlank_15 rfl (Eq.trans (b := [a 1]) rfl rfl) rfl ?_
  refine x_aloadn X dX0_becomeBlank_18 0 rfl ?_
  refine x_get X wu_X0 0 rfl rfl 3 (by decide) wf_X0_15 rfl rfl dX0_becomeBlank_19 ?_
  refine x_iconst (v := nI 0) X dX0_becomeBlank_22 (by decide) ?_
  refine x_callSf0 (As := [.ref (a 2), .int (nI 0)]) (rest := []) (w1 := wIA G (a 2) 6 (fun _ => (nI 0))) (ws' := wCh G a 0 3 (fun _ => (nI 0)) (fun _ => (nI 0)) vi li) X (c_J7_fill_53178 l G (a 2) 6 mi (nI 0) (by omega)) xE0_ok (fun _ _ _ => trivial) [2] rfl rfl rfl wco_J7_fill_53178 wi_J7 xd_J7_fill_53178 wl_X0_31 wst_J7_fill_53178 (by decide) (Nat.le_of_ble_eq_true rfl) dX0_becomeBlank_23 rfl (Eq.trans (b := [a 2]) rfl rfl) rfl ?_
  refine x_aloadn X dX0_becomeBlank_26 0 rfl ?_
  refine x_get X wu_X0 0 rfl rfl 4 (by decide) wf_X0_18 rfl rfl dX0_becomeBlank_27 ?_
  refine x_iconst (v := nI 0) X dX0_becomeBlank_30 (by decide) ?_
  refine x_callSf0 (As := [.ref (a 3), .int (nI 0)]) (rest := []) (w1 := wIA G (a 3) 30 (fun _ => (nI 0))) (ws' := wCh G a 0 3 (fun _ => (nI 0)) (fun _ => (nI 0)) (fun _ => (nI 0)) li) X (c_J7_fill_53178 l G (a 3) 30 vi (nI 0) (by omega)) xE0_ok (fun _ _ _ => trivial) [3] rfl rfl rfl wco_J7_fill_53178 wi_J7 xd_J7_fill_53178 wl_X0_31 wst_J7_fill_53178 (by decide) (Nat.le_of_ble_eq_true rfl) dX0_becomeBlank_31 rfl (Eq.trans (b := [a 3]) rfl rfl) rfl ?_
  refine x_aloadn X dX0_becomeBlank_34 0 rfl ?_
  refine x_get X wu_X0 0 rfl rfl 5 (by decide) wf_X0_21 rfl rfl dX0_becomeBlank_35 ?_
  refine x_bipush (v := nI 100) X dX0_becomeBlank_38 (by decide) ?_
  refine x_callSf0 (As := [.ref (a 4), .int (nI 100)]) (rest := []) (w1 := wIA G (a 4) 25 (fun _ => (nI 100))) (ws' := wCh G a 0 3 (fun _ => (nI 0)) (fun _ => (nI 0)) (fun _ => (nI 0)) (fun _ => (nI 100))) X (c_J7_fill_53178 l G (a 4) 25 li (nI 100) (by omega)) xE0_ok (fun _ _ _ => trivial) [4] rfl rfl rfl wco_J7_fill_53178 wi_J7 xd_J7_fill_53178 wl_X0_31 wst_J7_fill_53178 (by decide) (Nat.le_of_ble_eq_true rfl) dX0_becomeBlank_40 rfl (Eq.trans (b := [a 4]) rfl rfl) rfl ?_
  exact x_retv X dX0_becomeBlank_43 ⟨rfl, rfl, by decide, by decide⟩
set_option maxRecDepth 100000 in
set_option maxHeartbeats 4000000 in
/-- X0_canBeLaid -/
theorem c_X0_canBeLaid (l : Launch) (G : xG) (a : Nat → Nat) (np : Nat) (nq : Nat) (kd : Nat → Int32) (mi : Nat → Int32) (vi : Nat → Int32) (li : Nat → Int32) (hnp : np ≤ 6) : xM l G xE0 yX0_canBeLaid cX0_canBeLaid 2 (some .boolean) 2 42 0 0 [.ref (a 0)] (wCh G a np nq kd mi vi li) (some (.int (bI (decide (∀ j, j < np → inR (mi j) np = true) && decide (0 < np))))) (fun w2 => w2 = wCh G a np nq kd mi vi li) := by
  refine x_entry (by decide +kernel) (Nat.le_of_ble_eq_true rfl) rfl ⟨_, rfl, bI_narrow _⟩ (fun K X => ?_)
  refine x_iconst (v := nI 0) X dX0_canBeLaid_0 (by decide) ?_
  refine x_istoren (lv' := [(1, .int (nI 0)), (0, .ref (a 0))]) X dX0_canBeLaid_1 (by decide) rfl ?_
  have L2 : ∀ (fu : Nat) (i : Nat), np - i < fu → (i ≤ np) → (∀ j, j < i → inR (mi j) np = true) → K (wCh G a np nq kd mi vi li) 0 0 2 [(0, .ref (a 0)), (1, .int (nI i))] [] := by
    intro fu
    induction fu with
    | zero => intro i hfu; exact absurd hfu (Nat.not_lt_zero _)
    | succ fu ih_L2 =>
      intro i hfu_L2 hi hm
      refine x_iloadn X dX0_canBeLaid_2 1 rfl ?_
      refine x_aloadn X dX0_canBeLaid_3 0 rfl ?_
      refine x_get X wu_X0 0 rfl rfl 0 (by decide) wf_X0_24 rfl rfl dX0_canBeLaid_4 ?_
      refine x_icmp_ge_n 30 X dX0_canBeLaid_7 (by decide) (by omega) (by omega) (fun c_1 => ?_) (fun c_1 => ?_)
      · -- 7 t
        have n_1 := Nat.not_lt.mpr c_1
        refine x_aloadn X dX0_canBeLaid_30 0 rfl ?_
        refine x_get X wu_X0 0 rfl rfl 0 (by decide) wf_X0_24 rfl rfl dX0_canBeLaid_31 ?_
        refine x_if_le_n 41 X dX0_canBeLaid_34 (by decide) (by omega) (fun c_2 => ?_) (fun c_2 => ?_)
        · -- 34 t
          have n_2 := Nat.not_lt.mpr c_2
          refine x_iconst (v := nI 0) X dX0_canBeLaid_41 (by decide) ?_
          exact x_ret X dX0_canBeLaid_42 ⟨ret_i (by rw [show (decide (∀ j, j < np → inR (mi j) np = true)) = true from decide_eq_true (fun j h => hm j (by omega)), show decide (0 < np) = false from decide_eq_false (by omega)]; rfl), rfl, by decide, by decide⟩
        · -- 34 f
          refine x_iconst (v := nI 1) X dX0_canBeLaid_37 (by decide) ?_
          refine x_goto 42 X dX0_canBeLaid_38 (by decide) ?_
          exact x_ret X dX0_canBeLaid_42 ⟨ret_i (by rw [show (decide (∀ j, j < np → inR (mi j) np = true)) = true from decide_eq_true (fun j h => hm j (by omega)), show decide (0 < np) = true from decide_eq_true (by omega)]; rfl), rfl, by decide, by decide⟩
      · -- 7 f
        refine x_aloadn X dX0_canBeLaid_10 0 rfl ?_
        refine x_aloadn X dX0_canBeLaid_11 0 rfl ?_
        refine x_iloadn X dX0_canBeLaid_12 1 rfl ?_
        refine x_callVrv (As := [.int (nI i)]) (rest := [.ref (a 0)]) X (c_X0_mindOf l G a np nq kd mi vi li i (by omega)) xE0_ok (fun _ _ _ => trivial) [0, 1, 2, 3, 4] rfl 0 rfl rfl rfl rfl wco_X0_mindOf wi_X0 xd_X0_mindOf wl_X0_72 win_X0_mindOf wse_X0_mindOf (by decide) (Nat.le_of_ble_eq_true rfl) dX0_canBeLaid_13 ?_
        refine x_callVrv (As := [.int (mi i)]) (rest := []) X (c_X0_hasPerson l G a np nq kd mi vi li (mi i) (by omega)) xE0_ok (fun _ _ _ => trivial) [0, 1, 2, 3, 4] rfl 0 rfl rfl rfl rfl wco_X0_hasPerson wi_X0 xd_X0_hasPerson wl_X0_61 win_X0_hasPerson wse_X0_hasPerson (by decide) (Nat.le_of_ble_eq_true rfl) dX0_canBeLaid_16 ?_
        refine x_ifne_b 24 X dX0_canBeLaid_19 (by decide) (fun c_3 => ?_) (fun c_3 => ?_)
        · -- 19 t
          refine x_iinc (v := nI (i + 1)) (lv' := [(1, .int (nI (i + 1))), (0, .ref (a 0))]) X dX0_canBeLaid_24 1 rfl (nI_1 _) (by decide) rfl ?_
          refine x_goto 2 X dX0_canBeLaid_27 (by decide) ?_
          refine x_lv (lv' := [(0, .ref (a 0)), (1, .int (nI (i + 1)))]) X [1, 0] rfl ?_
          exact ih_L2 (i + 1) (by omega) ((by omega)) (fun j h => by rcases Nat.lt_succ_iff_lt_or_eq.mp h with h | h; exact hm j h; rw [h]; assumption)
        · -- 19 f
          refine x_iconst (v := nI 0) X dX0_canBeLaid_22 (by decide) ?_
          exact x_ret X dX0_canBeLaid_23 ⟨ret_i (by rw [show (decide (∀ j, j < np → inR (mi j) np = true)) = false from decide_eq_false (fun h => by have := h i (by assumption); simp_all)]; rfl), rfl, by decide, by decide⟩
  refine x_lv (lv' := [(0, .ref (a 0)), (1, .int (nI 0))]) X [1, 0] rfl ?_
  exact L2 _ 0 (Nat.lt_succ_self _) ((by omega)) (fun j h => absurd h (Nat.not_lt_zero j))
set_option maxRecDepth 100000 in
set_option maxHeartbeats 4000000 in
/-- X0_written -/
theorem c_X0_written (l : Launch) (G : xG) (a : Nat → Nat) (np : Nat) (nq : Nat) (kd : Nat → Int32) (mi : Nat → Int32) (vi : Nat → Int32) (li : Nat → Int32) (p : Nat) (t : Nat) (n : Int32) (hp : p < 6) (ht : t < 5) (hmi : ∀ j, j < 6 → inR (mi j) 6 = true) : xM l G xE0 yX0_written cX0_written 4 (some .int) 3 69 0 0 [.ref (a 0), .int (nI p), .int (nI t), .int n] (wCh G a np nq kd mi vi li) (some (.int (F_ink (kd p) (vi (tn (mi p) * 5 + t)) (vi (p * 5 + t)) n))) (fun w2 => w2 = wCh G a np nq kd mi vi li) := by
  refine x_entry (by decide +kernel) (Nat.le_of_ble_eq_true rfl) rfl ⟨_, rfl, rfl⟩ (fun K X => ?_)
  refine x_aloadn X dX0_written_0 0 rfl ?_
  refine x_iloadn X dX0_written_1 1 rfl ?_
  refine x_aloadn X dX0_written_2 0 rfl ?_
  refine x_iloadn X dX0_written_3 1 rfl ?_
  refine x_callVrv (As := [.int (nI p)]) (rest := [.int (nI p), .ref (a 0)]) X (c_X0_mindOf l G a np nq kd mi vi li p (by omega)) xE0_ok (fun _ _ _ => trivial) [0, 1, 2, 3, 4] rfl 0 rfl rfl rfl rfl wco_X0_mindOf wi_X0 xd_X0_mindOf wl_X0_72 win_X0_mindOf wse_X0_mindOf (by decide) (Nat.le_of_ble_eq_true rfl) dX0_written_4 ?_
  obtain ⟨em, hm6⟩ := inR_eq (hmi p hp) (by decide)
  refine x_int em ?_
  refine x_iloadn X dX0_written_7 2 rfl ?_
  refine x_iloadn X dX0_written_8 3 rfl ?_
  refine x_callVrv (As := [.int (nI p), .int (nI (tn (mi p))), .int (nI t), .int n]) (rest := []) X (c_X0_writtenFor l G a np nq kd mi vi li p (tn (mi p)) t n (by omega) (by omega) (by omega)) xE0_ok (fun _ _ _ => trivial) [0, 1, 2, 3, 4] rfl 0 rfl rfl rfl rfl wco_X0_writtenFor wi_X0 xd_X0_writtenFor wl_X0_80 win_X0_writtenFor wse_X0_writtenFor (by decide) (Nat.le_of_ble_eq_true rfl) dX0_written_9 ?_
  exact x_ret X dX0_written_12 ⟨ret_i (by simp []), rfl, by decide, by decide⟩
set_option maxRecDepth 100000 in
set_option maxHeartbeats 4000000 in
/-- X0_copied -/
theorem c_X0_copied (l : Launch) (G : xG) (a : Nat → Nat) (np : Nat) (nq : Nat) (kd : Nat → Int32) (mi : Nat → Int32) (vi : Nat → Int32) (li : Nat → Int32) (p : Nat) (t : Nat) (x : Int32) (hp : p < 6) (ht : t < 5) (hmi : ∀ j, j < 6 → inR (mi j) 6 = true) : xM l G xE0 yX0_copied cX0_copied 4 (some .int) 3 57 0 0 [.ref (a 0), .int (nI p), .int (nI t), .int x] (wCh G a np nq kd mi vi li) (some (.int (F_cop (kd p) (vi (tn (mi p) * 5 + t)) x))) (fun w2 => w2 = wCh G a np nq kd mi vi li) := by
  refine x_entry (by decide +kernel) (Nat.le_of_ble_eq_true rfl) rfl ⟨_, rfl, rfl⟩ (fun K X => ?_)
  refine x_iloadn X dX0_copied_0 3 rfl ?_
  refine x_bipush (v := nI 100) X dX0_copied_1 (by decide) ?_
  refine x_icmp_ne 11 X dX0_copied_3 (by decide) (fun c_1 => ?_) (fun c_1 => ?_)
  · -- 3 t
    refine x_aloadn X dX0_copied_11 0 rfl ?_
    refine x_iloadn X dX0_copied_12 1 rfl ?_
    refine x_callVrv (As := [.int (nI p)]) (rest := []) X (c_X0_kindOf l G a np nq kd mi vi li p (by omega)) xE0_ok (fun _ _ _ => trivial) [0, 1, 2, 3, 4] rfl 0 rfl rfl rfl rfl wco_X0_kindOf wi_X0 xd_X0_kindOf wl_X0_84 win_X0_kindOf wse_X0_kindOf (by decide) (Nat.le_of_ble_eq_true rfl) dX0_copied_13 ?_
    refine x_iloadn X dX0_copied_16 3 rfl ?_
    refine x_aloadn X dX0_copied_17 0 rfl ?_
    refine x_aloadn X dX0_copied_18 0 rfl ?_
    refine x_iloadn X dX0_copied_19 1 rfl ?_
    refine x_callVrv (As := [.int (nI p)]) (rest := [.ref (a 0), .int x, .int (kd p)]) X (c_X0_mindOf l G a np nq kd mi vi li p (by omega)) xE0_ok (fun _ _ _ => trivial) [0, 1, 2, 3, 4] rfl 0 rfl rfl rfl rfl wco_X0_mindOf wi_X0 xd_X0_mindOf wl_X0_72 win_X0_mindOf wse_X0_mindOf (by decide) (Nat.le_of_ble_eq_true rfl) dX0_copied_20 ?_
    obtain ⟨em, hm6⟩ := inR_eq (hmi p hp) (by decide)
    refine x_int em ?_
    refine x_iloadn X dX0_copied_23 2 rfl ?_
    refine x_callVrv (As := [.int (nI (tn (mi p))), .int (nI t)]) (rest := [.int x, .int (kd p)]) X (c_X0_viewOf l G a np nq kd mi vi li (tn (mi p)) t (by omega) (by omega)) xE0_ok (fun _ _ _ => trivial) [0, 1, 2, 3, 4] rfl 0 rfl rfl rfl rfl wco_X0_viewOf wi_X0 xd_X0_viewOf wl_X0_87 win_X0_viewOf wse_X0_viewOf (by decide) (Nat.le_of_ble_eq_true rfl) dX0_copied_24 ?_
    refine x_callNrv (As := [.int (kd p), .int x, .int (vi ((tn (mi p)) * 5 + t))]) (rest := []) X (c_X4_carried l G (kd p) x (vi ((tn (mi p)) * 5 + t))) xE0_ok (fun _ _ _ => trivial) [] rfl rfl rfl wco_X4_carried wi_X4 xd_X4_carried wn_X0_93 wst_X4_carried (by decide) (Nat.le_of_ble_eq_true rfl) dX0_copied_27 ?_
    exact x_ret X dX0_copied_30 ⟨ret_i (by simp [F_cop, c_1]), rfl, by decide, by decide⟩
  · -- 3 f
    refine x_bipush (v := nI 100) X dX0_copied_6 (by decide) ?_
    refine x_goto 30 X dX0_copied_8 (by decide) ?_
    exact x_ret X dX0_copied_30 ⟨ret_i (by simp [F_cop, c_1]), rfl, by decide, by decide⟩
set_option maxRecDepth 100000 in
set_option maxHeartbeats 4000000 in
/-- X0_copyPaper -/
theorem c_X0_copyPaper (l : Launch) (G : xG) (a : Nat → Nat) (np : Nat) (nq : Nat) (kd : Nat → Int32) (mi : Nat → Int32) (vi : Nat → Int32) (li : Nat → Int32) (x : Nat) (y : Nat) (p : Nat) (hx : x < 5) (hy : y < 5) (hp : p < 6) (hmi : ∀ j, j < 6 → inR (mi j) 6 = true) : xM l G xE0 yX0_copyPaper cX0_copyPaper 5 none 4 80 0 0 [.ref (a 0), .int (nI x), .int (nI y), .int (nI p)] (wCh G a np nq kd mi vi li) none (fun w2 => w2 = wCh G a np nq kd mi vi (cpP kd mi vi li p x y 5)) := by
  refine x_entry (by decide +kernel) (Nat.le_of_ble_eq_true rfl) rfl rfl (fun K X => ?_)
  refine x_iconst (v := nI 0) X dX0_copyPaper_0 (by decide) ?_
  refine x_istore (lv' := [(4, .int (nI 0)), (0, .ref (a 0)), (1, .int (nI x)), (2, .int (nI y)), (3, .int (nI p))]) X dX0_copyPaper_1 (by decide) rfl ?_
  have L3 : ∀ (fu : Nat) (t : Nat) (g : Nat → Int32), 5 - t < fu → (t ≤ 5) → (g = cpP kd mi vi li p x y t) → K (wCh G a np nq kd mi vi g) 0 0 3 [(0, .ref (a 0)), (1, .int (nI x)), (2, .int (nI y)), (3, .int (nI p)), (4, .int (nI t))] [] := by
    intro fu
    induction fu with
    | zero => intro t g hfu; exact absurd hfu (Nat.not_lt_zero _)
    | succ fu ih_L3 =>
      intro t g hfu_L3 ht5 hg
      refine x_iload X dX0_copyPaper_3 4 rfl ?_
      refine x_iconst (v := nI 5) X dX0_copyPaper_5 (by decide) ?_
      refine x_icmp_ge_n 36 X dX0_copyPaper_6 (by decide) (by omega) (by omega) (fun c_1 => ?_) (fun c_1 => ?_)
      · -- 6 t
        have n_1 := Nat.not_lt.mpr c_1
        obtain rfl : t = 5 := by omega
        exact x_retv X dX0_copyPaper_36 ⟨rfl, (by rw [hg]), by decide, by decide⟩
      · -- 6 f
        refine x_aloadn X dX0_copyPaper_9 0 rfl ?_
        refine x_iloadn X dX0_copyPaper_10 2 rfl ?_
        refine x_iload X dX0_copyPaper_11 4 rfl ?_
        refine x_aloadn X dX0_copyPaper_13 0 rfl ?_
        refine x_iloadn X dX0_copyPaper_14 3 rfl ?_
        refine x_iload X dX0_copyPaper_15 4 rfl ?_
        refine x_aloadn X dX0_copyPaper_17 0 rfl ?_
        refine x_iloadn X dX0_copyPaper_18 1 rfl ?_
        refine x_iload X dX0_copyPaper_19 4 rfl ?_
        refine x_callVrv (As := [.int (nI x), .int (nI t)]) (rest := [.int (nI t), .int (nI p), .ref (a 0), .int (nI t), .int (nI y), .ref (a 0)]) X (c_X0_lineOf l G a np nq kd mi vi g x t (by omega) (by omega)) xE0_ok (fun _ _ _ => trivial) [0, 1, 2, 3, 4] rfl 0 rfl rfl rfl rfl wco_X0_lineOf wi_X0 xd_X0_lineOf wl_X0_97 win_X0_lineOf wse_X0_lineOf (by decide) (Nat.le_of_ble_eq_true rfl) dX0_copyPaper_21 ?_
        refine x_callVrv (As := [.int (nI p), .int (nI t), .int (g (x * 5 + t))]) (rest := [.int (nI t), .int (nI y), .ref (a 0)]) X (c_X0_copied l G a np nq kd mi vi g p t (g (x * 5 + t)) (by omega) (by omega) (by assumption)) xE0_ok (fun _ _ _ => trivial) [0, 1, 2, 3, 4] rfl 0 rfl rfl rfl rfl wco_X0_copied wi_X0 xd_X0_copied wl_X0_100 win_X0_copied wse_X0_copied (by decide) (Nat.le_of_ble_eq_true rfl) dX0_copyPaper_24 ?_
        refine x_callVf0 (As := [.int (nI y), .int (nI t), .int (F_cop (kd p) (vi (tn (mi p) * 5 + t)) (g (x * 5 + t)))]) (rest := []) (w1 := wCh G a np nq kd mi vi (upd g (y * 5 + t) (F_cop (kd p) (vi (tn (mi p) * 5 + t)) (g (x * 5 + t))))) (ws' := wCh G a np nq kd mi vi (upd g (y * 5 + t) (F_cop (kd p) (vi (tn (mi p) * 5 + t)) (g (x * 5 + t))))) X (c_X0_putLine l G a np nq kd mi vi g y t (F_cop (kd p) (vi (tn (mi p) * 5 + t)) (g (x * 5 + t))) (by omega) (by omega)) xE0_ok (fun _ _ _ => trivial) [0, 1, 2, 3, 4] rfl 0 rfl rfl rfl rfl wco_X0_putLine wi_X0 xd_X0_putLine wl_X0_103 win_X0_putLine wse_X0_putLine (by decide) (Nat.le_of_ble_eq_true rfl) dX0_copyPaper_27 rfl (Eq.trans (b := [a 0, a 1, a 2, a 3, a 4]) rfl rfl) rfl ?_
        refine x_iinc (v := nI (t + 1)) (lv' := [(4, .int (nI (t + 1))), (0, .ref (a 0)), (1, .int (nI x)), (2, .int (nI y)), (3, .int (nI p))]) X dX0_copyPaper_30 4 rfl (nI_1 _) (by decide) rfl ?_
        refine x_goto 3 X dX0_copyPaper_33 (by decide) ?_
        refine x_lv (lv' := [(0, .ref (a 0)), (1, .int (nI x)), (2, .int (nI y)), (3, .int (nI p)), (4, .int (nI (t + 1)))]) X [1, 2, 3, 4, 0] rfl ?_
        exact ih_L3 (t + 1) (upd g (y * 5 + t) (F_cop (kd p) (vi (tn (mi p) * 5 + t)) (g (x * 5 + t)))) (by omega) ((by omega)) (by rw [hg, cpP_at _ _ _ _ _ _ _ _ (by omega)]; exact cpP_s _ _ _ _ _ _ _ _)
  refine x_lv (lv' := [(0, .ref (a 0)), (1, .int (nI x)), (2, .int (nI y)), (3, .int (nI p)), (4, .int (nI 0))]) X [1, 2, 3, 4, 0] rfl ?_
  exact L3 _ 0 li (Nat.lt_succ_self _) ((by omega)) (cpP_0 _ _ _ _ _ _ _)
set_option maxRecDepth 100000 in
set_option maxHeartbeats 4000000 in
/-- X0_goRound -/
theorem c_X0_goRound (l : Launch) (G : xG) (a : Nat → Nat) (np : Nat) (nq : Nat) (kd : Nat → Int32) (mi : Nat → Int32) (vi : Nat → Int32) (li : Nat → Int32) (x : Nat) (hx : x < 5) (hnp : np ≤ 6) (hmi : ∀ j, j < 6 → inR (mi j) 6 = true) : xM l G xE0 yX0_goRound cX0_goRound 3 none 5 104 0 0 [.ref (a 0), .int (nI x)] (wCh G a np nq kd mi vi li) none (fun w2 => w2 = wCh G a np nq kd mi vi (goR kd mi vi li x np)) := by
  refine x_entry (by decide +kernel) (Nat.le_of_ble_eq_true rfl) rfl rfl (fun K X => ?_)
  refine x_iconst (v := nI 0) X dX0_goRound_0 (by decide) ?_
  refine x_istoren (lv' := [(2, .int (nI 0)), (0, .ref (a 0)), (1, .int (nI x))]) X dX0_goRound_1 (by decide) rfl ?_
  have L2 : ∀ (fu : Nat) (p : Nat) (g : Nat → Int32), np - p < fu → (p ≤ np) → (g = goR kd mi vi li x p) → K (wCh G a np nq kd mi vi g) 0 0 2 [(0, .ref (a 0)), (1, .int (nI x)), (2, .int (nI p))] [] := by
    intro fu
    induction fu with
    | zero => intro p g hfu; exact absurd hfu (Nat.not_lt_zero _)
    | succ fu ih_L2 =>
      intro p g hfu_L2 hp6 hg
      refine x_iloadn X dX0_goRound_2 2 rfl ?_
      refine x_aloadn X dX0_goRound_3 0 rfl ?_
      refine x_get X wu_X0 0 rfl rfl 0 (by decide) wf_X0_24 rfl rfl dX0_goRound_4 ?_
      refine x_icmp_ge_n 23 X dX0_goRound_7 (by decide) (by omega) (by omega) (fun c_1 => ?_) (fun c_1 => ?_)
      · -- 7 t
        have n_1 := Nat.not_lt.mpr c_1
        have e : p = np := by omega
        rw [e] at hg
        exact x_retv X dX0_goRound_23 ⟨rfl, (by rw [hg]), by decide, by decide⟩
      · -- 7 f
        refine x_aloadn X dX0_goRound_10 0 rfl ?_
        refine x_iloadn X dX0_goRound_11 1 rfl ?_
        refine x_iloadn X dX0_goRound_12 1 rfl ?_
        refine x_iloadn X dX0_goRound_13 2 rfl ?_
        refine x_callVf0 (As := [.int (nI x), .int (nI x), .int (nI p)]) (rest := []) (w1 := wCh G a np nq kd mi vi (cpP kd mi vi g p x x 5)) (ws' := wCh G a np nq kd mi vi (cpP kd mi vi g p x x 5)) X (c_X0_copyPaper l G a np nq kd mi vi g x x p (by omega) (by omega) (by omega) (by assumption)) xE0_ok (fun _ _ _ => trivial) [0, 1, 2, 3, 4] rfl 0 rfl rfl rfl rfl wco_X0_copyPaper wi_X0 xd_X0_copyPaper wl_X0_106 win_X0_copyPaper wse_X0_copyPaper (by decide) (Nat.le_of_ble_eq_true rfl) dX0_goRound_14 rfl (Eq.trans (b := [a 0, a 1, a 2, a 3, a 4]) rfl rfl) rfl ?_
        refine x_iinc (v := nI (p + 1)) (lv' := [(2, .int (nI (p + 1))), (0, .ref (a 0)), (1, .int (nI x))]) X dX0_goRound_17 2 rfl (nI_1 _) (by decide) rfl ?_
        refine x_goto 2 X dX0_goRound_20 (by decide) ?_
        refine x_lv (lv' := [(0, .ref (a 0)), (1, .int (nI x)), (2, .int (nI (p + 1)))]) X [1, 2, 0] rfl ?_
        exact ih_L2 (p + 1) (cpP kd mi vi g p x x 5) (by omega) ((by omega)) (by rw [hg]; rfl)
  refine x_lv (lv' := [(0, .ref (a 0)), (1, .int (nI x)), (2, .int (nI 0))]) X [1, 2, 0] rfl ?_
  exact L2 _ 0 li (Nat.lt_succ_self _) ((by omega)) (rfl)
set_option maxRecDepth 100000 in
set_option maxHeartbeats 4000000 in
/-- X0_codeOf -/
theorem c_X0_codeOf (l : Launch) (G : xG) (a : Nat → Nat) (np : Nat) (nq : Nat) (kd : Nat → Int32) (mi : Nat → Int32) (vi : Nat → Int32) (li : Nat → Int32) (x : Nat) (hx : x < 5) : xM l G xE0 yX0_codeOf cX0_codeOf 5 (some .int) 2 43 0 0 [.ref (a 0), .int (nI x)] (wCh G a np nq kd mi vi li) (some (.int (F_code li x 5))) (fun w2 => w2 = wCh G a np nq kd mi vi li) := by
  refine x_entry (by decide +kernel) (Nat.le_of_ble_eq_true rfl) rfl ⟨_, rfl, rfl⟩ (fun K X => ?_)
  refine x_iconst (v := nI 0) X dX0_codeOf_0 (by decide) ?_
  refine x_istoren (lv' := [(2, .int (nI 0)), (0, .ref (a 0)), (1, .int (nI x))]) X dX0_codeOf_1 (by decide) rfl ?_
  refine x_iconst (v := nI 0) X dX0_codeOf_2 (by decide) ?_
  refine x_istoren (lv' := [(3, .int (nI 0)), (2, .int (nI 0)), (0, .ref (a 0)), (1, .int (nI x))]) X dX0_codeOf_3 (by decide) rfl ?_
  have L4 : ∀ (fu : Nat) (t : Nat) (co : Int32), 5 - t < fu → (t ≤ 5) → (co = F_code li x t) → K (wCh G a np nq kd mi vi li) 0 0 4 [(0, .ref (a 0)), (1, .int (nI x)), (2, .int co), (3, .int (nI t))] [] := by
    intro fu
    induction fu with
    | zero => intro t co hfu; exact absurd hfu (Nat.not_lt_zero _)
    | succ fu ih_L4 =>
      intro t co hfu_L4 ht5 hco
      refine x_iloadn X dX0_codeOf_4 3 rfl ?_
      refine x_iconst (v := nI 5) X dX0_codeOf_5 (by decide) ?_
      refine x_icmp_ge_n 46 X dX0_codeOf_6 (by decide) (by omega) (by omega) (fun c_1 => ?_) (fun c_1 => ?_)
      · -- 6 t
        have n_1 := Nat.not_lt.mpr c_1
        obtain rfl : t = 5 := by omega
        refine x_iloadn X dX0_codeOf_46 2 rfl ?_
        exact x_ret X dX0_codeOf_47 ⟨ret_i (by rw [hco]), rfl, by decide, by decide⟩
      · -- 6 f
        refine x_aloadn X dX0_codeOf_9 0 rfl ?_
        refine x_iloadn X dX0_codeOf_10 1 rfl ?_
        refine x_iloadn X dX0_codeOf_11 3 rfl ?_
        refine x_callVrv (As := [.int (nI x), .int (nI t)]) (rest := []) X (c_X0_lineOf l G a np nq kd mi vi li x t (by omega) (by omega)) xE0_ok (fun _ _ _ => trivial) [0, 1, 2, 3, 4] rfl 0 rfl rfl rfl rfl wco_X0_lineOf wi_X0 xd_X0_lineOf wl_X0_97 win_X0_lineOf wse_X0_lineOf (by decide) (Nat.le_of_ble_eq_true rfl) dX0_codeOf_12 ?_
        refine x_istore (lv' := [(4, .int (li (x * 5 + t))), (0, .ref (a 0)), (1, .int (nI x)), (2, .int co), (3, .int (nI t))]) X dX0_codeOf_15 (by decide) rfl ?_
        refine x_iloadn X dX0_codeOf_17 3 rfl ?_
        refine x_bipush (v := nI 20) X dX0_codeOf_18 (by decide) ?_
        refine x_imul (v := co * (nI 20)) X dX0_codeOf_20 rfl ?_
        refine x_iload X dX0_codeOf_21 0 rfl ?_
        refine x_bipush (v := nI 100) X dX0_codeOf_23 (by decide) ?_
        refine x_icmp_ne 33 X dX0_codeOf_25 (by decide) (fun c_2 => ?_) (fun c_2 => ?_)
        · -- 25 t
          refine x_iload X dX0_codeOf_33 0 rfl ?_
          refine x_bipush (v := nI 9) X dX0_codeOf_35 (by decide) ?_
          refine x_iadd (v := (li (x * 5 + t)) + (nI 9)) X dX0_codeOf_37 rfl ?_
          refine x_iadd (v := (co * (nI 20)) + ((li (x * 5 + t)) + (nI 9))) X dX0_codeOf_38 rfl ?_
          refine x_istoren (lv' := [(2, .int ((co * (nI 20)) + ((li (x * 5 + t)) + (nI 9)))), (4, .int (li (x * 5 + t))), (0, .ref (a 0)), (1, .int (nI x)), (3, .int (nI t))]) X dX0_codeOf_39 (by decide) rfl ?_
          refine x_iinc (v := nI (t + 1)) (lv' := [(3, .int (nI (t + 1))), (2, .int ((co * (nI 20)) + ((li (x * 5 + t)) + (nI 9)))), (4, .int (li (x * 5 + t))), (0, .ref (a 0)), (1, .int (nI x))]) X dX0_codeOf_40 4 rfl (nI_1 _) (by decide) rfl ?_
          refine x_goto 4 X dX0_codeOf_43 (by decide) ?_
          refine x_lv (lv' := [(0, .ref (a 0)), (1, .int (nI x)), (2, .int ((co * (nI 20)) + ((li (x * 5 + t)) + (nI 9)))), (3, .int (nI (t + 1)))]) X [3, 4, 1, 0] rfl ?_
          exact ih_L4 (t + 1) ((co * (nI 20)) + ((li (x * 5 + t)) + (nI 9))) (by omega) ((by omega)) (by simp [F_code, ht5, hco, c_1, c_2])
        · -- 25 f
          refine x_bipush (v := nI 19) X dX0_codeOf_28 (by decide) ?_
          refine x_goto 38 X dX0_codeOf_30 (by decide) ?_
          refine x_iadd (v := (co * (nI 20)) + (nI 19)) X dX0_codeOf_38 rfl ?_
          refine x_istoren (lv' := [(2, .int ((co * (nI 20)) + (nI 19))), (4, .int (li (x * 5 + t))), (0, .ref (a 0)), (1, .int (nI x)), (3, .int (nI t))]) X dX0_codeOf_39 (by decide) rfl ?_
          refine x_iinc (v := nI (t + 1)) (lv' := [(3, .int (nI (t + 1))), (2, .int ((co * (nI 20)) + (nI 19))), (4, .int (li (x * 5 + t))), (0, .ref (a 0)), (1, .int (nI x))]) X dX0_codeOf_40 4 rfl (nI_1 _) (by decide) rfl ?_
          refine x_goto 4 X dX0_codeOf_43 (by decide) ?_
          refine x_lv (lv' := [(0, .ref (a 0)), (1, .int (nI x)), (2, .int ((co * (nI 20)) + (nI 19))), (3, .int (nI (t + 1)))]) X [3, 4, 1, 0] rfl ?_
          exact ih_L4 (t + 1) ((co * (nI 20)) + (nI 19)) (by omega) ((by omega)) (by simp [F_code, ht5, hco, c_1, c_2])
  refine x_lv (lv' := [(0, .ref (a 0)), (1, .int (nI x)), (2, .int (nI 0)), (3, .int (nI 0))]) X [2, 3, 1, 0] rfl ?_
  exact L4 _ 0 (nI 0) (Nat.lt_succ_self _) ((by omega)) (rfl)
set_option maxRecDepth 100000 in
set_option maxHeartbeats 4000000 in
/-- X0_filledLinesOf -/
theorem c_X0_filledLinesOf (l : Launch) (G : xG) (a : Nat → Nat) (np : Nat) (nq : Nat) (kd : Nat → Int32) (mi : Nat → Int32) (vi : Nat → Int32) (li : Nat → Int32) (x : Nat) (hx : x < 5) : xM l G xE0 yX0_filledLinesOf cX0_filledLinesOf 4 (some .int) 2 43 0 0 [.ref (a 0), .int (nI x)] (wCh G a np nq kd mi vi li) (some (.int (nI (F_fil li x 5)))) (fun w2 => w2 = wCh G a np nq kd mi vi li) := by
  refine x_entry (by decide +kernel) (Nat.le_of_ble_eq_true rfl) rfl ⟨_, rfl, rfl⟩ (fun K X => ?_)
  refine x_iconst (v := nI 0) X dX0_filledLinesOf_0 (by decide) ?_
  refine x_istoren (lv' := [(2, .int (nI 0)), (0, .ref (a 0)), (1, .int (nI x))]) X dX0_filledLinesOf_1 (by decide) rfl ?_
  refine x_iconst (v := nI 0) X dX0_filledLinesOf_2 (by decide) ?_
  refine x_istoren (lv' := [(3, .int (nI 0)), (2, .int (nI 0)), (0, .ref (a 0)), (1, .int (nI x))]) X dX0_filledLinesOf_3 (by decide) rfl ?_
  have L4 : ∀ (fu : Nat) (t : Nat) (co : Nat), 5 - t < fu → (t ≤ 5) → (co = F_fil li x t) → K (wCh G a np nq kd mi vi li) 0 0 4 [(0, .ref (a 0)), (1, .int (nI x)), (2, .int (nI co)), (3, .int (nI t))] [] := by
    intro fu
    induction fu with
    | zero => intro t co hfu; exact absurd hfu (Nat.not_lt_zero _)
    | succ fu ih_L4 =>
      intro t co hfu_L4 ht5 hco
      refine x_iloadn X dX0_filledLinesOf_4 3 rfl ?_
      refine x_iconst (v := nI 5) X dX0_filledLinesOf_5 (by decide) ?_
      refine x_icmp_ge_n 34 X dX0_filledLinesOf_6 (by decide) (by omega) (by omega) (fun c_1 => ?_) (fun c_1 => ?_)
      · -- 6 t
        have n_1 := Nat.not_lt.mpr c_1
        obtain rfl : t = 5 := by omega
        refine x_iloadn X dX0_filledLinesOf_34 2 rfl ?_
        exact x_ret X dX0_filledLinesOf_35 ⟨ret_i (by rw [hco]), rfl, by decide, by decide⟩
      · -- 6 f
        refine x_iloadn X dX0_filledLinesOf_9 2 rfl ?_
        refine x_aloadn X dX0_filledLinesOf_10 0 rfl ?_
        refine x_iloadn X dX0_filledLinesOf_11 1 rfl ?_
        refine x_iloadn X dX0_filledLinesOf_12 3 rfl ?_
        refine x_callVrv (As := [.int (nI x), .int (nI t)]) (rest := [.int (nI co)]) X (c_X0_lineOf l G a np nq kd mi vi li x t (by omega) (by omega)) xE0_ok (fun _ _ _ => trivial) [0, 1, 2, 3, 4] rfl 0 rfl rfl rfl rfl wco_X0_lineOf wi_X0 xd_X0_lineOf wl_X0_97 win_X0_lineOf wse_X0_lineOf (by decide) (Nat.le_of_ble_eq_true rfl) dX0_filledLinesOf_13 ?_
        refine x_bipush (v := nI 100) X dX0_filledLinesOf_16 (by decide) ?_
        refine x_icmp_ne 25 X dX0_filledLinesOf_18 (by decide) (fun c_2 => ?_) (fun c_2 => ?_)
        · -- 18 t
          refine x_iconst (v := nI 1) X dX0_filledLinesOf_25 (by decide) ?_
          refine x_iadd (v := nI (co + 1)) X dX0_filledLinesOf_26 (nI_add _ _) ?_
          refine x_istoren (lv' := [(2, .int (nI (co + 1))), (0, .ref (a 0)), (1, .int (nI x)), (3, .int (nI t))]) X dX0_filledLinesOf_27 (by decide) rfl ?_
          refine x_iinc (v := nI (t + 1)) (lv' := [(3, .int (nI (t + 1))), (2, .int (nI (co + 1))), (0, .ref (a 0)), (1, .int (nI x))]) X dX0_filledLinesOf_28 3 rfl (nI_1 _) (by decide) rfl ?_
          refine x_goto 4 X dX0_filledLinesOf_31 (by decide) ?_
          refine x_lv (lv' := [(0, .ref (a 0)), (1, .int (nI x)), (2, .int (nI (co + 1))), (3, .int (nI (t + 1)))]) X [2, 3, 1, 0] rfl ?_
          exact ih_L4 (t + 1) (co + 1) (by omega) ((by omega)) (by simp [F_fil, ht5, hco, c_1, c_2])
        · -- 18 f
          refine x_iconst (v := nI 0) X dX0_filledLinesOf_21 (by decide) ?_
          refine x_goto 26 X dX0_filledLinesOf_22 (by decide) ?_
          refine x_iadd (v := nI co) X dX0_filledLinesOf_26 (nI_add _ 0) ?_
          refine x_istoren (lv' := [(2, .int (nI co)), (0, .ref (a 0)), (1, .int (nI x)), (3, .int (nI t))]) X dX0_filledLinesOf_27 (by decide) rfl ?_
          refine x_iinc (v := nI (t + 1)) (lv' := [(3, .int (nI (t + 1))), (2, .int (nI co)), (0, .ref (a 0)), (1, .int (nI x))]) X dX0_filledLinesOf_28 3 rfl (nI_1 _) (by decide) rfl ?_
          refine x_goto 4 X dX0_filledLinesOf_31 (by decide) ?_
          refine x_lv (lv' := [(0, .ref (a 0)), (1, .int (nI x)), (2, .int (nI co)), (3, .int (nI (t + 1)))]) X [2, 3, 1, 0] rfl ?_
          exact ih_L4 (t + 1) co (by omega) ((by omega)) (by simp [F_fil, ht5, hco, c_1, c_2])
  refine x_lv (lv' := [(0, .ref (a 0)), (1, .int (nI x)), (2, .int (nI 0)), (3, .int (nI 0))]) X [2, 3, 1, 0] rfl ?_
  exact L4 _ 0 0 (Nat.lt_succ_self _) ((by omega)) (rfl)
set_option maxRecDepth 100000 in
set_option maxHeartbeats 4000000 in
/-- X0_filledLines -/
theorem c_X0_filledLines (l : Launch) (G : xG) (a : Nat → Nat) (np : Nat) (nq : Nat) (kd : Nat → Int32) (mi : Nat → Int32) (vi : Nat → Int32) (li : Nat → Int32) (hnq : nq ≤ 5) : xM l G xE0 yX0_filledLines cX0_filledLines 3 (some .int) 3 66 0 0 [.ref (a 0)] (wCh G a np nq kd mi vi li) (some (.int (nI (F_fils li nq)))) (fun w2 => w2 = wCh G a np nq kd mi vi li) := by
  refine x_entry (by decide +kernel) (Nat.le_of_ble_eq_true rfl) rfl ⟨_, rfl, rfl⟩ (fun K X => ?_)
  refine x_iconst (v := nI 0) X dX0_filledLines_0 (by decide) ?_
  refine x_istoren (lv' := [(1, .int (nI 0)), (0, .ref (a 0))]) X dX0_filledLines_1 (by decide) rfl ?_
  refine x_iconst (v := nI 0) X dX0_filledLines_2 (by decide) ?_
  refine x_istoren (lv' := [(2, .int (nI 0)), (1, .int (nI 0)), (0, .ref (a 0))]) X dX0_filledLines_3 (by decide) rfl ?_
  have L4 : ∀ (fu : Nat) (x : Nat) (co : Nat), nq - x < fu → (x ≤ nq) → (co = F_fils li x) → K (wCh G a np nq kd mi vi li) 0 0 4 [(0, .ref (a 0)), (1, .int (nI co)), (2, .int (nI x))] [] := by
    intro fu
    induction fu with
    | zero => intro x co hfu; exact absurd hfu (Nat.not_lt_zero _)
    | succ fu ih_L4 =>
      intro x co hfu_L4 hx hco
      refine x_iloadn X dX0_filledLines_4 2 rfl ?_
      refine x_aloadn X dX0_filledLines_5 0 rfl ?_
      refine x_get X wu_X0 0 rfl rfl 1 (by decide) wf_X0_28 rfl rfl dX0_filledLines_6 ?_
      refine x_icmp_ge_n 26 X dX0_filledLines_9 (by decide) (by omega) (by omega) (fun c_1 => ?_) (fun c_1 => ?_)
      · -- 9 t
        have n_1 := Nat.not_lt.mpr c_1
        have e : x = nq := by omega
        rw [e] at hco
        refine x_iloadn X dX0_filledLines_26 1 rfl ?_
        exact x_ret X dX0_filledLines_27 ⟨ret_i (by rw [hco]), rfl, by decide, by decide⟩
      · -- 9 f
        refine x_iloadn X dX0_filledLines_12 1 rfl ?_
        refine x_aloadn X dX0_filledLines_13 0 rfl ?_
        refine x_iloadn X dX0_filledLines_14 2 rfl ?_
        refine x_callVrv (As := [.int (nI x)]) (rest := [.int (nI co)]) X (c_X0_filledLinesOf l G a np nq kd mi vi li x (by omega)) xE0_ok (fun _ _ _ => trivial) [0, 1, 2, 3, 4] rfl 0 rfl rfl rfl rfl wco_X0_filledLinesOf wi_X0 xd_X0_filledLinesOf wl_X0_109 win_X0_filledLinesOf wse_X0_filledLinesOf (by decide) (Nat.le_of_ble_eq_true rfl) dX0_filledLines_15 ?_
        refine x_iadd (v := nI (co + (F_fil li x 5))) X dX0_filledLines_18 (nI_add _ _) ?_
        refine x_istoren (lv' := [(1, .int (nI (co + (F_fil li x 5)))), (0, .ref (a 0)), (2, .int (nI x))]) X dX0_filledLines_19 (by decide) rfl ?_
        refine x_iinc (v := nI (x + 1)) (lv' := [(2, .int (nI (x + 1))), (1, .int (nI (co + (F_fil li x 5)))), (0, .ref (a 0))]) X dX0_filledLines_20 2 rfl (nI_1 _) (by decide) rfl ?_
        refine x_goto 4 X dX0_filledLines_23 (by decide) ?_
        refine x_lv (lv' := [(0, .ref (a 0)), (1, .int (nI (co + (F_fil li x 5)))), (2, .int (nI (x + 1)))]) X [2, 1, 0] rfl ?_
        exact ih_L4 (x + 1) (co + (F_fil li x 5)) (by omega) ((by omega)) (by rw [hco]; rfl)
  refine x_lv (lv' := [(0, .ref (a 0)), (1, .int (nI 0)), (2, .int (nI 0))]) X [2, 1, 0] rfl ?_
  exact L4 _ 0 0 (Nat.lt_succ_self _) ((by omega)) (rfl)
set_option maxRecDepth 100000 in
set_option maxHeartbeats 4000000 in
/-- X0_sumOfLines -/
theorem c_X0_sumOfLines (l : Launch) (G : xG) (a : Nat → Nat) (np : Nat) (nq : Nat) (kd : Nat → Int32) (mi : Nat → Int32) (vi : Nat → Int32) (li : Nat → Int32) (hnq : nq ≤ 5) : xM l G xE0 yX0_sumOfLines cX0_sumOfLines 5 (some .int) 2 43 0 0 [.ref (a 0)] (wCh G a np nq kd mi vi li) (some (.int (F_sums li nq))) (fun w2 => w2 = wCh G a np nq kd mi vi li) := by
  refine x_entry (by decide +kernel) (Nat.le_of_ble_eq_true rfl) rfl ⟨_, rfl, rfl⟩ (fun K X => ?_)
  refine x_iconst (v := nI 0) X dX0_sumOfLines_0 (by decide) ?_
  refine x_istoren (lv' := [(1, .int (nI 0)), (0, .ref (a 0))]) X dX0_sumOfLines_1 (by decide) rfl ?_
  refine x_iconst (v := nI 0) X dX0_sumOfLines_2 (by decide) ?_
  refine x_istoren (lv' := [(2, .int (nI 0)), (1, .int (nI 0)), (0, .ref (a 0))]) X dX0_sumOfLines_3 (by decide) rfl ?_
  have L4 : ∀ (fu : Nat) (x : Nat) (co : Int32), nq - x < fu → (x ≤ nq) → (co = F_sums li x) → K (wCh G a np nq kd mi vi li) 0 0 4 [(0, .ref (a 0)), (1, .int co), (2, .int (nI x))] [] := by
    intro fu
    induction fu with
    | zero => intro x co hfu; exact absurd hfu (Nat.not_lt_zero _)
    | succ fu ih_L4 =>
      intro x co hfu_L4 hx hco
      refine x_iloadn X dX0_sumOfLines_4 2 rfl ?_
      refine x_aloadn X dX0_sumOfLines_5 0 rfl ?_
      refine x_get X wu_X0 0 rfl rfl 1 (by decide) wf_X0_28 rfl rfl dX0_sumOfLines_6 ?_
      refine x_icmp_ge_n 55 X dX0_sumOfLines_9 (by decide) (by omega) (by omega) (fun c_1 => ?_) (fun c_1 => ?_)
      · -- 9 t
        have n_1 := Nat.not_lt.mpr c_1
        have e : x = nq := by omega
        rw [e] at hco
        refine x_iloadn X dX0_sumOfLines_55 1 rfl ?_
        exact x_ret X dX0_sumOfLines_56 ⟨ret_i (by rw [hco]), rfl, by decide, by decide⟩
      · -- 9 f
        refine x_iconst (v := nI 0) X dX0_sumOfLines_12 (by decide) ?_
        refine x_istoren (lv' := [(3, .int (nI 0)), (0, .ref (a 0)), (1, .int co), (2, .int (nI x))]) X dX0_sumOfLines_13 (by decide) rfl ?_
        have L14_1 : ∀ (fu : Nat) (t : Nat) (cu : Int32), 5 - t < fu → (t ≤ 5) → (cu = F_sum li co x t) → K (wCh G a np nq kd mi vi li) 0 0 14 [(0, .ref (a 0)), (1, .int cu), (2, .int (nI x)), (3, .int (nI t))] [] := by
          intro fu
          induction fu with
          | zero => intro t cu hfu; exact absurd hfu (Nat.not_lt_zero _)
          | succ fu ih_L14_1 =>
            intro t cu hfu_L14_1 ht5 hcu
            refine x_iloadn X dX0_sumOfLines_14 3 rfl ?_
            refine x_iconst (v := nI 5) X dX0_sumOfLines_15 (by decide) ?_
            refine x_icmp_ge_n 49 X dX0_sumOfLines_16 (by decide) (by omega) (by omega) (fun c_2 => ?_) (fun c_2 => ?_)
            · -- 16 t
              have n_2 := Nat.not_lt.mpr c_2
              obtain rfl : t = 5 := by omega
              refine x_iinc (v := nI (x + 1)) (lv' := [(2, .int (nI (x + 1))), (0, .ref (a 0)), (1, .int cu), (3, .int (nI 5))]) X dX0_sumOfLines_49 2 rfl (nI_1 _) (by decide) rfl ?_
              refine x_goto 4 X dX0_sumOfLines_52 (by decide) ?_
              refine x_lv (lv' := [(0, .ref (a 0)), (1, .int cu), (2, .int (nI (x + 1)))]) X [1, 2, 0] rfl ?_
              exact ih_L4 (x + 1) cu (by omega) ((by omega)) (by rw [hcu, hco]; rfl)
            · -- 16 f
              refine x_aloadn X dX0_sumOfLines_19 0 rfl ?_
              refine x_iloadn X dX0_sumOfLines_20 2 rfl ?_
              refine x_iloadn X dX0_sumOfLines_21 3 rfl ?_
              refine x_callVrv (As := [.int (nI x), .int (nI t)]) (rest := []) X (c_X0_lineOf l G a np nq kd mi vi li x t (by omega) (by omega)) xE0_ok (fun _ _ _ => trivial) [0, 1, 2, 3, 4] rfl 0 rfl rfl rfl rfl wco_X0_lineOf wi_X0 xd_X0_lineOf wl_X0_97 win_X0_lineOf wse_X0_lineOf (by decide) (Nat.le_of_ble_eq_true rfl) dX0_sumOfLines_22 ?_
              refine x_istore (lv' := [(4, .int (li (x * 5 + t))), (0, .ref (a 0)), (1, .int cu), (2, .int (nI x)), (3, .int (nI t))]) X dX0_sumOfLines_25 (by decide) rfl ?_
              refine x_iloadn X dX0_sumOfLines_27 2 rfl ?_
              refine x_iload X dX0_sumOfLines_28 0 rfl ?_
              refine x_bipush (v := nI 100) X dX0_sumOfLines_30 (by decide) ?_
              refine x_icmp_ne 39 X dX0_sumOfLines_32 (by decide) (fun c_3 => ?_) (fun c_3 => ?_)
              · -- 32 t
                refine x_iload X dX0_sumOfLines_39 0 rfl ?_
                refine x_iadd (v := cu + (li (x * 5 + t))) X dX0_sumOfLines_41 rfl ?_
                refine x_istoren (lv' := [(1, .int (cu + (li (x * 5 + t)))), (4, .int (li (x * 5 + t))), (0, .ref (a 0)), (2, .int (nI x)), (3, .int (nI t))]) X dX0_sumOfLines_42 (by decide) rfl ?_
                refine x_iinc (v := nI (t + 1)) (lv' := [(3, .int (nI (t + 1))), (1, .int (cu + (li (x * 5 + t)))), (4, .int (li (x * 5 + t))), (0, .ref (a 0)), (2, .int (nI x))]) X dX0_sumOfLines_43 4 rfl (nI_1 _) (by decide) rfl ?_
                refine x_goto 14 X dX0_sumOfLines_46 (by decide) ?_
                refine x_lv (lv' := [(0, .ref (a 0)), (1, .int (cu + (li (x * 5 + t)))), (2, .int (nI x)), (3, .int (nI (t + 1)))]) X [3, 1, 4, 0] rfl ?_
                exact ih_L14_1 (t + 1) (cu + (li (x * 5 + t))) (by omega) ((by omega)) (by simp [F_sum, hx, hco, c_1, ht5, hcu, c_2, c_3])
              · -- 32 f
                refine x_iconst (v := nI 0) X dX0_sumOfLines_35 (by decide) ?_
                refine x_goto 41 X dX0_sumOfLines_36 (by decide) ?_
                refine x_iadd (v := cu + (nI 0)) X dX0_sumOfLines_41 rfl ?_
                refine x_istoren (lv' := [(1, .int (cu + (nI 0))), (4, .int (li (x * 5 + t))), (0, .ref (a 0)), (2, .int (nI x)), (3, .int (nI t))]) X dX0_sumOfLines_42 (by decide) rfl ?_
                refine x_iinc (v := nI (t + 1)) (lv' := [(3, .int (nI (t + 1))), (1, .int (cu + (nI 0))), (4, .int (li (x * 5 + t))), (0, .ref (a 0)), (2, .int (nI x))]) X dX0_sumOfLines_43 4 rfl (nI_1 _) (by decide) rfl ?_
                refine x_goto 14 X dX0_sumOfLines_46 (by decide) ?_
                refine x_lv (lv' := [(0, .ref (a 0)), (1, .int (cu + (nI 0))), (2, .int (nI x)), (3, .int (nI (t + 1)))]) X [3, 1, 4, 0] rfl ?_
                exact ih_L14_1 (t + 1) (cu + (nI 0)) (by omega) ((by omega)) (by simp [F_sum, hx, hco, c_1, ht5, hcu, c_2, c_3])
        refine x_lv (lv' := [(0, .ref (a 0)), (1, .int co), (2, .int (nI x)), (3, .int (nI 0))]) X [1, 2, 3, 0] rfl ?_
        exact L14_1 _ 0 co (Nat.lt_succ_self _) ((by omega)) (rfl)
  refine x_lv (lv' := [(0, .ref (a 0)), (1, .int (nI 0)), (2, .int (nI 0))]) X [2, 1, 0] rfl ?_
  exact L4 _ 0 (nI 0) (Nat.lt_succ_self _) ((by omega)) (rfl)
end
section
/-! ===== telling a Chancery; what is signed; THE TEXT and its reading ===== -/
abbrev xS : Type := Nat × Nat × (Nat → Int32) × (Nat → Int32) × (Nat → Int32) × (Nat → Int32)
abbrev wCq (G : xG) (a : Nat → Nat) (s : xS) : va_W := wCh G a s.1 s.2.1 s.2.2.1 s.2.2.2.1 s.2.2.2.2.1 s.2.2.2.2.2
theorem x_wst {K : xKt} {ws ws' : va_W} {st st' : List Value} {k z pc : Nat} {lv : xL} (h1 : ws = ws') (h2 : st = st') (kk : K ws' k z pc lv st') : K ws k z pc lv st := by
  subst h1; subst h2; exact kk
def tellPok (s : xS) (k m : Int32) : Bool := decide (s.1 < 6) && (inR k 5 && inR m 6)
def tellP (s : xS) (k m : Int32) : xS := if tellPok s k m = true then (s.1 + 1, s.2.1, upd s.2.2.1 s.1 k, upd s.2.2.2.1 s.1 m, s.2.2.2.2.1, s.2.2.2.2.2) else s
def tellVok (s : xS) (p t v : Int32) : Bool := inR p s.1 && (inR t 5 && inR v 19)
def tellV (s : xS) (p t v : Int32) : xS := if tellVok s p t v = true then (s.1, s.2.1, s.2.2.1, s.2.2.2.1, upd s.2.2.2.2.1 (tn p * 5 + tn t) (v - nI 9), s.2.2.2.2.2) else s
def tellQok (n : Int32) : Bool := !decide (n < nI 1) && !decide (nI 5 < n)
def tellQ (s : xS) (n : Int32) : xS := if tellQok n = true then (s.1, tn n, s.2.2.1, s.2.2.2.1, s.2.2.2.2.1, s.2.2.2.2.2) else s
theorem tellQ_nat {n : Int32} (h1 : ¬ n < nI 1) (h2 : ¬ nI 5 < n) : ∃ j : Nat, (1 ≤ j ∧ j ≤ 5) ∧ n = nI j := by
  obtain ⟨j, hj, rfl⟩ := nI_of (x := n) (fun q => h1 (by
    rw [Int32.lt_iff_toInt_lt] at q ⊢
    have e : (nI 1).toInt = 1 := by decide
    have e0 : (0 : Int32).toInt = 0 := by decide
    omega))
  refine ⟨j, ⟨?_, ?_⟩, rfl⟩
  · exact Nat.not_lt.mp (fun q => h1 ((nI_ltI hj (by decide)).mpr q))
  · exact Nat.not_lt.mp (fun q => h2 ((nI_ltI (by decide) hj).mpr q))
/-- SIGNED: all so far would be written -/
def allW (kd vi th sa : Nat → Int32) (p m : Nat) (n : Int32) : Nat → Bool
  | 0 => true
  | i + 1 => allW kd vi th sa p m n i && decide (F_ink (kd p) (vi (m * 5 + tn (th i))) (vi (p * 5 + tn (th i))) n = sa i)
theorem allW_no {kd vi th sa : Nat → Int32} {p m : Nat} {n : Int32} {i : Nat} (h : ¬ F_ink (kd p) (vi (m * 5 + tn (th i))) (vi (p * 5 + tn (th i))) n = sa i) : ∀ j, i < j → allW kd vi th sa p m n j = false
  | 0, hj => absurd hj (Nat.not_lt_zero _)
  | j + 1, hj => by
    rcases Nat.lt_succ_iff_lt_or_eq.mp hj with h1 | h1
    · simp [allW, allW_no h j h1]
    · subst h1; simp [allW, h]
def ltA (le : Nat → Int32) (nl j : Nat) : Int32 := if j < nl then le j else (-4)
def isFg (x : Int32) : Bool := !decide (x < nI 48) && !decide (nI 57 < x)
def figs (le : Nat → Int32) (nl p : Nat) : Nat := if isFg (ltA le nl p) = true then (if isFg (ltA le nl (p + 1)) = true then 2 else 1) else 0
theorem figs_le (le : Nat → Int32) (nl p : Nat) : figs le nl p ≤ 2 := by
  simp only [figs]
  split
  · split <;> omega
  · omega
def valN (le : Nat → Int32) (nl p : Nat) : Int32 := if figs le nl p = 2 then (nI 0 + ltA le nl p - nI 48) * nI 10 + ltA le nl (p + 1) - nI 48 else nI 0 + ltA le nl p - nI 48
def bump (r : Nat × Nat) : Nat × Nat := if r.1 = 0 then (0, 0) else (r.1 + 1, r.2)
/-- numbers from p on: how many, and the place behind their ; (none: 0) -/
def rdN (le : Nat → Int32) (nl : Nat) : Nat → Nat → Nat × Nat
  | 0, _ => (0, 0)
  | k + 1, p => if figs le nl p < 1 then (0, 0) else if ltA le nl (p + figs le nl p) = nI 59 then (1, p + figs le nl p + 1) else if ltA le nl (p + figs le nl p) = nI 44 then bump (rdN le nl k (p + figs le nl p + 1)) else (0, 0)
theorem rdN_f {le : Nat → Int32} {nl k p : Nat} (h : figs le nl p < 1) : rdN le nl (k + 1) p = (0, 0) := by rw [rdN, if_pos h]
theorem rdN_s {le : Nat → Int32} {nl k p : Nat} (h : 1 ≤ figs le nl p) (h2 : ltA le nl (p + figs le nl p) = nI 59) : rdN le nl (k + 1) p = (1, p + figs le nl p + 1) := by rw [rdN, if_neg (by omega), if_pos h2]
theorem rdN_c {le : Nat → Int32} {nl k p : Nat} (h : 1 ≤ figs le nl p) (h2 : ¬ ltA le nl (p + figs le nl p) = nI 59) (h3 : ltA le nl (p + figs le nl p) = nI 44) : rdN le nl (k + 1) p = bump (rdN le nl k (p + figs le nl p + 1)) := by rw [rdN, if_neg (by omega), if_neg h2, if_pos h3]
theorem rdN_b {le : Nat → Int32} {nl k p : Nat} (h : 1 ≤ figs le nl p) (h2 : ¬ ltA le nl (p + figs le nl p) = nI 59) (h3 : ¬ ltA le nl (p + figs le nl p) = nI 44) : rdN le nl (k + 1) p = (0, 0) := by rw [rdN, if_neg (by omega), if_neg h2, if_neg h3]
theorem rdN_0 {le : Nat → Int32} {nl p : Nat} : rdN le nl 0 p = (0, 0) := rfl
def rdB (r : Nat × Nat) : Int32 := if r.1 = 0 then (-4) else nI r.2
def nx (le : Nat → Int32) (nl p : Nat) : Nat := p + figs le nl p + 1
theorem rdN_le (le : Nat → Int32) (nl : Nat) : ∀ k p, (rdN le nl k p).1 ≠ 0 → (rdN le nl k p).2 ≤ nl ∧ p < (rdN le nl k p).2
  | 0, p => fun h => absurd rfl h
  | k + 1, p => by
    intro h
    by_cases h1 : figs le nl p < 1
    · rw [rdN_f h1] at h; exact absurd rfl h
    · by_cases h2 : ltA le nl (p + figs le nl p) = nI 59
      · rw [rdN_s (by omega) h2]
        refine ⟨?_, by omega⟩
        by_cases h3 : p + figs le nl p < nl
        · exact h3
        · rw [ltA, if_neg h3] at h2
          exact absurd h2 (by decide)
      · by_cases h3 : ltA le nl (p + figs le nl p) = nI 44
        · rw [rdN_c (by omega) h2 h3] at h ⊢
          by_cases h4 : (rdN le nl k (p + figs le nl p + 1)).1 = 0
          · rw [bump, if_pos h4] at h; exact absurd rfl h
          · have := rdN_le le nl k (p + figs le nl p + 1) h4
            rw [bump, if_neg h4]
            exact ⟨this.1, by have := this.2; show p < (rdN le nl k (p + figs le nl p + 1)).2; omega⟩
        · rw [rdN_b (by omega) h2 h3] at h; exact absurd rfl h
def itB (x : Int32) (c : Nat) (v0 v1 v2 : Int32) (s : xS) : Bool := if x = 97 then decide (c = 1) && tellQok v0 else if x = 112 then decide (c = 2) && tellPok s v0 v1 else if x = 118 then decide (c = 3) && tellVok s v0 v1 v2 else false
def itS (x : Int32) (c : Nat) (v0 v1 v2 : Int32) (s : xS) : xS := if x = 97 then (if c = 1 then tellQ s v0 else s) else if x = 112 then (if c = 2 then tellP s v0 v1 else s) else if x = 118 then (if c = 3 then tellV s v0 v1 v2 else s) else s
theorem it_cg {x : Int32} {c : Nat} {v0 v1 v2 w0 w1 w2 : Int32} {s : xS} (h0 : 1 ≤ c → v0 = w0) (h1 : 2 ≤ c → v1 = w1) (h2 : 3 ≤ c → v2 = w2) : itB x c v0 v1 v2 s = itB x c w0 w1 w2 s ∧ itS x c v0 v1 v2 s = itS x c w0 w1 w2 s := by
  simp only [itB, itS]
  by_cases hx : x = 97
  · simp only [if_pos hx]
    by_cases hc : c = 1
    · rw [h0 (by omega)]; exact ⟨rfl, rfl⟩
    · simp [hc]
  · simp only [if_neg hx]
    by_cases hx : x = 112
    · simp only [if_pos hx]
      by_cases hc : c = 2
      · rw [h0 (by omega), h1 (by omega)]; exact ⟨rfl, rfl⟩
      · simp [hc]
    · simp only [if_neg hx]
      by_cases hx : x = 118
      · simp only [if_pos hx]
        by_cases hc : c = 3
        · rw [h0 (by omega), h1 (by omega), h2 (by omega)]; exact ⟨rfl, rfl⟩
        · simp [hc]
      · simp [hx]
def blankS : xS := (0, 3, fun _ => nI 0, fun _ => nI 0, fun _ => nI 0, fun _ => nI 100)
/-- reading on at p: FAULT or NONE, and what is told then -/
def prs (le : Nat → Int32) (nl : Nat) : Nat → Nat → xS → Int32 × xS
  | 0, _, s => ((-4), s)
  | k + 1, p, s => if p < nl then (if (rdN le nl 3 (p + 1)).1 = 0 then (nI p, s) else
      if itB (ltA le nl p) (rdN le nl 3 (p + 1)).1 (valN le nl (p + 1)) (valN le nl (nx le nl (p + 1))) (valN le nl (nx le nl (nx le nl (p + 1)))) s = true
      then prs le nl k (rdN le nl 3 (p + 1)).2 (itS (ltA le nl p) (rdN le nl 3 (p + 1)).1 (valN le nl (p + 1)) (valN le nl (nx le nl (p + 1))) (valN le nl (nx le nl (nx le nl (p + 1)))) s)
      else (nI p, itS (ltA le nl p) (rdN le nl 3 (p + 1)).1 (valN le nl (p + 1)) (valN le nl (nx le nl (p + 1))) (valN le nl (nx le nl (nx le nl (p + 1)))) s)) else ((-4), s)

set_option maxRecDepth 100000 in
set_option maxHeartbeats 4000000 in
/-- X0_tellPerson -/
theorem c_X0_tellPerson (l : Launch) (G : xG) (a : Nat → Nat) (s : xS) (x : Int32) (y : Int32) (hs : s.1 ≤ 6) : xM l G xE0 yX0_tellPerson cX0_tellPerson 3 (some .boolean) 1 22 0 0 [.ref (a 0), .int x, .int y] (wCq G a s) (some (.int (bI (tellPok s x y)))) (fun w2 => w2 = wCq G a (tellP s x y)) := by
  refine x_entry (by decide +kernel) (Nat.le_of_ble_eq_true rfl) rfl ⟨_, rfl, bI_narrow _⟩ (fun K X => ?_)
  refine x_aloadn X dX0_tellPerson_0 0 rfl ?_
  refine x_get X wu_X0 0 rfl rfl 0 (by decide) wf_X0_24 rfl rfl dX0_tellPerson_1 ?_
  refine x_bipush (v := nI 6) X dX0_tellPerson_4 (by decide) ?_
  refine x_icmp_ge_n 25 X dX0_tellPerson_6 (by decide) (by omega) (by omega) (fun c_1 => ?_) (fun c_1 => ?_)
  · -- 6 t
    have n_1 := Nat.not_lt.mpr c_1
    refine x_iconst (v := nI 0) X dX0_tellPerson_25 (by decide) ?_
    exact x_ret X dX0_tellPerson_26 ⟨ret_i (by rw [show tellPok s x y = false from by simp [tellPok, c_1, n_1]]; rfl), (by first | (rw [tellP, if_neg (by simp [tellPok, c_1, n_1])]; done) | (rw [tellP, if_neg (by simp [tellPok, c_1, n_1])]; simp only [tn])), by decide, by decide⟩
  · -- 6 f
    refine x_iloadn X dX0_tellPerson_9 1 rfl ?_
    refine x_iconst (v := nI 4) X dX0_tellPerson_10 (by decide) ?_
    refine x_callNrv (As := [.int x, .int (nI 4)]) (rest := []) X (c_X4_isUpTo l G x 4 (by omega)) xE0_ok (fun _ _ _ => trivial) [] rfl rfl rfl wco_X4_isUpTo wi_X4 xd_X4_isUpTo wn_X0_53 wst_X4_isUpTo (by decide) (Nat.le_of_ble_eq_true rfl) dX0_tellPerson_11 ?_
    refine x_ifeq_b 25 X dX0_tellPerson_14 (by decide) (fun c_2 => ?_) (fun c_2 => ?_)
    · -- 14 t
      refine x_iconst (v := nI 0) X dX0_tellPerson_25 (by decide) ?_
      exact x_ret X dX0_tellPerson_26 ⟨ret_i (by rw [show tellPok s x y = false from by simp [tellPok, c_1, c_2]]; rfl), (by first | (rw [tellP, if_neg (by simp [tellPok, c_1, c_2])]; done) | (rw [tellP, if_neg (by simp [tellPok, c_1, c_2])]; simp only [tn])), by decide, by decide⟩
    · -- 14 f
      obtain ⟨xN, hxN, rfl⟩ := inR_nat c_2 (by omega)
      have qxN : (nI xN).toNatClampNeg = xN := nI_clamp (by omega)
      refine x_iloadn X dX0_tellPerson_17 2 rfl ?_
      refine x_iconst (v := nI 5) X dX0_tellPerson_18 (by decide) ?_
      refine x_callNrv (As := [.int y, .int (nI 5)]) (rest := []) X (c_X4_isUpTo l G y 5 (by omega)) xE0_ok (fun _ _ _ => trivial) [] rfl rfl rfl wco_X4_isUpTo wi_X4 xd_X4_isUpTo wn_X0_53 wst_X4_isUpTo (by decide) (Nat.le_of_ble_eq_true rfl) dX0_tellPerson_19 ?_
      refine x_ifne_b 27 X dX0_tellPerson_22 (by decide) (fun c_3 => ?_) (fun c_3 => ?_)
      · -- 22 t
        obtain ⟨yN, hyN, rfl⟩ := inR_nat c_3 (by omega)
        have qyN : (nI yN).toNatClampNeg = yN := nI_clamp (by omega)
        refine x_aloadn X dX0_tellPerson_27 0 rfl ?_
        refine x_get X wu_X0 0 rfl rfl 2 (by decide) wf_X0_9 rfl rfl dX0_tellPerson_28 ?_
        refine x_aloadn X dX0_tellPerson_31 0 rfl ?_
        refine x_get X wu_X0 0 rfl rfl 0 (by decide) wf_X0_24 rfl rfl dX0_tellPerson_32 ?_
        refine x_iloadn X dX0_tellPerson_35 1 rfl ?_
        refine x_callNf0 (As := [.ref (a 1), .int (nI s.1), .int (nI xN)]) (rest := []) (w1 := wIA G (a 1) 6 (upd s.2.2.1 s.1 (nI xN))) (ws' := wCh G a s.1 s.2.1 (upd s.2.2.1 s.1 (nI xN)) s.2.2.2.1 s.2.2.2.2.1 s.2.2.2.2.2) X (c_X4_put l G (a 1) 6 s.2.2.1 s.1 (nI xN) (by omega) (by omega)) xE0_ok (fun _ _ _ => trivial) [1] rfl rfl rfl wco_X4_put wi_X4 xd_X4_put wn_X0_57 wst_X4_put (by decide) (Nat.le_of_ble_eq_true rfl) dX0_tellPerson_36 rfl (Eq.trans (b := [a 1]) rfl rfl) rfl ?_
        refine x_aloadn X dX0_tellPerson_39 0 rfl ?_
        refine x_get X wu_X0 0 rfl rfl 3 (by decide) wf_X0_15 rfl rfl dX0_tellPerson_40 ?_
        refine x_aloadn X dX0_tellPerson_43 0 rfl ?_
        refine x_get X wu_X0 0 rfl rfl 0 (by decide) wf_X0_24 rfl rfl dX0_tellPerson_44 ?_
        refine x_iloadn X dX0_tellPerson_47 2 rfl ?_
        refine x_callNf0 (As := [.ref (a 2), .int (nI s.1), .int (nI yN)]) (rest := []) (w1 := wIA G (a 2) 6 (upd s.2.2.2.1 s.1 (nI yN))) (ws' := wCh G a s.1 s.2.1 (upd s.2.2.1 s.1 (nI xN)) (upd s.2.2.2.1 s.1 (nI yN)) s.2.2.2.2.1 s.2.2.2.2.2) X (c_X4_put l G (a 2) 6 s.2.2.2.1 s.1 (nI yN) (by omega) (by omega)) xE0_ok (fun _ _ _ => trivial) [2] rfl rfl rfl wco_X4_put wi_X4 xd_X4_put wn_X0_57 wst_X4_put (by decide) (Nat.le_of_ble_eq_true rfl) dX0_tellPerson_48 rfl (Eq.trans (b := [a 2]) rfl rfl) rfl ?_
        refine x_aloadn X dX0_tellPerson_51 0 rfl ?_
        refine x_dup X dX0_tellPerson_52 rfl ?_
        refine x_get X wu_X0 0 rfl rfl 0 (by decide) wf_X0_24 rfl rfl dX0_tellPerson_53 ?_
        refine x_iconst (v := nI 1) X dX0_tellPerson_56 (by decide) ?_
        refine x_iadd (v := nI (s.1 + 1)) X dX0_tellPerson_57 (nI_add _ _) ?_
        refine x_put (ws' := wCh G a (s.1 + 1) s.2.1 (upd s.2.2.1 s.1 (nI xN)) (upd s.2.2.2.1 s.1 (nI yN)) s.2.2.2.2.1 s.2.2.2.2.2) (ty := tyX0 0) X wu_X0 tyX0_ok nmX0 0 rfl rfl 0 (by decide) wf_X0_24 rfl rfl (by decide +kernel) rfl rfl (Nat.le_of_ble_eq_true rfl) rfl dX0_tellPerson_58 ?_
        refine x_iconst (v := nI 1) X dX0_tellPerson_61 (by decide) ?_
        exact x_ret X dX0_tellPerson_62 ⟨ret_i (by rw [show tellPok s (nI xN) (nI yN) = true from by simp [tellPok, c_1, c_2, qxN, c_3, qyN]]; rfl), (by first | (rw [tellP, if_pos (by simp [tellPok, c_1, c_2, qxN, c_3, qyN])]; done) | (rw [tellP, if_pos (by simp [tellPok, c_1, c_2, qxN, c_3, qyN])]; simp only [tn, qxN, qyN])), by decide, by decide⟩
      · -- 22 f
        refine x_iconst (v := nI 0) X dX0_tellPerson_25 (by decide) ?_
        exact x_ret X dX0_tellPerson_26 ⟨ret_i (by rw [show tellPok s (nI xN) y = false from by simp [tellPok, c_1, c_2, qxN, c_3]]; rfl), (by first | (rw [tellP, if_neg (by simp [tellPok, c_1, c_2, qxN, c_3])]; done) | (rw [tellP, if_neg (by simp [tellPok, c_1, c_2, qxN, c_3])]; simp only [tn, qxN])), by decide, by decide⟩
set_option maxRecDepth 100000 in
set_option maxHeartbeats 4000000 in
/-- X0_tellView -/
theorem c_X0_tellView (l : Launch) (G : xG) (a : Nat → Nat) (s : xS) (x : Int32) (y : Int32) (v : Int32) (hs : s.1 ≤ 6) : xM l G xE0 yX0_tellView cX0_tellView 4 (some .boolean) 2 45 0 0 [.ref (a 0), .int x, .int y, .int v] (wCq G a s) (some (.int (bI (tellVok s x y v)))) (fun w2 => w2 = wCq G a (tellV s x y v)) := by
  refine x_entry (by decide +kernel) (Nat.le_of_ble_eq_true rfl) rfl ⟨_, rfl, bI_narrow _⟩ (fun K X => ?_)
  refine x_aloadn X dX0_tellView_0 0 rfl ?_
  refine x_iloadn X dX0_tellView_1 1 rfl ?_
  refine x_callVrv (As := [.int x]) (rest := []) X (c_X0_hasPerson l G a s.1 s.2.1 s.2.2.1 s.2.2.2.1 s.2.2.2.2.1 s.2.2.2.2.2 x (by omega)) xE0_ok (fun _ _ _ => trivial) [0, 1, 2, 3, 4] rfl 0 rfl rfl rfl rfl wco_X0_hasPerson wi_X0 xd_X0_hasPerson wl_X0_61 win_X0_hasPerson wse_X0_hasPerson (by decide) (Nat.le_of_ble_eq_true rfl) dX0_tellView_2 ?_
  refine x_ifeq_b 24 X dX0_tellView_5 (by decide) (fun c_1 => ?_) (fun c_1 => ?_)
  · -- 5 t
    refine x_iconst (v := nI 0) X dX0_tellView_24 (by decide) ?_
    exact x_ret X dX0_tellView_25 ⟨ret_i (by rw [show tellVok s x y v = false from by simp [tellVok, c_1]]; rfl), (by first | (rw [tellV, if_neg (by simp [tellVok, c_1])]; done) | (rw [tellV, if_neg (by simp [tellVok, c_1])]; simp only [tn])), by decide, by decide⟩
  · -- 5 f
    obtain ⟨xN, hxN, rfl⟩ := inR_nat c_1 (by omega)
    have qxN : (nI xN).toNatClampNeg = xN := nI_clamp (by omega)
    refine x_iloadn X dX0_tellView_8 2 rfl ?_
    refine x_callNrv (As := [.int y]) (rest := []) X (c_X4_isTheme l G y) xE0_ok (fun _ _ _ => trivial) [] rfl rfl rfl wco_X4_isTheme wi_X4 xd_X4_isTheme wn_X0_65 wst_X4_isTheme (by decide) (Nat.le_of_ble_eq_true rfl) dX0_tellView_9 ?_
    refine x_ifeq_b 24 X dX0_tellView_12 (by decide) (fun c_2 => ?_) (fun c_2 => ?_)
    · -- 12 t
      refine x_iconst (v := nI 0) X dX0_tellView_24 (by decide) ?_
      exact x_ret X dX0_tellView_25 ⟨ret_i (by rw [show tellVok s (nI xN) y v = false from by simp [tellVok, c_1, qxN, c_2]]; rfl), (by first | (rw [tellV, if_neg (by simp [tellVok, c_1, qxN, c_2])]; done) | (rw [tellV, if_neg (by simp [tellVok, c_1, qxN, c_2])]; simp only [tn, qxN])), by decide, by decide⟩
    · -- 12 f
      obtain ⟨yN, hyN, rfl⟩ := inR_nat c_2 (by omega)
      have qyN : (nI yN).toNatClampNeg = yN := nI_clamp (by omega)
      refine x_iloadn X dX0_tellView_15 3 rfl ?_
      refine x_bipush (v := nI 18) X dX0_tellView_16 (by decide) ?_
      refine x_callNrv (As := [.int v, .int (nI 18)]) (rest := []) X (c_X4_isUpTo l G v 18 (by omega)) xE0_ok (fun _ _ _ => trivial) [] rfl rfl rfl wco_X4_isUpTo wi_X4 xd_X4_isUpTo wn_X0_53 wst_X4_isUpTo (by decide) (Nat.le_of_ble_eq_true rfl) dX0_tellView_18 ?_
      refine x_ifne_b 26 X dX0_tellView_21 (by decide) (fun c_3 => ?_) (fun c_3 => ?_)
      · -- 21 t
        obtain ⟨vN, hvN, rfl⟩ := inR_nat c_3 (by omega)
        have qvN : (nI vN).toNatClampNeg = vN := nI_clamp (by omega)
        refine x_aloadn X dX0_tellView_26 0 rfl ?_
        refine x_iloadn X dX0_tellView_27 1 rfl ?_
        refine x_iloadn X dX0_tellView_28 2 rfl ?_
        refine x_iloadn X dX0_tellView_29 3 rfl ?_
        refine x_bipush (v := nI 9) X dX0_tellView_30 (by decide) ?_
        refine x_isub (v := (nI vN) - (nI 9)) X dX0_tellView_32 rfl ?_
        refine x_callVf0 (As := [.int (nI xN), .int (nI yN), .int ((nI vN) - (nI 9))]) (rest := []) (w1 := wCh G a s.1 s.2.1 s.2.2.1 s.2.2.2.1 (upd s.2.2.2.2.1 (xN * 5 + yN) ((nI vN) - (nI 9))) s.2.2.2.2.2) (ws' := wCh G a s.1 s.2.1 s.2.2.1 s.2.2.2.1 (upd s.2.2.2.2.1 (xN * 5 + yN) ((nI vN) - (nI 9))) s.2.2.2.2.2) X (c_X0_putView l G a s.1 s.2.1 s.2.2.1 s.2.2.2.1 s.2.2.2.2.1 s.2.2.2.2.2 xN yN ((nI vN) - (nI 9)) (by omega) (by omega)) xE0_ok (fun _ _ _ => trivial) [0, 1, 2, 3, 4] rfl 0 rfl rfl rfl rfl wco_X0_putView wi_X0 xd_X0_putView wl_X0_68 win_X0_putView wse_X0_putView (by decide) (Nat.le_of_ble_eq_true rfl) dX0_tellView_33 rfl (Eq.trans (b := [a 0, a 1, a 2, a 3, a 4]) rfl rfl) rfl ?_
        refine x_iconst (v := nI 1) X dX0_tellView_36 (by decide) ?_
        exact x_ret X dX0_tellView_37 ⟨ret_i (by rw [show tellVok s (nI xN) (nI yN) (nI vN) = true from by simp [tellVok, c_1, qxN, c_2, qyN, c_3, qvN]]; rfl), (by first | (rw [tellV, if_pos (by simp [tellVok, c_1, qxN, c_2, qyN, c_3, qvN])]; done) | (rw [tellV, if_pos (by simp [tellVok, c_1, qxN, c_2, qyN, c_3, qvN])]; simp only [tn, qxN, qyN, qvN])), by decide, by decide⟩
      · -- 21 f
        refine x_iconst (v := nI 0) X dX0_tellView_24 (by decide) ?_
        exact x_ret X dX0_tellView_25 ⟨ret_i (by rw [show tellVok s (nI xN) (nI yN) v = false from by simp [tellVok, c_1, qxN, c_2, qyN, c_3]]; rfl), (by first | (rw [tellV, if_neg (by simp [tellVok, c_1, qxN, c_2, qyN, c_3])]; done) | (rw [tellV, if_neg (by simp [tellVok, c_1, qxN, c_2, qyN, c_3])]; simp only [tn, qxN, qyN])), by decide, by decide⟩
set_option maxRecDepth 100000 in
set_option maxHeartbeats 4000000 in
/-- X0_tellPapers -/
theorem c_X0_tellPapers (l : Launch) (G : xG) (a : Nat → Nat) (s : xS) (x : Int32)  : xM l G xE0 yX0_tellPapers cX0_tellPapers 2 (some .boolean) 0 0 0 0 [.ref (a 0), .int x] (wCq G a s) (some (.int (bI (tellQok x)))) (fun w2 => w2 = wCq G a (tellQ s x)) := by
  refine x_entry (by decide +kernel) (Nat.le_of_ble_eq_true rfl) rfl ⟨_, rfl, bI_narrow _⟩ (fun K X => ?_)
  refine x_iloadn X dX0_tellPapers_0 1 rfl ?_
  refine x_iconst (v := nI 1) X dX0_tellPapers_1 (by decide) ?_
  refine x_icmp_lt 10 X dX0_tellPapers_2 (by decide) (fun c_1 => ?_) (fun c_1 => ?_)
  · -- 2 t
    refine x_iconst (v := nI 0) X dX0_tellPapers_10 (by decide) ?_
    exact x_ret X dX0_tellPapers_11 ⟨ret_i (by rw [show tellQok x = false from by simp [tellQok, c_1]]; rfl), (by first | (rw [tellQ, if_neg (by simp [tellQok, c_1])]; done) | (rw [tellQ, if_neg (by simp [tellQok, c_1])]; simp only [tn])), by decide, by decide⟩
  · -- 2 f
    refine x_iloadn X dX0_tellPapers_5 1 rfl ?_
    refine x_iconst (v := nI 5) X dX0_tellPapers_6 (by decide) ?_
    refine x_icmp_le 12 X dX0_tellPapers_7 (by decide) (fun c_2 => ?_) (fun c_2 => ?_)
    · -- 7 t
      replace c_2 := Int32.not_lt.mpr c_2
      obtain ⟨xN, hxN, rfl⟩ := tellQ_nat c_1 c_2
      have qxN : tn (nI xN) = xN := nI_clamp (by omega)
      refine x_aloadn X dX0_tellPapers_12 0 rfl ?_
      refine x_iloadn X dX0_tellPapers_13 1 rfl ?_
      refine x_put (ws' := wCh G a s.1 xN s.2.2.1 s.2.2.2.1 s.2.2.2.2.1 s.2.2.2.2.2) (ty := tyX0 1) X wu_X0 tyX0_ok nmX0 0 rfl rfl 1 (by decide) wf_X0_28 rfl rfl (by decide +kernel) rfl rfl (Nat.le_of_ble_eq_true rfl) rfl dX0_tellPapers_14 ?_
      refine x_iconst (v := nI 1) X dX0_tellPapers_17 (by decide) ?_
      exact x_ret X dX0_tellPapers_18 ⟨ret_i (by rw [show tellQok (nI xN) = true from by simp [tellQok, c_1, c_2, qxN]]; rfl), (by first | (rw [tellQ, if_pos (by simp [tellQok, c_1, c_2, qxN])]; done) | (rw [tellQ, if_pos (by simp [tellQok, c_1, c_2, qxN])]; simp only [tn, qxN])), by decide, by decide⟩
    · -- 7 f
      replace c_2 := Int32.not_le.mp c_2
      refine x_iconst (v := nI 0) X dX0_tellPapers_10 (by decide) ?_
      exact x_ret X dX0_tellPapers_11 ⟨ret_i (by rw [show tellQok x = false from by simp [tellQok, c_1, c_2]]; rfl), (by first | (rw [tellQ, if_neg (by simp [tellQok, c_1, c_2])]; done) | (rw [tellQ, if_neg (by simp [tellQok, c_1, c_2])]; simp only [tn])), by decide, by decide⟩
set_option maxRecDepth 100000 in
set_option maxHeartbeats 4000000 in
/-- X2_size -/
theorem c_X2_size (l : Launch) (G : xG) (a : Nat → Nat) (th : Nat → Int32) (sa : Nat → Int32) (ns : Nat)  : xM l G xE0 yX2_size cX2_size 1 (some .int) 0 0 0 0 [.ref (a 0)] (wSg G a th sa ns) (some (.int (nI ns))) (fun w2 => w2 = wSg G a th sa ns) := by
  refine x_entry (by decide +kernel) (Nat.le_of_ble_eq_true rfl) rfl ⟨_, rfl, rfl⟩ (fun K X => ?_)
  refine x_aloadn X dX2_size_0 0 rfl ?_
  refine x_get X wu_X2 0 rfl rfl 2 (by decide) wf_X2_18 rfl rfl dX2_size_1 ?_
  exact x_ret X dX2_size_4 ⟨rfl, rfl, by decide, by decide⟩
set_option maxRecDepth 100000 in
set_option maxHeartbeats 4000000 in
/-- X2_clear -/
theorem c_X2_clear (l : Launch) (G : xG) (a : Nat → Nat) (th : Nat → Int32) (sa : Nat → Int32) (ns : Nat)  : xM l G xE0 yX2_clear cX2_clear 1 none 0 0 0 0 [.ref (a 0)] (wSg G a th sa ns) none (fun w2 => w2 = wSg G a th sa 0) := by
  refine x_entry (by decide +kernel) (Nat.le_of_ble_eq_true rfl) rfl rfl (fun K X => ?_)
  refine x_aloadn X dX2_clear_0 0 rfl ?_
  refine x_iconst (v := nI 0) X dX2_clear_1 (by decide) ?_
  refine x_put (ws' := wSg G a th sa 0) (ty := tyX2 2) X wu_X2 tyX2_ok nmX2 0 rfl rfl 2 (by decide) wf_X2_18 rfl rfl (by decide +kernel) rfl rfl (Nat.le_of_ble_eq_true rfl) rfl dX2_clear_2 ?_
  exact x_retv X dX2_clear_5 ⟨rfl, rfl, by decide, by decide⟩
set_option maxRecDepth 100000 in
set_option maxHeartbeats 4000000 in
/-- X2_add -/
theorem c_X2_add (l : Launch) (G : xG) (a : Nat → Nat) (th : Nat → Int32) (sa : Nat → Int32) (ns : Nat) (x : Int32) (y : Int32) (hs : ns < 6) : xM l G xE0 yX2_add cX2_add 3 none 1 22 0 0 [.ref (a 0), .int x, .int y] (wSg G a th sa ns) none (fun w2 => w2 = wSg G a (upd th ns x) (upd sa ns y) (ns + 1)) := by
  refine x_entry (by decide +kernel) (Nat.le_of_ble_eq_true rfl) rfl rfl (fun K X => ?_)
  refine x_aloadn X dX2_add_0 0 rfl ?_
  refine x_get X wu_X2 0 rfl rfl 0 (by decide) wf_X2_9 rfl rfl dX2_add_1 ?_
  refine x_aloadn X dX2_add_4 0 rfl ?_
  refine x_get X wu_X2 0 rfl rfl 2 (by decide) wf_X2_18 rfl rfl dX2_add_5 ?_
  refine x_iloadn X dX2_add_8 1 rfl ?_
  refine x_callNf0 (As := [.ref (a 1), .int (nI ns), .int x]) (rest := []) (w1 := wIA G (a 1) 6 (upd th ns x)) (ws' := wSg G a (upd th ns x) sa ns) X (c_X4_put l G (a 1) 6 th ns x (by omega) (by omega)) xE0_ok (fun _ _ _ => trivial) [1] rfl rfl rfl wco_X4_put wi_X4 xd_X4_put wn_X2_22 wst_X4_put (by decide) (Nat.le_of_ble_eq_true rfl) dX2_add_9 rfl (Eq.trans (b := [a 1]) rfl rfl) rfl ?_
  refine x_aloadn X dX2_add_12 0 rfl ?_
  refine x_get X wu_X2 0 rfl rfl 1 (by decide) wf_X2_15 rfl rfl dX2_add_13 ?_
  refine x_aloadn X dX2_add_16 0 rfl ?_
  refine x_get X wu_X2 0 rfl rfl 2 (by decide) wf_X2_18 rfl rfl dX2_add_17 ?_
  refine x_iloadn X dX2_add_20 2 rfl ?_
  refine x_callNf0 (As := [.ref (a 2), .int (nI ns), .int y]) (rest := []) (w1 := wIA G (a 2) 6 (upd sa ns y)) (ws' := wSg G a (upd th ns x) (upd sa ns y) ns) X (c_X4_put l G (a 2) 6 sa ns y (by omega) (by omega)) xE0_ok (fun _ _ _ => trivial) [2] rfl rfl rfl wco_X4_put wi_X4 xd_X4_put wn_X2_22 wst_X4_put (by decide) (Nat.le_of_ble_eq_true rfl) dX2_add_21 rfl (Eq.trans (b := [a 2]) rfl rfl) rfl ?_
  refine x_aloadn X dX2_add_24 0 rfl ?_
  refine x_dup X dX2_add_25 rfl ?_
  refine x_get X wu_X2 0 rfl rfl 2 (by decide) wf_X2_18 rfl rfl dX2_add_26 ?_
  refine x_iconst (v := nI 1) X dX2_add_29 (by decide) ?_
  refine x_iadd (v := nI (ns + 1)) X dX2_add_30 (nI_add _ _) ?_
  refine x_put (ws' := wSg G a (upd th ns x) (upd sa ns y) (ns + 1)) (ty := tyX2 2) X wu_X2 tyX2_ok nmX2 0 rfl rfl 2 (by decide) wf_X2_18 rfl rfl (by decide +kernel) rfl rfl (Nat.le_of_ble_eq_true rfl) rfl dX2_add_31 ?_
  exact x_retv X dX2_add_34 ⟨rfl, rfl, by decide, by decide⟩
set_option maxRecDepth 100000 in
set_option maxHeartbeats 4000000 in
/-- X2_areAllWritten -/
theorem c_X2_areAllWritten (l : Launch) (G : xG) (a : Nat → Nat) (th : Nat → Int32) (sa : Nat → Int32) (ns : Nat) (b : Nat → Nat) (np : Nat) (nq : Nat) (kd : Nat → Int32) (mi : Nat → Int32) (vi : Nat → Int32) (li : Nat → Int32) (p : Nat) (m : Nat) (n : Int32) (hp : p < 6) (hm : m < 6) (hns : ns ≤ 6) (hth : ∀ j, j < ns → inR (th j) 5 = true) : xM l G xE0 yX2_areAllWritten cX2_areAllWritten 6 (some .boolean) 3 69 0 0 [.ref (a 0), .ref (b 0), .int (nI p), .int (nI m), .int n] (xJ [wSg G a th sa ns, wCh G b np nq kd mi vi li]) (some (.int (bI (allW kd vi th sa p m n ns)))) (fun w2 => w2 = xJ [wSg G a th sa ns, wCh G b np nq kd mi vi li]) := by
  refine x_entry (by decide +kernel) (Nat.le_of_ble_eq_true rfl) rfl ⟨_, rfl, bI_narrow _⟩ (fun K X => ?_)
  refine x_iconst (v := nI 0) X dX2_areAllWritten_0 (by decide) ?_
  refine x_istore (lv' := [(5, .int (nI 0)), (0, .ref (a 0)), (1, .ref (b 0)), (2, .int (nI p)), (3, .int (nI m)), (4, .int n)]) X dX2_areAllWritten_1 (by decide) rfl ?_
  have L3 : ∀ (fu : Nat) (i : Nat), ns - i < fu → (i ≤ ns) → (allW kd vi th sa p m n i = true) → K (xJ [wSg G a th sa ns, wCh G b np nq kd mi vi li]) 0 0 3 [(0, .ref (a 0)), (1, .ref (b 0)), (2, .int (nI p)), (3, .int (nI m)), (4, .int n), (5, .int (nI i))] [] := by
    intro fu
    induction fu with
    | zero => intro i hfu; exact absurd hfu (Nat.not_lt_zero _)
    | succ fu ih_L3 =>
      intro i hfu_L3 hi ha
      refine x_iload X dX2_areAllWritten_3 5 rfl ?_
      refine x_aloadn X dX2_areAllWritten_5 0 rfl ?_
      refine x_get X wu_X2 0 rfl rfl 2 (by decide) wf_X2_18 rfl rfl dX2_areAllWritten_6 ?_
      refine x_icmp_ge_n 49 X dX2_areAllWritten_9 (by decide) (by omega) (by omega) (fun c_1 => ?_) (fun c_1 => ?_)
      · -- 9 t
        have n_1 := Nat.not_lt.mpr c_1
        have e : i = ns := by omega
        rw [e] at ha
        refine x_iconst (v := nI 1) X dX2_areAllWritten_49 (by decide) ?_
        exact x_ret X dX2_areAllWritten_50 ⟨ret_i (by rw [ha]; rfl), rfl, by decide, by decide⟩
      · -- 9 f
        refine x_aloadn X dX2_areAllWritten_12 1 rfl ?_
        refine x_iloadn X dX2_areAllWritten_13 2 rfl ?_
        refine x_iloadn X dX2_areAllWritten_14 3 rfl ?_
        refine x_aloadn X dX2_areAllWritten_15 0 rfl ?_
        refine x_get X wu_X2 0 rfl rfl 0 (by decide) wf_X2_9 rfl rfl dX2_areAllWritten_16 ?_
        refine x_iload X dX2_areAllWritten_19 5 rfl ?_
        refine x_callNrv (As := [.ref (a 1), .int (nI i)]) (rest := [.int (nI m), .int (nI p), .ref (b 0)]) X (c_X4_at l G (a 1) 6 th i (by omega) (by omega)) xE0_ok (fun _ _ _ => trivial) [1] rfl rfl rfl wco_X4_at wi_X4 xd_X4_at wn_X2_26 wst_X4_at (by decide) (Nat.le_of_ble_eq_true rfl) dX2_areAllWritten_21 ?_
        obtain ⟨et, ht5⟩ := inR_eq (hth i (by omega)) (by decide)
        refine x_int et ?_
        refine x_iload X dX2_areAllWritten_24 4 rfl ?_
        refine x_callVrv (As := [.int (nI p), .int (nI m), .int (nI (tn (th i))), .int n]) (rest := []) X (c_X0_writtenFor l G b np nq kd mi vi li p m (tn (th i)) n (by omega) (by omega) (by omega)) xE0_ok (fun _ _ _ => trivial) [3, 4, 5, 6, 7] rfl 0 rfl rfl rfl rfl wco_X0_writtenFor wi_X0 xd_X0_writtenFor wl_X2_30 win_X0_writtenFor wse_X0_writtenFor (by decide) (Nat.le_of_ble_eq_true rfl) dX2_areAllWritten_26 ?_
        refine x_aloadn X dX2_areAllWritten_29 0 rfl ?_
        refine x_get X wu_X2 0 rfl rfl 1 (by decide) wf_X2_15 rfl rfl dX2_areAllWritten_30 ?_
        refine x_iload X dX2_areAllWritten_33 5 rfl ?_
        refine x_callNrv (As := [.ref (a 2), .int (nI i)]) (rest := [.int (F_ink (kd p) (vi (m * 5 + (tn (th i)))) (vi (p * 5 + (tn (th i)))) n)]) X (c_X4_at l G (a 2) 6 sa i (by omega) (by omega)) xE0_ok (fun _ _ _ => trivial) [2] rfl rfl rfl wco_X4_at wi_X4 xd_X4_at wn_X2_26 wst_X4_at (by decide) (Nat.le_of_ble_eq_true rfl) dX2_areAllWritten_35 ?_
        refine x_icmp_eq 43 X dX2_areAllWritten_38 (by decide) (fun c_2 => ?_) (fun c_2 => ?_)
        · -- 38 t
          refine x_iinc (v := nI (i + 1)) (lv' := [(5, .int (nI (i + 1))), (0, .ref (a 0)), (1, .ref (b 0)), (2, .int (nI p)), (3, .int (nI m)), (4, .int n)]) X dX2_areAllWritten_43 5 rfl (nI_1 _) (by decide) rfl ?_
          refine x_goto 3 X dX2_areAllWritten_46 (by decide) ?_
          refine x_lv (lv' := [(0, .ref (a 0)), (1, .ref (b 0)), (2, .int (nI p)), (3, .int (nI m)), (4, .int n), (5, .int (nI (i + 1)))]) X [1, 2, 3, 4, 5, 0] rfl ?_
          exact ih_L3 (i + 1) (by omega) ((by omega)) (by simp [allW, hi, ha, c_1, c_2])
        · -- 38 f
          refine x_iconst (v := nI 0) X dX2_areAllWritten_41 (by decide) ?_
          exact x_ret X dX2_areAllWritten_42 ⟨ret_i (by rw [allW_no c_2 ns (by omega)]; rfl), rfl, by decide, by decide⟩
  refine x_lv (lv' := [(0, .ref (a 0)), (1, .ref (b 0)), (2, .int (nI p)), (3, .int (nI m)), (4, .int n), (5, .int (nI 0))]) X [1, 2, 3, 4, 5, 0] rfl ?_
  exact L3 _ 0 (Nat.lt_succ_self _) ((by omega)) (rfl)
set_option maxRecDepth 100000 in
set_option maxHeartbeats 4000000 in
/-- X3_size -/
theorem c_X3_size (l : Launch) (G : xG) (a : Nat → Nat) (le : Nat → Int32) (nl : Nat) (nu : Nat → Int32) (nc : Nat)  : xM l G xE0 yX3_size cX3_size 1 (some .int) 0 0 0 0 [.ref (a 0)] (wTx G a le nl nu nc) (some (.int (nI nl))) (fun w2 => w2 = wTx G a le nl nu nc) := by
  refine x_entry (by decide +kernel) (Nat.le_of_ble_eq_true rfl) rfl ⟨_, rfl, rfl⟩ (fun K X => ?_)
  refine x_aloadn X dX3_size_0 0 rfl ?_
  refine x_get X wu_X3 0 rfl rfl 1 (by decide) wf_X3_18 rfl rfl dX3_size_1 ?_
  exact x_ret X dX3_size_4 ⟨rfl, rfl, by decide, by decide⟩
set_option maxRecDepth 100000 in
set_option maxHeartbeats 4000000 in
/-- X3_clear -/
theorem c_X3_clear (l : Launch) (G : xG) (a : Nat → Nat) (le : Nat → Int32) (nl : Nat) (nu : Nat → Int32) (nc : Nat)  : xM l G xE0 yX3_clear cX3_clear 1 none 0 0 0 0 [.ref (a 0)] (wTx G a le nl nu nc) none (fun w2 => w2 = wTx G a le 0 nu nc) := by
  refine x_entry (by decide +kernel) (Nat.le_of_ble_eq_true rfl) rfl rfl (fun K X => ?_)
  refine x_aloadn X dX3_clear_0 0 rfl ?_
  refine x_iconst (v := nI 0) X dX3_clear_1 (by decide) ?_
  refine x_put (ws' := wTx G a le 0 nu nc) (ty := tyX3 1) X wu_X3 tyX3_ok nmX3 0 rfl rfl 1 (by decide) wf_X3_18 rfl rfl (by decide +kernel) rfl rfl (Nat.le_of_ble_eq_true rfl) rfl dX3_clear_2 ?_
  exact x_retv X dX3_clear_5 ⟨rfl, rfl, by decide, by decide⟩
set_option maxRecDepth 100000 in
set_option maxHeartbeats 4000000 in
/-- X3_append -/
theorem c_X3_append (l : Launch) (G : xG) (a : Nat → Nat) (le : Nat → Int32) (nl : Nat) (nu : Nat → Int32) (nc : Nat) (x : Int32) (hl : nl < 200) : xM l G xE0 yX3_append cX3_append 2 none 1 22 0 0 [.ref (a 0), .int x] (wTx G a le nl nu nc) none (fun w2 => w2 = wTx G a (upd le nl x) (nl + 1) nu nc) := by
  refine x_entry (by decide +kernel) (Nat.le_of_ble_eq_true rfl) rfl rfl (fun K X => ?_)
  refine x_aloadn X dX3_append_0 0 rfl ?_
  refine x_get X wu_X3 0 rfl rfl 1 (by decide) wf_X3_18 rfl rfl dX3_append_1 ?_
  refine x_sipush (v := nI 200) X dX3_append_4 (by decide) ?_
  refine x_icmp_ge_n 32 X dX3_append_7 (by decide) (by omega) (by omega) (fun c_1 => ?_) (fun c_1 => ?_)
  · -- 7 t
    exact absurd c_1 (by omega)
  · -- 7 f
    refine x_aloadn X dX3_append_10 0 rfl ?_
    refine x_get X wu_X3 0 rfl rfl 0 (by decide) wf_X3_9 rfl rfl dX3_append_11 ?_
    refine x_aloadn X dX3_append_14 0 rfl ?_
    refine x_get X wu_X3 0 rfl rfl 1 (by decide) wf_X3_18 rfl rfl dX3_append_15 ?_
    refine x_iloadn X dX3_append_18 1 rfl ?_
    refine x_callNf0 (As := [.ref (a 1), .int (nI nl), .int x]) (rest := []) (w1 := wIA G (a 1) 200 (upd le nl x)) (ws' := wTx G a (upd le nl x) nl nu nc) X (c_X4_put l G (a 1) 200 le nl x (by omega) (by omega)) xE0_ok (fun _ _ _ => trivial) [1] rfl rfl rfl wco_X4_put wi_X4 xd_X4_put wn_X3_22 wst_X4_put (by decide) (Nat.le_of_ble_eq_true rfl) dX3_append_19 rfl (Eq.trans (b := [a 1]) rfl rfl) rfl ?_
    refine x_aloadn X dX3_append_22 0 rfl ?_
    refine x_dup X dX3_append_23 rfl ?_
    refine x_get X wu_X3 0 rfl rfl 1 (by decide) wf_X3_18 rfl rfl dX3_append_24 ?_
    refine x_iconst (v := nI 1) X dX3_append_27 (by decide) ?_
    refine x_iadd (v := nI (nl + 1)) X dX3_append_28 (nI_add _ _) ?_
    refine x_put (ws' := wTx G a (upd le nl x) (nl + 1) nu nc) (ty := tyX3 1) X wu_X3 tyX3_ok nmX3 0 rfl rfl 1 (by decide) wf_X3_18 rfl rfl (by decide +kernel) rfl rfl (Nat.le_of_ble_eq_true rfl) rfl dX3_append_29 ?_
    exact x_retv X dX3_append_32 ⟨rfl, rfl, by decide, by decide⟩
set_option maxRecDepth 100000 in
set_option maxHeartbeats 4000000 in
/-- X3_letterAt -/
theorem c_X3_letterAt (l : Launch) (G : xG) (a : Nat → Nat) (le : Nat → Int32) (nl : Nat) (nu : Nat → Int32) (nc : Nat) (j : Nat) (hj : j < 2 ^ 31) (hl : nl ≤ 200) : xM l G xE0 yX3_letterAt cX3_letterAt 2 (some .int) 1 21 0 0 [.ref (a 0), .int (nI j)] (wTx G a le nl nu nc) (some (.int (ltA le nl j))) (fun w2 => w2 = wTx G a le nl nu nc) := by
  refine x_entry (by decide +kernel) (Nat.le_of_ble_eq_true rfl) rfl ⟨_, rfl, rfl⟩ (fun K X => ?_)
  refine x_iloadn X dX3_letterAt_0 1 rfl ?_
  refine x_aloadn X dX3_letterAt_1 0 rfl ?_
  refine x_get X wu_X3 0 rfl rfl 1 (by decide) wf_X3_18 rfl rfl dX3_letterAt_2 ?_
  refine x_icmp_ge_n 19 X dX3_letterAt_5 (by decide) (by omega) (by omega) (fun c_1 => ?_) (fun c_1 => ?_)
  · -- 5 t
    have n_1 := Nat.not_lt.mpr c_1
    refine x_bipush (v := (-4)) X dX3_letterAt_19 (by decide) ?_
    exact x_ret X dX3_letterAt_21 ⟨ret_i (by first | rw [ltA, if_pos (by omega)] | rw [ltA, if_neg (by omega)]), rfl, by decide, by decide⟩
  · -- 5 f
    refine x_aloadn X dX3_letterAt_8 0 rfl ?_
    refine x_get X wu_X3 0 rfl rfl 0 (by decide) wf_X3_9 rfl rfl dX3_letterAt_9 ?_
    refine x_iloadn X dX3_letterAt_12 1 rfl ?_
    refine x_callNrv (As := [.ref (a 1), .int (nI j)]) (rest := []) X (c_X4_at l G (a 1) 200 le j (by omega) (by omega)) xE0_ok (fun _ _ _ => trivial) [1] rfl rfl rfl wco_X4_at wi_X4 xd_X4_at wn_X3_52 wst_X4_at (by decide) (Nat.le_of_ble_eq_true rfl) dX3_letterAt_13 ?_
    refine x_goto 21 X dX3_letterAt_16 (by decide) ?_
    exact x_ret X dX3_letterAt_21 ⟨ret_i (by first | rw [ltA, if_pos (by omega)] | rw [ltA, if_neg (by omega)]), rfl, by decide, by decide⟩
set_option maxRecDepth 100000 in
set_option maxHeartbeats 4000000 in
/-- X3_isFigure -/
theorem c_X3_isFigure (l : Launch) (G : xG) (x : Int32)  : xM l G xE0 yX3_isFigure cX3_isFigure 1 (some .boolean) 0 0 0 0 [.int x] ([]) (some (.int (bI (isFg x)))) (fun w2 => w2 = []) := by
  refine x_entry (by decide +kernel) (Nat.le_of_ble_eq_true rfl) rfl ⟨_, rfl, bI_narrow _⟩ (fun K X => ?_)
  refine x_iloadn X dX3_isFigure_0 0 rfl ?_
  refine x_bipush (v := nI 48) X dX3_isFigure_1 (by decide) ?_
  refine x_icmp_lt 16 X dX3_isFigure_3 (by decide) (fun c_1 => ?_) (fun c_1 => ?_)
  · -- 3 t
    refine x_iconst (v := nI 0) X dX3_isFigure_16 (by decide) ?_
    exact x_ret X dX3_isFigure_17 ⟨ret_i (by rw [show isFg x = false from by simp [isFg, c_1]]; rfl), rfl, by decide, by decide⟩
  · -- 3 f
    refine x_iloadn X dX3_isFigure_6 0 rfl ?_
    refine x_bipush (v := nI 57) X dX3_isFigure_7 (by decide) ?_
    refine x_icmp_gt 16 X dX3_isFigure_9 (by decide) (fun c_2 => ?_) (fun c_2 => ?_)
    · -- 9 t
      refine x_iconst (v := nI 0) X dX3_isFigure_16 (by decide) ?_
      exact x_ret X dX3_isFigure_17 ⟨ret_i (by rw [show isFg x = false from by simp [isFg, c_1, c_2]]; rfl), rfl, by decide, by decide⟩
    · -- 9 f
      refine x_iconst (v := nI 1) X dX3_isFigure_12 (by decide) ?_
      refine x_goto 17 X dX3_isFigure_13 (by decide) ?_
      exact x_ret X dX3_isFigure_17 ⟨ret_i (by rw [show isFg x = true from by simp [isFg, c_1, c_2]]; rfl), rfl, by decide, by decide⟩
set_option maxRecDepth 100000 in
set_option maxHeartbeats 4000000 in
/-- X3_figuresAt -/
theorem c_X3_figuresAt (l : Launch) (G : xG) (a : Nat → Nat) (le : Nat → Int32) (nl : Nat) (nu : Nat → Int32) (nc : Nat) (p : Nat) (hp : p ≤ 1000) (hl : nl ≤ 200) : xM l G xE0 yX3_figuresAt cX3_figuresAt 4 (some .int) 2 42 0 0 [.ref (a 0), .int (nI p)] (wTx G a le nl nu nc) (some (.int (nI (figs le nl p)))) (fun w2 => w2 = wTx G a le nl nu nc) := by
  refine x_entry (by decide +kernel) (Nat.le_of_ble_eq_true rfl) rfl ⟨_, rfl, rfl⟩ (fun K X => ?_)
  refine x_iconst (v := nI 0) X dX3_figuresAt_0 (by decide) ?_
  refine x_istoren (lv' := [(2, .int (nI 0)), (0, .ref (a 0)), (1, .int (nI p))]) X dX3_figuresAt_1 (by decide) rfl ?_
  refine x_iconst (v := nI 0) X dX3_figuresAt_2 (by decide) ?_
  refine x_istoren (lv' := [(3, .int (nI 0)), (2, .int (nI 0)), (0, .ref (a 0)), (1, .int (nI p))]) X dX3_figuresAt_3 (by decide) rfl ?_
  refine x_iloadn X dX3_figuresAt_4 0 rfl ?_
  refine x_iconst (v := nI 2) X dX3_figuresAt_5 (by decide) ?_
  refine x_icmp_ge_n 31 X dX3_figuresAt_6 (by decide) (by omega) (by omega) (fun c_1 => ?_) (fun c_1 => ?_)
  · -- 6 t
    exact absurd c_1 (by omega)
  · -- 6 f
    refine x_aloadn X dX3_figuresAt_9 2 rfl ?_
    refine x_iloadn X dX3_figuresAt_10 3 rfl ?_
    refine x_iloadn X dX3_figuresAt_11 0 rfl ?_
    refine x_iadd (v := nI p) X dX3_figuresAt_12 (nI_add _ 0) ?_
    refine x_callVrv (As := [.int (nI p)]) (rest := []) X (c_X3_letterAt l G a le nl nu nc p (by omega) (by omega)) xE0_ok (fun _ _ _ => trivial) [0, 1, 2] rfl 0 rfl rfl rfl rfl wco_X3_letterAt wi_X3 xd_X3_letterAt wl_X3_35 win_X3_letterAt wse_X3_letterAt (by decide) (Nat.le_of_ble_eq_true rfl) dX3_figuresAt_13 ?_
    refine x_callSrv (As := [.int (ltA le nl p)]) (rest := []) X (c_X3_isFigure l G (ltA le nl p)) xE0_ok (fun _ _ _ => trivial) [] rfl rfl rfl wco_X3_isFigure wi_X3 xd_X3_isFigure wl_X3_68 wst_X3_isFigure (by decide) (Nat.le_of_ble_eq_true rfl) dX3_figuresAt_16 ?_
    refine x_ifeq_b 31 X dX3_figuresAt_19 (by decide) (fun c_2 => ?_) (fun c_2 => ?_)
    · -- 19 t
      refine x_iloadn X dX3_figuresAt_31 1 rfl ?_
      exact x_ret X dX3_figuresAt_32 ⟨ret_i (by simp [figs, c_2]), rfl, by decide, by decide⟩
    · -- 19 f
      refine x_iinc (v := nI 1) (lv' := [(2, .int (nI 1)), (3, .int (nI 0)), (0, .ref (a 0)), (1, .int (nI p))]) X dX3_figuresAt_22 1 rfl (by decide) (by decide) rfl ?_
      refine x_iinc (v := nI 1) (lv' := [(3, .int (nI 1)), (2, .int (nI 1)), (0, .ref (a 0)), (1, .int (nI p))]) X dX3_figuresAt_25 1 rfl (by decide) (by decide) rfl ?_
      refine x_goto 4 X dX3_figuresAt_28 (by decide) ?_
      refine x_iloadn X dX3_figuresAt_4 0 rfl ?_
      refine x_iconst (v := nI 2) X dX3_figuresAt_5 (by decide) ?_
      refine x_icmp_ge_n 31 X dX3_figuresAt_6 (by decide) (by omega) (by omega) (fun c_3 => ?_) (fun c_3 => ?_)
      · -- 6 t
        exact absurd c_3 (by omega)
      · -- 6 f
        refine x_aloadn X dX3_figuresAt_9 2 rfl ?_
        refine x_iloadn X dX3_figuresAt_10 3 rfl ?_
        refine x_iloadn X dX3_figuresAt_11 0 rfl ?_
        refine x_iadd (v := nI (p + 1)) X dX3_figuresAt_12 (nI_add _ _) ?_
        refine x_callVrv (As := [.int (nI (p + 1))]) (rest := []) X (c_X3_letterAt l G a le nl nu nc (p + 1) (by omega) (by omega)) xE0_ok (fun _ _ _ => trivial) [0, 1, 2] rfl 0 rfl rfl rfl rfl wco_X3_letterAt wi_X3 xd_X3_letterAt wl_X3_35 win_X3_letterAt wse_X3_letterAt (by decide) (Nat.le_of_ble_eq_true rfl) dX3_figuresAt_13 ?_
        refine x_callSrv (As := [.int (ltA le nl (p + 1))]) (rest := []) X (c_X3_isFigure l G (ltA le nl (p + 1))) xE0_ok (fun _ _ _ => trivial) [] rfl rfl rfl wco_X3_isFigure wi_X3 xd_X3_isFigure wl_X3_68 wst_X3_isFigure (by decide) (Nat.le_of_ble_eq_true rfl) dX3_figuresAt_16 ?_
        refine x_ifeq_b 31 X dX3_figuresAt_19 (by decide) (fun c_4 => ?_) (fun c_4 => ?_)
        · -- 19 t
          refine x_iloadn X dX3_figuresAt_31 1 rfl ?_
          exact x_ret X dX3_figuresAt_32 ⟨ret_i (by simp [figs, c_2, c_4]), rfl, by decide, by decide⟩
        · -- 19 f
          refine x_iinc (v := nI 2) (lv' := [(2, .int (nI 2)), (3, .int (nI 1)), (0, .ref (a 0)), (1, .int (nI p))]) X dX3_figuresAt_22 1 rfl (by decide) (by decide) rfl ?_
          refine x_iinc (v := nI 2) (lv' := [(3, .int (nI 2)), (2, .int (nI 2)), (0, .ref (a 0)), (1, .int (nI p))]) X dX3_figuresAt_25 1 rfl (by decide) (by decide) rfl ?_
          refine x_goto 4 X dX3_figuresAt_28 (by decide) ?_
          refine x_iloadn X dX3_figuresAt_4 0 rfl ?_
          refine x_iconst (v := nI 2) X dX3_figuresAt_5 (by decide) ?_
          refine x_icmp_ge_n 31 X dX3_figuresAt_6 (by decide) (by omega) (by omega) (fun c_5 => ?_) (fun c_5 => ?_)
          · -- 6 t
            refine x_iloadn X dX3_figuresAt_31 1 rfl ?_
            exact x_ret X dX3_figuresAt_32 ⟨ret_i (by simp [figs, c_2, c_4]), rfl, by decide, by decide⟩
          · -- 6 f
            exact absurd c_5 (by omega)
set_option maxRecDepth 100000 in
set_option maxHeartbeats 4000000 in
/-- X3_numberAt -/
theorem c_X3_numberAt (l : Launch) (G : xG) (a : Nat → Nat) (le : Nat → Int32) (nl : Nat) (nu : Nat → Int32) (nc : Nat) (p : Nat) (f : Nat) (hp : p ≤ 1000) (hl : nl ≤ 200) (hf : f = figs le nl p) (hf1 : 1 ≤ f) : xM l G xE0 yX3_numberAt cX3_numberAt 5 (some .int) 2 42 0 0 [.ref (a 0), .int (nI p), .int (nI f)] (wTx G a le nl nu nc) (some (.int (valN le nl p))) (fun w2 => w2 = wTx G a le nl nu nc) := by
  refine x_entry (by decide +kernel) (Nat.le_of_ble_eq_true rfl) rfl ⟨_, rfl, rfl⟩ (fun K X => ?_)
  rcases (show f = 1 ∨ f = 2 from by have := figs_le le nl p; omega) with rfl | rfl
  · -- 1
    refine x_iconst (v := nI 0) X dX3_numberAt_0 (by decide) ?_
    refine x_istoren (lv' := [(3, .int (nI 0)), (0, .ref (a 0)), (1, .int (nI p)), (2, .int (nI 1))]) X dX3_numberAt_1 (by decide) rfl ?_
    refine x_iconst (v := nI 0) X dX3_numberAt_2 (by decide) ?_
    refine x_istore (lv' := [(4, .int (nI 0)), (3, .int (nI 0)), (0, .ref (a 0)), (1, .int (nI p)), (2, .int (nI 1))]) X dX3_numberAt_3 (by decide) rfl ?_
    refine x_iload X dX3_numberAt_5 0 rfl ?_
    refine x_iloadn X dX3_numberAt_7 4 rfl ?_
    refine x_icmp_ge_n 34 X dX3_numberAt_8 (by decide) (by omega) (by omega) (fun c_1 => ?_) (fun c_1 => ?_)
    · -- 8 t
      exact absurd c_1 (by omega)
    · -- 8 f
      refine x_iloadn X dX3_numberAt_11 1 rfl ?_
      refine x_bipush (v := nI 10) X dX3_numberAt_12 (by decide) ?_
      refine x_imul (v := nI 0) X dX3_numberAt_14 (by decide) ?_
      refine x_aloadn X dX3_numberAt_15 2 rfl ?_
      refine x_iloadn X dX3_numberAt_16 3 rfl ?_
      refine x_iload X dX3_numberAt_17 0 rfl ?_
      refine x_iadd (v := nI p) X dX3_numberAt_19 (nI_add _ 0) ?_
      refine x_callVrv (As := [.int (nI p)]) (rest := [.int (nI 0)]) X (c_X3_letterAt l G a le nl nu nc p (by omega) (by omega)) xE0_ok (fun _ _ _ => trivial) [0, 1, 2] rfl 0 rfl rfl rfl rfl wco_X3_letterAt wi_X3 xd_X3_letterAt wl_X3_35 win_X3_letterAt wse_X3_letterAt (by decide) (Nat.le_of_ble_eq_true rfl) dX3_numberAt_20 ?_
      refine x_iadd (v := (nI 0) + (ltA le nl p)) X dX3_numberAt_23 rfl ?_
      refine x_bipush (v := nI 48) X dX3_numberAt_24 (by decide) ?_
      refine x_isub (v := ((nI 0) + (ltA le nl p)) - (nI 48)) X dX3_numberAt_26 rfl ?_
      refine x_istoren (lv' := [(3, .int (((nI 0) + (ltA le nl p)) - (nI 48))), (4, .int (nI 0)), (0, .ref (a 0)), (1, .int (nI p)), (2, .int (nI 1))]) X dX3_numberAt_27 (by decide) rfl ?_
      refine x_iinc (v := nI 1) (lv' := [(4, .int (nI 1)), (3, .int (((nI 0) + (ltA le nl p)) - (nI 48))), (0, .ref (a 0)), (1, .int (nI p)), (2, .int (nI 1))]) X dX3_numberAt_28 1 rfl (by decide) (by decide) rfl ?_
      refine x_goto 5 X dX3_numberAt_31 (by decide) ?_
      refine x_iload X dX3_numberAt_5 0 rfl ?_
      refine x_iloadn X dX3_numberAt_7 4 rfl ?_
      refine x_icmp_ge_n 34 X dX3_numberAt_8 (by decide) (by omega) (by omega) (fun c_2 => ?_) (fun c_2 => ?_)
      · -- 8 t
        refine x_iloadn X dX3_numberAt_34 1 rfl ?_
        exact x_ret X dX3_numberAt_35 ⟨ret_i (by rw [valN, ← hf]; rfl), rfl, by decide, by decide⟩
      · -- 8 f
        exact absurd c_2 (by omega)
  · -- 2
    refine x_iconst (v := nI 0) X dX3_numberAt_0 (by decide) ?_
    refine x_istoren (lv' := [(3, .int (nI 0)), (0, .ref (a 0)), (1, .int (nI p)), (2, .int (nI 2))]) X dX3_numberAt_1 (by decide) rfl ?_
    refine x_iconst (v := nI 0) X dX3_numberAt_2 (by decide) ?_
    refine x_istore (lv' := [(4, .int (nI 0)), (3, .int (nI 0)), (0, .ref (a 0)), (1, .int (nI p)), (2, .int (nI 2))]) X dX3_numberAt_3 (by decide) rfl ?_
    refine x_iload X dX3_numberAt_5 0 rfl ?_
    refine x_iloadn X dX3_numberAt_7 4 rfl ?_
    refine x_icmp_ge_n 34 X dX3_numberAt_8 (by decide) (by omega) (by omega) (fun c_3 => ?_) (fun c_3 => ?_)
    · -- 8 t
      exact absurd c_3 (by omega)
    · -- 8 f
      refine x_iloadn X dX3_numberAt_11 1 rfl ?_
      refine x_bipush (v := nI 10) X dX3_numberAt_12 (by decide) ?_
      refine x_imul (v := nI 0) X dX3_numberAt_14 (by decide) ?_
      refine x_aloadn X dX3_numberAt_15 2 rfl ?_
      refine x_iloadn X dX3_numberAt_16 3 rfl ?_
      refine x_iload X dX3_numberAt_17 0 rfl ?_
      refine x_iadd (v := nI p) X dX3_numberAt_19 (nI_add _ 0) ?_
      refine x_callVrv (As := [.int (nI p)]) (rest := [.int (nI 0)]) X (c_X3_letterAt l G a le nl nu nc p (by omega) (by omega)) xE0_ok (fun _ _ _ => trivial) [0, 1, 2] rfl 0 rfl rfl rfl rfl wco_X3_letterAt wi_X3 xd_X3_letterAt wl_X3_35 win_X3_letterAt wse_X3_letterAt (by decide) (Nat.le_of_ble_eq_true rfl) dX3_numberAt_20 ?_
      refine x_iadd (v := (nI 0) + (ltA le nl p)) X dX3_numberAt_23 rfl ?_
      refine x_bipush (v := nI 48) X dX3_numberAt_24 (by decide) ?_
      refine x_isub (v := ((nI 0) + (ltA le nl p)) - (nI 48)) X dX3_numberAt_26 rfl ?_
      refine x_istoren (lv' := [(3, .int (((nI 0) + (ltA le nl p)) - (nI 48))), (4, .int (nI 0)), (0, .ref (a 0)), (1, .int (nI p)), (2, .int (nI 2))]) X dX3_numberAt_27 (by decide) rfl ?_
      refine x_iinc (v := nI 1) (lv' := [(4, .int (nI 1)), (3, .int (((nI 0) + (ltA le nl p)) - (nI 48))), (0, .ref (a 0)), (1, .int (nI p)), (2, .int (nI 2))]) X dX3_numberAt_28 1 rfl (by decide) (by decide) rfl ?_
      refine x_goto 5 X dX3_numberAt_31 (by decide) ?_
      refine x_iload X dX3_numberAt_5 0 rfl ?_
      refine x_iloadn X dX3_numberAt_7 4 rfl ?_
      refine x_icmp_ge_n 34 X dX3_numberAt_8 (by decide) (by omega) (by omega) (fun c_4 => ?_) (fun c_4 => ?_)
      · -- 8 t
        exact absurd c_4 (by omega)
      · -- 8 f
        refine x_iloadn X dX3_numberAt_11 1 rfl ?_
        refine x_bipush (v := nI 10) X dX3_numberAt_12 (by decide) ?_
        refine x_imul (v := (((nI 0) + (ltA le nl p)) - (nI 48)) * (nI 10)) X dX3_numberAt_14 rfl ?_
        refine x_aloadn X dX3_numberAt_15 2 rfl ?_
        refine x_iloadn X dX3_numberAt_16 3 rfl ?_
        refine x_iload X dX3_numberAt_17 0 rfl ?_
        refine x_iadd (v := nI (p + 1)) X dX3_numberAt_19 (nI_add _ _) ?_
        refine x_callVrv (As := [.int (nI (p + 1))]) (rest := [.int ((((nI 0) + (ltA le nl p)) - (nI 48)) * (nI 10))]) X (c_X3_letterAt l G a le nl nu nc (p + 1) (by omega) (by omega)) xE0_ok (fun _ _ _ => trivial) [0, 1, 2] rfl 0 rfl rfl rfl rfl wco_X3_letterAt wi_X3 xd_X3_letterAt wl_X3_35 win_X3_letterAt wse_X3_letterAt (by decide) (Nat.le_of_ble_eq_true rfl) dX3_numberAt_20 ?_
        refine x_iadd (v := ((((nI 0) + (ltA le nl p)) - (nI 48)) * (nI 10)) + (ltA le nl (p + 1))) X dX3_numberAt_23 rfl ?_
        refine x_bipush (v := nI 48) X dX3_numberAt_24 (by decide) ?_
        refine x_isub (v := (((((nI 0) + (ltA le nl p)) - (nI 48)) * (nI 10)) + (ltA le nl (p + 1))) - (nI 48)) X dX3_numberAt_26 rfl ?_
        refine x_istoren (lv' := [(3, .int ((((((nI 0) + (ltA le nl p)) - (nI 48)) * (nI 10)) + (ltA le nl (p + 1))) - (nI 48))), (4, .int (nI 1)), (0, .ref (a 0)), (1, .int (nI p)), (2, .int (nI 2))]) X dX3_numberAt_27 (by decide) rfl ?_
        refine x_iinc (v := nI 2) (lv' := [(4, .int (nI 2)), (3, .int ((((((nI 0) + (ltA le nl p)) - (nI 48)) * (nI 10)) + (ltA le nl (p + 1))) - (nI 48))), (0, .ref (a 0)), (1, .int (nI p)), (2, .int (nI 2))]) X dX3_numberAt_28 1 rfl (by decide) (by decide) rfl ?_
        refine x_goto 5 X dX3_numberAt_31 (by decide) ?_
        refine x_iload X dX3_numberAt_5 0 rfl ?_
        refine x_iloadn X dX3_numberAt_7 4 rfl ?_
        refine x_icmp_ge_n 34 X dX3_numberAt_8 (by decide) (by omega) (by omega) (fun c_5 => ?_) (fun c_5 => ?_)
        · -- 8 t
          refine x_iloadn X dX3_numberAt_34 1 rfl ?_
          exact x_ret X dX3_numberAt_35 ⟨ret_i (by rw [valN, ← hf]; rfl), rfl, by decide, by decide⟩
        · -- 8 f
          exact absurd c_5 (by omega)
set_option maxRecDepth 100000 in
set_option maxHeartbeats 4000000 in
/-- X3_readNumbers -/
theorem c_X3_readNumbers (l : Launch) (G : xG) (a : Nat → Nat) (le : Nat → Int32) (nl : Nat) (nu : Nat → Int32) (nc : Nat) (p : Nat) (hp : p ≤ 300) (hl : nl ≤ 200) : xM l G xE0 yX3_readNumbers cX3_readNumbers 6 (some .int) 3 66 0 0 [.ref (a 0), .int (nI p)] (wTx G a le nl nu nc) (some (.int (rdB (rdN le nl 3 p)))) (fun w2 => ∃ nu' : Nat → Int32, ∃ nc' : Nat, w2 = wTx G a le nl nu' nc' ∧ ((rdN le nl 3 p).1 ≠ 0 → nc' = (rdN le nl 3 p).1) ∧ (1 ≤ (rdN le nl 3 p).1 → nu' 0 = valN le nl p) ∧ (2 ≤ (rdN le nl 3 p).1 → nu' 1 = valN le nl (nx le nl p)) ∧ (3 ≤ (rdN le nl 3 p).1 → nu' 2 = valN le nl (nx le nl (nx le nl p)))) := by
  refine x_entry (by decide +kernel) (Nat.le_of_ble_eq_true rfl) rfl ⟨_, rfl, rfl⟩ (fun K X => ?_)
  refine x_aloadn X dX3_readNumbers_0 0 rfl ?_
  refine x_iconst (v := nI 0) X dX3_readNumbers_1 (by decide) ?_
  refine x_put (ws' := wTx G a le nl nu 0) (ty := tyX3 3) X wu_X3 tyX3_ok nmX3 0 rfl rfl 3 (by decide) wf_X3_42 rfl rfl (by decide +kernel) rfl rfl (Nat.le_of_ble_eq_true rfl) rfl dX3_readNumbers_2 ?_
  refine x_iloadn X dX3_readNumbers_5 1 rfl ?_
  refine x_istoren (lv' := [(2, .int (nI p)), (0, .ref (a 0)), (1, .int (nI p))]) X dX3_readNumbers_6 (by decide) rfl ?_
  refine x_iconst (v := nI 0) X dX3_readNumbers_7 (by decide) ?_
  refine x_istoren (lv' := [(3, .int (nI 0)), (2, .int (nI p)), (0, .ref (a 0)), (1, .int (nI p))]) X dX3_readNumbers_8 (by decide) rfl ?_
  refine x_iloadn X dX3_readNumbers_9 0 rfl ?_
  refine x_iconst (v := nI 3) X dX3_readNumbers_10 (by decide) ?_
  refine x_icmp_ge_n 95 X dX3_readNumbers_11 (by decide) (by omega) (by omega) (fun c_1 => ?_) (fun c_1 => ?_)
  · -- 11 t
    exact absurd c_1 (by omega)
  · -- 11 f
    refine x_aloadn X dX3_readNumbers_14 2 rfl ?_
    refine x_iloadn X dX3_readNumbers_15 1 rfl ?_
    refine x_callVrv (As := [.int (nI p)]) (rest := []) X (c_X3_figuresAt l G a le nl nu 0 p (by omega) (by omega)) xE0_ok (fun _ _ _ => trivial) [0, 1, 2] rfl 0 rfl rfl rfl rfl wco_X3_figuresAt wi_X3 xd_X3_figuresAt wl_X3_45 win_X3_figuresAt wse_X3_figuresAt (by decide) (Nat.le_of_ble_eq_true rfl) dX3_readNumbers_16 ?_
    have hfl_2 := figs_le le nl (p)
    refine x_istore (lv' := [(4, .int (nI (figs le nl p))), (3, .int (nI 0)), (2, .int (nI p)), (0, .ref (a 0)), (1, .int (nI p))]) X dX3_readNumbers_19 (by decide) rfl ?_
    refine x_iload X dX3_readNumbers_21 0 rfl ?_
    refine x_iconst (v := nI 1) X dX3_readNumbers_23 (by decide) ?_
    refine x_icmp_ge_n 30 X dX3_readNumbers_24 (by decide) (by omega) (by omega) (fun c_3 => ?_) (fun c_3 => ?_)
    · -- 24 t
      have n_3 := Nat.not_lt.mpr c_3
      refine x_aloadn X dX3_readNumbers_30 3 rfl ?_
      refine x_get X wu_X3 0 rfl rfl 2 (by decide) wf_X3_15 rfl rfl dX3_readNumbers_31 ?_
      refine x_iloadn X dX3_readNumbers_34 1 rfl ?_
      refine x_aloadn X dX3_readNumbers_35 3 rfl ?_
      refine x_iloadn X dX3_readNumbers_36 2 rfl ?_
      refine x_iload X dX3_readNumbers_37 0 rfl ?_
      refine x_callVrv (As := [.int (nI p), .int (nI (figs le nl p))]) (rest := [.int (nI 0), .ref (a 2)]) X (c_X3_numberAt l G a le nl nu 0 p (figs le nl p) (by omega) (by omega) (by first | omega | assumption) (by omega)) xE0_ok (fun _ _ _ => trivial) [0, 1, 2] rfl 0 rfl rfl rfl rfl wco_X3_numberAt wi_X3 xd_X3_numberAt wl_X3_48 win_X3_numberAt wse_X3_numberAt (by decide) (Nat.le_of_ble_eq_true rfl) dX3_readNumbers_39 ?_
      refine x_callNf0 (As := [.ref (a 2), .int (nI 0), .int (valN le nl p)]) (rest := []) (w1 := wIA G (a 2) 3 (upd nu 0 (valN le nl p))) (ws' := wTx G a le nl (upd nu 0 (valN le nl p)) 0) X (c_X4_put l G (a 2) 3 nu 0 (valN le nl p) (by omega) (by omega)) xE0_ok (fun _ _ _ => trivial) [2] rfl rfl rfl wco_X4_put wi_X4 xd_X4_put wn_X3_22 wst_X4_put (by decide) (Nat.le_of_ble_eq_true rfl) dX3_readNumbers_42 rfl (Eq.trans (b := [a 2]) rfl rfl) rfl ?_
      refine x_aloadn X dX3_readNumbers_45 3 rfl ?_
      refine x_dup X dX3_readNumbers_46 rfl ?_
      refine x_get X wu_X3 0 rfl rfl 3 (by decide) wf_X3_42 rfl rfl dX3_readNumbers_47 ?_
      refine x_iconst (v := nI 1) X dX3_readNumbers_50 (by decide) ?_
      refine x_iadd (v := nI 1) X dX3_readNumbers_51 (by decide) ?_
      refine x_put (ws' := wTx G a le nl (upd nu 0 (valN le nl p)) 1) (ty := tyX3 3) X wu_X3 tyX3_ok nmX3 0 rfl rfl 3 (by decide) wf_X3_42 rfl rfl (by decide +kernel) rfl rfl (Nat.le_of_ble_eq_true rfl) rfl dX3_readNumbers_52 ?_
      refine x_iloadn X dX3_readNumbers_55 2 rfl ?_
      refine x_iload X dX3_readNumbers_56 0 rfl ?_
      refine x_iadd (v := nI (p + (figs le nl p))) X dX3_readNumbers_58 (nI_add _ _) ?_
      refine x_istoren (lv' := [(2, .int (nI (p + (figs le nl p)))), (4, .int (nI (figs le nl p))), (3, .int (nI 0)), (0, .ref (a 0)), (1, .int (nI p))]) X dX3_readNumbers_59 (by decide) rfl ?_
      refine x_aloadn X dX3_readNumbers_60 3 rfl ?_
      refine x_iloadn X dX3_readNumbers_61 0 rfl ?_
      refine x_callVrv (As := [.int (nI (p + (figs le nl p)))]) (rest := []) X (c_X3_letterAt l G a le nl (upd nu 0 (valN le nl p)) 1 (p + (figs le nl p)) (by omega) (by omega)) xE0_ok (fun _ _ _ => trivial) [0, 1, 2] rfl 0 rfl rfl rfl rfl wco_X3_letterAt wi_X3 xd_X3_letterAt wl_X3_35 win_X3_letterAt wse_X3_letterAt (by decide) (Nat.le_of_ble_eq_true rfl) dX3_readNumbers_62 ?_
      refine x_istore (lv' := [(5, .int (ltA le nl (p + (figs le nl p)))), (2, .int (nI (p + (figs le nl p)))), (4, .int (nI (figs le nl p))), (3, .int (nI 0)), (0, .ref (a 0)), (1, .int (nI p))]) X dX3_readNumbers_65 (by decide) rfl ?_
      refine x_iinc (v := nI (p + (figs le nl p) + 1)) (lv' := [(2, .int (nI (p + (figs le nl p) + 1))), (5, .int (ltA le nl (p + (figs le nl p)))), (4, .int (nI (figs le nl p))), (3, .int (nI 0)), (0, .ref (a 0)), (1, .int (nI p))]) X dX3_readNumbers_67 1 rfl (nI_1 _) (by decide) rfl ?_
      obtain ⟨q1, hq1⟩ : ∃ q : Nat, q = p + (figs le nl p) + 1 := ⟨_, rfl⟩
      rw [← hq1]
      refine x_iload X dX3_readNumbers_70 1 rfl ?_
      refine x_bipush (v := nI 59) X dX3_readNumbers_72 (by decide) ?_
      refine x_icmp_ne 79 X dX3_readNumbers_74 (by decide) (fun c_4 => ?_) (fun c_4 => ?_)
      · -- 74 t
        refine x_iload X dX3_readNumbers_79 1 rfl ?_
        refine x_bipush (v := nI 44) X dX3_readNumbers_81 (by decide) ?_
        refine x_icmp_eq 89 X dX3_readNumbers_83 (by decide) (fun c_5 => ?_) (fun c_5 => ?_)
        · -- 83 t
          refine x_iinc (v := nI 1) (lv' := [(3, .int (nI 1)), (2, .int (nI q1)), (5, .int (ltA le nl (p + (figs le nl p)))), (4, .int (nI (figs le nl p))), (0, .ref (a 0)), (1, .int (nI p))]) X dX3_readNumbers_89 3 rfl (by decide) (by decide) rfl ?_
          refine x_goto 9 X dX3_readNumbers_92 (by decide) ?_
          refine x_iloadn X dX3_readNumbers_9 0 rfl ?_
          refine x_iconst (v := nI 3) X dX3_readNumbers_10 (by decide) ?_
          refine x_icmp_ge_n 95 X dX3_readNumbers_11 (by decide) (by omega) (by omega) (fun c_6 => ?_) (fun c_6 => ?_)
          · -- 11 t
            exact absurd c_6 (by omega)
          · -- 11 f
            refine x_aloadn X dX3_readNumbers_14 4 rfl ?_
            refine x_iloadn X dX3_readNumbers_15 1 rfl ?_
            refine x_callVrv (As := [.int (nI q1)]) (rest := []) X (c_X3_figuresAt l G a le nl (upd nu 0 (valN le nl p)) 1 q1 (by omega) (by omega)) xE0_ok (fun _ _ _ => trivial) [0, 1, 2] rfl 0 rfl rfl rfl rfl wco_X3_figuresAt wi_X3 xd_X3_figuresAt wl_X3_45 win_X3_figuresAt wse_X3_figuresAt (by decide) (Nat.le_of_ble_eq_true rfl) dX3_readNumbers_16 ?_
            have hfl_7 := figs_le le nl (q1)
            refine x_istore (lv' := [(4, .int (nI (figs le nl q1))), (3, .int (nI 1)), (2, .int (nI q1)), (5, .int (ltA le nl (p + (figs le nl p)))), (0, .ref (a 0)), (1, .int (nI p))]) X dX3_readNumbers_19 (by decide) rfl ?_
            refine x_iload X dX3_readNumbers_21 0 rfl ?_
            refine x_iconst (v := nI 1) X dX3_readNumbers_23 (by decide) ?_
            refine x_icmp_ge_n 30 X dX3_readNumbers_24 (by decide) (by omega) (by omega) (fun c_8 => ?_) (fun c_8 => ?_)
            · -- 24 t
              have n_8 := Nat.not_lt.mpr c_8
              refine x_aloadn X dX3_readNumbers_30 4 rfl ?_
              refine x_get X wu_X3 0 rfl rfl 2 (by decide) wf_X3_15 rfl rfl dX3_readNumbers_31 ?_
              refine x_iloadn X dX3_readNumbers_34 1 rfl ?_
              refine x_aloadn X dX3_readNumbers_35 4 rfl ?_
              refine x_iloadn X dX3_readNumbers_36 2 rfl ?_
              refine x_iload X dX3_readNumbers_37 0 rfl ?_
              refine x_callVrv (As := [.int (nI q1), .int (nI (figs le nl q1))]) (rest := [.int (nI 1), .ref (a 2)]) X (c_X3_numberAt l G a le nl (upd nu 0 (valN le nl p)) 1 q1 (figs le nl q1) (by omega) (by omega) (by first | omega | assumption) (by omega)) xE0_ok (fun _ _ _ => trivial) [0, 1, 2] rfl 0 rfl rfl rfl rfl wco_X3_numberAt wi_X3 xd_X3_numberAt wl_X3_48 win_X3_numberAt wse_X3_numberAt (by decide) (Nat.le_of_ble_eq_true rfl) dX3_readNumbers_39 ?_
              refine x_callNf0 (As := [.ref (a 2), .int (nI 1), .int (valN le nl q1)]) (rest := []) (w1 := wIA G (a 2) 3 (upd (upd nu 0 (valN le nl p)) 1 (valN le nl q1))) (ws' := wTx G a le nl (upd (upd nu 0 (valN le nl p)) 1 (valN le nl q1)) 1) X (c_X4_put l G (a 2) 3 (upd nu 0 (valN le nl p)) 1 (valN le nl q1) (by omega) (by omega)) xE0_ok (fun _ _ _ => trivial) [2] rfl rfl rfl wco_X4_put wi_X4 xd_X4_put wn_X3_22 wst_X4_put (by decide) (Nat.le_of_ble_eq_true rfl) dX3_readNumbers_42 rfl (Eq.trans (b := [a 2]) rfl rfl) rfl ?_
              refine x_aloadn X dX3_readNumbers_45 4 rfl ?_
              refine x_dup X dX3_readNumbers_46 rfl ?_
              refine x_get X wu_X3 0 rfl rfl 3 (by decide) wf_X3_42 rfl rfl dX3_readNumbers_47 ?_
              refine x_iconst (v := nI 1) X dX3_readNumbers_50 (by decide) ?_
              refine x_iadd (v := nI 2) X dX3_readNumbers_51 (by decide) ?_
              refine x_put (ws' := wTx G a le nl (upd (upd nu 0 (valN le nl p)) 1 (valN le nl q1)) 2) (ty := tyX3 3) X wu_X3 tyX3_ok nmX3 0 rfl rfl 3 (by decide) wf_X3_42 rfl rfl (by decide +kernel) rfl rfl (Nat.le_of_ble_eq_true rfl) rfl dX3_readNumbers_52 ?_
              refine x_iloadn X dX3_readNumbers_55 2 rfl ?_
              refine x_iload X dX3_readNumbers_56 0 rfl ?_
              refine x_iadd (v := nI (q1 + (figs le nl q1))) X dX3_readNumbers_58 (nI_add _ _) ?_
              refine x_istoren (lv' := [(2, .int (nI (q1 + (figs le nl q1)))), (4, .int (nI (figs le nl q1))), (3, .int (nI 1)), (5, .int (ltA le nl (p + (figs le nl p)))), (0, .ref (a 0)), (1, .int (nI p))]) X dX3_readNumbers_59 (by decide) rfl ?_
              refine x_aloadn X dX3_readNumbers_60 4 rfl ?_
              refine x_iloadn X dX3_readNumbers_61 0 rfl ?_
              refine x_callVrv (As := [.int (nI (q1 + (figs le nl q1)))]) (rest := []) X (c_X3_letterAt l G a le nl (upd (upd nu 0 (valN le nl p)) 1 (valN le nl q1)) 2 (q1 + (figs le nl q1)) (by omega) (by omega)) xE0_ok (fun _ _ _ => trivial) [0, 1, 2] rfl 0 rfl rfl rfl rfl wco_X3_letterAt wi_X3 xd_X3_letterAt wl_X3_35 win_X3_letterAt wse_X3_letterAt (by decide) (Nat.le_of_ble_eq_true rfl) dX3_readNumbers_62 ?_
              refine x_istore (lv' := [(5, .int (ltA le nl (q1 + (figs le nl q1)))), (2, .int (nI (q1 + (figs le nl q1)))), (4, .int (nI (figs le nl q1))), (3, .int (nI 1)), (0, .ref (a 0)), (1, .int (nI p))]) X dX3_readNumbers_65 (by decide) rfl ?_
              refine x_iinc (v := nI (q1 + (figs le nl q1) + 1)) (lv' := [(2, .int (nI (q1 + (figs le nl q1) + 1))), (5, .int (ltA le nl (q1 + (figs le nl q1)))), (4, .int (nI (figs le nl q1))), (3, .int (nI 1)), (0, .ref (a 0)), (1, .int (nI p))]) X dX3_readNumbers_67 1 rfl (nI_1 _) (by decide) rfl ?_
              obtain ⟨q2, hq2⟩ : ∃ q : Nat, q = q1 + (figs le nl q1) + 1 := ⟨_, rfl⟩
              rw [← hq2]
              refine x_iload X dX3_readNumbers_70 1 rfl ?_
              refine x_bipush (v := nI 59) X dX3_readNumbers_72 (by decide) ?_
              refine x_icmp_ne 79 X dX3_readNumbers_74 (by decide) (fun c_9 => ?_) (fun c_9 => ?_)
              · -- 74 t
                refine x_iload X dX3_readNumbers_79 1 rfl ?_
                refine x_bipush (v := nI 44) X dX3_readNumbers_81 (by decide) ?_
                refine x_icmp_eq 89 X dX3_readNumbers_83 (by decide) (fun c_10 => ?_) (fun c_10 => ?_)
                · -- 83 t
                  refine x_iinc (v := nI 2) (lv' := [(3, .int (nI 2)), (2, .int (nI q2)), (5, .int (ltA le nl (q1 + (figs le nl q1)))), (4, .int (nI (figs le nl q1))), (0, .ref (a 0)), (1, .int (nI p))]) X dX3_readNumbers_89 3 rfl (by decide) (by decide) rfl ?_
                  refine x_goto 9 X dX3_readNumbers_92 (by decide) ?_
                  refine x_iloadn X dX3_readNumbers_9 0 rfl ?_
                  refine x_iconst (v := nI 3) X dX3_readNumbers_10 (by decide) ?_
                  refine x_icmp_ge_n 95 X dX3_readNumbers_11 (by decide) (by omega) (by omega) (fun c_11 => ?_) (fun c_11 => ?_)
                  · -- 11 t
                    exact absurd c_11 (by omega)
                  · -- 11 f
                    refine x_aloadn X dX3_readNumbers_14 4 rfl ?_
                    refine x_iloadn X dX3_readNumbers_15 1 rfl ?_
                    refine x_callVrv (As := [.int (nI q2)]) (rest := []) X (c_X3_figuresAt l G a le nl (upd (upd nu 0 (valN le nl p)) 1 (valN le nl q1)) 2 q2 (by omega) (by omega)) xE0_ok (fun _ _ _ => trivial) [0, 1, 2] rfl 0 rfl rfl rfl rfl wco_X3_figuresAt wi_X3 xd_X3_figuresAt wl_X3_45 win_X3_figuresAt wse_X3_figuresAt (by decide) (Nat.le_of_ble_eq_true rfl) dX3_readNumbers_16 ?_
                    have hfl_12 := figs_le le nl (q2)
                    refine x_istore (lv' := [(4, .int (nI (figs le nl q2))), (3, .int (nI 2)), (2, .int (nI q2)), (5, .int (ltA le nl (q1 + (figs le nl q1)))), (0, .ref (a 0)), (1, .int (nI p))]) X dX3_readNumbers_19 (by decide) rfl ?_
                    refine x_iload X dX3_readNumbers_21 0 rfl ?_
                    refine x_iconst (v := nI 1) X dX3_readNumbers_23 (by decide) ?_
                    refine x_icmp_ge_n 30 X dX3_readNumbers_24 (by decide) (by omega) (by omega) (fun c_13 => ?_) (fun c_13 => ?_)
                    · -- 24 t
                      have n_13 := Nat.not_lt.mpr c_13
                      refine x_aloadn X dX3_readNumbers_30 4 rfl ?_
                      refine x_get X wu_X3 0 rfl rfl 2 (by decide) wf_X3_15 rfl rfl dX3_readNumbers_31 ?_
                      refine x_iloadn X dX3_readNumbers_34 1 rfl ?_
                      refine x_aloadn X dX3_readNumbers_35 4 rfl ?_
                      refine x_iloadn X dX3_readNumbers_36 2 rfl ?_
                      refine x_iload X dX3_readNumbers_37 0 rfl ?_
                      refine x_callVrv (As := [.int (nI q2), .int (nI (figs le nl q2))]) (rest := [.int (nI 2), .ref (a 2)]) X (c_X3_numberAt l G a le nl (upd (upd nu 0 (valN le nl p)) 1 (valN le nl q1)) 2 q2 (figs le nl q2) (by omega) (by omega) (by first | omega | assumption) (by omega)) xE0_ok (fun _ _ _ => trivial) [0, 1, 2] rfl 0 rfl rfl rfl rfl wco_X3_numberAt wi_X3 xd_X3_numberAt wl_X3_48 win_X3_numberAt wse_X3_numberAt (by decide) (Nat.le_of_ble_eq_true rfl) dX3_readNumbers_39 ?_
                      refine x_callNf0 (As := [.ref (a 2), .int (nI 2), .int (valN le nl q2)]) (rest := []) (w1 := wIA G (a 2) 3 (upd (upd (upd nu 0 (valN le nl p)) 1 (valN le nl q1)) 2 (valN le nl q2))) (ws' := wTx G a le nl (upd (upd (upd nu 0 (valN le nl p)) 1 (valN le nl q1)) 2 (valN le nl q2)) 2) X (c_X4_put l G (a 2) 3 (upd (upd nu 0 (valN le nl p)) 1 (valN le nl q1)) 2 (valN le nl q2) (by omega) (by omega)) xE0_ok (fun _ _ _ => trivial) [2] rfl rfl rfl wco_X4_put wi_X4 xd_X4_put wn_X3_22 wst_X4_put (by decide) (Nat.le_of_ble_eq_true rfl) dX3_readNumbers_42 rfl (Eq.trans (b := [a 2]) rfl rfl) rfl ?_
                      refine x_aloadn X dX3_readNumbers_45 4 rfl ?_
                      refine x_dup X dX3_readNumbers_46 rfl ?_
                      refine x_get X wu_X3 0 rfl rfl 3 (by decide) wf_X3_42 rfl rfl dX3_readNumbers_47 ?_
                      refine x_iconst (v := nI 1) X dX3_readNumbers_50 (by decide) ?_
                      refine x_iadd (v := nI 3) X dX3_readNumbers_51 (by decide) ?_
                      refine x_put (ws' := wTx G a le nl (upd (upd (upd nu 0 (valN le nl p)) 1 (valN le nl q1)) 2 (valN le nl q2)) 3) (ty := tyX3 3) X wu_X3 tyX3_ok nmX3 0 rfl rfl 3 (by decide) wf_X3_42 rfl rfl (by decide +kernel) rfl rfl (Nat.le_of_ble_eq_true rfl) rfl dX3_readNumbers_52 ?_
                      refine x_iloadn X dX3_readNumbers_55 2 rfl ?_
                      refine x_iload X dX3_readNumbers_56 0 rfl ?_
                      refine x_iadd (v := nI (q2 + (figs le nl q2))) X dX3_readNumbers_58 (nI_add _ _) ?_
                      refine x_istoren (lv' := [(2, .int (nI (q2 + (figs le nl q2)))), (4, .int (nI (figs le nl q2))), (3, .int (nI 2)), (5, .int (ltA le nl (q1 + (figs le nl q1)))), (0, .ref (a 0)), (1, .int (nI p))]) X dX3_readNumbers_59 (by decide) rfl ?_
                      refine x_aloadn X dX3_readNumbers_60 4 rfl ?_
                      refine x_iloadn X dX3_readNumbers_61 0 rfl ?_
                      refine x_callVrv (As := [.int (nI (q2 + (figs le nl q2)))]) (rest := []) X (c_X3_letterAt l G a le nl (upd (upd (upd nu 0 (valN le nl p)) 1 (valN le nl q1)) 2 (valN le nl q2)) 3 (q2 + (figs le nl q2)) (by omega) (by omega)) xE0_ok (fun _ _ _ => trivial) [0, 1, 2] rfl 0 rfl rfl rfl rfl wco_X3_letterAt wi_X3 xd_X3_letterAt wl_X3_35 win_X3_letterAt wse_X3_letterAt (by decide) (Nat.le_of_ble_eq_true rfl) dX3_readNumbers_62 ?_
                      refine x_istore (lv' := [(5, .int (ltA le nl (q2 + (figs le nl q2)))), (2, .int (nI (q2 + (figs le nl q2)))), (4, .int (nI (figs le nl q2))), (3, .int (nI 2)), (0, .ref (a 0)), (1, .int (nI p))]) X dX3_readNumbers_65 (by decide) rfl ?_
                      refine x_iinc (v := nI (q2 + (figs le nl q2) + 1)) (lv' := [(2, .int (nI (q2 + (figs le nl q2) + 1))), (5, .int (ltA le nl (q2 + (figs le nl q2)))), (4, .int (nI (figs le nl q2))), (3, .int (nI 2)), (0, .ref (a 0)), (1, .int (nI p))]) X dX3_readNumbers_67 1 rfl (nI_1 _) (by decide) rfl ?_
                      obtain ⟨q3, hq3⟩ : ∃ q : Nat, q = q2 + (figs le nl q2) + 1 := ⟨_, rfl⟩
                      rw [← hq3]
                      refine x_iload X dX3_readNumbers_70 1 rfl ?_
                      refine x_bipush (v := nI 59) X dX3_readNumbers_72 (by decide) ?_
                      refine x_icmp_ne 79 X dX3_readNumbers_74 (by decide) (fun c_14 => ?_) (fun c_14 => ?_)
                      · -- 74 t
                        refine x_iload X dX3_readNumbers_79 1 rfl ?_
                        refine x_bipush (v := nI 44) X dX3_readNumbers_81 (by decide) ?_
                        refine x_icmp_eq 89 X dX3_readNumbers_83 (by decide) (fun c_15 => ?_) (fun c_15 => ?_)
                        · -- 83 t
                          refine x_iinc (v := nI 3) (lv' := [(3, .int (nI 3)), (2, .int (nI q3)), (5, .int (ltA le nl (q2 + (figs le nl q2)))), (4, .int (nI (figs le nl q2))), (0, .ref (a 0)), (1, .int (nI p))]) X dX3_readNumbers_89 3 rfl (by decide) (by decide) rfl ?_
                          refine x_goto 9 X dX3_readNumbers_92 (by decide) ?_
                          refine x_iloadn X dX3_readNumbers_9 0 rfl ?_
                          refine x_iconst (v := nI 3) X dX3_readNumbers_10 (by decide) ?_
                          refine x_icmp_ge_n 95 X dX3_readNumbers_11 (by decide) (by omega) (by omega) (fun c_16 => ?_) (fun c_16 => ?_)
                          · -- 11 t
                            refine x_bipush (v := (-4)) X dX3_readNumbers_95 (by decide) ?_
                            exact x_ret X dX3_readNumbers_97 ⟨ret_i (by rw [rdN_c c_3 c_4 c_5, ← hq1, rdN_c c_8 c_9 c_10, ← hq2, rdN_c c_13 c_14 c_15, ← hq3, rdN_0]; rfl), ⟨(upd (upd (upd nu 0 (valN le nl p)) 1 (valN le nl q1)) 2 (valN le nl q2)), 3, rfl, by rw [rdN_c c_3 c_4 c_5, ← hq1, rdN_c c_8 c_9 c_10, ← hq2, rdN_c c_13 c_14 c_15, ← hq3, rdN_0]; intro h; simp [bump] at h, by rw [rdN_c c_3 c_4 c_5, ← hq1, rdN_c c_8 c_9 c_10, ← hq2, rdN_c c_13 c_14 c_15, ← hq3, rdN_0]; intro h; simp [bump] at h, by rw [rdN_c c_3 c_4 c_5, ← hq1, rdN_c c_8 c_9 c_10, ← hq2, rdN_c c_13 c_14 c_15, ← hq3, rdN_0]; intro h; simp [bump] at h, by rw [rdN_c c_3 c_4 c_5, ← hq1, rdN_c c_8 c_9 c_10, ← hq2, rdN_c c_13 c_14 c_15, ← hq3, rdN_0]; intro h; simp [bump] at h⟩, by decide, by decide⟩
                          · -- 11 f
                            exact absurd c_16 (by omega)
                        · -- 83 f
                          refine x_bipush (v := (-4)) X dX3_readNumbers_86 (by decide) ?_
                          exact x_ret X dX3_readNumbers_88 ⟨ret_i (by rw [rdN_c c_3 c_4 c_5, ← hq1, rdN_c c_8 c_9 c_10, ← hq2, rdN_b c_13 c_14 c_15]; rfl), ⟨(upd (upd (upd nu 0 (valN le nl p)) 1 (valN le nl q1)) 2 (valN le nl q2)), 3, rfl, by rw [rdN_c c_3 c_4 c_5, ← hq1, rdN_c c_8 c_9 c_10, ← hq2, rdN_b c_13 c_14 c_15]; intro h; simp [bump] at h, by rw [rdN_c c_3 c_4 c_5, ← hq1, rdN_c c_8 c_9 c_10, ← hq2, rdN_b c_13 c_14 c_15]; intro h; simp [bump] at h, by rw [rdN_c c_3 c_4 c_5, ← hq1, rdN_c c_8 c_9 c_10, ← hq2, rdN_b c_13 c_14 c_15]; intro h; simp [bump] at h, by rw [rdN_c c_3 c_4 c_5, ← hq1, rdN_c c_8 c_9 c_10, ← hq2, rdN_b c_13 c_14 c_15]; intro h; simp [bump] at h⟩, by decide, by decide⟩
                      · -- 74 f
                        refine x_iloadn X dX3_readNumbers_77 0 rfl ?_
                        exact x_ret X dX3_readNumbers_78 ⟨ret_i (by rw [rdN_c c_3 c_4 c_5, ← hq1, rdN_c c_8 c_9 c_10, ← hq2, rdN_s c_13 c_14, ← hq3]; rfl), ⟨(upd (upd (upd nu 0 (valN le nl p)) 1 (valN le nl q1)) 2 (valN le nl q2)), 3, rfl, by rw [rdN_c c_3 c_4 c_5, ← hq1, rdN_c c_8 c_9 c_10, ← hq2, rdN_s c_13 c_14, ← hq3]; intro _; rfl, by rw [rdN_c c_3 c_4 c_5, ← hq1, rdN_c c_8 c_9 c_10, ← hq2, rdN_s c_13 c_14, ← hq3]; intro _; rfl, by rw [rdN_c c_3 c_4 c_5, ← hq1, rdN_c c_8 c_9 c_10, ← hq2, rdN_s c_13 c_14, ← hq3]; intro _; simp only [nx, ← hq1]; rfl, by rw [rdN_c c_3 c_4 c_5, ← hq1, rdN_c c_8 c_9 c_10, ← hq2, rdN_s c_13 c_14, ← hq3]; intro _; simp only [nx, ← hq1, ← hq2]; rfl⟩, by decide, by decide⟩
                    · -- 24 f
                      refine x_bipush (v := (-4)) X dX3_readNumbers_27 (by decide) ?_
                      exact x_ret X dX3_readNumbers_29 ⟨ret_i (by rw [rdN_c c_3 c_4 c_5, ← hq1, rdN_c c_8 c_9 c_10, ← hq2, rdN_f c_13]; rfl), ⟨(upd (upd nu 0 (valN le nl p)) 1 (valN le nl q1)), 2, rfl, by rw [rdN_c c_3 c_4 c_5, ← hq1, rdN_c c_8 c_9 c_10, ← hq2, rdN_f c_13]; intro h; simp [bump] at h, by rw [rdN_c c_3 c_4 c_5, ← hq1, rdN_c c_8 c_9 c_10, ← hq2, rdN_f c_13]; intro h; simp [bump] at h, by rw [rdN_c c_3 c_4 c_5, ← hq1, rdN_c c_8 c_9 c_10, ← hq2, rdN_f c_13]; intro h; simp [bump] at h, by rw [rdN_c c_3 c_4 c_5, ← hq1, rdN_c c_8 c_9 c_10, ← hq2, rdN_f c_13]; intro h; simp [bump] at h⟩, by decide, by decide⟩
                · -- 83 f
                  refine x_bipush (v := (-4)) X dX3_readNumbers_86 (by decide) ?_
                  exact x_ret X dX3_readNumbers_88 ⟨ret_i (by rw [rdN_c c_3 c_4 c_5, ← hq1, rdN_b c_8 c_9 c_10]; rfl), ⟨(upd (upd nu 0 (valN le nl p)) 1 (valN le nl q1)), 2, rfl, by rw [rdN_c c_3 c_4 c_5, ← hq1, rdN_b c_8 c_9 c_10]; intro h; simp [bump] at h, by rw [rdN_c c_3 c_4 c_5, ← hq1, rdN_b c_8 c_9 c_10]; intro h; simp [bump] at h, by rw [rdN_c c_3 c_4 c_5, ← hq1, rdN_b c_8 c_9 c_10]; intro h; simp [bump] at h, by rw [rdN_c c_3 c_4 c_5, ← hq1, rdN_b c_8 c_9 c_10]; intro h; simp [bump] at h⟩, by decide, by decide⟩
              · -- 74 f
                refine x_iloadn X dX3_readNumbers_77 0 rfl ?_
                exact x_ret X dX3_readNumbers_78 ⟨ret_i (by rw [rdN_c c_3 c_4 c_5, ← hq1, rdN_s c_8 c_9, ← hq2]; rfl), ⟨(upd (upd nu 0 (valN le nl p)) 1 (valN le nl q1)), 2, rfl, by rw [rdN_c c_3 c_4 c_5, ← hq1, rdN_s c_8 c_9, ← hq2]; intro _; rfl, by rw [rdN_c c_3 c_4 c_5, ← hq1, rdN_s c_8 c_9, ← hq2]; intro _; rfl, by rw [rdN_c c_3 c_4 c_5, ← hq1, rdN_s c_8 c_9, ← hq2]; intro _; simp only [nx, ← hq1]; rfl, by rw [rdN_c c_3 c_4 c_5, ← hq1, rdN_s c_8 c_9, ← hq2]; intro h; simp [bump] at h⟩, by decide, by decide⟩
            · -- 24 f
              refine x_bipush (v := (-4)) X dX3_readNumbers_27 (by decide) ?_
              exact x_ret X dX3_readNumbers_29 ⟨ret_i (by rw [rdN_c c_3 c_4 c_5, ← hq1, rdN_f c_8]; rfl), ⟨(upd nu 0 (valN le nl p)), 1, rfl, by rw [rdN_c c_3 c_4 c_5, ← hq1, rdN_f c_8]; intro h; simp [bump] at h, by rw [rdN_c c_3 c_4 c_5, ← hq1, rdN_f c_8]; intro h; simp [bump] at h, by rw [rdN_c c_3 c_4 c_5, ← hq1, rdN_f c_8]; intro h; simp [bump] at h, by rw [rdN_c c_3 c_4 c_5, ← hq1, rdN_f c_8]; intro h; simp [bump] at h⟩, by decide, by decide⟩
        · -- 83 f
          refine x_bipush (v := (-4)) X dX3_readNumbers_86 (by decide) ?_
          exact x_ret X dX3_readNumbers_88 ⟨ret_i (by rw [rdN_b c_3 c_4 c_5]; rfl), ⟨(upd nu 0 (valN le nl p)), 1, rfl, by rw [rdN_b c_3 c_4 c_5]; intro h; simp [bump] at h, by rw [rdN_b c_3 c_4 c_5]; intro h; simp [bump] at h, by rw [rdN_b c_3 c_4 c_5]; intro h; simp [bump] at h, by rw [rdN_b c_3 c_4 c_5]; intro h; simp [bump] at h⟩, by decide, by decide⟩
      · -- 74 f
        refine x_iloadn X dX3_readNumbers_77 0 rfl ?_
        exact x_ret X dX3_readNumbers_78 ⟨ret_i (by rw [rdN_s c_3 c_4, ← hq1]; rfl), ⟨(upd nu 0 (valN le nl p)), 1, rfl, by rw [rdN_s c_3 c_4, ← hq1]; intro _; rfl, by rw [rdN_s c_3 c_4, ← hq1]; intro _; rfl, by rw [rdN_s c_3 c_4, ← hq1]; intro h; simp [bump] at h, by rw [rdN_s c_3 c_4, ← hq1]; intro h; simp [bump] at h⟩, by decide, by decide⟩
    · -- 24 f
      refine x_bipush (v := (-4)) X dX3_readNumbers_27 (by decide) ?_
      exact x_ret X dX3_readNumbers_29 ⟨ret_i (by rw [rdN_f c_3]; rfl), ⟨nu, 0, rfl, by rw [rdN_f c_3]; intro h; simp [bump] at h, by rw [rdN_f c_3]; intro h; simp [bump] at h, by rw [rdN_f c_3]; intro h; simp [bump] at h, by rw [rdN_f c_3]; intro h; simp [bump] at h⟩, by decide, by decide⟩
set_option maxRecDepth 100000 in
set_option maxHeartbeats 4000000 in
/-- X3_tellItem -/
theorem c_X3_tellItem (l : Launch) (G : xG) (a : Nat → Nat) (le : Nat → Int32) (nl : Nat) (nu : Nat → Int32) (nc : Nat) (b : Nat → Nat) (s : xS) (x : Int32) (hs : s.1 ≤ 6) (hc : nc < 2 ^ 31) : xM l G xE0 yX3_tellItem cX3_tellItem 3 (some .boolean) 3 68 0 0 [.ref (a 0), .int x, .ref (b 0)] (xJ [wTx G a le nl nu nc, wCq G b s]) (some (.int (bI (itB x nc (nu 0) (nu 1) (nu 2) s)))) (fun w2 => w2 = xJ [wTx G a le nl nu nc, wCq G b (itS x nc (nu 0) (nu 1) (nu 2) s)]) := by
  refine x_entry (by decide +kernel) (Nat.le_of_ble_eq_true rfl) rfl ⟨_, rfl, bI_narrow _⟩ (fun K X => ?_)
  refine x_iloadn X dX3_tellItem_0 1 rfl ?_
  by_cases c_1 : x = 97
  · -- case 97
    refine x_int c_1 ?_
    refine x_lookup (off := 117) 118 X dX3_tellItem_1 (by decide) (by decide) (by decide) ?_
    refine x_aloadn X dX3_tellItem_118 0 rfl ?_
    refine x_get X wu_X3 0 rfl rfl 3 (by decide) wf_X3_42 rfl rfl dX3_tellItem_119 ?_
    refine x_iconst (v := nI 1) X dX3_tellItem_122 (by decide) ?_
    refine x_icmp_ne_n 145 X dX3_tellItem_123 (by decide) (by omega) (by omega) (fun c_2 => ?_) (fun c_2 => ?_)
    · -- 123 t
      refine x_iconst (v := nI 0) X dX3_tellItem_145 (by decide) ?_
      exact x_ret X dX3_tellItem_146 ⟨ret_i (by rw [show itB x nc (nu 0) (nu 1) (nu 2) s = false from by simp [itB, c_1, c_2]]; rfl), (by simp [itS, c_1, c_2]), by decide, by decide⟩
    · -- 123 f
      refine x_aloadn X dX3_tellItem_126 2 rfl ?_
      refine x_aloadn X dX3_tellItem_127 0 rfl ?_
      refine x_get X wu_X3 0 rfl rfl 2 (by decide) wf_X3_15 rfl rfl dX3_tellItem_128 ?_
      refine x_iconst (v := nI 0) X dX3_tellItem_131 (by decide) ?_
      refine x_callNrv (As := [.ref (a 2), .int (nI 0)]) (rest := [.ref (b 0)]) X (c_X4_at l G (a 2) 3 nu 0 (by omega) (by omega)) xE0_ok (fun _ _ _ => trivial) [2] rfl rfl rfl wco_X4_at wi_X4 xd_X4_at wn_X3_52 wst_X4_at (by decide) (Nat.le_of_ble_eq_true rfl) dX3_tellItem_132 ?_
      refine x_callVfv (As := [.int (nu 0)]) (rest := []) (w1 := wCq G b (tellQ s (nu 0))) (ws' := xJ [wTx G a le nl nu nc, wCq G b (tellQ s (nu 0))]) X (c_X0_tellPapers l G b s (nu 0)) xE0_ok (fun _ _ _ => trivial) [3, 4, 5, 6, 7] rfl 0 rfl rfl rfl rfl wco_X0_tellPapers wi_X0 xd_X0_tellPapers wl_X3_64 win_X0_tellPapers wse_X0_tellPapers (by decide) (Nat.le_of_ble_eq_true rfl) dX3_tellItem_135 rfl (Eq.trans (b := [b 0, b 1, b 2, b 3, b 4]) rfl rfl) rfl ?_
      refine x_ifeq_b 145 X dX3_tellItem_138 (by decide) (fun c_3 => ?_) (fun c_3 => ?_)
      · -- 138 t
        refine x_iconst (v := nI 0) X dX3_tellItem_145 (by decide) ?_
        exact x_ret X dX3_tellItem_146 ⟨ret_i (by rw [show itB x nc (nu 0) (nu 1) (nu 2) s = false from by simp [itB, c_1, (eq_true c_2), c_3]]; rfl), (by simp [itS, c_1, (eq_true c_2), c_3]), by decide, by decide⟩
      · -- 138 f
        refine x_iconst (v := nI 1) X dX3_tellItem_141 (by decide) ?_
        refine x_goto 146 X dX3_tellItem_142 (by decide) ?_
        exact x_ret X dX3_tellItem_146 ⟨ret_i (by rw [show itB x nc (nu 0) (nu 1) (nu 2) s = true from by simp [itB, c_1, (eq_true c_2), c_3]]; rfl), (by simp [itS, c_1, (eq_true c_2), c_3]), by decide, by decide⟩
  by_cases c_4 : x = 112
  · -- case 112
    refine x_int c_4 ?_
    refine x_lookup (off := 35) 36 X dX3_tellItem_1 (by decide) (by decide) (by decide) ?_
    refine x_aloadn X dX3_tellItem_36 0 rfl ?_
    refine x_get X wu_X3 0 rfl rfl 3 (by decide) wf_X3_42 rfl rfl dX3_tellItem_37 ?_
    refine x_iconst (v := nI 2) X dX3_tellItem_40 (by decide) ?_
    refine x_icmp_ne_n 71 X dX3_tellItem_41 (by decide) (by omega) (by omega) (fun c_5 => ?_) (fun c_5 => ?_)
    · -- 41 t
      refine x_iconst (v := nI 0) X dX3_tellItem_71 (by decide) ?_
      exact x_ret X dX3_tellItem_72 ⟨ret_i (by rw [show itB x nc (nu 0) (nu 1) (nu 2) s = false from by simp [itB, c_1, c_4, c_5]]; rfl), (by simp [itS, c_1, c_4, c_5]), by decide, by decide⟩
    · -- 41 f
      refine x_aloadn X dX3_tellItem_44 2 rfl ?_
      refine x_aloadn X dX3_tellItem_45 0 rfl ?_
      refine x_get X wu_X3 0 rfl rfl 2 (by decide) wf_X3_15 rfl rfl dX3_tellItem_46 ?_
      refine x_iconst (v := nI 0) X dX3_tellItem_49 (by decide) ?_
      refine x_callNrv (As := [.ref (a 2), .int (nI 0)]) (rest := [.ref (b 0)]) X (c_X4_at l G (a 2) 3 nu 0 (by omega) (by omega)) xE0_ok (fun _ _ _ => trivial) [2] rfl rfl rfl wco_X4_at wi_X4 xd_X4_at wn_X3_52 wst_X4_at (by decide) (Nat.le_of_ble_eq_true rfl) dX3_tellItem_50 ?_
      refine x_aloadn X dX3_tellItem_53 0 rfl ?_
      refine x_get X wu_X3 0 rfl rfl 2 (by decide) wf_X3_15 rfl rfl dX3_tellItem_54 ?_
      refine x_iconst (v := nI 1) X dX3_tellItem_57 (by decide) ?_
      refine x_callNrv (As := [.ref (a 2), .int (nI 1)]) (rest := [.int (nu 0), .ref (b 0)]) X (c_X4_at l G (a 2) 3 nu 1 (by omega) (by omega)) xE0_ok (fun _ _ _ => trivial) [2] rfl rfl rfl wco_X4_at wi_X4 xd_X4_at wn_X3_52 wst_X4_at (by decide) (Nat.le_of_ble_eq_true rfl) dX3_tellItem_58 ?_
      refine x_callVfv (As := [.int (nu 0), .int (nu 1)]) (rest := []) (w1 := wCq G b (tellP s (nu 0) (nu 1))) (ws' := xJ [wTx G a le nl nu nc, wCq G b (tellP s (nu 0) (nu 1))]) X (c_X0_tellPerson l G b s (nu 0) (nu 1) (by omega)) xE0_ok (fun _ _ _ => trivial) [3, 4, 5, 6, 7] rfl 0 rfl rfl rfl rfl wco_X0_tellPerson wi_X0 xd_X0_tellPerson wl_X3_56 win_X0_tellPerson wse_X0_tellPerson (by decide) (Nat.le_of_ble_eq_true rfl) dX3_tellItem_61 rfl (Eq.trans (b := [b 0, b 1, b 2, b 3, b 4]) rfl rfl) rfl ?_
      refine x_ifeq_b 71 X dX3_tellItem_64 (by decide) (fun c_6 => ?_) (fun c_6 => ?_)
      · -- 64 t
        refine x_iconst (v := nI 0) X dX3_tellItem_71 (by decide) ?_
        exact x_ret X dX3_tellItem_72 ⟨ret_i (by rw [show itB x nc (nu 0) (nu 1) (nu 2) s = false from by simp [itB, c_1, c_4, (eq_true c_5), c_6]]; rfl), (by simp [itS, c_1, c_4, (eq_true c_5), c_6]), by decide, by decide⟩
      · -- 64 f
        refine x_iconst (v := nI 1) X dX3_tellItem_67 (by decide) ?_
        refine x_goto 72 X dX3_tellItem_68 (by decide) ?_
        exact x_ret X dX3_tellItem_72 ⟨ret_i (by rw [show itB x nc (nu 0) (nu 1) (nu 2) s = true from by simp [itB, c_1, c_4, (eq_true c_5), c_6]]; rfl), (by simp [itS, c_1, c_4, (eq_true c_5), c_6]), by decide, by decide⟩
  by_cases c_7 : x = 118
  · -- case 118
    refine x_int c_7 ?_
    refine x_lookup (off := 72) 73 X dX3_tellItem_1 (by decide) (by decide) (by decide) ?_
    refine x_aloadn X dX3_tellItem_73 0 rfl ?_
    refine x_get X wu_X3 0 rfl rfl 3 (by decide) wf_X3_42 rfl rfl dX3_tellItem_74 ?_
    refine x_iconst (v := nI 3) X dX3_tellItem_77 (by decide) ?_
    refine x_icmp_ne_n 116 X dX3_tellItem_78 (by decide) (by omega) (by omega) (fun c_8 => ?_) (fun c_8 => ?_)
    · -- 78 t
      refine x_iconst (v := nI 0) X dX3_tellItem_116 (by decide) ?_
      exact x_ret X dX3_tellItem_117 ⟨ret_i (by rw [show itB x nc (nu 0) (nu 1) (nu 2) s = false from by simp [itB, c_1, c_4, c_7, c_8]]; rfl), (by simp [itS, c_1, c_4, c_7, c_8]), by decide, by decide⟩
    · -- 78 f
      refine x_aloadn X dX3_tellItem_81 2 rfl ?_
      refine x_aloadn X dX3_tellItem_82 0 rfl ?_
      refine x_get X wu_X3 0 rfl rfl 2 (by decide) wf_X3_15 rfl rfl dX3_tellItem_83 ?_
      refine x_iconst (v := nI 0) X dX3_tellItem_86 (by decide) ?_
      refine x_callNrv (As := [.ref (a 2), .int (nI 0)]) (rest := [.ref (b 0)]) X (c_X4_at l G (a 2) 3 nu 0 (by omega) (by omega)) xE0_ok (fun _ _ _ => trivial) [2] rfl rfl rfl wco_X4_at wi_X4 xd_X4_at wn_X3_52 wst_X4_at (by decide) (Nat.le_of_ble_eq_true rfl) dX3_tellItem_87 ?_
      refine x_aloadn X dX3_tellItem_90 0 rfl ?_
      refine x_get X wu_X3 0 rfl rfl 2 (by decide) wf_X3_15 rfl rfl dX3_tellItem_91 ?_
      refine x_iconst (v := nI 1) X dX3_tellItem_94 (by decide) ?_
      refine x_callNrv (As := [.ref (a 2), .int (nI 1)]) (rest := [.int (nu 0), .ref (b 0)]) X (c_X4_at l G (a 2) 3 nu 1 (by omega) (by omega)) xE0_ok (fun _ _ _ => trivial) [2] rfl rfl rfl wco_X4_at wi_X4 xd_X4_at wn_X3_52 wst_X4_at (by decide) (Nat.le_of_ble_eq_true rfl) dX3_tellItem_95 ?_
      refine x_aloadn X dX3_tellItem_98 0 rfl ?_
      refine x_get X wu_X3 0 rfl rfl 2 (by decide) wf_X3_15 rfl rfl dX3_tellItem_99 ?_
      refine x_iconst (v := nI 2) X dX3_tellItem_102 (by decide) ?_
      refine x_callNrv (As := [.ref (a 2), .int (nI 2)]) (rest := [.int (nu 1), .int (nu 0), .ref (b 0)]) X (c_X4_at l G (a 2) 3 nu 2 (by omega) (by omega)) xE0_ok (fun _ _ _ => trivial) [2] rfl rfl rfl wco_X4_at wi_X4 xd_X4_at wn_X3_52 wst_X4_at (by decide) (Nat.le_of_ble_eq_true rfl) dX3_tellItem_103 ?_
      refine x_callVfv (As := [.int (nu 0), .int (nu 1), .int (nu 2)]) (rest := []) (w1 := wCq G b (tellV s (nu 0) (nu 1) (nu 2))) (ws' := xJ [wTx G a le nl nu nc, wCq G b (tellV s (nu 0) (nu 1) (nu 2))]) X (c_X0_tellView l G b s (nu 0) (nu 1) (nu 2) (by omega)) xE0_ok (fun _ _ _ => trivial) [3, 4, 5, 6, 7] rfl 0 rfl rfl rfl rfl wco_X0_tellView wi_X0 xd_X0_tellView wl_X3_60 win_X0_tellView wse_X0_tellView (by decide) (Nat.le_of_ble_eq_true rfl) dX3_tellItem_106 rfl (Eq.trans (b := [b 0, b 1, b 2, b 3, b 4]) rfl rfl) rfl ?_
      refine x_ifeq_b 116 X dX3_tellItem_109 (by decide) (fun c_9 => ?_) (fun c_9 => ?_)
      · -- 109 t
        refine x_iconst (v := nI 0) X dX3_tellItem_116 (by decide) ?_
        exact x_ret X dX3_tellItem_117 ⟨ret_i (by rw [show itB x nc (nu 0) (nu 1) (nu 2) s = false from by simp [itB, c_1, c_4, c_7, (eq_true c_8), c_9]]; rfl), (by simp [itS, c_1, c_4, c_7, (eq_true c_8), c_9]), by decide, by decide⟩
      · -- 109 f
        refine x_iconst (v := nI 1) X dX3_tellItem_112 (by decide) ?_
        refine x_goto 117 X dX3_tellItem_113 (by decide) ?_
        exact x_ret X dX3_tellItem_117 ⟨ret_i (by rw [show itB x nc (nu 0) (nu 1) (nu 2) s = true from by simp [itB, c_1, c_4, c_7, (eq_true c_8), c_9]]; rfl), (by simp [itS, c_1, c_4, c_7, (eq_true c_8), c_9]), by decide, by decide⟩
  refine x_lookup (off := 146) 147 X dX3_tellItem_1 (by decide) (by show Op.lookupswitch.offset [(97, 117), (112, 35), (118, 72)] 146 x.toInt = 146; rw [lv_osw (a := 97) c_1 rfl, lv_osw (a := 112) c_4 rfl, lv_osw (a := 118) c_7 rfl]; rfl) (by decide) ?_
  refine x_iconst (v := nI 0) X dX3_tellItem_147 (by decide) ?_
  exact x_ret X dX3_tellItem_148 ⟨ret_i (by rw [show itB x nc (nu 0) (nu 1) (nu 2) s = false from by simp [itB, c_1, c_4, c_7]]; rfl), (by simp [itS, c_1, c_4, c_7]), by decide, by decide⟩
end
section
/-! ===== the whole reading of THE TEXT; the shelves ===== -/
abbrev wCs8 (G : xG) (ad : Nat → Nat → Nat) (cs : Nat → xS) : va_W := wCq G (ad 0) (cs 0) ++ wCq G (ad 1) (cs 1) ++ wCq G (ad 2) (cs 2) ++ wCq G (ad 3) (cs 3) ++ wCq G (ad 4) (cs 4) ++ wCq G (ad 5) (cs 5) ++ wCq G (ad 6) (cs 6) ++ wCq G (ad 7) (cs 7)
abbrev wCs2 (G : xG) (ad : Nat → Nat → Nat) (cs : Nat → xS) : va_W := wCq G (ad 0) (cs 0) ++ wCq G (ad 1) (cs 1)
abbrev wSh8 (G : xG) (a : Nat → Nat) (ad : Nat → Nat → Nat) (lw sz : Nat) : va_W := [(a 0, .inr (1, [.ref (a 1), .int (nI lw), .int (nI sz)])), (a 1, .inl (G.2.2, 8, .inr (.inr (.inr (.inr (fun i => some (ad i 0)))))))]
abbrev wSh2 (G : xG) (a : Nat → Nat) (ad : Nat → Nat → Nat) (lw sz : Nat) : va_W := [(a 0, .inr (1, [.ref (a 1), .int (nI lw), .int (nI sz)])), (a 1, .inl (G.2.2, 2, .inr (.inr (.inr (.inr (fun i => some (ad i 0)))))))]
def updS (cs : Nat → xS) (i : Nat) (s : xS) : Nat → xS := fun j => if j = i then s else cs j
section XR
variable {l : Launch} {G : xG} {E : xE} {own nm : String} {cc : ByteArray} {nL : Nat} {R : Room} {Z : Option Value → va_W → Nat → Nat → Prop} {K : xKt} {ws : va_W} {k z pc : Nat} {lv : xL} {st : List Value}
theorem x_ifnonnullN {off : Int} (X : xR l G E own nm cc nL R Z K) (hdg : decode cc pc = .ok (.ifnonnull off, 3)) (kk : K ws k z (pc + 3) lv st) : K ws k z pc lv (.null :: st) := by
  obtain ⟨p, e, s, m, args, below, meth, c, Q, A, hx, hb, hml, hown, hts, hK, hE, hA, hnm, rfl, hZ⟩ := X
  intro H locs ls hP hD hS hl
  exact lv_ifnonnullN hx hb hdg (kk H locs ls hP hD hS hl)
theorem x_aloadnN {k0 : Fin 4} (X : xR l G E own nm cc nL R Z K) (hdg : decode cc pc = .ok (.aload_n k0, 1)) (j : Nat) (hj : lv[j]? = some ((k0 : Nat), .null)) (kk : K ws k z (pc + 1) lv (.null :: st)) : K ws k z pc lv st := by
  obtain ⟨p, e, s, m, args, below, meth, c, Q, A, hx, hb, hml, hown, hts, hK, hE, hA, hnm, rfl, hZ⟩ := X
  intro H locs ls hP hD hS hl
  exact lv_aload_nN hx hb hdg rfl (lv_at hl j hj) (kk H locs ls hP hD hS hl)
theorem x_astorenN {k0 : Fin 4} {lv' : xL} (X : xR l G E own nm cc nL R Z K) (hdg : decode cc pc = .ok (.astore_n k0, 1)) (hn : (k0 : Nat) < nL) (hl' : ((k0 : Nat), Value.null) :: lv.filter (fun q => !(q.1 == (k0 : Nat)) && !(q.1 + 1 == (k0 : Nat) && q.2.category == 2)) = lv') (kk : K ws k z (pc + 1) lv' st) : K ws k z pc lv (.null :: st) := by
  obtain ⟨p, e, s, m, args, below, meth, c, Q, A, hx, hb, hml, hown, hts, hK, hE, hA, hnm, rfl, hZ⟩ := X
  intro H locs ls hP hD hS hl
  exact lv_astore_nN hx hb hdg rfl hl hn hl' (fun ls1 h1 => kk H locs ls1 hP hD hS h1)
end XR
/-- PERSONS stay 6 at most while a TEXT is read -/
theorem itS_le {x : Int32} {c : Nat} {v0 v1 v2 : Int32} {s : xS} (h : s.1 ≤ 6) : (itS x c v0 v1 v2 s).1 ≤ 6 := by
  simp only [itS, tellQ, tellP, tellV]
  split
  · split
    · split <;> exact h
    · exact h
  · split
    · split
      · split
        · rename_i h2
          simp [tellPok] at h2
          show s.1 + 1 ≤ 6
          omega
        · exact h
      · exact h
    · split
      · split
        · split <;> exact h
        · exact h
      · exact h
theorem rdN_c3 (le : Nat → Int32) (nl p : Nat) : (rdN le nl 3 p).1 ≤ 3 := by
  have h0 : ∀ k p, (rdN le nl k p).1 ≤ k := by
    intro k
    induction k with
    | zero => intro p; exact Nat.le_refl 0
    | succ k ih =>
      intro p
      simp only [rdN, bump]
      have := ih (p + figs le nl p + 1)
      split
      · exact Nat.zero_le _
      · split
        · show 1 ≤ k + 1; omega
        · split
          · split
            · exact Nat.zero_le _
            · show (rdN le nl k (p + figs le nl p + 1)).1 + 1 ≤ k + 1; omega
          · exact Nat.zero_le _
  exact h0 3 p
theorem rdB_no {r : Nat × Nat} (h : rdB r = (-4)) (hr : r.2 < 2 ^ 31) : r.1 = 0 := by
  unfold rdB at h
  split at h
  · assumption
  · exfalso
    have h2 := congrArg Int32.toInt h
    rw [nI_toInt hr] at h2
    have e : (-4 : Int32).toInt = -4 := by decide
    omega
theorem rdB_yes {r : Nat × Nat} (h : ¬ rdB r = (-4)) : r.1 ≠ 0 ∧ rdB r = nI r.2 := by
  unfold rdB at h ⊢
  split at h
  · exact absurd rfl h
  · rename_i h1
    exact ⟨h1, if_neg h1⟩
theorem rdN_le3 (le : Nat → Int32) (nl p : Nat) (hnl : nl ≤ 200) : (rdN le nl 3 p).2 < 2 ^ 31 := by
  by_cases h : (rdN le nl 3 p).1 = 0
  · have h0 : ∀ k p, (rdN le nl k p).1 = 0 → (rdN le nl k p).2 = 0 := by
      intro k
      induction k with
      | zero => intro p _; rfl
      | succ k ih =>
        intro p
        simp only [rdN, bump]
        split
        · intro _; rfl
        · split
          · intro h; simp at h
          · split
            · split
              · intro _; rfl
              · intro h; simp at h
            · intro _; rfl
    rw [h0 3 p h]; decide
  · have := (rdN_le le nl 3 p h).1
    omega
theorem prs_end {le : Nat → Int32} {nl k p : Nat} {s : xS} (h : nl ≤ p) : prs le nl k p s = ((-4), s) := by
  cases k with
  | zero => rfl
  | succ k => rw [prs, if_neg (by omega)]
theorem prs_no {le : Nat → Int32} {nl k p : Nat} {s : xS} (h : p < nl) (h1 : (rdN le nl 3 (p + 1)).1 = 0) : prs le nl (k + 1) p s = (nI p, s) := by rw [prs, if_pos h, if_pos h1]
theorem prs_bad {le : Nat → Int32} {nl k p : Nat} {s : xS} {v0 v1 v2 : Int32} (h : p < nl) (h1 : ¬ (rdN le nl 3 (p + 1)).1 = 0) (g0 : 1 ≤ (rdN le nl 3 (p + 1)).1 → v0 = valN le nl (p + 1)) (g1 : 2 ≤ (rdN le nl 3 (p + 1)).1 → v1 = valN le nl (nx le nl (p + 1))) (g2 : 3 ≤ (rdN le nl 3 (p + 1)).1 → v2 = valN le nl (nx le nl (nx le nl (p + 1)))) (hb : itB (ltA le nl p) (rdN le nl 3 (p + 1)).1 v0 v1 v2 s = false) :
    prs le nl (k + 1) p s = (nI p, itS (ltA le nl p) (rdN le nl 3 (p + 1)).1 v0 v1 v2 s) := by
  obtain ⟨e1, e2⟩ := it_cg (x := ltA le nl p) (s := s) g0 g1 g2
  rw [prs, if_pos h, if_neg h1, ← e1, ← e2, hb]
  rfl
theorem prs_ok {le : Nat → Int32} {nl k p : Nat} {s : xS} {v0 v1 v2 : Int32} (h : p < nl) (h1 : ¬ (rdN le nl 3 (p + 1)).1 = 0) (g0 : 1 ≤ (rdN le nl 3 (p + 1)).1 → v0 = valN le nl (p + 1)) (g1 : 2 ≤ (rdN le nl 3 (p + 1)).1 → v1 = valN le nl (nx le nl (p + 1))) (g2 : 3 ≤ (rdN le nl 3 (p + 1)).1 → v2 = valN le nl (nx le nl (nx le nl (p + 1)))) (hb : itB (ltA le nl p) (rdN le nl 3 (p + 1)).1 v0 v1 v2 s = true) :
    prs le nl (k + 1) p s = prs le nl k (rdN le nl 3 (p + 1)).2 (itS (ltA le nl p) (rdN le nl 3 (p + 1)).1 v0 v1 v2 s) := by
  obtain ⟨e1, e2⟩ := it_cg (x := ltA le nl p) (s := s) g0 g1 g2
  rw [prs, if_pos h, if_neg h1, ← e1, ← e2, hb]
  rfl

set_option maxRecDepth 100000 in
set_option maxHeartbeats 4000000 in
/-- X3_readInto -/
theorem c_X3_readInto (l : Launch) (G : xG) (a : Nat → Nat) (le : Nat → Int32) (nl : Nat) (nu : Nat → Int32) (nc : Nat) (b : Nat → Nat) (s : xS) (hl : nl ≤ 200) : xM l G xE0 yX3_readInto cX3_readInto 5 (some .int) 4 91 0 0 [.ref (a 0), .ref (b 0)] (xJ [wTx G a le nl nu nc, wCq G b s]) (some (.int ((prs le nl 200 0 blankS).1))) (fun w2 => ∃ nu' : Nat → Int32, ∃ nc' : Nat, w2 = xJ [wTx G a le nl nu' nc', wCq G b ((prs le nl 200 0 blankS).2)]) := by
  refine x_entry (by decide +kernel) (Nat.le_of_ble_eq_true rfl) rfl ⟨_, rfl, rfl⟩ (fun K X => ?_)
  refine x_aloadn X dX3_readInto_0 1 rfl ?_
  refine x_callVf0 (As := []) (rest := []) (w1 := wCh G b 0 3 (fun _ => nI 0) (fun _ => nI 0) (fun _ => nI 0) (fun _ => nI 100)) (ws' := xJ [wTx G a le nl nu nc, wCh G b 0 3 (fun _ => nI 0) (fun _ => nI 0) (fun _ => nI 0) (fun _ => nI 100)]) X (c_X0_becomeBlank l G b s.1 s.2.1 s.2.2.1 s.2.2.2.1 s.2.2.2.2.1 s.2.2.2.2.2) xE0_ok (fun _ _ _ => trivial) [3, 4, 5, 6, 7] rfl 0 rfl rfl rfl rfl wco_X0_becomeBlank wi_X0 xd_X0_becomeBlank wl_X3_26 win_X0_becomeBlank wse_X0_becomeBlank (by decide) (Nat.le_of_ble_eq_true rfl) dX3_readInto_1 rfl (Eq.trans (b := [b 0, b 1, b 2, b 3, b 4]) rfl rfl) rfl ?_
  refine x_iconst (v := nI 0) X dX3_readInto_4 (by decide) ?_
  refine x_istoren (lv' := [(2, .int (nI 0)), (0, .ref (a 0)), (1, .ref (b 0))]) X dX3_readInto_5 (by decide) rfl ?_
  refine x_iconst (v := nI 0) X dX3_readInto_6 (by decide) ?_
  refine x_istoren (lv' := [(3, .int (nI 0)), (2, .int (nI 0)), (0, .ref (a 0)), (1, .ref (b 0))]) X dX3_readInto_7 (by decide) rfl ?_
  have L8 : ∀ (fu : Nat) (i : Nat) (p : Nat) (u : Nat → Int32) (o : Nat) (s : xS), 200 - i < fu → (i ≤ 200) → (p ≤ nl) → (s.1 ≤ 6) → (prs le nl (200 - i) p s = prs le nl 200 0 blankS) → K (xJ [wTx G a le nl u o, wCq G b s]) 0 0 8 [(0, .ref (a 0)), (1, .ref (b 0)), (2, .int (nI p)), (3, .int (nI i))] [] := by
    intro fu
    induction fu with
    | zero => intro i p u o s hfu; exact absurd hfu (Nat.not_lt_zero _)
    | succ fu ih_L8 =>
      intro i p u o s hfu_L8 hi hp hs6 hR
      refine x_iloadn X dX3_readInto_8 3 rfl ?_
      refine x_sipush (v := nI 200) X dX3_readInto_9 (by decide) ?_
      refine x_icmp_ge_n 63 X dX3_readInto_12 (by decide) (by omega) (by omega) (fun c_1 => ?_) (fun c_1 => ?_)
      · -- 12 t
        have n_1 := Nat.not_lt.mpr c_1
        refine x_bipush (v := (-4)) X dX3_readInto_63 (by decide) ?_
        exact x_ret X dX3_readInto_65 ⟨ret_i (by rw [← hR]; first | rw [prs_end (by omega)] | (rw [show 200 - i = 0 by omega]; rfl)), ⟨u, o, (by rw [← hR]; first | rw [prs_end (by omega)] | (rw [show 200 - i = 0 by omega]; rfl))⟩, by decide, by decide⟩
      · -- 12 f
        refine x_iloadn X dX3_readInto_15 2 rfl ?_
        refine x_aloadn X dX3_readInto_16 0 rfl ?_
        refine x_get X wu_X3 0 rfl rfl 1 (by decide) wf_X3_18 rfl rfl dX3_readInto_17 ?_
        refine x_icmp_ge_n 63 X dX3_readInto_20 (by decide) (by omega) (by omega) (fun c_2 => ?_) (fun c_2 => ?_)
        · -- 20 t
          have n_2 := Nat.not_lt.mpr c_2
          refine x_bipush (v := (-4)) X dX3_readInto_63 (by decide) ?_
          exact x_ret X dX3_readInto_65 ⟨ret_i (by rw [← hR]; first | rw [prs_end (by omega)] | (rw [show 200 - i = 0 by omega]; rfl)), ⟨u, o, (by rw [← hR]; first | rw [prs_end (by omega)] | (rw [show 200 - i = 0 by omega]; rfl))⟩, by decide, by decide⟩
        · -- 20 f
          refine x_aloadn X dX3_readInto_23 0 rfl ?_
          refine x_iloadn X dX3_readInto_24 2 rfl ?_
          refine x_iconst (v := nI 1) X dX3_readInto_25 (by decide) ?_
          refine x_iadd (v := nI (p + 1)) X dX3_readInto_26 (nI_add _ _) ?_
          refine x_callV (As := [.int (nI (p + 1))]) (rest := []) X (c_X3_readNumbers l G a le nl u o (p + 1) (by omega) (by omega)) xE0_ok (fun _ _ _ => trivial) [0, 1, 2] rfl 0 rfl rfl rfl rfl wco_X3_readNumbers wi_X3 xd_X3_readNumbers wl_X3_31 win_X3_readNumbers wse_X3_readNumbers (by decide) (Nat.le_of_ble_eq_true rfl) dX3_readInto_27 (fun w2 h => by obtain ⟨_, _, rfl, -⟩ := h; exact ⟨rfl, Eq.trans (b := [a 0, a 1, a 2]) rfl rfl⟩) (fun w_5 hw_5 => ?_)
          obtain ⟨nu_3, nc_4, rfl, f_6, f_7, f_8, f_9⟩ := hw_5
          refine x_wst (ws' := xJ [wTx G a le nl nu_3 nc_4, wCq G b s]) (st' := [.int (rdB (rdN le nl 3 (p + 1)))]) rfl rfl ?_
          obtain ⟨cc, ecc⟩ : ∃ r, r = rdN le nl 3 (p + 1) := ⟨_, rfl⟩
          have hc3 := rdN_c3 le nl (p + 1)
          have hb31 := rdN_le3 le nl (p + 1) hl
          rw [← ecc] at f_6 f_7 f_8 f_9 hc3 hb31
          rw [← ecc]
          refine x_istore (lv' := [(4, .int (rdB cc)), (0, .ref (a 0)), (1, .ref (b 0)), (2, .int (nI p)), (3, .int (nI i))]) X dX3_readInto_30 (by decide) rfl ?_
          refine x_iload X dX3_readInto_32 0 rfl ?_
          refine x_bipush (v := (-4)) X dX3_readInto_34 (by decide) ?_
          refine x_icmp_eq 52 X dX3_readInto_36 (by decide) (fun c_10 => ?_) (fun c_10 => ?_)
          · -- 36 t
            refine x_iloadn X dX3_readInto_52 3 rfl ?_
            exact x_ret X dX3_readInto_53 ⟨ret_i (by rw [← hR, show 200 - i = (199 - i) + 1 by omega]; rw [prs_no (by assumption) (by rw [← ecc]; exact rdB_no c_10 hb31)]), ⟨nu_3, nc_4, (by rw [← hR, show 200 - i = (199 - i) + 1 by omega]; rw [prs_no (by assumption) (by rw [← ecc]; exact rdB_no c_10 hb31)])⟩, by decide, by decide⟩
          · -- 36 f
            obtain ⟨hcn, hcb⟩ := rdB_yes c_10
            have hle := rdN_le le nl 3 (p + 1) (by rw [← ecc]; exact hcn)
            rw [← ecc] at hle
            refine x_lv (lv' := [(4, .int (rdB cc)), (0, .ref (a 0)), (1, .ref (b 0)), (2, .int (nI p)), (3, .int (nI i))]) X [0, 1, 2, 3, 4] rfl ?_
            rw [hcb]
            refine x_aloadn X dX3_readInto_39 1 rfl ?_
            refine x_aloadn X dX3_readInto_40 1 rfl ?_
            refine x_iloadn X dX3_readInto_41 3 rfl ?_
            refine x_callVrv (As := [.int (nI p)]) (rest := [.ref (a 0)]) X (c_X3_letterAt l G a le nl nu_3 nc_4 p (by omega) (by omega)) xE0_ok (fun _ _ _ => trivial) [0, 1, 2] rfl 0 rfl rfl rfl rfl wco_X3_letterAt wi_X3 xd_X3_letterAt wl_X3_35 win_X3_letterAt wse_X3_letterAt (by decide) (Nat.le_of_ble_eq_true rfl) dX3_readInto_42 ?_
            refine x_aloadn X dX3_readInto_45 2 rfl ?_
            have enc : nc_4 = cc.1 := f_6 hcn
            subst enc
            refine x_callVfv (As := [.int (ltA le nl p), .ref (b 0)]) (rest := []) (w1 := xJ [wTx G a le nl nu_3 cc.1, wCq G b (itS (ltA le nl p) cc.1 (nu_3 0) (nu_3 1) (nu_3 2) s)]) (ws' := xJ [wTx G a le nl nu_3 cc.1, wCq G b (itS (ltA le nl p) cc.1 (nu_3 0) (nu_3 1) (nu_3 2) s)]) X (c_X3_tellItem l G a le nl nu_3 cc.1 b s (ltA le nl p) (by omega) (by omega)) xE0_ok (fun _ _ _ => trivial) [0, 1, 2, 3, 4, 5, 6, 7] rfl 0 rfl rfl rfl rfl wco_X3_tellItem wi_X3 xd_X3_tellItem wl_X3_38 win_X3_tellItem wse_X3_tellItem (by decide) (Nat.le_of_ble_eq_true rfl) dX3_readInto_46 rfl (Eq.trans (b := [a 0, a 1, a 2, b 0, b 1, b 2, b 3, b 4]) rfl rfl) rfl ?_
            refine x_ifne_b 54 X dX3_readInto_49 (by decide) (fun c_11 => ?_) (fun c_11 => ?_)
            · -- 49 t
              refine x_iload X dX3_readInto_54 0 rfl ?_
              refine x_istoren (lv' := [(2, .int (nI cc.2)), (4, .int (nI cc.2)), (0, .ref (a 0)), (1, .ref (b 0)), (3, .int (nI i))]) X dX3_readInto_56 (by decide) rfl ?_
              refine x_iinc (v := nI (i + 1)) (lv' := [(3, .int (nI (i + 1))), (2, .int (nI cc.2)), (4, .int (nI cc.2)), (0, .ref (a 0)), (1, .ref (b 0))]) X dX3_readInto_57 4 rfl (nI_1 _) (by decide) rfl ?_
              refine x_goto 8 X dX3_readInto_60 (by decide) ?_
              refine x_lv (lv' := [(0, .ref (a 0)), (1, .ref (b 0)), (2, .int (nI cc.2)), (3, .int (nI (i + 1)))]) X [3, 4, 1, 0] rfl ?_
              exact ih_L8 (i + 1) cc.2 nu_3 cc.1 (itS (ltA le nl p) cc.1 (nu_3 0) (nu_3 1) (nu_3 2) s) (by omega) (by omega) (by omega) (itS_le hs6) (by rw [← hR, show 200 - i = (200 - (i + 1)) + 1 by omega, prs_ok (by assumption) (by rw [← ecc]; exact hcn) (by rw [← ecc]; exact f_7) (by rw [← ecc]; exact f_8) (by rw [← ecc]; exact f_9) (by rw [← ecc]; exact c_11), ← ecc])
            · -- 49 f
              refine x_iloadn X dX3_readInto_52 3 rfl ?_
              exact x_ret X dX3_readInto_53 ⟨ret_i (by rw [← hR, show 200 - i = (199 - i) + 1 by omega]; rw [prs_bad (by assumption) (by rw [← ecc]; exact hcn) (by rw [← ecc]; exact f_7) (by rw [← ecc]; exact f_8) (by rw [← ecc]; exact f_9) (by rw [← ecc]; exact c_11), ← ecc]), ⟨nu_3, cc.1, (by rw [← hR, show 200 - i = (199 - i) + 1 by omega]; rw [prs_bad (by assumption) (by rw [← ecc]; exact hcn) (by rw [← ecc]; exact f_7) (by rw [← ecc]; exact f_8) (by rw [← ecc]; exact f_9) (by rw [← ecc]; exact c_11), ← ecc])⟩, by decide, by decide⟩
  refine x_lv (lv' := [(0, .ref (a 0)), (1, .ref (b 0)), (2, .int (nI 0)), (3, .int (nI 0))]) X [2, 3, 1, 0] rfl ?_
  exact L8 _ 0 0 nu nc (0, 3, fun _ => nI 0, fun _ => nI 0, fun _ => nI 0, fun _ => nI 100) (Nat.lt_succ_self _) (by omega) (by omega) (by decide) (rfl)
end
section
/-! ===== the shelves ===== -/
def wCsN (G : xG) (ad : Nat → Nat → Nat) (cs : Nat → xS) (js : List Nat) : va_W := js.flatMap (fun j => wCq G (ad j) (cs j))
/-- the n Chanceries of a shelf -/
def wCs (G : xG) (ad : Nat → Nat → Nat) (cs : Nat → xS) (n : Nat) : va_W := wCsN G ad cs (List.range n)
/-- all but one -/
def wCo (G : xG) (ad : Nat → Nat → Nat) (cs : Nat → xS) (n j : Nat) : va_W := wCsN G ad cs ((List.range n).erase j)
theorem skCs (G : xG) (ad : Nat → Nat → Nat) (cs : Nat → xS) (n : Nat) : (wCs G ad cs n).map Prod.fst = (List.range n).flatMap (fun j => [ad j 0, ad j 1, ad j 2, ad j 3, ad j 4]) := by
  simp only [wCs, wCsN, List.map_flatMap, List.map_cons, List.map_nil, wCq, wCh]
theorem cut_cs {G : xG} {ad : Nat → Nat → Nat} {cs : Nat → xS} {n j : Nat} (hj : j < n) : (wCs G ad cs n).Perm (wCq G (ad j) (cs j) ++ wCo G ad cs n j) := by
  have h : (List.range n).Perm (j :: (List.range n).erase j) := List.perm_cons_erase (List.mem_range.mpr hj)
  exact h.flatMap_right (fun j => wCq G (ad j) (cs j))
theorem put_co {G : xG} {ad : Nat → Nat → Nat} {cs : Nat → xS} {n j : Nat} {s : xS} : wCo G ad (updS cs j s) n j = wCo G ad cs n j := by
  simp only [wCo, wCsN, List.flatMap_def]
  congr 1
  apply List.map_congr_left
  intro i hi
  have hne : i ≠ j := fun e => by
    subst e
    exact (List.Nodup.not_mem_erase (List.nodup_range)) hi
  simp [updS, hne]
theorem put_cs {G : xG} {ad : Nat → Nat → Nat} {cs : Nat → xS} {n j : Nat} {s : xS} (hj : j < n) : (wCs G ad (updS cs j s) n).Perm (wCq G (ad j) s ++ wCo G ad cs n j) := by
  have h := cut_cs (G := G) (ad := ad) (cs := updS cs j s) hj
  rw [put_co] at h
  have e : updS cs j s j = s := by simp [updS]
  rw [e] at h
  exact h

set_option maxRecDepth 100000 in
set_option maxHeartbeats 4000000 in
/-- X1_size__8 -/
theorem c_X1_size__8 (l : Launch) (G : xG) (a : Nat → Nat) (ad : Nat → Nat → Nat) (lw : Nat) (sz : Nat)  : xM l G xE0 yX1_size cX1_size 1 (some .int) 0 0 0 0 [.ref (a 0)] (wSh8 G a ad lw sz) (some (.int (nI sz))) (fun w2 => w2 = wSh8 G a ad lw sz) := by
  refine x_entry (by decide +kernel) (Nat.le_of_ble_eq_true rfl) rfl ⟨_, rfl, rfl⟩ (fun K X => ?_)
  refine x_aloadn X dX1_size_0 0 rfl ?_
  refine x_get X wu_X1 0 rfl rfl 2 (by decide) wf_X1_22 rfl rfl dX1_size_1 ?_
  exact x_ret X dX1_size_4 ⟨rfl, rfl, by decide, by decide⟩
set_option maxRecDepth 100000 in
set_option maxHeartbeats 4000000 in
/-- X1_clear__8 -/
theorem c_X1_clear__8 (l : Launch) (G : xG) (a : Nat → Nat) (ad : Nat → Nat → Nat) (lw : Nat) (sz : Nat)  : xM l G xE0 yX1_clear cX1_clear 1 none 0 0 0 0 [.ref (a 0)] (wSh8 G a ad lw sz) none (fun w2 => w2 = wSh8 G a ad lw 0) := by
  refine x_entry (by decide +kernel) (Nat.le_of_ble_eq_true rfl) rfl rfl (fun K X => ?_)
  refine x_aloadn X dX1_clear_0 0 rfl ?_
  refine x_iconst (v := nI 0) X dX1_clear_1 (by decide) ?_
  refine x_put (ws' := wSh8 G a ad lw 0) (ty := tyX1 2) X wu_X1 tyX1_ok nmX1 0 rfl rfl 2 (by decide) wf_X1_22 rfl rfl (by decide +kernel) rfl rfl (Nat.le_of_ble_eq_true rfl) rfl dX1_clear_2 ?_
  exact x_retv X dX1_clear_5 ⟨rfl, rfl, by decide, by decide⟩
set_option maxRecDepth 100000 in
set_option maxHeartbeats 4000000 in
/-- X1_placeAbove__8 -/
theorem c_X1_placeAbove__8 (l : Launch) (G : xG) (a : Nat → Nat) (ad : Nat → Nat → Nat) (lw : Nat) (sz : Nat) (x : Nat) (hx : x ≤ 8) (hlw : lw ≤ 8) : xM l G xE0 yX1_placeAbove cX1_placeAbove 3 (some (.object "OtherSideInk$Chancery")) 1 21 0 0 [.ref (a 0), .int (nI x)] (wSh8 G a ad lw sz) (some (.ref ((ad ((lw + x) % 8)) 0))) (fun w2 => w2 = wSh8 G a ad lw sz) := by
  refine x_entry (by decide +kernel) (Nat.le_of_ble_eq_true rfl) rfl ⟨_, rfl⟩ (fun K X => ?_)
  have hm : (lw + x) % 8 < 8 := Nat.mod_lt _ (by decide)
  refine x_aloadn X dX1_placeAbove_0 0 rfl ?_
  refine x_get X wu_X1 0 rfl rfl 1 (by decide) wf_X1_34 rfl rfl dX1_placeAbove_1 ?_
  refine x_iloadn X dX1_placeAbove_4 1 rfl ?_
  refine x_iadd (v := nI (lw + x)) X dX1_placeAbove_5 (nI_add _ _) ?_
  refine x_aloadn X dX1_placeAbove_6 0 rfl ?_
  refine x_get X wu_X1 0 rfl rfl 0 (by decide) wf_X1_15 rfl rfl dX1_placeAbove_7 ?_
  refine x_alenq X 1 rfl dX1_placeAbove_10 ?_
  refine x_callNrv (As := [.int (nI (lw + x)), .int (nI 8)]) (rest := []) X (c_X4_remainder l G (lw + x) 8 (by omega) (by omega) (by omega)) xE0_ok (fun _ _ _ => trivial) [] rfl rfl rfl wco_X4_remainder wi_X4 xd_X4_remainder wn_X1_37 wst_X4_remainder (by decide) (Nat.le_of_ble_eq_true rfl) dX1_placeAbove_11 ?_
  refine x_istoren (lv' := [(2, .int (nI ((lw + x) % 8))), (0, .ref (a 0)), (1, .int (nI x))]) X dX1_placeAbove_14 (by decide) rfl ?_
  refine x_iloadn X dX1_placeAbove_15 0 rfl ?_
  refine x_if_lt_n 37 X dX1_placeAbove_16 (by decide) (by omega) (fun c_1 => ?_) (fun c_1 => ?_)
  · -- 16 t
    exact absurd c_1 (by omega)
  · -- 16 f
    refine x_iloadn X dX1_placeAbove_19 0 rfl ?_
    refine x_aloadn X dX1_placeAbove_20 1 rfl ?_
    refine x_get X wu_X1 0 rfl rfl 0 (by decide) wf_X1_15 rfl rfl dX1_placeAbove_21 ?_
    refine x_alenq X 1 rfl dX1_placeAbove_24 ?_
    refine x_icmp_ge_n 37 X dX1_placeAbove_25 (by decide) (by omega) (by omega) (fun c_2 => ?_) (fun c_2 => ?_)
    · -- 25 t
      exact absurd c_2 (by omega)
    · -- 25 f
      refine x_aloadn X dX1_placeAbove_28 1 rfl ?_
      refine x_get X wu_X1 0 rfl rfl 0 (by decide) wf_X1_15 rfl rfl dX1_placeAbove_29 ?_
      refine x_iloadn X dX1_placeAbove_32 0 rfl ?_
      refine x_aald_n (v := .ref ((ad ((lw + x) % 8)) 0)) X 1 rfl (by omega) (by omega) rfl dX1_placeAbove_33 ?_
      refine x_goto 38 X dX1_placeAbove_34 (by decide) ?_
      exact x_ret X dX1_placeAbove_38 ⟨rfl, rfl, by decide, by decide⟩
set_option maxRecDepth 100000 in
set_option maxHeartbeats 4000000 in
/-- X1_push__8 -/
theorem c_X1_push__8 (l : Launch) (G : xG) (a : Nat → Nat) (ad : Nat → Nat → Nat) (lw : Nat) (sz : Nat) (b : Nat → Nat) (s : xS) (cs : Nat → xS) (hlw : lw < 8) (hsz : sz ≤ 8) : xM l G xE0 yX1_push cX1_push 3 none 3 72 0 0 [.ref (a 0), .ref (b 0)] (xJ [wSh8 G a ad lw sz, wCq G b s, wCs G ad cs 8]) none (fun w2 => w2 = xJ [wSh8 G a ad (if sz < 8 then lw else (lw + 1) % 8) (if sz < 8 then sz + 1 else sz), wCq G b s, wCs G ad (updS cs ((lw + sz) % 8) s) 8]) := by
  refine x_entry (by decide +kernel) (Nat.le_of_ble_eq_true rfl) rfl rfl (fun K X => ?_)
  refine x_aloadn X dX1_push_0 0 rfl ?_
  refine x_aloadn X dX1_push_1 0 rfl ?_
  refine x_get X wu_X1 0 rfl rfl 2 (by decide) wf_X1_22 rfl rfl dX1_push_2 ?_
  refine x_callVJrv (As := [.int (nI sz)]) (rest := []) (segs := [wSh8 G a ad lw sz, wCq G b s, wCs G ad cs 8]) [0] [1, 2] (show ([0] ++ [1, 2] : List Nat).Perm (List.range 3) from by decide) X (c_X1_placeAbove__8 l G a ad lw sz sz (by omega) (by omega)) rfl xE0_ok (fun _ _ _ => trivial) 0 rfl rfl rfl wco_X1_placeAbove wi_X1 xd_X1_placeAbove wl_X1_26 win_X1_placeAbove wse_X1_placeAbove (by decide) (Nat.le_of_ble_eq_true rfl) dX1_push_5 ?_
  obtain ⟨j, ej⟩ : ∃ j : Nat, j = (lw + sz) % 8 := ⟨_, rfl⟩
  have hj : j < 8 := by rw [ej]; exact Nat.mod_lt _ (by decide)
  rw [← ej]
  refine x_perm (ws' := xJ [wSh8 G a ad lw sz, wCq G b s, wCq G (ad j) (cs j), wCo G ad cs 8 j]) X (List.Perm.append_left _ (List.Perm.append_left _ (cut_cs hj))) ?_
  refine x_astoren (lv' := [(2, .ref ((ad j) 0)), (0, .ref (a 0)), (1, .ref (b 0))]) X dX1_push_8 (by decide) rfl ?_
  refine x_aloadn X dX1_push_9 0 rfl ?_
  refine x_ifnonnull 14 X dX1_push_10 (by decide) ?_
  refine x_aloadn X dX1_push_14 0 rfl ?_
  refine x_aloadn X dX1_push_15 2 rfl ?_
  refine x_callVJf0 (As := [.ref (b 0)]) (rest := []) (segs := [wSh8 G a ad lw sz, wCq G b s, wCq G (ad j) (cs j), wCo G ad cs 8 j]) (segs' := [wSh8 G a ad lw sz, wCh G b s.1 s.2.1 s.2.2.1 s.2.2.2.1 s.2.2.2.2.1 s.2.2.2.2.2, wCh G (ad j) s.1 s.2.1 s.2.2.1 s.2.2.2.1 s.2.2.2.2.1 s.2.2.2.2.2, wCo G ad cs 8 j]) (mid := [wSh8 G a ad lw sz, wCo G ad cs 8 j]) (w1 := xJ [wCh G (ad j) s.1 s.2.1 s.2.2.1 s.2.2.2.1 s.2.2.2.2.1 s.2.2.2.2.2, wCh G b s.1 s.2.1 s.2.2.1 s.2.2.2.1 s.2.2.2.2.1 s.2.2.2.2.2]) [2, 1] [0, 3] (show ([2, 1] ++ [0, 3] : List Nat).Perm (List.range 4) from by decide) rfl X (c_X0_becomeLike l G (ad j) ((cs j).1) ((cs j).2.1) ((cs j).2.2.1) ((cs j).2.2.2.1) ((cs j).2.2.2.2.1) ((cs j).2.2.2.2.2) b s.1 s.2.1 s.2.2.1 s.2.2.2.1 s.2.2.2.2.1 s.2.2.2.2.2) rfl rfl rfl rfl xE0_ok (fun _ _ _ => trivial) 0 rfl rfl rfl wco_X0_becomeLike wi_X0 xd_X0_becomeLike wl_X1_30 win_X0_becomeLike wse_X0_becomeLike (by decide) (Nat.le_of_ble_eq_true rfl) dX1_push_16 (Eq.trans (b := [(ad j) 0, (ad j) 1, (ad j) 2, (ad j) 3, (ad j) 4, b 0, b 1, b 2, b 3, b 4]) rfl rfl) ?_
  refine x_aloadn X dX1_push_19 1 rfl ?_
  refine x_get X wu_X1 0 rfl rfl 2 (by decide) wf_X1_22 rfl rfl dX1_push_20 ?_
  refine x_aloadn X dX1_push_23 1 rfl ?_
  refine x_get X wu_X1 0 rfl rfl 0 (by decide) wf_X1_15 rfl rfl dX1_push_24 ?_
  refine x_alenq X 1 rfl dX1_push_27 ?_
  refine x_icmp_ge_n 44 X dX1_push_28 (by decide) (by omega) (by omega) (fun c_1 => ?_) (fun c_1 => ?_)
  · -- 28 t
    have n_1 := Nat.not_lt.mpr c_1
    refine x_aloadn X dX1_push_44 1 rfl ?_
    refine x_aloadn X dX1_push_45 1 rfl ?_
    refine x_get X wu_X1 0 rfl rfl 1 (by decide) wf_X1_34 rfl rfl dX1_push_46 ?_
    refine x_iconst (v := nI 1) X dX1_push_49 (by decide) ?_
    refine x_iadd (v := nI (lw + 1)) X dX1_push_50 (nI_add _ _) ?_
    refine x_aloadn X dX1_push_51 1 rfl ?_
    refine x_get X wu_X1 0 rfl rfl 0 (by decide) wf_X1_15 rfl rfl dX1_push_52 ?_
    refine x_alenq X 1 rfl dX1_push_55 ?_
    refine x_callNrv (As := [.int (nI (lw + 1)), .int (nI 8)]) (rest := [.ref (a 0)]) X (c_X4_remainder l G (lw + 1) 8 (by omega) (by omega) (by omega)) xE0_ok (fun _ _ _ => trivial) [] rfl rfl rfl wco_X4_remainder wi_X4 xd_X4_remainder wn_X1_37 wst_X4_remainder (by decide) (Nat.le_of_ble_eq_true rfl) dX1_push_56 ?_
    refine x_put (ws' := xJ [wSh8 G a ad ((lw + 1) % 8) sz, wCh G b s.1 s.2.1 s.2.2.1 s.2.2.2.1 s.2.2.2.2.1 s.2.2.2.2.2, wCh G (ad j) s.1 s.2.1 s.2.2.1 s.2.2.2.1 s.2.2.2.2.1 s.2.2.2.2.2, wCo G ad cs 8 j]) (ty := tyX1 1) X wu_X1 tyX1_ok nmX1 0 rfl rfl 1 (by decide) wf_X1_34 rfl rfl (by decide +kernel) rfl rfl (Nat.le_of_ble_eq_true rfl) rfl dX1_push_59 ?_
    refine x_perm (ws' := xJ [wSh8 G a ad ((lw + 1) % 8) sz, wCh G b s.1 s.2.1 s.2.2.1 s.2.2.2.1 s.2.2.2.2.1 s.2.2.2.2.2, wCs G ad (updS cs j s) 8]) X (List.Perm.append_left _ (List.Perm.append_left _ (put_cs hj).symm)) ?_
    exact x_retv X dX1_push_62 ⟨rfl, (by rw [← ej]; first | rw [if_pos (by omega), if_pos (by omega)] | rw [if_neg (by omega), if_neg (by omega)]), by decide, by decide⟩
  · -- 28 f
    refine x_aloadn X dX1_push_31 1 rfl ?_
    refine x_dup X dX1_push_32 rfl ?_
    refine x_get X wu_X1 0 rfl rfl 2 (by decide) wf_X1_22 rfl rfl dX1_push_33 ?_
    refine x_iconst (v := nI 1) X dX1_push_36 (by decide) ?_
    refine x_iadd (v := nI (sz + 1)) X dX1_push_37 (nI_add _ _) ?_
    refine x_put (ws' := xJ [wSh8 G a ad lw (sz + 1), wCh G b s.1 s.2.1 s.2.2.1 s.2.2.2.1 s.2.2.2.2.1 s.2.2.2.2.2, wCh G (ad j) s.1 s.2.1 s.2.2.1 s.2.2.2.1 s.2.2.2.2.1 s.2.2.2.2.2, wCo G ad cs 8 j]) (ty := tyX1 2) X wu_X1 tyX1_ok nmX1 0 rfl rfl 2 (by decide) wf_X1_22 rfl rfl (by decide +kernel) rfl rfl (Nat.le_of_ble_eq_true rfl) rfl dX1_push_38 ?_
    refine x_goto 62 X dX1_push_41 (by decide) ?_
    refine x_perm (ws' := xJ [wSh8 G a ad lw (sz + 1), wCh G b s.1 s.2.1 s.2.2.1 s.2.2.2.1 s.2.2.2.2.1 s.2.2.2.2.2, wCs G ad (updS cs j s) 8]) X (List.Perm.append_left _ (List.Perm.append_left _ (put_cs hj).symm)) ?_
    exact x_retv X dX1_push_62 ⟨rfl, (by rw [← ej]; first | rw [if_pos (by omega), if_pos (by omega)] | rw [if_neg (by omega), if_neg (by omega)]), by decide, by decide⟩
set_option maxRecDepth 100000 in
set_option maxHeartbeats 4000000 in
/-- X1_popInto__8 -/
theorem c_X1_popInto__8 (l : Launch) (G : xG) (a : Nat → Nat) (ad : Nat → Nat → Nat) (lw : Nat) (sz : Nat) (b : Nat → Nat) (s : xS) (cs : Nat → xS) (hlw : lw < 8) (hsz : sz ≤ 8) (h0 : 0 < sz) : xM l G xE0 yX1_popInto cX1_popInto 3 (some .boolean) 3 72 0 0 [.ref (a 0), .ref (b 0)] (xJ [wSh8 G a ad lw sz, wCq G b s, wCs G ad cs 8]) (some (.int (bI true))) (fun w2 => w2 = xJ [wSh8 G a ad lw (sz - 1), wCq G b (cs ((lw + (sz - 1)) % 8)), wCs G ad cs 8]) := by
  refine x_entry (by decide +kernel) (Nat.le_of_ble_eq_true rfl) rfl ⟨_, rfl, bI_narrow _⟩ (fun K X => ?_)
  refine x_aloadn X dX1_popInto_0 0 rfl ?_
  refine x_get X wu_X1 0 rfl rfl 2 (by decide) wf_X1_22 rfl rfl dX1_popInto_1 ?_
  refine x_if_le_n 20 X dX1_popInto_4 (by decide) (by omega) (fun c_1 => ?_) (fun c_1 => ?_)
  · -- 4 t
    exact absurd c_1 (by omega)
  · -- 4 f
    refine x_aloadn X dX1_popInto_7 0 rfl ?_
    refine x_aloadn X dX1_popInto_8 0 rfl ?_
    refine x_get X wu_X1 0 rfl rfl 2 (by decide) wf_X1_22 rfl rfl dX1_popInto_9 ?_
    refine x_iconst (v := nI 1) X dX1_popInto_12 (by decide) ?_
    refine x_isub (v := nI (sz - 1)) X dX1_popInto_13 (pk_sub (by omega)) ?_
    refine x_callVJrv (As := [.int (nI (sz - 1))]) (rest := []) (segs := [wSh8 G a ad lw sz, wCq G b s, wCs G ad cs 8]) [0] [1, 2] (show ([0] ++ [1, 2] : List Nat).Perm (List.range 3) from by decide) X (c_X1_placeAbove__8 l G a ad lw sz (sz - 1) (by omega) (by omega)) rfl xE0_ok (fun _ _ _ => trivial) 0 rfl rfl rfl wco_X1_placeAbove wi_X1 xd_X1_placeAbove wl_X1_26 win_X1_placeAbove wse_X1_placeAbove (by decide) (Nat.le_of_ble_eq_true rfl) dX1_popInto_14 ?_
    obtain ⟨j, ej⟩ : ∃ j : Nat, j = (lw + (sz - 1)) % 8 := ⟨_, rfl⟩
    have hj : j < 8 := by rw [ej]; exact Nat.mod_lt _ (by decide)
    rw [← ej]
    refine x_perm (ws' := xJ [wSh8 G a ad lw sz, wCq G b s, wCq G (ad j) (cs j), wCo G ad cs 8 j]) X (List.Perm.append_left _ (List.Perm.append_left _ (cut_cs hj))) ?_
    refine x_goto 21 X dX1_popInto_17 (by decide) ?_
    refine x_astoren (lv' := [(2, .ref ((ad j) 0)), (0, .ref (a 0)), (1, .ref (b 0))]) X dX1_popInto_21 (by decide) rfl ?_
    refine x_aloadn X dX1_popInto_22 0 rfl ?_
    refine x_ifnonnull 28 X dX1_popInto_23 (by decide) ?_
    refine x_aloadn X dX1_popInto_28 2 rfl ?_
    refine x_aloadn X dX1_popInto_29 0 rfl ?_
    refine x_callVJf0 (As := [.ref ((ad j) 0)]) (rest := []) (segs := [wSh8 G a ad lw sz, wCq G b s, wCq G (ad j) (cs j), wCo G ad cs 8 j]) (segs' := [wSh8 G a ad lw sz, wCh G b ((cs j).1) ((cs j).2.1) ((cs j).2.2.1) ((cs j).2.2.2.1) ((cs j).2.2.2.2.1) ((cs j).2.2.2.2.2), wCh G (ad j) ((cs j).1) ((cs j).2.1) ((cs j).2.2.1) ((cs j).2.2.2.1) ((cs j).2.2.2.2.1) ((cs j).2.2.2.2.2), wCo G ad cs 8 j]) (mid := [wSh8 G a ad lw sz, wCo G ad cs 8 j]) (w1 := xJ [wCh G b ((cs j).1) ((cs j).2.1) ((cs j).2.2.1) ((cs j).2.2.2.1) ((cs j).2.2.2.2.1) ((cs j).2.2.2.2.2), wCh G (ad j) ((cs j).1) ((cs j).2.1) ((cs j).2.2.1) ((cs j).2.2.2.1) ((cs j).2.2.2.2.1) ((cs j).2.2.2.2.2)]) [1, 2] [0, 3] (show ([1, 2] ++ [0, 3] : List Nat).Perm (List.range 4) from by decide) rfl X (c_X0_becomeLike l G b s.1 s.2.1 s.2.2.1 s.2.2.2.1 s.2.2.2.2.1 s.2.2.2.2.2 (ad j) ((cs j).1) ((cs j).2.1) ((cs j).2.2.1) ((cs j).2.2.2.1) ((cs j).2.2.2.2.1) ((cs j).2.2.2.2.2)) rfl rfl rfl rfl xE0_ok (fun _ _ _ => trivial) 0 rfl rfl rfl wco_X0_becomeLike wi_X0 xd_X0_becomeLike wl_X1_30 win_X0_becomeLike wse_X0_becomeLike (by decide) (Nat.le_of_ble_eq_true rfl) dX1_popInto_30 (Eq.trans (b := [b 0, b 1, b 2, b 3, b 4, (ad j) 0, (ad j) 1, (ad j) 2, (ad j) 3, (ad j) 4]) rfl rfl) ?_
    refine x_aloadn X dX1_popInto_33 1 rfl ?_
    refine x_dup X dX1_popInto_34 rfl ?_
    refine x_get X wu_X1 0 rfl rfl 2 (by decide) wf_X1_22 rfl rfl dX1_popInto_35 ?_
    refine x_iconst (v := nI 1) X dX1_popInto_38 (by decide) ?_
    refine x_isub (v := nI (sz - 1)) X dX1_popInto_39 (pk_sub (by omega)) ?_
    refine x_put (ws' := xJ [wSh8 G a ad lw (sz - 1), wCh G b ((cs j).1) ((cs j).2.1) ((cs j).2.2.1) ((cs j).2.2.2.1) ((cs j).2.2.2.2.1) ((cs j).2.2.2.2.2), wCh G (ad j) ((cs j).1) ((cs j).2.1) ((cs j).2.2.1) ((cs j).2.2.2.1) ((cs j).2.2.2.2.1) ((cs j).2.2.2.2.2), wCo G ad cs 8 j]) (ty := tyX1 2) X wu_X1 tyX1_ok nmX1 0 rfl rfl 2 (by decide) wf_X1_22 rfl rfl (by decide +kernel) rfl rfl (Nat.le_of_ble_eq_true rfl) rfl dX1_popInto_40 ?_
    refine x_iconst (v := nI 1) X dX1_popInto_43 (by decide) ?_
    refine x_perm (ws' := xJ [wSh8 G a ad lw (sz - 1), wCh G b ((cs j).1) ((cs j).2.1) ((cs j).2.2.1) ((cs j).2.2.2.1) ((cs j).2.2.2.2.1) ((cs j).2.2.2.2.2), wCs G ad cs 8]) X (List.Perm.append_left _ (List.Perm.append_left _ (cut_cs hj).symm)) ?_
    exact x_ret X dX1_popInto_44 ⟨ret_i (by rfl), (by rw [← ej]), by decide, by decide⟩
set_option maxRecDepth 100000 in
set_option maxHeartbeats 4000000 in
/-- X1_popInto__80 -/
theorem c_X1_popInto__80 (l : Launch) (G : xG) (a : Nat → Nat) (ad : Nat → Nat → Nat) (lw : Nat) (b : Nat → Nat) (s : xS)  : xM l G xE0 yX1_popInto cX1_popInto 3 (some .boolean) 0 0 0 0 [.ref (a 0), .ref (b 0)] (xJ [wSh8 G a ad lw 0, wCq G b s]) (some (.int (bI false))) (fun w2 => w2 = xJ [wSh8 G a ad lw 0, wCq G b s]) := by
  refine x_entry (by decide +kernel) (Nat.le_of_ble_eq_true rfl) rfl ⟨_, rfl, bI_narrow _⟩ (fun K X => ?_)
  refine x_aloadn X dX1_popInto_0 0 rfl ?_
  refine x_get X wu_X1 0 rfl rfl 2 (by decide) wf_X1_22 rfl rfl dX1_popInto_1 ?_
  refine x_if_le_n 20 X dX1_popInto_4 (by decide) (by omega) (fun c_1 => ?_) (fun c_1 => ?_)
  · -- 4 t
    refine x_null X dX1_popInto_20 ?_
    refine x_astorenN (lv' := [(2, .null), (0, .ref (a 0)), (1, .ref (b 0))]) X dX1_popInto_21 (by decide) rfl ?_
    refine x_aloadnN X dX1_popInto_22 0 rfl ?_
    refine x_ifnonnullN X dX1_popInto_23 ?_
    refine x_iconst (v := nI 0) X dX1_popInto_26 (by decide) ?_
    exact x_ret X dX1_popInto_27 ⟨ret_i (by rfl), rfl, by decide, by decide⟩
  · -- 4 f
    exact absurd c_1 (by omega)
set_option maxRecDepth 100000 in
set_option maxHeartbeats 4000000 in
/-- X1_size__2 -/
theorem c_X1_size__2 (l : Launch) (G : xG) (a : Nat → Nat) (ad : Nat → Nat → Nat) (lw : Nat) (sz : Nat)  : xM l G xE0 yX1_size cX1_size 1 (some .int) 0 0 0 0 [.ref (a 0)] (wSh2 G a ad lw sz) (some (.int (nI sz))) (fun w2 => w2 = wSh2 G a ad lw sz) := by
  refine x_entry (by decide +kernel) (Nat.le_of_ble_eq_true rfl) rfl ⟨_, rfl, rfl⟩ (fun K X => ?_)
  refine x_aloadn X dX1_size_0 0 rfl ?_
  refine x_get X wu_X1 0 rfl rfl 2 (by decide) wf_X1_22 rfl rfl dX1_size_1 ?_
  exact x_ret X dX1_size_4 ⟨rfl, rfl, by decide, by decide⟩
set_option maxRecDepth 100000 in
set_option maxHeartbeats 4000000 in
/-- X1_clear__2 -/
theorem c_X1_clear__2 (l : Launch) (G : xG) (a : Nat → Nat) (ad : Nat → Nat → Nat) (lw : Nat) (sz : Nat)  : xM l G xE0 yX1_clear cX1_clear 1 none 0 0 0 0 [.ref (a 0)] (wSh2 G a ad lw sz) none (fun w2 => w2 = wSh2 G a ad lw 0) := by
  refine x_entry (by decide +kernel) (Nat.le_of_ble_eq_true rfl) rfl rfl (fun K X => ?_)
  refine x_aloadn X dX1_clear_0 0 rfl ?_
  refine x_iconst (v := nI 0) X dX1_clear_1 (by decide) ?_
  refine x_put (ws' := wSh2 G a ad lw 0) (ty := tyX1 2) X wu_X1 tyX1_ok nmX1 0 rfl rfl 2 (by decide) wf_X1_22 rfl rfl (by decide +kernel) rfl rfl (Nat.le_of_ble_eq_true rfl) rfl dX1_clear_2 ?_
  exact x_retv X dX1_clear_5 ⟨rfl, rfl, by decide, by decide⟩
set_option maxRecDepth 100000 in
set_option maxHeartbeats 4000000 in
/-- X1_placeAbove__2 -/
theorem c_X1_placeAbove__2 (l : Launch) (G : xG) (a : Nat → Nat) (ad : Nat → Nat → Nat) (lw : Nat) (sz : Nat) (x : Nat) (hx : x ≤ 8) (hlw : lw ≤ 8) : xM l G xE0 yX1_placeAbove cX1_placeAbove 3 (some (.object "OtherSideInk$Chancery")) 1 21 0 0 [.ref (a 0), .int (nI x)] (wSh2 G a ad lw sz) (some (.ref ((ad ((lw + x) % 2)) 0))) (fun w2 => w2 = wSh2 G a ad lw sz) := by
  refine x_entry (by decide +kernel) (Nat.le_of_ble_eq_true rfl) rfl ⟨_, rfl⟩ (fun K X => ?_)
  have hm : (lw + x) % 2 < 2 := Nat.mod_lt _ (by decide)
  refine x_aloadn X dX1_placeAbove_0 0 rfl ?_
  refine x_get X wu_X1 0 rfl rfl 1 (by decide) wf_X1_34 rfl rfl dX1_placeAbove_1 ?_
  refine x_iloadn X dX1_placeAbove_4 1 rfl ?_
  refine x_iadd (v := nI (lw + x)) X dX1_placeAbove_5 (nI_add _ _) ?_
  refine x_aloadn X dX1_placeAbove_6 0 rfl ?_
  refine x_get X wu_X1 0 rfl rfl 0 (by decide) wf_X1_15 rfl rfl dX1_placeAbove_7 ?_
  refine x_alenq X 1 rfl dX1_placeAbove_10 ?_
  refine x_callNrv (As := [.int (nI (lw + x)), .int (nI 2)]) (rest := []) X (c_X4_remainder l G (lw + x) 2 (by omega) (by omega) (by omega)) xE0_ok (fun _ _ _ => trivial) [] rfl rfl rfl wco_X4_remainder wi_X4 xd_X4_remainder wn_X1_37 wst_X4_remainder (by decide) (Nat.le_of_ble_eq_true rfl) dX1_placeAbove_11 ?_
  refine x_istoren (lv' := [(2, .int (nI ((lw + x) % 2))), (0, .ref (a 0)), (1, .int (nI x))]) X dX1_placeAbove_14 (by decide) rfl ?_
  refine x_iloadn X dX1_placeAbove_15 0 rfl ?_
  refine x_if_lt_n 37 X dX1_placeAbove_16 (by decide) (by omega) (fun c_1 => ?_) (fun c_1 => ?_)
  · -- 16 t
    exact absurd c_1 (by omega)
  · -- 16 f
    refine x_iloadn X dX1_placeAbove_19 0 rfl ?_
    refine x_aloadn X dX1_placeAbove_20 1 rfl ?_
    refine x_get X wu_X1 0 rfl rfl 0 (by decide) wf_X1_15 rfl rfl dX1_placeAbove_21 ?_
    refine x_alenq X 1 rfl dX1_placeAbove_24 ?_
    refine x_icmp_ge_n 37 X dX1_placeAbove_25 (by decide) (by omega) (by omega) (fun c_2 => ?_) (fun c_2 => ?_)
    · -- 25 t
      exact absurd c_2 (by omega)
    · -- 25 f
      refine x_aloadn X dX1_placeAbove_28 1 rfl ?_
      refine x_get X wu_X1 0 rfl rfl 0 (by decide) wf_X1_15 rfl rfl dX1_placeAbove_29 ?_
      refine x_iloadn X dX1_placeAbove_32 0 rfl ?_
      refine x_aald_n (v := .ref ((ad ((lw + x) % 2)) 0)) X 1 rfl (by omega) (by omega) rfl dX1_placeAbove_33 ?_
      refine x_goto 38 X dX1_placeAbove_34 (by decide) ?_
      exact x_ret X dX1_placeAbove_38 ⟨rfl, rfl, by decide, by decide⟩
set_option maxRecDepth 100000 in
set_option maxHeartbeats 4000000 in
/-- X1_push__2 -/
theorem c_X1_push__2 (l : Launch) (G : xG) (a : Nat → Nat) (ad : Nat → Nat → Nat) (lw : Nat) (sz : Nat) (b : Nat → Nat) (s : xS) (cs : Nat → xS) (hlw : lw < 2) (hsz : sz ≤ 2) : xM l G xE0 yX1_push cX1_push 3 none 3 72 0 0 [.ref (a 0), .ref (b 0)] (xJ [wSh2 G a ad lw sz, wCq G b s, wCs G ad cs 2]) none (fun w2 => w2 = xJ [wSh2 G a ad (if sz < 2 then lw else (lw + 1) % 2) (if sz < 2 then sz + 1 else sz), wCq G b s, wCs G ad (updS cs ((lw + sz) % 2) s) 2]) := by
  refine x_entry (by decide +kernel) (Nat.le_of_ble_eq_true rfl) rfl rfl (fun K X => ?_)
  refine x_aloadn X dX1_push_0 0 rfl ?_
  refine x_aloadn X dX1_push_1 0 rfl ?_
  refine x_get X wu_X1 0 rfl rfl 2 (by decide) wf_X1_22 rfl rfl dX1_push_2 ?_
  refine x_callVJrv (As := [.int (nI sz)]) (rest := []) (segs := [wSh2 G a ad lw sz, wCq G b s, wCs G ad cs 2]) [0] [1, 2] (show ([0] ++ [1, 2] : List Nat).Perm (List.range 3) from by decide) X (c_X1_placeAbove__2 l G a ad lw sz sz (by omega) (by omega)) rfl xE0_ok (fun _ _ _ => trivial) 0 rfl rfl rfl wco_X1_placeAbove wi_X1 xd_X1_placeAbove wl_X1_26 win_X1_placeAbove wse_X1_placeAbove (by decide) (Nat.le_of_ble_eq_true rfl) dX1_push_5 ?_
  obtain ⟨j, ej⟩ : ∃ j : Nat, j = (lw + sz) % 2 := ⟨_, rfl⟩
  have hj : j < 2 := by rw [ej]; exact Nat.mod_lt _ (by decide)
  rw [← ej]
  refine x_perm (ws' := xJ [wSh2 G a ad lw sz, wCq G b s, wCq G (ad j) (cs j), wCo G ad cs 2 j]) X (List.Perm.append_left _ (List.Perm.append_left _ (cut_cs hj))) ?_
  refine x_astoren (lv' := [(2, .ref ((ad j) 0)), (0, .ref (a 0)), (1, .ref (b 0))]) X dX1_push_8 (by decide) rfl ?_
  refine x_aloadn X dX1_push_9 0 rfl ?_
  refine x_ifnonnull 14 X dX1_push_10 (by decide) ?_
  refine x_aloadn X dX1_push_14 0 rfl ?_
  refine x_aloadn X dX1_push_15 2 rfl ?_
  refine x_callVJf0 (As := [.ref (b 0)]) (rest := []) (segs := [wSh2 G a ad lw sz, wCq G b s, wCq G (ad j) (cs j), wCo G ad cs 2 j]) (segs' := [wSh2 G a ad lw sz, wCh G b s.1 s.2.1 s.2.2.1 s.2.2.2.1 s.2.2.2.2.1 s.2.2.2.2.2, wCh G (ad j) s.1 s.2.1 s.2.2.1 s.2.2.2.1 s.2.2.2.2.1 s.2.2.2.2.2, wCo G ad cs 2 j]) (mid := [wSh2 G a ad lw sz, wCo G ad cs 2 j]) (w1 := xJ [wCh G (ad j) s.1 s.2.1 s.2.2.1 s.2.2.2.1 s.2.2.2.2.1 s.2.2.2.2.2, wCh G b s.1 s.2.1 s.2.2.1 s.2.2.2.1 s.2.2.2.2.1 s.2.2.2.2.2]) [2, 1] [0, 3] (show ([2, 1] ++ [0, 3] : List Nat).Perm (List.range 4) from by decide) rfl X (c_X0_becomeLike l G (ad j) ((cs j).1) ((cs j).2.1) ((cs j).2.2.1) ((cs j).2.2.2.1) ((cs j).2.2.2.2.1) ((cs j).2.2.2.2.2) b s.1 s.2.1 s.2.2.1 s.2.2.2.1 s.2.2.2.2.1 s.2.2.2.2.2) rfl rfl rfl rfl xE0_ok (fun _ _ _ => trivial) 0 rfl rfl rfl wco_X0_becomeLike wi_X0 xd_X0_becomeLike wl_X1_30 win_X0_becomeLike wse_X0_becomeLike (by decide) (Nat.le_of_ble_eq_true rfl) dX1_push_16 (Eq.trans (b := [(ad j) 0, (ad j) 1, (ad j) 2, (ad j) 3, (ad j) 4, b 0, b 1, b 2, b 3, b 4]) rfl rfl) ?_
  refine x_aloadn X dX1_push_19 1 rfl ?_
  refine x_get X wu_X1 0 rfl rfl 2 (by decide) wf_X1_22 rfl rfl dX1_push_20 ?_
  refine x_aloadn X dX1_push_23 1 rfl ?_
  refine x_get X wu_X1 0 rfl rfl 0 (by decide) wf_X1_15 rfl rfl dX1_push_24 ?_
  refine x_alenq X 1 rfl dX1_push_27 ?_
  refine x_icmp_ge_n 44 X dX1_push_28 (by decide) (by omega) (by omega) (fun c_1 => ?_) (fun c_1 => ?_)
  · -- 28 t
    have n_1 := Nat.not_lt.mpr c_1
    refine x_aloadn X dX1_push_44 1 rfl ?_
    refine x_aloadn X dX1_push_45 1 rfl ?_
    refine x_get X wu_X1 0 rfl rfl 1 (by decide) wf_X1_34 rfl rfl dX1_push_46 ?_
    refine x_iconst (v := nI 1) X dX1_push_49 (by decide) ?_
    refine x_iadd (v := nI (lw + 1)) X dX1_push_50 (nI_add _ _) ?_
    refine x_aloadn X dX1_push_51 1 rfl ?_
    refine x_get X wu_X1 0 rfl rfl 0 (by decide) wf_X1_15 rfl rfl dX1_push_52 ?_
    refine x_alenq X 1 rfl dX1_push_55 ?_
    refine x_callNrv (As := [.int (nI (lw + 1)), .int (nI 2)]) (rest := [.ref (a 0)]) X (c_X4_remainder l G (lw + 1) 2 (by omega) (by omega) (by omega)) xE0_ok (fun _ _ _ => trivial) [] rfl rfl rfl wco_X4_remainder wi_X4 xd_X4_remainder wn_X1_37 wst_X4_remainder (by decide) (Nat.le_of_ble_eq_true rfl) dX1_push_56 ?_
    refine x_put (ws' := xJ [wSh2 G a ad ((lw + 1) % 2) sz, wCh G b s.1 s.2.1 s.2.2.1 s.2.2.2.1 s.2.2.2.2.1 s.2.2.2.2.2, wCh G (ad j) s.1 s.2.1 s.2.2.1 s.2.2.2.1 s.2.2.2.2.1 s.2.2.2.2.2, wCo G ad cs 2 j]) (ty := tyX1 1) X wu_X1 tyX1_ok nmX1 0 rfl rfl 1 (by decide) wf_X1_34 rfl rfl (by decide +kernel) rfl rfl (Nat.le_of_ble_eq_true rfl) rfl dX1_push_59 ?_
    refine x_perm (ws' := xJ [wSh2 G a ad ((lw + 1) % 2) sz, wCh G b s.1 s.2.1 s.2.2.1 s.2.2.2.1 s.2.2.2.2.1 s.2.2.2.2.2, wCs G ad (updS cs j s) 2]) X (List.Perm.append_left _ (List.Perm.append_left _ (put_cs hj).symm)) ?_
    exact x_retv X dX1_push_62 ⟨rfl, (by rw [← ej]; first | rw [if_pos (by omega), if_pos (by omega)] | rw [if_neg (by omega), if_neg (by omega)]), by decide, by decide⟩
  · -- 28 f
    refine x_aloadn X dX1_push_31 1 rfl ?_
    refine x_dup X dX1_push_32 rfl ?_
    refine x_get X wu_X1 0 rfl rfl 2 (by decide) wf_X1_22 rfl rfl dX1_push_33 ?_
    refine x_iconst (v := nI 1) X dX1_push_36 (by decide) ?_
    refine x_iadd (v := nI (sz + 1)) X dX1_push_37 (nI_add _ _) ?_
    refine x_put (ws' := xJ [wSh2 G a ad lw (sz + 1), wCh G b s.1 s.2.1 s.2.2.1 s.2.2.2.1 s.2.2.2.2.1 s.2.2.2.2.2, wCh G (ad j) s.1 s.2.1 s.2.2.1 s.2.2.2.1 s.2.2.2.2.1 s.2.2.2.2.2, wCo G ad cs 2 j]) (ty := tyX1 2) X wu_X1 tyX1_ok nmX1 0 rfl rfl 2 (by decide) wf_X1_22 rfl rfl (by decide +kernel) rfl rfl (Nat.le_of_ble_eq_true rfl) rfl dX1_push_38 ?_
    refine x_goto 62 X dX1_push_41 (by decide) ?_
    refine x_perm (ws' := xJ [wSh2 G a ad lw (sz + 1), wCh G b s.1 s.2.1 s.2.2.1 s.2.2.2.1 s.2.2.2.2.1 s.2.2.2.2.2, wCs G ad (updS cs j s) 2]) X (List.Perm.append_left _ (List.Perm.append_left _ (put_cs hj).symm)) ?_
    exact x_retv X dX1_push_62 ⟨rfl, (by rw [← ej]; first | rw [if_pos (by omega), if_pos (by omega)] | rw [if_neg (by omega), if_neg (by omega)]), by decide, by decide⟩
set_option maxRecDepth 100000 in
set_option maxHeartbeats 4000000 in
/-- X1_popInto__2 -/
theorem c_X1_popInto__2 (l : Launch) (G : xG) (a : Nat → Nat) (ad : Nat → Nat → Nat) (lw : Nat) (sz : Nat) (b : Nat → Nat) (s : xS) (cs : Nat → xS) (hlw : lw < 2) (hsz : sz ≤ 2) (h0 : 0 < sz) : xM l G xE0 yX1_popInto cX1_popInto 3 (some .boolean) 3 72 0 0 [.ref (a 0), .ref (b 0)] (xJ [wSh2 G a ad lw sz, wCq G b s, wCs G ad cs 2]) (some (.int (bI true))) (fun w2 => w2 = xJ [wSh2 G a ad lw (sz - 1), wCq G b (cs ((lw + (sz - 1)) % 2)), wCs G ad cs 2]) := by
  refine x_entry (by decide +kernel) (Nat.le_of_ble_eq_true rfl) rfl ⟨_, rfl, bI_narrow _⟩ (fun K X => ?_)
  refine x_aloadn X dX1_popInto_0 0 rfl ?_
  refine x_get X wu_X1 0 rfl rfl 2 (by decide) wf_X1_22 rfl rfl dX1_popInto_1 ?_
  refine x_if_le_n 20 X dX1_popInto_4 (by decide) (by omega) (fun c_1 => ?_) (fun c_1 => ?_)
  · -- 4 t
    exact absurd c_1 (by omega)
  · -- 4 f
    refine x_aloadn X dX1_popInto_7 0 rfl ?_
    refine x_aloadn X dX1_popInto_8 0 rfl ?_
    refine x_get X wu_X1 0 rfl rfl 2 (by decide) wf_X1_22 rfl rfl dX1_popInto_9 ?_
    refine x_iconst (v := nI 1) X dX1_popInto_12 (by decide) ?_
    refine x_isub (v := nI (sz - 1)) X dX1_popInto_13 (pk_sub (by omega)) ?_
    refine x_callVJrv (As := [.int (nI (sz - 1))]) (rest := []) (segs := [wSh2 G a ad lw sz, wCq G b s, wCs G ad cs 2]) [0] [1, 2] (show ([0] ++ [1, 2] : List Nat).Perm (List.range 3) from by decide) X (c_X1_placeAbove__2 l G a ad lw sz (sz - 1) (by omega) (by omega)) rfl xE0_ok (fun _ _ _ => trivial) 0 rfl rfl rfl wco_X1_placeAbove wi_X1 xd_X1_placeAbove wl_X1_26 win_X1_placeAbove wse_X1_placeAbove (by decide) (Nat.le_of_ble_eq_true rfl) dX1_popInto_14 ?_
    obtain ⟨j, ej⟩ : ∃ j : Nat, j = (lw + (sz - 1)) % 2 := ⟨_, rfl⟩
    have hj : j < 2 := by rw [ej]; exact Nat.mod_lt _ (by decide)
    rw [← ej]
    refine x_perm (ws' := xJ [wSh2 G a ad lw sz, wCq G b s, wCq G (ad j) (cs j), wCo G ad cs 2 j]) X (List.Perm.append_left _ (List.Perm.append_left _ (cut_cs hj))) ?_
    refine x_goto 21 X dX1_popInto_17 (by decide) ?_
    refine x_astoren (lv' := [(2, .ref ((ad j) 0)), (0, .ref (a 0)), (1, .ref (b 0))]) X dX1_popInto_21 (by decide) rfl ?_
    refine x_aloadn X dX1_popInto_22 0 rfl ?_
    refine x_ifnonnull 28 X dX1_popInto_23 (by decide) ?_
    refine x_aloadn X dX1_popInto_28 2 rfl ?_
    refine x_aloadn X dX1_popInto_29 0 rfl ?_
    refine x_callVJf0 (As := [.ref ((ad j) 0)]) (rest := []) (segs := [wSh2 G a ad lw sz, wCq G b s, wCq G (ad j) (cs j), wCo G ad cs 2 j]) (segs' := [wSh2 G a ad lw sz, wCh G b ((cs j).1) ((cs j).2.1) ((cs j).2.2.1) ((cs j).2.2.2.1) ((cs j).2.2.2.2.1) ((cs j).2.2.2.2.2), wCh G (ad j) ((cs j).1) ((cs j).2.1) ((cs j).2.2.1) ((cs j).2.2.2.1) ((cs j).2.2.2.2.1) ((cs j).2.2.2.2.2), wCo G ad cs 2 j]) (mid := [wSh2 G a ad lw sz, wCo G ad cs 2 j]) (w1 := xJ [wCh G b ((cs j).1) ((cs j).2.1) ((cs j).2.2.1) ((cs j).2.2.2.1) ((cs j).2.2.2.2.1) ((cs j).2.2.2.2.2), wCh G (ad j) ((cs j).1) ((cs j).2.1) ((cs j).2.2.1) ((cs j).2.2.2.1) ((cs j).2.2.2.2.1) ((cs j).2.2.2.2.2)]) [1, 2] [0, 3] (show ([1, 2] ++ [0, 3] : List Nat).Perm (List.range 4) from by decide) rfl X (c_X0_becomeLike l G b s.1 s.2.1 s.2.2.1 s.2.2.2.1 s.2.2.2.2.1 s.2.2.2.2.2 (ad j) ((cs j).1) ((cs j).2.1) ((cs j).2.2.1) ((cs j).2.2.2.1) ((cs j).2.2.2.2.1) ((cs j).2.2.2.2.2)) rfl rfl rfl rfl xE0_ok (fun _ _ _ => trivial) 0 rfl rfl rfl wco_X0_becomeLike wi_X0 xd_X0_becomeLike wl_X1_30 win_X0_becomeLike wse_X0_becomeLike (by decide) (Nat.le_of_ble_eq_true rfl) dX1_popInto_30 (Eq.trans (b := [b 0, b 1, b 2, b 3, b 4, (ad j) 0, (ad j) 1, (ad j) 2, (ad j) 3, (ad j) 4]) rfl rfl) ?_
    refine x_aloadn X dX1_popInto_33 1 rfl ?_
    refine x_dup X dX1_popInto_34 rfl ?_
    refine x_get X wu_X1 0 rfl rfl 2 (by decide) wf_X1_22 rfl rfl dX1_popInto_35 ?_
    refine x_iconst (v := nI 1) X dX1_popInto_38 (by decide) ?_
    refine x_isub (v := nI (sz - 1)) X dX1_popInto_39 (pk_sub (by omega)) ?_
    refine x_put (ws' := xJ [wSh2 G a ad lw (sz - 1), wCh G b ((cs j).1) ((cs j).2.1) ((cs j).2.2.1) ((cs j).2.2.2.1) ((cs j).2.2.2.2.1) ((cs j).2.2.2.2.2), wCh G (ad j) ((cs j).1) ((cs j).2.1) ((cs j).2.2.1) ((cs j).2.2.2.1) ((cs j).2.2.2.2.1) ((cs j).2.2.2.2.2), wCo G ad cs 2 j]) (ty := tyX1 2) X wu_X1 tyX1_ok nmX1 0 rfl rfl 2 (by decide) wf_X1_22 rfl rfl (by decide +kernel) rfl rfl (Nat.le_of_ble_eq_true rfl) rfl dX1_popInto_40 ?_
    refine x_iconst (v := nI 1) X dX1_popInto_43 (by decide) ?_
    refine x_perm (ws' := xJ [wSh2 G a ad lw (sz - 1), wCh G b ((cs j).1) ((cs j).2.1) ((cs j).2.2.1) ((cs j).2.2.2.1) ((cs j).2.2.2.2.1) ((cs j).2.2.2.2.2), wCs G ad cs 2]) X (List.Perm.append_left _ (List.Perm.append_left _ (cut_cs hj).symm)) ?_
    exact x_ret X dX1_popInto_44 ⟨ret_i (by rfl), (by rw [← ej]), by decide, by decide⟩
set_option maxRecDepth 100000 in
set_option maxHeartbeats 4000000 in
/-- X1_popInto__20 -/
theorem c_X1_popInto__20 (l : Launch) (G : xG) (a : Nat → Nat) (ad : Nat → Nat → Nat) (lw : Nat) (b : Nat → Nat) (s : xS)  : xM l G xE0 yX1_popInto cX1_popInto 3 (some .boolean) 0 0 0 0 [.ref (a 0), .ref (b 0)] (xJ [wSh2 G a ad lw 0, wCq G b s]) (some (.int (bI false))) (fun w2 => w2 = xJ [wSh2 G a ad lw 0, wCq G b s]) := by
  refine x_entry (by decide +kernel) (Nat.le_of_ble_eq_true rfl) rfl ⟨_, rfl, bI_narrow _⟩ (fun K X => ?_)
  refine x_aloadn X dX1_popInto_0 0 rfl ?_
  refine x_get X wu_X1 0 rfl rfl 2 (by decide) wf_X1_22 rfl rfl dX1_popInto_1 ?_
  refine x_if_le_n 20 X dX1_popInto_4 (by decide) (by omega) (fun c_1 => ?_) (fun c_1 => ?_)
  · -- 4 t
    refine x_null X dX1_popInto_20 ?_
    refine x_astorenN (lv' := [(2, .null), (0, .ref (a 0)), (1, .ref (b 0))]) X dX1_popInto_21 (by decide) rfl ?_
    refine x_aloadnN X dX1_popInto_22 0 rfl ?_
    refine x_ifnonnullN X dX1_popInto_23 ?_
    refine x_iconst (v := nI 0) X dX1_popInto_26 (by decide) ?_
    exact x_ret X dX1_popInto_27 ⟨ret_i (by rfl), rfl, by decide, by decide⟩
  · -- 4 f
    exact absurd c_1 (by omega)
end
section
/-! ===== the class's questions ===== -/
abbrev wInk (G : xG) (o : Nat) (x w d h g q : Nat → Nat) (e : Nat) : va_W := [(o, .inr (4, [.ref (x 0), .ref (w 0), .ref (d 0), .ref (h 0), .ref (g 0), .ref (q 0), .ref e]))]
def F_wr (s : xS) (p t : Nat) (n : Int32) : Int32 := F_ink (s.2.2.1 p) (s.2.2.2.2.1 (tn (s.2.2.2.1 p) * 5 + t)) (s.2.2.2.2.1 (p * 5 + t)) n
def F_wf (s : xS) (p m t : Nat) (n : Int32) : Int32 := F_ink (s.2.2.1 p) (s.2.2.2.2.1 (m * 5 + t)) (s.2.2.2.2.1 (p * 5 + t)) n
def F_person (s : xS) (p what : Int32) : Int32 := if (inR p s.1 && inR what 2) = true then (if tn what = 0 then s.2.2.1 (tn p) else s.2.2.2.1 (tn p)) else (-1)
def F_view (s : xS) (p t : Int32) : Int32 := if (inR p s.1 && inR t 5) = true then s.2.2.2.2.1 (tn p * 5 + tn t) + nI 9 else (-1)
def F_line (s : xS) (a t : Int32) : Int32 := if (inR a s.2.1 && inR t 5) = true then F_told (s.2.2.2.2.2 (tn a * 5 + tn t)) else (-1)
def F_would (s : xS) (p t n : Int32) : Int32 := if (inR p s.1 && (inR t 5 && inR n 11)) = true then F_wr s (tn p) (tn t) n + nI 9 else (-1)
def F_owb (s : xS) (a p : Nat) : Nat → Int32
  | 0 => nI 0
  | t + 1 => if s.2.2.2.2.2 (a * 5 + t) = s.2.2.2.2.1 (p * 5 + t) then F_owb s a p t ||| (nI 1 <<< (nI t &&& 31)) else F_owb s a p t
def F_own (s : xS) (a p : Int32) : Int32 := if (inR a s.2.1 && inR p s.1) = true then F_owb s (tn a) (tn p) 5 else (-1)
/-- the first from i on, of k -/
def F_fnd (P : Nat → Bool) : Nat → Nat → Int32
  | 0, _ => (-4)
  | k + 1, i => if P i = true then nI i else F_fnd P k (i + 1)
theorem F_fnd_y {P : Nat → Bool} {N i : Nat} (h : i < N) (hp : P i = true) : F_fnd P (N - i) i = nI i := by rw [show N - i = (N - i - 1) + 1 by omega, F_fnd, if_pos hp]
theorem F_fnd_n {P : Nat → Bool} {N i : Nat} (h : i < N) (hp : P i = false) : F_fnd P (N - (i + 1)) (i + 1) = F_fnd P (N - i) i := by rw [show N - i = (N - (i + 1)) + 1 by omega, F_fnd, if_neg (by rw [hp]; decide)]
theorem F_fnd_e {P : Nat → Bool} {N i : Nat} (h : N ≤ i) : F_fnd P (N - i) i = (-4) := by rw [show N - i = 0 by omega, F_fnd]
def P_tears (s : xS) (p t : Nat) (v : Int32) (n : Nat) : Bool := decide (F_wr s p t (nI n) = v - nI 9)
def F_tears (s : xS) (p t v : Int32) : Int32 := if (inR p s.1 && (inR t 5 && inR v 19)) = true then F_fnd (P_tears s (tn p) (tn t) v) 11 0 else (-1)
def P_whom (s : xS) (p t : Nat) (v : Int32) (m : Nat) : Bool := decide (m ≠ p) && decide (F_wf s p m t (nI 0) = v - nI 9)
def F_whom (s : xS) (p t v : Int32) : Int32 := if (inR p s.1 && (inR t 5 && inR v 19)) = true then F_fnd (P_whom s (tn p) (tn t) v) s.1 0 else (-1)
def F_trb (s : xS) (p q : Nat) (n : Int32) : Nat → Int32
  | 0 => nI 0
  | t + 1 => if F_wf s p q t n = F_wf s q p t n then F_trb s p q n t ||| (nI 1 <<< (nI t &&& 31)) else F_trb s p q n t
def F_treaty (s : xS) (p q n : Int32) : Int32 := if (inR p s.1 && (inR q s.1 && (!decide (p = q) && inR n 11))) = true then F_trb s (tn p) (tn q) n 5 else (-1)
def F_rnd (s : xS) (a t : Nat) : Nat → Int32
  | 0 => s.2.2.2.2.2 (a * 5 + t)
  | k + 1 => F_cop (s.2.2.1 (k % s.1)) (s.2.2.2.2.1 (tn (s.2.2.2.1 (k % s.1)) * 5 + t)) (F_rnd s a t k)
def F_round (s : xS) (a t k : Int32) : Int32 := if (inR a s.2.1 && (inR t 5 && inR k 61)) = true then F_told (F_rnd s (tn a) (tn t) (tn k)) else (-1)
def F_us (x n : Int32) : Int32 := (x.toUInt32 >>> (n.toUInt32 &&& Int32.toUInt32 31)).toInt32
def F_bc1 (x : Int32) : Int32 := x - (F_us x (nI 1) &&& nI 1431655765)
def F_bc2 (x : Int32) : Int32 := (x &&& nI 858993459) + (F_us x (nI 2) &&& nI 858993459)
def F_bc3 (x : Int32) : Int32 := (x + F_us x (nI 4)) &&& nI 252645135
def F_bc4 (x : Int32) : Int32 := x + F_us x (nI 8)
def F_bc5 (x : Int32) : Int32 := x + F_us x (nI 16)
def F_bc (x : Int32) : Int32 := F_bc5 (F_bc4 (F_bc3 (F_bc2 (F_bc1 x)))) &&& nI 63
def F_lsb (s : xS) (a p : Nat) : Nat → Int32
  | 0 => nI 0
  | t + 1 => if s.2.2.2.2.2 (a * 5 + t) = s.2.2.2.2.1 (p * 5 + t) then F_lsb s a p t else F_lsb s a p t ||| (nI 1 <<< (nI t &&& 31))
def F_least (s : xS) (a p what : Int32) : Int32 := if (inR a s.2.1 && (inR p s.1 && inR what 2)) = true then (if F_fil s.2.2.2.2.2 (tn a) 5 < 5 then (-4) else if tn what = 0 then F_bc (F_lsb s (tn a) (tn p) 5) else F_lsb s (tn a) (tn p) 5) else (-1)

set_option maxRecDepth 100000 in
set_option maxHeartbeats 4000000 in
/-- J6_bitCount_0f7a4 -/
theorem c_J6_bitCount_0f7a4 (l : Launch) (G : xG) (v : Int32)  : xM l G xE0 yJ6_bitCount_0f7a4 cJ6_bitCount_0f7a4 1 (some .int) 0 0 0 0 [.int v] ([]) (some (.int (F_bc v))) (fun w2 => w2 = []) := by
  refine x_entry (by decide +kernel) (Nat.le_of_ble_eq_true rfl) rfl ⟨_, rfl, rfl⟩ (fun K X => ?_)
  refine x_iloadn X dJ6_bitCount_0f7a4_0 0 rfl ?_
  refine x_iloadn X dJ6_bitCount_0f7a4_1 0 rfl ?_
  refine x_iconst (v := nI 1) X dJ6_bitCount_0f7a4_2 (by decide) ?_
  refine x_iushr (v := (v.toUInt32 >>> ((nI 1).toUInt32 &&& Int32.toUInt32 31)).toInt32) X dJ6_bitCount_0f7a4_3 rfl ?_
  refine x_ldcw (v := nI 1431655765) X wk_J6_265 dJ6_bitCount_0f7a4_4 ?_
  refine x_iand (v := ((v.toUInt32 >>> ((nI 1).toUInt32 &&& Int32.toUInt32 31)).toInt32) &&& (nI 1431655765)) X dJ6_bitCount_0f7a4_7 rfl ?_
  refine x_isub (v := v - (((v.toUInt32 >>> ((nI 1).toUInt32 &&& Int32.toUInt32 31)).toInt32) &&& (nI 1431655765))) X dJ6_bitCount_0f7a4_8 rfl ?_
  refine x_istoren (lv' := [(0, .int (v - (((v.toUInt32 >>> ((nI 1).toUInt32 &&& Int32.toUInt32 31)).toInt32) &&& (nI 1431655765))))]) X dJ6_bitCount_0f7a4_9 (by decide) rfl ?_
  refine x_iloadn X dJ6_bitCount_0f7a4_10 0 rfl ?_
  refine x_ldcw (v := nI 858993459) X wk_J6_266 dJ6_bitCount_0f7a4_11 ?_
  refine x_iand (v := (v - (((v.toUInt32 >>> ((nI 1).toUInt32 &&& Int32.toUInt32 31)).toInt32) &&& (nI 1431655765))) &&& (nI 858993459)) X dJ6_bitCount_0f7a4_14 rfl ?_
  refine x_iloadn X dJ6_bitCount_0f7a4_15 0 rfl ?_
  refine x_iconst (v := nI 2) X dJ6_bitCount_0f7a4_16 (by decide) ?_
  refine x_iushr (v := ((v - (((v.toUInt32 >>> ((nI 1).toUInt32 &&& Int32.toUInt32 31)).toInt32) &&& (nI 1431655765))).toUInt32 >>> ((nI 2).toUInt32 &&& Int32.toUInt32 31)).toInt32) X dJ6_bitCount_0f7a4_17 rfl ?_
  refine x_ldcw (v := nI 858993459) X wk_J6_266 dJ6_bitCount_0f7a4_18 ?_
  refine x_iand (v := (((v - (((v.toUInt32 >>> ((nI 1).toUInt32 &&& Int32.toUInt32 31)).toInt32) &&& (nI 1431655765))).toUInt32 >>> ((nI 2).toUInt32 &&& Int32.toUInt32 31)).toInt32) &&& (nI 858993459)) X dJ6_bitCount_0f7a4_21 rfl ?_
  refine x_iadd (v := ((v - (((v.toUInt32 >>> ((nI 1).toUInt32 &&& Int32.toUInt32 31)).toInt32) &&& (nI 1431655765))) &&& (nI 858993459)) + ((((v - (((v.toUInt32 >>> ((nI 1).toUInt32 &&& Int32.toUInt32 31)).toInt32) &&& (nI 1431655765))).toUInt32 >>> ((nI 2).toUInt32 &&& Int32.toUInt32 31)).toInt32) &&& (nI 858993459))) X dJ6_bitCount_0f7a4_22 rfl ?_
  refine x_istoren (lv' := [(0, .int (((v - (((v.toUInt32 >>> ((nI 1).toUInt32 &&& Int32.toUInt32 31)).toInt32) &&& (nI 1431655765))) &&& (nI 858993459)) + ((((v - (((v.toUInt32 >>> ((nI 1).toUInt32 &&& Int32.toUInt32 31)).toInt32) &&& (nI 1431655765))).toUInt32 >>> ((nI 2).toUInt32 &&& Int32.toUInt32 31)).toInt32) &&& (nI 858993459))))]) X dJ6_bitCount_0f7a4_23 (by decide) rfl ?_
  refine x_iloadn X dJ6_bitCount_0f7a4_24 0 rfl ?_
  refine x_iloadn X dJ6_bitCount_0f7a4_25 0 rfl ?_
  refine x_iconst (v := nI 4) X dJ6_bitCount_0f7a4_26 (by decide) ?_
  refine x_iushr (v := ((((v - (((v.toUInt32 >>> ((nI 1).toUInt32 &&& Int32.toUInt32 31)).toInt32) &&& (nI 1431655765))) &&& (nI 858993459)) + ((((v - (((v.toUInt32 >>> ((nI 1).toUInt32 &&& Int32.toUInt32 31)).toInt32) &&& (nI 1431655765))).toUInt32 >>> ((nI 2).toUInt32 &&& Int32.toUInt32 31)).toInt32) &&& (nI 858993459))).toUInt32 >>> ((nI 4).toUInt32 &&& Int32.toUInt32 31)).toInt32) X dJ6_bitCount_0f7a4_27 rfl ?_
  refine x_iadd (v := (((v - (((v.toUInt32 >>> ((nI 1).toUInt32 &&& Int32.toUInt32 31)).toInt32) &&& (nI 1431655765))) &&& (nI 858993459)) + ((((v - (((v.toUInt32 >>> ((nI 1).toUInt32 &&& Int32.toUInt32 31)).toInt32) &&& (nI 1431655765))).toUInt32 >>> ((nI 2).toUInt32 &&& Int32.toUInt32 31)).toInt32) &&& (nI 858993459))) + (((((v - (((v.toUInt32 >>> ((nI 1).toUInt32 &&& Int32.toUInt32 31)).toInt32) &&& (nI 1431655765))) &&& (nI 858993459)) + ((((v - (((v.toUInt32 >>> ((nI 1).toUInt32 &&& Int32.toUInt32 31)).toInt32) &&& (nI 1431655765))).toUInt32 >>> ((nI 2).toUInt32 &&& Int32.toUInt32 31)).toInt32) &&& (nI 858993459))).toUInt32 >>> ((nI 4).toUInt32 &&& Int32.toUInt32 31)).toInt32)) X dJ6_bitCount_0f7a4_28 rfl ?_
  refine x_ldcw (v := nI 252645135) X wk_J6_267 dJ6_bitCount_0f7a4_29 ?_
  refine x_iand (v := ((((v - (((v.toUInt32 >>> ((nI 1).toUInt32 &&& Int32.toUInt32 31)).toInt32) &&& (nI 1431655765))) &&& (nI 858993459)) + ((((v - (((v.toUInt32 >>> ((nI 1).toUInt32 &&& Int32.toUInt32 31)).toInt32) &&& (nI 1431655765))).toUInt32 >>> ((nI 2).toUInt32 &&& Int32.toUInt32 31)).toInt32) &&& (nI 858993459))) + (((((v - (((v.toUInt32 >>> ((nI 1).toUInt32 &&& Int32.toUInt32 31)).toInt32) &&& (nI 1431655765))) &&& (nI 858993459)) + ((((v - (((v.toUInt32 >>> ((nI 1).toUInt32 &&& Int32.toUInt32 31)).toInt32) &&& (nI 1431655765))).toUInt32 >>> ((nI 2).toUInt32 &&& Int32.toUInt32 31)).toInt32) &&& (nI 858993459))).toUInt32 >>> ((nI 4).toUInt32 &&& Int32.toUInt32 31)).toInt32)) &&& (nI 252645135)) X dJ6_bitCount_0f7a4_32 rfl ?_
  refine x_istoren (lv' := [(0, .int (((((v - (((v.toUInt32 >>> ((nI 1).toUInt32 &&& Int32.toUInt32 31)).toInt32) &&& (nI 1431655765))) &&& (nI 858993459)) + ((((v - (((v.toUInt32 >>> ((nI 1).toUInt32 &&& Int32.toUInt32 31)).toInt32) &&& (nI 1431655765))).toUInt32 >>> ((nI 2).toUInt32 &&& Int32.toUInt32 31)).toInt32) &&& (nI 858993459))) + (((((v - (((v.toUInt32 >>> ((nI 1).toUInt32 &&& Int32.toUInt32 31)).toInt32) &&& (nI 1431655765))) &&& (nI 858993459)) + ((((v - (((v.toUInt32 >>> ((nI 1).toUInt32 &&& Int32.toUInt32 31)).toInt32) &&& (nI 1431655765))).toUInt32 >>> ((nI 2).toUInt32 &&& Int32.toUInt32 31)).toInt32) &&& (nI 858993459))).toUInt32 >>> ((nI 4).toUInt32 &&& Int32.toUInt32 31)).toInt32)) &&& (nI 252645135)))]) X dJ6_bitCount_0f7a4_33 (by decide) rfl ?_
  refine x_iloadn X dJ6_bitCount_0f7a4_34 0 rfl ?_
  refine x_iloadn X dJ6_bitCount_0f7a4_35 0 rfl ?_
  refine x_bipush (v := nI 8) X dJ6_bitCount_0f7a4_36 (by decide) ?_
  refine x_iushr (v := ((((((v - (((v.toUInt32 >>> ((nI 1).toUInt32 &&& Int32.toUInt32 31)).toInt32) &&& (nI 1431655765))) &&& (nI 858993459)) + ((((v - (((v.toUInt32 >>> ((nI 1).toUInt32 &&& Int32.toUInt32 31)).toInt32) &&& (nI 1431655765))).toUInt32 >>> ((nI 2).toUInt32 &&& Int32.toUInt32 31)).toInt32) &&& (nI 858993459))) + (((((v - (((v.toUInt32 >>> ((nI 1).toUInt32 &&& Int32.toUInt32 31)).toInt32) &&& (nI 1431655765))) &&& (nI 858993459)) + ((((v - (((v.toUInt32 >>> ((nI 1).toUInt32 &&& Int32.toUInt32 31)).toInt32) &&& (nI 1431655765))).toUInt32 >>> ((nI 2).toUInt32 &&& Int32.toUInt32 31)).toInt32) &&& (nI 858993459))).toUInt32 >>> ((nI 4).toUInt32 &&& Int32.toUInt32 31)).toInt32)) &&& (nI 252645135)).toUInt32 >>> ((nI 8).toUInt32 &&& Int32.toUInt32 31)).toInt32) X dJ6_bitCount_0f7a4_38 rfl ?_
  refine x_iadd (v := (((((v - (((v.toUInt32 >>> ((nI 1).toUInt32 &&& Int32.toUInt32 31)).toInt32) &&& (nI 1431655765))) &&& (nI 858993459)) + ((((v - (((v.toUInt32 >>> ((nI 1).toUInt32 &&& Int32.toUInt32 31)).toInt32) &&& (nI 1431655765))).toUInt32 >>> ((nI 2).toUInt32 &&& Int32.toUInt32 31)).toInt32) &&& (nI 858993459))) + (((((v - (((v.toUInt32 >>> ((nI 1).toUInt32 &&& Int32.toUInt32 31)).toInt32) &&& (nI 1431655765))) &&& (nI 858993459)) + ((((v - (((v.toUInt32 >>> ((nI 1).toUInt32 &&& Int32.toUInt32 31)).toInt32) &&& (nI 1431655765))).toUInt32 >>> ((nI 2).toUInt32 &&& Int32.toUInt32 31)).toInt32) &&& (nI 858993459))).toUInt32 >>> ((nI 4).toUInt32 &&& Int32.toUInt32 31)).toInt32)) &&& (nI 252645135)) + (((((((v - (((v.toUInt32 >>> ((nI 1).toUInt32 &&& Int32.toUInt32 31)).toInt32) &&& (nI 1431655765))) &&& (nI 858993459)) + ((((v - (((v.toUInt32 >>> ((nI 1).toUInt32 &&& Int32.toUInt32 31)).toInt32) &&& (nI 1431655765))).toUInt32 >>> ((nI 2).toUInt32 &&& Int32.toUInt32 31)).toInt32) &&& (nI 858993459))) + (((((v - (((v.toUInt32 >>> ((nI 1).toUInt32 &&& Int32.toUInt32 31)).toInt32) &&& (nI 1431655765))) &&& (nI 858993459)) + ((((v - (((v.toUInt32 >>> ((nI 1).toUInt32 &&& Int32.toUInt32 31)).toInt32) &&& (nI 1431655765))).toUInt32 >>> ((nI 2).toUInt32 &&& Int32.toUInt32 31)).toInt32) &&& (nI 858993459))).toUInt32 >>> ((nI 4).toUInt32 &&& Int32.toUInt32 31)).toInt32)) &&& (nI 252645135)).toUInt32 >>> ((nI 8).toUInt32 &&& Int32.toUInt32 31)).toInt32)) X dJ6_bitCount_0f7a4_39 rfl ?_
  refine x_istoren (lv' := [(0, .int ((((((v - (((v.toUInt32 >>> ((nI 1).toUInt32 &&& Int32.toUInt32 31)).toInt32) &&& (nI 1431655765))) &&& (nI 858993459)) + ((((v - (((v.toUInt32 >>> ((nI 1).toUInt32 &&& Int32.toUInt32 31)).toInt32) &&& (nI 1431655765))).toUInt32 >>> ((nI 2).toUInt32 &&& Int32.toUInt32 31)).toInt32) &&& (nI 858993459))) + (((((v - (((v.toUInt32 >>> ((nI 1).toUInt32 &&& Int32.toUInt32 31)).toInt32) &&& (nI 1431655765))) &&& (nI 858993459)) + ((((v - (((v.toUInt32 >>> ((nI 1).toUInt32 &&& Int32.toUInt32 31)).toInt32) &&& (nI 1431655765))).toUInt32 >>> ((nI 2).toUInt32 &&& Int32.toUInt32 31)).toInt32) &&& (nI 858993459))).toUInt32 >>> ((nI 4).toUInt32 &&& Int32.toUInt32 31)).toInt32)) &&& (nI 252645135)) + (((((((v - (((v.toUInt32 >>> ((nI 1).toUInt32 &&& Int32.toUInt32 31)).toInt32) &&& (nI 1431655765))) &&& (nI 858993459)) + ((((v - (((v.toUInt32 >>> ((nI 1).toUInt32 &&& Int32.toUInt32 31)).toInt32) &&& (nI 1431655765))).toUInt32 >>> ((nI 2).toUInt32 &&& Int32.toUInt32 31)).toInt32) &&& (nI 858993459))) + (((((v - (((v.toUInt32 >>> ((nI 1).toUInt32 &&& Int32.toUInt32 31)).toInt32) &&& (nI 1431655765))) &&& (nI 858993459)) + ((((v - (((v.toUInt32 >>> ((nI 1).toUInt32 &&& Int32.toUInt32 31)).toInt32) &&& (nI 1431655765))).toUInt32 >>> ((nI 2).toUInt32 &&& Int32.toUInt32 31)).toInt32) &&& (nI 858993459))).toUInt32 >>> ((nI 4).toUInt32 &&& Int32.toUInt32 31)).toInt32)) &&& (nI 252645135)).toUInt32 >>> ((nI 8).toUInt32 &&& Int32.toUInt32 31)).toInt32)))]) X dJ6_bitCount_0f7a4_40 (by decide) rfl ?_
  refine x_iloadn X dJ6_bitCount_0f7a4_41 0 rfl ?_
  refine x_iloadn X dJ6_bitCount_0f7a4_42 0 rfl ?_
  refine x_bipush (v := nI 16) X dJ6_bitCount_0f7a4_43 (by decide) ?_
  refine x_iushr (v := (((((((v - (((v.toUInt32 >>> ((nI 1).toUInt32 &&& Int32.toUInt32 31)).toInt32) &&& (nI 1431655765))) &&& (nI 858993459)) + ((((v - (((v.toUInt32 >>> ((nI 1).toUInt32 &&& Int32.toUInt32 31)).toInt32) &&& (nI 1431655765))).toUInt32 >>> ((nI 2).toUInt32 &&& Int32.toUInt32 31)).toInt32) &&& (nI 858993459))) + (((((v - (((v.toUInt32 >>> ((nI 1).toUInt32 &&& Int32.toUInt32 31)).toInt32) &&& (nI 1431655765))) &&& (nI 858993459)) + ((((v - (((v.toUInt32 >>> ((nI 1).toUInt32 &&& Int32.toUInt32 31)).toInt32) &&& (nI 1431655765))).toUInt32 >>> ((nI 2).toUInt32 &&& Int32.toUInt32 31)).toInt32) &&& (nI 858993459))).toUInt32 >>> ((nI 4).toUInt32 &&& Int32.toUInt32 31)).toInt32)) &&& (nI 252645135)) + (((((((v - (((v.toUInt32 >>> ((nI 1).toUInt32 &&& Int32.toUInt32 31)).toInt32) &&& (nI 1431655765))) &&& (nI 858993459)) + ((((v - (((v.toUInt32 >>> ((nI 1).toUInt32 &&& Int32.toUInt32 31)).toInt32) &&& (nI 1431655765))).toUInt32 >>> ((nI 2).toUInt32 &&& Int32.toUInt32 31)).toInt32) &&& (nI 858993459))) + (((((v - (((v.toUInt32 >>> ((nI 1).toUInt32 &&& Int32.toUInt32 31)).toInt32) &&& (nI 1431655765))) &&& (nI 858993459)) + ((((v - (((v.toUInt32 >>> ((nI 1).toUInt32 &&& Int32.toUInt32 31)).toInt32) &&& (nI 1431655765))).toUInt32 >>> ((nI 2).toUInt32 &&& Int32.toUInt32 31)).toInt32) &&& (nI 858993459))).toUInt32 >>> ((nI 4).toUInt32 &&& Int32.toUInt32 31)).toInt32)) &&& (nI 252645135)).toUInt32 >>> ((nI 8).toUInt32 &&& Int32.toUInt32 31)).toInt32)).toUInt32 >>> ((nI 16).toUInt32 &&& Int32.toUInt32 31)).toInt32) X dJ6_bitCount_0f7a4_45 rfl ?_
  refine x_iadd (v := ((((((v - (((v.toUInt32 >>> ((nI 1).toUInt32 &&& Int32.toUInt32 31)).toInt32) &&& (nI 1431655765))) &&& (nI 858993459)) + ((((v - (((v.toUInt32 >>> ((nI 1).toUInt32 &&& Int32.toUInt32 31)).toInt32) &&& (nI 1431655765))).toUInt32 >>> ((nI 2).toUInt32 &&& Int32.toUInt32 31)).toInt32) &&& (nI 858993459))) + (((((v - (((v.toUInt32 >>> ((nI 1).toUInt32 &&& Int32.toUInt32 31)).toInt32) &&& (nI 1431655765))) &&& (nI 858993459)) + ((((v - (((v.toUInt32 >>> ((nI 1).toUInt32 &&& Int32.toUInt32 31)).toInt32) &&& (nI 1431655765))).toUInt32 >>> ((nI 2).toUInt32 &&& Int32.toUInt32 31)).toInt32) &&& (nI 858993459))).toUInt32 >>> ((nI 4).toUInt32 &&& Int32.toUInt32 31)).toInt32)) &&& (nI 252645135)) + (((((((v - (((v.toUInt32 >>> ((nI 1).toUInt32 &&& Int32.toUInt32 31)).toInt32) &&& (nI 1431655765))) &&& (nI 858993459)) + ((((v - (((v.toUInt32 >>> ((nI 1).toUInt32 &&& Int32.toUInt32 31)).toInt32) &&& (nI 1431655765))).toUInt32 >>> ((nI 2).toUInt32 &&& Int32.toUInt32 31)).toInt32) &&& (nI 858993459))) + (((((v - (((v.toUInt32 >>> ((nI 1).toUInt32 &&& Int32.toUInt32 31)).toInt32) &&& (nI 1431655765))) &&& (nI 858993459)) + ((((v - (((v.toUInt32 >>> ((nI 1).toUInt32 &&& Int32.toUInt32 31)).toInt32) &&& (nI 1431655765))).toUInt32 >>> ((nI 2).toUInt32 &&& Int32.toUInt32 31)).toInt32) &&& (nI 858993459))).toUInt32 >>> ((nI 4).toUInt32 &&& Int32.toUInt32 31)).toInt32)) &&& (nI 252645135)).toUInt32 >>> ((nI 8).toUInt32 &&& Int32.toUInt32 31)).toInt32)) + ((((((((v - (((v.toUInt32 >>> ((nI 1).toUInt32 &&& Int32.toUInt32 31)).toInt32) &&& (nI 1431655765))) &&& (nI 858993459)) + ((((v - (((v.toUInt32 >>> ((nI 1).toUInt32 &&& Int32.toUInt32 31)).toInt32) &&& (nI 1431655765))).toUInt32 >>> ((nI 2).toUInt32 &&& Int32.toUInt32 31)).toInt32) &&& (nI 858993459))) + (((((v - (((v.toUInt32 >>> ((nI 1).toUInt32 &&& Int32.toUInt32 31)).toInt32) &&& (nI 1431655765))) &&& (nI 858993459)) + ((((v - (((v.toUInt32 >>> ((nI 1).toUInt32 &&& Int32.toUInt32 31)).toInt32) &&& (nI 1431655765))).toUInt32 >>> ((nI 2).toUInt32 &&& Int32.toUInt32 31)).toInt32) &&& (nI 858993459))).toUInt32 >>> ((nI 4).toUInt32 &&& Int32.toUInt32 31)).toInt32)) &&& (nI 252645135)) + (((((((v - (((v.toUInt32 >>> ((nI 1).toUInt32 &&& Int32.toUInt32 31)).toInt32) &&& (nI 1431655765))) &&& (nI 858993459)) + ((((v - (((v.toUInt32 >>> ((nI 1).toUInt32 &&& Int32.toUInt32 31)).toInt32) &&& (nI 1431655765))).toUInt32 >>> ((nI 2).toUInt32 &&& Int32.toUInt32 31)).toInt32) &&& (nI 858993459))) + (((((v - (((v.toUInt32 >>> ((nI 1).toUInt32 &&& Int32.toUInt32 31)).toInt32) &&& (nI 1431655765))) &&& (nI 858993459)) + ((((v - (((v.toUInt32 >>> ((nI 1).toUInt32 &&& Int32.toUInt32 31)).toInt32) &&& (nI 1431655765))).toUInt32 >>> ((nI 2).toUInt32 &&& Int32.toUInt32 31)).toInt32) &&& (nI 858993459))).toUInt32 >>> ((nI 4).toUInt32 &&& Int32.toUInt32 31)).toInt32)) &&& (nI 252645135)).toUInt32 >>> ((nI 8).toUInt32 &&& Int32.toUInt32 31)).toInt32)).toUInt32 >>> ((nI 16).toUInt32 &&& Int32.toUInt32 31)).toInt32)) X dJ6_bitCount_0f7a4_46 rfl ?_
  refine x_istoren (lv' := [(0, .int (((((((v - (((v.toUInt32 >>> ((nI 1).toUInt32 &&& Int32.toUInt32 31)).toInt32) &&& (nI 1431655765))) &&& (nI 858993459)) + ((((v - (((v.toUInt32 >>> ((nI 1).toUInt32 &&& Int32.toUInt32 31)).toInt32) &&& (nI 1431655765))).toUInt32 >>> ((nI 2).toUInt32 &&& Int32.toUInt32 31)).toInt32) &&& (nI 858993459))) + (((((v - (((v.toUInt32 >>> ((nI 1).toUInt32 &&& Int32.toUInt32 31)).toInt32) &&& (nI 1431655765))) &&& (nI 858993459)) + ((((v - (((v.toUInt32 >>> ((nI 1).toUInt32 &&& Int32.toUInt32 31)).toInt32) &&& (nI 1431655765))).toUInt32 >>> ((nI 2).toUInt32 &&& Int32.toUInt32 31)).toInt32) &&& (nI 858993459))).toUInt32 >>> ((nI 4).toUInt32 &&& Int32.toUInt32 31)).toInt32)) &&& (nI 252645135)) + (((((((v - (((v.toUInt32 >>> ((nI 1).toUInt32 &&& Int32.toUInt32 31)).toInt32) &&& (nI 1431655765))) &&& (nI 858993459)) + ((((v - (((v.toUInt32 >>> ((nI 1).toUInt32 &&& Int32.toUInt32 31)).toInt32) &&& (nI 1431655765))).toUInt32 >>> ((nI 2).toUInt32 &&& Int32.toUInt32 31)).toInt32) &&& (nI 858993459))) + (((((v - (((v.toUInt32 >>> ((nI 1).toUInt32 &&& Int32.toUInt32 31)).toInt32) &&& (nI 1431655765))) &&& (nI 858993459)) + ((((v - (((v.toUInt32 >>> ((nI 1).toUInt32 &&& Int32.toUInt32 31)).toInt32) &&& (nI 1431655765))).toUInt32 >>> ((nI 2).toUInt32 &&& Int32.toUInt32 31)).toInt32) &&& (nI 858993459))).toUInt32 >>> ((nI 4).toUInt32 &&& Int32.toUInt32 31)).toInt32)) &&& (nI 252645135)).toUInt32 >>> ((nI 8).toUInt32 &&& Int32.toUInt32 31)).toInt32)) + ((((((((v - (((v.toUInt32 >>> ((nI 1).toUInt32 &&& Int32.toUInt32 31)).toInt32) &&& (nI 1431655765))) &&& (nI 858993459)) + ((((v - (((v.toUInt32 >>> ((nI 1).toUInt32 &&& Int32.toUInt32 31)).toInt32) &&& (nI 1431655765))).toUInt32 >>> ((nI 2).toUInt32 &&& Int32.toUInt32 31)).toInt32) &&& (nI 858993459))) + (((((v - (((v.toUInt32 >>> ((nI 1).toUInt32 &&& Int32.toUInt32 31)).toInt32) &&& (nI 1431655765))) &&& (nI 858993459)) + ((((v - (((v.toUInt32 >>> ((nI 1).toUInt32 &&& Int32.toUInt32 31)).toInt32) &&& (nI 1431655765))).toUInt32 >>> ((nI 2).toUInt32 &&& Int32.toUInt32 31)).toInt32) &&& (nI 858993459))).toUInt32 >>> ((nI 4).toUInt32 &&& Int32.toUInt32 31)).toInt32)) &&& (nI 252645135)) + (((((((v - (((v.toUInt32 >>> ((nI 1).toUInt32 &&& Int32.toUInt32 31)).toInt32) &&& (nI 1431655765))) &&& (nI 858993459)) + ((((v - (((v.toUInt32 >>> ((nI 1).toUInt32 &&& Int32.toUInt32 31)).toInt32) &&& (nI 1431655765))).toUInt32 >>> ((nI 2).toUInt32 &&& Int32.toUInt32 31)).toInt32) &&& (nI 858993459))) + (((((v - (((v.toUInt32 >>> ((nI 1).toUInt32 &&& Int32.toUInt32 31)).toInt32) &&& (nI 1431655765))) &&& (nI 858993459)) + ((((v - (((v.toUInt32 >>> ((nI 1).toUInt32 &&& Int32.toUInt32 31)).toInt32) &&& (nI 1431655765))).toUInt32 >>> ((nI 2).toUInt32 &&& Int32.toUInt32 31)).toInt32) &&& (nI 858993459))).toUInt32 >>> ((nI 4).toUInt32 &&& Int32.toUInt32 31)).toInt32)) &&& (nI 252645135)).toUInt32 >>> ((nI 8).toUInt32 &&& Int32.toUInt32 31)).toInt32)).toUInt32 >>> ((nI 16).toUInt32 &&& Int32.toUInt32 31)).toInt32)))]) X dJ6_bitCount_0f7a4_47 (by decide) rfl ?_
  refine x_iloadn X dJ6_bitCount_0f7a4_48 0 rfl ?_
  refine x_bipush (v := nI 63) X dJ6_bitCount_0f7a4_49 (by decide) ?_
  refine x_iand (v := (((((((v - (((v.toUInt32 >>> ((nI 1).toUInt32 &&& Int32.toUInt32 31)).toInt32) &&& (nI 1431655765))) &&& (nI 858993459)) + ((((v - (((v.toUInt32 >>> ((nI 1).toUInt32 &&& Int32.toUInt32 31)).toInt32) &&& (nI 1431655765))).toUInt32 >>> ((nI 2).toUInt32 &&& Int32.toUInt32 31)).toInt32) &&& (nI 858993459))) + (((((v - (((v.toUInt32 >>> ((nI 1).toUInt32 &&& Int32.toUInt32 31)).toInt32) &&& (nI 1431655765))) &&& (nI 858993459)) + ((((v - (((v.toUInt32 >>> ((nI 1).toUInt32 &&& Int32.toUInt32 31)).toInt32) &&& (nI 1431655765))).toUInt32 >>> ((nI 2).toUInt32 &&& Int32.toUInt32 31)).toInt32) &&& (nI 858993459))).toUInt32 >>> ((nI 4).toUInt32 &&& Int32.toUInt32 31)).toInt32)) &&& (nI 252645135)) + (((((((v - (((v.toUInt32 >>> ((nI 1).toUInt32 &&& Int32.toUInt32 31)).toInt32) &&& (nI 1431655765))) &&& (nI 858993459)) + ((((v - (((v.toUInt32 >>> ((nI 1).toUInt32 &&& Int32.toUInt32 31)).toInt32) &&& (nI 1431655765))).toUInt32 >>> ((nI 2).toUInt32 &&& Int32.toUInt32 31)).toInt32) &&& (nI 858993459))) + (((((v - (((v.toUInt32 >>> ((nI 1).toUInt32 &&& Int32.toUInt32 31)).toInt32) &&& (nI 1431655765))) &&& (nI 858993459)) + ((((v - (((v.toUInt32 >>> ((nI 1).toUInt32 &&& Int32.toUInt32 31)).toInt32) &&& (nI 1431655765))).toUInt32 >>> ((nI 2).toUInt32 &&& Int32.toUInt32 31)).toInt32) &&& (nI 858993459))).toUInt32 >>> ((nI 4).toUInt32 &&& Int32.toUInt32 31)).toInt32)) &&& (nI 252645135)).toUInt32 >>> ((nI 8).toUInt32 &&& Int32.toUInt32 31)).toInt32)) + ((((((((v - (((v.toUInt32 >>> ((nI 1).toUInt32 &&& Int32.toUInt32 31)).toInt32) &&& (nI 1431655765))) &&& (nI 858993459)) + ((((v - (((v.toUInt32 >>> ((nI 1).toUInt32 &&& Int32.toUInt32 31)).toInt32) &&& (nI 1431655765))).toUInt32 >>> ((nI 2).toUInt32 &&& Int32.toUInt32 31)).toInt32) &&& (nI 858993459))) + (((((v - (((v.toUInt32 >>> ((nI 1).toUInt32 &&& Int32.toUInt32 31)).toInt32) &&& (nI 1431655765))) &&& (nI 858993459)) + ((((v - (((v.toUInt32 >>> ((nI 1).toUInt32 &&& Int32.toUInt32 31)).toInt32) &&& (nI 1431655765))).toUInt32 >>> ((nI 2).toUInt32 &&& Int32.toUInt32 31)).toInt32) &&& (nI 858993459))).toUInt32 >>> ((nI 4).toUInt32 &&& Int32.toUInt32 31)).toInt32)) &&& (nI 252645135)) + (((((((v - (((v.toUInt32 >>> ((nI 1).toUInt32 &&& Int32.toUInt32 31)).toInt32) &&& (nI 1431655765))) &&& (nI 858993459)) + ((((v - (((v.toUInt32 >>> ((nI 1).toUInt32 &&& Int32.toUInt32 31)).toInt32) &&& (nI 1431655765))).toUInt32 >>> ((nI 2).toUInt32 &&& Int32.toUInt32 31)).toInt32) &&& (nI 858993459))) + (((((v - (((v.toUInt32 >>> ((nI 1).toUInt32 &&& Int32.toUInt32 31)).toInt32) &&& (nI 1431655765))) &&& (nI 858993459)) + ((((v - (((v.toUInt32 >>> ((nI 1).toUInt32 &&& Int32.toUInt32 31)).toInt32) &&& (nI 1431655765))).toUInt32 >>> ((nI 2).toUInt32 &&& Int32.toUInt32 31)).toInt32) &&& (nI 858993459))).toUInt32 >>> ((nI 4).toUInt32 &&& Int32.toUInt32 31)).toInt32)) &&& (nI 252645135)).toUInt32 >>> ((nI 8).toUInt32 &&& Int32.toUInt32 31)).toInt32)).toUInt32 >>> ((nI 16).toUInt32 &&& Int32.toUInt32 31)).toInt32)) &&& (nI 63)) X dJ6_bitCount_0f7a4_51 rfl ?_
  exact x_ret X dJ6_bitCount_0f7a4_52 ⟨ret_i (by rfl), rfl, by decide, by decide⟩
set_option maxRecDepth 100000 in
set_option maxHeartbeats 4000000 in
/-- X4_person -/
theorem c_X4_person (l : Launch) (G : xG) (o : Nat) (x : Nat → Nat) (w : Nat → Nat) (d : Nat → Nat) (h : Nat → Nat) (g : Nat → Nat) (q : Nat → Nat) (e : Nat) (s : xS) (a : Int32) (b : Int32) (hs6 : s.1 ≤ 6) (hs1 : 0 < s.1) (hq5 : s.2.1 ≤ 5) (hmi : ∀ j, j < 6 → inR (s.2.2.2.1 j) 6 = true) : xM l G xE0 yX4_person cX4_person 3 (some .int) 2 42 0 0 [.ref o, .int a, .int b] (xJ [wInk G o x w d h g q e, wCq G w s]) (some (.int (F_person s a b))) (fun w2 => w2 = xJ [wInk G o x w d h g q e, wCq G w s]) := by
  refine x_entry (by decide +kernel) (Nat.le_of_ble_eq_true rfl) rfl ⟨_, rfl, rfl⟩ (fun K X => ?_)
  refine x_aloadn X dX4_person_0 0 rfl ?_
  refine x_get X wu_X4 0 rfl rfl 1 (by decide) wf_X4_19 rfl rfl dX4_person_1 ?_
  refine x_iloadn X dX4_person_4 1 rfl ?_
  refine x_callVrv (As := [.int a]) (rest := []) X (c_X0_hasPerson l G w s.1 s.2.1 s.2.2.1 s.2.2.2.1 s.2.2.2.2.1 s.2.2.2.2.2 a (by omega)) xE0_ok (fun _ _ _ => trivial) [1, 2, 3, 4, 5] rfl 0 rfl rfl rfl rfl wco_X0_hasPerson wi_X0 xd_X0_hasPerson wl_X4_87 win_X0_hasPerson wse_X0_hasPerson (by decide) (Nat.le_of_ble_eq_true rfl) dX4_person_5 ?_
  refine x_ifeq_b 19 X dX4_person_8 (by decide) (fun c_1 => ?_) (fun c_1 => ?_)
  · -- 8 t
    refine x_iconst (v := (-1)) X dX4_person_19 (by decide) ?_
    exact x_ret X dX4_person_20 ⟨ret_i (by simp [F_person, tn, c_1]), rfl, by decide, by decide⟩
  · -- 8 f
    obtain ⟨aN, haN, rfl⟩ := inR_nat c_1 (by omega)
    have qaN : (nI aN).toNatClampNeg = aN := nI_clamp (by omega)
    refine x_iloadn X dX4_person_11 2 rfl ?_
    refine x_iconst (v := nI 1) X dX4_person_12 (by decide) ?_
    refine x_callSrv (As := [.int b, .int (nI 1)]) (rest := []) X (c_X4_isUpTo l G b 1 (by omega)) xE0_ok (fun _ _ _ => trivial) [] rfl rfl rfl wco_X4_isUpTo wi_X4 xd_X4_isUpTo wl_X4_91 wst_X4_isUpTo (by decide) (Nat.le_of_ble_eq_true rfl) dX4_person_13 ?_
    refine x_ifne_b 21 X dX4_person_16 (by decide) (fun c_2 => ?_) (fun c_2 => ?_)
    · -- 16 t
      obtain ⟨bN, hbN, rfl⟩ := inR_nat c_2 (by omega)
      have qbN : (nI bN).toNatClampNeg = bN := nI_clamp (by omega)
      refine x_iloadn X dX4_person_21 2 rfl ?_
      refine x_if_ne_n 36 X dX4_person_22 (by decide) (by omega) (fun c_3 => ?_) (fun c_3 => ?_)
      · -- 22 t
        refine x_aloadn X dX4_person_36 0 rfl ?_
        refine x_get X wu_X4 0 rfl rfl 1 (by decide) wf_X4_19 rfl rfl dX4_person_37 ?_
        refine x_iloadn X dX4_person_40 1 rfl ?_
        refine x_callVrv (As := [.int (nI aN)]) (rest := []) X (c_X0_mindOf l G w s.1 s.2.1 s.2.2.1 s.2.2.2.1 s.2.2.2.2.1 s.2.2.2.2.2 aN (by omega)) xE0_ok (fun _ _ _ => trivial) [1, 2, 3, 4, 5] rfl 0 rfl rfl rfl rfl wco_X0_mindOf wi_X0 xd_X0_mindOf wl_X4_99 win_X0_mindOf wse_X0_mindOf (by decide) (Nat.le_of_ble_eq_true rfl) dX4_person_41 ?_
        exact x_ret X dX4_person_44 ⟨ret_i (by simp [F_person, tn, c_1, qaN, c_2, qbN, c_3]), rfl, by decide, by decide⟩
      · -- 22 f
        refine x_aloadn X dX4_person_25 0 rfl ?_
        refine x_get X wu_X4 0 rfl rfl 1 (by decide) wf_X4_19 rfl rfl dX4_person_26 ?_
        refine x_iloadn X dX4_person_29 1 rfl ?_
        refine x_callVrv (As := [.int (nI aN)]) (rest := []) X (c_X0_kindOf l G w s.1 s.2.1 s.2.2.1 s.2.2.2.1 s.2.2.2.2.1 s.2.2.2.2.2 aN (by omega)) xE0_ok (fun _ _ _ => trivial) [1, 2, 3, 4, 5] rfl 0 rfl rfl rfl rfl wco_X0_kindOf wi_X0 xd_X0_kindOf wl_X4_95 win_X0_kindOf wse_X0_kindOf (by decide) (Nat.le_of_ble_eq_true rfl) dX4_person_30 ?_
        refine x_goto 44 X dX4_person_33 (by decide) ?_
        exact x_ret X dX4_person_44 ⟨ret_i (by simp [F_person, tn, c_1, qaN, c_2, qbN, (eq_true c_3)]), rfl, by decide, by decide⟩
    · -- 16 f
      refine x_iconst (v := (-1)) X dX4_person_19 (by decide) ?_
      exact x_ret X dX4_person_20 ⟨ret_i (by simp [F_person, tn, c_1, qaN, c_2]), rfl, by decide, by decide⟩
set_option maxRecDepth 100000 in
set_option maxHeartbeats 4000000 in
/-- X4_view -/
theorem c_X4_view (l : Launch) (G : xG) (o : Nat) (x : Nat → Nat) (w : Nat → Nat) (d : Nat → Nat) (h : Nat → Nat) (g : Nat → Nat) (q : Nat → Nat) (e : Nat) (s : xS) (a : Int32) (b : Int32) (hs6 : s.1 ≤ 6) (hs1 : 0 < s.1) (hq5 : s.2.1 ≤ 5) (hmi : ∀ j, j < 6 → inR (s.2.2.2.1 j) 6 = true) : xM l G xE0 yX4_view cX4_view 3 (some .int) 2 43 0 0 [.ref o, .int a, .int b] (xJ [wInk G o x w d h g q e, wCq G w s]) (some (.int (F_view s a b))) (fun w2 => w2 = xJ [wInk G o x w d h g q e, wCq G w s]) := by
  refine x_entry (by decide +kernel) (Nat.le_of_ble_eq_true rfl) rfl ⟨_, rfl, rfl⟩ (fun K X => ?_)
  refine x_aloadn X dX4_view_0 0 rfl ?_
  refine x_get X wu_X4 0 rfl rfl 1 (by decide) wf_X4_19 rfl rfl dX4_view_1 ?_
  refine x_iloadn X dX4_view_4 1 rfl ?_
  refine x_callVrv (As := [.int a]) (rest := []) X (c_X0_hasPerson l G w s.1 s.2.1 s.2.2.1 s.2.2.2.1 s.2.2.2.2.1 s.2.2.2.2.2 a (by omega)) xE0_ok (fun _ _ _ => trivial) [1, 2, 3, 4, 5] rfl 0 rfl rfl rfl rfl wco_X0_hasPerson wi_X0 xd_X0_hasPerson wl_X4_87 win_X0_hasPerson wse_X0_hasPerson (by decide) (Nat.le_of_ble_eq_true rfl) dX4_view_5 ?_
  refine x_ifeq_b 18 X dX4_view_8 (by decide) (fun c_1 => ?_) (fun c_1 => ?_)
  · -- 8 t
    refine x_iconst (v := (-1)) X dX4_view_18 (by decide) ?_
    exact x_ret X dX4_view_19 ⟨ret_i (by simp [F_view, tn, c_1]), rfl, by decide, by decide⟩
  · -- 8 f
    obtain ⟨aN, haN, rfl⟩ := inR_nat c_1 (by omega)
    have qaN : (nI aN).toNatClampNeg = aN := nI_clamp (by omega)
    refine x_iloadn X dX4_view_11 2 rfl ?_
    refine x_callSrv (As := [.int b]) (rest := []) X (c_X4_isTheme l G b) xE0_ok (fun _ _ _ => trivial) [] rfl rfl rfl wco_X4_isTheme wi_X4 xd_X4_isTheme wl_X4_102 wst_X4_isTheme (by decide) (Nat.le_of_ble_eq_true rfl) dX4_view_12 ?_
    refine x_ifne_b 20 X dX4_view_15 (by decide) (fun c_2 => ?_) (fun c_2 => ?_)
    · -- 15 t
      obtain ⟨bN, hbN, rfl⟩ := inR_nat c_2 (by omega)
      have qbN : (nI bN).toNatClampNeg = bN := nI_clamp (by omega)
      refine x_aloadn X dX4_view_20 0 rfl ?_
      refine x_get X wu_X4 0 rfl rfl 1 (by decide) wf_X4_19 rfl rfl dX4_view_21 ?_
      refine x_iloadn X dX4_view_24 1 rfl ?_
      refine x_iloadn X dX4_view_25 2 rfl ?_
      refine x_callVrv (As := [.int (nI aN), .int (nI bN)]) (rest := []) X (c_X0_viewOf l G w s.1 s.2.1 s.2.2.1 s.2.2.2.1 s.2.2.2.2.1 s.2.2.2.2.2 aN bN (by omega) (by omega)) xE0_ok (fun _ _ _ => trivial) [1, 2, 3, 4, 5] rfl 0 rfl rfl rfl rfl wco_X0_viewOf wi_X0 xd_X0_viewOf wl_X4_105 win_X0_viewOf wse_X0_viewOf (by decide) (Nat.le_of_ble_eq_true rfl) dX4_view_26 ?_
      refine x_bipush (v := nI 9) X dX4_view_29 (by decide) ?_
      refine x_iadd (v := (s.2.2.2.2.1 (aN * 5 + bN)) + (nI 9)) X dX4_view_31 rfl ?_
      exact x_ret X dX4_view_32 ⟨ret_i (by simp [F_view, tn, c_1, qaN, c_2, qbN]), rfl, by decide, by decide⟩
    · -- 15 f
      refine x_iconst (v := (-1)) X dX4_view_18 (by decide) ?_
      exact x_ret X dX4_view_19 ⟨ret_i (by simp [F_view, tn, c_1, qaN, c_2]), rfl, by decide, by decide⟩
set_option maxRecDepth 100000 in
set_option maxHeartbeats 4000000 in
/-- X4_line -/
theorem c_X4_line (l : Launch) (G : xG) (o : Nat) (x : Nat → Nat) (w : Nat → Nat) (d : Nat → Nat) (h : Nat → Nat) (g : Nat → Nat) (q : Nat → Nat) (e : Nat) (s : xS) (a : Int32) (b : Int32) (hs6 : s.1 ≤ 6) (hs1 : 0 < s.1) (hq5 : s.2.1 ≤ 5) (hmi : ∀ j, j < 6 → inR (s.2.2.2.1 j) 6 = true) : xM l G xE0 yX4_line cX4_line 3 (some .int) 2 43 0 0 [.ref o, .int a, .int b] (xJ [wInk G o x w d h g q e, wCq G w s]) (some (.int (F_line s a b))) (fun w2 => w2 = xJ [wInk G o x w d h g q e, wCq G w s]) := by
  refine x_entry (by decide +kernel) (Nat.le_of_ble_eq_true rfl) rfl ⟨_, rfl, rfl⟩ (fun K X => ?_)
  refine x_aloadn X dX4_line_0 0 rfl ?_
  refine x_get X wu_X4 0 rfl rfl 1 (by decide) wf_X4_19 rfl rfl dX4_line_1 ?_
  refine x_iloadn X dX4_line_4 1 rfl ?_
  refine x_callVrv (As := [.int a]) (rest := []) X (c_X0_hasPaper l G w s.1 s.2.1 s.2.2.1 s.2.2.2.1 s.2.2.2.2.1 s.2.2.2.2.2 a (by omega)) xE0_ok (fun _ _ _ => trivial) [1, 2, 3, 4, 5] rfl 0 rfl rfl rfl rfl wco_X0_hasPaper wi_X0 xd_X0_hasPaper wl_X4_109 win_X0_hasPaper wse_X0_hasPaper (by decide) (Nat.le_of_ble_eq_true rfl) dX4_line_5 ?_
  refine x_ifeq_b 18 X dX4_line_8 (by decide) (fun c_1 => ?_) (fun c_1 => ?_)
  · -- 8 t
    refine x_iconst (v := (-1)) X dX4_line_18 (by decide) ?_
    exact x_ret X dX4_line_19 ⟨ret_i (by simp [F_line, tn, c_1]), rfl, by decide, by decide⟩
  · -- 8 f
    obtain ⟨aN, haN, rfl⟩ := inR_nat c_1 (by omega)
    have qaN : (nI aN).toNatClampNeg = aN := nI_clamp (by omega)
    refine x_iloadn X dX4_line_11 2 rfl ?_
    refine x_callSrv (As := [.int b]) (rest := []) X (c_X4_isTheme l G b) xE0_ok (fun _ _ _ => trivial) [] rfl rfl rfl wco_X4_isTheme wi_X4 xd_X4_isTheme wl_X4_102 wst_X4_isTheme (by decide) (Nat.le_of_ble_eq_true rfl) dX4_line_12 ?_
    refine x_ifne_b 20 X dX4_line_15 (by decide) (fun c_2 => ?_) (fun c_2 => ?_)
    · -- 15 t
      obtain ⟨bN, hbN, rfl⟩ := inR_nat c_2 (by omega)
      have qbN : (nI bN).toNatClampNeg = bN := nI_clamp (by omega)
      refine x_aloadn X dX4_line_20 0 rfl ?_
      refine x_get X wu_X4 0 rfl rfl 1 (by decide) wf_X4_19 rfl rfl dX4_line_21 ?_
      refine x_iloadn X dX4_line_24 1 rfl ?_
      refine x_iloadn X dX4_line_25 2 rfl ?_
      refine x_callVrv (As := [.int (nI aN), .int (nI bN)]) (rest := []) X (c_X0_lineOf l G w s.1 s.2.1 s.2.2.1 s.2.2.2.1 s.2.2.2.2.1 s.2.2.2.2.2 aN bN (by omega) (by omega)) xE0_ok (fun _ _ _ => trivial) [1, 2, 3, 4, 5] rfl 0 rfl rfl rfl rfl wco_X0_lineOf wi_X0 xd_X0_lineOf wl_X4_112 win_X0_lineOf wse_X0_lineOf (by decide) (Nat.le_of_ble_eq_true rfl) dX4_line_26 ?_
      refine x_callSrv (As := [.int (s.2.2.2.2.2 (aN * 5 + bN))]) (rest := []) X (c_X4_told l G (s.2.2.2.2.2 (aN * 5 + bN))) xE0_ok (fun _ _ _ => trivial) [] rfl rfl rfl wco_X4_told wi_X4 xd_X4_told wl_X4_115 wst_X4_told (by decide) (Nat.le_of_ble_eq_true rfl) dX4_line_29 ?_
      exact x_ret X dX4_line_32 ⟨ret_i (by simp [F_line, tn, c_1, qaN, c_2, qbN]), rfl, by decide, by decide⟩
    · -- 15 f
      refine x_iconst (v := (-1)) X dX4_line_18 (by decide) ?_
      exact x_ret X dX4_line_19 ⟨ret_i (by simp [F_line, tn, c_1, qaN, c_2]), rfl, by decide, by decide⟩
set_option maxRecDepth 100000 in
set_option maxHeartbeats 4000000 in
/-- X4_would -/
theorem c_X4_would (l : Launch) (G : xG) (o : Nat) (x : Nat → Nat) (w : Nat → Nat) (d : Nat → Nat) (h : Nat → Nat) (g : Nat → Nat) (q : Nat → Nat) (e : Nat) (s : xS) (a : Int32) (b : Int32) (c : Int32) (hs6 : s.1 ≤ 6) (hs1 : 0 < s.1) (hq5 : s.2.1 ≤ 5) (hmi : ∀ j, j < 6 → inR (s.2.2.2.1 j) 6 = true) : xM l G xE0 yX4_would cX4_would 4 (some .int) 4 92 0 0 [.ref o, .int a, .int b, .int c] (xJ [wInk G o x w d h g q e, wCq G w s]) (some (.int (F_would s a b c))) (fun w2 => w2 = xJ [wInk G o x w d h g q e, wCq G w s]) := by
  refine x_entry (by decide +kernel) (Nat.le_of_ble_eq_true rfl) rfl ⟨_, rfl, rfl⟩ (fun K X => ?_)
  refine x_aloadn X dX4_would_0 0 rfl ?_
  refine x_get X wu_X4 0 rfl rfl 1 (by decide) wf_X4_19 rfl rfl dX4_would_1 ?_
  refine x_iloadn X dX4_would_4 1 rfl ?_
  refine x_callVrv (As := [.int a]) (rest := []) X (c_X0_hasPerson l G w s.1 s.2.1 s.2.2.1 s.2.2.2.1 s.2.2.2.2.1 s.2.2.2.2.2 a (by omega)) xE0_ok (fun _ _ _ => trivial) [1, 2, 3, 4, 5] rfl 0 rfl rfl rfl rfl wco_X0_hasPerson wi_X0 xd_X0_hasPerson wl_X4_87 win_X0_hasPerson wse_X0_hasPerson (by decide) (Nat.le_of_ble_eq_true rfl) dX4_would_5 ?_
  refine x_ifeq_b 27 X dX4_would_8 (by decide) (fun c_1 => ?_) (fun c_1 => ?_)
  · -- 8 t
    refine x_iconst (v := (-1)) X dX4_would_27 (by decide) ?_
    exact x_ret X dX4_would_28 ⟨ret_i (by simp [F_would, F_wr, tn, c_1]), rfl, by decide, by decide⟩
  · -- 8 f
    obtain ⟨aN, haN, rfl⟩ := inR_nat c_1 (by omega)
    have qaN : (nI aN).toNatClampNeg = aN := nI_clamp (by omega)
    refine x_iloadn X dX4_would_11 2 rfl ?_
    refine x_callSrv (As := [.int b]) (rest := []) X (c_X4_isTheme l G b) xE0_ok (fun _ _ _ => trivial) [] rfl rfl rfl wco_X4_isTheme wi_X4 xd_X4_isTheme wl_X4_102 wst_X4_isTheme (by decide) (Nat.le_of_ble_eq_true rfl) dX4_would_12 ?_
    refine x_ifeq_b 27 X dX4_would_15 (by decide) (fun c_2 => ?_) (fun c_2 => ?_)
    · -- 15 t
      refine x_iconst (v := (-1)) X dX4_would_27 (by decide) ?_
      exact x_ret X dX4_would_28 ⟨ret_i (by simp [F_would, F_wr, tn, c_1, qaN, c_2]), rfl, by decide, by decide⟩
    · -- 15 f
      obtain ⟨bN, hbN, rfl⟩ := inR_nat c_2 (by omega)
      have qbN : (nI bN).toNatClampNeg = bN := nI_clamp (by omega)
      refine x_iloadn X dX4_would_18 3 rfl ?_
      refine x_bipush (v := nI 10) X dX4_would_19 (by decide) ?_
      refine x_callSrv (As := [.int c, .int (nI 10)]) (rest := []) X (c_X4_isUpTo l G c 10 (by omega)) xE0_ok (fun _ _ _ => trivial) [] rfl rfl rfl wco_X4_isUpTo wi_X4 xd_X4_isUpTo wl_X4_91 wst_X4_isUpTo (by decide) (Nat.le_of_ble_eq_true rfl) dX4_would_21 ?_
      refine x_ifne_b 29 X dX4_would_24 (by decide) (fun c_3 => ?_) (fun c_3 => ?_)
      · -- 24 t
        obtain ⟨cN, hcN, rfl⟩ := inR_nat c_3 (by omega)
        have qcN : (nI cN).toNatClampNeg = cN := nI_clamp (by omega)
        refine x_aloadn X dX4_would_29 0 rfl ?_
        refine x_get X wu_X4 0 rfl rfl 1 (by decide) wf_X4_19 rfl rfl dX4_would_30 ?_
        refine x_iloadn X dX4_would_33 1 rfl ?_
        refine x_iloadn X dX4_would_34 2 rfl ?_
        refine x_iloadn X dX4_would_35 3 rfl ?_
        refine x_callVrv (As := [.int (nI aN), .int (nI bN), .int (nI cN)]) (rest := []) X (c_X0_written l G w s.1 s.2.1 s.2.2.1 s.2.2.2.1 s.2.2.2.2.1 s.2.2.2.2.2 aN bN (nI cN) (by omega) (by omega) (by assumption)) xE0_ok (fun _ _ _ => trivial) [1, 2, 3, 4, 5] rfl 0 rfl rfl rfl rfl wco_X0_written wi_X0 xd_X0_written wl_X4_118 win_X0_written wse_X0_written (by decide) (Nat.le_of_ble_eq_true rfl) dX4_would_36 ?_
        refine x_bipush (v := nI 9) X dX4_would_39 (by decide) ?_
        refine x_iadd (v := (F_ink (s.2.2.1 aN) (s.2.2.2.2.1 (tn (s.2.2.2.1 aN) * 5 + bN)) (s.2.2.2.2.1 (aN * 5 + bN)) (nI cN)) + (nI 9)) X dX4_would_41 rfl ?_
        exact x_ret X dX4_would_42 ⟨ret_i (by simp [F_would, F_wr, tn, c_1, qaN, c_2, qbN, c_3, qcN]), rfl, by decide, by decide⟩
      · -- 24 f
        refine x_iconst (v := (-1)) X dX4_would_27 (by decide) ?_
        exact x_ret X dX4_would_28 ⟨ret_i (by simp [F_would, F_wr, tn, c_1, qaN, c_2, qbN, c_3]), rfl, by decide, by decide⟩
set_option maxRecDepth 100000 in
set_option maxHeartbeats 4000000 in
/-- X4_own -/
theorem c_X4_own (l : Launch) (G : xG) (o : Nat) (x : Nat → Nat) (w : Nat → Nat) (d : Nat → Nat) (h : Nat → Nat) (g : Nat → Nat) (q : Nat → Nat) (e : Nat) (s : xS) (a : Int32) (b : Int32) (hs6 : s.1 ≤ 6) (hs1 : 0 < s.1) (hq5 : s.2.1 ≤ 5) (hmi : ∀ j, j < 6 → inR (s.2.2.2.1 j) 6 = true) : xM l G xE0 yX4_own cX4_own 5 (some .int) 2 43 0 0 [.ref o, .int a, .int b] (xJ [wInk G o x w d h g q e, wCq G w s]) (some (.int (F_own s a b))) (fun w2 => w2 = xJ [wInk G o x w d h g q e, wCq G w s]) := by
  refine x_entry (by decide +kernel) (Nat.le_of_ble_eq_true rfl) rfl ⟨_, rfl, rfl⟩ (fun K X => ?_)
  refine x_aloadn X dX4_own_0 0 rfl ?_
  refine x_get X wu_X4 0 rfl rfl 1 (by decide) wf_X4_19 rfl rfl dX4_own_1 ?_
  refine x_iloadn X dX4_own_4 1 rfl ?_
  refine x_callVrv (As := [.int a]) (rest := []) X (c_X0_hasPaper l G w s.1 s.2.1 s.2.2.1 s.2.2.2.1 s.2.2.2.2.1 s.2.2.2.2.2 a (by omega)) xE0_ok (fun _ _ _ => trivial) [1, 2, 3, 4, 5] rfl 0 rfl rfl rfl rfl wco_X0_hasPaper wi_X0 xd_X0_hasPaper wl_X4_109 win_X0_hasPaper wse_X0_hasPaper (by decide) (Nat.le_of_ble_eq_true rfl) dX4_own_5 ?_
  refine x_ifeq_b 22 X dX4_own_8 (by decide) (fun c_1 => ?_) (fun c_1 => ?_)
  · -- 8 t
    refine x_iconst (v := (-1)) X dX4_own_22 (by decide) ?_
    exact x_ret X dX4_own_23 ⟨ret_i (by simp [F_own, tn, c_1]), rfl, by decide, by decide⟩
  · -- 8 f
    obtain ⟨aN, haN, rfl⟩ := inR_nat c_1 (by omega)
    have qaN : (nI aN).toNatClampNeg = aN := nI_clamp (by omega)
    refine x_aloadn X dX4_own_11 0 rfl ?_
    refine x_get X wu_X4 0 rfl rfl 1 (by decide) wf_X4_19 rfl rfl dX4_own_12 ?_
    refine x_iloadn X dX4_own_15 2 rfl ?_
    refine x_callVrv (As := [.int b]) (rest := []) X (c_X0_hasPerson l G w s.1 s.2.1 s.2.2.1 s.2.2.2.1 s.2.2.2.2.1 s.2.2.2.2.2 b (by omega)) xE0_ok (fun _ _ _ => trivial) [1, 2, 3, 4, 5] rfl 0 rfl rfl rfl rfl wco_X0_hasPerson wi_X0 xd_X0_hasPerson wl_X4_87 win_X0_hasPerson wse_X0_hasPerson (by decide) (Nat.le_of_ble_eq_true rfl) dX4_own_16 ?_
    refine x_ifne_b 24 X dX4_own_19 (by decide) (fun c_2 => ?_) (fun c_2 => ?_)
    · -- 19 t
      obtain ⟨bN, hbN, rfl⟩ := inR_nat c_2 (by omega)
      have qbN : (nI bN).toNatClampNeg = bN := nI_clamp (by omega)
      refine x_iconst (v := nI 0) X dX4_own_24 (by decide) ?_
      refine x_istoren (lv' := [(3, .int (nI 0)), (0, .ref o), (1, .int (nI aN)), (2, .int (nI bN))]) X dX4_own_25 (by decide) rfl ?_
      refine x_iconst (v := nI 0) X dX4_own_26 (by decide) ?_
      refine x_istore (lv' := [(4, .int (nI 0)), (3, .int (nI 0)), (0, .ref o), (1, .int (nI aN)), (2, .int (nI bN))]) X dX4_own_27 (by decide) rfl ?_
      have L29 : ∀ (fu : Nat) (t : Nat) (u : Int32), 5 - t < fu → (t ≤ 5) → (u = F_owb s aN bN t) → K (xJ [wInk G o x w d h g q e, wCq G w s]) 0 0 29 [(0, .ref o), (1, .int (nI aN)), (2, .int (nI bN)), (3, .int u), (4, .int (nI t))] [] := by
        intro fu
        induction fu with
        | zero => intro t u hfu; exact absurd hfu (Nat.not_lt_zero _)
        | succ fu ih_L29 =>
          intro t u hfu_L29 ht5 hu
          refine x_iload X dX4_own_29 4 rfl ?_
          refine x_iconst (v := nI 5) X dX4_own_31 (by decide) ?_
          refine x_icmp_ge_n 71 X dX4_own_32 (by decide) (by omega) (by omega) (fun c_3 => ?_) (fun c_3 => ?_)
          · -- 32 t
            have n_3 := Nat.not_lt.mpr c_3
            obtain rfl : t = 5 := by omega
            refine x_iloadn X dX4_own_71 3 rfl ?_
            exact x_ret X dX4_own_72 ⟨ret_i (by simp [F_own, tn, c_1, qaN, c_2, qbN, ht5, hu, c_3, n_3]), rfl, by decide, by decide⟩
          · -- 32 f
            refine x_aloadn X dX4_own_35 0 rfl ?_
            refine x_get X wu_X4 0 rfl rfl 1 (by decide) wf_X4_19 rfl rfl dX4_own_36 ?_
            refine x_iloadn X dX4_own_39 1 rfl ?_
            refine x_iload X dX4_own_40 4 rfl ?_
            refine x_callVrv (As := [.int (nI aN), .int (nI t)]) (rest := []) X (c_X0_lineOf l G w s.1 s.2.1 s.2.2.1 s.2.2.2.1 s.2.2.2.2.1 s.2.2.2.2.2 aN t (by omega) (by omega)) xE0_ok (fun _ _ _ => trivial) [1, 2, 3, 4, 5] rfl 0 rfl rfl rfl rfl wco_X0_lineOf wi_X0 xd_X0_lineOf wl_X4_112 win_X0_lineOf wse_X0_lineOf (by decide) (Nat.le_of_ble_eq_true rfl) dX4_own_42 ?_
            refine x_aloadn X dX4_own_45 0 rfl ?_
            refine x_get X wu_X4 0 rfl rfl 1 (by decide) wf_X4_19 rfl rfl dX4_own_46 ?_
            refine x_iloadn X dX4_own_49 2 rfl ?_
            refine x_iload X dX4_own_50 4 rfl ?_
            refine x_callVrv (As := [.int (nI bN), .int (nI t)]) (rest := [.int (s.2.2.2.2.2 (aN * 5 + t))]) X (c_X0_viewOf l G w s.1 s.2.1 s.2.2.1 s.2.2.2.1 s.2.2.2.2.1 s.2.2.2.2.2 bN t (by omega) (by omega)) xE0_ok (fun _ _ _ => trivial) [1, 2, 3, 4, 5] rfl 0 rfl rfl rfl rfl wco_X0_viewOf wi_X0 xd_X0_viewOf wl_X4_105 win_X0_viewOf wse_X0_viewOf (by decide) (Nat.le_of_ble_eq_true rfl) dX4_own_52 ?_
            refine x_icmp_ne 65 X dX4_own_55 (by decide) (fun c_4 => ?_) (fun c_4 => ?_)
            · -- 55 t
              refine x_iinc (v := nI (t + 1)) (lv' := [(4, .int (nI (t + 1))), (0, .ref o), (1, .int (nI aN)), (2, .int (nI bN)), (3, .int u)]) X dX4_own_65 4 rfl (nI_1 _) (by decide) rfl ?_
              refine x_goto 29 X dX4_own_68 (by decide) ?_
              refine x_lv (lv' := [(0, .ref o), (1, .int (nI aN)), (2, .int (nI bN)), (3, .int u), (4, .int (nI (t + 1)))]) X [1, 2, 3, 4, 0] rfl ?_
              exact ih_L29 (t + 1) u (by omega) (by omega) (by simp [F_owb, c_1, qaN, c_2, qbN, ht5, hu, c_3, c_4])
            · -- 55 f
              refine x_iloadn X dX4_own_58 3 rfl ?_
              refine x_iconst (v := nI 1) X dX4_own_59 (by decide) ?_
              refine x_iload X dX4_own_60 4 rfl ?_
              refine x_ishl (v := (nI 1) <<< ((nI t) &&& 31)) X dX4_own_62 rfl ?_
              refine x_ior (v := u ||| ((nI 1) <<< ((nI t) &&& 31))) X dX4_own_63 rfl ?_
              refine x_istoren (lv' := [(3, .int (u ||| ((nI 1) <<< ((nI t) &&& 31)))), (0, .ref o), (1, .int (nI aN)), (2, .int (nI bN)), (4, .int (nI t))]) X dX4_own_64 (by decide) rfl ?_
              refine x_iinc (v := nI (t + 1)) (lv' := [(4, .int (nI (t + 1))), (3, .int (u ||| ((nI 1) <<< ((nI t) &&& 31)))), (0, .ref o), (1, .int (nI aN)), (2, .int (nI bN))]) X dX4_own_65 4 rfl (nI_1 _) (by decide) rfl ?_
              refine x_goto 29 X dX4_own_68 (by decide) ?_
              refine x_lv (lv' := [(0, .ref o), (1, .int (nI aN)), (2, .int (nI bN)), (3, .int (u ||| ((nI 1) <<< ((nI t) &&& 31)))), (4, .int (nI (t + 1)))]) X [2, 3, 4, 1, 0] rfl ?_
              exact ih_L29 (t + 1) (u ||| ((nI 1) <<< ((nI t) &&& 31))) (by omega) (by omega) (by simp [F_owb, c_1, qaN, c_2, qbN, ht5, hu, c_3, c_4])
      refine x_lv (lv' := [(0, .ref o), (1, .int (nI aN)), (2, .int (nI bN)), (3, .int (nI 0)), (4, .int (nI 0))]) X [2, 3, 4, 1, 0] rfl ?_
      exact L29 _ 0 (nI 0) (Nat.lt_succ_self _) (by omega) (rfl)
    · -- 19 f
      refine x_iconst (v := (-1)) X dX4_own_22 (by decide) ?_
      exact x_ret X dX4_own_23 ⟨ret_i (by simp [F_own, tn, c_1, qaN, c_2]), rfl, by decide, by decide⟩
set_option maxRecDepth 100000 in
set_option maxHeartbeats 4000000 in
/-- X4_tears -/
theorem c_X4_tears (l : Launch) (G : xG) (o : Nat) (x : Nat → Nat) (w : Nat → Nat) (d : Nat → Nat) (h : Nat → Nat) (g : Nat → Nat) (q : Nat → Nat) (e : Nat) (s : xS) (a : Int32) (b : Int32) (c : Int32) (hs6 : s.1 ≤ 6) (hs1 : 0 < s.1) (hq5 : s.2.1 ≤ 5) (hmi : ∀ j, j < 6 → inR (s.2.2.2.1 j) 6 = true) : xM l G xE0 yX4_tears cX4_tears 5 (some .int) 4 92 0 0 [.ref o, .int a, .int b, .int c] (xJ [wInk G o x w d h g q e, wCq G w s]) (some (.int (F_tears s a b c))) (fun w2 => w2 = xJ [wInk G o x w d h g q e, wCq G w s]) := by
  refine x_entry (by decide +kernel) (Nat.le_of_ble_eq_true rfl) rfl ⟨_, rfl, rfl⟩ (fun K X => ?_)
  refine x_aloadn X dX4_tears_0 0 rfl ?_
  refine x_get X wu_X4 0 rfl rfl 1 (by decide) wf_X4_19 rfl rfl dX4_tears_1 ?_
  refine x_iloadn X dX4_tears_4 1 rfl ?_
  refine x_callVrv (As := [.int a]) (rest := []) X (c_X0_hasPerson l G w s.1 s.2.1 s.2.2.1 s.2.2.2.1 s.2.2.2.2.1 s.2.2.2.2.2 a (by omega)) xE0_ok (fun _ _ _ => trivial) [1, 2, 3, 4, 5] rfl 0 rfl rfl rfl rfl wco_X0_hasPerson wi_X0 xd_X0_hasPerson wl_X4_87 win_X0_hasPerson wse_X0_hasPerson (by decide) (Nat.le_of_ble_eq_true rfl) dX4_tears_5 ?_
  refine x_ifeq_b 27 X dX4_tears_8 (by decide) (fun c_1 => ?_) (fun c_1 => ?_)
  · -- 8 t
    refine x_iconst (v := (-1)) X dX4_tears_27 (by decide) ?_
    exact x_ret X dX4_tears_28 ⟨ret_i (by simp [F_tears, tn, c_1]), rfl, by decide, by decide⟩
  · -- 8 f
    obtain ⟨aN, haN, rfl⟩ := inR_nat c_1 (by omega)
    have qaN : (nI aN).toNatClampNeg = aN := nI_clamp (by omega)
    refine x_iloadn X dX4_tears_11 2 rfl ?_
    refine x_callSrv (As := [.int b]) (rest := []) X (c_X4_isTheme l G b) xE0_ok (fun _ _ _ => trivial) [] rfl rfl rfl wco_X4_isTheme wi_X4 xd_X4_isTheme wl_X4_102 wst_X4_isTheme (by decide) (Nat.le_of_ble_eq_true rfl) dX4_tears_12 ?_
    refine x_ifeq_b 27 X dX4_tears_15 (by decide) (fun c_2 => ?_) (fun c_2 => ?_)
    · -- 15 t
      refine x_iconst (v := (-1)) X dX4_tears_27 (by decide) ?_
      exact x_ret X dX4_tears_28 ⟨ret_i (by simp [F_tears, tn, c_1, qaN, c_2]), rfl, by decide, by decide⟩
    · -- 15 f
      obtain ⟨bN, hbN, rfl⟩ := inR_nat c_2 (by omega)
      have qbN : (nI bN).toNatClampNeg = bN := nI_clamp (by omega)
      refine x_iloadn X dX4_tears_18 3 rfl ?_
      refine x_bipush (v := nI 18) X dX4_tears_19 (by decide) ?_
      refine x_callSrv (As := [.int c, .int (nI 18)]) (rest := []) X (c_X4_isUpTo l G c 18 (by omega)) xE0_ok (fun _ _ _ => trivial) [] rfl rfl rfl wco_X4_isUpTo wi_X4 xd_X4_isUpTo wl_X4_91 wst_X4_isUpTo (by decide) (Nat.le_of_ble_eq_true rfl) dX4_tears_21 ?_
      refine x_ifne_b 29 X dX4_tears_24 (by decide) (fun c_3 => ?_) (fun c_3 => ?_)
      · -- 24 t
        obtain ⟨cN, hcN, rfl⟩ := inR_nat c_3 (by omega)
        have qcN : (nI cN).toNatClampNeg = cN := nI_clamp (by omega)
        refine x_iconst (v := nI 0) X dX4_tears_29 (by decide) ?_
        refine x_istore (lv' := [(4, .int (nI 0)), (0, .ref o), (1, .int (nI aN)), (2, .int (nI bN)), (3, .int (nI cN))]) X dX4_tears_30 (by decide) rfl ?_
        have L32 : ∀ (fu : Nat) (i : Nat), 11 - i < fu → (i ≤ 11) → (F_fnd (P_tears s aN bN (nI cN)) (11 - i) i = F_fnd (P_tears s aN bN (nI cN)) 11 0) → K (xJ [wInk G o x w d h g q e, wCq G w s]) 0 0 32 [(0, .ref o), (1, .int (nI aN)), (2, .int (nI bN)), (3, .int (nI cN)), (4, .int (nI i))] [] := by
          intro fu
          induction fu with
          | zero => intro i hfu; exact absurd hfu (Nat.not_lt_zero _)
          | succ fu ih_L32 =>
            intro i hfu_L32 hi hF
            refine x_iload X dX4_tears_32 4 rfl ?_
            refine x_bipush (v := nI 10) X dX4_tears_34 (by decide) ?_
            refine x_icmp_gt_n 66 X dX4_tears_36 (by decide) (by omega) (by omega) (fun c_4 => ?_) (fun c_4 => ?_)
            · -- 36 t
              refine x_bipush (v := (-4)) X dX4_tears_66 (by decide) ?_
              exact x_ret X dX4_tears_68 ⟨ret_i (by rw [show F_tears s (nI aN) (nI bN) (nI cN) = F_fnd (P_tears s aN bN (nI cN)) 11 0 from by simp [F_tears, tn, c_1, qaN, c_2, qbN, c_3, qcN, hi, hF, c_4], ← hF, F_fnd_e (by omega)]), rfl, by decide, by decide⟩
            · -- 36 f
              have n_4 := Nat.not_lt.mpr c_4
              refine x_aloadn X dX4_tears_39 0 rfl ?_
              refine x_get X wu_X4 0 rfl rfl 1 (by decide) wf_X4_19 rfl rfl dX4_tears_40 ?_
              refine x_iloadn X dX4_tears_43 1 rfl ?_
              refine x_iloadn X dX4_tears_44 2 rfl ?_
              refine x_iload X dX4_tears_45 4 rfl ?_
              refine x_callVrv (As := [.int (nI aN), .int (nI bN), .int (nI i)]) (rest := []) X (c_X0_written l G w s.1 s.2.1 s.2.2.1 s.2.2.2.1 s.2.2.2.2.1 s.2.2.2.2.2 aN bN (nI i) (by omega) (by omega) (by assumption)) xE0_ok (fun _ _ _ => trivial) [1, 2, 3, 4, 5] rfl 0 rfl rfl rfl rfl wco_X0_written wi_X0 xd_X0_written wl_X4_118 win_X0_written wse_X0_written (by decide) (Nat.le_of_ble_eq_true rfl) dX4_tears_47 ?_
              refine x_iloadn X dX4_tears_50 3 rfl ?_
              refine x_bipush (v := nI 9) X dX4_tears_51 (by decide) ?_
              refine x_isub (v := (nI cN) - (nI 9)) X dX4_tears_53 rfl ?_
              refine x_icmp_ne 60 X dX4_tears_54 (by decide) (fun c_5 => ?_) (fun c_5 => ?_)
              · -- 54 t
                refine x_iinc (v := nI (i + 1)) (lv' := [(4, .int (nI (i + 1))), (0, .ref o), (1, .int (nI aN)), (2, .int (nI bN)), (3, .int (nI cN))]) X dX4_tears_60 4 rfl (nI_1 _) (by decide) rfl ?_
                refine x_goto 32 X dX4_tears_63 (by decide) ?_
                refine x_lv (lv' := [(0, .ref o), (1, .int (nI aN)), (2, .int (nI bN)), (3, .int (nI cN)), (4, .int (nI (i + 1)))]) X [1, 2, 3, 4, 0] rfl ?_
                exact ih_L32 (i + 1) (by omega) (by omega) (by rw [F_fnd_n (by omega) (by simp [P_tears, F_wr, c_1, qaN, c_2, qbN, c_3, qcN, hi, hF, c_4, n_4, c_5]), hF])
              · -- 54 f
                refine x_iload X dX4_tears_57 4 rfl ?_
                exact x_ret X dX4_tears_59 ⟨ret_i (by rw [show F_tears s (nI aN) (nI bN) (nI cN) = F_fnd (P_tears s aN bN (nI cN)) 11 0 from by simp [F_tears, tn, c_1, qaN, c_2, qbN, c_3, qcN, hi, hF, c_4, n_4, c_5], ← hF, F_fnd_y (by omega) (by simp [P_tears, F_wr, c_1, qaN, c_2, qbN, c_3, qcN, hi, hF, c_4, n_4, c_5])]), rfl, by decide, by decide⟩
        refine x_lv (lv' := [(0, .ref o), (1, .int (nI aN)), (2, .int (nI bN)), (3, .int (nI cN)), (4, .int (nI 0))]) X [1, 2, 3, 4, 0] rfl ?_
        exact L32 _ 0 (Nat.lt_succ_self _) (by omega) (rfl)
      · -- 24 f
        refine x_iconst (v := (-1)) X dX4_tears_27 (by decide) ?_
        exact x_ret X dX4_tears_28 ⟨ret_i (by simp [F_tears, tn, c_1, qaN, c_2, qbN, c_3]), rfl, by decide, by decide⟩
set_option maxRecDepth 100000 in
set_option maxHeartbeats 4000000 in
/-- X4_whom -/
theorem c_X4_whom (l : Launch) (G : xG) (o : Nat) (x : Nat → Nat) (w : Nat → Nat) (d : Nat → Nat) (h : Nat → Nat) (g : Nat → Nat) (q : Nat → Nat) (e : Nat) (s : xS) (a : Int32) (b : Int32) (c : Int32) (hs6 : s.1 ≤ 6) (hs1 : 0 < s.1) (hq5 : s.2.1 ≤ 5) (hmi : ∀ j, j < 6 → inR (s.2.2.2.1 j) 6 = true) : xM l G xE0 yX4_whom cX4_whom 5 (some .int) 3 69 0 0 [.ref o, .int a, .int b, .int c] (xJ [wInk G o x w d h g q e, wCq G w s]) (some (.int (F_whom s a b c))) (fun w2 => w2 = xJ [wInk G o x w d h g q e, wCq G w s]) := by
  refine x_entry (by decide +kernel) (Nat.le_of_ble_eq_true rfl) rfl ⟨_, rfl, rfl⟩ (fun K X => ?_)
  refine x_aloadn X dX4_whom_0 0 rfl ?_
  refine x_get X wu_X4 0 rfl rfl 1 (by decide) wf_X4_19 rfl rfl dX4_whom_1 ?_
  refine x_iloadn X dX4_whom_4 1 rfl ?_
  refine x_callVrv (As := [.int a]) (rest := []) X (c_X0_hasPerson l G w s.1 s.2.1 s.2.2.1 s.2.2.2.1 s.2.2.2.2.1 s.2.2.2.2.2 a (by omega)) xE0_ok (fun _ _ _ => trivial) [1, 2, 3, 4, 5] rfl 0 rfl rfl rfl rfl wco_X0_hasPerson wi_X0 xd_X0_hasPerson wl_X4_87 win_X0_hasPerson wse_X0_hasPerson (by decide) (Nat.le_of_ble_eq_true rfl) dX4_whom_5 ?_
  refine x_ifeq_b 27 X dX4_whom_8 (by decide) (fun c_1 => ?_) (fun c_1 => ?_)
  · -- 8 t
    refine x_iconst (v := (-1)) X dX4_whom_27 (by decide) ?_
    exact x_ret X dX4_whom_28 ⟨ret_i (by simp [F_whom, tn, c_1]), rfl, by decide, by decide⟩
  · -- 8 f
    obtain ⟨aN, haN, rfl⟩ := inR_nat c_1 (by omega)
    have qaN : (nI aN).toNatClampNeg = aN := nI_clamp (by omega)
    refine x_iloadn X dX4_whom_11 2 rfl ?_
    refine x_callSrv (As := [.int b]) (rest := []) X (c_X4_isTheme l G b) xE0_ok (fun _ _ _ => trivial) [] rfl rfl rfl wco_X4_isTheme wi_X4 xd_X4_isTheme wl_X4_102 wst_X4_isTheme (by decide) (Nat.le_of_ble_eq_true rfl) dX4_whom_12 ?_
    refine x_ifeq_b 27 X dX4_whom_15 (by decide) (fun c_2 => ?_) (fun c_2 => ?_)
    · -- 15 t
      refine x_iconst (v := (-1)) X dX4_whom_27 (by decide) ?_
      exact x_ret X dX4_whom_28 ⟨ret_i (by simp [F_whom, tn, c_1, qaN, c_2]), rfl, by decide, by decide⟩
    · -- 15 f
      obtain ⟨bN, hbN, rfl⟩ := inR_nat c_2 (by omega)
      have qbN : (nI bN).toNatClampNeg = bN := nI_clamp (by omega)
      refine x_iloadn X dX4_whom_18 3 rfl ?_
      refine x_bipush (v := nI 18) X dX4_whom_19 (by decide) ?_
      refine x_callSrv (As := [.int c, .int (nI 18)]) (rest := []) X (c_X4_isUpTo l G c 18 (by omega)) xE0_ok (fun _ _ _ => trivial) [] rfl rfl rfl wco_X4_isUpTo wi_X4 xd_X4_isUpTo wl_X4_91 wst_X4_isUpTo (by decide) (Nat.le_of_ble_eq_true rfl) dX4_whom_21 ?_
      refine x_ifne_b 29 X dX4_whom_24 (by decide) (fun c_3 => ?_) (fun c_3 => ?_)
      · -- 24 t
        obtain ⟨cN, hcN, rfl⟩ := inR_nat c_3 (by omega)
        have qcN : (nI cN).toNatClampNeg = cN := nI_clamp (by omega)
        refine x_iconst (v := nI 0) X dX4_whom_29 (by decide) ?_
        refine x_istore (lv' := [(4, .int (nI 0)), (0, .ref o), (1, .int (nI aN)), (2, .int (nI bN)), (3, .int (nI cN))]) X dX4_whom_30 (by decide) rfl ?_
        have L32 : ∀ (fu : Nat) (i : Nat), s.1 - i < fu → (i ≤ s.1) → (F_fnd (P_whom s aN bN (nI cN)) (s.1 - i) i = F_fnd (P_whom s aN bN (nI cN)) s.1 0) → K (xJ [wInk G o x w d h g q e, wCq G w s]) 0 0 32 [(0, .ref o), (1, .int (nI aN)), (2, .int (nI bN)), (3, .int (nI cN)), (4, .int (nI i))] [] := by
          intro fu
          induction fu with
          | zero => intro i hfu; exact absurd hfu (Nat.not_lt_zero _)
          | succ fu ih_L32 =>
            intro i hfu_L32 hi hF
            refine x_iload X dX4_whom_32 4 rfl ?_
            refine x_aloadn X dX4_whom_34 0 rfl ?_
            refine x_get X wu_X4 0 rfl rfl 1 (by decide) wf_X4_19 rfl rfl dX4_whom_35 ?_
            refine x_callVrv (As := []) (rest := [.int (nI i)]) X (c_X0_persons l G w s.1 s.2.1 s.2.2.1 s.2.2.2.1 s.2.2.2.2.1 s.2.2.2.2.2) xE0_ok (fun _ _ _ => trivial) [1, 2, 3, 4, 5] rfl 0 rfl rfl rfl rfl wco_X0_persons wi_X0 xd_X0_persons wl_X4_84 win_X0_persons wse_X0_persons (by decide) (Nat.le_of_ble_eq_true rfl) dX4_whom_38 ?_
            refine x_icmp_ge_n 78 X dX4_whom_41 (by decide) (by omega) (by omega) (fun c_4 => ?_) (fun c_4 => ?_)
            · -- 41 t
              have n_4 := Nat.not_lt.mpr c_4
              refine x_bipush (v := (-4)) X dX4_whom_78 (by decide) ?_
              exact x_ret X dX4_whom_80 ⟨ret_i (by rw [show F_whom s (nI aN) (nI bN) (nI cN) = F_fnd (P_whom s aN bN (nI cN)) s.1 0 from by simp [F_whom, tn, c_1, qaN, c_2, qbN, c_3, qcN, hi, hF, c_4, n_4], ← hF, F_fnd_e (by omega)]), rfl, by decide, by decide⟩
            · -- 41 f
              refine x_iload X dX4_whom_44 4 rfl ?_
              refine x_iloadn X dX4_whom_46 1 rfl ?_
              refine x_icmp_eq_n 72 X dX4_whom_47 (by decide) (by omega) (by omega) (fun c_5 => ?_) (fun c_5 => ?_)
              · -- 47 t
                refine x_iinc (v := nI (i + 1)) (lv' := [(4, .int (nI (i + 1))), (0, .ref o), (1, .int (nI aN)), (2, .int (nI bN)), (3, .int (nI cN))]) X dX4_whom_72 4 rfl (nI_1 _) (by decide) rfl ?_
                refine x_goto 32 X dX4_whom_75 (by decide) ?_
                refine x_lv (lv' := [(0, .ref o), (1, .int (nI aN)), (2, .int (nI bN)), (3, .int (nI cN)), (4, .int (nI (i + 1)))]) X [1, 2, 3, 4, 0] rfl ?_
                exact ih_L32 (i + 1) (by omega) (by omega) (by rw [F_fnd_n (by omega) (by simp [P_whom, F_wf, c_1, qaN, c_2, qbN, c_3, qcN, hi, hF, c_4, (eq_true c_5)]), hF])
              · -- 47 f
                refine x_aloadn X dX4_whom_50 0 rfl ?_
                refine x_get X wu_X4 0 rfl rfl 1 (by decide) wf_X4_19 rfl rfl dX4_whom_51 ?_
                refine x_iloadn X dX4_whom_54 1 rfl ?_
                refine x_iload X dX4_whom_55 4 rfl ?_
                refine x_iloadn X dX4_whom_57 2 rfl ?_
                refine x_iconst (v := nI 0) X dX4_whom_58 (by decide) ?_
                refine x_callVrv (As := [.int (nI aN), .int (nI i), .int (nI bN), .int (nI 0)]) (rest := []) X (c_X0_writtenFor l G w s.1 s.2.1 s.2.2.1 s.2.2.2.1 s.2.2.2.2.1 s.2.2.2.2.2 aN i bN (nI 0) (by omega) (by omega) (by omega)) xE0_ok (fun _ _ _ => trivial) [1, 2, 3, 4, 5] rfl 0 rfl rfl rfl rfl wco_X0_writtenFor wi_X0 xd_X0_writtenFor wl_X4_147 win_X0_writtenFor wse_X0_writtenFor (by decide) (Nat.le_of_ble_eq_true rfl) dX4_whom_59 ?_
                refine x_iloadn X dX4_whom_62 3 rfl ?_
                refine x_bipush (v := nI 9) X dX4_whom_63 (by decide) ?_
                refine x_isub (v := (nI cN) - (nI 9)) X dX4_whom_65 rfl ?_
                refine x_icmp_ne 72 X dX4_whom_66 (by decide) (fun c_6 => ?_) (fun c_6 => ?_)
                · -- 66 t
                  refine x_iinc (v := nI (i + 1)) (lv' := [(4, .int (nI (i + 1))), (0, .ref o), (1, .int (nI aN)), (2, .int (nI bN)), (3, .int (nI cN))]) X dX4_whom_72 4 rfl (nI_1 _) (by decide) rfl ?_
                  refine x_goto 32 X dX4_whom_75 (by decide) ?_
                  refine x_lv (lv' := [(0, .ref o), (1, .int (nI aN)), (2, .int (nI bN)), (3, .int (nI cN)), (4, .int (nI (i + 1)))]) X [1, 2, 3, 4, 0] rfl ?_
                  exact ih_L32 (i + 1) (by omega) (by omega) (by rw [F_fnd_n (by omega) (by simp [P_whom, F_wf, c_1, qaN, c_2, qbN, c_3, qcN, hi, hF, c_4, c_5, c_6]), hF])
                · -- 66 f
                  refine x_iload X dX4_whom_69 4 rfl ?_
                  exact x_ret X dX4_whom_71 ⟨ret_i (by rw [show F_whom s (nI aN) (nI bN) (nI cN) = F_fnd (P_whom s aN bN (nI cN)) s.1 0 from by simp [F_whom, tn, c_1, qaN, c_2, qbN, c_3, qcN, hi, hF, c_4, c_5, c_6], ← hF, F_fnd_y (by omega) (by simp [P_whom, F_wf, c_1, qaN, c_2, qbN, c_3, qcN, hi, hF, c_4, c_5, c_6])]), rfl, by decide, by decide⟩
        refine x_lv (lv' := [(0, .ref o), (1, .int (nI aN)), (2, .int (nI bN)), (3, .int (nI cN)), (4, .int (nI 0))]) X [1, 2, 3, 4, 0] rfl ?_
        exact L32 _ 0 (Nat.lt_succ_self _) (by omega) (rfl)
      · -- 24 f
        refine x_iconst (v := (-1)) X dX4_whom_27 (by decide) ?_
        exact x_ret X dX4_whom_28 ⟨ret_i (by simp [F_whom, tn, c_1, qaN, c_2, qbN, c_3]), rfl, by decide, by decide⟩
set_option maxRecDepth 100000 in
set_option maxHeartbeats 4000000 in
/-- X4_treaty -/
theorem c_X4_treaty (l : Launch) (G : xG) (o : Nat) (x : Nat → Nat) (w : Nat → Nat) (d : Nat → Nat) (h : Nat → Nat) (g : Nat → Nat) (q : Nat → Nat) (e : Nat) (s : xS) (a : Int32) (b : Int32) (c : Int32) (hs6 : s.1 ≤ 6) (hs1 : 0 < s.1) (hq5 : s.2.1 ≤ 5) (hmi : ∀ j, j < 6 → inR (s.2.2.2.1 j) 6 = true) : xM l G xE0 yX4_treaty cX4_treaty 6 (some .int) 3 69 0 0 [.ref o, .int a, .int b, .int c] (xJ [wInk G o x w d h g q e, wCq G w s]) (some (.int (F_treaty s a b c))) (fun w2 => w2 = xJ [wInk G o x w d h g q e, wCq G w s]) := by
  refine x_entry (by decide +kernel) (Nat.le_of_ble_eq_true rfl) rfl ⟨_, rfl, rfl⟩ (fun K X => ?_)
  refine x_aloadn X dX4_treaty_0 0 rfl ?_
  refine x_get X wu_X4 0 rfl rfl 1 (by decide) wf_X4_19 rfl rfl dX4_treaty_1 ?_
  refine x_iloadn X dX4_treaty_4 1 rfl ?_
  refine x_callVrv (As := [.int a]) (rest := []) X (c_X0_hasPerson l G w s.1 s.2.1 s.2.2.1 s.2.2.2.1 s.2.2.2.2.1 s.2.2.2.2.2 a (by omega)) xE0_ok (fun _ _ _ => trivial) [1, 2, 3, 4, 5] rfl 0 rfl rfl rfl rfl wco_X0_hasPerson wi_X0 xd_X0_hasPerson wl_X4_87 win_X0_hasPerson wse_X0_hasPerson (by decide) (Nat.le_of_ble_eq_true rfl) dX4_treaty_5 ?_
  refine x_ifeq_b 36 X dX4_treaty_8 (by decide) (fun c_1 => ?_) (fun c_1 => ?_)
  · -- 8 t
    refine x_iconst (v := (-1)) X dX4_treaty_36 (by decide) ?_
    exact x_ret X dX4_treaty_37 ⟨ret_i (by simp [F_treaty, tn, c_1]), rfl, by decide, by decide⟩
  · -- 8 f
    obtain ⟨aN, haN, rfl⟩ := inR_nat c_1 (by omega)
    have qaN : (nI aN).toNatClampNeg = aN := nI_clamp (by omega)
    refine x_aloadn X dX4_treaty_11 0 rfl ?_
    refine x_get X wu_X4 0 rfl rfl 1 (by decide) wf_X4_19 rfl rfl dX4_treaty_12 ?_
    refine x_iloadn X dX4_treaty_15 2 rfl ?_
    refine x_callVrv (As := [.int b]) (rest := []) X (c_X0_hasPerson l G w s.1 s.2.1 s.2.2.1 s.2.2.2.1 s.2.2.2.2.1 s.2.2.2.2.2 b (by omega)) xE0_ok (fun _ _ _ => trivial) [1, 2, 3, 4, 5] rfl 0 rfl rfl rfl rfl wco_X0_hasPerson wi_X0 xd_X0_hasPerson wl_X4_87 win_X0_hasPerson wse_X0_hasPerson (by decide) (Nat.le_of_ble_eq_true rfl) dX4_treaty_16 ?_
    refine x_ifeq_b 36 X dX4_treaty_19 (by decide) (fun c_2 => ?_) (fun c_2 => ?_)
    · -- 19 t
      refine x_iconst (v := (-1)) X dX4_treaty_36 (by decide) ?_
      exact x_ret X dX4_treaty_37 ⟨ret_i (by simp [F_treaty, tn, c_1, qaN, c_2]), rfl, by decide, by decide⟩
    · -- 19 f
      obtain ⟨bN, hbN, rfl⟩ := inR_nat c_2 (by omega)
      have qbN : (nI bN).toNatClampNeg = bN := nI_clamp (by omega)
      refine x_iloadn X dX4_treaty_22 1 rfl ?_
      refine x_iloadn X dX4_treaty_23 2 rfl ?_
      refine x_icmp_eq_n 36 X dX4_treaty_24 (by decide) (by omega) (by omega) (fun c_3 => ?_) (fun c_3 => ?_)
      · -- 24 t
        have heq : nI aN = nI bN := congrArg nI c_3
        refine x_iconst (v := (-1)) X dX4_treaty_36 (by decide) ?_
        exact x_ret X dX4_treaty_37 ⟨ret_i (by simp [F_treaty, tn, c_1, qaN, c_2, qbN, heq]), rfl, by decide, by decide⟩
      · -- 24 f
        have hne : ¬ nI aN = nI bN := fun q => c_3 ((nI_eq (by omega) (by omega)).mp q)
        refine x_iloadn X dX4_treaty_27 3 rfl ?_
        refine x_bipush (v := nI 10) X dX4_treaty_28 (by decide) ?_
        refine x_callSrv (As := [.int c, .int (nI 10)]) (rest := []) X (c_X4_isUpTo l G c 10 (by omega)) xE0_ok (fun _ _ _ => trivial) [] rfl rfl rfl wco_X4_isUpTo wi_X4 xd_X4_isUpTo wl_X4_91 wst_X4_isUpTo (by decide) (Nat.le_of_ble_eq_true rfl) dX4_treaty_30 ?_
        refine x_ifne_b 38 X dX4_treaty_33 (by decide) (fun c_4 => ?_) (fun c_4 => ?_)
        · -- 33 t
          obtain ⟨cN, hcN, rfl⟩ := inR_nat c_4 (by omega)
          have qcN : (nI cN).toNatClampNeg = cN := nI_clamp (by omega)
          refine x_iconst (v := nI 0) X dX4_treaty_38 (by decide) ?_
          refine x_istore (lv' := [(4, .int (nI 0)), (0, .ref o), (1, .int (nI aN)), (2, .int (nI bN)), (3, .int (nI cN))]) X dX4_treaty_39 (by decide) rfl ?_
          refine x_iconst (v := nI 0) X dX4_treaty_41 (by decide) ?_
          refine x_istore (lv' := [(5, .int (nI 0)), (4, .int (nI 0)), (0, .ref o), (1, .int (nI aN)), (2, .int (nI bN)), (3, .int (nI cN))]) X dX4_treaty_42 (by decide) rfl ?_
          have L44 : ∀ (fu : Nat) (t : Nat) (u : Int32), 5 - t < fu → (t ≤ 5) → (u = F_trb s aN bN (nI cN) t) → K (xJ [wInk G o x w d h g q e, wCq G w s]) 0 0 44 [(0, .ref o), (1, .int (nI aN)), (2, .int (nI bN)), (3, .int (nI cN)), (4, .int u), (5, .int (nI t))] [] := by
            intro fu
            induction fu with
            | zero => intro t u hfu; exact absurd hfu (Nat.not_lt_zero _)
            | succ fu ih_L44 =>
              intro t u hfu_L44 ht5 hu
              refine x_iload X dX4_treaty_44 5 rfl ?_
              refine x_iconst (v := nI 5) X dX4_treaty_46 (by decide) ?_
              refine x_icmp_ge_n 92 X dX4_treaty_47 (by decide) (by omega) (by omega) (fun c_5 => ?_) (fun c_5 => ?_)
              · -- 47 t
                have n_5 := Nat.not_lt.mpr c_5
                obtain rfl : t = 5 := by omega
                refine x_iload X dX4_treaty_92 4 rfl ?_
                exact x_ret X dX4_treaty_94 ⟨ret_i (by simp [F_treaty, tn, c_1, qaN, c_2, qbN, c_3, hne, c_4, qcN, ht5, hu, c_5, n_5]), rfl, by decide, by decide⟩
              · -- 47 f
                refine x_aloadn X dX4_treaty_50 0 rfl ?_
                refine x_get X wu_X4 0 rfl rfl 1 (by decide) wf_X4_19 rfl rfl dX4_treaty_51 ?_
                refine x_iloadn X dX4_treaty_54 1 rfl ?_
                refine x_iloadn X dX4_treaty_55 2 rfl ?_
                refine x_iload X dX4_treaty_56 5 rfl ?_
                refine x_iloadn X dX4_treaty_58 3 rfl ?_
                refine x_callVrv (As := [.int (nI aN), .int (nI bN), .int (nI t), .int (nI cN)]) (rest := []) X (c_X0_writtenFor l G w s.1 s.2.1 s.2.2.1 s.2.2.2.1 s.2.2.2.2.1 s.2.2.2.2.2 aN bN t (nI cN) (by omega) (by omega) (by omega)) xE0_ok (fun _ _ _ => trivial) [1, 2, 3, 4, 5] rfl 0 rfl rfl rfl rfl wco_X0_writtenFor wi_X0 xd_X0_writtenFor wl_X4_147 win_X0_writtenFor wse_X0_writtenFor (by decide) (Nat.le_of_ble_eq_true rfl) dX4_treaty_59 ?_
                refine x_aloadn X dX4_treaty_62 0 rfl ?_
                refine x_get X wu_X4 0 rfl rfl 1 (by decide) wf_X4_19 rfl rfl dX4_treaty_63 ?_
                refine x_iloadn X dX4_treaty_66 2 rfl ?_
                refine x_iloadn X dX4_treaty_67 1 rfl ?_
                refine x_iload X dX4_treaty_68 5 rfl ?_
                refine x_iloadn X dX4_treaty_70 3 rfl ?_
                refine x_callVrv (As := [.int (nI bN), .int (nI aN), .int (nI t), .int (nI cN)]) (rest := [.int (F_ink (s.2.2.1 aN) (s.2.2.2.2.1 (bN * 5 + t)) (s.2.2.2.2.1 (aN * 5 + t)) (nI cN))]) X (c_X0_writtenFor l G w s.1 s.2.1 s.2.2.1 s.2.2.2.1 s.2.2.2.2.1 s.2.2.2.2.2 bN aN t (nI cN) (by omega) (by omega) (by omega)) xE0_ok (fun _ _ _ => trivial) [1, 2, 3, 4, 5] rfl 0 rfl rfl rfl rfl wco_X0_writtenFor wi_X0 xd_X0_writtenFor wl_X4_147 win_X0_writtenFor wse_X0_writtenFor (by decide) (Nat.le_of_ble_eq_true rfl) dX4_treaty_71 ?_
                refine x_icmp_ne 86 X dX4_treaty_74 (by decide) (fun c_6 => ?_) (fun c_6 => ?_)
                · -- 74 t
                  refine x_iinc (v := nI (t + 1)) (lv' := [(5, .int (nI (t + 1))), (0, .ref o), (1, .int (nI aN)), (2, .int (nI bN)), (3, .int (nI cN)), (4, .int u)]) X dX4_treaty_86 5 rfl (nI_1 _) (by decide) rfl ?_
                  refine x_goto 44 X dX4_treaty_89 (by decide) ?_
                  refine x_lv (lv' := [(0, .ref o), (1, .int (nI aN)), (2, .int (nI bN)), (3, .int (nI cN)), (4, .int u), (5, .int (nI (t + 1)))]) X [1, 2, 3, 4, 5, 0] rfl ?_
                  exact ih_L44 (t + 1) u (by omega) (by omega) (by simp [F_trb, F_wf, c_1, qaN, c_2, qbN, c_3, hne, c_4, qcN, ht5, hu, c_5, c_6])
                · -- 74 f
                  refine x_iload X dX4_treaty_77 4 rfl ?_
                  refine x_iconst (v := nI 1) X dX4_treaty_79 (by decide) ?_
                  refine x_iload X dX4_treaty_80 5 rfl ?_
                  refine x_ishl (v := (nI 1) <<< ((nI t) &&& 31)) X dX4_treaty_82 rfl ?_
                  refine x_ior (v := u ||| ((nI 1) <<< ((nI t) &&& 31))) X dX4_treaty_83 rfl ?_
                  refine x_istore (lv' := [(4, .int (u ||| ((nI 1) <<< ((nI t) &&& 31)))), (0, .ref o), (1, .int (nI aN)), (2, .int (nI bN)), (3, .int (nI cN)), (5, .int (nI t))]) X dX4_treaty_84 (by decide) rfl ?_
                  refine x_iinc (v := nI (t + 1)) (lv' := [(5, .int (nI (t + 1))), (4, .int (u ||| ((nI 1) <<< ((nI t) &&& 31)))), (0, .ref o), (1, .int (nI aN)), (2, .int (nI bN)), (3, .int (nI cN))]) X dX4_treaty_86 5 rfl (nI_1 _) (by decide) rfl ?_
                  refine x_goto 44 X dX4_treaty_89 (by decide) ?_
                  refine x_lv (lv' := [(0, .ref o), (1, .int (nI aN)), (2, .int (nI bN)), (3, .int (nI cN)), (4, .int (u ||| ((nI 1) <<< ((nI t) &&& 31)))), (5, .int (nI (t + 1)))]) X [2, 3, 4, 5, 1, 0] rfl ?_
                  exact ih_L44 (t + 1) (u ||| ((nI 1) <<< ((nI t) &&& 31))) (by omega) (by omega) (by simp [F_trb, F_wf, c_1, qaN, c_2, qbN, c_3, hne, c_4, qcN, ht5, hu, c_5, c_6])
          refine x_lv (lv' := [(0, .ref o), (1, .int (nI aN)), (2, .int (nI bN)), (3, .int (nI cN)), (4, .int (nI 0)), (5, .int (nI 0))]) X [2, 3, 4, 5, 1, 0] rfl ?_
          exact L44 _ 0 (nI 0) (Nat.lt_succ_self _) (by omega) (rfl)
        · -- 33 f
          refine x_iconst (v := (-1)) X dX4_treaty_36 (by decide) ?_
          exact x_ret X dX4_treaty_37 ⟨ret_i (by simp [F_treaty, tn, c_1, qaN, c_2, qbN, c_3, hne, c_4]), rfl, by decide, by decide⟩
set_option maxRecDepth 100000 in
set_option maxHeartbeats 4000000 in
/-- X4_round -/
theorem c_X4_round (l : Launch) (G : xG) (o : Nat) (x : Nat → Nat) (w : Nat → Nat) (d : Nat → Nat) (h : Nat → Nat) (g : Nat → Nat) (q : Nat → Nat) (e : Nat) (s : xS) (a : Int32) (b : Int32) (c : Int32) (hs6 : s.1 ≤ 6) (hs1 : 0 < s.1) (hq5 : s.2.1 ≤ 5) (hmi : ∀ j, j < 6 → inR (s.2.2.2.1 j) 6 = true) : xM l G xE0 yX4_round cX4_round 6 (some .int) 4 80 0 0 [.ref o, .int a, .int b, .int c] (xJ [wInk G o x w d h g q e, wCq G w s]) (some (.int (F_round s a b c))) (fun w2 => w2 = xJ [wInk G o x w d h g q e, wCq G w s]) := by
  refine x_entry (by decide +kernel) (Nat.le_of_ble_eq_true rfl) rfl ⟨_, rfl, rfl⟩ (fun K X => ?_)
  refine x_aloadn X dX4_round_0 0 rfl ?_
  refine x_get X wu_X4 0 rfl rfl 1 (by decide) wf_X4_19 rfl rfl dX4_round_1 ?_
  refine x_iloadn X dX4_round_4 1 rfl ?_
  refine x_callVrv (As := [.int a]) (rest := []) X (c_X0_hasPaper l G w s.1 s.2.1 s.2.2.1 s.2.2.2.1 s.2.2.2.2.1 s.2.2.2.2.2 a (by omega)) xE0_ok (fun _ _ _ => trivial) [1, 2, 3, 4, 5] rfl 0 rfl rfl rfl rfl wco_X0_hasPaper wi_X0 xd_X0_hasPaper wl_X4_109 win_X0_hasPaper wse_X0_hasPaper (by decide) (Nat.le_of_ble_eq_true rfl) dX4_round_5 ?_
  refine x_ifeq_b 27 X dX4_round_8 (by decide) (fun c_1 => ?_) (fun c_1 => ?_)
  · -- 8 t
    refine x_iconst (v := (-1)) X dX4_round_27 (by decide) ?_
    exact x_ret X dX4_round_28 ⟨ret_i (by simp [F_round, tn, c_1]), rfl, by decide, by decide⟩
  · -- 8 f
    obtain ⟨aN, haN, rfl⟩ := inR_nat c_1 (by omega)
    have qaN : (nI aN).toNatClampNeg = aN := nI_clamp (by omega)
    refine x_iloadn X dX4_round_11 2 rfl ?_
    refine x_callSrv (As := [.int b]) (rest := []) X (c_X4_isTheme l G b) xE0_ok (fun _ _ _ => trivial) [] rfl rfl rfl wco_X4_isTheme wi_X4 xd_X4_isTheme wl_X4_102 wst_X4_isTheme (by decide) (Nat.le_of_ble_eq_true rfl) dX4_round_12 ?_
    refine x_ifeq_b 27 X dX4_round_15 (by decide) (fun c_2 => ?_) (fun c_2 => ?_)
    · -- 15 t
      refine x_iconst (v := (-1)) X dX4_round_27 (by decide) ?_
      exact x_ret X dX4_round_28 ⟨ret_i (by simp [F_round, tn, c_1, qaN, c_2]), rfl, by decide, by decide⟩
    · -- 15 f
      obtain ⟨bN, hbN, rfl⟩ := inR_nat c_2 (by omega)
      have qbN : (nI bN).toNatClampNeg = bN := nI_clamp (by omega)
      refine x_iloadn X dX4_round_18 3 rfl ?_
      refine x_bipush (v := nI 60) X dX4_round_19 (by decide) ?_
      refine x_callSrv (As := [.int c, .int (nI 60)]) (rest := []) X (c_X4_isUpTo l G c 60 (by omega)) xE0_ok (fun _ _ _ => trivial) [] rfl rfl rfl wco_X4_isUpTo wi_X4 xd_X4_isUpTo wl_X4_91 wst_X4_isUpTo (by decide) (Nat.le_of_ble_eq_true rfl) dX4_round_21 ?_
      refine x_ifne_b 29 X dX4_round_24 (by decide) (fun c_3 => ?_) (fun c_3 => ?_)
      · -- 24 t
        obtain ⟨cN, hcN, rfl⟩ := inR_nat c_3 (by omega)
        have qcN : (nI cN).toNatClampNeg = cN := nI_clamp (by omega)
        refine x_aloadn X dX4_round_29 0 rfl ?_
        refine x_get X wu_X4 0 rfl rfl 1 (by decide) wf_X4_19 rfl rfl dX4_round_30 ?_
        refine x_iloadn X dX4_round_33 1 rfl ?_
        refine x_iloadn X dX4_round_34 2 rfl ?_
        refine x_callVrv (As := [.int (nI aN), .int (nI bN)]) (rest := []) X (c_X0_lineOf l G w s.1 s.2.1 s.2.2.1 s.2.2.2.1 s.2.2.2.2.1 s.2.2.2.2.2 aN bN (by omega) (by omega)) xE0_ok (fun _ _ _ => trivial) [1, 2, 3, 4, 5] rfl 0 rfl rfl rfl rfl wco_X0_lineOf wi_X0 xd_X0_lineOf wl_X4_112 win_X0_lineOf wse_X0_lineOf (by decide) (Nat.le_of_ble_eq_true rfl) dX4_round_35 ?_
        refine x_istore (lv' := [(4, .int (s.2.2.2.2.2 (aN * 5 + bN))), (0, .ref o), (1, .int (nI aN)), (2, .int (nI bN)), (3, .int (nI cN))]) X dX4_round_38 (by decide) rfl ?_
        refine x_iconst (v := nI 0) X dX4_round_40 (by decide) ?_
        refine x_istore (lv' := [(5, .int (nI 0)), (4, .int (s.2.2.2.2.2 (aN * 5 + bN))), (0, .ref o), (1, .int (nI aN)), (2, .int (nI bN)), (3, .int (nI cN))]) X dX4_round_41 (by decide) rfl ?_
        have L43 : ∀ (fu : Nat) (i : Nat) (u : Int32), cN - i < fu → (i ≤ cN) → (u = F_rnd s aN bN i) → K (xJ [wInk G o x w d h g q e, wCq G w s]) 0 0 43 [(0, .ref o), (1, .int (nI aN)), (2, .int (nI bN)), (3, .int (nI cN)), (4, .int u), (5, .int (nI i))] [] := by
          intro fu
          induction fu with
          | zero => intro i u hfu; exact absurd hfu (Nat.not_lt_zero _)
          | succ fu ih_L43 =>
            intro i u hfu_L43 hi hu
            refine x_iload X dX4_round_43 5 rfl ?_
            refine x_iloadn X dX4_round_45 3 rfl ?_
            refine x_icmp_ge_n 79 X dX4_round_46 (by decide) (by omega) (by omega) (fun c_4 => ?_) (fun c_4 => ?_)
            · -- 46 t
              have n_4 := Nat.not_lt.mpr c_4
              have e : i = cN := by omega
              rw [e] at hu
              refine x_iload X dX4_round_79 4 rfl ?_
              refine x_callSrv (As := [.int u]) (rest := []) X (c_X4_told l G u) xE0_ok (fun _ _ _ => trivial) [] rfl rfl rfl wco_X4_told wi_X4 xd_X4_told wl_X4_115 wst_X4_told (by decide) (Nat.le_of_ble_eq_true rfl) dX4_round_81 ?_
              exact x_ret X dX4_round_84 ⟨ret_i (by simp [F_round, tn, c_1, qaN, c_2, qbN, c_3, qcN, hi, hu, c_4, n_4]), rfl, by decide, by decide⟩
            · -- 46 f
              refine x_aloadn X dX4_round_49 0 rfl ?_
              refine x_get X wu_X4 0 rfl rfl 1 (by decide) wf_X4_19 rfl rfl dX4_round_50 ?_
              refine x_iload X dX4_round_53 5 rfl ?_
              refine x_aloadn X dX4_round_55 0 rfl ?_
              refine x_get X wu_X4 0 rfl rfl 1 (by decide) wf_X4_19 rfl rfl dX4_round_56 ?_
              refine x_callVrv (As := []) (rest := [.int (nI i), .ref (w 0)]) X (c_X0_persons l G w s.1 s.2.1 s.2.2.1 s.2.2.2.1 s.2.2.2.2.1 s.2.2.2.2.2) xE0_ok (fun _ _ _ => trivial) [1, 2, 3, 4, 5] rfl 0 rfl rfl rfl rfl wco_X0_persons wi_X0 xd_X0_persons wl_X4_84 win_X0_persons wse_X0_persons (by decide) (Nat.le_of_ble_eq_true rfl) dX4_round_59 ?_
              refine x_callSrv (As := [.int (nI i), .int (nI s.1)]) (rest := [.ref (w 0)]) X (c_X4_remainder l G i s.1 (by omega) (by omega) (by omega)) xE0_ok (fun _ _ _ => trivial) [] rfl rfl rfl wco_X4_remainder wi_X4 xd_X4_remainder wl_X4_151 wst_X4_remainder (by decide) (Nat.le_of_ble_eq_true rfl) dX4_round_62 ?_
              have hmod := Nat.mod_lt i (show 0 < s.1 by omega)
              refine x_iloadn X dX4_round_65 2 rfl ?_
              refine x_iload X dX4_round_66 4 rfl ?_
              refine x_callVrv (As := [.int (nI (i % s.1)), .int (nI bN), .int u]) (rest := []) X (c_X0_copied l G w s.1 s.2.1 s.2.2.1 s.2.2.2.1 s.2.2.2.2.1 s.2.2.2.2.2 (i % s.1) bN u (by omega) (by omega) (by assumption)) xE0_ok (fun _ _ _ => trivial) [1, 2, 3, 4, 5] rfl 0 rfl rfl rfl rfl wco_X0_copied wi_X0 xd_X0_copied wl_X4_154 win_X0_copied wse_X0_copied (by decide) (Nat.le_of_ble_eq_true rfl) dX4_round_68 ?_
              refine x_istore (lv' := [(4, .int (F_cop (s.2.2.1 (i % s.1)) (s.2.2.2.2.1 (tn (s.2.2.2.1 (i % s.1)) * 5 + bN)) u)), (0, .ref o), (1, .int (nI aN)), (2, .int (nI bN)), (3, .int (nI cN)), (5, .int (nI i))]) X dX4_round_71 (by decide) rfl ?_
              refine x_iinc (v := nI (i + 1)) (lv' := [(5, .int (nI (i + 1))), (4, .int (F_cop (s.2.2.1 (i % s.1)) (s.2.2.2.2.1 (tn (s.2.2.2.1 (i % s.1)) * 5 + bN)) u)), (0, .ref o), (1, .int (nI aN)), (2, .int (nI bN)), (3, .int (nI cN))]) X dX4_round_73 5 rfl (nI_1 _) (by decide) rfl ?_
              refine x_goto 43 X dX4_round_76 (by decide) ?_
              refine x_lv (lv' := [(0, .ref o), (1, .int (nI aN)), (2, .int (nI bN)), (3, .int (nI cN)), (4, .int (F_cop (s.2.2.1 (i % s.1)) (s.2.2.2.2.1 (tn (s.2.2.2.1 (i % s.1)) * 5 + bN)) u)), (5, .int (nI (i + 1)))]) X [2, 3, 4, 5, 1, 0] rfl ?_
              exact ih_L43 (i + 1) (F_cop (s.2.2.1 (i % s.1)) (s.2.2.2.2.1 (tn (s.2.2.2.1 (i % s.1)) * 5 + bN)) u) (by omega) (by omega) (by rw [hu]; rfl)
        refine x_lv (lv' := [(0, .ref o), (1, .int (nI aN)), (2, .int (nI bN)), (3, .int (nI cN)), (4, .int (s.2.2.2.2.2 (aN * 5 + bN))), (5, .int (nI 0))]) X [2, 3, 4, 5, 1, 0] rfl ?_
        exact L43 _ 0 (s.2.2.2.2.2 (aN * 5 + bN)) (Nat.lt_succ_self _) (by omega) (rfl)
      · -- 24 f
        refine x_iconst (v := (-1)) X dX4_round_27 (by decide) ?_
        exact x_ret X dX4_round_28 ⟨ret_i (by simp [F_round, tn, c_1, qaN, c_2, qbN, c_3]), rfl, by decide, by decide⟩
set_option maxRecDepth 100000 in
set_option maxHeartbeats 4000000 in
/-- X4_least -/
theorem c_X4_least (l : Launch) (G : xG) (o : Nat) (x : Nat → Nat) (w : Nat → Nat) (d : Nat → Nat) (h : Nat → Nat) (g : Nat → Nat) (q : Nat → Nat) (e : Nat) (s : xS) (a : Int32) (b : Int32) (c : Int32) (hs6 : s.1 ≤ 6) (hs1 : 0 < s.1) (hq5 : s.2.1 ≤ 5) (hmi : ∀ j, j < 6 → inR (s.2.2.2.1 j) 6 = true) : xM l G xE0 yX4_least cX4_least 6 (some .int) 3 66 0 0 [.ref o, .int a, .int b, .int c] (xJ [wInk G o x w d h g q e, wCq G w s]) (some (.int (F_least s a b c))) (fun w2 => w2 = xJ [wInk G o x w d h g q e, wCq G w s]) := by
  refine x_entry (by decide +kernel) (Nat.le_of_ble_eq_true rfl) rfl ⟨_, rfl, rfl⟩ (fun K X => ?_)
  refine x_aloadn X dX4_least_0 0 rfl ?_
  refine x_get X wu_X4 0 rfl rfl 1 (by decide) wf_X4_19 rfl rfl dX4_least_1 ?_
  refine x_iloadn X dX4_least_4 1 rfl ?_
  refine x_callVrv (As := [.int a]) (rest := []) X (c_X0_hasPaper l G w s.1 s.2.1 s.2.2.1 s.2.2.2.1 s.2.2.2.2.1 s.2.2.2.2.2 a (by omega)) xE0_ok (fun _ _ _ => trivial) [1, 2, 3, 4, 5] rfl 0 rfl rfl rfl rfl wco_X0_hasPaper wi_X0 xd_X0_hasPaper wl_X4_109 win_X0_hasPaper wse_X0_hasPaper (by decide) (Nat.le_of_ble_eq_true rfl) dX4_least_5 ?_
  refine x_ifeq_b 30 X dX4_least_8 (by decide) (fun c_1 => ?_) (fun c_1 => ?_)
  · -- 8 t
    refine x_iconst (v := (-1)) X dX4_least_30 (by decide) ?_
    exact x_ret X dX4_least_31 ⟨ret_i (by simp [F_least, tn, c_1]), rfl, by decide, by decide⟩
  · -- 8 f
    obtain ⟨aN, haN, rfl⟩ := inR_nat c_1 (by omega)
    have qaN : (nI aN).toNatClampNeg = aN := nI_clamp (by omega)
    refine x_aloadn X dX4_least_11 0 rfl ?_
    refine x_get X wu_X4 0 rfl rfl 1 (by decide) wf_X4_19 rfl rfl dX4_least_12 ?_
    refine x_iloadn X dX4_least_15 2 rfl ?_
    refine x_callVrv (As := [.int b]) (rest := []) X (c_X0_hasPerson l G w s.1 s.2.1 s.2.2.1 s.2.2.2.1 s.2.2.2.2.1 s.2.2.2.2.2 b (by omega)) xE0_ok (fun _ _ _ => trivial) [1, 2, 3, 4, 5] rfl 0 rfl rfl rfl rfl wco_X0_hasPerson wi_X0 xd_X0_hasPerson wl_X4_87 win_X0_hasPerson wse_X0_hasPerson (by decide) (Nat.le_of_ble_eq_true rfl) dX4_least_16 ?_
    refine x_ifeq_b 30 X dX4_least_19 (by decide) (fun c_2 => ?_) (fun c_2 => ?_)
    · -- 19 t
      refine x_iconst (v := (-1)) X dX4_least_30 (by decide) ?_
      exact x_ret X dX4_least_31 ⟨ret_i (by simp [F_least, tn, c_1, qaN, c_2]), rfl, by decide, by decide⟩
    · -- 19 f
      obtain ⟨bN, hbN, rfl⟩ := inR_nat c_2 (by omega)
      have qbN : (nI bN).toNatClampNeg = bN := nI_clamp (by omega)
      refine x_iloadn X dX4_least_22 3 rfl ?_
      refine x_iconst (v := nI 1) X dX4_least_23 (by decide) ?_
      refine x_callSrv (As := [.int c, .int (nI 1)]) (rest := []) X (c_X4_isUpTo l G c 1 (by omega)) xE0_ok (fun _ _ _ => trivial) [] rfl rfl rfl wco_X4_isUpTo wi_X4 xd_X4_isUpTo wl_X4_91 wst_X4_isUpTo (by decide) (Nat.le_of_ble_eq_true rfl) dX4_least_24 ?_
      refine x_ifne_b 32 X dX4_least_27 (by decide) (fun c_3 => ?_) (fun c_3 => ?_)
      · -- 27 t
        obtain ⟨cN, hcN, rfl⟩ := inR_nat c_3 (by omega)
        have qcN : (nI cN).toNatClampNeg = cN := nI_clamp (by omega)
        refine x_aloadn X dX4_least_32 0 rfl ?_
        refine x_get X wu_X4 0 rfl rfl 1 (by decide) wf_X4_19 rfl rfl dX4_least_33 ?_
        refine x_iloadn X dX4_least_36 1 rfl ?_
        refine x_callVrv (As := [.int (nI aN)]) (rest := []) X (c_X0_filledLinesOf l G w s.1 s.2.1 s.2.2.1 s.2.2.2.1 s.2.2.2.2.1 s.2.2.2.2.2 aN (by omega)) xE0_ok (fun _ _ _ => trivial) [1, 2, 3, 4, 5] rfl 0 rfl rfl rfl rfl wco_X0_filledLinesOf wi_X0 xd_X0_filledLinesOf wl_X4_132 win_X0_filledLinesOf wse_X0_filledLinesOf (by decide) (Nat.le_of_ble_eq_true rfl) dX4_least_37 ?_
        have hfil := F_fil_le s.2.2.2.2.2 aN 5
        refine x_iconst (v := nI 5) X dX4_least_40 (by decide) ?_
        refine x_icmp_ge_n 47 X dX4_least_41 (by decide) (by omega) (by omega) (fun c_4 => ?_) (fun c_4 => ?_)
        · -- 41 t
          have n_4 := Nat.not_lt.mpr c_4
          refine x_iconst (v := nI 0) X dX4_least_47 (by decide) ?_
          refine x_istore (lv' := [(4, .int (nI 0)), (0, .ref o), (1, .int (nI aN)), (2, .int (nI bN)), (3, .int (nI cN))]) X dX4_least_48 (by decide) rfl ?_
          refine x_iconst (v := nI 0) X dX4_least_50 (by decide) ?_
          refine x_istore (lv' := [(5, .int (nI 0)), (4, .int (nI 0)), (0, .ref o), (1, .int (nI aN)), (2, .int (nI bN)), (3, .int (nI cN))]) X dX4_least_51 (by decide) rfl ?_
          have L53 : ∀ (fu : Nat) (t : Nat) (u : Int32), 5 - t < fu → (t ≤ 5) → (u = F_lsb s aN bN t) → K (xJ [wInk G o x w d h g q e, wCq G w s]) 0 0 53 [(0, .ref o), (1, .int (nI aN)), (2, .int (nI bN)), (3, .int (nI cN)), (4, .int u), (5, .int (nI t))] [] := by
            intro fu
            induction fu with
            | zero => intro t u hfu; exact absurd hfu (Nat.not_lt_zero _)
            | succ fu ih_L53 =>
              intro t u hfu_L53 ht5 hu
              refine x_iload X dX4_least_53 5 rfl ?_
              refine x_iconst (v := nI 5) X dX4_least_55 (by decide) ?_
              refine x_icmp_ge_n 97 X dX4_least_56 (by decide) (by omega) (by omega) (fun c_5 => ?_) (fun c_5 => ?_)
              · -- 56 t
                have n_5 := Nat.not_lt.mpr c_5
                obtain rfl : t = 5 := by omega
                refine x_iloadn X dX4_least_97 3 rfl ?_
                refine x_if_ne_n 109 X dX4_least_98 (by decide) (by omega) (fun c_6 => ?_) (fun c_6 => ?_)
                · -- 98 t
                  refine x_iload X dX4_least_109 4 rfl ?_
                  exact x_ret X dX4_least_111 ⟨ret_i (by simp [F_least, tn, c_1, qaN, c_2, qbN, c_3, qcN, c_4, n_4, ht5, hu, c_5, n_5, c_6]), rfl, by decide, by decide⟩
                · -- 98 f
                  refine x_iload X dX4_least_101 4 rfl ?_
                  refine x_callSrv (As := [.int u]) (rest := []) X (c_J6_bitCount_0f7a4 l G u) xE0_ok (fun _ _ _ => trivial) [] rfl rfl rfl wco_J6_bitCount_0f7a4 wi_J6 xd_J6_bitCount_0f7a4 wl_X4_170 wst_J6_bitCount_0f7a4 (by decide) (Nat.le_of_ble_eq_true rfl) dX4_least_103 ?_
                  refine x_goto 111 X dX4_least_106 (by decide) ?_
                  exact x_ret X dX4_least_111 ⟨ret_i (by simp [F_least, tn, c_1, qaN, c_2, qbN, c_3, qcN, c_4, n_4, ht5, hu, c_5, n_5, (eq_true c_6)]), rfl, by decide, by decide⟩
              · -- 56 f
                refine x_aloadn X dX4_least_59 0 rfl ?_
                refine x_get X wu_X4 0 rfl rfl 1 (by decide) wf_X4_19 rfl rfl dX4_least_60 ?_
                refine x_iloadn X dX4_least_63 1 rfl ?_
                refine x_iload X dX4_least_64 5 rfl ?_
                refine x_callVrv (As := [.int (nI aN), .int (nI t)]) (rest := []) X (c_X0_lineOf l G w s.1 s.2.1 s.2.2.1 s.2.2.2.1 s.2.2.2.2.1 s.2.2.2.2.2 aN t (by omega) (by omega)) xE0_ok (fun _ _ _ => trivial) [1, 2, 3, 4, 5] rfl 0 rfl rfl rfl rfl wco_X0_lineOf wi_X0 xd_X0_lineOf wl_X4_112 win_X0_lineOf wse_X0_lineOf (by decide) (Nat.le_of_ble_eq_true rfl) dX4_least_66 ?_
                refine x_aloadn X dX4_least_69 0 rfl ?_
                refine x_get X wu_X4 0 rfl rfl 1 (by decide) wf_X4_19 rfl rfl dX4_least_70 ?_
                refine x_iloadn X dX4_least_73 2 rfl ?_
                refine x_iload X dX4_least_74 5 rfl ?_
                refine x_callVrv (As := [.int (nI bN), .int (nI t)]) (rest := [.int (s.2.2.2.2.2 (aN * 5 + t))]) X (c_X0_viewOf l G w s.1 s.2.1 s.2.2.1 s.2.2.2.1 s.2.2.2.2.1 s.2.2.2.2.2 bN t (by omega) (by omega)) xE0_ok (fun _ _ _ => trivial) [1, 2, 3, 4, 5] rfl 0 rfl rfl rfl rfl wco_X0_viewOf wi_X0 xd_X0_viewOf wl_X4_105 win_X0_viewOf wse_X0_viewOf (by decide) (Nat.le_of_ble_eq_true rfl) dX4_least_76 ?_
                refine x_icmp_eq 91 X dX4_least_79 (by decide) (fun c_7 => ?_) (fun c_7 => ?_)
                · -- 79 t
                  refine x_iinc (v := nI (t + 1)) (lv' := [(5, .int (nI (t + 1))), (0, .ref o), (1, .int (nI aN)), (2, .int (nI bN)), (3, .int (nI cN)), (4, .int u)]) X dX4_least_91 5 rfl (nI_1 _) (by decide) rfl ?_
                  refine x_goto 53 X dX4_least_94 (by decide) ?_
                  refine x_lv (lv' := [(0, .ref o), (1, .int (nI aN)), (2, .int (nI bN)), (3, .int (nI cN)), (4, .int u), (5, .int (nI (t + 1)))]) X [1, 2, 3, 4, 5, 0] rfl ?_
                  exact ih_L53 (t + 1) u (by omega) (by omega) (by simp [F_lsb, c_1, qaN, c_2, qbN, c_3, qcN, c_4, n_4, ht5, hu, c_5, c_7])
                · -- 79 f
                  refine x_iload X dX4_least_82 4 rfl ?_
                  refine x_iconst (v := nI 1) X dX4_least_84 (by decide) ?_
                  refine x_iload X dX4_least_85 5 rfl ?_
                  refine x_ishl (v := (nI 1) <<< ((nI t) &&& 31)) X dX4_least_87 rfl ?_
                  refine x_ior (v := u ||| ((nI 1) <<< ((nI t) &&& 31))) X dX4_least_88 rfl ?_
                  refine x_istore (lv' := [(4, .int (u ||| ((nI 1) <<< ((nI t) &&& 31)))), (0, .ref o), (1, .int (nI aN)), (2, .int (nI bN)), (3, .int (nI cN)), (5, .int (nI t))]) X dX4_least_89 (by decide) rfl ?_
                  refine x_iinc (v := nI (t + 1)) (lv' := [(5, .int (nI (t + 1))), (4, .int (u ||| ((nI 1) <<< ((nI t) &&& 31)))), (0, .ref o), (1, .int (nI aN)), (2, .int (nI bN)), (3, .int (nI cN))]) X dX4_least_91 5 rfl (nI_1 _) (by decide) rfl ?_
                  refine x_goto 53 X dX4_least_94 (by decide) ?_
                  refine x_lv (lv' := [(0, .ref o), (1, .int (nI aN)), (2, .int (nI bN)), (3, .int (nI cN)), (4, .int (u ||| ((nI 1) <<< ((nI t) &&& 31)))), (5, .int (nI (t + 1)))]) X [2, 3, 4, 5, 1, 0] rfl ?_
                  exact ih_L53 (t + 1) (u ||| ((nI 1) <<< ((nI t) &&& 31))) (by omega) (by omega) (by simp [F_lsb, c_1, qaN, c_2, qbN, c_3, qcN, c_4, n_4, ht5, hu, c_5, c_7])
          refine x_lv (lv' := [(0, .ref o), (1, .int (nI aN)), (2, .int (nI bN)), (3, .int (nI cN)), (4, .int (nI 0)), (5, .int (nI 0))]) X [2, 3, 4, 5, 1, 0] rfl ?_
          exact L53 _ 0 (nI 0) (Nat.lt_succ_self _) (by omega) (rfl)
        · -- 41 f
          refine x_bipush (v := (-4)) X dX4_least_44 (by decide) ?_
          exact x_ret X dX4_least_46 ⟨ret_i (by simp [F_least, tn, c_1, qaN, c_2, qbN, c_3, qcN, c_4]), rfl, by decide, by decide⟩
      · -- 27 f
        refine x_iconst (v := (-1)) X dX4_least_30 (by decide) ?_
        exact x_ret X dX4_least_31 ⟨ret_i (by simp [F_least, tn, c_1, qaN, c_2, qbN, c_3]), rfl, by decide, by decide⟩
end
