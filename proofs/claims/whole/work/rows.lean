section
-- ===== PART A: goes FIRST, ahead of the names: the tables' words, and 'selects' of the private methods out of them =====
/-- a private method of a class that the tables say can be made, by its rows of tables_1 -/
def lw_okq (q : MethodName × Nat) : Prop := (q.1.cls ≠ "java/lang/invoke/MethodHandle" ∧ q.1.cls ≠ "java/lang/invoke/VarHandle") ∧ Cond.instantiable q.1.cls q.2 ∈ tables_1 ∧ Cond.privateMethod q.1 ∈ tables_1 ∧ Cond.instanceMethod q.1 ∈ tables_1
theorem lw_p0 : lw_okq (⟨"OtherSideInk$Text", "readNumbers", "(I)I"⟩, 4) := ⟨⟨by decide +kernel, by decide +kernel⟩, List.mem_of_getElem? (i := 24) (by decide +kernel), List.mem_of_getElem? (i := 174) (by decide +kernel), List.mem_of_getElem? (i := 175) (by decide +kernel)⟩
theorem lw_p1 : lw_okq (⟨"OtherSideInk$Text", "figuresAt", "(I)I"⟩, 4) := ⟨⟨by decide +kernel, by decide +kernel⟩, List.mem_of_getElem? (i := 24) (by decide +kernel), List.mem_of_getElem? (i := 178) (by decide +kernel), List.mem_of_getElem? (i := 179) (by decide +kernel)⟩
theorem lw_p2 : lw_okq (⟨"OtherSideInk$Text", "letterAt", "(I)I"⟩, 4) := ⟨⟨by decide +kernel, by decide +kernel⟩, List.mem_of_getElem? (i := 24) (by decide +kernel), List.mem_of_getElem? (i := 182) (by decide +kernel), List.mem_of_getElem? (i := 183) (by decide +kernel)⟩
theorem lw_p3 : lw_okq (⟨"OtherSideInk$Text", "numberAt", "(II)I"⟩, 4) := ⟨⟨by decide +kernel, by decide +kernel⟩, List.mem_of_getElem? (i := 24) (by decide +kernel), List.mem_of_getElem? (i := 192) (by decide +kernel), List.mem_of_getElem? (i := 193) (by decide +kernel)⟩
theorem lw_p4 : lw_okq (⟨"OtherSideInk$Text", "tellItem", "(ILOtherSideInk$Chancery;)Z"⟩, 4) := ⟨⟨by decide +kernel, by decide +kernel⟩, List.mem_of_getElem? (i := 24) (by decide +kernel), List.mem_of_getElem? (i := 196) (by decide +kernel), List.mem_of_getElem? (i := 197) (by decide +kernel)⟩
theorem lw_p5 : lw_okq (⟨"OtherSideInk$Shelf", "placeAbove", "(I)LOtherSideInk$Chancery;"⟩, 3) := ⟨⟨by decide +kernel, by decide +kernel⟩, List.mem_of_getElem? (i := 69) (by decide +kernel), List.mem_of_getElem? (i := 371) (by decide +kernel), List.mem_of_getElem? (i := 372) (by decide +kernel)⟩
theorem lw_p6 : lw_okq (⟨"OtherSideInk", "firstSeen", "(II)I"⟩, 7) := ⟨⟨by decide +kernel, by decide +kernel⟩, List.mem_of_getElem? (i := 16) (by decide +kernel), List.mem_of_getElem? (i := 475) (by decide +kernel), List.mem_of_getElem? (i := 476) (by decide +kernel)⟩
theorem lw_p7 : lw_okq (⟨"OtherSideInkModel", "clearTold", "()V"⟩, 20) := ⟨⟨by decide +kernel, by decide +kernel⟩, List.mem_of_getElem? (i := 571) (by decide +kernel), List.mem_of_getElem? (i := 577) (by decide +kernel), List.mem_of_getElem? (i := 578) (by decide +kernel)⟩
theorem lw_p8 : lw_okq (⟨"OtherSideInkModel", "tellsPerson", "(II)V"⟩, 20) := ⟨⟨by decide +kernel, by decide +kernel⟩, List.mem_of_getElem? (i := 571) (by decide +kernel), List.mem_of_getElem? (i := 581) (by decide +kernel), List.mem_of_getElem? (i := 582) (by decide +kernel)⟩
theorem lw_p9 : lw_okq (⟨"OtherSideInkModel", "settles", "()V"⟩, 20) := ⟨⟨by decide +kernel, by decide +kernel⟩, List.mem_of_getElem? (i := 571) (by decide +kernel), List.mem_of_getElem? (i := 585) (by decide +kernel), List.mem_of_getElem? (i := 586) (by decide +kernel)⟩
theorem lw_p10 : lw_okq (⟨"OtherSideInkModel", "readItem", "()Z"⟩, 20) := ⟨⟨by decide +kernel, by decide +kernel⟩, List.mem_of_getElem? (i := 571) (by decide +kernel), List.mem_of_getElem? (i := 668) (by decide +kernel), List.mem_of_getElem? (i := 669) (by decide +kernel)⟩
theorem lw_p11 : lw_okq (⟨"OtherSideInkModel", "letterAt", "(I)I"⟩, 20) := ⟨⟨by decide +kernel, by decide +kernel⟩, List.mem_of_getElem? (i := 571) (by decide +kernel), List.mem_of_getElem? (i := 672) (by decide +kernel), List.mem_of_getElem? (i := 673) (by decide +kernel)⟩
theorem lw_p12 : lw_okq (⟨"OtherSideInkModel", "readPersonOf", "()Z"⟩, 20) := ⟨⟨by decide +kernel, by decide +kernel⟩, List.mem_of_getElem? (i := 571) (by decide +kernel), List.mem_of_getElem? (i := 676) (by decide +kernel), List.mem_of_getElem? (i := 677) (by decide +kernel)⟩
theorem lw_p13 : lw_okq (⟨"OtherSideInkModel", "readNumbers", "(I)Z"⟩, 20) := ⟨⟨by decide +kernel, by decide +kernel⟩, List.mem_of_getElem? (i := 571) (by decide +kernel), List.mem_of_getElem? (i := 680) (by decide +kernel), List.mem_of_getElem? (i := 681) (by decide +kernel)⟩
theorem lw_p14 : lw_okq (⟨"OtherSideInkModel", "isTold", "(III)Z"⟩, 20) := ⟨⟨by decide +kernel, by decide +kernel⟩, List.mem_of_getElem? (i := 571) (by decide +kernel), List.mem_of_getElem? (i := 687) (by decide +kernel), List.mem_of_getElem? (i := 688) (by decide +kernel)⟩
theorem lw_p15 : lw_okq (⟨"OtherSideInkModel", "readViewOf", "()Z"⟩, 20) := ⟨⟨by decide +kernel, by decide +kernel⟩, List.mem_of_getElem? (i := 571) (by decide +kernel), List.mem_of_getElem? (i := 691) (by decide +kernel), List.mem_of_getElem? (i := 692) (by decide +kernel)⟩
def lw_privs_1 : List (MethodName × Nat) := [(⟨"OtherSideInk$Text", "readNumbers", "(I)I"⟩, 4), (⟨"OtherSideInk$Text", "figuresAt", "(I)I"⟩, 4), (⟨"OtherSideInk$Text", "letterAt", "(I)I"⟩, 4), (⟨"OtherSideInk$Text", "numberAt", "(II)I"⟩, 4), (⟨"OtherSideInk$Text", "tellItem", "(ILOtherSideInk$Chancery;)Z"⟩, 4), (⟨"OtherSideInk$Shelf", "placeAbove", "(I)LOtherSideInk$Chancery;"⟩, 3), (⟨"OtherSideInk", "firstSeen", "(II)I"⟩, 7), (⟨"OtherSideInkModel", "clearTold", "()V"⟩, 20), (⟨"OtherSideInkModel", "tellsPerson", "(II)V"⟩, 20), (⟨"OtherSideInkModel", "settles", "()V"⟩, 20), (⟨"OtherSideInkModel", "readItem", "()Z"⟩, 20), (⟨"OtherSideInkModel", "letterAt", "(I)I"⟩, 20), (⟨"OtherSideInkModel", "readPersonOf", "()Z"⟩, 20), (⟨"OtherSideInkModel", "readNumbers", "(I)Z"⟩, 20), (⟨"OtherSideInkModel", "isTold", "(III)Z"⟩, 20), (⟨"OtherSideInkModel", "readViewOf", "()Z"⟩, 20)]
theorem lw_r1 : ∀ q ∈ lw_privs_1, lw_okq q := List.forall_mem_cons.mpr ⟨lw_p0, List.forall_mem_cons.mpr ⟨lw_p1, List.forall_mem_cons.mpr ⟨lw_p2, List.forall_mem_cons.mpr ⟨lw_p3, List.forall_mem_cons.mpr ⟨lw_p4, List.forall_mem_cons.mpr ⟨lw_p5, List.forall_mem_cons.mpr ⟨lw_p6, List.forall_mem_cons.mpr ⟨lw_p7, List.forall_mem_cons.mpr ⟨lw_p8, List.forall_mem_cons.mpr ⟨lw_p9, List.forall_mem_cons.mpr ⟨lw_p10, List.forall_mem_cons.mpr ⟨lw_p11, List.forall_mem_cons.mpr ⟨lw_p12, List.forall_mem_cons.mpr ⟨lw_p13, List.forall_mem_cons.mpr ⟨lw_p14, List.forall_mem_cons.mpr ⟨lw_p15, fun _ h => absurd h List.not_mem_nil⟩⟩⟩⟩⟩⟩⟩⟩⟩⟩⟩⟩⟩⟩⟩⟩
theorem lw_p16 : lw_okq (⟨"OtherSideInkModel", "readPapersOf", "()Z"⟩, 20) := ⟨⟨by decide +kernel, by decide +kernel⟩, List.mem_of_getElem? (i := 571) (by decide +kernel), List.mem_of_getElem? (i := 695) (by decide +kernel), List.mem_of_getElem? (i := 696) (by decide +kernel)⟩
theorem lw_p17 : lw_okq (⟨"OtherSideInkModel", "isPerson", "(I)Z"⟩, 20) := ⟨⟨by decide +kernel, by decide +kernel⟩, List.mem_of_getElem? (i := 571) (by decide +kernel), List.mem_of_getElem? (i := 708) (by decide +kernel), List.mem_of_getElem? (i := 709) (by decide +kernel)⟩
theorem lw_p18 : lw_okq (⟨"OtherSideInkModel", "isPaper", "(I)Z"⟩, 20) := ⟨⟨by decide +kernel, by decide +kernel⟩, List.mem_of_getElem? (i := 571) (by decide +kernel), List.mem_of_getElem? (i := 723) (by decide +kernel), List.mem_of_getElem? (i := 724) (by decide +kernel)⟩
theorem lw_p19 : lw_okq (⟨"OtherSideInkModel", "asItIs", "()V"⟩, 20) := ⟨⟨by decide +kernel, by decide +kernel⟩, List.mem_of_getElem? (i := 571) (by decide +kernel), List.mem_of_getElem? (i := 734) (by decide +kernel), List.mem_of_getElem? (i := 735) (by decide +kernel)⟩
theorem lw_p20 : lw_okq (⟨"OtherSideInkModel", "writes", "(IIII)I"⟩, 20) := ⟨⟨by decide +kernel, by decide +kernel⟩, List.mem_of_getElem? (i := 571) (by decide +kernel), List.mem_of_getElem? (i := 738) (by decide +kernel), List.mem_of_getElem? (i := 739) (by decide +kernel)⟩
theorem lw_p21 : lw_okq (⟨"OtherSideInkModel", "viewOf", "(II)I"⟩, 20) := ⟨⟨by decide +kernel, by decide +kernel⟩, List.mem_of_getElem? (i := 571) (by decide +kernel), List.mem_of_getElem? (i := 742) (by decide +kernel), List.mem_of_getElem? (i := 743) (by decide +kernel)⟩
theorem lw_p22 : lw_okq (⟨"OtherSideInkModel", "remembers", "()V"⟩, 20) := ⟨⟨by decide +kernel, by decide +kernel⟩, List.mem_of_getElem? (i := 571) (by decide +kernel), List.mem_of_getElem? (i := 750) (by decide +kernel), List.mem_of_getElem? (i := 751) (by decide +kernel)⟩
theorem lw_p23 : lw_okq (⟨"OtherSideInkModel", "copying", "(III)V"⟩, 20) := ⟨⟨by decide +kernel, by decide +kernel⟩, List.mem_of_getElem? (i := 571) (by decide +kernel), List.mem_of_getElem? (i := 762) (by decide +kernel), List.mem_of_getElem? (i := 763) (by decide +kernel)⟩
theorem lw_p24 : lw_okq (⟨"OtherSideInkModel", "copied", "(III)I"⟩, 20) := ⟨⟨by decide +kernel, by decide +kernel⟩, List.mem_of_getElem? (i := 571) (by decide +kernel), List.mem_of_getElem? (i := 766) (by decide +kernel), List.mem_of_getElem? (i := 767) (by decide +kernel)⟩
theorem lw_p25 : lw_okq (⟨"OtherSideInkModel", "toward", "(III)I"⟩, 20) := ⟨⟨by decide +kernel, by decide +kernel⟩, List.mem_of_getElem? (i := 571) (by decide +kernel), List.mem_of_getElem? (i := 770) (by decide +kernel), List.mem_of_getElem? (i := 771) (by decide +kernel)⟩
theorem lw_p26 : lw_okq (⟨"OtherSideInkModel", "filled", "(I)I"⟩, 20) := ⟨⟨by decide +kernel, by decide +kernel⟩, List.mem_of_getElem? (i := 571) (by decide +kernel), List.mem_of_getElem? (i := 774) (by decide +kernel), List.mem_of_getElem? (i := 775) (by decide +kernel)⟩
theorem lw_p27 : lw_okq (⟨"OtherSideInkModel", "ownOf", "(II)I"⟩, 20) := ⟨⟨by decide +kernel, by decide +kernel⟩, List.mem_of_getElem? (i := 571) (by decide +kernel), List.mem_of_getElem? (i := 794) (by decide +kernel), List.mem_of_getElem? (i := 795) (by decide +kernel)⟩
theorem lw_p28 : lw_okq (⟨"OtherSideInkModel", "isWritten", "(III)Z"⟩, 20) := ⟨⟨by decide +kernel, by decide +kernel⟩, List.mem_of_getElem? (i := 571) (by decide +kernel), List.mem_of_getElem? (i := 834) (by decide +kernel), List.mem_of_getElem? (i := 835) (by decide +kernel)⟩
def lw_privs_2 : List (MethodName × Nat) := [(⟨"OtherSideInkModel", "readPapersOf", "()Z"⟩, 20), (⟨"OtherSideInkModel", "isPerson", "(I)Z"⟩, 20), (⟨"OtherSideInkModel", "isPaper", "(I)Z"⟩, 20), (⟨"OtherSideInkModel", "asItIs", "()V"⟩, 20), (⟨"OtherSideInkModel", "writes", "(IIII)I"⟩, 20), (⟨"OtherSideInkModel", "viewOf", "(II)I"⟩, 20), (⟨"OtherSideInkModel", "remembers", "()V"⟩, 20), (⟨"OtherSideInkModel", "copying", "(III)V"⟩, 20), (⟨"OtherSideInkModel", "copied", "(III)I"⟩, 20), (⟨"OtherSideInkModel", "toward", "(III)I"⟩, 20), (⟨"OtherSideInkModel", "filled", "(I)I"⟩, 20), (⟨"OtherSideInkModel", "ownOf", "(II)I"⟩, 20), (⟨"OtherSideInkModel", "isWritten", "(III)Z"⟩, 20)]
theorem lw_r2 : ∀ q ∈ lw_privs_2, lw_okq q := List.forall_mem_cons.mpr ⟨lw_p16, List.forall_mem_cons.mpr ⟨lw_p17, List.forall_mem_cons.mpr ⟨lw_p18, List.forall_mem_cons.mpr ⟨lw_p19, List.forall_mem_cons.mpr ⟨lw_p20, List.forall_mem_cons.mpr ⟨lw_p21, List.forall_mem_cons.mpr ⟨lw_p22, List.forall_mem_cons.mpr ⟨lw_p23, List.forall_mem_cons.mpr ⟨lw_p24, List.forall_mem_cons.mpr ⟨lw_p25, List.forall_mem_cons.mpr ⟨lw_p26, List.forall_mem_cons.mpr ⟨lw_p27, List.forall_mem_cons.mpr ⟨lw_p28, fun _ h => absurd h List.not_mem_nil⟩⟩⟩⟩⟩⟩⟩⟩⟩⟩⟩⟩⟩
def lw_privs : List (MethodName × Nat) := lw_privs_1 ++ (lw_privs_2)
def lw_tbl : List Cond := k2_sels lw_privs ++ tables_1
theorem lw_privs_ok : ∀ q ∈ lw_privs, lw_okq q := by
  show ∀ q ∈ lw_privs_1 ++ (lw_privs_2), lw_okq q
  exact List.forall_mem_append.mpr ⟨lw_r1, lw_r2⟩
-- ===== end of PART A =====
/-! ===== printed names (classes, fields, methods) ===== -/
def RX0 : String := "OtherSideInk$Chancery"
def TX0 : u_T := fun k => match k with
  | 0 => ("OtherSideInk$Chancery", "personCount", "I", false)
  | 1 => ("OtherSideInk$Chancery", "paperCount", "I", false)
  | 2 => ("OtherSideInk$Chancery", "kindRow", "[I", true)
  | 3 => ("OtherSideInk$Chancery", "mindRow", "[I", true)
  | 4 => ("OtherSideInk$Chancery", "viewRow", "[I", true)
  | _ => ("OtherSideInk$Chancery", "lineRow", "[I", true)
def tyX0 : Nat → FieldType := fun k => match k with
  | 0 => .int
  | 1 => .int
  | 2 => .array .int
  | 3 => .array .int
  | 4 => .array .int
  | _ => .array .int
theorem nmX0 : ∀ a, a < 6 → ∀ b, b < 6 → a ≠ b → (TX0 a).2.1 ≠ (TX0 b).2.1 := by decide +kernel
theorem tyX0_ok : ∀ k, k < 6 → parseFieldDescriptor (TX0 k).2.2.1 = some (tyX0 k) := by decide +kernel
abbrev cX0_init : ByteArray := prog_2_method_1_code
def yX0_init : MethodName := ⟨RX0, "<init>", "()V"⟩
abbrev cX0_becomeBlank : ByteArray := prog_2_method_2_code
def yX0_becomeBlank : MethodName := ⟨RX0, "becomeBlank", "()V"⟩
abbrev cX0_becomeLike : ByteArray := prog_2_method_3_code
def yX0_becomeLike : MethodName := ⟨RX0, "becomeLike", "(LOtherSideInk$Chancery;)V"⟩
abbrev cX0_takeRow : ByteArray := prog_2_method_4_code
def yX0_takeRow : MethodName := ⟨RX0, "takeRow", "([I[I)V"⟩
abbrev cX0_persons : ByteArray := prog_2_method_5_code
def yX0_persons : MethodName := ⟨RX0, "persons", "()I"⟩
abbrev cX0_papers : ByteArray := prog_2_method_6_code
def yX0_papers : MethodName := ⟨RX0, "papers", "()I"⟩
abbrev cX0_hasPerson : ByteArray := prog_2_method_7_code
def yX0_hasPerson : MethodName := ⟨RX0, "hasPerson", "(I)Z"⟩
abbrev cX0_hasPaper : ByteArray := prog_2_method_8_code
def yX0_hasPaper : MethodName := ⟨RX0, "hasPaper", "(I)Z"⟩
abbrev cX0_tellPerson : ByteArray := prog_2_method_9_code
def yX0_tellPerson : MethodName := ⟨RX0, "tellPerson", "(II)Z"⟩
abbrev cX0_tellView : ByteArray := prog_2_method_10_code
def yX0_tellView : MethodName := ⟨RX0, "tellView", "(III)Z"⟩
abbrev cX0_tellPapers : ByteArray := prog_2_method_11_code
def yX0_tellPapers : MethodName := ⟨RX0, "tellPapers", "(I)Z"⟩
abbrev cX0_canBeLaid : ByteArray := prog_2_method_12_code
def yX0_canBeLaid : MethodName := ⟨RX0, "canBeLaid", "()Z"⟩
abbrev cX0_kindOf : ByteArray := prog_2_method_13_code
def yX0_kindOf : MethodName := ⟨RX0, "kindOf", "(I)I"⟩
abbrev cX0_mindOf : ByteArray := prog_2_method_14_code
def yX0_mindOf : MethodName := ⟨RX0, "mindOf", "(I)I"⟩
abbrev cX0_putMind : ByteArray := prog_2_method_15_code
def yX0_putMind : MethodName := ⟨RX0, "putMind", "(II)V"⟩
abbrev cX0_viewOf : ByteArray := prog_2_method_16_code
def yX0_viewOf : MethodName := ⟨RX0, "viewOf", "(II)I"⟩
abbrev cX0_putView : ByteArray := prog_2_method_17_code
def yX0_putView : MethodName := ⟨RX0, "putView", "(III)V"⟩
abbrev cX0_lineOf : ByteArray := prog_2_method_18_code
def yX0_lineOf : MethodName := ⟨RX0, "lineOf", "(II)I"⟩
abbrev cX0_putLine : ByteArray := prog_2_method_19_code
def yX0_putLine : MethodName := ⟨RX0, "putLine", "(III)V"⟩
abbrev cX0_written : ByteArray := prog_2_method_20_code
def yX0_written : MethodName := ⟨RX0, "written", "(III)I"⟩
abbrev cX0_writtenFor : ByteArray := prog_2_method_21_code
def yX0_writtenFor : MethodName := ⟨RX0, "writtenFor", "(IIII)I"⟩
abbrev cX0_copied : ByteArray := prog_2_method_22_code
def yX0_copied : MethodName := ⟨RX0, "copied", "(III)I"⟩
abbrev cX0_copyPaper : ByteArray := prog_2_method_23_code
def yX0_copyPaper : MethodName := ⟨RX0, "copyPaper", "(III)V"⟩
abbrev cX0_goRound : ByteArray := prog_2_method_24_code
def yX0_goRound : MethodName := ⟨RX0, "goRound", "(I)V"⟩
abbrev cX0_codeOf : ByteArray := prog_2_method_25_code
def yX0_codeOf : MethodName := ⟨RX0, "codeOf", "(I)I"⟩
abbrev cX0_filledLinesOf : ByteArray := prog_2_method_26_code
def yX0_filledLinesOf : MethodName := ⟨RX0, "filledLinesOf", "(I)I"⟩
abbrev cX0_filledLines : ByteArray := prog_2_method_27_code
def yX0_filledLines : MethodName := ⟨RX0, "filledLines", "()I"⟩
abbrev cX0_sumOfLines : ByteArray := prog_2_method_28_code
def yX0_sumOfLines : MethodName := ⟨RX0, "sumOfLines", "()I"⟩
def RX1 : String := "OtherSideInk$Shelf"
def TX1 : u_T := fun k => match k with
  | 0 => ("OtherSideInk$Shelf", "places", "[LOtherSideInk$Chancery;", true)
  | 1 => ("OtherSideInk$Shelf", "lowest", "I", false)
  | _ => ("OtherSideInk$Shelf", "size", "I", false)
def tyX1 : Nat → FieldType := fun k => match k with
  | 0 => .array (.object "OtherSideInk$Chancery")
  | 1 => .int
  | _ => .int
theorem nmX1 : ∀ a, a < 3 → ∀ b, b < 3 → a ≠ b → (TX1 a).2.1 ≠ (TX1 b).2.1 := by decide +kernel
theorem tyX1_ok : ∀ k, k < 3 → parseFieldDescriptor (TX1 k).2.2.1 = some (tyX1 k) := by decide +kernel
abbrev cX1_init : ByteArray := prog_3_method_1_code
def yX1_init : MethodName := ⟨RX1, "<init>", "(I)V"⟩
abbrev cX1_size : ByteArray := prog_3_method_2_code
def yX1_size : MethodName := ⟨RX1, "size", "()I"⟩
abbrev cX1_clear : ByteArray := prog_3_method_3_code
def yX1_clear : MethodName := ⟨RX1, "clear", "()V"⟩
abbrev cX1_push : ByteArray := prog_3_method_4_code
def yX1_push : MethodName := ⟨RX1, "push", "(LOtherSideInk$Chancery;)V"⟩
abbrev cX1_popInto : ByteArray := prog_3_method_5_code
def yX1_popInto : MethodName := ⟨RX1, "popInto", "(LOtherSideInk$Chancery;)Z"⟩
abbrev cX1_placeAbove : ByteArray := prog_3_method_6_code
def yX1_placeAbove : MethodName := ⟨RX1, "placeAbove", "(I)LOtherSideInk$Chancery;"⟩
def RX2 : String := "OtherSideInk$Signatures"
def TX2 : u_T := fun k => match k with
  | 0 => ("OtherSideInk$Signatures", "themeRow", "[I", true)
  | 1 => ("OtherSideInk$Signatures", "saidRow", "[I", true)
  | _ => ("OtherSideInk$Signatures", "size", "I", false)
def tyX2 : Nat → FieldType := fun k => match k with
  | 0 => .array .int
  | 1 => .array .int
  | _ => .int
theorem nmX2 : ∀ a, a < 3 → ∀ b, b < 3 → a ≠ b → (TX2 a).2.1 ≠ (TX2 b).2.1 := by decide +kernel
theorem tyX2_ok : ∀ k, k < 3 → parseFieldDescriptor (TX2 k).2.2.1 = some (tyX2 k) := by decide +kernel
abbrev cX2_init : ByteArray := prog_4_method_1_code
def yX2_init : MethodName := ⟨RX2, "<init>", "()V"⟩
abbrev cX2_size : ByteArray := prog_4_method_2_code
def yX2_size : MethodName := ⟨RX2, "size", "()I"⟩
abbrev cX2_clear : ByteArray := prog_4_method_3_code
def yX2_clear : MethodName := ⟨RX2, "clear", "()V"⟩
abbrev cX2_add : ByteArray := prog_4_method_4_code
def yX2_add : MethodName := ⟨RX2, "add", "(II)V"⟩
abbrev cX2_areAllWritten : ByteArray := prog_4_method_5_code
def yX2_areAllWritten : MethodName := ⟨RX2, "areAllWritten", "(LOtherSideInk$Chancery;III)Z"⟩
def RX3 : String := "OtherSideInk$Text"
def TX3 : u_T := fun k => match k with
  | 0 => ("OtherSideInk$Text", "letters", "[I", true)
  | 1 => ("OtherSideInk$Text", "length", "I", false)
  | 2 => ("OtherSideInk$Text", "numbers", "[I", true)
  | _ => ("OtherSideInk$Text", "numberCount", "I", false)
def tyX3 : Nat → FieldType := fun k => match k with
  | 0 => .array .int
  | 1 => .int
  | 2 => .array .int
  | _ => .int
theorem nmX3 : ∀ a, a < 4 → ∀ b, b < 4 → a ≠ b → (TX3 a).2.1 ≠ (TX3 b).2.1 := by decide +kernel
theorem tyX3_ok : ∀ k, k < 4 → parseFieldDescriptor (TX3 k).2.2.1 = some (tyX3 k) := by decide +kernel
abbrev cX3_init : ByteArray := prog_5_method_1_code
def yX3_init : MethodName := ⟨RX3, "<init>", "()V"⟩
abbrev cX3_size : ByteArray := prog_5_method_2_code
def yX3_size : MethodName := ⟨RX3, "size", "()I"⟩
abbrev cX3_clear : ByteArray := prog_5_method_3_code
def yX3_clear : MethodName := ⟨RX3, "clear", "()V"⟩
abbrev cX3_append : ByteArray := prog_5_method_4_code
def yX3_append : MethodName := ⟨RX3, "append", "(I)V"⟩
abbrev cX3_readInto : ByteArray := prog_5_method_5_code
def yX3_readInto : MethodName := ⟨RX3, "readInto", "(LOtherSideInk$Chancery;)I"⟩
abbrev cX3_readNumbers : ByteArray := prog_5_method_6_code
def yX3_readNumbers : MethodName := ⟨RX3, "readNumbers", "(I)I"⟩
abbrev cX3_tellItem : ByteArray := prog_5_method_7_code
def yX3_tellItem : MethodName := ⟨RX3, "tellItem", "(ILOtherSideInk$Chancery;)Z"⟩
abbrev cX3_figuresAt : ByteArray := prog_5_method_8_code
def yX3_figuresAt : MethodName := ⟨RX3, "figuresAt", "(I)I"⟩
abbrev cX3_numberAt : ByteArray := prog_5_method_9_code
def yX3_numberAt : MethodName := ⟨RX3, "numberAt", "(II)I"⟩
abbrev cX3_isFigure : ByteArray := prog_5_method_10_code
def yX3_isFigure : MethodName := ⟨RX3, "isFigure", "(I)Z"⟩
abbrev cX3_letterAt : ByteArray := prog_5_method_11_code
def yX3_letterAt : MethodName := ⟨RX3, "letterAt", "(I)I"⟩
def RX4 : String := "OtherSideInk"
def TX4 : u_T := fun k => match k with
  | 0 => ("OtherSideInk", "text", "LOtherSideInk$Text;", true)
  | 1 => ("OtherSideInk", "now", "LOtherSideInk$Chancery;", true)
  | 2 => ("OtherSideInk", "draft", "LOtherSideInk$Chancery;", true)
  | 3 => ("OtherSideInk", "past", "LOtherSideInk$Shelf;", true)
  | 4 => ("OtherSideInk", "kept", "LOtherSideInk$Shelf;", true)
  | 5 => ("OtherSideInk", "signed", "LOtherSideInk$Signatures;", true)
  | _ => ("OtherSideInk", "seen", "[I", true)
def tyX4 : Nat → FieldType := fun k => match k with
  | 0 => .object "OtherSideInk$Text"
  | 1 => .object "OtherSideInk$Chancery"
  | 2 => .object "OtherSideInk$Chancery"
  | 3 => .object "OtherSideInk$Shelf"
  | 4 => .object "OtherSideInk$Shelf"
  | 5 => .object "OtherSideInk$Signatures"
  | _ => .array .int
theorem nmX4 : ∀ a, a < 7 → ∀ b, b < 7 → a ≠ b → (TX4 a).2.1 ≠ (TX4 b).2.1 := by decide +kernel
theorem tyX4_ok : ∀ k, k < 7 → parseFieldDescriptor (TX4 k).2.2.1 = some (tyX4 k) := by decide +kernel
abbrev cX4_init : ByteArray := prog_1_method_1_code
def yX4_init : MethodName := ⟨RX4, "<init>", "()V"⟩
abbrev cX4_write : ByteArray := prog_1_method_2_code
def yX4_write : MethodName := ⟨RX4, "write", "(I)I"⟩
abbrev cX4_wipe : ByteArray := prog_1_method_3_code
def yX4_wipe : MethodName := ⟨RX4, "wipe", "()I"⟩
abbrev cX4_fault : ByteArray := prog_1_method_4_code
def yX4_fault : MethodName := ⟨RX4, "fault", "()I"⟩
abbrev cX4_lay : ByteArray := prog_1_method_5_code
def yX4_lay : MethodName := ⟨RX4, "lay", "()I"⟩
abbrev cX4_person : ByteArray := prog_1_method_6_code
def yX4_person : MethodName := ⟨RX4, "person", "(II)I"⟩
abbrev cX4_view : ByteArray := prog_1_method_7_code
def yX4_view : MethodName := ⟨RX4, "view", "(II)I"⟩
abbrev cX4_line : ByteArray := prog_1_method_8_code
def yX4_line : MethodName := ⟨RX4, "line", "(II)I"⟩
abbrev cX4_would : ByteArray := prog_1_method_9_code
def yX4_would : MethodName := ⟨RX4, "would", "(III)I"⟩
abbrev cX4_set : ByteArray := prog_1_method_10_code
def yX4_set : MethodName := ⟨RX4, "set", "(IIII)I"⟩
abbrev cX4_erase : ByteArray := prog_1_method_11_code
def yX4_erase : MethodName := ⟨RX4, "erase", "(III)I"⟩
abbrev cX4_copy : ByteArray := prog_1_method_12_code
def yX4_copy : MethodName := ⟨RX4, "copy", "(III)I"⟩
abbrev cX4_think : ByteArray := prog_1_method_13_code
def yX4_think : MethodName := ⟨RX4, "think", "(III)I"⟩
abbrev cX4_mind : ByteArray := prog_1_method_14_code
def yX4_mind : MethodName := ⟨RX4, "mind", "(II)I"⟩
abbrev cX4_undo : ByteArray := prog_1_method_15_code
def yX4_undo : MethodName := ⟨RX4, "undo", "()I"⟩
abbrev cX4_own : ByteArray := prog_1_method_16_code
def yX4_own : MethodName := ⟨RX4, "own", "(II)I"⟩
abbrev cX4_tears : ByteArray := prog_1_method_17_code
def yX4_tears : MethodName := ⟨RX4, "tears", "(III)I"⟩
abbrev cX4_whom : ByteArray := prog_1_method_18_code
def yX4_whom : MethodName := ⟨RX4, "whom", "(III)I"⟩
abbrev cX4_treaty : ByteArray := prog_1_method_19_code
def yX4_treaty : MethodName := ⟨RX4, "treaty", "(III)I"⟩
abbrev cX4_round : ByteArray := prog_1_method_20_code
def yX4_round : MethodName := ⟨RX4, "round", "(III)I"⟩
abbrev cX4_again : ByteArray := prog_1_method_21_code
def yX4_again : MethodName := ⟨RX4, "again", "(II)I"⟩
abbrev cX4_least : ByteArray := prog_1_method_22_code
def yX4_least : MethodName := ⟨RX4, "least", "(III)I"⟩
abbrev cX4_sign : ByteArray := prog_1_method_23_code
def yX4_sign : MethodName := ⟨RX4, "sign", "(II)I"⟩
abbrev cX4_forget : ByteArray := prog_1_method_24_code
def yX4_forget : MethodName := ⟨RX4, "forget", "()I"⟩
abbrev cX4_who : ByteArray := prog_1_method_25_code
def yX4_who : MethodName := ⟨RX4, "who", "(I)I"⟩
abbrev cX4_views : ByteArray := prog_1_method_26_code
def yX4_views : MethodName := ⟨RX4, "views", "(III)I"⟩
abbrev cX4_drops : ByteArray := prog_1_method_27_code
def yX4_drops : MethodName := ⟨RX4, "drops", "(IIIII)J"⟩
abbrev cX4_weeks : ByteArray := prog_1_method_28_code
def yX4_weeks : MethodName := ⟨RX4, "weeks", "(III)I"⟩
abbrev cX4_keep : ByteArray := prog_1_method_29_code
def yX4_keep : MethodName := ⟨RX4, "keep", "()I"⟩
abbrev cX4_back : ByteArray := prog_1_method_30_code
def yX4_back : MethodName := ⟨RX4, "back", "()I"⟩
abbrev cX4_count : ByteArray := prog_1_method_31_code
def yX4_count : MethodName := ⟨RX4, "count", "(I)I"⟩
abbrev cX4_firstSeen : ByteArray := prog_1_method_32_code
def yX4_firstSeen : MethodName := ⟨RX4, "firstSeen", "(II)I"⟩
abbrev cX4_isUpTo : ByteArray := prog_1_method_33_code
def yX4_isUpTo : MethodName := ⟨RX4, "isUpTo", "(II)Z"⟩
abbrev cX4_isTheme : ByteArray := prog_1_method_34_code
def yX4_isTheme : MethodName := ⟨RX4, "isTheme", "(I)Z"⟩
abbrev cX4_told : ByteArray := prog_1_method_35_code
def yX4_told : MethodName := ⟨RX4, "told", "(I)I"⟩
abbrev cX4_at : ByteArray := prog_1_method_36_code
def yX4_at : MethodName := ⟨RX4, "at", "([II)I"⟩
abbrev cX4_put : ByteArray := prog_1_method_37_code
def yX4_put : MethodName := ⟨RX4, "put", "([III)V"⟩
abbrev cX4_remainder : ByteArray := prog_1_method_38_code
def yX4_remainder : MethodName := ⟨RX4, "remainder", "(II)I"⟩
abbrev cX4_drawOf : ByteArray := prog_1_method_39_code
def yX4_drawOf : MethodName := ⟨RX4, "drawOf", "(II)I"⟩
abbrev cX4_waysOfTears : ByteArray := prog_1_method_40_code
def yX4_waysOfTears : MethodName := ⟨RX4, "waysOfTears", "(II)J"⟩
abbrev cX4_greatestDivisor : ByteArray := prog_1_method_41_code
def yX4_greatestDivisor : MethodName := ⟨RX4, "greatestDivisor", "(JJ)J"⟩
abbrev cX4_inked : ByteArray := prog_1_method_42_code
def yX4_inked : MethodName := ⟨RX4, "inked", "(IIII)I"⟩
abbrev cX4_mixed : ByteArray := prog_1_method_43_code
def yX4_mixed : MethodName := ⟨RX4, "mixed", "(III)I"⟩
abbrev cX4_carried : ByteArray := prog_1_method_44_code
def yX4_carried : MethodName := ⟨RX4, "carried", "(III)I"⟩
abbrev cX4_toward : ByteArray := prog_1_method_45_code
def yX4_toward : MethodName := ⟨RX4, "toward", "(III)I"⟩
def RX5 : String := "OtherSideInkModel"
def TX5 : u_T := fun k => match k with
  | 0 => ("OtherSideInkModel", "persons", "I", false)
  | 1 => ("OtherSideInkModel", "kinds", "[I", true)
  | 2 => ("OtherSideInkModel", "papers", "I", false)
  | 3 => ("OtherSideInkModel", "st", "[I", true)
  | 4 => ("OtherSideInkModel", "acts", "I", false)
  | 5 => ("OtherSideInkModel", "was", "[I", true)
  | 6 => ("OtherSideInkModel", "keeps", "I", false)
  | 7 => ("OtherSideInkModel", "kept", "[I", true)
  | 8 => ("OtherSideInkModel", "signs", "I", false)
  | 9 => ("OtherSideInkModel", "signed", "[I", true)
  | 10 => ("OtherSideInkModel", "text", "[I", true)
  | 11 => ("OtherSideInkModel", "texted", "I", false)
  | 12 => ("OtherSideInkModel", "at", "I", false)
  | 13 => ("OtherSideInkModel", "told", "[I", true)
  | 14 => ("OtherSideInkModel", "readPersons", "I", false)
  | 15 => ("OtherSideInkModel", "readKinds", "[I", true)
  | 16 => ("OtherSideInkModel", "readPapers", "I", false)
  | 17 => ("OtherSideInkModel", "read", "[I", true)
  | 18 => ("OtherSideInkModel", "now", "[I", true)
  | _ => ("OtherSideInkModel", "rows", "[I", true)
def tyX5 : Nat → FieldType := fun k => match k with
  | 0 => .int
  | 1 => .array .int
  | 2 => .int
  | 3 => .array .int
  | 4 => .int
  | 5 => .array .int
  | 6 => .int
  | 7 => .array .int
  | 8 => .int
  | 9 => .array .int
  | 10 => .array .int
  | 11 => .int
  | 12 => .int
  | 13 => .array .int
  | 14 => .int
  | 15 => .array .int
  | 16 => .int
  | 17 => .array .int
  | 18 => .array .int
  | _ => .array .int
theorem nmX5 : ∀ a, a < 20 → ∀ b, b < 20 → a ≠ b → (TX5 a).2.1 ≠ (TX5 b).2.1 := by decide +kernel
theorem tyX5_ok : ∀ k, k < 20 → parseFieldDescriptor (TX5 k).2.2.1 = some (tyX5 k) := by decide +kernel
abbrev cX5_init : ByteArray := prog_7_method_1_code
def yX5_init : MethodName := ⟨RX5, "<init>", "()V"⟩
abbrev cX5_tellsPerson : ByteArray := prog_7_method_3_code
def yX5_tellsPerson : MethodName := ⟨RX5, "tellsPerson", "(II)V"⟩
abbrev cX5_in : ByteArray := prog_7_method_4_code
def yX5_in : MethodName := ⟨RX5, "in", "(III)Z"⟩
abbrev cX5_isPerson : ByteArray := prog_7_method_6_code
def yX5_isPerson : MethodName := ⟨RX5, "isPerson", "(I)Z"⟩
abbrev cX5_isPaper : ByteArray := prog_7_method_7_code
def yX5_isPaper : MethodName := ⟨RX5, "isPaper", "(I)Z"⟩
abbrev cX5_isTheme : ByteArray := prog_7_method_8_code
def yX5_isTheme : MethodName := ⟨RX5, "isTheme", "(I)Z"⟩
abbrev cX5_write : ByteArray := prog_7_method_9_code
def yX5_write : MethodName := ⟨RX5, "write", "(I)I"⟩
abbrev cX5_wipe : ByteArray := prog_7_method_10_code
def yX5_wipe : MethodName := ⟨RX5, "wipe", "()I"⟩
abbrev cX5_letterAt : ByteArray := prog_7_method_11_code
def yX5_letterAt : MethodName := ⟨RX5, "letterAt", "(I)I"⟩
abbrev cX5_isFigure : ByteArray := prog_7_method_12_code
def yX5_isFigure : MethodName := ⟨RX5, "isFigure", "(I)Z"⟩
abbrev cX5_readNumbers : ByteArray := prog_7_method_13_code
def yX5_readNumbers : MethodName := ⟨RX5, "readNumbers", "(I)Z"⟩
abbrev cX5_isTold : ByteArray := prog_7_method_14_code
def yX5_isTold : MethodName := ⟨RX5, "isTold", "(III)Z"⟩
abbrev cX5_clearTold : ByteArray := prog_7_method_15_code
def yX5_clearTold : MethodName := ⟨RX5, "clearTold", "()V"⟩
abbrev cX5_readPersonOf : ByteArray := prog_7_method_16_code
def yX5_readPersonOf : MethodName := ⟨RX5, "readPersonOf", "()Z"⟩
abbrev cX5_readViewOf : ByteArray := prog_7_method_17_code
def yX5_readViewOf : MethodName := ⟨RX5, "readViewOf", "()Z"⟩
abbrev cX5_readPapersOf : ByteArray := prog_7_method_18_code
def yX5_readPapersOf : MethodName := ⟨RX5, "readPapersOf", "()Z"⟩
abbrev cX5_readItem : ByteArray := prog_7_method_19_code
def yX5_readItem : MethodName := ⟨RX5, "readItem", "()Z"⟩
abbrev cX5_fault : ByteArray := prog_7_method_20_code
def yX5_fault : MethodName := ⟨RX5, "fault", "()I"⟩
abbrev cX5_lay : ByteArray := prog_7_method_21_code
def yX5_lay : MethodName := ⟨RX5, "lay", "()I"⟩
abbrev cX5_settles : ByteArray := prog_7_method_22_code
def yX5_settles : MethodName := ⟨RX5, "settles", "()V"⟩
abbrev cX5_copies : ByteArray := prog_7_method_23_code
def yX5_copies : MethodName := ⟨RX5, "copies", "([II[II)V"⟩
abbrev cX5_asItIs : ByteArray := prog_7_method_24_code
def yX5_asItIs : MethodName := ⟨RX5, "asItIs", "()V"⟩
abbrev cX5_viewOf : ByteArray := prog_7_method_25_code
def yX5_viewOf : MethodName := ⟨RX5, "viewOf", "(II)I"⟩
abbrev cX5_writes : ByteArray := prog_7_method_26_code
def yX5_writes : MethodName := ⟨RX5, "writes", "(IIII)I"⟩
abbrev cX5_toward : ByteArray := prog_7_method_27_code
def yX5_toward : MethodName := ⟨RX5, "toward", "(III)I"⟩
abbrev cX5_copied : ByteArray := prog_7_method_28_code
def yX5_copied : MethodName := ⟨RX5, "copied", "(III)I"⟩
abbrev cX5_copying : ByteArray := prog_7_method_29_code
def yX5_copying : MethodName := ⟨RX5, "copying", "(III)V"⟩
abbrev cX5_says : ByteArray := prog_7_method_30_code
def yX5_says : MethodName := ⟨RX5, "says", "(I)I"⟩
abbrev cX5_person : ByteArray := prog_7_method_31_code
def yX5_person : MethodName := ⟨RX5, "person", "(II)I"⟩
abbrev cX5_view : ByteArray := prog_7_method_32_code
def yX5_view : MethodName := ⟨RX5, "view", "(II)I"⟩
abbrev cX5_line : ByteArray := prog_7_method_33_code
def yX5_line : MethodName := ⟨RX5, "line", "(II)I"⟩
abbrev cX5_would : ByteArray := prog_7_method_34_code
def yX5_would : MethodName := ⟨RX5, "would", "(III)I"⟩
abbrev cX5_remembers : ByteArray := prog_7_method_35_code
def yX5_remembers : MethodName := ⟨RX5, "remembers", "()V"⟩
abbrev cX5_set : ByteArray := prog_7_method_36_code
def yX5_set : MethodName := ⟨RX5, "set", "(IIII)I"⟩
abbrev cX5_erase : ByteArray := prog_7_method_37_code
def yX5_erase : MethodName := ⟨RX5, "erase", "(III)I"⟩
abbrev cX5_filled : ByteArray := prog_7_method_38_code
def yX5_filled : MethodName := ⟨RX5, "filled", "(I)I"⟩
abbrev cX5_copy : ByteArray := prog_7_method_39_code
def yX5_copy : MethodName := ⟨RX5, "copy", "(III)I"⟩
abbrev cX5_think : ByteArray := prog_7_method_40_code
def yX5_think : MethodName := ⟨RX5, "think", "(III)I"⟩
abbrev cX5_mind : ByteArray := prog_7_method_41_code
def yX5_mind : MethodName := ⟨RX5, "mind", "(II)I"⟩
abbrev cX5_undo : ByteArray := prog_7_method_42_code
def yX5_undo : MethodName := ⟨RX5, "undo", "()I"⟩
abbrev cX5_ownOf : ByteArray := prog_7_method_43_code
def yX5_ownOf : MethodName := ⟨RX5, "ownOf", "(II)I"⟩
abbrev cX5_own : ByteArray := prog_7_method_44_code
def yX5_own : MethodName := ⟨RX5, "own", "(II)I"⟩
abbrev cX5_tears : ByteArray := prog_7_method_45_code
def yX5_tears : MethodName := ⟨RX5, "tears", "(III)I"⟩
abbrev cX5_whom : ByteArray := prog_7_method_46_code
def yX5_whom : MethodName := ⟨RX5, "whom", "(III)I"⟩
abbrev cX5_treaty : ByteArray := prog_7_method_47_code
def yX5_treaty : MethodName := ⟨RX5, "treaty", "(III)I"⟩
abbrev cX5_round : ByteArray := prog_7_method_48_code
def yX5_round : MethodName := ⟨RX5, "round", "(III)I"⟩
abbrev cX5_again : ByteArray := prog_7_method_49_code
def yX5_again : MethodName := ⟨RX5, "again", "(II)I"⟩
abbrev cX5_least : ByteArray := prog_7_method_50_code
def yX5_least : MethodName := ⟨RX5, "least", "(III)I"⟩
abbrev cX5_sign : ByteArray := prog_7_method_51_code
def yX5_sign : MethodName := ⟨RX5, "sign", "(II)I"⟩
abbrev cX5_forget : ByteArray := prog_7_method_52_code
def yX5_forget : MethodName := ⟨RX5, "forget", "()I"⟩
abbrev cX5_isWritten : ByteArray := prog_7_method_53_code
def yX5_isWritten : MethodName := ⟨RX5, "isWritten", "(III)Z"⟩
abbrev cX5_who : ByteArray := prog_7_method_54_code
def yX5_who : MethodName := ⟨RX5, "who", "(I)I"⟩
abbrev cX5_views : ByteArray := prog_7_method_55_code
def yX5_views : MethodName := ⟨RX5, "views", "(III)I"⟩
abbrev cX5_drops : ByteArray := prog_7_method_56_code
def yX5_drops : MethodName := ⟨RX5, "drops", "(IIIII)J"⟩
abbrev cX5_weeks : ByteArray := prog_7_method_57_code
def yX5_weeks : MethodName := ⟨RX5, "weeks", "(III)I"⟩
abbrev cX5_keep : ByteArray := prog_7_method_58_code
def yX5_keep : MethodName := ⟨RX5, "keep", "()I"⟩
abbrev cX5_back : ByteArray := prog_7_method_59_code
def yX5_back : MethodName := ⟨RX5, "back", "()I"⟩
abbrev cX5_count : ByteArray := prog_7_method_60_code
def yX5_count : MethodName := ⟨RX5, "count", "(I)I"⟩
def RJx145de : String := "java/io/Serializable"
def RJx9f9b0 : String := "java/lang/CharSequence"
def RJxb160c : String := "java/lang/Comparable"
def RJ6 : String := "java/lang/Integer"
abbrev cJ6_bitCount_0f7a4 : ByteArray := prog_8_method_49_code
def yJ6_bitCount_0f7a4 : MethodName := ⟨RJ6, "bitCount", "(I)I"⟩
def RJ9 : String := "java/lang/Math"
abbrev cJ9_max_7cf53 : ByteArray := prog_9_method_65_code
def yJ9_max_7cf53 : MethodName := ⟨RJ9, "max", "(II)I"⟩
abbrev cJ9_min_7cf53 : ByteArray := prog_9_method_69_code
def yJ9_min_7cf53 : MethodName := ⟨RJ9, "min", "(II)I"⟩
def RJ0 : String := "java/lang/String"
abbrev cJ0_length_8abf5 : ByteArray := prog_10_method_54_code
def yJ0_length_8abf5 : MethodName := ⟨RJ0, "length", "()I"⟩
abbrev cJ0_charAt_5068e : ByteArray := prog_10_method_56_code
def yJ0_charAt_5068e : MethodName := ⟨RJ0, "charAt", "(I)C"⟩
abbrev cJ0_coder_7d493 : ByteArray := prog_10_method_152_code
def yJ0_coder_7d493 : MethodName := ⟨RJ0, "coder", "()B"⟩
abbrev cJ0_isLatin1_aae02 : ByteArray := prog_10_method_154_code
def yJ0_isLatin1_aae02 : MethodName := ⟨RJ0, "isLatin1", "()Z"⟩
abbrev cJ0_checkIndex_df160 : ByteArray := prog_10_method_155_code
def yJ0_checkIndex_df160 : MethodName := ⟨RJ0, "checkIndex", "(II)V"⟩
def RJ1 : String := "java/lang/StringLatin1"
abbrev cJ1_charAt_3b067 : ByteArray := prog_11_method_2_code
def yJ1_charAt_3b067 : MethodName := ⟨RJ1, "charAt", "([BI)C"⟩
def RJ2 : String := "java/lang/StringUTF16"
abbrev cJ2_getChar_3b067 : ByteArray := prog_12_method_5_code
def yJ2_getChar_3b067 : MethodName := ⟨RJ2, "getChar", "([BI)C"⟩
abbrev cJ2_length_9d52b : ByteArray := prog_12_method_6_code
def yJ2_length_9d52b : MethodName := ⟨RJ2, "length", "([B)I"⟩
abbrev cJ2_charAt_3b067 : ByteArray := prog_12_method_83_code
def yJ2_charAt_3b067 : MethodName := ⟨RJ2, "charAt", "([BI)C"⟩
abbrev cJ2_checkIndex_2214a : ByteArray := prog_12_method_91_code
def yJ2_checkIndex_2214a : MethodName := ⟨RJ2, "checkIndex", "(I[B)V"⟩
def RJ10 : String := "java/lang/System"
def RJxfd54e : String := "java/lang/constant/Constable"
def RJx3cf43 : String := "java/lang/constant/ConstantDesc"
def RJ7 : String := "java/util/Arrays"
abbrev cJ7_fill_53178 : ByteArray := prog_14_method_103_code
def yJ7_fill_53178 : MethodName := ⟨RJ7, "fill", "([II)V"⟩
def RJ3 : String := "jdk/internal/util/Preconditions"
abbrev cJ3_checkIndex_8e157 : ByteArray := prog_15_method_11_code
def yJ3_checkIndex_8e157 : MethodName := ⟨RJ3, "checkIndex", "(IILjava/util/function/BiFunction;)I"⟩
def RL : String := "OtherSideInkLaw"
abbrev cL_law : ByteArray := code
def yL_law : MethodName := ⟨RL, "law", "([I)Z"⟩
abbrev vwCl : List vw_C := [(RX0, TX0, 6), (RX1, TX1, 3), (RX2, TX2, 3), (RX3, TX3, 4), (RX4, TX4, 7), (RX5, TX5, 20)]
/-! ===== the words that every method may use: the good ones of the tables ===== -/
def wU : List Cond := lw_tbl.filter goodWord
theorem wU_good : ∀ w ∈ wU, goodWord w = true := fun w h => (List.mem_filter.mp h).2
theorem wU_in : ∀ w ∈ wU, w ∈ lw_tbl := fun w h => (List.mem_filter.mp h).1
theorem mem_tab {w : Cond} (k : Nat) (h : tables_1[k]? = some w) (g : goodWord w = true) : w ∈ wU := List.mem_filter.mpr ⟨List.mem_append_right _ (List.mem_of_getElem? h), g⟩
theorem mem_sel {w : Cond} (k : Nat) (h : (k2_sels lw_privs)[k]? = some w) (g : goodWord w = true) : w ∈ wU := List.mem_filter.mpr ⟨List.mem_append_left _ (List.mem_of_getElem? h), g⟩
theorem mem_tbl {w : Cond} (k : Nat) (h : tables_1[k]? = some w) : w ∈ lw_tbl := List.mem_append_right _ (List.mem_of_getElem? h)
theorem wi_L : Cond.initialized RL ∈ wU := mem_tab 0 (by decide +kernel) (by decide +kernel)
theorem wi_X4 : Cond.initialized RX4 ∈ wU := mem_tab 1 (by decide +kernel) (by decide +kernel)
theorem wi_X3 : Cond.initialized RX3 ∈ wU := mem_tab 2 (by decide +kernel) (by decide +kernel)
theorem wi_X0 : Cond.initialized RX0 ∈ wU := mem_tab 3 (by decide +kernel) (by decide +kernel)
theorem wi_X1 : Cond.initialized RX1 ∈ wU := mem_tab 4 (by decide +kernel) (by decide +kernel)
theorem wi_J9 : Cond.initialized RJ9 ∈ wU := mem_tab 5 (by decide +kernel) (by decide +kernel)
theorem wi_X2 : Cond.initialized RX2 ∈ wU := mem_tab 6 (by decide +kernel) (by decide +kernel)
theorem wi_J0 : Cond.initialized RJ0 ∈ wU := mem_tab 7 (by decide +kernel) (by decide +kernel)
theorem wi_J1 : Cond.initialized RJ1 ∈ wU := mem_tab 8 (by decide +kernel) (by decide +kernel)
theorem wi_J3 : Cond.initialized RJ3 ∈ wU := mem_tab 9 (by decide +kernel) (by decide +kernel)
theorem wi_J2 : Cond.initialized RJ2 ∈ wU := mem_tab 10 (by decide +kernel) (by decide +kernel)
theorem wi_J7 : Cond.initialized RJ7 ∈ wU := mem_tab 11 (by decide +kernel) (by decide +kernel)
theorem wi_X5 : Cond.initialized RX5 ∈ wU := mem_tab 12 (by decide +kernel) (by decide +kernel)
theorem wi_J10 : Cond.initialized RJ10 ∈ wU := mem_tab 13 (by decide +kernel) (by decide +kernel)
theorem wi_J6 : Cond.initialized RJ6 ∈ wU := mem_tab 14 (by decide +kernel) (by decide +kernel)
theorem wcl_L_7 : Cond.classLink RL 7 RX4 ∈ wU := mem_tab 15 (by decide +kernel) (by decide +kernel)
theorem wns_X4 : Cond.instantiable RX4 7 ∈ wU := mem_tab 16 (by decide +kernel) (by decide +kernel)
theorem wl_L_9 : Cond.methodLink RL 9 yX4_init ∈ wU := mem_tab 17 (by decide +kernel) (by decide +kernel)
theorem win_X4_init : Cond.instanceMethod yX4_init ∈ wU := mem_tab 18 (by decide +kernel) (by decide +kernel)
theorem wco_X4_init : Cond.code yX4_init cX4_init 2 none ∈ wU := mem_tab 19 (by decide +kernel) (by decide +kernel)
theorem wl_X4_1 : Cond.methodLink RX4 1 objectInit ∈ wU := mem_tab 20 (by decide +kernel) (by decide +kernel)
theorem win_Obj : Cond.instanceMethod objectInit ∈ wU := mem_tab 21 (by decide +kernel) (by decide +kernel)
theorem wco_Obj : Cond.code objectInit ⟨#[0xb1]⟩ 1 none ∈ wU := mem_tab 22 (by decide +kernel) (by decide +kernel)
theorem wcl_X4_7 : Cond.classLink RX4 7 RX3 ∈ wU := mem_tab 23 (by decide +kernel) (by decide +kernel)
theorem wns_X3 : Cond.instantiable RX3 4 ∈ wU := mem_tab 24 (by decide +kernel) (by decide +kernel)
theorem wl_X4_9 : Cond.methodLink RX4 9 yX3_init ∈ wU := mem_tab 25 (by decide +kernel) (by decide +kernel)
theorem win_X3_init : Cond.instanceMethod yX3_init ∈ wU := mem_tab 26 (by decide +kernel) (by decide +kernel)
theorem wco_X3_init : Cond.code yX3_init cX3_init 1 none ∈ wU := mem_tab 27 (by decide +kernel) (by decide +kernel)
theorem wl_X3_3 : Cond.methodLink RX3 3 objectInit ∈ wU := mem_tab 28 (by decide +kernel) (by decide +kernel)
theorem wf_X3_9 : Cond.fieldLink RX3 9 "OtherSideInk$Text" "letters" "[I" ∈ wU := mem_tab 29 (by decide +kernel) (by decide +kernel)
theorem wf_X3_18 : Cond.fieldLink RX3 18 "OtherSideInk$Text" "length" "I" ∈ wU := mem_tab 30 (by decide +kernel) (by decide +kernel)
theorem wf_X3_15 : Cond.fieldLink RX3 15 "OtherSideInk$Text" "numbers" "[I" ∈ wU := mem_tab 31 (by decide +kernel) (by decide +kernel)
theorem wf_X3_42 : Cond.fieldLink RX3 42 "OtherSideInk$Text" "numberCount" "I" ∈ wU := mem_tab 32 (by decide +kernel) (by decide +kernel)
theorem war_int : Cond.arrayClass .int ∈ wU := mem_tab 42 (by decide +kernel) (by decide +kernel)
theorem wcl_X4_16 : Cond.classLink RX4 16 RX0 ∈ wU := mem_tab 43 (by decide +kernel) (by decide +kernel)
theorem wns_X0 : Cond.instantiable RX0 6 ∈ wU := mem_tab 44 (by decide +kernel) (by decide +kernel)
theorem wl_X4_18 : Cond.methodLink RX4 18 yX0_init ∈ wU := mem_tab 45 (by decide +kernel) (by decide +kernel)
theorem win_X0_init : Cond.instanceMethod yX0_init ∈ wU := mem_tab 46 (by decide +kernel) (by decide +kernel)
theorem wco_X0_init : Cond.code yX0_init cX0_init 1 none ∈ wU := mem_tab 47 (by decide +kernel) (by decide +kernel)
theorem wl_X0_3 : Cond.methodLink RX0 3 objectInit ∈ wU := mem_tab 48 (by decide +kernel) (by decide +kernel)
theorem wf_X0_24 : Cond.fieldLink RX0 24 "OtherSideInk$Chancery" "personCount" "I" ∈ wU := mem_tab 49 (by decide +kernel) (by decide +kernel)
theorem wf_X0_28 : Cond.fieldLink RX0 28 "OtherSideInk$Chancery" "paperCount" "I" ∈ wU := mem_tab 50 (by decide +kernel) (by decide +kernel)
theorem wf_X0_9 : Cond.fieldLink RX0 9 "OtherSideInk$Chancery" "kindRow" "[I" ∈ wU := mem_tab 51 (by decide +kernel) (by decide +kernel)
theorem wf_X0_15 : Cond.fieldLink RX0 15 "OtherSideInk$Chancery" "mindRow" "[I" ∈ wU := mem_tab 52 (by decide +kernel) (by decide +kernel)
theorem wf_X0_18 : Cond.fieldLink RX0 18 "OtherSideInk$Chancery" "viewRow" "[I" ∈ wU := mem_tab 53 (by decide +kernel) (by decide +kernel)
theorem wf_X0_21 : Cond.fieldLink RX0 21 "OtherSideInk$Chancery" "lineRow" "[I" ∈ wU := mem_tab 54 (by decide +kernel) (by decide +kernel)
theorem wcl_X4_26 : Cond.classLink RX4 26 RX1 ∈ wU := mem_tab 68 (by decide +kernel) (by decide +kernel)
theorem wns_X1 : Cond.instantiable RX1 3 ∈ wU := mem_tab 69 (by decide +kernel) (by decide +kernel)
theorem wl_X4_28 : Cond.methodLink RX4 28 yX1_init ∈ wU := mem_tab 70 (by decide +kernel) (by decide +kernel)
theorem win_X1_init : Cond.instanceMethod yX1_init ∈ wU := mem_tab 71 (by decide +kernel) (by decide +kernel)
theorem wco_X1_init : Cond.code yX1_init cX1_init 3 none ∈ wU := mem_tab 72 (by decide +kernel) (by decide +kernel)
theorem wl_X1_1 : Cond.methodLink RX1 1 objectInit ∈ wU := mem_tab 73 (by decide +kernel) (by decide +kernel)
theorem wl_X1_7 : Cond.methodLink RX1 7 Lib.Math.max.name ∈ wU := mem_tab 74 (by decide +kernel) (by decide +kernel)
theorem wst_max : Cond.static Lib.Math.max.name ∈ wU := mem_tab 75 (by decide +kernel) (by decide +kernel)
theorem wco_max : Cond.code Lib.Math.max.name Lib.Math.max.code 2 (some .int) ∈ wU := mem_tab 76 (by decide +kernel) (by decide +kernel)
theorem wcl_X1_13 : Cond.classLink RX1 13 RX0 ∈ wU := mem_tab 77 (by decide +kernel) (by decide +kernel)
theorem wl_X1_21 : Cond.methodLink RX1 21 yX0_init ∈ wU := mem_tab 79 (by decide +kernel) (by decide +kernel)
theorem wf_X1_15 : Cond.fieldLink RX1 15 "OtherSideInk$Shelf" "places" "[LOtherSideInk$Chancery;" ∈ wU := mem_tab 80 (by decide +kernel) (by decide +kernel)
theorem wf_X1_34 : Cond.fieldLink RX1 34 "OtherSideInk$Shelf" "lowest" "I" ∈ wU := mem_tab 81 (by decide +kernel) (by decide +kernel)
theorem wf_X1_22 : Cond.fieldLink RX1 22 "OtherSideInk$Shelf" "size" "I" ∈ wU := mem_tab 82 (by decide +kernel) (by decide +kernel)
theorem wcl_X4_38 : Cond.classLink RX4 38 RX2 ∈ wU := mem_tab 90 (by decide +kernel) (by decide +kernel)
theorem wns_X2 : Cond.instantiable RX2 3 ∈ wU := mem_tab 91 (by decide +kernel) (by decide +kernel)
theorem wl_X4_40 : Cond.methodLink RX4 40 yX2_init ∈ wU := mem_tab 92 (by decide +kernel) (by decide +kernel)
theorem win_X2_init : Cond.instanceMethod yX2_init ∈ wU := mem_tab 93 (by decide +kernel) (by decide +kernel)
theorem wco_X2_init : Cond.code yX2_init cX2_init 1 none ∈ wU := mem_tab 94 (by decide +kernel) (by decide +kernel)
theorem wl_X2_3 : Cond.methodLink RX2 3 objectInit ∈ wU := mem_tab 95 (by decide +kernel) (by decide +kernel)
theorem wf_X2_9 : Cond.fieldLink RX2 9 "OtherSideInk$Signatures" "themeRow" "[I" ∈ wU := mem_tab 96 (by decide +kernel) (by decide +kernel)
theorem wf_X2_15 : Cond.fieldLink RX2 15 "OtherSideInk$Signatures" "saidRow" "[I" ∈ wU := mem_tab 97 (by decide +kernel) (by decide +kernel)
theorem wf_X2_18 : Cond.fieldLink RX2 18 "OtherSideInk$Signatures" "size" "I" ∈ wU := mem_tab 98 (by decide +kernel) (by decide +kernel)
theorem wl_X4_51 : Cond.methodLink RX4 51 yJ0_length_8abf5 ∈ wU := mem_tab 107 (by decide +kernel) (by decide +kernel)
theorem win_J0_length_8abf5 : Cond.instanceMethod yJ0_length_8abf5 ∈ wU := mem_tab 108 (by decide +kernel) (by decide +kernel)
theorem wse_J0_length_8abf5 : Cond.selects RJ0 yJ0_length_8abf5 yJ0_length_8abf5 ∈ wU := mem_tab 109 (by decide +kernel) (by decide +kernel)
theorem wco_J0_length_8abf5 : Cond.code yJ0_length_8abf5 cJ0_length_8abf5 1 (some .int) ∈ wU := mem_tab 110 (by decide +kernel) (by decide +kernel)
theorem wl_J0_335 : Cond.methodLink RJ0 335 yJ0_coder_7d493 ∈ wU := mem_tab 111 (by decide +kernel) (by decide +kernel)
theorem win_J0_coder_7d493 : Cond.instanceMethod yJ0_coder_7d493 ∈ wU := mem_tab 112 (by decide +kernel) (by decide +kernel)
theorem wse_J0_coder_7d493 : Cond.selects RJ0 yJ0_coder_7d493 yJ0_coder_7d493 ∈ wU := mem_tab 113 (by decide +kernel) (by decide +kernel)
theorem wco_J0_coder_7d493 : Cond.code yJ0_coder_7d493 cJ0_coder_7d493 1 (some .byte) ∈ wU := mem_tab 114 (by decide +kernel) (by decide +kernel)
theorem wf_J0_38 : Cond.fieldLink RJ0 38 "java/lang/String" "COMPACT_STRINGS" "Z" ∈ wU := mem_tab 115 (by decide +kernel) (by decide +kernel)
theorem wl_X4_57 : Cond.methodLink RX4 57 yJ0_charAt_5068e ∈ wU := mem_tab 117 (by decide +kernel) (by decide +kernel)
theorem win_J0_charAt_5068e : Cond.instanceMethod yJ0_charAt_5068e ∈ wU := mem_tab 118 (by decide +kernel) (by decide +kernel)
theorem wse_J0_charAt_5068e : Cond.selects RJ0 yJ0_charAt_5068e yJ0_charAt_5068e ∈ wU := mem_tab 119 (by decide +kernel) (by decide +kernel)
theorem wco_J0_charAt_5068e : Cond.code yJ0_charAt_5068e cJ0_charAt_5068e 2 (some .char) ∈ wU := mem_tab 120 (by decide +kernel) (by decide +kernel)
theorem wl_J0_492 : Cond.methodLink RJ0 492 yJ0_isLatin1_aae02 ∈ wU := mem_tab 121 (by decide +kernel) (by decide +kernel)
theorem win_J0_isLatin1_aae02 : Cond.instanceMethod yJ0_isLatin1_aae02 ∈ wU := mem_tab 122 (by decide +kernel) (by decide +kernel)
theorem wse_J0_isLatin1_aae02 : Cond.selects RJ0 yJ0_isLatin1_aae02 yJ0_isLatin1_aae02 ∈ wU := mem_tab 123 (by decide +kernel) (by decide +kernel)
theorem wco_J0_isLatin1_aae02 : Cond.code yJ0_isLatin1_aae02 cJ0_isLatin1_aae02 1 (some .boolean) ∈ wU := mem_tab 124 (by decide +kernel) (by decide +kernel)
theorem wl_J0_495 : Cond.methodLink RJ0 495 yJ1_charAt_3b067 ∈ wU := mem_tab 125 (by decide +kernel) (by decide +kernel)
theorem wst_J1_charAt_3b067 : Cond.static yJ1_charAt_3b067 ∈ wU := mem_tab 126 (by decide +kernel) (by decide +kernel)
theorem wco_J1_charAt_3b067 : Cond.code yJ1_charAt_3b067 cJ1_charAt_3b067 2 (some .char) ∈ wU := mem_tab 127 (by decide +kernel) (by decide +kernel)
theorem wl_J1_9 : Cond.methodLink RJ1 9 yJ0_checkIndex_df160 ∈ wU := mem_tab 128 (by decide +kernel) (by decide +kernel)
theorem wst_J0_checkIndex_df160 : Cond.static yJ0_checkIndex_df160 ∈ wU := mem_tab 129 (by decide +kernel) (by decide +kernel)
theorem wco_J0_checkIndex_df160 : Cond.code yJ0_checkIndex_df160 cJ0_checkIndex_df160 2 none ∈ wU := mem_tab 130 (by decide +kernel) (by decide +kernel)
theorem wf_J0_1053 : Cond.fieldLink RJ0 1053 "jdk/internal/util/Preconditions" "SIOOBE_FORMATTER" "Ljava/util/function/BiFunction;" ∈ wU := mem_tab 131 (by decide +kernel) (by decide +kernel)
theorem wl_J0_1059 : Cond.methodLink RJ0 1059 yJ3_checkIndex_8e157 ∈ wU := mem_tab 133 (by decide +kernel) (by decide +kernel)
theorem wst_J3_checkIndex_8e157 : Cond.static yJ3_checkIndex_8e157 ∈ wU := mem_tab 134 (by decide +kernel) (by decide +kernel)
theorem wco_J3_checkIndex_8e157 : Cond.code yJ3_checkIndex_8e157 cJ3_checkIndex_8e157 3 (some .int) ∈ wU := mem_tab 135 (by decide +kernel) (by decide +kernel)
theorem wl_J0_498 : Cond.methodLink RJ0 498 yJ2_charAt_3b067 ∈ wU := mem_tab 136 (by decide +kernel) (by decide +kernel)
theorem wst_J2_charAt_3b067 : Cond.static yJ2_charAt_3b067 ∈ wU := mem_tab 137 (by decide +kernel) (by decide +kernel)
theorem wco_J2_charAt_3b067 : Cond.code yJ2_charAt_3b067 cJ2_charAt_3b067 2 (some .char) ∈ wU := mem_tab 138 (by decide +kernel) (by decide +kernel)
theorem wl_J2_67 : Cond.methodLink RJ2 67 yJ2_checkIndex_2214a ∈ wU := mem_tab 139 (by decide +kernel) (by decide +kernel)
theorem wst_J2_checkIndex_2214a : Cond.static yJ2_checkIndex_2214a ∈ wU := mem_tab 140 (by decide +kernel) (by decide +kernel)
theorem wco_J2_checkIndex_2214a : Cond.code yJ2_checkIndex_2214a cJ2_checkIndex_2214a 2 none ∈ wU := mem_tab 141 (by decide +kernel) (by decide +kernel)
theorem wl_J2_48 : Cond.methodLink RJ2 48 yJ2_length_9d52b ∈ wU := mem_tab 142 (by decide +kernel) (by decide +kernel)
theorem wst_J2_length_9d52b : Cond.static yJ2_length_9d52b ∈ wU := mem_tab 143 (by decide +kernel) (by decide +kernel)
theorem wco_J2_length_9d52b : Cond.code yJ2_length_9d52b cJ2_length_9d52b 1 (some .int) ∈ wU := mem_tab 144 (by decide +kernel) (by decide +kernel)
theorem wl_J2_414 : Cond.methodLink RJ2 414 yJ0_checkIndex_df160 ∈ wU := mem_tab 145 (by decide +kernel) (by decide +kernel)
theorem wl_J2_71 : Cond.methodLink RJ2 71 yJ2_getChar_3b067 ∈ wU := mem_tab 146 (by decide +kernel) (by decide +kernel)
theorem wst_J2_getChar_3b067 : Cond.static yJ2_getChar_3b067 ∈ wU := mem_tab 147 (by decide +kernel) (by decide +kernel)
theorem wco_J2_getChar_3b067 : Cond.code yJ2_getChar_3b067 cJ2_getChar_3b067 2 (some .char) ∈ wU := mem_tab 148 (by decide +kernel) (by decide +kernel)
theorem wf_J2_44 : Cond.fieldLink RJ2 44 "java/lang/StringUTF16" "$assertionsDisabled" "Z" ∈ wU := mem_tab 149 (by decide +kernel) (by decide +kernel)
theorem wf_J2_59 : Cond.fieldLink RJ2 59 "java/lang/StringUTF16" "HI_BYTE_SHIFT" "I" ∈ wU := mem_tab 151 (by decide +kernel) (by decide +kernel)
theorem wf_J2_63 : Cond.fieldLink RJ2 63 "java/lang/StringUTF16" "LO_BYTE_SHIFT" "I" ∈ wU := mem_tab 153 (by decide +kernel) (by decide +kernel)
theorem wl_X4_61 : Cond.methodLink RX4 61 yX3_append ∈ wU := mem_tab 155 (by decide +kernel) (by decide +kernel)
theorem win_X3_append : Cond.instanceMethod yX3_append ∈ wU := mem_tab 156 (by decide +kernel) (by decide +kernel)
theorem wse_X3_append : Cond.selects RX3 yX3_append yX3_append ∈ wU := mem_tab 157 (by decide +kernel) (by decide +kernel)
theorem wco_X3_append : Cond.code yX3_append cX3_append 2 none ∈ wU := mem_tab 158 (by decide +kernel) (by decide +kernel)
theorem wst_X4_put : Cond.static yX4_put ∈ wU := mem_tab 160 (by decide +kernel) (by decide +kernel)
theorem wco_X4_put : Cond.code yX4_put cX4_put 3 none ∈ wU := mem_tab 161 (by decide +kernel) (by decide +kernel)
theorem wl_X4_64 : Cond.methodLink RX4 64 yX3_readInto ∈ wU := mem_tab 162 (by decide +kernel) (by decide +kernel)
theorem win_X3_readInto : Cond.instanceMethod yX3_readInto ∈ wU := mem_tab 163 (by decide +kernel) (by decide +kernel)
theorem wse_X3_readInto : Cond.selects RX3 yX3_readInto yX3_readInto ∈ wU := mem_tab 164 (by decide +kernel) (by decide +kernel)
theorem wco_X3_readInto : Cond.code yX3_readInto cX3_readInto 5 (some .int) ∈ wU := mem_tab 165 (by decide +kernel) (by decide +kernel)
theorem wl_X3_26 : Cond.methodLink RX3 26 yX0_becomeBlank ∈ wU := mem_tab 166 (by decide +kernel) (by decide +kernel)
theorem win_X0_becomeBlank : Cond.instanceMethod yX0_becomeBlank ∈ wU := mem_tab 167 (by decide +kernel) (by decide +kernel)
theorem wse_X0_becomeBlank : Cond.selects RX0 yX0_becomeBlank yX0_becomeBlank ∈ wU := mem_tab 168 (by decide +kernel) (by decide +kernel)
theorem wco_X0_becomeBlank : Cond.code yX0_becomeBlank cX0_becomeBlank 1 none ∈ wU := mem_tab 169 (by decide +kernel) (by decide +kernel)
theorem wl_X0_31 : Cond.methodLink RX0 31 yJ7_fill_53178 ∈ wU := mem_tab 170 (by decide +kernel) (by decide +kernel)
theorem wst_J7_fill_53178 : Cond.static yJ7_fill_53178 ∈ wU := mem_tab 171 (by decide +kernel) (by decide +kernel)
theorem wco_J7_fill_53178 : Cond.code yJ7_fill_53178 cJ7_fill_53178 4 none ∈ wU := mem_tab 172 (by decide +kernel) (by decide +kernel)
theorem wl_X3_31 : Cond.methodLink RX3 31 yX3_readNumbers ∈ wU := mem_tab 173 (by decide +kernel) (by decide +kernel)
theorem win_X3_readNumbers : Cond.instanceMethod yX3_readNumbers ∈ wU := mem_tab 175 (by decide +kernel) (by decide +kernel)
theorem wco_X3_readNumbers : Cond.code yX3_readNumbers cX3_readNumbers 6 (some .int) ∈ wU := mem_tab 176 (by decide +kernel) (by decide +kernel)
theorem wl_X3_45 : Cond.methodLink RX3 45 yX3_figuresAt ∈ wU := mem_tab 177 (by decide +kernel) (by decide +kernel)
theorem win_X3_figuresAt : Cond.instanceMethod yX3_figuresAt ∈ wU := mem_tab 179 (by decide +kernel) (by decide +kernel)
theorem wco_X3_figuresAt : Cond.code yX3_figuresAt cX3_figuresAt 4 (some .int) ∈ wU := mem_tab 180 (by decide +kernel) (by decide +kernel)
theorem wl_X3_35 : Cond.methodLink RX3 35 yX3_letterAt ∈ wU := mem_tab 181 (by decide +kernel) (by decide +kernel)
theorem win_X3_letterAt : Cond.instanceMethod yX3_letterAt ∈ wU := mem_tab 183 (by decide +kernel) (by decide +kernel)
theorem wco_X3_letterAt : Cond.code yX3_letterAt cX3_letterAt 2 (some .int) ∈ wU := mem_tab 184 (by decide +kernel) (by decide +kernel)
theorem wst_X4_at : Cond.static yX4_at ∈ wU := mem_tab 186 (by decide +kernel) (by decide +kernel)
theorem wco_X4_at : Cond.code yX4_at cX4_at 2 (some .int) ∈ wU := mem_tab 187 (by decide +kernel) (by decide +kernel)
theorem wl_X3_68 : Cond.methodLink RX3 68 yX3_isFigure ∈ wU := mem_tab 188 (by decide +kernel) (by decide +kernel)
theorem wst_X3_isFigure : Cond.static yX3_isFigure ∈ wU := mem_tab 189 (by decide +kernel) (by decide +kernel)
theorem wco_X3_isFigure : Cond.code yX3_isFigure cX3_isFigure 1 (some .boolean) ∈ wU := mem_tab 190 (by decide +kernel) (by decide +kernel)
theorem wl_X3_48 : Cond.methodLink RX3 48 yX3_numberAt ∈ wU := mem_tab 191 (by decide +kernel) (by decide +kernel)
theorem win_X3_numberAt : Cond.instanceMethod yX3_numberAt ∈ wU := mem_tab 193 (by decide +kernel) (by decide +kernel)
theorem wco_X3_numberAt : Cond.code yX3_numberAt cX3_numberAt 5 (some .int) ∈ wU := mem_tab 194 (by decide +kernel) (by decide +kernel)
theorem wl_X3_38 : Cond.methodLink RX3 38 yX3_tellItem ∈ wU := mem_tab 195 (by decide +kernel) (by decide +kernel)
theorem win_X3_tellItem : Cond.instanceMethod yX3_tellItem ∈ wU := mem_tab 197 (by decide +kernel) (by decide +kernel)
theorem wco_X3_tellItem : Cond.code yX3_tellItem cX3_tellItem 3 (some .boolean) ∈ wU := mem_tab 198 (by decide +kernel) (by decide +kernel)
theorem wl_X3_56 : Cond.methodLink RX3 56 yX0_tellPerson ∈ wU := mem_tab 199 (by decide +kernel) (by decide +kernel)
theorem win_X0_tellPerson : Cond.instanceMethod yX0_tellPerson ∈ wU := mem_tab 200 (by decide +kernel) (by decide +kernel)
theorem wse_X0_tellPerson : Cond.selects RX0 yX0_tellPerson yX0_tellPerson ∈ wU := mem_tab 201 (by decide +kernel) (by decide +kernel)
theorem wco_X0_tellPerson : Cond.code yX0_tellPerson cX0_tellPerson 3 (some .boolean) ∈ wU := mem_tab 202 (by decide +kernel) (by decide +kernel)
theorem wst_X4_isUpTo : Cond.static yX4_isUpTo ∈ wU := mem_tab 204 (by decide +kernel) (by decide +kernel)
theorem wco_X4_isUpTo : Cond.code yX4_isUpTo cX4_isUpTo 2 (some .boolean) ∈ wU := mem_tab 205 (by decide +kernel) (by decide +kernel)
theorem wl_X3_60 : Cond.methodLink RX3 60 yX0_tellView ∈ wU := mem_tab 207 (by decide +kernel) (by decide +kernel)
theorem win_X0_tellView : Cond.instanceMethod yX0_tellView ∈ wU := mem_tab 208 (by decide +kernel) (by decide +kernel)
theorem wse_X0_tellView : Cond.selects RX0 yX0_tellView yX0_tellView ∈ wU := mem_tab 209 (by decide +kernel) (by decide +kernel)
theorem wco_X0_tellView : Cond.code yX0_tellView cX0_tellView 4 (some .boolean) ∈ wU := mem_tab 210 (by decide +kernel) (by decide +kernel)
theorem wl_X0_61 : Cond.methodLink RX0 61 yX0_hasPerson ∈ wU := mem_tab 211 (by decide +kernel) (by decide +kernel)
theorem win_X0_hasPerson : Cond.instanceMethod yX0_hasPerson ∈ wU := mem_tab 212 (by decide +kernel) (by decide +kernel)
theorem wse_X0_hasPerson : Cond.selects RX0 yX0_hasPerson yX0_hasPerson ∈ wU := mem_tab 213 (by decide +kernel) (by decide +kernel)
theorem wco_X0_hasPerson : Cond.code yX0_hasPerson cX0_hasPerson 2 (some .boolean) ∈ wU := mem_tab 214 (by decide +kernel) (by decide +kernel)
theorem wst_X4_isTheme : Cond.static yX4_isTheme ∈ wU := mem_tab 216 (by decide +kernel) (by decide +kernel)
theorem wco_X4_isTheme : Cond.code yX4_isTheme cX4_isTheme 1 (some .boolean) ∈ wU := mem_tab 217 (by decide +kernel) (by decide +kernel)
theorem wl_X0_68 : Cond.methodLink RX0 68 yX0_putView ∈ wU := mem_tab 218 (by decide +kernel) (by decide +kernel)
theorem win_X0_putView : Cond.instanceMethod yX0_putView ∈ wU := mem_tab 219 (by decide +kernel) (by decide +kernel)
theorem wse_X0_putView : Cond.selects RX0 yX0_putView yX0_putView ∈ wU := mem_tab 220 (by decide +kernel) (by decide +kernel)
theorem wco_X0_putView : Cond.code yX0_putView cX0_putView 4 none ∈ wU := mem_tab 221 (by decide +kernel) (by decide +kernel)
theorem wl_X3_64 : Cond.methodLink RX3 64 yX0_tellPapers ∈ wU := mem_tab 222 (by decide +kernel) (by decide +kernel)
theorem win_X0_tellPapers : Cond.instanceMethod yX0_tellPapers ∈ wU := mem_tab 223 (by decide +kernel) (by decide +kernel)
theorem wse_X0_tellPapers : Cond.selects RX0 yX0_tellPapers yX0_tellPapers ∈ wU := mem_tab 224 (by decide +kernel) (by decide +kernel)
theorem wco_X0_tellPapers : Cond.code yX0_tellPapers cX0_tellPapers 2 (some .boolean) ∈ wU := mem_tab 225 (by decide +kernel) (by decide +kernel)
theorem wl_X4_68 : Cond.methodLink RX4 68 yX3_clear ∈ wU := mem_tab 226 (by decide +kernel) (by decide +kernel)
theorem win_X3_clear : Cond.instanceMethod yX3_clear ∈ wU := mem_tab 227 (by decide +kernel) (by decide +kernel)
theorem wse_X3_clear : Cond.selects RX3 yX3_clear yX3_clear ∈ wU := mem_tab 228 (by decide +kernel) (by decide +kernel)
theorem wco_X3_clear : Cond.code yX3_clear cX3_clear 1 none ∈ wU := mem_tab 229 (by decide +kernel) (by decide +kernel)
theorem wf_X4_10 : Cond.fieldLink RX4 10 "OtherSideInk" "text" "LOtherSideInk$Text;" ∈ wU := mem_tab 230 (by decide +kernel) (by decide +kernel)
theorem wf_X4_19 : Cond.fieldLink RX4 19 "OtherSideInk" "now" "LOtherSideInk$Chancery;" ∈ wU := mem_tab 231 (by decide +kernel) (by decide +kernel)
theorem wf_X4_23 : Cond.fieldLink RX4 23 "OtherSideInk" "draft" "LOtherSideInk$Chancery;" ∈ wU := mem_tab 232 (by decide +kernel) (by decide +kernel)
theorem wf_X4_31 : Cond.fieldLink RX4 31 "OtherSideInk" "past" "LOtherSideInk$Shelf;" ∈ wU := mem_tab 233 (by decide +kernel) (by decide +kernel)
theorem wf_X4_35 : Cond.fieldLink RX4 35 "OtherSideInk" "kept" "LOtherSideInk$Shelf;" ∈ wU := mem_tab 234 (by decide +kernel) (by decide +kernel)
theorem wf_X4_41 : Cond.fieldLink RX4 41 "OtherSideInk" "signed" "LOtherSideInk$Signatures;" ∈ wU := mem_tab 235 (by decide +kernel) (by decide +kernel)
theorem wf_X4_45 : Cond.fieldLink RX4 45 "OtherSideInk" "seen" "[I" ∈ wU := mem_tab 236 (by decide +kernel) (by decide +kernel)
theorem war_byte : Cond.arrayClass .byte ∈ wU := mem_tab 252 (by decide +kernel) (by decide +kernel)
theorem wl_L_13 : Cond.methodLink RL 13 yX4_write ∈ wU := mem_tab 253 (by decide +kernel) (by decide +kernel)
theorem win_X4_write : Cond.instanceMethod yX4_write ∈ wU := mem_tab 254 (by decide +kernel) (by decide +kernel)
theorem wse_X4_write : Cond.selects RX4 yX4_write yX4_write ∈ wU := mem_tab 255 (by decide +kernel) (by decide +kernel)
theorem wco_X4_write : Cond.code yX4_write cX4_write 2 (some .int) ∈ wU := mem_tab 256 (by decide +kernel) (by decide +kernel)
theorem wl_X4_71 : Cond.methodLink RX4 71 yX3_size ∈ wU := mem_tab 257 (by decide +kernel) (by decide +kernel)
theorem win_X3_size : Cond.instanceMethod yX3_size ∈ wU := mem_tab 258 (by decide +kernel) (by decide +kernel)
theorem wse_X3_size : Cond.selects RX3 yX3_size yX3_size ∈ wU := mem_tab 259 (by decide +kernel) (by decide +kernel)
theorem wco_X3_size : Cond.code yX3_size cX3_size 1 (some .int) ∈ wU := mem_tab 260 (by decide +kernel) (by decide +kernel)
theorem wl_L_18 : Cond.methodLink RL 18 yX4_wipe ∈ wU := mem_tab 261 (by decide +kernel) (by decide +kernel)
theorem win_X4_wipe : Cond.instanceMethod yX4_wipe ∈ wU := mem_tab 262 (by decide +kernel) (by decide +kernel)
theorem wse_X4_wipe : Cond.selects RX4 yX4_wipe yX4_wipe ∈ wU := mem_tab 263 (by decide +kernel) (by decide +kernel)
theorem wco_X4_wipe : Cond.code yX4_wipe cX4_wipe 2 (some .int) ∈ wU := mem_tab 264 (by decide +kernel) (by decide +kernel)
theorem wl_L_23 : Cond.methodLink RL 23 yX4_fault ∈ wU := mem_tab 265 (by decide +kernel) (by decide +kernel)
theorem win_X4_fault : Cond.instanceMethod yX4_fault ∈ wU := mem_tab 266 (by decide +kernel) (by decide +kernel)
theorem wse_X4_fault : Cond.selects RX4 yX4_fault yX4_fault ∈ wU := mem_tab 267 (by decide +kernel) (by decide +kernel)
theorem wco_X4_fault : Cond.code yX4_fault cX4_fault 1 (some .int) ∈ wU := mem_tab 268 (by decide +kernel) (by decide +kernel)
theorem wl_L_27 : Cond.methodLink RL 27 yX4_lay ∈ wU := mem_tab 269 (by decide +kernel) (by decide +kernel)
theorem win_X4_lay : Cond.instanceMethod yX4_lay ∈ wU := mem_tab 270 (by decide +kernel) (by decide +kernel)
theorem wse_X4_lay : Cond.selects RX4 yX4_lay yX4_lay ∈ wU := mem_tab 271 (by decide +kernel) (by decide +kernel)
theorem wco_X4_lay : Cond.code yX4_lay cX4_lay 1 (some .int) ∈ wU := mem_tab 272 (by decide +kernel) (by decide +kernel)
theorem wl_X4_74 : Cond.methodLink RX4 74 yX0_canBeLaid ∈ wU := mem_tab 273 (by decide +kernel) (by decide +kernel)
theorem win_X0_canBeLaid : Cond.instanceMethod yX0_canBeLaid ∈ wU := mem_tab 274 (by decide +kernel) (by decide +kernel)
theorem wse_X0_canBeLaid : Cond.selects RX0 yX0_canBeLaid yX0_canBeLaid ∈ wU := mem_tab 275 (by decide +kernel) (by decide +kernel)
theorem wco_X0_canBeLaid : Cond.code yX0_canBeLaid cX0_canBeLaid 2 (some .boolean) ∈ wU := mem_tab 276 (by decide +kernel) (by decide +kernel)
theorem wl_X0_72 : Cond.methodLink RX0 72 yX0_mindOf ∈ wU := mem_tab 277 (by decide +kernel) (by decide +kernel)
theorem win_X0_mindOf : Cond.instanceMethod yX0_mindOf ∈ wU := mem_tab 278 (by decide +kernel) (by decide +kernel)
theorem wse_X0_mindOf : Cond.selects RX0 yX0_mindOf yX0_mindOf ∈ wU := mem_tab 279 (by decide +kernel) (by decide +kernel)
theorem wco_X0_mindOf : Cond.code yX0_mindOf cX0_mindOf 2 (some .int) ∈ wU := mem_tab 280 (by decide +kernel) (by decide +kernel)
theorem wl_X4_78 : Cond.methodLink RX4 78 yX0_becomeLike ∈ wU := mem_tab 282 (by decide +kernel) (by decide +kernel)
theorem win_X0_becomeLike : Cond.instanceMethod yX0_becomeLike ∈ wU := mem_tab 283 (by decide +kernel) (by decide +kernel)
theorem wse_X0_becomeLike : Cond.selects RX0 yX0_becomeLike yX0_becomeLike ∈ wU := mem_tab 284 (by decide +kernel) (by decide +kernel)
theorem wco_X0_becomeLike : Cond.code yX0_becomeLike cX0_becomeLike 2 none ∈ wU := mem_tab 285 (by decide +kernel) (by decide +kernel)
theorem wl_X0_37 : Cond.methodLink RX0 37 yX0_takeRow ∈ wU := mem_tab 286 (by decide +kernel) (by decide +kernel)
theorem wst_X0_takeRow : Cond.static yX0_takeRow ∈ wU := mem_tab 287 (by decide +kernel) (by decide +kernel)
theorem wco_X0_takeRow : Cond.code yX0_takeRow cX0_takeRow 2 none ∈ wU := mem_tab 288 (by decide +kernel) (by decide +kernel)
theorem wl_X0_41 : Cond.methodLink RX0 41 Lib.Math.min.name ∈ wU := mem_tab 289 (by decide +kernel) (by decide +kernel)
theorem wst_min : Cond.static Lib.Math.min.name ∈ wU := mem_tab 290 (by decide +kernel) (by decide +kernel)
theorem wco_min : Cond.code Lib.Math.min.name Lib.Math.min.code 2 (some .int) ∈ wU := mem_tab 291 (by decide +kernel) (by decide +kernel)
theorem wl_X0_47 : Cond.methodLink RX0 47 arraycopyName ∈ wU := mem_tab 292 (by decide +kernel) (by decide +kernel)
theorem wst_arraycopy : Cond.static arraycopyName ∈ wU := mem_tab 293 (by decide +kernel) (by decide +kernel)
theorem wna_arraycopy : Cond.native arraycopyName ∈ wU := mem_tab 294 (by decide +kernel) (by decide +kernel)
theorem wl_X4_82 : Cond.methodLink RX4 82 yX2_clear ∈ wU := mem_tab 295 (by decide +kernel) (by decide +kernel)
theorem win_X2_clear : Cond.instanceMethod yX2_clear ∈ wU := mem_tab 296 (by decide +kernel) (by decide +kernel)
theorem wse_X2_clear : Cond.selects RX2 yX2_clear yX2_clear ∈ wU := mem_tab 297 (by decide +kernel) (by decide +kernel)
theorem wco_X2_clear : Cond.code yX2_clear cX2_clear 1 none ∈ wU := mem_tab 298 (by decide +kernel) (by decide +kernel)
theorem wl_X4_83 : Cond.methodLink RX4 83 yX1_clear ∈ wU := mem_tab 299 (by decide +kernel) (by decide +kernel)
theorem win_X1_clear : Cond.instanceMethod yX1_clear ∈ wU := mem_tab 300 (by decide +kernel) (by decide +kernel)
theorem wse_X1_clear : Cond.selects RX1 yX1_clear yX1_clear ∈ wU := mem_tab 301 (by decide +kernel) (by decide +kernel)
theorem wco_X1_clear : Cond.code yX1_clear cX1_clear 1 none ∈ wU := mem_tab 302 (by decide +kernel) (by decide +kernel)
theorem wl_X4_84 : Cond.methodLink RX4 84 yX0_persons ∈ wU := mem_tab 303 (by decide +kernel) (by decide +kernel)
theorem win_X0_persons : Cond.instanceMethod yX0_persons ∈ wU := mem_tab 304 (by decide +kernel) (by decide +kernel)
theorem wse_X0_persons : Cond.selects RX0 yX0_persons yX0_persons ∈ wU := mem_tab 305 (by decide +kernel) (by decide +kernel)
theorem wco_X0_persons : Cond.code yX0_persons cX0_persons 1 (some .int) ∈ wU := mem_tab 306 (by decide +kernel) (by decide +kernel)
theorem wl_L_31 : Cond.methodLink RL 31 yX4_person ∈ wU := mem_tab 307 (by decide +kernel) (by decide +kernel)
theorem win_X4_person : Cond.instanceMethod yX4_person ∈ wU := mem_tab 308 (by decide +kernel) (by decide +kernel)
theorem wse_X4_person : Cond.selects RX4 yX4_person yX4_person ∈ wU := mem_tab 309 (by decide +kernel) (by decide +kernel)
theorem wco_X4_person : Cond.code yX4_person cX4_person 3 (some .int) ∈ wU := mem_tab 310 (by decide +kernel) (by decide +kernel)
theorem wl_X4_87 : Cond.methodLink RX4 87 yX0_hasPerson ∈ wU := mem_tab 311 (by decide +kernel) (by decide +kernel)
theorem wl_X4_91 : Cond.methodLink RX4 91 yX4_isUpTo ∈ wU := mem_tab 312 (by decide +kernel) (by decide +kernel)
theorem wl_X4_95 : Cond.methodLink RX4 95 yX0_kindOf ∈ wU := mem_tab 313 (by decide +kernel) (by decide +kernel)
theorem win_X0_kindOf : Cond.instanceMethod yX0_kindOf ∈ wU := mem_tab 314 (by decide +kernel) (by decide +kernel)
theorem wse_X0_kindOf : Cond.selects RX0 yX0_kindOf yX0_kindOf ∈ wU := mem_tab 315 (by decide +kernel) (by decide +kernel)
theorem wco_X0_kindOf : Cond.code yX0_kindOf cX0_kindOf 2 (some .int) ∈ wU := mem_tab 316 (by decide +kernel) (by decide +kernel)
theorem wl_X4_99 : Cond.methodLink RX4 99 yX0_mindOf ∈ wU := mem_tab 317 (by decide +kernel) (by decide +kernel)
theorem wl_L_36 : Cond.methodLink RL 36 yX4_view ∈ wU := mem_tab 318 (by decide +kernel) (by decide +kernel)
theorem win_X4_view : Cond.instanceMethod yX4_view ∈ wU := mem_tab 319 (by decide +kernel) (by decide +kernel)
theorem wse_X4_view : Cond.selects RX4 yX4_view yX4_view ∈ wU := mem_tab 320 (by decide +kernel) (by decide +kernel)
theorem wco_X4_view : Cond.code yX4_view cX4_view 3 (some .int) ∈ wU := mem_tab 321 (by decide +kernel) (by decide +kernel)
theorem wl_X4_102 : Cond.methodLink RX4 102 yX4_isTheme ∈ wU := mem_tab 322 (by decide +kernel) (by decide +kernel)
theorem wl_X4_105 : Cond.methodLink RX4 105 yX0_viewOf ∈ wU := mem_tab 323 (by decide +kernel) (by decide +kernel)
theorem win_X0_viewOf : Cond.instanceMethod yX0_viewOf ∈ wU := mem_tab 324 (by decide +kernel) (by decide +kernel)
theorem wse_X0_viewOf : Cond.selects RX0 yX0_viewOf yX0_viewOf ∈ wU := mem_tab 325 (by decide +kernel) (by decide +kernel)
theorem wco_X0_viewOf : Cond.code yX0_viewOf cX0_viewOf 3 (some .int) ∈ wU := mem_tab 326 (by decide +kernel) (by decide +kernel)
theorem wl_L_40 : Cond.methodLink RL 40 yX4_line ∈ wU := mem_tab 327 (by decide +kernel) (by decide +kernel)
theorem win_X4_line : Cond.instanceMethod yX4_line ∈ wU := mem_tab 328 (by decide +kernel) (by decide +kernel)
theorem wse_X4_line : Cond.selects RX4 yX4_line yX4_line ∈ wU := mem_tab 329 (by decide +kernel) (by decide +kernel)
theorem wco_X4_line : Cond.code yX4_line cX4_line 3 (some .int) ∈ wU := mem_tab 330 (by decide +kernel) (by decide +kernel)
theorem wl_X4_109 : Cond.methodLink RX4 109 yX0_hasPaper ∈ wU := mem_tab 331 (by decide +kernel) (by decide +kernel)
theorem win_X0_hasPaper : Cond.instanceMethod yX0_hasPaper ∈ wU := mem_tab 332 (by decide +kernel) (by decide +kernel)
theorem wse_X0_hasPaper : Cond.selects RX0 yX0_hasPaper yX0_hasPaper ∈ wU := mem_tab 333 (by decide +kernel) (by decide +kernel)
theorem wco_X0_hasPaper : Cond.code yX0_hasPaper cX0_hasPaper 2 (some .boolean) ∈ wU := mem_tab 334 (by decide +kernel) (by decide +kernel)
theorem wl_X4_112 : Cond.methodLink RX4 112 yX0_lineOf ∈ wU := mem_tab 335 (by decide +kernel) (by decide +kernel)
theorem win_X0_lineOf : Cond.instanceMethod yX0_lineOf ∈ wU := mem_tab 336 (by decide +kernel) (by decide +kernel)
theorem wse_X0_lineOf : Cond.selects RX0 yX0_lineOf yX0_lineOf ∈ wU := mem_tab 337 (by decide +kernel) (by decide +kernel)
theorem wco_X0_lineOf : Cond.code yX0_lineOf cX0_lineOf 3 (some .int) ∈ wU := mem_tab 338 (by decide +kernel) (by decide +kernel)
theorem wl_X4_115 : Cond.methodLink RX4 115 yX4_told ∈ wU := mem_tab 339 (by decide +kernel) (by decide +kernel)
theorem wst_X4_told : Cond.static yX4_told ∈ wU := mem_tab 340 (by decide +kernel) (by decide +kernel)
theorem wco_X4_told : Cond.code yX4_told cX4_told 1 (some .int) ∈ wU := mem_tab 341 (by decide +kernel) (by decide +kernel)
theorem wl_L_44 : Cond.methodLink RL 44 yX4_would ∈ wU := mem_tab 342 (by decide +kernel) (by decide +kernel)
theorem win_X4_would : Cond.instanceMethod yX4_would ∈ wU := mem_tab 343 (by decide +kernel) (by decide +kernel)
theorem wse_X4_would : Cond.selects RX4 yX4_would yX4_would ∈ wU := mem_tab 344 (by decide +kernel) (by decide +kernel)
theorem wco_X4_would : Cond.code yX4_would cX4_would 4 (some .int) ∈ wU := mem_tab 345 (by decide +kernel) (by decide +kernel)
theorem wl_X4_118 : Cond.methodLink RX4 118 yX0_written ∈ wU := mem_tab 346 (by decide +kernel) (by decide +kernel)
theorem win_X0_written : Cond.instanceMethod yX0_written ∈ wU := mem_tab 347 (by decide +kernel) (by decide +kernel)
theorem wse_X0_written : Cond.selects RX0 yX0_written yX0_written ∈ wU := mem_tab 348 (by decide +kernel) (by decide +kernel)
theorem wco_X0_written : Cond.code yX0_written cX0_written 4 (some .int) ∈ wU := mem_tab 349 (by decide +kernel) (by decide +kernel)
theorem wl_X0_80 : Cond.methodLink RX0 80 yX0_writtenFor ∈ wU := mem_tab 350 (by decide +kernel) (by decide +kernel)
theorem win_X0_writtenFor : Cond.instanceMethod yX0_writtenFor ∈ wU := mem_tab 351 (by decide +kernel) (by decide +kernel)
theorem wse_X0_writtenFor : Cond.selects RX0 yX0_writtenFor yX0_writtenFor ∈ wU := mem_tab 352 (by decide +kernel) (by decide +kernel)
theorem wco_X0_writtenFor : Cond.code yX0_writtenFor cX0_writtenFor 5 (some .int) ∈ wU := mem_tab 353 (by decide +kernel) (by decide +kernel)
theorem wl_X0_84 : Cond.methodLink RX0 84 yX0_kindOf ∈ wU := mem_tab 354 (by decide +kernel) (by decide +kernel)
theorem wl_X0_87 : Cond.methodLink RX0 87 yX0_viewOf ∈ wU := mem_tab 355 (by decide +kernel) (by decide +kernel)
theorem wst_X4_inked : Cond.static yX4_inked ∈ wU := mem_tab 357 (by decide +kernel) (by decide +kernel)
theorem wco_X4_inked : Cond.code yX4_inked cX4_inked 4 (some .int) ∈ wU := mem_tab 358 (by decide +kernel) (by decide +kernel)
theorem wl_X4_223 : Cond.methodLink RX4 223 yX4_mixed ∈ wU := mem_tab 359 (by decide +kernel) (by decide +kernel)
theorem wst_X4_mixed : Cond.static yX4_mixed ∈ wU := mem_tab 360 (by decide +kernel) (by decide +kernel)
theorem wco_X4_mixed : Cond.code yX4_mixed cX4_mixed 3 (some .int) ∈ wU := mem_tab 361 (by decide +kernel) (by decide +kernel)
theorem wl_L_49 : Cond.methodLink RL 49 yX4_set ∈ wU := mem_tab 362 (by decide +kernel) (by decide +kernel)
theorem win_X4_set : Cond.instanceMethod yX4_set ∈ wU := mem_tab 363 (by decide +kernel) (by decide +kernel)
theorem wse_X4_set : Cond.selects RX4 yX4_set yX4_set ∈ wU := mem_tab 364 (by decide +kernel) (by decide +kernel)
theorem wco_X4_set : Cond.code yX4_set cX4_set 6 (some .int) ∈ wU := mem_tab 365 (by decide +kernel) (by decide +kernel)
theorem wl_X4_122 : Cond.methodLink RX4 122 yX1_push ∈ wU := mem_tab 366 (by decide +kernel) (by decide +kernel)
theorem win_X1_push : Cond.instanceMethod yX1_push ∈ wU := mem_tab 367 (by decide +kernel) (by decide +kernel)
theorem wse_X1_push : Cond.selects RX1 yX1_push yX1_push ∈ wU := mem_tab 368 (by decide +kernel) (by decide +kernel)
theorem wco_X1_push : Cond.code yX1_push cX1_push 3 none ∈ wU := mem_tab 369 (by decide +kernel) (by decide +kernel)
theorem wl_X1_26 : Cond.methodLink RX1 26 yX1_placeAbove ∈ wU := mem_tab 370 (by decide +kernel) (by decide +kernel)
theorem win_X1_placeAbove : Cond.instanceMethod yX1_placeAbove ∈ wU := mem_tab 372 (by decide +kernel) (by decide +kernel)
theorem wco_X1_placeAbove : Cond.code yX1_placeAbove cX1_placeAbove 3 (some (.object "OtherSideInk$Chancery")) ∈ wU := mem_tab 373 (by decide +kernel) (by decide +kernel)
theorem wst_X4_remainder : Cond.static yX4_remainder ∈ wU := mem_tab 375 (by decide +kernel) (by decide +kernel)
theorem wco_X4_remainder : Cond.code yX4_remainder cX4_remainder 2 (some .int) ∈ wU := mem_tab 376 (by decide +kernel) (by decide +kernel)
theorem wl_X1_30 : Cond.methodLink RX1 30 yX0_becomeLike ∈ wU := mem_tab 377 (by decide +kernel) (by decide +kernel)
theorem wl_X4_125 : Cond.methodLink RX4 125 yX0_putLine ∈ wU := mem_tab 378 (by decide +kernel) (by decide +kernel)
theorem win_X0_putLine : Cond.instanceMethod yX0_putLine ∈ wU := mem_tab 379 (by decide +kernel) (by decide +kernel)
theorem wse_X0_putLine : Cond.selects RX0 yX0_putLine yX0_putLine ∈ wU := mem_tab 380 (by decide +kernel) (by decide +kernel)
theorem wco_X0_putLine : Cond.code yX0_putLine cX0_putLine 4 none ∈ wU := mem_tab 381 (by decide +kernel) (by decide +kernel)
theorem wl_L_54 : Cond.methodLink RL 54 yX4_erase ∈ wU := mem_tab 382 (by decide +kernel) (by decide +kernel)
theorem win_X4_erase : Cond.instanceMethod yX4_erase ∈ wU := mem_tab 383 (by decide +kernel) (by decide +kernel)
theorem wse_X4_erase : Cond.selects RX4 yX4_erase yX4_erase ∈ wU := mem_tab 384 (by decide +kernel) (by decide +kernel)
theorem wco_X4_erase : Cond.code yX4_erase cX4_erase 5 (some .int) ∈ wU := mem_tab 385 (by decide +kernel) (by decide +kernel)
theorem wl_L_58 : Cond.methodLink RL 58 yX4_copy ∈ wU := mem_tab 386 (by decide +kernel) (by decide +kernel)
theorem win_X4_copy : Cond.instanceMethod yX4_copy ∈ wU := mem_tab 387 (by decide +kernel) (by decide +kernel)
theorem wse_X4_copy : Cond.selects RX4 yX4_copy yX4_copy ∈ wU := mem_tab 388 (by decide +kernel) (by decide +kernel)
theorem wco_X4_copy : Cond.code yX4_copy cX4_copy 4 (some .int) ∈ wU := mem_tab 389 (by decide +kernel) (by decide +kernel)
theorem wl_X4_129 : Cond.methodLink RX4 129 yX0_copyPaper ∈ wU := mem_tab 390 (by decide +kernel) (by decide +kernel)
theorem win_X0_copyPaper : Cond.instanceMethod yX0_copyPaper ∈ wU := mem_tab 391 (by decide +kernel) (by decide +kernel)
theorem wse_X0_copyPaper : Cond.selects RX0 yX0_copyPaper yX0_copyPaper ∈ wU := mem_tab 392 (by decide +kernel) (by decide +kernel)
theorem wco_X0_copyPaper : Cond.code yX0_copyPaper cX0_copyPaper 5 none ∈ wU := mem_tab 393 (by decide +kernel) (by decide +kernel)
theorem wl_X0_97 : Cond.methodLink RX0 97 yX0_lineOf ∈ wU := mem_tab 394 (by decide +kernel) (by decide +kernel)
theorem wl_X0_100 : Cond.methodLink RX0 100 yX0_copied ∈ wU := mem_tab 395 (by decide +kernel) (by decide +kernel)
theorem win_X0_copied : Cond.instanceMethod yX0_copied ∈ wU := mem_tab 396 (by decide +kernel) (by decide +kernel)
theorem wse_X0_copied : Cond.selects RX0 yX0_copied yX0_copied ∈ wU := mem_tab 397 (by decide +kernel) (by decide +kernel)
theorem wco_X0_copied : Cond.code yX0_copied cX0_copied 4 (some .int) ∈ wU := mem_tab 398 (by decide +kernel) (by decide +kernel)
theorem wst_X4_carried : Cond.static yX4_carried ∈ wU := mem_tab 400 (by decide +kernel) (by decide +kernel)
theorem wco_X4_carried : Cond.code yX4_carried cX4_carried 3 (some .int) ∈ wU := mem_tab 401 (by decide +kernel) (by decide +kernel)
theorem wl_X4_226 : Cond.methodLink RX4 226 yX4_toward ∈ wU := mem_tab 402 (by decide +kernel) (by decide +kernel)
theorem wst_X4_toward : Cond.static yX4_toward ∈ wU := mem_tab 403 (by decide +kernel) (by decide +kernel)
theorem wco_X4_toward : Cond.code yX4_toward cX4_toward 3 (some .int) ∈ wU := mem_tab 404 (by decide +kernel) (by decide +kernel)
theorem wl_X4_229 : Cond.methodLink RX4 229 Lib.Math.min.name ∈ wU := mem_tab 405 (by decide +kernel) (by decide +kernel)
theorem wl_X4_234 : Cond.methodLink RX4 234 Lib.Math.max.name ∈ wU := mem_tab 406 (by decide +kernel) (by decide +kernel)
theorem wl_X0_103 : Cond.methodLink RX0 103 yX0_putLine ∈ wU := mem_tab 407 (by decide +kernel) (by decide +kernel)
theorem wl_X4_132 : Cond.methodLink RX4 132 yX0_filledLinesOf ∈ wU := mem_tab 408 (by decide +kernel) (by decide +kernel)
theorem win_X0_filledLinesOf : Cond.instanceMethod yX0_filledLinesOf ∈ wU := mem_tab 409 (by decide +kernel) (by decide +kernel)
theorem wse_X0_filledLinesOf : Cond.selects RX0 yX0_filledLinesOf yX0_filledLinesOf ∈ wU := mem_tab 410 (by decide +kernel) (by decide +kernel)
theorem wco_X0_filledLinesOf : Cond.code yX0_filledLinesOf cX0_filledLinesOf 4 (some .int) ∈ wU := mem_tab 411 (by decide +kernel) (by decide +kernel)
theorem wl_L_62 : Cond.methodLink RL 62 yX4_think ∈ wU := mem_tab 412 (by decide +kernel) (by decide +kernel)
theorem win_X4_think : Cond.instanceMethod yX4_think ∈ wU := mem_tab 413 (by decide +kernel) (by decide +kernel)
theorem wse_X4_think : Cond.selects RX4 yX4_think yX4_think ∈ wU := mem_tab 414 (by decide +kernel) (by decide +kernel)
theorem wco_X4_think : Cond.code yX4_think cX4_think 5 (some .int) ∈ wU := mem_tab 415 (by decide +kernel) (by decide +kernel)
theorem wl_X4_135 : Cond.methodLink RX4 135 yX0_putView ∈ wU := mem_tab 416 (by decide +kernel) (by decide +kernel)
theorem wl_L_66 : Cond.methodLink RL 66 yX4_mind ∈ wU := mem_tab 417 (by decide +kernel) (by decide +kernel)
theorem win_X4_mind : Cond.instanceMethod yX4_mind ∈ wU := mem_tab 418 (by decide +kernel) (by decide +kernel)
theorem wse_X4_mind : Cond.selects RX4 yX4_mind yX4_mind ∈ wU := mem_tab 419 (by decide +kernel) (by decide +kernel)
theorem wco_X4_mind : Cond.code yX4_mind cX4_mind 4 (some .int) ∈ wU := mem_tab 420 (by decide +kernel) (by decide +kernel)
theorem wl_X4_138 : Cond.methodLink RX4 138 yX0_putMind ∈ wU := mem_tab 421 (by decide +kernel) (by decide +kernel)
theorem win_X0_putMind : Cond.instanceMethod yX0_putMind ∈ wU := mem_tab 422 (by decide +kernel) (by decide +kernel)
theorem wse_X0_putMind : Cond.selects RX0 yX0_putMind yX0_putMind ∈ wU := mem_tab 423 (by decide +kernel) (by decide +kernel)
theorem wco_X0_putMind : Cond.code yX0_putMind cX0_putMind 3 none ∈ wU := mem_tab 424 (by decide +kernel) (by decide +kernel)
theorem wl_L_70 : Cond.methodLink RL 70 yX4_undo ∈ wU := mem_tab 425 (by decide +kernel) (by decide +kernel)
theorem win_X4_undo : Cond.instanceMethod yX4_undo ∈ wU := mem_tab 426 (by decide +kernel) (by decide +kernel)
theorem wse_X4_undo : Cond.selects RX4 yX4_undo yX4_undo ∈ wU := mem_tab 427 (by decide +kernel) (by decide +kernel)
theorem wco_X4_undo : Cond.code yX4_undo cX4_undo 1 (some .int) ∈ wU := mem_tab 428 (by decide +kernel) (by decide +kernel)
theorem wl_X4_142 : Cond.methodLink RX4 142 yX1_popInto ∈ wU := mem_tab 429 (by decide +kernel) (by decide +kernel)
theorem win_X1_popInto : Cond.instanceMethod yX1_popInto ∈ wU := mem_tab 430 (by decide +kernel) (by decide +kernel)
theorem wse_X1_popInto : Cond.selects RX1 yX1_popInto yX1_popInto ∈ wU := mem_tab 431 (by decide +kernel) (by decide +kernel)
theorem wco_X1_popInto : Cond.code yX1_popInto cX1_popInto 3 (some .boolean) ∈ wU := mem_tab 432 (by decide +kernel) (by decide +kernel)
theorem wl_X4_146 : Cond.methodLink RX4 146 yX1_size ∈ wU := mem_tab 433 (by decide +kernel) (by decide +kernel)
theorem win_X1_size : Cond.instanceMethod yX1_size ∈ wU := mem_tab 434 (by decide +kernel) (by decide +kernel)
theorem wse_X1_size : Cond.selects RX1 yX1_size yX1_size ∈ wU := mem_tab 435 (by decide +kernel) (by decide +kernel)
theorem wco_X1_size : Cond.code yX1_size cX1_size 1 (some .int) ∈ wU := mem_tab 436 (by decide +kernel) (by decide +kernel)
theorem wl_L_74 : Cond.methodLink RL 74 yX4_own ∈ wU := mem_tab 437 (by decide +kernel) (by decide +kernel)
theorem win_X4_own : Cond.instanceMethod yX4_own ∈ wU := mem_tab 438 (by decide +kernel) (by decide +kernel)
theorem wse_X4_own : Cond.selects RX4 yX4_own yX4_own ∈ wU := mem_tab 439 (by decide +kernel) (by decide +kernel)
theorem wco_X4_own : Cond.code yX4_own cX4_own 5 (some .int) ∈ wU := mem_tab 440 (by decide +kernel) (by decide +kernel)
theorem wl_L_78 : Cond.methodLink RL 78 yX4_tears ∈ wU := mem_tab 441 (by decide +kernel) (by decide +kernel)
theorem win_X4_tears : Cond.instanceMethod yX4_tears ∈ wU := mem_tab 442 (by decide +kernel) (by decide +kernel)
theorem wse_X4_tears : Cond.selects RX4 yX4_tears yX4_tears ∈ wU := mem_tab 443 (by decide +kernel) (by decide +kernel)
theorem wco_X4_tears : Cond.code yX4_tears cX4_tears 5 (some .int) ∈ wU := mem_tab 444 (by decide +kernel) (by decide +kernel)
theorem wl_L_82 : Cond.methodLink RL 82 yX4_whom ∈ wU := mem_tab 445 (by decide +kernel) (by decide +kernel)
theorem win_X4_whom : Cond.instanceMethod yX4_whom ∈ wU := mem_tab 446 (by decide +kernel) (by decide +kernel)
theorem wse_X4_whom : Cond.selects RX4 yX4_whom yX4_whom ∈ wU := mem_tab 447 (by decide +kernel) (by decide +kernel)
theorem wco_X4_whom : Cond.code yX4_whom cX4_whom 5 (some .int) ∈ wU := mem_tab 448 (by decide +kernel) (by decide +kernel)
theorem wl_X4_147 : Cond.methodLink RX4 147 yX0_writtenFor ∈ wU := mem_tab 449 (by decide +kernel) (by decide +kernel)
theorem wl_L_86 : Cond.methodLink RL 86 yX4_treaty ∈ wU := mem_tab 450 (by decide +kernel) (by decide +kernel)
theorem win_X4_treaty : Cond.instanceMethod yX4_treaty ∈ wU := mem_tab 451 (by decide +kernel) (by decide +kernel)
theorem wse_X4_treaty : Cond.selects RX4 yX4_treaty yX4_treaty ∈ wU := mem_tab 452 (by decide +kernel) (by decide +kernel)
theorem wco_X4_treaty : Cond.code yX4_treaty cX4_treaty 6 (some .int) ∈ wU := mem_tab 453 (by decide +kernel) (by decide +kernel)
theorem wl_L_90 : Cond.methodLink RL 90 yX4_round ∈ wU := mem_tab 454 (by decide +kernel) (by decide +kernel)
theorem win_X4_round : Cond.instanceMethod yX4_round ∈ wU := mem_tab 455 (by decide +kernel) (by decide +kernel)
theorem wse_X4_round : Cond.selects RX4 yX4_round yX4_round ∈ wU := mem_tab 456 (by decide +kernel) (by decide +kernel)
theorem wco_X4_round : Cond.code yX4_round cX4_round 6 (some .int) ∈ wU := mem_tab 457 (by decide +kernel) (by decide +kernel)
theorem wl_X4_151 : Cond.methodLink RX4 151 yX4_remainder ∈ wU := mem_tab 458 (by decide +kernel) (by decide +kernel)
theorem wl_X4_154 : Cond.methodLink RX4 154 yX0_copied ∈ wU := mem_tab 459 (by decide +kernel) (by decide +kernel)
theorem wl_L_94 : Cond.methodLink RL 94 yX4_again ∈ wU := mem_tab 460 (by decide +kernel) (by decide +kernel)
theorem win_X4_again : Cond.instanceMethod yX4_again ∈ wU := mem_tab 461 (by decide +kernel) (by decide +kernel)
theorem wse_X4_again : Cond.selects RX4 yX4_again yX4_again ∈ wU := mem_tab 462 (by decide +kernel) (by decide +kernel)
theorem wco_X4_again : Cond.code yX4_again cX4_again 6 (some .int) ∈ wU := mem_tab 463 (by decide +kernel) (by decide +kernel)
theorem wl_X4_157 : Cond.methodLink RX4 157 yX0_codeOf ∈ wU := mem_tab 464 (by decide +kernel) (by decide +kernel)
theorem win_X0_codeOf : Cond.instanceMethod yX0_codeOf ∈ wU := mem_tab 465 (by decide +kernel) (by decide +kernel)
theorem wse_X0_codeOf : Cond.selects RX0 yX0_codeOf yX0_codeOf ∈ wU := mem_tab 466 (by decide +kernel) (by decide +kernel)
theorem wco_X0_codeOf : Cond.code yX0_codeOf cX0_codeOf 5 (some .int) ∈ wU := mem_tab 467 (by decide +kernel) (by decide +kernel)
theorem wl_X4_160 : Cond.methodLink RX4 160 yX4_put ∈ wU := mem_tab 468 (by decide +kernel) (by decide +kernel)
theorem wl_X4_164 : Cond.methodLink RX4 164 yX0_goRound ∈ wU := mem_tab 469 (by decide +kernel) (by decide +kernel)
theorem win_X0_goRound : Cond.instanceMethod yX0_goRound ∈ wU := mem_tab 470 (by decide +kernel) (by decide +kernel)
theorem wse_X0_goRound : Cond.selects RX0 yX0_goRound yX0_goRound ∈ wU := mem_tab 471 (by decide +kernel) (by decide +kernel)
theorem wco_X0_goRound : Cond.code yX0_goRound cX0_goRound 3 none ∈ wU := mem_tab 472 (by decide +kernel) (by decide +kernel)
theorem wl_X0_106 : Cond.methodLink RX0 106 yX0_copyPaper ∈ wU := mem_tab 473 (by decide +kernel) (by decide +kernel)
theorem wl_X4_167 : Cond.methodLink RX4 167 yX4_firstSeen ∈ wU := mem_tab 474 (by decide +kernel) (by decide +kernel)
theorem win_X4_firstSeen : Cond.instanceMethod yX4_firstSeen ∈ wU := mem_tab 476 (by decide +kernel) (by decide +kernel)
theorem wco_X4_firstSeen : Cond.code yX4_firstSeen cX4_firstSeen 4 (some .int) ∈ wU := mem_tab 477 (by decide +kernel) (by decide +kernel)
theorem wl_X4_207 : Cond.methodLink RX4 207 yX4_at ∈ wU := mem_tab 478 (by decide +kernel) (by decide +kernel)
theorem wl_L_98 : Cond.methodLink RL 98 yX4_least ∈ wU := mem_tab 479 (by decide +kernel) (by decide +kernel)
theorem win_X4_least : Cond.instanceMethod yX4_least ∈ wU := mem_tab 480 (by decide +kernel) (by decide +kernel)
theorem wse_X4_least : Cond.selects RX4 yX4_least yX4_least ∈ wU := mem_tab 481 (by decide +kernel) (by decide +kernel)
theorem wco_X4_least : Cond.code yX4_least cX4_least 6 (some .int) ∈ wU := mem_tab 482 (by decide +kernel) (by decide +kernel)
theorem wl_X4_170 : Cond.methodLink RX4 170 yJ6_bitCount_0f7a4 ∈ wU := mem_tab 483 (by decide +kernel) (by decide +kernel)
theorem wst_J6_bitCount_0f7a4 : Cond.static yJ6_bitCount_0f7a4 ∈ wU := mem_tab 484 (by decide +kernel) (by decide +kernel)
theorem wco_J6_bitCount_0f7a4 : Cond.code yJ6_bitCount_0f7a4 cJ6_bitCount_0f7a4 1 (some .int) ∈ wU := mem_tab 485 (by decide +kernel) (by decide +kernel)
theorem wk_J6_265 : Cond.constant RJ6 265 (1431655765 : Int32) ∈ wU := mem_tab 486 (by decide +kernel) (by decide +kernel)
theorem wk_J6_266 : Cond.constant RJ6 266 (858993459 : Int32) ∈ wU := mem_tab 487 (by decide +kernel) (by decide +kernel)
theorem wk_J6_267 : Cond.constant RJ6 267 (252645135 : Int32) ∈ wU := mem_tab 488 (by decide +kernel) (by decide +kernel)
theorem wl_L_102 : Cond.methodLink RL 102 yX4_sign ∈ wU := mem_tab 489 (by decide +kernel) (by decide +kernel)
theorem win_X4_sign : Cond.instanceMethod yX4_sign ∈ wU := mem_tab 490 (by decide +kernel) (by decide +kernel)
theorem wse_X4_sign : Cond.selects RX4 yX4_sign yX4_sign ∈ wU := mem_tab 491 (by decide +kernel) (by decide +kernel)
theorem wco_X4_sign : Cond.code yX4_sign cX4_sign 3 (some .int) ∈ wU := mem_tab 492 (by decide +kernel) (by decide +kernel)
theorem wl_X4_175 : Cond.methodLink RX4 175 yX2_size ∈ wU := mem_tab 493 (by decide +kernel) (by decide +kernel)
theorem win_X2_size : Cond.instanceMethod yX2_size ∈ wU := mem_tab 494 (by decide +kernel) (by decide +kernel)
theorem wse_X2_size : Cond.selects RX2 yX2_size yX2_size ∈ wU := mem_tab 495 (by decide +kernel) (by decide +kernel)
theorem wco_X2_size : Cond.code yX2_size cX2_size 1 (some .int) ∈ wU := mem_tab 496 (by decide +kernel) (by decide +kernel)
theorem wl_X4_176 : Cond.methodLink RX4 176 yX2_add ∈ wU := mem_tab 497 (by decide +kernel) (by decide +kernel)
theorem win_X2_add : Cond.instanceMethod yX2_add ∈ wU := mem_tab 498 (by decide +kernel) (by decide +kernel)
theorem wse_X2_add : Cond.selects RX2 yX2_add yX2_add ∈ wU := mem_tab 499 (by decide +kernel) (by decide +kernel)
theorem wco_X2_add : Cond.code yX2_add cX2_add 3 none ∈ wU := mem_tab 500 (by decide +kernel) (by decide +kernel)
theorem wl_L_106 : Cond.methodLink RL 106 yX4_forget ∈ wU := mem_tab 502 (by decide +kernel) (by decide +kernel)
theorem win_X4_forget : Cond.instanceMethod yX4_forget ∈ wU := mem_tab 503 (by decide +kernel) (by decide +kernel)
theorem wse_X4_forget : Cond.selects RX4 yX4_forget yX4_forget ∈ wU := mem_tab 504 (by decide +kernel) (by decide +kernel)
theorem wco_X4_forget : Cond.code yX4_forget cX4_forget 2 (some .int) ∈ wU := mem_tab 505 (by decide +kernel) (by decide +kernel)
theorem wl_L_110 : Cond.methodLink RL 110 yX4_who ∈ wU := mem_tab 506 (by decide +kernel) (by decide +kernel)
theorem win_X4_who : Cond.instanceMethod yX4_who ∈ wU := mem_tab 507 (by decide +kernel) (by decide +kernel)
theorem wse_X4_who : Cond.selects RX4 yX4_who yX4_who ∈ wU := mem_tab 508 (by decide +kernel) (by decide +kernel)
theorem wco_X4_who : Cond.code yX4_who cX4_who 7 (some .int) ∈ wU := mem_tab 509 (by decide +kernel) (by decide +kernel)
theorem wl_X4_179 : Cond.methodLink RX4 179 yX2_areAllWritten ∈ wU := mem_tab 510 (by decide +kernel) (by decide +kernel)
theorem win_X2_areAllWritten : Cond.instanceMethod yX2_areAllWritten ∈ wU := mem_tab 511 (by decide +kernel) (by decide +kernel)
theorem wse_X2_areAllWritten : Cond.selects RX2 yX2_areAllWritten yX2_areAllWritten ∈ wU := mem_tab 512 (by decide +kernel) (by decide +kernel)
theorem wco_X2_areAllWritten : Cond.code yX2_areAllWritten cX2_areAllWritten 6 (some .boolean) ∈ wU := mem_tab 513 (by decide +kernel) (by decide +kernel)
theorem wl_X2_30 : Cond.methodLink RX2 30 yX0_writtenFor ∈ wU := mem_tab 515 (by decide +kernel) (by decide +kernel)
theorem wl_L_114 : Cond.methodLink RL 114 yX4_views ∈ wU := mem_tab 516 (by decide +kernel) (by decide +kernel)
theorem win_X4_views : Cond.instanceMethod yX4_views ∈ wU := mem_tab 517 (by decide +kernel) (by decide +kernel)
theorem wse_X4_views : Cond.selects RX4 yX4_views yX4_views ∈ wU := mem_tab 518 (by decide +kernel) (by decide +kernel)
theorem wco_X4_views : Cond.code yX4_views cX4_views 6 (some .int) ∈ wU := mem_tab 519 (by decide +kernel) (by decide +kernel)
theorem wl_L_118 : Cond.methodLink RL 118 yX4_drops ∈ wU := mem_tab 520 (by decide +kernel) (by decide +kernel)
theorem win_X4_drops : Cond.instanceMethod yX4_drops ∈ wU := mem_tab 521 (by decide +kernel) (by decide +kernel)
theorem wse_X4_drops : Cond.selects RX4 yX4_drops yX4_drops ∈ wU := mem_tab 522 (by decide +kernel) (by decide +kernel)
theorem wco_X4_drops : Cond.code yX4_drops cX4_drops 12 (some .long) ∈ wU := mem_tab 523 (by decide +kernel) (by decide +kernel)
theorem wk_X4_183 : Cond.constantLong RX4 183 (-1 : Int64) ∈ wU := mem_tab 524 (by decide +kernel) (by decide +kernel)
theorem wl_X4_185 : Cond.methodLink RX4 185 yX4_waysOfTears ∈ wU := mem_tab 525 (by decide +kernel) (by decide +kernel)
theorem wst_X4_waysOfTears : Cond.static yX4_waysOfTears ∈ wU := mem_tab 526 (by decide +kernel) (by decide +kernel)
theorem wco_X4_waysOfTears : Cond.code yX4_waysOfTears cX4_waysOfTears 5 (some .long) ∈ wU := mem_tab 527 (by decide +kernel) (by decide +kernel)
theorem wf_X4_219 : Cond.fieldLink RX4 219 "OtherSideInk" "WAYS_OF_TEN" "[J" ∈ wU := mem_tab 528 (by decide +kernel) (by decide +kernel)
theorem wk_X4_189 : Cond.constantLong RX4 189 (10000000000 : Int64) ∈ wU := mem_tab 530 (by decide +kernel) (by decide +kernel)
theorem wl_X4_191 : Cond.methodLink RX4 191 yX4_greatestDivisor ∈ wU := mem_tab 531 (by decide +kernel) (by decide +kernel)
theorem wst_X4_greatestDivisor : Cond.static yX4_greatestDivisor ∈ wU := mem_tab 532 (by decide +kernel) (by decide +kernel)
theorem wco_X4_greatestDivisor : Cond.code yX4_greatestDivisor cX4_greatestDivisor 11 (some .long) ∈ wU := mem_tab 533 (by decide +kernel) (by decide +kernel)
theorem wl_L_123 : Cond.methodLink RL 123 yX4_weeks ∈ wU := mem_tab 534 (by decide +kernel) (by decide +kernel)
theorem win_X4_weeks : Cond.instanceMethod yX4_weeks ∈ wU := mem_tab 535 (by decide +kernel) (by decide +kernel)
theorem wse_X4_weeks : Cond.selects RX4 yX4_weeks yX4_weeks ∈ wU := mem_tab 536 (by decide +kernel) (by decide +kernel)
theorem wco_X4_weeks : Cond.code yX4_weeks cX4_weeks 8 (some .int) ∈ wU := mem_tab 537 (by decide +kernel) (by decide +kernel)
theorem wl_X4_195 : Cond.methodLink RX4 195 yX4_drawOf ∈ wU := mem_tab 538 (by decide +kernel) (by decide +kernel)
theorem wst_X4_drawOf : Cond.static yX4_drawOf ∈ wU := mem_tab 539 (by decide +kernel) (by decide +kernel)
theorem wco_X4_drawOf : Cond.code yX4_drawOf cX4_drawOf 4 (some .int) ∈ wU := mem_tab 540 (by decide +kernel) (by decide +kernel)
theorem wk_X4_211 : Cond.constantLong RX4 211 (7919 : Int64) ∈ wU := mem_tab 541 (by decide +kernel) (by decide +kernel)
theorem wk_X4_213 : Cond.constantLong RX4 213 (6151 : Int64) ∈ wU := mem_tab 542 (by decide +kernel) (by decide +kernel)
theorem wk_X4_215 : Cond.constantLong RX4 215 (65521 : Int64) ∈ wU := mem_tab 543 (by decide +kernel) (by decide +kernel)
theorem wk_X4_217 : Cond.constantLong RX4 217 (2 : Int64) ∈ wU := mem_tab 544 (by decide +kernel) (by decide +kernel)
theorem wl_X4_198 : Cond.methodLink RX4 198 yX0_papers ∈ wU := mem_tab 545 (by decide +kernel) (by decide +kernel)
theorem win_X0_papers : Cond.instanceMethod yX0_papers ∈ wU := mem_tab 546 (by decide +kernel) (by decide +kernel)
theorem wse_X0_papers : Cond.selects RX0 yX0_papers yX0_papers ∈ wU := mem_tab 547 (by decide +kernel) (by decide +kernel)
theorem wco_X0_papers : Cond.code yX0_papers cX0_papers 1 (some .int) ∈ wU := mem_tab 548 (by decide +kernel) (by decide +kernel)
theorem wl_X4_201 : Cond.methodLink RX4 201 yX0_filledLines ∈ wU := mem_tab 549 (by decide +kernel) (by decide +kernel)
theorem win_X0_filledLines : Cond.instanceMethod yX0_filledLines ∈ wU := mem_tab 550 (by decide +kernel) (by decide +kernel)
theorem wse_X0_filledLines : Cond.selects RX0 yX0_filledLines yX0_filledLines ∈ wU := mem_tab 551 (by decide +kernel) (by decide +kernel)
theorem wco_X0_filledLines : Cond.code yX0_filledLines cX0_filledLines 3 (some .int) ∈ wU := mem_tab 552 (by decide +kernel) (by decide +kernel)
theorem wl_X0_109 : Cond.methodLink RX0 109 yX0_filledLinesOf ∈ wU := mem_tab 553 (by decide +kernel) (by decide +kernel)
theorem wl_X4_204 : Cond.methodLink RX4 204 yX0_sumOfLines ∈ wU := mem_tab 554 (by decide +kernel) (by decide +kernel)
theorem win_X0_sumOfLines : Cond.instanceMethod yX0_sumOfLines ∈ wU := mem_tab 555 (by decide +kernel) (by decide +kernel)
theorem wse_X0_sumOfLines : Cond.selects RX0 yX0_sumOfLines yX0_sumOfLines ∈ wU := mem_tab 556 (by decide +kernel) (by decide +kernel)
theorem wco_X0_sumOfLines : Cond.code yX0_sumOfLines cX0_sumOfLines 5 (some .int) ∈ wU := mem_tab 557 (by decide +kernel) (by decide +kernel)
theorem wl_L_127 : Cond.methodLink RL 127 yX4_keep ∈ wU := mem_tab 558 (by decide +kernel) (by decide +kernel)
theorem win_X4_keep : Cond.instanceMethod yX4_keep ∈ wU := mem_tab 559 (by decide +kernel) (by decide +kernel)
theorem wse_X4_keep : Cond.selects RX4 yX4_keep yX4_keep ∈ wU := mem_tab 560 (by decide +kernel) (by decide +kernel)
theorem wco_X4_keep : Cond.code yX4_keep cX4_keep 1 (some .int) ∈ wU := mem_tab 561 (by decide +kernel) (by decide +kernel)
theorem wl_L_131 : Cond.methodLink RL 131 yX4_back ∈ wU := mem_tab 562 (by decide +kernel) (by decide +kernel)
theorem win_X4_back : Cond.instanceMethod yX4_back ∈ wU := mem_tab 563 (by decide +kernel) (by decide +kernel)
theorem wse_X4_back : Cond.selects RX4 yX4_back yX4_back ∈ wU := mem_tab 564 (by decide +kernel) (by decide +kernel)
theorem wco_X4_back : Cond.code yX4_back cX4_back 1 (some .int) ∈ wU := mem_tab 565 (by decide +kernel) (by decide +kernel)
theorem wl_L_135 : Cond.methodLink RL 135 yX4_count ∈ wU := mem_tab 566 (by decide +kernel) (by decide +kernel)
theorem win_X4_count : Cond.instanceMethod yX4_count ∈ wU := mem_tab 567 (by decide +kernel) (by decide +kernel)
theorem wse_X4_count : Cond.selects RX4 yX4_count yX4_count ∈ wU := mem_tab 568 (by decide +kernel) (by decide +kernel)
theorem wco_X4_count : Cond.code yX4_count cX4_count 2 (some .int) ∈ wU := mem_tab 569 (by decide +kernel) (by decide +kernel)
theorem wcl_L_10 : Cond.classLink RL 10 RX5 ∈ wU := mem_tab 570 (by decide +kernel) (by decide +kernel)
theorem wns_X5 : Cond.instantiable RX5 20 ∈ wU := mem_tab 571 (by decide +kernel) (by decide +kernel)
theorem wl_L_12 : Cond.methodLink RL 12 yX5_init ∈ wU := mem_tab 572 (by decide +kernel) (by decide +kernel)
theorem win_X5_init : Cond.instanceMethod yX5_init ∈ wU := mem_tab 573 (by decide +kernel) (by decide +kernel)
theorem wco_X5_init : Cond.code yX5_init cX5_init 1 none ∈ wU := mem_tab 574 (by decide +kernel) (by decide +kernel)
theorem wl_X5_1 : Cond.methodLink RX5 1 objectInit ∈ wU := mem_tab 575 (by decide +kernel) (by decide +kernel)
theorem wl_X5_43 : Cond.methodLink RX5 43 yX5_clearTold ∈ wU := mem_tab 576 (by decide +kernel) (by decide +kernel)
theorem win_X5_clearTold : Cond.instanceMethod yX5_clearTold ∈ wU := mem_tab 578 (by decide +kernel) (by decide +kernel)
theorem wco_X5_clearTold : Cond.code yX5_clearTold cX5_clearTold 2 none ∈ wU := mem_tab 579 (by decide +kernel) (by decide +kernel)
theorem wl_X5_46 : Cond.methodLink RX5 46 yX5_tellsPerson ∈ wU := mem_tab 580 (by decide +kernel) (by decide +kernel)
theorem win_X5_tellsPerson : Cond.instanceMethod yX5_tellsPerson ∈ wU := mem_tab 582 (by decide +kernel) (by decide +kernel)
theorem wco_X5_tellsPerson : Cond.code yX5_tellsPerson cX5_tellsPerson 3 none ∈ wU := mem_tab 583 (by decide +kernel) (by decide +kernel)
theorem wl_X5_54 : Cond.methodLink RX5 54 yX5_settles ∈ wU := mem_tab 584 (by decide +kernel) (by decide +kernel)
theorem win_X5_settles : Cond.instanceMethod yX5_settles ∈ wU := mem_tab 586 (by decide +kernel) (by decide +kernel)
theorem wco_X5_settles : Cond.code yX5_settles cX5_settles 2 none ∈ wU := mem_tab 587 (by decide +kernel) (by decide +kernel)
theorem wl_X5_107 : Cond.methodLink RX5 107 yX5_copies ∈ wU := mem_tab 588 (by decide +kernel) (by decide +kernel)
theorem wst_X5_copies : Cond.static yX5_copies ∈ wU := mem_tab 589 (by decide +kernel) (by decide +kernel)
theorem wco_X5_copies : Cond.code yX5_copies cX5_copies 5 none ∈ wU := mem_tab 590 (by decide +kernel) (by decide +kernel)
theorem wf_X5_60 : Cond.fieldLink RX5 60 "OtherSideInkModel" "persons" "I" ∈ wU := mem_tab 591 (by decide +kernel) (by decide +kernel)
theorem wf_X5_7 : Cond.fieldLink RX5 7 "OtherSideInkModel" "kinds" "[I" ∈ wU := mem_tab 592 (by decide +kernel) (by decide +kernel)
theorem wf_X5_67 : Cond.fieldLink RX5 67 "OtherSideInkModel" "papers" "I" ∈ wU := mem_tab 593 (by decide +kernel) (by decide +kernel)
theorem wf_X5_13 : Cond.fieldLink RX5 13 "OtherSideInkModel" "st" "[I" ∈ wU := mem_tab 594 (by decide +kernel) (by decide +kernel)
theorem wf_X5_111 : Cond.fieldLink RX5 111 "OtherSideInkModel" "acts" "I" ∈ wU := mem_tab 595 (by decide +kernel) (by decide +kernel)
theorem wf_X5_16 : Cond.fieldLink RX5 16 "OtherSideInkModel" "was" "[I" ∈ wU := mem_tab 596 (by decide +kernel) (by decide +kernel)
theorem wf_X5_114 : Cond.fieldLink RX5 114 "OtherSideInkModel" "keeps" "I" ∈ wU := mem_tab 597 (by decide +kernel) (by decide +kernel)
theorem wf_X5_19 : Cond.fieldLink RX5 19 "OtherSideInkModel" "kept" "[I" ∈ wU := mem_tab 598 (by decide +kernel) (by decide +kernel)
theorem wf_X5_117 : Cond.fieldLink RX5 117 "OtherSideInkModel" "signs" "I" ∈ wU := mem_tab 599 (by decide +kernel) (by decide +kernel)
theorem wf_X5_22 : Cond.fieldLink RX5 22 "OtherSideInkModel" "signed" "[I" ∈ wU := mem_tab 600 (by decide +kernel) (by decide +kernel)
theorem wf_X5_25 : Cond.fieldLink RX5 25 "OtherSideInkModel" "text" "[I" ∈ wU := mem_tab 601 (by decide +kernel) (by decide +kernel)
theorem wf_X5_70 : Cond.fieldLink RX5 70 "OtherSideInkModel" "texted" "I" ∈ wU := mem_tab 602 (by decide +kernel) (by decide +kernel)
theorem wf_X5_73 : Cond.fieldLink RX5 73 "OtherSideInkModel" "at" "I" ∈ wU := mem_tab 603 (by decide +kernel) (by decide +kernel)
theorem wf_X5_28 : Cond.fieldLink RX5 28 "OtherSideInkModel" "told" "[I" ∈ wU := mem_tab 604 (by decide +kernel) (by decide +kernel)
theorem wf_X5_57 : Cond.fieldLink RX5 57 "OtherSideInkModel" "readPersons" "I" ∈ wU := mem_tab 605 (by decide +kernel) (by decide +kernel)
theorem wf_X5_31 : Cond.fieldLink RX5 31 "OtherSideInkModel" "readKinds" "[I" ∈ wU := mem_tab 606 (by decide +kernel) (by decide +kernel)
theorem wf_X5_50 : Cond.fieldLink RX5 50 "OtherSideInkModel" "readPapers" "I" ∈ wU := mem_tab 607 (by decide +kernel) (by decide +kernel)
theorem wf_X5_34 : Cond.fieldLink RX5 34 "OtherSideInkModel" "read" "[I" ∈ wU := mem_tab 608 (by decide +kernel) (by decide +kernel)
theorem wf_X5_37 : Cond.fieldLink RX5 37 "OtherSideInkModel" "now" "[I" ∈ wU := mem_tab 609 (by decide +kernel) (by decide +kernel)
theorem wf_X5_40 : Cond.fieldLink RX5 40 "OtherSideInkModel" "rows" "[I" ∈ wU := mem_tab 610 (by decide +kernel) (by decide +kernel)
theorem wl_L_17 : Cond.methodLink RL 17 yX5_write ∈ wU := mem_tab 652 (by decide +kernel) (by decide +kernel)
theorem win_X5_write : Cond.instanceMethod yX5_write ∈ wU := mem_tab 653 (by decide +kernel) (by decide +kernel)
theorem wse_X5_write : Cond.selects RX5 yX5_write yX5_write ∈ wU := mem_tab 654 (by decide +kernel) (by decide +kernel)
theorem wco_X5_write : Cond.code yX5_write cX5_write 2 (some .int) ∈ wU := mem_tab 655 (by decide +kernel) (by decide +kernel)
theorem wl_X5_63 : Cond.methodLink RX5 63 yX5_in ∈ wU := mem_tab 656 (by decide +kernel) (by decide +kernel)
theorem wst_X5_in : Cond.static yX5_in ∈ wU := mem_tab 657 (by decide +kernel) (by decide +kernel)
theorem wco_X5_in : Cond.code yX5_in cX5_in 3 (some .boolean) ∈ wU := mem_tab 658 (by decide +kernel) (by decide +kernel)
theorem wl_L_22 : Cond.methodLink RL 22 yX5_wipe ∈ wU := mem_tab 659 (by decide +kernel) (by decide +kernel)
theorem win_X5_wipe : Cond.instanceMethod yX5_wipe ∈ wU := mem_tab 660 (by decide +kernel) (by decide +kernel)
theorem wse_X5_wipe : Cond.selects RX5 yX5_wipe yX5_wipe ∈ wU := mem_tab 661 (by decide +kernel) (by decide +kernel)
theorem wco_X5_wipe : Cond.code yX5_wipe cX5_wipe 2 (some .int) ∈ wU := mem_tab 662 (by decide +kernel) (by decide +kernel)
theorem wl_L_26 : Cond.methodLink RL 26 yX5_fault ∈ wU := mem_tab 663 (by decide +kernel) (by decide +kernel)
theorem win_X5_fault : Cond.instanceMethod yX5_fault ∈ wU := mem_tab 664 (by decide +kernel) (by decide +kernel)
theorem wse_X5_fault : Cond.selects RX5 yX5_fault yX5_fault ∈ wU := mem_tab 665 (by decide +kernel) (by decide +kernel)
theorem wco_X5_fault : Cond.code yX5_fault cX5_fault 2 (some .int) ∈ wU := mem_tab 666 (by decide +kernel) (by decide +kernel)
theorem wl_X5_100 : Cond.methodLink RX5 100 yX5_readItem ∈ wU := mem_tab 667 (by decide +kernel) (by decide +kernel)
theorem win_X5_readItem : Cond.instanceMethod yX5_readItem ∈ wU := mem_tab 669 (by decide +kernel) (by decide +kernel)
theorem wco_X5_readItem : Cond.code yX5_readItem cX5_readItem 2 (some .boolean) ∈ wU := mem_tab 670 (by decide +kernel) (by decide +kernel)
theorem wl_X5_76 : Cond.methodLink RX5 76 yX5_letterAt ∈ wU := mem_tab 671 (by decide +kernel) (by decide +kernel)
theorem win_X5_letterAt : Cond.instanceMethod yX5_letterAt ∈ wU := mem_tab 673 (by decide +kernel) (by decide +kernel)
theorem wco_X5_letterAt : Cond.code yX5_letterAt cX5_letterAt 2 (some .int) ∈ wU := mem_tab 674 (by decide +kernel) (by decide +kernel)
theorem wl_X5_90 : Cond.methodLink RX5 90 yX5_readPersonOf ∈ wU := mem_tab 675 (by decide +kernel) (by decide +kernel)
theorem win_X5_readPersonOf : Cond.instanceMethod yX5_readPersonOf ∈ wU := mem_tab 677 (by decide +kernel) (by decide +kernel)
theorem wco_X5_readPersonOf : Cond.code yX5_readPersonOf cX5_readPersonOf 1 (some .boolean) ∈ wU := mem_tab 678 (by decide +kernel) (by decide +kernel)
theorem wl_X5_84 : Cond.methodLink RX5 84 yX5_readNumbers ∈ wU := mem_tab 679 (by decide +kernel) (by decide +kernel)
theorem win_X5_readNumbers : Cond.instanceMethod yX5_readNumbers ∈ wU := mem_tab 681 (by decide +kernel) (by decide +kernel)
theorem wco_X5_readNumbers : Cond.code yX5_readNumbers cX5_readNumbers 3 (some .boolean) ∈ wU := mem_tab 682 (by decide +kernel) (by decide +kernel)
theorem wl_X5_80 : Cond.methodLink RX5 80 yX5_isFigure ∈ wU := mem_tab 683 (by decide +kernel) (by decide +kernel)
theorem wst_X5_isFigure : Cond.static yX5_isFigure ∈ wU := mem_tab 684 (by decide +kernel) (by decide +kernel)
theorem wco_X5_isFigure : Cond.code yX5_isFigure cX5_isFigure 1 (some .boolean) ∈ wU := mem_tab 685 (by decide +kernel) (by decide +kernel)
theorem wl_X5_87 : Cond.methodLink RX5 87 yX5_isTold ∈ wU := mem_tab 686 (by decide +kernel) (by decide +kernel)
theorem win_X5_isTold : Cond.instanceMethod yX5_isTold ∈ wU := mem_tab 688 (by decide +kernel) (by decide +kernel)
theorem wco_X5_isTold : Cond.code yX5_isTold cX5_isTold 4 (some .boolean) ∈ wU := mem_tab 689 (by decide +kernel) (by decide +kernel)
theorem wl_X5_94 : Cond.methodLink RX5 94 yX5_readViewOf ∈ wU := mem_tab 690 (by decide +kernel) (by decide +kernel)
theorem win_X5_readViewOf : Cond.instanceMethod yX5_readViewOf ∈ wU := mem_tab 692 (by decide +kernel) (by decide +kernel)
theorem wco_X5_readViewOf : Cond.code yX5_readViewOf cX5_readViewOf 1 (some .boolean) ∈ wU := mem_tab 693 (by decide +kernel) (by decide +kernel)
theorem wl_X5_97 : Cond.methodLink RX5 97 yX5_readPapersOf ∈ wU := mem_tab 694 (by decide +kernel) (by decide +kernel)
theorem win_X5_readPapersOf : Cond.instanceMethod yX5_readPapersOf ∈ wU := mem_tab 696 (by decide +kernel) (by decide +kernel)
theorem wco_X5_readPapersOf : Cond.code yX5_readPapersOf cX5_readPapersOf 2 (some .boolean) ∈ wU := mem_tab 697 (by decide +kernel) (by decide +kernel)
theorem wl_L_30 : Cond.methodLink RL 30 yX5_lay ∈ wU := mem_tab 698 (by decide +kernel) (by decide +kernel)
theorem win_X5_lay : Cond.instanceMethod yX5_lay ∈ wU := mem_tab 699 (by decide +kernel) (by decide +kernel)
theorem wse_X5_lay : Cond.selects RX5 yX5_lay yX5_lay ∈ wU := mem_tab 700 (by decide +kernel) (by decide +kernel)
theorem wco_X5_lay : Cond.code yX5_lay cX5_lay 2 (some .int) ∈ wU := mem_tab 701 (by decide +kernel) (by decide +kernel)
theorem wl_X5_103 : Cond.methodLink RX5 103 yX5_fault ∈ wU := mem_tab 702 (by decide +kernel) (by decide +kernel)
theorem wl_L_35 : Cond.methodLink RL 35 yX5_person ∈ wU := mem_tab 703 (by decide +kernel) (by decide +kernel)
theorem win_X5_person : Cond.instanceMethod yX5_person ∈ wU := mem_tab 704 (by decide +kernel) (by decide +kernel)
theorem wse_X5_person : Cond.selects RX5 yX5_person yX5_person ∈ wU := mem_tab 705 (by decide +kernel) (by decide +kernel)
theorem wco_X5_person : Cond.code yX5_person cX5_person 3 (some .int) ∈ wU := mem_tab 706 (by decide +kernel) (by decide +kernel)
theorem wl_X5_131 : Cond.methodLink RX5 131 yX5_isPerson ∈ wU := mem_tab 707 (by decide +kernel) (by decide +kernel)
theorem win_X5_isPerson : Cond.instanceMethod yX5_isPerson ∈ wU := mem_tab 709 (by decide +kernel) (by decide +kernel)
theorem wco_X5_isPerson : Cond.code yX5_isPerson cX5_isPerson 2 (some .boolean) ∈ wU := mem_tab 710 (by decide +kernel) (by decide +kernel)
theorem wl_L_39 : Cond.methodLink RL 39 yX5_view ∈ wU := mem_tab 711 (by decide +kernel) (by decide +kernel)
theorem win_X5_view : Cond.instanceMethod yX5_view ∈ wU := mem_tab 712 (by decide +kernel) (by decide +kernel)
theorem wse_X5_view : Cond.selects RX5 yX5_view yX5_view ∈ wU := mem_tab 713 (by decide +kernel) (by decide +kernel)
theorem wco_X5_view : Cond.code yX5_view cX5_view 3 (some .int) ∈ wU := mem_tab 714 (by decide +kernel) (by decide +kernel)
theorem wl_X5_134 : Cond.methodLink RX5 134 yX5_isTheme ∈ wU := mem_tab 715 (by decide +kernel) (by decide +kernel)
theorem wst_X5_isTheme : Cond.static yX5_isTheme ∈ wU := mem_tab 716 (by decide +kernel) (by decide +kernel)
theorem wco_X5_isTheme : Cond.code yX5_isTheme cX5_isTheme 1 (some .boolean) ∈ wU := mem_tab 717 (by decide +kernel) (by decide +kernel)
theorem wl_L_43 : Cond.methodLink RL 43 yX5_line ∈ wU := mem_tab 718 (by decide +kernel) (by decide +kernel)
theorem win_X5_line : Cond.instanceMethod yX5_line ∈ wU := mem_tab 719 (by decide +kernel) (by decide +kernel)
theorem wse_X5_line : Cond.selects RX5 yX5_line yX5_line ∈ wU := mem_tab 720 (by decide +kernel) (by decide +kernel)
theorem wco_X5_line : Cond.code yX5_line cX5_line 3 (some .int) ∈ wU := mem_tab 721 (by decide +kernel) (by decide +kernel)
theorem wl_X5_137 : Cond.methodLink RX5 137 yX5_isPaper ∈ wU := mem_tab 722 (by decide +kernel) (by decide +kernel)
theorem win_X5_isPaper : Cond.instanceMethod yX5_isPaper ∈ wU := mem_tab 724 (by decide +kernel) (by decide +kernel)
theorem wco_X5_isPaper : Cond.code yX5_isPaper cX5_isPaper 2 (some .boolean) ∈ wU := mem_tab 725 (by decide +kernel) (by decide +kernel)
theorem wl_X5_140 : Cond.methodLink RX5 140 yX5_says ∈ wU := mem_tab 726 (by decide +kernel) (by decide +kernel)
theorem wst_X5_says : Cond.static yX5_says ∈ wU := mem_tab 727 (by decide +kernel) (by decide +kernel)
theorem wco_X5_says : Cond.code yX5_says cX5_says 1 (some .int) ∈ wU := mem_tab 728 (by decide +kernel) (by decide +kernel)
theorem wl_L_48 : Cond.methodLink RL 48 yX5_would ∈ wU := mem_tab 729 (by decide +kernel) (by decide +kernel)
theorem win_X5_would : Cond.instanceMethod yX5_would ∈ wU := mem_tab 730 (by decide +kernel) (by decide +kernel)
theorem wse_X5_would : Cond.selects RX5 yX5_would yX5_would ∈ wU := mem_tab 731 (by decide +kernel) (by decide +kernel)
theorem wco_X5_would : Cond.code yX5_would cX5_would 4 (some .int) ∈ wU := mem_tab 732 (by decide +kernel) (by decide +kernel)
theorem wl_X5_143 : Cond.methodLink RX5 143 yX5_asItIs ∈ wU := mem_tab 733 (by decide +kernel) (by decide +kernel)
theorem win_X5_asItIs : Cond.instanceMethod yX5_asItIs ∈ wU := mem_tab 735 (by decide +kernel) (by decide +kernel)
theorem wco_X5_asItIs : Cond.code yX5_asItIs cX5_asItIs 1 none ∈ wU := mem_tab 736 (by decide +kernel) (by decide +kernel)
theorem wl_X5_146 : Cond.methodLink RX5 146 yX5_writes ∈ wU := mem_tab 737 (by decide +kernel) (by decide +kernel)
theorem win_X5_writes : Cond.instanceMethod yX5_writes ∈ wU := mem_tab 739 (by decide +kernel) (by decide +kernel)
theorem wco_X5_writes : Cond.code yX5_writes cX5_writes 7 (some .int) ∈ wU := mem_tab 740 (by decide +kernel) (by decide +kernel)
theorem wl_X5_120 : Cond.methodLink RX5 120 yX5_viewOf ∈ wU := mem_tab 741 (by decide +kernel) (by decide +kernel)
theorem win_X5_viewOf : Cond.instanceMethod yX5_viewOf ∈ wU := mem_tab 743 (by decide +kernel) (by decide +kernel)
theorem wco_X5_viewOf : Cond.code yX5_viewOf cX5_viewOf 3 (some .int) ∈ wU := mem_tab 744 (by decide +kernel) (by decide +kernel)
theorem wl_L_53 : Cond.methodLink RL 53 yX5_set ∈ wU := mem_tab 745 (by decide +kernel) (by decide +kernel)
theorem win_X5_set : Cond.instanceMethod yX5_set ∈ wU := mem_tab 746 (by decide +kernel) (by decide +kernel)
theorem wse_X5_set : Cond.selects RX5 yX5_set yX5_set ∈ wU := mem_tab 747 (by decide +kernel) (by decide +kernel)
theorem wco_X5_set : Cond.code yX5_set cX5_set 6 (some .int) ∈ wU := mem_tab 748 (by decide +kernel) (by decide +kernel)
theorem wl_X5_150 : Cond.methodLink RX5 150 yX5_remembers ∈ wU := mem_tab 749 (by decide +kernel) (by decide +kernel)
theorem win_X5_remembers : Cond.instanceMethod yX5_remembers ∈ wU := mem_tab 751 (by decide +kernel) (by decide +kernel)
theorem wco_X5_remembers : Cond.code yX5_remembers cX5_remembers 2 none ∈ wU := mem_tab 752 (by decide +kernel) (by decide +kernel)
theorem wl_L_57 : Cond.methodLink RL 57 yX5_erase ∈ wU := mem_tab 753 (by decide +kernel) (by decide +kernel)
theorem win_X5_erase : Cond.instanceMethod yX5_erase ∈ wU := mem_tab 754 (by decide +kernel) (by decide +kernel)
theorem wse_X5_erase : Cond.selects RX5 yX5_erase yX5_erase ∈ wU := mem_tab 755 (by decide +kernel) (by decide +kernel)
theorem wco_X5_erase : Cond.code yX5_erase cX5_erase 5 (some .int) ∈ wU := mem_tab 756 (by decide +kernel) (by decide +kernel)
theorem wl_L_61 : Cond.methodLink RL 61 yX5_copy ∈ wU := mem_tab 757 (by decide +kernel) (by decide +kernel)
theorem win_X5_copy : Cond.instanceMethod yX5_copy ∈ wU := mem_tab 758 (by decide +kernel) (by decide +kernel)
theorem wse_X5_copy : Cond.selects RX5 yX5_copy yX5_copy ∈ wU := mem_tab 759 (by decide +kernel) (by decide +kernel)
theorem wco_X5_copy : Cond.code yX5_copy cX5_copy 4 (some .int) ∈ wU := mem_tab 760 (by decide +kernel) (by decide +kernel)
theorem wl_X5_153 : Cond.methodLink RX5 153 yX5_copying ∈ wU := mem_tab 761 (by decide +kernel) (by decide +kernel)
theorem win_X5_copying : Cond.instanceMethod yX5_copying ∈ wU := mem_tab 763 (by decide +kernel) (by decide +kernel)
theorem wco_X5_copying : Cond.code yX5_copying cX5_copying 6 none ∈ wU := mem_tab 764 (by decide +kernel) (by decide +kernel)
theorem wl_X5_128 : Cond.methodLink RX5 128 yX5_copied ∈ wU := mem_tab 765 (by decide +kernel) (by decide +kernel)
theorem win_X5_copied : Cond.instanceMethod yX5_copied ∈ wU := mem_tab 767 (by decide +kernel) (by decide +kernel)
theorem wco_X5_copied : Cond.code yX5_copied cX5_copied 5 (some .int) ∈ wU := mem_tab 768 (by decide +kernel) (by decide +kernel)
theorem wl_X5_124 : Cond.methodLink RX5 124 yX5_toward ∈ wU := mem_tab 769 (by decide +kernel) (by decide +kernel)
theorem win_X5_toward : Cond.instanceMethod yX5_toward ∈ wU := mem_tab 771 (by decide +kernel) (by decide +kernel)
theorem wco_X5_toward : Cond.code yX5_toward cX5_toward 6 (some .int) ∈ wU := mem_tab 772 (by decide +kernel) (by decide +kernel)
theorem wl_X5_157 : Cond.methodLink RX5 157 yX5_filled ∈ wU := mem_tab 773 (by decide +kernel) (by decide +kernel)
theorem win_X5_filled : Cond.instanceMethod yX5_filled ∈ wU := mem_tab 775 (by decide +kernel) (by decide +kernel)
theorem wco_X5_filled : Cond.code yX5_filled cX5_filled 4 (some .int) ∈ wU := mem_tab 776 (by decide +kernel) (by decide +kernel)
theorem wl_L_65 : Cond.methodLink RL 65 yX5_think ∈ wU := mem_tab 777 (by decide +kernel) (by decide +kernel)
theorem win_X5_think : Cond.instanceMethod yX5_think ∈ wU := mem_tab 778 (by decide +kernel) (by decide +kernel)
theorem wse_X5_think : Cond.selects RX5 yX5_think yX5_think ∈ wU := mem_tab 779 (by decide +kernel) (by decide +kernel)
theorem wco_X5_think : Cond.code yX5_think cX5_think 5 (some .int) ∈ wU := mem_tab 780 (by decide +kernel) (by decide +kernel)
theorem wl_L_69 : Cond.methodLink RL 69 yX5_mind ∈ wU := mem_tab 781 (by decide +kernel) (by decide +kernel)
theorem win_X5_mind : Cond.instanceMethod yX5_mind ∈ wU := mem_tab 782 (by decide +kernel) (by decide +kernel)
theorem wse_X5_mind : Cond.selects RX5 yX5_mind yX5_mind ∈ wU := mem_tab 783 (by decide +kernel) (by decide +kernel)
theorem wco_X5_mind : Cond.code yX5_mind cX5_mind 4 (some .int) ∈ wU := mem_tab 784 (by decide +kernel) (by decide +kernel)
theorem wl_L_73 : Cond.methodLink RL 73 yX5_undo ∈ wU := mem_tab 785 (by decide +kernel) (by decide +kernel)
theorem win_X5_undo : Cond.instanceMethod yX5_undo ∈ wU := mem_tab 786 (by decide +kernel) (by decide +kernel)
theorem wse_X5_undo : Cond.selects RX5 yX5_undo yX5_undo ∈ wU := mem_tab 787 (by decide +kernel) (by decide +kernel)
theorem wco_X5_undo : Cond.code yX5_undo cX5_undo 1 (some .int) ∈ wU := mem_tab 788 (by decide +kernel) (by decide +kernel)
theorem wl_L_77 : Cond.methodLink RL 77 yX5_own ∈ wU := mem_tab 789 (by decide +kernel) (by decide +kernel)
theorem win_X5_own : Cond.instanceMethod yX5_own ∈ wU := mem_tab 790 (by decide +kernel) (by decide +kernel)
theorem wse_X5_own : Cond.selects RX5 yX5_own yX5_own ∈ wU := mem_tab 791 (by decide +kernel) (by decide +kernel)
theorem wco_X5_own : Cond.code yX5_own cX5_own 3 (some .int) ∈ wU := mem_tab 792 (by decide +kernel) (by decide +kernel)
theorem wl_X5_160 : Cond.methodLink RX5 160 yX5_ownOf ∈ wU := mem_tab 793 (by decide +kernel) (by decide +kernel)
theorem win_X5_ownOf : Cond.instanceMethod yX5_ownOf ∈ wU := mem_tab 795 (by decide +kernel) (by decide +kernel)
theorem wco_X5_ownOf : Cond.code yX5_ownOf cX5_ownOf 5 (some .int) ∈ wU := mem_tab 796 (by decide +kernel) (by decide +kernel)
theorem wl_L_81 : Cond.methodLink RL 81 yX5_tears ∈ wU := mem_tab 797 (by decide +kernel) (by decide +kernel)
theorem win_X5_tears : Cond.instanceMethod yX5_tears ∈ wU := mem_tab 798 (by decide +kernel) (by decide +kernel)
theorem wse_X5_tears : Cond.selects RX5 yX5_tears yX5_tears ∈ wU := mem_tab 799 (by decide +kernel) (by decide +kernel)
theorem wco_X5_tears : Cond.code yX5_tears cX5_tears 5 (some .int) ∈ wU := mem_tab 800 (by decide +kernel) (by decide +kernel)
theorem wl_L_85 : Cond.methodLink RL 85 yX5_whom ∈ wU := mem_tab 801 (by decide +kernel) (by decide +kernel)
theorem win_X5_whom : Cond.instanceMethod yX5_whom ∈ wU := mem_tab 802 (by decide +kernel) (by decide +kernel)
theorem wse_X5_whom : Cond.selects RX5 yX5_whom yX5_whom ∈ wU := mem_tab 803 (by decide +kernel) (by decide +kernel)
theorem wco_X5_whom : Cond.code yX5_whom cX5_whom 5 (some .int) ∈ wU := mem_tab 804 (by decide +kernel) (by decide +kernel)
theorem wl_L_89 : Cond.methodLink RL 89 yX5_treaty ∈ wU := mem_tab 805 (by decide +kernel) (by decide +kernel)
theorem win_X5_treaty : Cond.instanceMethod yX5_treaty ∈ wU := mem_tab 806 (by decide +kernel) (by decide +kernel)
theorem wse_X5_treaty : Cond.selects RX5 yX5_treaty yX5_treaty ∈ wU := mem_tab 807 (by decide +kernel) (by decide +kernel)
theorem wco_X5_treaty : Cond.code yX5_treaty cX5_treaty 6 (some .int) ∈ wU := mem_tab 808 (by decide +kernel) (by decide +kernel)
theorem wl_L_93 : Cond.methodLink RL 93 yX5_round ∈ wU := mem_tab 809 (by decide +kernel) (by decide +kernel)
theorem win_X5_round : Cond.instanceMethod yX5_round ∈ wU := mem_tab 810 (by decide +kernel) (by decide +kernel)
theorem wse_X5_round : Cond.selects RX5 yX5_round yX5_round ∈ wU := mem_tab 811 (by decide +kernel) (by decide +kernel)
theorem wco_X5_round : Cond.code yX5_round cX5_round 5 (some .int) ∈ wU := mem_tab 812 (by decide +kernel) (by decide +kernel)
theorem wl_L_97 : Cond.methodLink RL 97 yX5_again ∈ wU := mem_tab 813 (by decide +kernel) (by decide +kernel)
theorem win_X5_again : Cond.instanceMethod yX5_again ∈ wU := mem_tab 814 (by decide +kernel) (by decide +kernel)
theorem wse_X5_again : Cond.selects RX5 yX5_again yX5_again ∈ wU := mem_tab 815 (by decide +kernel) (by decide +kernel)
theorem wco_X5_again : Cond.code yX5_again cX5_again 7 (some .int) ∈ wU := mem_tab 816 (by decide +kernel) (by decide +kernel)
theorem wl_L_101 : Cond.methodLink RL 101 yX5_least ∈ wU := mem_tab 817 (by decide +kernel) (by decide +kernel)
theorem win_X5_least : Cond.instanceMethod yX5_least ∈ wU := mem_tab 818 (by decide +kernel) (by decide +kernel)
theorem wse_X5_least : Cond.selects RX5 yX5_least yX5_least ∈ wU := mem_tab 819 (by decide +kernel) (by decide +kernel)
theorem wco_X5_least : Cond.code yX5_least cX5_least 7 (some .int) ∈ wU := mem_tab 820 (by decide +kernel) (by decide +kernel)
theorem wl_L_105 : Cond.methodLink RL 105 yX5_sign ∈ wU := mem_tab 821 (by decide +kernel) (by decide +kernel)
theorem win_X5_sign : Cond.instanceMethod yX5_sign ∈ wU := mem_tab 822 (by decide +kernel) (by decide +kernel)
theorem wse_X5_sign : Cond.selects RX5 yX5_sign yX5_sign ∈ wU := mem_tab 823 (by decide +kernel) (by decide +kernel)
theorem wco_X5_sign : Cond.code yX5_sign cX5_sign 3 (some .int) ∈ wU := mem_tab 824 (by decide +kernel) (by decide +kernel)
theorem wl_L_109 : Cond.methodLink RL 109 yX5_forget ∈ wU := mem_tab 825 (by decide +kernel) (by decide +kernel)
theorem win_X5_forget : Cond.instanceMethod yX5_forget ∈ wU := mem_tab 826 (by decide +kernel) (by decide +kernel)
theorem wse_X5_forget : Cond.selects RX5 yX5_forget yX5_forget ∈ wU := mem_tab 827 (by decide +kernel) (by decide +kernel)
theorem wco_X5_forget : Cond.code yX5_forget cX5_forget 2 (some .int) ∈ wU := mem_tab 828 (by decide +kernel) (by decide +kernel)
theorem wl_L_113 : Cond.methodLink RL 113 yX5_who ∈ wU := mem_tab 829 (by decide +kernel) (by decide +kernel)
theorem win_X5_who : Cond.instanceMethod yX5_who ∈ wU := mem_tab 830 (by decide +kernel) (by decide +kernel)
theorem wse_X5_who : Cond.selects RX5 yX5_who yX5_who ∈ wU := mem_tab 831 (by decide +kernel) (by decide +kernel)
theorem wco_X5_who : Cond.code yX5_who cX5_who 8 (some .int) ∈ wU := mem_tab 832 (by decide +kernel) (by decide +kernel)
theorem wl_X5_163 : Cond.methodLink RX5 163 yX5_isWritten ∈ wU := mem_tab 833 (by decide +kernel) (by decide +kernel)
theorem win_X5_isWritten : Cond.instanceMethod yX5_isWritten ∈ wU := mem_tab 835 (by decide +kernel) (by decide +kernel)
theorem wco_X5_isWritten : Cond.code yX5_isWritten cX5_isWritten 6 (some .boolean) ∈ wU := mem_tab 836 (by decide +kernel) (by decide +kernel)
theorem wl_L_117 : Cond.methodLink RL 117 yX5_views ∈ wU := mem_tab 837 (by decide +kernel) (by decide +kernel)
theorem win_X5_views : Cond.instanceMethod yX5_views ∈ wU := mem_tab 838 (by decide +kernel) (by decide +kernel)
theorem wse_X5_views : Cond.selects RX5 yX5_views yX5_views ∈ wU := mem_tab 839 (by decide +kernel) (by decide +kernel)
theorem wco_X5_views : Cond.code yX5_views cX5_views 6 (some .int) ∈ wU := mem_tab 840 (by decide +kernel) (by decide +kernel)
theorem wl_L_122 : Cond.methodLink RL 122 yX5_drops ∈ wU := mem_tab 841 (by decide +kernel) (by decide +kernel)
theorem win_X5_drops : Cond.instanceMethod yX5_drops ∈ wU := mem_tab 842 (by decide +kernel) (by decide +kernel)
theorem wse_X5_drops : Cond.selects RX5 yX5_drops yX5_drops ∈ wU := mem_tab 843 (by decide +kernel) (by decide +kernel)
theorem wco_X5_drops : Cond.code yX5_drops cX5_drops 14 (some .long) ∈ wU := mem_tab 844 (by decide +kernel) (by decide +kernel)
theorem wk_X5_166 : Cond.constantLong RX5 166 (-1 : Int64) ∈ wU := mem_tab 845 (by decide +kernel) (by decide +kernel)
theorem wk_X5_168 : Cond.constantLong RX5 168 (10000000000 : Int64) ∈ wU := mem_tab 846 (by decide +kernel) (by decide +kernel)
theorem wl_L_126 : Cond.methodLink RL 126 yX5_weeks ∈ wU := mem_tab 847 (by decide +kernel) (by decide +kernel)
theorem win_X5_weeks : Cond.instanceMethod yX5_weeks ∈ wU := mem_tab 848 (by decide +kernel) (by decide +kernel)
theorem wse_X5_weeks : Cond.selects RX5 yX5_weeks yX5_weeks ∈ wU := mem_tab 849 (by decide +kernel) (by decide +kernel)
theorem wco_X5_weeks : Cond.code yX5_weeks cX5_weeks 10 (some .int) ∈ wU := mem_tab 850 (by decide +kernel) (by decide +kernel)
theorem wk_X5_170 : Cond.constantLong RX5 170 (7919 : Int64) ∈ wU := mem_tab 851 (by decide +kernel) (by decide +kernel)
theorem wk_X5_172 : Cond.constantLong RX5 172 (6151 : Int64) ∈ wU := mem_tab 852 (by decide +kernel) (by decide +kernel)
theorem wk_X5_174 : Cond.constantLong RX5 174 (65521 : Int64) ∈ wU := mem_tab 853 (by decide +kernel) (by decide +kernel)
theorem wk_X5_176 : Cond.constantLong RX5 176 (2 : Int64) ∈ wU := mem_tab 854 (by decide +kernel) (by decide +kernel)
theorem wl_L_130 : Cond.methodLink RL 130 yX5_keep ∈ wU := mem_tab 855 (by decide +kernel) (by decide +kernel)
theorem win_X5_keep : Cond.instanceMethod yX5_keep ∈ wU := mem_tab 856 (by decide +kernel) (by decide +kernel)
theorem wse_X5_keep : Cond.selects RX5 yX5_keep yX5_keep ∈ wU := mem_tab 857 (by decide +kernel) (by decide +kernel)
theorem wco_X5_keep : Cond.code yX5_keep cX5_keep 1 (some .int) ∈ wU := mem_tab 858 (by decide +kernel) (by decide +kernel)
theorem wl_L_134 : Cond.methodLink RL 134 yX5_back ∈ wU := mem_tab 859 (by decide +kernel) (by decide +kernel)
theorem win_X5_back : Cond.instanceMethod yX5_back ∈ wU := mem_tab 860 (by decide +kernel) (by decide +kernel)
theorem wse_X5_back : Cond.selects RX5 yX5_back yX5_back ∈ wU := mem_tab 861 (by decide +kernel) (by decide +kernel)
theorem wco_X5_back : Cond.code yX5_back cX5_back 1 (some .int) ∈ wU := mem_tab 862 (by decide +kernel) (by decide +kernel)
theorem wl_L_138 : Cond.methodLink RL 138 yX5_count ∈ wU := mem_tab 863 (by decide +kernel) (by decide +kernel)
theorem win_X5_count : Cond.instanceMethod yX5_count ∈ wU := mem_tab 864 (by decide +kernel) (by decide +kernel)
theorem wse_X5_count : Cond.selects RX5 yX5_count yX5_count ∈ wU := mem_tab 865 (by decide +kernel) (by decide +kernel)
theorem wco_X5_count : Cond.code yX5_count cX5_count 4 (some .int) ∈ wU := mem_tab 866 (by decide +kernel) (by decide +kernel)
theorem wf_J0_9 : Cond.fieldLink RJ0 9 "java/lang/String" "value" "[B" ∈ wU := mem_tab 867 (by decide +kernel) (by decide +kernel)
theorem wf_J0_15 : Cond.fieldLink RJ0 15 "java/lang/String" "coder" "B" ∈ wU := mem_tab 868 (by decide +kernel) (by decide +kernel)
theorem war_long : Cond.arrayClass .long ∈ wU := mem_tab 869 (by decide +kernel) (by decide +kernel)
theorem wse_X3_readNumbers : Cond.selects RX3 yX3_readNumbers yX3_readNumbers ∈ wU := mem_sel 0 (by decide +kernel) (by decide +kernel)
theorem wse_X3_figuresAt : Cond.selects RX3 yX3_figuresAt yX3_figuresAt ∈ wU := mem_sel 1 (by decide +kernel) (by decide +kernel)
theorem wse_X3_letterAt : Cond.selects RX3 yX3_letterAt yX3_letterAt ∈ wU := mem_sel 2 (by decide +kernel) (by decide +kernel)
theorem wse_X3_numberAt : Cond.selects RX3 yX3_numberAt yX3_numberAt ∈ wU := mem_sel 3 (by decide +kernel) (by decide +kernel)
theorem wse_X3_tellItem : Cond.selects RX3 yX3_tellItem yX3_tellItem ∈ wU := mem_sel 4 (by decide +kernel) (by decide +kernel)
theorem wse_X1_placeAbove : Cond.selects RX1 yX1_placeAbove yX1_placeAbove ∈ wU := mem_sel 5 (by decide +kernel) (by decide +kernel)
theorem wse_X4_firstSeen : Cond.selects RX4 yX4_firstSeen yX4_firstSeen ∈ wU := mem_sel 6 (by decide +kernel) (by decide +kernel)
theorem wse_X5_clearTold : Cond.selects RX5 yX5_clearTold yX5_clearTold ∈ wU := mem_sel 7 (by decide +kernel) (by decide +kernel)
theorem wse_X5_tellsPerson : Cond.selects RX5 yX5_tellsPerson yX5_tellsPerson ∈ wU := mem_sel 8 (by decide +kernel) (by decide +kernel)
theorem wse_X5_settles : Cond.selects RX5 yX5_settles yX5_settles ∈ wU := mem_sel 9 (by decide +kernel) (by decide +kernel)
theorem wse_X5_readItem : Cond.selects RX5 yX5_readItem yX5_readItem ∈ wU := mem_sel 10 (by decide +kernel) (by decide +kernel)
theorem wse_X5_letterAt : Cond.selects RX5 yX5_letterAt yX5_letterAt ∈ wU := mem_sel 11 (by decide +kernel) (by decide +kernel)
theorem wse_X5_readPersonOf : Cond.selects RX5 yX5_readPersonOf yX5_readPersonOf ∈ wU := mem_sel 12 (by decide +kernel) (by decide +kernel)
theorem wse_X5_readNumbers : Cond.selects RX5 yX5_readNumbers yX5_readNumbers ∈ wU := mem_sel 13 (by decide +kernel) (by decide +kernel)
theorem wse_X5_isTold : Cond.selects RX5 yX5_isTold yX5_isTold ∈ wU := mem_sel 14 (by decide +kernel) (by decide +kernel)
theorem wse_X5_readViewOf : Cond.selects RX5 yX5_readViewOf yX5_readViewOf ∈ wU := mem_sel 15 (by decide +kernel) (by decide +kernel)
theorem wse_X5_readPapersOf : Cond.selects RX5 yX5_readPapersOf yX5_readPapersOf ∈ wU := mem_sel 16 (by decide +kernel) (by decide +kernel)
theorem wse_X5_isPerson : Cond.selects RX5 yX5_isPerson yX5_isPerson ∈ wU := mem_sel 17 (by decide +kernel) (by decide +kernel)
theorem wse_X5_isPaper : Cond.selects RX5 yX5_isPaper yX5_isPaper ∈ wU := mem_sel 18 (by decide +kernel) (by decide +kernel)
theorem wse_X5_asItIs : Cond.selects RX5 yX5_asItIs yX5_asItIs ∈ wU := mem_sel 19 (by decide +kernel) (by decide +kernel)
theorem wse_X5_writes : Cond.selects RX5 yX5_writes yX5_writes ∈ wU := mem_sel 20 (by decide +kernel) (by decide +kernel)
theorem wse_X5_viewOf : Cond.selects RX5 yX5_viewOf yX5_viewOf ∈ wU := mem_sel 21 (by decide +kernel) (by decide +kernel)
theorem wse_X5_remembers : Cond.selects RX5 yX5_remembers yX5_remembers ∈ wU := mem_sel 22 (by decide +kernel) (by decide +kernel)
theorem wse_X5_copying : Cond.selects RX5 yX5_copying yX5_copying ∈ wU := mem_sel 23 (by decide +kernel) (by decide +kernel)
theorem wse_X5_copied : Cond.selects RX5 yX5_copied yX5_copied ∈ wU := mem_sel 24 (by decide +kernel) (by decide +kernel)
theorem wse_X5_toward : Cond.selects RX5 yX5_toward yX5_toward ∈ wU := mem_sel 25 (by decide +kernel) (by decide +kernel)
theorem wse_X5_filled : Cond.selects RX5 yX5_filled yX5_filled ∈ wU := mem_sel 26 (by decide +kernel) (by decide +kernel)
theorem wse_X5_ownOf : Cond.selects RX5 yX5_ownOf yX5_ownOf ∈ wU := mem_sel 27 (by decide +kernel) (by decide +kernel)
theorem wse_X5_isWritten : Cond.selects RX5 yX5_isWritten yX5_isWritten ∈ wU := mem_sel 28 (by decide +kernel) (by decide +kernel)
/-- the links to private methods of a nest mate: own class, index, method, host -/
def xNest : List (String × Nat × MethodName × String) := [(RX3, 22, yX4_put, RX4), (RX3, 52, yX4_at, RX4), (RX0, 53, yX4_isUpTo, RX4), (RX0, 57, yX4_put, RX4), (RX0, 65, yX4_isTheme, RX4), (RX0, 76, yX4_at, RX4), (RX0, 90, yX4_inked, RX4), (RX1, 37, yX4_remainder, RX4), (RX0, 93, yX4_carried, RX4), (RX2, 22, yX4_put, RX4), (RX2, 26, yX4_at, RX4)]
theorem xNest_tbl : ∀ q ∈ xNest, Cond.methodLinkNest q.1 q.2.1 q.2.2.1 q.2.2.2 ∈ lw_tbl := by
  intro q hq
  simp only [xNest, List.mem_cons, List.not_mem_nil, or_false] at hq
  rcases hq with rfl | rfl | rfl | rfl | rfl | rfl | rfl | rfl | rfl | rfl | rfl
  · exact mem_tbl 159 (by decide +kernel)
  · exact mem_tbl 185 (by decide +kernel)
  · exact mem_tbl 203 (by decide +kernel)
  · exact mem_tbl 206 (by decide +kernel)
  · exact mem_tbl 215 (by decide +kernel)
  · exact mem_tbl 281 (by decide +kernel)
  · exact mem_tbl 356 (by decide +kernel)
  · exact mem_tbl 374 (by decide +kernel)
  · exact mem_tbl 399 (by decide +kernel)
  · exact mem_tbl 501 (by decide +kernel)
  · exact mem_tbl 514 (by decide +kernel)
theorem wn_X3_22 : (RX3, 22, yX4_put, RX4) ∈ xNest := List.mem_of_getElem? (i := 0) rfl
theorem wn_X3_52 : (RX3, 52, yX4_at, RX4) ∈ xNest := List.mem_of_getElem? (i := 1) rfl
theorem wn_X0_53 : (RX0, 53, yX4_isUpTo, RX4) ∈ xNest := List.mem_of_getElem? (i := 2) rfl
theorem wn_X0_57 : (RX0, 57, yX4_put, RX4) ∈ xNest := List.mem_of_getElem? (i := 3) rfl
theorem wn_X0_65 : (RX0, 65, yX4_isTheme, RX4) ∈ xNest := List.mem_of_getElem? (i := 4) rfl
theorem wn_X0_76 : (RX0, 76, yX4_at, RX4) ∈ xNest := List.mem_of_getElem? (i := 5) rfl
theorem wn_X0_90 : (RX0, 90, yX4_inked, RX4) ∈ xNest := List.mem_of_getElem? (i := 6) rfl
theorem wn_X1_37 : (RX1, 37, yX4_remainder, RX4) ∈ xNest := List.mem_of_getElem? (i := 7) rfl
theorem wn_X0_93 : (RX0, 93, yX4_carried, RX4) ∈ xNest := List.mem_of_getElem? (i := 8) rfl
theorem wn_X2_22 : (RX2, 22, yX4_put, RX4) ∈ xNest := List.mem_of_getElem? (i := 9) rfl
theorem wn_X2_26 : (RX2, 26, yX4_at, RX4) ∈ xNest := List.mem_of_getElem? (i := 10) rfl
theorem wu_X0 : ∀ w ∈ u_ws RX0 TX0 6, w ∈ wU := by decide +kernel
theorem wu_X1 : ∀ w ∈ u_ws RX1 TX1 3, w ∈ wU := by decide +kernel
theorem wu_X2 : ∀ w ∈ u_ws RX2 TX2 3, w ∈ wU := by decide +kernel
theorem wu_X3 : ∀ w ∈ u_ws RX3 TX3 4, w ∈ wU := by decide +kernel
theorem wu_X4 : ∀ w ∈ u_ws RX4 TX4 7, w ∈ wU := by decide +kernel
theorem wu_X5 : ∀ w ∈ u_ws RX5 TX5 20, w ∈ wU := by decide +kernel
end
section
/-- an int that tells a Bool -/
def bI (b : Bool) : Int32 := if b then 1 else 0
theorem bI_0 (b : Bool) : bI b = 0 ↔ b = false := by cases b <;> decide
theorem bI_n0 (b : Bool) : ¬ bI b = 0 ↔ b = true := by cases b <;> decide
theorem bI_narrow (b : Bool) : narrow .boolean (.int (bI b)) = .int (bI b) := by cases b <;> rfl
theorem arrV_congr {cA : ClassId} {n : Nat} {f g : Nat → Int32} (h : ∀ j, j < n → g j = f j) : arrV cA n (fun j => .int (g j)) = arrV cA n (fun j => .int (f j)) := by
  unfold arrV
  congr 1
  apply Array.ext
  · simp
  · intro i h1 h2
    simp at h1
    simp [h i (by simpa using h1)]
/-! ===== contracts and rows with heap, locals' array and written places hidden ===== -/
abbrev xG : Type := va_G × ClassId × ClassId
abbrev xTY (G : xG) : List (ClassId × FieldType) := [(G.2.1, .int), (G.2.2, .object RX0)]
abbrev xL : Type := List (Nat × Value)
/-- what stays, of a launch: classes, arrays, links to nest mates -/
def xK (G : xG) (U : State) : Prop := va_K G.1 vwCl (xTY G) U ∧ ∀ q ∈ xNest, va_Nw (.methodLinkNest q.1 q.2.1 q.2.2.1 q.2.2.2) U
theorem xK.call {G : xG} {U : State} {g : JFrame} {mk : MethodId} {a : Array Value} (h : xK G U) : xK G (U.calling g mk a) :=
  ⟨va_K.moved (u := U) (U := U.calling g mk a) (Vm.Alike.refl U.vm) h.1, fun q hq => va_Nw.same (u := U) (U := U.calling g mk a) rfl rfl (h.2 q hq)⟩
theorem xK.warm {G : xG} {s U : State} (hW : s.WarmedH U.vm) (h : xK G s) : xK G U := ⟨va_K.moved hW.alike h.1, fun q hq => va_Nw.warmM hW (h.2 q hq)⟩
/-- what a method wants beside (statics, constant texts): of an area that may be written, and a state -/
abbrev xE : Type := (Nat → Prop) → State → Prop
def xEok (E : xE) : Prop := (∀ (A : Nat → Prop) (U : State) (g : JFrame) (mk : MethodId) (a : Array Value), E A U → E A (U.calling g mk a)) ∧
  ∀ (A A1 : Nat → Prop) (s U : State), s.WarmedH U.vm → (∀ q : Nat, q < s.heap.size → ¬ A q → U.heap[q]? = s.heap[q]?) → (∀ q, A1 q → A q) → E A s → E A1 U
def xE0 : xE := fun _ _ => True
theorem xE0_ok : xEok xE0 := ⟨fun _ _ _ _ _ _ => trivial, fun _ _ _ _ _ _ _ _ => trivial⟩
def xQ (r : Option Value) (B : State → Prop) (A : Nat → Prop) : Array Value → State → Outcome → State → Prop := fun _ st oc t => (oc = .returned r ∧ B t) ∧ va_F A st t
abbrev xRm (fr lo mc ms : Nat) : Room := { frames := fr, cells := mc, slots := ms, locals := lo }
/-- what an answer must be for a return type -/
def xOK (ret : Option FieldType) : Option Value → Prop
  | none => ret = none
  | some (.int i) => ∃ ty, ret = some ty ∧ narrow ty (.int i) = .int i
  | some (.long _) => ret = some .long
  | some (.ref _) => ∃ n, ret = some (.object n)
  | some .null => ∃ n, ret = some (.object n)
  | _ => False
/-- A CONTRACT: arguments av, world w; it answers r, in a world of which Fin holds -/
def xM (l : Launch) (G : xG) (E : xE) (y : MethodName) (cc : ByteArray) (n : Nat) (ret : Option FieldType) (fr lo mc ms : Nat) (av : List Value) (w : va_W) (r : Option Value) (Fin : va_W → Prop) : Prop :=
  ∀ sz : Nat, Met l y (.code y cc n ret :: wU) (xRm fr lo mc ms) (va_Pc av (fun U => U.heap.size = sz ∧ va_P G.1 vwCl w U.heap ∧ xK G U ∧ va_D (fun _ => True) w ∧ E (va_A w sz) U))
    (xQ r (fun t => ∃ w1, Fin w1 ∧ va_P G.1 vwCl w1 t.heap ∧ va_D (va_A w sz) w1) (va_A w sz)) mc ms (va_A w sz)
abbrev xKt : Type := va_W → Nat → Nat → Nat → xL → List Value → Prop
/-- the walk's judgement: heap, places written and the locals' array are hidden -/
def xW (p : Program) (l : Launch) (e : Env) (R : Room) (s : State) (m : MethodId) (args : Array Value) (below : List Frame) (meth : Method) (c : Code) (Q : State → Prop) (G : xG) (A : Nat → Prop) (nL : Nat) : xKt := fun ws k z pc lv st =>
  ∀ (H : Heap) (locs : List Loc) (ls : Array Slot), va_P G.1 vwCl ws H → va_D A ws → va_S A s.heap H locs → lv_has ls nL lv → W p l e R s m args below meth c H locs k z Q (F0 m pc ls st)
/-- the opcode that gives an answer back -/
def xRetOp (cc : ByteArray) (pc : Nat) : Option Value → Prop
  | none => decode cc pc = .ok (.return_, 1)
  | some (.int _) => decode cc pc = .ok (.ireturn, 1)
  | some (.long _) => decode cc pc = .ok (.lreturn, 1)
  | some (.ref _) => decode cc pc = .ok (.areturn, 1)
  | some .null => decode cc pc = .ok (.areturn, 1)
  | _ => False
/-- where a walk stands: its method, what stays, and when it may end (Z) -/
def xR (l : Launch) (G : xG) (E : xE) (own nm : String) (cc : ByteArray) (nL : Nat) (R : Room) (Z : Option Value → va_W → Nat → Nat → Prop) (K : xKt) : Prop :=
  ∃ (p : Program) (e : Env) (s : State) (m : MethodId) (args : Array Value) (below : List Frame) (meth : Method) (c : Code) (Q : State → Prop) (A : Nat → Prop),
    p.tables.exec = Jvm.exec ∧ c.code = cc ∧ c.maxLocals = nL ∧ s.vm.findClass own = some m.cls ∧ (∀ w ∈ wU, w.before args s = true) ∧ xK G s ∧ E A s ∧ (∀ q, s.heap.size ≤ q → A q) ∧ meth.name = nm ∧
    K = xW p l e R s m args below meth c Q G A nL ∧
    ∀ (v : Option Value) (ws : va_W) (k z pc : Nat) (lv : xL), Z v ws k z → xRetOp cc pc v → K ws k z pc lv v.toList
def xZ (r : Option Value) (Fin : va_W → Prop) (mc ms : Nat) : Option Value → va_W → Nat → Nat → Prop := fun v ws k z => v = r ∧ Fin ws ∧ k ≤ mc ∧ z ≤ ms
set_option maxHeartbeats 4000000 in
theorem x_entry {l : Launch} {G : xG} {E : xE} {y : MethodName} {cc : ByteArray} {n : Nat} {ret : Option FieldType} {fr lo mc ms : Nat} {av : List Value} {w : va_W} {r : Option Value} {Fin : va_W → Prop} {lv : xL}
    (hy : plainName y.cls = true) (hlen : (lg_sl av).length ≤ n) (hlv : lv_args 0 av = lv) (hret : xOK ret r)
    (body : ∀ K : xKt, xR l G E y.cls y.name cc n (xRm fr lo mc ms) (xZ r Fin mc ms) K → K w 0 0 0 lv []) : xM l G E y cc n ret fr lo mc ms av w r Fin := by
  intro sz
  refine Met.ofW (cc := cc) (maxL := n) (ret := ret) hy rfl ?_
  intro p e s m args below meth c s₁ B hml hv
  obtain ⟨rfl, hsz, hP, hK, hD0, hE⟩ := hv
  have hts := atoms_spec (ws := .code y cc n ret :: wU) B.pre
  have hown : s.vm.findClass y.cls = some m.cls := findClass_of_methodNamed B.named
  subst hsz
  have hD := hD0.self (sz := s.heap.size)
  have hA : ∀ q : Nat, s.heap.size ≤ q → va_A w s.heap.size q := fun q h => Or.inr h
  have hl := lv_entry av (n := n) hlen
  rw [lg_entry_eq]
  have hr := B.returns
  have hlocks := B.notSynchronized
  have hb := B.bytes
  have hx := B.exec
  refine body (xW p l e (xRm fr lo mc ms) s m av.toArray below meth c (MQ below (xQ r (fun t => ∃ w1, Fin w1 ∧ va_P G.1 vwCl w1 t.heap ∧ va_D (va_A w s.heap.size) w1) (va_A w s.heap.size)) av.toArray s mc ms (va_A w s.heap.size)) G (va_A w s.heap.size) n)
    ⟨p, e, s, m, av.toArray, below, meth, c, _, va_A w s.heap.size, hx, hb, hml, hown, fun w hw => hts w (List.mem_cons_of_mem _ hw), hK, hE, hA, (name_of_methodNamed B.named B.method).1, rfl, ?_⟩ s.heap [] _ hP hD va_S.rf (hlv ▸ hl)
  intro v ws k z pc lv' hZ hop H locs ls hP1 hD1 hS1 hl1
  obtain ⟨rfl, hF, hk, hz⟩ := hZ
  refine W.widen (k := mc) (n := ms) hk hz ?_
  have hq : ∀ t : State, t.heap = H → s.WarmedH t.vm → xQ v (fun t => ∃ w1, Fin w1 ∧ va_P G.1 vwCl w1 t.heap ∧ va_D (va_A w s.heap.size) w1) (va_A w s.heap.size) av.toArray s (.returned v) t :=
    fun t ht hW => ⟨⟨rfl, ws, hF, by rw [ht]; exact hP1, hD1⟩, hS1.F ht⟩
  match v, hret, hop, hq with
  | none, hret, hop, hq => exact W.vret hx hb (by rw [hr]; exact hret) hq hS1.2.2 hop
  | some (.int i), hret, hop, hq =>
    obtain ⟨ty, h1, h2⟩ := hret
    exact W.zret hx hb (by rw [hr]; exact h1) h2 hq hS1.2.2 hop
  | some (.long i), hret, hop, hq => exact W.lret hx hb (by rw [hr]; exact hret) hq hS1.2.2 hop
  | some (.ref i), hret, hop, hq =>
    obtain ⟨nn, h1⟩ := hret
    exact W.aret hx hb (by rw [hr]; exact h1) (Or.inl ⟨nn, rfl⟩) (Or.inr ⟨i, rfl⟩) hq hS1.2.2 hop
  | some .null, hret, hop, hq =>
    obtain ⟨nn, h1⟩ := hret
    exact W.aret hx hb (by rw [hr]; exact h1) (Or.inl ⟨nn, rfl⟩) (Or.inl rfl) hq hS1.2.2 hop
section XR
variable {l : Launch} {G : xG} {E : xE} {own nm : String} {cc : ByteArray} {nL : Nat} {R : Room} {Z : Option Value → va_W → Nat → Nat → Prop} {K : xKt} {ws : va_W} {k z pc : Nat} {lv : xL} {st : List Value}

theorem x_iconst {n : Int} {v : Int32} (X : xR l G E own nm cc nL R Z K) (hdg : decode cc pc = .ok (.iconst n, 1)) (hv : Int32.ofInt n = v) (kk : K ws k z (pc + 1) lv (.int v :: st)) : K ws k z pc lv (st) := by
  obtain ⟨p, e, s, m, args, below, meth, c, Q, A, hx, hb, hml, hown, hts, hK, hE, hA, hnm, rfl, hZ⟩ := X
  intro H locs ls hP hD hS hl
  exact lv_iconst hx hb hdg hv (kk H locs ls hP hD hS hl)

theorem x_bipush {n : Int} {v : Int32} (X : xR l G E own nm cc nL R Z K) (hdg : decode cc pc = .ok (.bipush n, 2)) (hv : (Int8.ofInt n).toInt32 = v) (kk : K ws k z (pc + 2) lv (.int v :: st)) : K ws k z pc lv (st) := by
  obtain ⟨p, e, s, m, args, below, meth, c, Q, A, hx, hb, hml, hown, hts, hK, hE, hA, hnm, rfl, hZ⟩ := X
  intro H locs ls hP hD hS hl
  exact lv_bipush hx hb hdg hv (kk H locs ls hP hD hS hl)

theorem x_sipush {n : Int} {v : Int32} (X : xR l G E own nm cc nL R Z K) (hdg : decode cc pc = .ok (.sipush n, 3)) (hv : (Int16.ofInt n).toInt32 = v) (kk : K ws k z (pc + 3) lv (.int v :: st)) : K ws k z pc lv (st) := by
  obtain ⟨p, e, s, m, args, below, meth, c, Q, A, hx, hb, hml, hown, hts, hK, hE, hA, hnm, rfl, hZ⟩ := X
  intro H locs ls hP hD hS hl
  exact lv_sipush hx hb hdg hv (kk H locs ls hP hD hS hl)

theorem x_lconst {n : Fin 2} {v : Int64} (X : xR l G E own nm cc nL R Z K) (hdg : decode cc pc = .ok (.lconst n, 1)) (hv : Int64.ofNat (n : Nat) = v) (kk : K ws k z (pc + 1) lv (.long v :: st)) : K ws k z pc lv (st) := by
  obtain ⟨p, e, s, m, args, below, meth, c, Q, A, hx, hb, hml, hown, hts, hK, hE, hA, hnm, rfl, hZ⟩ := X
  intro H locs ls hP hD hS hl
  exact lv_lconst hx hb hdg hv (kk H locs ls hP hD hS hl)

theorem x_null  (X : xR l G E own nm cc nL R Z K) (hdg : decode cc pc = .ok (.aconst_null, 1)) (kk : K ws k z (pc + 1) lv (.null :: st)) : K ws k z pc lv (st) := by
  obtain ⟨p, e, s, m, args, below, meth, c, Q, A, hx, hb, hml, hown, hts, hK, hE, hA, hnm, rfl, hZ⟩ := X
  intro H locs ls hP hD hS hl
  exact lv_null hx hb hdg (kk H locs ls hP hD hS hl)

theorem x_ldc {index : Nat} {v : Int32} (X : xR l G E own nm cc nL R Z K) (hc : Cond.constant own index v ∈ wU) (hdg : decode cc pc = .ok (.ldc index, 2)) (kk : K ws k z (pc + 2) lv (.int v :: st)) : K ws k z pc lv (st) := by
  obtain ⟨p, e, s, m, args, below, meth, c, Q, A, hx, hb, hml, hown, hts, hK, hE, hA, hnm, rfl, hZ⟩ := X
  intro H locs ls hP hD hS hl
  exact lv_ldc hx hb hown (hts _ hc) hdg (kk H locs ls hP hD hS hl)

theorem x_ldcw {index : Nat} {v : Int32} (X : xR l G E own nm cc nL R Z K) (hc : Cond.constant own index v ∈ wU) (hdg : decode cc pc = .ok (.ldc_w index, 3)) (kk : K ws k z (pc + 3) lv (.int v :: st)) : K ws k z pc lv (st) := by
  obtain ⟨p, e, s, m, args, below, meth, c, Q, A, hx, hb, hml, hown, hts, hK, hE, hA, hnm, rfl, hZ⟩ := X
  intro H locs ls hP hD hS hl
  exact lv_ldcw hx hb hown (hts _ hc) hdg (kk H locs ls hP hD hS hl)

theorem x_ldc2 {index : Nat} {v : Int64} (X : xR l G E own nm cc nL R Z K) (hc : Cond.constantLong own index v ∈ wU) (hdg : decode cc pc = .ok (.ldc2_w index, 3)) (kk : K ws k z (pc + 3) lv (.long v :: st)) : K ws k z pc lv (st) := by
  obtain ⟨p, e, s, m, args, below, meth, c, Q, A, hx, hb, hml, hown, hts, hK, hE, hA, hnm, rfl, hZ⟩ := X
  intro H locs ls hP hD hS hl
  exact lv_ldc2 hx hb hown (hts _ hc) hdg (kk H locs ls hP hD hS hl)

theorem x_iloadn {k0 : Fin 4} {x : Int32} (X : xR l G E own nm cc nL R Z K) (hdg : decode cc pc = .ok (.iload_n k0, 1)) (j : Nat) (hj : lv[j]? = some ((k0 : Nat), .int x)) (kk : K ws k z (pc + 1) lv (.int x :: st)) : K ws k z pc lv (st) := by
  obtain ⟨p, e, s, m, args, below, meth, c, Q, A, hx, hb, hml, hown, hts, hK, hE, hA, hnm, rfl, hZ⟩ := X
  intro H locs ls hP hD hS hl
  exact lv_iload_n hx hb hdg rfl (lv_at hl j hj) (kk H locs ls hP hD hS hl)

theorem x_iload {i : Nat} {x : Int32} (X : xR l G E own nm cc nL R Z K) (hdg : decode cc pc = .ok (.iload i, 2)) (j : Nat) (hj : lv[j]? = some (i, .int x)) (kk : K ws k z (pc + 2) lv (.int x :: st)) : K ws k z pc lv (st) := by
  obtain ⟨p, e, s, m, args, below, meth, c, Q, A, hx, hb, hml, hown, hts, hK, hE, hA, hnm, rfl, hZ⟩ := X
  intro H locs ls hP hD hS hl
  exact lv_iload hx hb hdg (lv_at hl j hj) (kk H locs ls hP hD hS hl)

theorem x_istoren {k0 : Fin 4} {x : Int32} {lv' : xL} (X : xR l G E own nm cc nL R Z K) (hdg : decode cc pc = .ok (.istore_n k0, 1)) (hn : (k0 : Nat) < nL) (hl' : ((k0 : Nat), Value.int x) :: lv.filter (fun q => !(q.1 == (k0 : Nat)) && !(q.1 + 1 == (k0 : Nat) && q.2.category == 2)) = lv') (kk : K ws k z (pc + 1) lv' st) : K ws k z pc lv (.int x :: st) := by
  obtain ⟨p, e, s, m, args, below, meth, c, Q, A, hx, hb, hml, hown, hts, hK, hE, hA, hnm, rfl, hZ⟩ := X
  intro H locs ls hP hD hS hl
  exact lv_istore_n hx hb hdg rfl hl hn hl' (fun ls1 h1 => kk H locs ls1 hP hD hS h1)

theorem x_istore {i : Nat} {x : Int32} {lv' : xL} (X : xR l G E own nm cc nL R Z K) (hdg : decode cc pc = .ok (.istore i, 2)) (hn : i < nL) (hl' : (i, Value.int x) :: lv.filter (fun q => !(q.1 == i) && !(q.1 + 1 == i && q.2.category == 2)) = lv') (kk : K ws k z (pc + 2) lv' st) : K ws k z pc lv (.int x :: st) := by
  obtain ⟨p, e, s, m, args, below, meth, c, Q, A, hx, hb, hml, hown, hts, hK, hE, hA, hnm, rfl, hZ⟩ := X
  intro H locs ls hP hD hS hl
  exact lv_istore hx hb hdg hl hn hl' (fun ls1 h1 => kk H locs ls1 hP hD hS h1)

theorem x_lloadn {k0 : Fin 4} {x : Int64} (X : xR l G E own nm cc nL R Z K) (hdg : decode cc pc = .ok (.lload_n k0, 1)) (j : Nat) (hj : lv[j]? = some ((k0 : Nat), .long x)) (kk : K ws k z (pc + 1) lv (.long x :: st)) : K ws k z pc lv (st) := by
  obtain ⟨p, e, s, m, args, below, meth, c, Q, A, hx, hb, hml, hown, hts, hK, hE, hA, hnm, rfl, hZ⟩ := X
  intro H locs ls hP hD hS hl
  exact lv_lload_n hx hb hdg rfl (lv_at hl j hj) (kk H locs ls hP hD hS hl)

theorem x_lload {i : Nat} {x : Int64} (X : xR l G E own nm cc nL R Z K) (hdg : decode cc pc = .ok (.lload i, 2)) (j : Nat) (hj : lv[j]? = some (i, .long x)) (kk : K ws k z (pc + 2) lv (.long x :: st)) : K ws k z pc lv (st) := by
  obtain ⟨p, e, s, m, args, below, meth, c, Q, A, hx, hb, hml, hown, hts, hK, hE, hA, hnm, rfl, hZ⟩ := X
  intro H locs ls hP hD hS hl
  exact lv_lload hx hb hdg (lv_at hl j hj) (kk H locs ls hP hD hS hl)

theorem x_lstoren {k0 : Fin 4} {x : Int64} {lv' : xL} (X : xR l G E own nm cc nL R Z K) (hdg : decode cc pc = .ok (.lstore_n k0, 1)) (hn : (k0 : Nat) + 1 < nL) (hl' : ((k0 : Nat), Value.long x) :: lv.filter (fun q => !(q.1 == (k0 : Nat)) && (!(q.1 == (k0 : Nat) + 1) && !(q.1 + 1 == (k0 : Nat) && q.2.category == 2))) = lv') (kk : K ws k z (pc + 1) lv' st) : K ws k z pc lv (.long x :: st) := by
  obtain ⟨p, e, s, m, args, below, meth, c, Q, A, hx, hb, hml, hown, hts, hK, hE, hA, hnm, rfl, hZ⟩ := X
  intro H locs ls hP hD hS hl
  exact lv_lstore_n hx hb hdg rfl hl hn hl' (fun ls1 h1 => kk H locs ls1 hP hD hS h1)

theorem x_lstore {i : Nat} {x : Int64} {lv' : xL} (X : xR l G E own nm cc nL R Z K) (hdg : decode cc pc = .ok (.lstore i, 2)) (hn : i + 1 < nL) (hl' : (i, Value.long x) :: lv.filter (fun q => !(q.1 == i) && (!(q.1 == i + 1) && !(q.1 + 1 == i && q.2.category == 2))) = lv') (kk : K ws k z (pc + 2) lv' st) : K ws k z pc lv (.long x :: st) := by
  obtain ⟨p, e, s, m, args, below, meth, c, Q, A, hx, hb, hml, hown, hts, hK, hE, hA, hnm, rfl, hZ⟩ := X
  intro H locs ls hP hD hS hl
  exact lv_lstore hx hb hdg hl hn hl' (fun ls1 h1 => kk H locs ls1 hP hD hS h1)

theorem x_aloadn {k0 : Fin 4} {x : Nat} (X : xR l G E own nm cc nL R Z K) (hdg : decode cc pc = .ok (.aload_n k0, 1)) (j : Nat) (hj : lv[j]? = some ((k0 : Nat), .ref x)) (kk : K ws k z (pc + 1) lv (.ref x :: st)) : K ws k z pc lv (st) := by
  obtain ⟨p, e, s, m, args, below, meth, c, Q, A, hx, hb, hml, hown, hts, hK, hE, hA, hnm, rfl, hZ⟩ := X
  intro H locs ls hP hD hS hl
  exact lv_aload_n hx hb hdg rfl (lv_at hl j hj) (kk H locs ls hP hD hS hl)

theorem x_aload {i : Nat} {x : Nat} (X : xR l G E own nm cc nL R Z K) (hdg : decode cc pc = .ok (.aload i, 2)) (j : Nat) (hj : lv[j]? = some (i, .ref x)) (kk : K ws k z (pc + 2) lv (.ref x :: st)) : K ws k z pc lv (st) := by
  obtain ⟨p, e, s, m, args, below, meth, c, Q, A, hx, hb, hml, hown, hts, hK, hE, hA, hnm, rfl, hZ⟩ := X
  intro H locs ls hP hD hS hl
  exact lv_aload hx hb hdg (lv_at hl j hj) (kk H locs ls hP hD hS hl)

theorem x_astoren {k0 : Fin 4} {x : Nat} {lv' : xL} (X : xR l G E own nm cc nL R Z K) (hdg : decode cc pc = .ok (.astore_n k0, 1)) (hn : (k0 : Nat) < nL) (hl' : ((k0 : Nat), Value.ref x) :: lv.filter (fun q => !(q.1 == (k0 : Nat)) && !(q.1 + 1 == (k0 : Nat) && q.2.category == 2)) = lv') (kk : K ws k z (pc + 1) lv' st) : K ws k z pc lv (.ref x :: st) := by
  obtain ⟨p, e, s, m, args, below, meth, c, Q, A, hx, hb, hml, hown, hts, hK, hE, hA, hnm, rfl, hZ⟩ := X
  intro H locs ls hP hD hS hl
  exact lv_astore_n hx hb hdg rfl hl hn hl' (fun ls1 h1 => kk H locs ls1 hP hD hS h1)

theorem x_astore {i : Nat} {x : Nat} {lv' : xL} (X : xR l G E own nm cc nL R Z K) (hdg : decode cc pc = .ok (.astore i, 2)) (hn : i < nL) (hl' : (i, Value.ref x) :: lv.filter (fun q => !(q.1 == i) && !(q.1 + 1 == i && q.2.category == 2)) = lv') (kk : K ws k z (pc + 2) lv' st) : K ws k z pc lv (.ref x :: st) := by
  obtain ⟨p, e, s, m, args, below, meth, c, Q, A, hx, hb, hml, hown, hts, hK, hE, hA, hnm, rfl, hZ⟩ := X
  intro H locs ls hP hD hS hl
  exact lv_astore hx hb hdg hl hn hl' (fun ls1 h1 => kk H locs ls1 hP hD hS h1)

theorem x_iinc {i : Nat} {n : Int} {x v : Int32} {lv' : xL} (X : xR l G E own nm cc nL R Z K) (hdg : decode cc pc = .ok (.iinc i n, 3)) (j : Nat) (hj : lv[j]? = some (i, .int x)) (hv : x + Int32.ofInt n = v) (hn : i < nL) (hl' : (i, Value.int v) :: lv.filter (fun q => !(q.1 == i) && !(q.1 + 1 == i && q.2.category == 2)) = lv') (kk : K ws k z (pc + 3) lv' st) : K ws k z pc lv st := by
  obtain ⟨p, e, s, m, args, below, meth, c, Q, A, hx, hb, hml, hown, hts, hK, hE, hA, hnm, rfl, hZ⟩ := X
  intro H locs ls hP hD hS hl
  exact lv_iinc hx hb hdg hl hj hv hn hl' (fun ls1 h1 => kk H locs ls1 hP hD hS h1)

theorem x_iadd {x y v : Int32} (X : xR l G E own nm cc nL R Z K) (hdg : decode cc pc = .ok (.iadd, 1)) (hv : x + y = v) (kk : K ws k z (pc + 1) lv (.int v :: st)) : K ws k z pc lv (.int y :: .int x :: st) := by
  obtain ⟨p, e, s, m, args, below, meth, c, Q, A, hx, hb, hml, hown, hts, hK, hE, hA, hnm, rfl, hZ⟩ := X
  intro H locs ls hP hD hS hl
  exact lv_iadd hx hb hdg (hv ▸ (kk H locs ls hP hD hS hl))

theorem x_isub {x y v : Int32} (X : xR l G E own nm cc nL R Z K) (hdg : decode cc pc = .ok (.isub, 1)) (hv : x - y = v) (kk : K ws k z (pc + 1) lv (.int v :: st)) : K ws k z pc lv (.int y :: .int x :: st) := by
  obtain ⟨p, e, s, m, args, below, meth, c, Q, A, hx, hb, hml, hown, hts, hK, hE, hA, hnm, rfl, hZ⟩ := X
  intro H locs ls hP hD hS hl
  exact lv_isub hx hb hdg (hv ▸ (kk H locs ls hP hD hS hl))

theorem x_imul {x y v : Int32} (X : xR l G E own nm cc nL R Z K) (hdg : decode cc pc = .ok (.imul, 1)) (hv : x * y = v) (kk : K ws k z (pc + 1) lv (.int v :: st)) : K ws k z pc lv (.int y :: .int x :: st) := by
  obtain ⟨p, e, s, m, args, below, meth, c, Q, A, hx, hb, hml, hown, hts, hK, hE, hA, hnm, rfl, hZ⟩ := X
  intro H locs ls hP hD hS hl
  exact lv_imul hx hb hdg (hv ▸ (kk H locs ls hP hD hS hl))

theorem x_iand {x y v : Int32} (X : xR l G E own nm cc nL R Z K) (hdg : decode cc pc = .ok (.iand, 1)) (hv : x &&& y = v) (kk : K ws k z (pc + 1) lv (.int v :: st)) : K ws k z pc lv (.int y :: .int x :: st) := by
  obtain ⟨p, e, s, m, args, below, meth, c, Q, A, hx, hb, hml, hown, hts, hK, hE, hA, hnm, rfl, hZ⟩ := X
  intro H locs ls hP hD hS hl
  exact lv_iand hx hb hdg (hv ▸ (kk H locs ls hP hD hS hl))

theorem x_ior {x y v : Int32} (X : xR l G E own nm cc nL R Z K) (hdg : decode cc pc = .ok (.ior, 1)) (hv : x ||| y = v) (kk : K ws k z (pc + 1) lv (.int v :: st)) : K ws k z pc lv (.int y :: .int x :: st) := by
  obtain ⟨p, e, s, m, args, below, meth, c, Q, A, hx, hb, hml, hown, hts, hK, hE, hA, hnm, rfl, hZ⟩ := X
  intro H locs ls hP hD hS hl
  exact lv_ior hx hb hdg (hv ▸ (kk H locs ls hP hD hS hl))

theorem x_ixor {x y v : Int32} (X : xR l G E own nm cc nL R Z K) (hdg : decode cc pc = .ok (.ixor, 1)) (hv : x ^^^ y = v) (kk : K ws k z (pc + 1) lv (.int v :: st)) : K ws k z pc lv (.int y :: .int x :: st) := by
  obtain ⟨p, e, s, m, args, below, meth, c, Q, A, hx, hb, hml, hown, hts, hK, hE, hA, hnm, rfl, hZ⟩ := X
  intro H locs ls hP hD hS hl
  exact lv_ixor hx hb hdg (hv ▸ (kk H locs ls hP hD hS hl))

theorem x_idiv {x y v : Int32} (X : xR l G E own nm cc nL R Z K) (hdg : decode cc pc = .ok (.idiv, 1)) (hne : ¬ y = 0) (hv : x / y = v) (kk : K ws k z (pc + 1) lv (.int v :: st)) : K ws k z pc lv (.int y :: .int x :: st) := by
  obtain ⟨p, e, s, m, args, below, meth, c, Q, A, hx, hb, hml, hown, hts, hK, hE, hA, hnm, rfl, hZ⟩ := X
  intro H locs ls hP hD hS hl
  exact lv_idiv hx hb hdg hne (hv ▸ (kk H locs ls hP hD hS hl))

theorem x_irem {x y v : Int32} (X : xR l G E own nm cc nL R Z K) (hdg : decode cc pc = .ok (.irem, 1)) (hne : ¬ y = 0) (hv : x - x / y * y = v) (kk : K ws k z (pc + 1) lv (.int v :: st)) : K ws k z pc lv (.int y :: .int x :: st) := by
  obtain ⟨p, e, s, m, args, below, meth, c, Q, A, hx, hb, hml, hown, hts, hK, hE, hA, hnm, rfl, hZ⟩ := X
  intro H locs ls hP hD hS hl
  exact lv_irem hx hb hdg hne (hv ▸ (kk H locs ls hP hD hS hl))

theorem x_ladd {x y v : Int64} (X : xR l G E own nm cc nL R Z K) (hdg : decode cc pc = .ok (.ladd, 1)) (hv : x + y = v) (kk : K ws k z (pc + 1) lv (.long v :: st)) : K ws k z pc lv (.long y :: .long x :: st) := by
  obtain ⟨p, e, s, m, args, below, meth, c, Q, A, hx, hb, hml, hown, hts, hK, hE, hA, hnm, rfl, hZ⟩ := X
  intro H locs ls hP hD hS hl
  exact lv_ladd hx hb hdg (hv ▸ (kk H locs ls hP hD hS hl))

theorem x_lsub {x y v : Int64} (X : xR l G E own nm cc nL R Z K) (hdg : decode cc pc = .ok (.lsub, 1)) (hv : x - y = v) (kk : K ws k z (pc + 1) lv (.long v :: st)) : K ws k z pc lv (.long y :: .long x :: st) := by
  obtain ⟨p, e, s, m, args, below, meth, c, Q, A, hx, hb, hml, hown, hts, hK, hE, hA, hnm, rfl, hZ⟩ := X
  intro H locs ls hP hD hS hl
  exact lv_lsub hx hb hdg (hv ▸ (kk H locs ls hP hD hS hl))

theorem x_lmul {x y v : Int64} (X : xR l G E own nm cc nL R Z K) (hdg : decode cc pc = .ok (.lmul, 1)) (hv : x * y = v) (kk : K ws k z (pc + 1) lv (.long v :: st)) : K ws k z pc lv (.long y :: .long x :: st) := by
  obtain ⟨p, e, s, m, args, below, meth, c, Q, A, hx, hb, hml, hown, hts, hK, hE, hA, hnm, rfl, hZ⟩ := X
  intro H locs ls hP hD hS hl
  exact lv_lmul hx hb hdg (hv ▸ (kk H locs ls hP hD hS hl))

theorem x_ldiv {x y v : Int64} (X : xR l G E own nm cc nL R Z K) (hdg : decode cc pc = .ok (.ldiv, 1)) (hne : ¬ y = 0) (hv : x / y = v) (kk : K ws k z (pc + 1) lv (.long v :: st)) : K ws k z pc lv (.long y :: .long x :: st) := by
  obtain ⟨p, e, s, m, args, below, meth, c, Q, A, hx, hb, hml, hown, hts, hK, hE, hA, hnm, rfl, hZ⟩ := X
  intro H locs ls hP hD hS hl
  exact lv_ldiv hx hb hdg hne (hv ▸ (kk H locs ls hP hD hS hl))

theorem x_lrem {x y v : Int64} (X : xR l G E own nm cc nL R Z K) (hdg : decode cc pc = .ok (.lrem, 1)) (hne : ¬ y = 0) (hv : x - x / y * y = v) (kk : K ws k z (pc + 1) lv (.long v :: st)) : K ws k z pc lv (.long y :: .long x :: st) := by
  obtain ⟨p, e, s, m, args, below, meth, c, Q, A, hx, hb, hml, hown, hts, hK, hE, hA, hnm, rfl, hZ⟩ := X
  intro H locs ls hP hD hS hl
  exact lv_lrem hx hb hdg hne (hv ▸ (kk H locs ls hP hD hS hl))

theorem x_ineg {x v : Int32} (X : xR l G E own nm cc nL R Z K) (hdg : decode cc pc = .ok (.ineg, 1)) (hv : -x = v) (kk : K ws k z (pc + 1) lv (.int v :: st)) : K ws k z pc lv (.int x :: st) := by
  obtain ⟨p, e, s, m, args, below, meth, c, Q, A, hx, hb, hml, hown, hts, hK, hE, hA, hnm, rfl, hZ⟩ := X
  intro H locs ls hP hD hS hl
  exact lv_ineg hx hb hdg (hv ▸ (kk H locs ls hP hD hS hl))

theorem x_i2l {x : Int32} {v : Int64} (X : xR l G E own nm cc nL R Z K) (hdg : decode cc pc = .ok (.i2l, 1)) (hv : x.toInt64 = v) (kk : K ws k z (pc + 1) lv (.long v :: st)) : K ws k z pc lv (.int x :: st) := by
  obtain ⟨p, e, s, m, args, below, meth, c, Q, A, hx, hb, hml, hown, hts, hK, hE, hA, hnm, rfl, hZ⟩ := X
  intro H locs ls hP hD hS hl
  exact lv_i2l hx hb hdg hv (kk H locs ls hP hD hS hl)

theorem x_l2i {x : Int64} {v : Int32} (X : xR l G E own nm cc nL R Z K) (hdg : decode cc pc = .ok (.l2i, 1)) (hv : x.toInt32 = v) (kk : K ws k z (pc + 1) lv (.int v :: st)) : K ws k z pc lv (.long x :: st) := by
  obtain ⟨p, e, s, m, args, below, meth, c, Q, A, hx, hb, hml, hown, hts, hK, hE, hA, hnm, rfl, hZ⟩ := X
  intro H locs ls hP hD hS hl
  exact lv_l2i hx hb hdg hv (kk H locs ls hP hD hS hl)

theorem x_iushr {x y v : Int32} (X : xR l G E own nm cc nL R Z K) (hdg : decode cc pc = .ok (.iushr, 1)) (hv : (x.toUInt32 >>> (y.toUInt32 &&& Int32.toUInt32 31)).toInt32 = v) (kk : K ws k z (pc + 1) lv (.int v :: st)) : K ws k z pc lv (.int y :: .int x :: st) := by
  obtain ⟨p, e, s, m, args, below, meth, c, Q, A, hx, hb, hml, hown, hts, hK, hE, hA, hnm, rfl, hZ⟩ := X
  intro H locs ls hP hD hS hl
  exact lv_iushr hx hb hdg hv (kk H locs ls hP hD hS hl)

theorem x_lcmp {x y : Int64} (X : xR l G E own nm cc nL R Z K) (hdg : decode cc pc = .ok (.lcmp, 1)) (kk : K ws k z (pc + 1) lv (.int (lg_cmp x y) :: st)) : K ws k z pc lv (.long y :: .long x :: st) := by
  obtain ⟨p, e, s, m, args, below, meth, c, Q, A, hx, hb, hml, hown, hts, hK, hE, hA, hnm, rfl, hZ⟩ := X
  intro H locs ls hP hD hS hl
  exact W.lcmp hx hb hdg (kk H locs ls hP hD hS hl)

theorem x_dup {va : Value} (X : xR l G E own nm cc nL R Z K) (hdg : decode cc pc = .ok (.dup, 1)) (hva : va.category = 1) (kk : K ws k z (pc + 1) lv (va :: va :: st)) : K ws k z pc lv (va :: st) := by
  obtain ⟨p, e, s, m, args, below, meth, c, Q, A, hx, hb, hml, hown, hts, hK, hE, hA, hnm, rfl, hZ⟩ := X
  intro H locs ls hP hD hS hl
  exact lv_dup hx hb hdg hva (kk H locs ls hP hD hS hl)

theorem x_pop {va : Value} (X : xR l G E own nm cc nL R Z K) (hdg : decode cc pc = .ok (.pop, 1)) (hva : va.category = 1) (kk : K ws k z (pc + 1) lv (st)) : K ws k z pc lv (va :: st) := by
  obtain ⟨p, e, s, m, args, below, meth, c, Q, A, hx, hb, hml, hown, hts, hK, hE, hA, hnm, rfl, hZ⟩ := X
  intro H locs ls hP hD hS hl
  exact lv_pop hx hb hdg hva (kk H locs ls hP hD hS hl)

theorem x_dup_x1 {va vb : Value} (X : xR l G E own nm cc nL R Z K) (hdg : decode cc pc = .ok (.dup_x1, 1)) (hva : va.category = 1) (hvb : vb.category = 1) (kk : K ws k z (pc + 1) lv (va :: vb :: va :: st)) : K ws k z pc lv (va :: vb :: st) := by
  obtain ⟨p, e, s, m, args, below, meth, c, Q, A, hx, hb, hml, hown, hts, hK, hE, hA, hnm, rfl, hZ⟩ := X
  intro H locs ls hP hD hS hl
  exact lv_dup_x1 hx hb hdg hva hvb (kk H locs ls hP hD hS hl)

theorem x_dup2 {va vb : Value} (X : xR l G E own nm cc nL R Z K) (hdg : decode cc pc = .ok (.dup2, 1)) (hva : va.category = 1) (hvb : vb.category = 1) (kk : K ws k z (pc + 1) lv (va :: vb :: va :: vb :: st)) : K ws k z pc lv (va :: vb :: st) := by
  obtain ⟨p, e, s, m, args, below, meth, c, Q, A, hx, hb, hml, hown, hts, hK, hE, hA, hnm, rfl, hZ⟩ := X
  intro H locs ls hP hD hS hl
  exact lv_dup2_11 hx hb hdg hva hvb (kk H locs ls hP hD hS hl)

theorem x_goto {off : Int} (tgt : Nat) (X : xR l G E own nm cc nL R Z K) (hdg : decode cc pc = .ok (.goto off, 3)) (ht : (pc : Int) + off = (tgt : Int)) (kk : K ws k z tgt lv st) : K ws k z pc lv st := by
  obtain ⟨p, e, s, m, args, below, meth, c, Q, A, hx, hb, hml, hown, hts, hK, hE, hA, hnm, rfl, hZ⟩ := X
  intro H locs ls hP hD hS hl
  exact lv_goto hx hb hdg ht (kk H locs ls hP hD hS hl)

theorem x_icmp_eq {x y : Int32} {off : Int} (tgt : Nat) (X : xR l G E own nm cc nL R Z K) (hdg : decode cc pc = .ok (.if_icmp .eq off, 3)) (ht : (pc : Int) + off = (tgt : Int)) (kt : x = y → K ws k z tgt lv st) (kf : ¬ x = y → K ws k z (pc + 3) lv st) : K ws k z pc lv (.int y :: .int x :: st) := by
  obtain ⟨p, e, s, m, args, below, meth, c, Q, A, hx, hb, hml, hown, hts, hK, hE, hA, hnm, rfl, hZ⟩ := X
  intro H locs ls hP hD hS hl
  exact lv_icmp_eq hx hb hdg ht (fun h => kt h H locs ls hP hD hS hl) (fun h => kf h H locs ls hP hD hS hl)

theorem x_if_eq {x : Int32} {off : Int} (tgt : Nat) (X : xR l G E own nm cc nL R Z K) (hdg : decode cc pc = .ok (.ifCond .eq off, 3)) (ht : (pc : Int) + off = (tgt : Int)) (kt : x = 0 → K ws k z tgt lv st) (kf : ¬ x = 0 → K ws k z (pc + 3) lv st) : K ws k z pc lv (.int x :: st) := by
  obtain ⟨p, e, s, m, args, below, meth, c, Q, A, hx, hb, hml, hown, hts, hK, hE, hA, hnm, rfl, hZ⟩ := X
  intro H locs ls hP hD hS hl
  exact lv_if_eq hx hb hdg ht (fun h => kt h H locs ls hP hD hS hl) (fun h => kf h H locs ls hP hD hS hl)

theorem x_icmp_eq_n {a b : Nat} {off : Int} (tgt : Nat) (X : xR l G E own nm cc nL R Z K) (hdg : decode cc pc = .ok (.if_icmp .eq off, 3)) (ht : (pc : Int) + off = (tgt : Int)) (ha : a < 2 ^ 31) (hb : b < 2 ^ 31) (kt : a = b → K ws k z tgt lv st) (kf : a ≠ b → K ws k z (pc + 3) lv st) : K ws k z pc lv (.int (nI b) :: .int (nI a) :: st) :=
  x_icmp_eq tgt X hdg ht (fun h => kt ((nI_eq ha hb).mp h)) (fun h => kf (fun q => h ((nI_eq ha hb).mpr q)))

theorem x_if_eq_n {a : Nat} {off : Int} (tgt : Nat) (X : xR l G E own nm cc nL R Z K) (hdg : decode cc pc = .ok (.ifCond .eq off, 3)) (ht : (pc : Int) + off = (tgt : Int)) (ha : a < 2 ^ 31) (kt : a = 0 → K ws k z tgt lv st) (kf : a ≠ 0 → K ws k z (pc + 3) lv st) : K ws k z pc lv (.int (nI a) :: st) := by
  have hb : (0 : Nat) < 2 ^ 31 := by decide
  refine x_if_eq tgt X hdg ht (fun h => kt ?_) (fun h => kf ?_)
  · rw [← nI_0] at h; exact (nI_eq ha hb).mp h
  · rw [← nI_0] at h; exact fun q => h ((nI_eq ha hb).mpr q)

theorem x_icmp_ne {x y : Int32} {off : Int} (tgt : Nat) (X : xR l G E own nm cc nL R Z K) (hdg : decode cc pc = .ok (.if_icmp .ne off, 3)) (ht : (pc : Int) + off = (tgt : Int)) (kt : ¬ x = y → K ws k z tgt lv st) (kf : x = y → K ws k z (pc + 3) lv st) : K ws k z pc lv (.int y :: .int x :: st) := by
  obtain ⟨p, e, s, m, args, below, meth, c, Q, A, hx, hb, hml, hown, hts, hK, hE, hA, hnm, rfl, hZ⟩ := X
  intro H locs ls hP hD hS hl
  exact lv_icmp_ne hx hb hdg ht (fun h => kt h H locs ls hP hD hS hl) (fun h => kf h H locs ls hP hD hS hl)

theorem x_if_ne {x : Int32} {off : Int} (tgt : Nat) (X : xR l G E own nm cc nL R Z K) (hdg : decode cc pc = .ok (.ifCond .ne off, 3)) (ht : (pc : Int) + off = (tgt : Int)) (kt : ¬ x = 0 → K ws k z tgt lv st) (kf : x = 0 → K ws k z (pc + 3) lv st) : K ws k z pc lv (.int x :: st) := by
  obtain ⟨p, e, s, m, args, below, meth, c, Q, A, hx, hb, hml, hown, hts, hK, hE, hA, hnm, rfl, hZ⟩ := X
  intro H locs ls hP hD hS hl
  exact lv_if_ne hx hb hdg ht (fun h => kt h H locs ls hP hD hS hl) (fun h => kf h H locs ls hP hD hS hl)

theorem x_icmp_ne_n {a b : Nat} {off : Int} (tgt : Nat) (X : xR l G E own nm cc nL R Z K) (hdg : decode cc pc = .ok (.if_icmp .ne off, 3)) (ht : (pc : Int) + off = (tgt : Int)) (ha : a < 2 ^ 31) (hb : b < 2 ^ 31) (kt : a ≠ b → K ws k z tgt lv st) (kf : a = b → K ws k z (pc + 3) lv st) : K ws k z pc lv (.int (nI b) :: .int (nI a) :: st) :=
  x_icmp_ne tgt X hdg ht (fun h => kt (fun q => h ((nI_eq ha hb).mpr q))) (fun h => kf ((nI_eq ha hb).mp h))

theorem x_if_ne_n {a : Nat} {off : Int} (tgt : Nat) (X : xR l G E own nm cc nL R Z K) (hdg : decode cc pc = .ok (.ifCond .ne off, 3)) (ht : (pc : Int) + off = (tgt : Int)) (ha : a < 2 ^ 31) (kt : a ≠ 0 → K ws k z tgt lv st) (kf : a = 0 → K ws k z (pc + 3) lv st) : K ws k z pc lv (.int (nI a) :: st) := by
  have hb : (0 : Nat) < 2 ^ 31 := by decide
  refine x_if_ne tgt X hdg ht (fun h => kt ?_) (fun h => kf ?_)
  · rw [← nI_0] at h; exact fun q => h ((nI_eq ha hb).mpr q)
  · rw [← nI_0] at h; exact (nI_eq ha hb).mp h

theorem x_icmp_lt {x y : Int32} {off : Int} (tgt : Nat) (X : xR l G E own nm cc nL R Z K) (hdg : decode cc pc = .ok (.if_icmp .lt off, 3)) (ht : (pc : Int) + off = (tgt : Int)) (kt : x < y → K ws k z tgt lv st) (kf : ¬ x < y → K ws k z (pc + 3) lv st) : K ws k z pc lv (.int y :: .int x :: st) := by
  obtain ⟨p, e, s, m, args, below, meth, c, Q, A, hx, hb, hml, hown, hts, hK, hE, hA, hnm, rfl, hZ⟩ := X
  intro H locs ls hP hD hS hl
  exact lv_icmp_lt hx hb hdg ht (fun h => kt h H locs ls hP hD hS hl) (fun h => kf h H locs ls hP hD hS hl)

theorem x_if_lt {x : Int32} {off : Int} (tgt : Nat) (X : xR l G E own nm cc nL R Z K) (hdg : decode cc pc = .ok (.ifCond .lt off, 3)) (ht : (pc : Int) + off = (tgt : Int)) (kt : x < 0 → K ws k z tgt lv st) (kf : ¬ x < 0 → K ws k z (pc + 3) lv st) : K ws k z pc lv (.int x :: st) := by
  obtain ⟨p, e, s, m, args, below, meth, c, Q, A, hx, hb, hml, hown, hts, hK, hE, hA, hnm, rfl, hZ⟩ := X
  intro H locs ls hP hD hS hl
  exact lv_if_lt hx hb hdg ht (fun h => kt h H locs ls hP hD hS hl) (fun h => kf h H locs ls hP hD hS hl)

theorem x_icmp_lt_n {a b : Nat} {off : Int} (tgt : Nat) (X : xR l G E own nm cc nL R Z K) (hdg : decode cc pc = .ok (.if_icmp .lt off, 3)) (ht : (pc : Int) + off = (tgt : Int)) (ha : a < 2 ^ 31) (hb : b < 2 ^ 31) (kt : a < b → K ws k z tgt lv st) (kf : b ≤ a → K ws k z (pc + 3) lv st) : K ws k z pc lv (.int (nI b) :: .int (nI a) :: st) :=
  x_icmp_lt tgt X hdg ht (fun h => kt ((nI_ltI ha hb).mp h)) (fun h => kf (Nat.not_lt.mp (fun q => h ((nI_ltI ha hb).mpr q))))

theorem x_if_lt_n {a : Nat} {off : Int} (tgt : Nat) (X : xR l G E own nm cc nL R Z K) (hdg : decode cc pc = .ok (.ifCond .lt off, 3)) (ht : (pc : Int) + off = (tgt : Int)) (ha : a < 2 ^ 31) (kt : a < 0 → K ws k z tgt lv st) (kf : 0 ≤ a → K ws k z (pc + 3) lv st) : K ws k z pc lv (.int (nI a) :: st) := by
  have hb : (0 : Nat) < 2 ^ 31 := by decide
  refine x_if_lt tgt X hdg ht (fun h => kt ?_) (fun h => kf ?_)
  · rw [← nI_0] at h; exact (nI_ltI ha hb).mp h
  · rw [← nI_0] at h; exact Nat.not_lt.mp (fun q => h ((nI_ltI ha hb).mpr q))

theorem x_icmp_ge {x y : Int32} {off : Int} (tgt : Nat) (X : xR l G E own nm cc nL R Z K) (hdg : decode cc pc = .ok (.if_icmp .ge off, 3)) (ht : (pc : Int) + off = (tgt : Int)) (kt : y ≤ x → K ws k z tgt lv st) (kf : ¬ y ≤ x → K ws k z (pc + 3) lv st) : K ws k z pc lv (.int y :: .int x :: st) := by
  obtain ⟨p, e, s, m, args, below, meth, c, Q, A, hx, hb, hml, hown, hts, hK, hE, hA, hnm, rfl, hZ⟩ := X
  intro H locs ls hP hD hS hl
  exact lv_icmp_ge hx hb hdg ht (fun h => kt h H locs ls hP hD hS hl) (fun h => kf h H locs ls hP hD hS hl)

theorem x_if_ge {x : Int32} {off : Int} (tgt : Nat) (X : xR l G E own nm cc nL R Z K) (hdg : decode cc pc = .ok (.ifCond .ge off, 3)) (ht : (pc : Int) + off = (tgt : Int)) (kt : 0 ≤ x → K ws k z tgt lv st) (kf : ¬ 0 ≤ x → K ws k z (pc + 3) lv st) : K ws k z pc lv (.int x :: st) := by
  obtain ⟨p, e, s, m, args, below, meth, c, Q, A, hx, hb, hml, hown, hts, hK, hE, hA, hnm, rfl, hZ⟩ := X
  intro H locs ls hP hD hS hl
  exact lv_if_ge hx hb hdg ht (fun h => kt h H locs ls hP hD hS hl) (fun h => kf h H locs ls hP hD hS hl)

theorem x_icmp_ge_n {a b : Nat} {off : Int} (tgt : Nat) (X : xR l G E own nm cc nL R Z K) (hdg : decode cc pc = .ok (.if_icmp .ge off, 3)) (ht : (pc : Int) + off = (tgt : Int)) (ha : a < 2 ^ 31) (hb : b < 2 ^ 31) (kt : b ≤ a → K ws k z tgt lv st) (kf : a < b → K ws k z (pc + 3) lv st) : K ws k z pc lv (.int (nI b) :: .int (nI a) :: st) :=
  x_icmp_ge tgt X hdg ht (fun h => kt ((nI_leI hb ha).mp h)) (fun h => kf (Nat.not_le.mp (fun q => h ((nI_leI hb ha).mpr q))))

theorem x_if_ge_n {a : Nat} {off : Int} (tgt : Nat) (X : xR l G E own nm cc nL R Z K) (hdg : decode cc pc = .ok (.ifCond .ge off, 3)) (ht : (pc : Int) + off = (tgt : Int)) (ha : a < 2 ^ 31) (kt : 0 ≤ a → K ws k z tgt lv st) (kf : a < 0 → K ws k z (pc + 3) lv st) : K ws k z pc lv (.int (nI a) :: st) := by
  have hb : (0 : Nat) < 2 ^ 31 := by decide
  refine x_if_ge tgt X hdg ht (fun h => kt ?_) (fun h => kf ?_)
  · rw [← nI_0] at h; exact (nI_leI hb ha).mp h
  · rw [← nI_0] at h; exact Nat.not_le.mp (fun q => h ((nI_leI hb ha).mpr q))

theorem x_icmp_gt {x y : Int32} {off : Int} (tgt : Nat) (X : xR l G E own nm cc nL R Z K) (hdg : decode cc pc = .ok (.if_icmp .gt off, 3)) (ht : (pc : Int) + off = (tgt : Int)) (kt : y < x → K ws k z tgt lv st) (kf : ¬ y < x → K ws k z (pc + 3) lv st) : K ws k z pc lv (.int y :: .int x :: st) := by
  obtain ⟨p, e, s, m, args, below, meth, c, Q, A, hx, hb, hml, hown, hts, hK, hE, hA, hnm, rfl, hZ⟩ := X
  intro H locs ls hP hD hS hl
  exact lv_icmp_gt hx hb hdg ht (fun h => kt h H locs ls hP hD hS hl) (fun h => kf h H locs ls hP hD hS hl)

theorem x_if_gt {x : Int32} {off : Int} (tgt : Nat) (X : xR l G E own nm cc nL R Z K) (hdg : decode cc pc = .ok (.ifCond .gt off, 3)) (ht : (pc : Int) + off = (tgt : Int)) (kt : 0 < x → K ws k z tgt lv st) (kf : ¬ 0 < x → K ws k z (pc + 3) lv st) : K ws k z pc lv (.int x :: st) := by
  obtain ⟨p, e, s, m, args, below, meth, c, Q, A, hx, hb, hml, hown, hts, hK, hE, hA, hnm, rfl, hZ⟩ := X
  intro H locs ls hP hD hS hl
  exact lv_if_gt hx hb hdg ht (fun h => kt h H locs ls hP hD hS hl) (fun h => kf h H locs ls hP hD hS hl)

theorem x_icmp_gt_n {a b : Nat} {off : Int} (tgt : Nat) (X : xR l G E own nm cc nL R Z K) (hdg : decode cc pc = .ok (.if_icmp .gt off, 3)) (ht : (pc : Int) + off = (tgt : Int)) (ha : a < 2 ^ 31) (hb : b < 2 ^ 31) (kt : b < a → K ws k z tgt lv st) (kf : a ≤ b → K ws k z (pc + 3) lv st) : K ws k z pc lv (.int (nI b) :: .int (nI a) :: st) :=
  x_icmp_gt tgt X hdg ht (fun h => kt ((nI_ltI hb ha).mp h)) (fun h => kf (Nat.not_lt.mp (fun q => h ((nI_ltI hb ha).mpr q))))

theorem x_if_gt_n {a : Nat} {off : Int} (tgt : Nat) (X : xR l G E own nm cc nL R Z K) (hdg : decode cc pc = .ok (.ifCond .gt off, 3)) (ht : (pc : Int) + off = (tgt : Int)) (ha : a < 2 ^ 31) (kt : 0 < a → K ws k z tgt lv st) (kf : a ≤ 0 → K ws k z (pc + 3) lv st) : K ws k z pc lv (.int (nI a) :: st) := by
  have hb : (0 : Nat) < 2 ^ 31 := by decide
  refine x_if_gt tgt X hdg ht (fun h => kt ?_) (fun h => kf ?_)
  · rw [← nI_0] at h; exact (nI_ltI hb ha).mp h
  · rw [← nI_0] at h; exact Nat.not_lt.mp (fun q => h ((nI_ltI hb ha).mpr q))

theorem x_icmp_le {x y : Int32} {off : Int} (tgt : Nat) (X : xR l G E own nm cc nL R Z K) (hdg : decode cc pc = .ok (.if_icmp .le off, 3)) (ht : (pc : Int) + off = (tgt : Int)) (kt : x ≤ y → K ws k z tgt lv st) (kf : ¬ x ≤ y → K ws k z (pc + 3) lv st) : K ws k z pc lv (.int y :: .int x :: st) := by
  obtain ⟨p, e, s, m, args, below, meth, c, Q, A, hx, hb, hml, hown, hts, hK, hE, hA, hnm, rfl, hZ⟩ := X
  intro H locs ls hP hD hS hl
  exact lv_icmp_le hx hb hdg ht (fun h => kt h H locs ls hP hD hS hl) (fun h => kf h H locs ls hP hD hS hl)

theorem x_if_le {x : Int32} {off : Int} (tgt : Nat) (X : xR l G E own nm cc nL R Z K) (hdg : decode cc pc = .ok (.ifCond .le off, 3)) (ht : (pc : Int) + off = (tgt : Int)) (kt : x ≤ 0 → K ws k z tgt lv st) (kf : ¬ x ≤ 0 → K ws k z (pc + 3) lv st) : K ws k z pc lv (.int x :: st) := by
  obtain ⟨p, e, s, m, args, below, meth, c, Q, A, hx, hb, hml, hown, hts, hK, hE, hA, hnm, rfl, hZ⟩ := X
  intro H locs ls hP hD hS hl
  exact lv_if_le hx hb hdg ht (fun h => kt h H locs ls hP hD hS hl) (fun h => kf h H locs ls hP hD hS hl)

theorem x_icmp_le_n {a b : Nat} {off : Int} (tgt : Nat) (X : xR l G E own nm cc nL R Z K) (hdg : decode cc pc = .ok (.if_icmp .le off, 3)) (ht : (pc : Int) + off = (tgt : Int)) (ha : a < 2 ^ 31) (hb : b < 2 ^ 31) (kt : a ≤ b → K ws k z tgt lv st) (kf : b < a → K ws k z (pc + 3) lv st) : K ws k z pc lv (.int (nI b) :: .int (nI a) :: st) :=
  x_icmp_le tgt X hdg ht (fun h => kt ((nI_leI ha hb).mp h)) (fun h => kf (Nat.not_le.mp (fun q => h ((nI_leI ha hb).mpr q))))

theorem x_if_le_n {a : Nat} {off : Int} (tgt : Nat) (X : xR l G E own nm cc nL R Z K) (hdg : decode cc pc = .ok (.ifCond .le off, 3)) (ht : (pc : Int) + off = (tgt : Int)) (ha : a < 2 ^ 31) (kt : a ≤ 0 → K ws k z tgt lv st) (kf : 0 < a → K ws k z (pc + 3) lv st) : K ws k z pc lv (.int (nI a) :: st) := by
  have hb : (0 : Nat) < 2 ^ 31 := by decide
  refine x_if_le tgt X hdg ht (fun h => kt ?_) (fun h => kf ?_)
  · rw [← nI_0] at h; exact (nI_leI ha hb).mp h
  · rw [← nI_0] at h; exact Nat.not_le.mp (fun q => h ((nI_leI ha hb).mpr q))

theorem x_ifeq_b {b : Bool} {off : Int} (tgt : Nat) (X : xR l G E own nm cc nL R Z K) (hdg : decode cc pc = .ok (.ifCond .eq off, 3)) (ht : (pc : Int) + off = (tgt : Int)) (kt : b = false → K ws k z tgt lv st) (kf : b = true → K ws k z (pc + 3) lv st) : K ws k z pc lv (.int (bI b) :: st) :=
  x_if_eq tgt X hdg ht (fun h => kt ((bI_0 b).mp h)) (fun h => kf ((bI_n0 b).mp h))
theorem x_ifne_b {b : Bool} {off : Int} (tgt : Nat) (X : xR l G E own nm cc nL R Z K) (hdg : decode cc pc = .ok (.ifCond .ne off, 3)) (ht : (pc : Int) + off = (tgt : Int)) (kt : b = true → K ws k z tgt lv st) (kf : b = false → K ws k z (pc + 3) lv st) : K ws k z pc lv (.int (bI b) :: st) :=
  x_if_ne tgt X hdg ht (fun h => kt ((bI_n0 b).mp h)) (fun h => kf ((bI_0 b).mp h))
theorem x_ifnonnull {x : Nat} {off : Int} (tgt : Nat) (X : xR l G E own nm cc nL R Z K) (hdg : decode cc pc = .ok (.ifnonnull off, 3)) (ht : (pc : Int) + off = (tgt : Int)) (kk : K ws k z tgt lv st) : K ws k z pc lv (.ref x :: st) := by
  obtain ⟨p, e, s, m, args, below, meth, c, Q, A, hx, hb, hml, hown, hts, hK, hE, hA, hnm, rfl, hZ⟩ := X
  intro H locs ls hP hD hS hl
  exact lv_ifnonnull hx hb hdg ht (kk H locs ls hP hD hS hl)

theorem x_lookup {dflt : Int} {ps : Array (Int × Int)} {len : Nat} {x : Int32} {off : Int} (tgt : Nat) (X : xR l G E own nm cc nL R Z K) (hdg : decode cc pc = .ok (.lookupswitch dflt ps, len)) (hp : (ps.toList.zip (ps.toList.drop 1)).all (fun (a, next) => a.1 < next.1) = true) (ho : Op.lookupswitch.offset ps.toList dflt x.toInt = off) (ht : (pc : Int) + off = (tgt : Int)) (kk : K ws k z tgt lv st) : K ws k z pc lv (.int x :: st) := by
  obtain ⟨p, e, s, m, args, below, meth, c, Q, A, hx, hb, hml, hown, hts, hK, hE, hA, hnm, rfl, hZ⟩ := X
  intro H locs ls hP hD hS hl
  exact lv_lookup hx hb hdg hp ho ht (kk H locs ls hP hD hS hl)

theorem x_tableOut {dflt lo hi : Int} {offs : Array Int} {len : Nat} {x : Int32} (tgt : Nat) (X : xR l G E own nm cc nL R Z K) (hdg : decode cc pc = .ok (.tableswitch dflt lo hi offs, len)) (h : x.toInt < lo ∨ hi < x.toInt) (ht : (pc : Int) + dflt = (tgt : Int)) (kk : K ws k z tgt lv st) : K ws k z pc lv (.int x :: st) := by
  obtain ⟨p, e, s, m, args, below, meth, c, Q, A, hx, hb, hml, hown, hts, hK, hE, hA, hnm, rfl, hZ⟩ := X
  intro H locs ls hP hD hS hl
  exact lv_tableOut hx hb hdg h ht (kk H locs ls hP hD hS hl)

theorem x_tableIn {dflt lo hi : Int} {offs : Array Int} {len : Nat} {x : Int32} {off : Int} (tgt : Nat) (X : xR l G E own nm cc nL R Z K) (hdg : decode cc pc = .ok (.tableswitch dflt lo hi offs, len)) (h1 : ¬ x.toInt < lo) (h2 : ¬ hi < x.toInt) (ho : offs[(x.toInt - lo).toNat]? = some off) (ht : (pc : Int) + off = (tgt : Int)) (kk : K ws k z tgt lv st) : K ws k z pc lv (.int x :: st) := by
  obtain ⟨p, e, s, m, args, below, meth, c, Q, A, hx, hb, hml, hown, hts, hK, hE, hA, hnm, rfl, hZ⟩ := X
  intro H locs ls hP hD hS hl
  exact lv_tableIn hx hb hdg h1 h2 ho ht (kk H locs ls hP hD hS hl)

theorem x_ret {v : Value} (X : xR l G E own nm cc nL R Z K) (hop : xRetOp cc pc (some v)) (hz : Z (some v) ws k z) : K ws k z pc lv [v] := by
  obtain ⟨p, e, s, m, args, below, meth, c, Q, A, hx, hb, hml, hown, hts, hK, hE, hA, hnm, rfl, hZ⟩ := X
  exact hZ (some v) ws k z pc lv hz hop
theorem x_retv (X : xR l G E own nm cc nL R Z K) (hop : xRetOp cc pc none) (hz : Z none ws k z) : K ws k z pc lv [] := by
  obtain ⟨p, e, s, m, args, below, meth, c, Q, A, hx, hb, hml, hown, hts, hK, hE, hA, hnm, rfl, hZ⟩ := X
  exact hZ none ws k z pc lv hz hop
theorem x_world {ws' : va_W} (he : ws = ws') (kk : K ws' k z pc lv st) : K ws k z pc lv st := he ▸ kk
theorem x_lv {lv' : xL} (X : xR l G E own nm cc nL R Z K) (is : List Nat) (he : lv_pick lv is = lv') (kk : K ws k z pc lv' st) : K ws k z pc lv st := by
  obtain ⟨p, e, s, m, args, below, meth, c, Q, A, hx, hb, hml, hown, hts, hK, hE, hA, hnm, rfl, hZ⟩ := X
  intro H locs ls hP hD hS hl
  exact kk H locs ls hP hD hS (lv_sub hl is he)
theorem x_int {x y : Int32} (he : x = y) (kk : K ws k z pc lv (.int y :: st)) : K ws k z pc lv (.int x :: st) := he ▸ kk
theorem x_long {x y : Int64} (he : x = y) (kk : K ws k z pc lv (.long y :: st)) : K ws k z pc lv (.long x :: st) := he ▸ kk
/-- the int rows of a world agree where they are read -/
theorem x_row {q0 a n : Nat} {cA : ClassId} {f g : Nat → Int32} (X : xR l G E own nm cc nL R Z K) (h0 : ws[q0]? = some (a, .inl (cA, n, .inl f))) (hfg : ∀ j, j < n → f j = g j) (kk : K (ws.set q0 (a, .inl (cA, n, .inl g))) k z pc lv st) : K ws k z pc lv st := by
  obtain ⟨p, e, s, m, args, below, meth, c, Q, A, hx, hb, hml, hown, hts, hK, hE, hA, hnm, rfl, hZ⟩ := X
  intro H locs ls hP hD hS hl
  have e : va_at G.1 vwCl (a, .inl (cA, n, .inl g)) H := by
    have h1 := hP q0 _ h0
    have e2 : vp_cell cA (n, .inl g) = vp_cell cA (n, .inl f) := by
      rw [vp_cell_i, vp_cell_i]
      exact arrV_congr (fun j hj => by rw [hfg j hj])
    show H[a]? = some (vp_cell cA (n, .inl g))
    rw [e2]
    exact h1
  exact kk H locs ls (hP.set hD h0 e (fun _ _ => rfl)) (hD.set h0) hS hl

theorem x_get {C : String} {T : u_T} {N ci idx a : Nat} {fs : List Value} {v : Value} (X : xR l G E own nm cc nL R Z K) (hin : ∀ w ∈ u_ws C T N, w ∈ wU) (q0 : Nat) (he : ws[q0]? = some (a, .inr (ci, fs))) (hc : vwCl[ci]? = some (C, T, N)) (i : Nat) (hi : i < N) (hlk : Cond.fieldLink own idx C (T i).2.1 (T i).2.2.1 ∈ wU) (h1 : (T i).1 = C) (hv : fs[i]? = some v) (hdg : decode cc pc = .ok (.getfield idx, 3)) (kk : K ws k z (pc + 3) lv (v :: st)) : K ws k z pc lv (.ref a :: st) := by
  obtain ⟨p, e, s, m, args, below, meth, c, Q, A, hx, hb, hml, hown, hts, hK, hE, hA, hnm, rfl, hZ⟩ := X
  intro H locs ls hP hD hS hl
  exact va_get (D := G.1) hx hb hts hin hown hK.1 hP q0 he hc i hi (hts _ hlk) (fun _ h9 => by rw [h1] at h9; exact h9) hv hdg (kk H locs ls hP hD hS hl)
theorem x_put {C : String} {T : u_T} {N ci idx a : Nat} {fs : List Value} {v : Value} {ws' : va_W} {ty0 : Nat → FieldType} {ty : FieldType} (X : xR l G E own nm cc nL R Z K) (hin : ∀ w ∈ u_ws C T N, w ∈ wU) (hty : ∀ k, k < N → parseFieldDescriptor (T k).2.2.1 = some (ty0 k)) (hnm2 : ∀ a, a < N → ∀ b, b < N → a ≠ b → (T a).2.1 ≠ (T b).2.1) (q0 : Nat) (he : ws[q0]? = some (a, .inr (ci, fs))) (hc : vwCl[ci]? = some (C, T, N)) (i : Nat) (hi : i < N) (hlk : Cond.fieldLink own idx C (T i).2.1 (T i).2.2.1 ∈ wU) (h1 : (T i).1 = C) (hfin : (T i).2.2.2 = false) (hd : parseFieldDescriptor (T i).2.2.1 = some ty) (hn : narrow ty v = v) (hfit : fits ty v = true) (hlf : i < fs.length) (hws : ws.set q0 (a, .inr (ci, fs.set i v)) = ws') (hdg : decode cc pc = .ok (.putfield idx, 3)) (kk : K ws' k z (pc + 3) lv st) : K ws k z pc lv (v :: .ref a :: st) := by
  subst hws
  obtain ⟨p, e, s, m, args, below, meth, c, Q, A, hx, hb, hml, hown, hts, hK, hE, hA, hnm, rfl, hZ⟩ := X
  intro H locs ls hP hD hS hl
  exact va_put (D := G.1) hx hb hts hin ty0 hty hnm2 hown hK.1 hP hD hS q0 he hc i hi (hts _ hlk) (fun _ h9 => by rw [h1] at h9; exact h9) hfin hd hn hfit hlf hdg (fun H1 locs1 hP1 hD1 hS1 => kk H1 locs1 ls hP1 hD1 hS1 hl)
theorem x_putF {C : String} {T : u_T} {N ci idx a : Nat} {fs : List Value} {v : Value} {ws' : va_W} {ty0 : Nat → FieldType} {ty : FieldType} (X : xR l G E own "<init>" cc nL R Z K) (hin : ∀ w ∈ u_ws C T N, w ∈ wU) (hty : ∀ k, k < N → parseFieldDescriptor (T k).2.2.1 = some (ty0 k)) (hnm2 : ∀ a, a < N → ∀ b, b < N → a ≠ b → (T a).2.1 ≠ (T b).2.1) (q0 : Nat) (he : ws[q0]? = some (a, .inr (ci, fs))) (hc : vwCl[ci]? = some (C, T, N)) (i : Nat) (hi : i < N) (hlk : Cond.fieldLink own idx C (T i).2.1 (T i).2.2.1 ∈ wU) (h1 : (T i).1 = C) (h1o : (T i).1 = own) (hfin : (T i).2.2.2 = true) (hd : parseFieldDescriptor (T i).2.2.1 = some ty) (hn : narrow ty v = v) (hfit : fits ty v = true) (hlf : i < fs.length) (hws : ws.set q0 (a, .inr (ci, fs.set i v)) = ws') (hdg : decode cc pc = .ok (.putfield idx, 3)) (kk : K ws' k z (pc + 3) lv st) : K ws k z pc lv (v :: .ref a :: st) := by
  subst hws
  obtain ⟨p, e, s, m, args, below, meth, c, Q, A, hx, hb, hml, hown, hts, hK, hE, hA, hnm, rfl, hZ⟩ := X
  intro H locs ls hP hD hS hl
  exact va_putF (D := G.1) hx hb hts hin ty0 hty hnm2 hown hK.1 hP hD hS q0 he hc i hi (hts _ hlk) (fun _ h9 => by rw [h1] at h9; exact h9) hfin hnm h1o hd hn hfit hlf hdg (fun H1 locs1 hP1 hD1 hS1 => kk H1 locs1 ls hP1 hD1 hS1 hl)
theorem x_iald {a n : Nat} {f : Nat → Int32} {i : Int32} (X : xR l G E own nm cc nL R Z K) (q0 : Nat) (ha : ws[q0]? = some (a, .inl (G.2.1, n, .inl f))) (hin : vp_in i n) (hdg : decode cc pc = .ok (.iaload, 1)) (kk : K ws k z (pc + 1) lv (.int (f i.toNatClampNeg) :: st)) : K ws k z pc lv (.int i :: .ref a :: st) := by
  obtain ⟨p, e, s, m, args, below, meth, c, Q, A, hx, hb, hml, hown, hts, hK, hE, hA, hnm, rfl, hZ⟩ := X
  intro H locs ls hP hD hS hl
  exact va_iald hx hb hK.1 hP q0 0 ha rfl hin hdg (kk H locs ls hP hD hS hl)
theorem x_iald_n {a n j : Nat} {f : Nat → Int32} {v : Int32} (X : xR l G E own nm cc nL R Z K) (q0 : Nat) (ha : ws[q0]? = some (a, .inl (G.2.1, n, .inl f))) (hj : j < n) (hn : n < 2 ^ 31) (hv : f j = v) (hdg : decode cc pc = .ok (.iaload, 1)) (kk : K ws k z (pc + 1) lv (.int v :: st)) : K ws k z pc lv (.int (nI j) :: .ref a :: st) :=
  x_iald X q0 ha (vp_in_nI hj hn) hdg (by rw [nI_clamp (Nat.lt_trans hj hn), hv]; exact kk)
theorem x_iast {a n : Nat} {f : Nat → Int32} {i x : Int32} {ws' : va_W} (X : xR l G E own nm cc nL R Z K) (q0 : Nat) (ha : ws[q0]? = some (a, .inl (G.2.1, n, .inl f))) (hin : vp_in i n) (hws : ws.set q0 (a, .inl (G.2.1, n, .inl (upd f i.toNatClampNeg x))) = ws') (hdg : decode cc pc = .ok (.iastore, 1)) (kk : K ws' k z (pc + 1) lv st) : K ws k z pc lv (.int x :: .int i :: .ref a :: st) := by
  subst hws
  obtain ⟨p, e, s, m, args, below, meth, c, Q, A, hx, hb, hml, hown, hts, hK, hE, hA, hnm, rfl, hZ⟩ := X
  intro H locs ls hP hD hS hl
  exact va_iast hx hb hK.1 hP hD hS q0 0 ha rfl hin hdg (fun H1 locs1 hP1 hD1 hS1 => kk H1 locs1 ls hP1 hD1 hS1 hl)
theorem x_iast_n {a n j : Nat} {f g : Nat → Int32} {x : Int32} {ws' : va_W} (X : xR l G E own nm cc nL R Z K) (q0 : Nat) (ha : ws[q0]? = some (a, .inl (G.2.1, n, .inl f))) (hj : j < n) (hn : n < 2 ^ 31) (hg : upd f j x = g) (hws : ws.set q0 (a, .inl (G.2.1, n, .inl g)) = ws') (hdg : decode cc pc = .ok (.iastore, 1)) (kk : K ws' k z (pc + 1) lv st) : K ws k z pc lv (.int x :: .int (nI j) :: .ref a :: st) :=
  x_iast X q0 ha (vp_in_nI hj hn) (by rw [nI_clamp (Nat.lt_trans hj hn), hg]; exact hws) hdg kk
theorem x_alen {a n : Nat} {f : Nat → Int32} (X : xR l G E own nm cc nL R Z K) (q0 : Nat) (ha : ws[q0]? = some (a, .inl (G.2.1, n, .inl f))) (hdg : decode cc pc = .ok (.arraylength, 1)) (kk : K ws k z (pc + 1) lv (.int (nI n) :: st)) : K ws k z pc lv (.ref a :: st) := by
  obtain ⟨p, e, s, m, args, below, meth, c, Q, A, hx, hb, hml, hown, hts, hK, hE, hA, hnm, rfl, hZ⟩ := X
  intro H locs ls hP hD hS hl
  exact va_alen hx hb hK.1 hP q0 0 ha rfl rfl hdg (kk H locs ls hP hD hS hl)
theorem x_alenq {a n : Nat} {f : Nat → Option Nat} (X : xR l G E own nm cc nL R Z K) (q0 : Nat) (ha : ws[q0]? = some (a, .inl (G.2.2, n, .inr (.inr (.inr (.inr f)))))) (hdg : decode cc pc = .ok (.arraylength, 1)) (kk : K ws k z (pc + 1) lv (.int (nI n) :: st)) : K ws k z pc lv (.ref a :: st) := by
  obtain ⟨p, e, s, m, args, below, meth, c, Q, A, hx, hb, hml, hown, hts, hK, hE, hA, hnm, rfl, hZ⟩ := X
  intro H locs ls hP hD hS hl
  exact va_alen hx hb hK.1 hP q0 1 ha rfl rfl hdg (kk H locs ls hP hD hS hl)
theorem x_aald_n {a n j : Nat} {f : Nat → Option Nat} {v : Value} (X : xR l G E own nm cc nL R Z K) (q0 : Nat) (ha : ws[q0]? = some (a, .inl (G.2.2, n, .inr (.inr (.inr (.inr f)))))) (hj : j < n) (hn : n < 2 ^ 31) (hv : va_rf (f j) = v) (hdg : decode cc pc = .ok (.aaload, 1)) (kk : K ws k z (pc + 1) lv (v :: st)) : K ws k z pc lv (.int (nI j) :: .ref a :: st) := by
  subst hv
  obtain ⟨p, e, s, m, args, below, meth, c, Q, A, hx, hb, hml, hown, hts, hK, hE, hA, hnm, rfl, hZ⟩ := X
  intro H locs ls hP hD hS hl
  refine va_aldq hx hb hK.1 hP q0 1 ha rfl (vp_in_nI hj hn) hdg ?_
  rw [nI_clamp (Nat.lt_trans hj hn)]
  exact kk H locs ls hP hD hS hl

end XR
end
section
/-! ===== calls: the callee's world is a part of ours, by its places; it comes back in its place ===== -/
theorem good_wU {ws : List Cond} (h : ∀ w ∈ ws, w ∈ wU) : GoodIn wU ws := fun w hw => ⟨h w hw, good_of_word (wU_good w (h w hw))⟩
def x_put_ws (ws : va_W) : List Nat → va_W → va_W
  | i :: is, q :: qs => x_put_ws (ws.set i q) is qs
  | _, _ => ws
theorem x_put_at : ∀ (is : List Nat) (w1 ws : va_W) (k : Nat) (q : Nat × va_E), is.length = w1.length → (x_put_ws ws is w1)[k]? = some q → (ws[k]? = some q ∧ k ∉ is) ∨ ∃ j : Nat, is[j]? = some k ∧ w1[j]? = some q := by
  intro is
  induction is with
  | nil =>
    intro w1 ws k q hl h
    cases w1 with
    | nil => exact Or.inl ⟨h, List.not_mem_nil⟩
    | cons a b => simp at hl
  | cons i is ih =>
    intro w1 ws k q hl h
    cases w1 with
    | nil => simp at hl
    | cons q0 w1 =>
      rcases ih w1 (ws.set i q0) k q (by simpa using hl) h with ⟨h1, h2⟩ | ⟨j, h1, h2⟩
      · by_cases hk : k = i
        · subst hk
          have hlt : k < ws.length := by
            have := (List.getElem?_eq_some_iff.mp h1).1
            simpa using this
          rw [List.getElem?_set_self hlt] at h1
          exact Or.inr ⟨0, rfl, h1⟩
        · rw [List.getElem?_set_ne (fun e => hk e.symm)] at h1
          exact Or.inl ⟨h1, fun h => by rcases List.mem_cons.mp h with h | h; exact hk h; exact h2 h⟩
      · exact Or.inr ⟨j + 1, h1, h2⟩
theorem x_map_at {is : List Nat} {ws wc : va_W} (hC : is.map (fun i => ws[i]?) = wc.map some) {j i : Nat} (hj : is[j]? = some i) : ∃ q, wc[j]? = some q ∧ ws[i]? = some q := by
  have h1 : (is.map (fun i => ws[i]?))[j]? = some (ws[i]?) := by rw [List.getElem?_map, hj]; rfl
  rw [hC, List.getElem?_map] at h1
  cases hq : wc[j]? with
  | none => rw [hq] at h1; cases h1
  | some q => rw [hq] at h1; exact ⟨q, rfl, (Option.some.inj h1).symm⟩
theorem x_map_back {is : List Nat} {ws wc : va_W} (hC : is.map (fun i => ws[i]?) = wc.map some) {j : Nat} {q : Nat × va_E} (hq : wc[j]? = some q) : ∃ i, is[j]? = some i ∧ ws[i]? = some q := by
  have h1 : (is.map (fun i => ws[i]?))[j]? = some (some q) := by rw [hC, List.getElem?_map, hq]; rfl
  rw [List.getElem?_map] at h1
  cases hi : is[j]? with
  | none => rw [hi] at h1; cases h1
  | some i => rw [hi] at h1; exact ⟨i, rfl, Option.some.inj h1⟩
theorem x_upd {D : va_G} {cl : List vw_C} {ws wc w1 : va_W} {A : Nat → Prop} {H H1 : Heap} (hP : va_P D cl ws H) (hD : va_D A ws) (is : List Nat) (hC : is.map (fun i => ws[i]?) = wc.map some) (hlen : is.length = w1.length) (hadr : w1.map Prod.fst = wc.map Prod.fst)
    (hk : ∀ q : Nat, q < H.size → ¬ va_A wc H.size q → H1[q]? = H[q]?) (hP1 : va_P D cl w1 H1) : va_P D cl (x_put_ws ws is w1) H1 ∧ va_D A (x_put_ws ws is w1) := by
  have key : ∀ (k : Nat) (q : Nat × va_E), (x_put_ws ws is w1)[k]? = some q → ∃ q0, ws[k]? = some q0 ∧ q0.1 = q.1 := by
    intro k q hq
    rcases x_put_at is w1 ws k q hlen hq with ⟨h1, -⟩ | ⟨j, h1, h2⟩
    · exact ⟨q, h1, rfl⟩
    · obtain ⟨q', h3, h4⟩ := x_map_at hC h1
      refine ⟨q', h4, ?_⟩
      have e : (w1.map Prod.fst)[j]? = (wc.map Prod.fst)[j]? := by rw [hadr]
      rw [List.getElem?_map, List.getElem?_map, h2, h3] at e
      exact (Option.some.inj e).symm
  refine ⟨fun k q hq => ?_, fun i j a b ha hb hab => ?_, fun k q hq => ?_⟩
  · rcases x_put_at is w1 ws k q hlen hq with ⟨h1, h2⟩ | ⟨j, -, h2⟩
    · have hlt := (hP k q h1).lt
      refine (hP k q h1).kept (hk q.1 hlt ?_)
      rintro (⟨j, e, h⟩ | h)
      · obtain ⟨i, h3, h4⟩ := x_map_back hC h
        have : k = i := hD.1 k i q (q.1, e) h1 h4 rfl
        subst this
        exact h2 (List.mem_of_getElem? h3)
      · omega
    · exact hP1 j q h2
  · obtain ⟨a0, g1, g2⟩ := key i a ha
    obtain ⟨b0, g3, g4⟩ := key j b hb
    exact hD.1 i j a0 b0 g1 g3 (g2.trans (hab.trans g4.symm))
  · obtain ⟨q0, g1, g2⟩ := key k q hq
    rw [← g2]
    exact hD.2 k q0 g1
theorem x_put_self : ∀ (is : List Nat) (ws wc : va_W), is.map (fun i => ws[i]?) = wc.map some → x_put_ws ws is wc = ws := by
  intro is
  induction is with
  | nil =>
    intro ws wc h
    cases wc <;> rfl
  | cons i is ih =>
    intro ws wc h
    cases wc with
    | nil => rfl
    | cons q wc =>
      simp only [List.map_cons, List.cons.injEq] at h
      have hi : i < ws.length := (List.getElem?_eq_some_iff.mp h.1).1
      have e : ws.set i q = ws := by
        apply List.ext_getElem?
        intro k
        by_cases hk : k = i
        · subst hk
          rw [List.getElem?_set_self hi, h.1]
        · rw [List.getElem?_set_ne (fun e => hk e.symm)]
      show x_put_ws (ws.set i q) is wc = ws
      rw [e]
      exact ih ws wc h.2
theorem x_fm {is : List Nat} {ws wc : va_W} (hC : is.map (fun i => ws[i]?) = wc.map some) : is.filterMap (fun i => ws[i]?) = wc := by
  induction is generalizing wc with
  | nil => cases wc with
    | nil => rfl
    | cons a b => cases hC
  | cons i is ih =>
    cases wc with
    | nil => cases hC
    | cons q wc =>
      simp only [List.map_cons, List.cons.injEq] at hC
      rw [List.filterMap_cons, hC.1, ih hC.2]
/-- what a call's words are -/
abbrev xCd (y : MethodName) (n : Nat) : Prop := y.cls ≠ "java/lang/invoke/MethodHandle" ∧ y.cls ≠ "java/lang/invoke/VarHandle" ∧ (parseMethodDescriptor y.desc).map (fun d => d.parameters.length) = some n
section XC
variable {p : Program} {l : Launch} {e : Env} {R : Room} {s : State} {m : MethodId} {args : Array Value} {below : List Frame} {meth : Method} {c : Code} {H : Heap} {locs : List Loc} {k z : Nat} {Q : State → Prop}
variable {pc : Nat} {ls : Array Slot} {rest st0 : List Value} {a : Array Value} {A0 A1 : Nat → Prop} {H0 : Heap} {mc ms : Nat} {free : Addr → Prop}
theorem x_go {r : Option Value} {B : State → Prop} (hr : va_Run p l e R s m args below meth c H locs k z mc ms (F0 m pc ls st0) rest (xQ r B A1 a) free) (hS : va_S A0 H0 H locs) (hA : ∀ q, q < H.size → A1 q → A0 q) (hf : ∀ q, free q → A0 q)
    (kk : ∀ (t : State) (H1 : Heap) (locs1 : List Loc), t.heap = H1 → B t → H.size ≤ H1.size → (∀ q : Nat, q < H.size → ¬ A1 q → H1[q]? = H[q]?) → va_S A0 H0 H1 locs1 → W p l e R s m args below meth c H1 locs1 (k + mc) (z + ms) Q (F0 m (pc + 3) ls (r.toList ++ rest))) : W p l e R s m args below meth c H locs k z Q (F0 m pc ls st0) := by
  intro T hT X
  obtain ⟨v, st₀, t, T', L, h0, X', hL, e1, e2, ⟨⟨hv, hb⟩, hz, hk⟩, st⟩ := hr T hT X
  cases hv
  rw [h0] at hz hk
  obtain ⟨t2, a1, b1⟩ := kk t T'.heap (locs ++ L) e1.symm hb (by rw [e1]; exact hz) (fun q h1 h2 => by rw [e1]; exact hk q h1 h2)
    ⟨Nat.le_trans hS.1 (by rw [e1]; exact hz), fun q h1 h2 => by rw [e1, hk q (Nat.lt_of_lt_of_le h1 hS.1) (fun z => h2 (hA q (Nat.lt_of_lt_of_le h1 hS.1) z))]; exact hS.2.1 q h1 h2, fun q hq => by
      rcases List.mem_append.mp hq with h | h
      · exact hS.2.2 q h
      · exact hf _ (hL q h)⟩ T' rfl X'
  exact ⟨t2, st t2 a1, b1⟩
end XC
section XD
variable {l : Launch} {G : xG} {E E' : xE} {own nm : String} {cc : ByteArray} {nL : Nat} {R : Room} {Z : Option Value → va_W → Nat → Nat → Prop} {K : xKt} {ws ws' wc w1 : va_W} {k z pc : Nat} {lv : xL} {st rest : List Value}
variable {y : MethodName} {cc' : ByteArray} {n' : Nat} {ret' : Option FieldType} {fr' lo' mc' ms' idx : Nat} {As : List Value} {r' : Option Value} {v : Value} {Fin' : va_W → Prop}

set_option maxHeartbeats 1000000 in
theorem x_callV {b ci : Nat} {fs : List Value} {T : u_T} {N : Nat} (X : xR l G E own nm cc nL R Z K) (hM : xM l G E' y cc' n' ret' fr' lo' mc' ms' (.ref b :: As) wc r' Fin') (hE1 : xEok E') (hE2 : ∀ A U, E A U → E' A U) (is : List Nat) (hC : is.map (fun i => ws[i]?) = wc.map some) (j : Nat) (hj : wc[j]? = some (b, .inr (ci, fs))) (hci : vwCl[ci]? = some (y.cls, T, N)) (hnd : va_nd is = true) (hst : st = As.reverse ++ .ref b :: rest) (hco : Cond.code y cc' n' ret' ∈ wU) (hini : Cond.initialized y.cls ∈ wU) (hd : xCd y As.length) (hlk : Cond.methodLink own idx y ∈ wU) (hin : Cond.instanceMethod y ∈ wU) (hse : Cond.selects y.cls y y ∈ wU) (hroom : fr' + 1 ≤ R.frames ∧ 8 + (n' + 11) + lo' ≤ R.locals ∧ k + mc' ≤ R.cells ∧ z + ms' ≤ R.slots) (hrest : (rest.map fun v => v.category).sum ≤ 8) (hdg : decode cc pc = .ok (.invokevirtual idx, 3)) (hsk : ∀ w2, Fin' w2 → is.length = w2.length ∧ w2.map Prod.fst = wc.map Prod.fst) (kk : ∀ w2, Fin' w2 → K (x_put_ws ws is w2) (k + mc') (z + ms') (pc + 3) lv (r'.toList ++ rest)) : K ws k z pc lv st := by
  obtain ⟨p, e, s, m, args, below, meth, c, Q, A, hx, hb, hml, hown, hts, hK, hE, hA, hnm, rfl, hZ⟩ := X
  intro H locs ls hP hD hS hl
  have hPc := hP.sub (ws' := wc) is (x_fm hC)
  have hDc := hD.sub (ws' := wc) is hnd hC
  have hFc := va_free (wc := wc) hD hS hA is hC
  have hW0 : ∀ w ∈ (wsV own idx y.cls y (.code y cc' n' ret' :: wU)), w ∈ wU := by
    intro w hw
    simp only [wsV, List.cons_append, List.nil_append, List.mem_cons] at hw; rcases hw with rfl | rfl | rfl | rfl | rfl | hw; exact hlk; exact hin; exact hse; exact hini; exact hco; exact hw
  refine x_go (va_runV (As := As) ⟨hx, hb, hml, hown, hts⟩ (hM H.size) (cwV (C := y.cls) As.length hts (good_wU hW0) rfl rfl rfl ⟨rfl, hd⟩ ⟨hroom.1, hroom.2.1⟩) ⟨fun a U g mk q => ⟨q.1, q.2.1, q.2.2.1, q.2.2.2.1.call, q.2.2.2.2.1, hE1.1 _ _ _ _ _ q.2.2.2.2.2⟩, va_recv (q := (y.cls, T, N)) hK.1 hPc hci hj, fun U hU hW => ⟨rfl, by rw [hU], by rw [hU]; exact hPc, hK.warm hW, hDc.weaken (fun _ _ _ _ => trivial), hE1.2 A _ s U hW (fun q h1 h2 => by rw [hU]; exact hS.2.1 q h1 h2) (fun q h => hFc q h) (hE2 _ _ hE)⟩⟩ rfl rfl hl.1 hst (lv_room hrest) hdg ⟨hroom.2.2.1, hroom.2.2.2⟩) hS (fun q _ h => hFc q h) hFc (fun t H1 locs1 ht hB hz1 hk1 hS1 => ?_)
  obtain ⟨w2, hF, hP1, hD1⟩ := hB
  rw [ht] at hP1
  obtain ⟨hlen, hadr⟩ := hsk w2 hF
  obtain ⟨hP2, hD2⟩ := x_upd hP hD is hC hlen hadr hk1 hP1
  exact kk w2 hF H1 locs1 ls hP2 hD2 hS1 hl

theorem x_callVfv {b ci : Nat} {fs : List Value} {T : u_T} {N : Nat} (X : xR l G E own nm cc nL R Z K) (hM : xM l G E' y cc' n' ret' fr' lo' mc' ms' (.ref b :: As) wc (some v) (fun w2 => w2 = w1)) (hE1 : xEok E') (hE2 : ∀ A U, E A U → E' A U) (is : List Nat) (hC : is.map (fun i => ws[i]?) = wc.map some) (j : Nat) (hj : wc[j]? = some (b, .inr (ci, fs))) (hci : vwCl[ci]? = some (y.cls, T, N)) (hnd : va_nd is = true) (hst : st = As.reverse ++ .ref b :: rest) (hco : Cond.code y cc' n' ret' ∈ wU) (hini : Cond.initialized y.cls ∈ wU) (hd : xCd y As.length) (hlk : Cond.methodLink own idx y ∈ wU) (hin : Cond.instanceMethod y ∈ wU) (hse : Cond.selects y.cls y y ∈ wU) (hroom : fr' + 1 ≤ R.frames ∧ 8 + (n' + 11) + lo' ≤ R.locals ∧ k + mc' ≤ R.cells ∧ z + ms' ≤ R.slots) (hrest : (rest.map fun v => v.category).sum ≤ 8) (hdg : decode cc pc = .ok (.invokevirtual idx, 3)) (hlen : is.length = w1.length) (hadr : w1.map Prod.fst = wc.map Prod.fst) (hws : x_put_ws ws is w1 = ws') (kk : K ws' (k + mc') (z + ms') (pc + 3) lv (v :: rest)) : K ws k z pc lv st :=
  x_callV X hM hE1 hE2 is hC j hj hci hnd hst hco hini hd hlk hin hse hroom hrest hdg (fun w2 h => by subst h; exact ⟨hlen, hadr⟩) (fun w2 h => by subst h; rw [hws]; exact kk)

theorem x_callVrv {b ci : Nat} {fs : List Value} {T : u_T} {N : Nat} (X : xR l G E own nm cc nL R Z K) (hM : xM l G E' y cc' n' ret' fr' lo' mc' ms' (.ref b :: As) wc (some v) (fun w2 => w2 = wc)) (hE1 : xEok E') (hE2 : ∀ A U, E A U → E' A U) (is : List Nat) (hC : is.map (fun i => ws[i]?) = wc.map some) (j : Nat) (hj : wc[j]? = some (b, .inr (ci, fs))) (hci : vwCl[ci]? = some (y.cls, T, N)) (hnd : va_nd is = true) (hst : st = As.reverse ++ .ref b :: rest) (hco : Cond.code y cc' n' ret' ∈ wU) (hini : Cond.initialized y.cls ∈ wU) (hd : xCd y As.length) (hlk : Cond.methodLink own idx y ∈ wU) (hin : Cond.instanceMethod y ∈ wU) (hse : Cond.selects y.cls y y ∈ wU) (hroom : fr' + 1 ≤ R.frames ∧ 8 + (n' + 11) + lo' ≤ R.locals ∧ k + mc' ≤ R.cells ∧ z + ms' ≤ R.slots) (hrest : (rest.map fun v => v.category).sum ≤ 8) (hdg : decode cc pc = .ok (.invokevirtual idx, 3)) (kk : K ws (k + mc') (z + ms') (pc + 3) lv (v :: rest)) : K ws k z pc lv st :=
  x_callV X hM hE1 hE2 is hC j hj hci hnd hst hco hini hd hlk hin hse hroom hrest hdg (fun w2 h => by subst h; exact ⟨by simpa using congrArg List.length hC, rfl⟩) (fun w2 h => by subst h; rw [x_put_self is ws w2 hC]; exact kk)

theorem x_callVf0 {b ci : Nat} {fs : List Value} {T : u_T} {N : Nat} (X : xR l G E own nm cc nL R Z K) (hM : xM l G E' y cc' n' ret' fr' lo' mc' ms' (.ref b :: As) wc (none) (fun w2 => w2 = w1)) (hE1 : xEok E') (hE2 : ∀ A U, E A U → E' A U) (is : List Nat) (hC : is.map (fun i => ws[i]?) = wc.map some) (j : Nat) (hj : wc[j]? = some (b, .inr (ci, fs))) (hci : vwCl[ci]? = some (y.cls, T, N)) (hnd : va_nd is = true) (hst : st = As.reverse ++ .ref b :: rest) (hco : Cond.code y cc' n' ret' ∈ wU) (hini : Cond.initialized y.cls ∈ wU) (hd : xCd y As.length) (hlk : Cond.methodLink own idx y ∈ wU) (hin : Cond.instanceMethod y ∈ wU) (hse : Cond.selects y.cls y y ∈ wU) (hroom : fr' + 1 ≤ R.frames ∧ 8 + (n' + 11) + lo' ≤ R.locals ∧ k + mc' ≤ R.cells ∧ z + ms' ≤ R.slots) (hrest : (rest.map fun v => v.category).sum ≤ 8) (hdg : decode cc pc = .ok (.invokevirtual idx, 3)) (hlen : is.length = w1.length) (hadr : w1.map Prod.fst = wc.map Prod.fst) (hws : x_put_ws ws is w1 = ws') (kk : K ws' (k + mc') (z + ms') (pc + 3) lv (rest)) : K ws k z pc lv st :=
  x_callV X hM hE1 hE2 is hC j hj hci hnd hst hco hini hd hlk hin hse hroom hrest hdg (fun w2 h => by subst h; exact ⟨hlen, hadr⟩) (fun w2 h => by subst h; rw [hws]; exact kk)

theorem x_callVr0 {b ci : Nat} {fs : List Value} {T : u_T} {N : Nat} (X : xR l G E own nm cc nL R Z K) (hM : xM l G E' y cc' n' ret' fr' lo' mc' ms' (.ref b :: As) wc (none) (fun w2 => w2 = wc)) (hE1 : xEok E') (hE2 : ∀ A U, E A U → E' A U) (is : List Nat) (hC : is.map (fun i => ws[i]?) = wc.map some) (j : Nat) (hj : wc[j]? = some (b, .inr (ci, fs))) (hci : vwCl[ci]? = some (y.cls, T, N)) (hnd : va_nd is = true) (hst : st = As.reverse ++ .ref b :: rest) (hco : Cond.code y cc' n' ret' ∈ wU) (hini : Cond.initialized y.cls ∈ wU) (hd : xCd y As.length) (hlk : Cond.methodLink own idx y ∈ wU) (hin : Cond.instanceMethod y ∈ wU) (hse : Cond.selects y.cls y y ∈ wU) (hroom : fr' + 1 ≤ R.frames ∧ 8 + (n' + 11) + lo' ≤ R.locals ∧ k + mc' ≤ R.cells ∧ z + ms' ≤ R.slots) (hrest : (rest.map fun v => v.category).sum ≤ 8) (hdg : decode cc pc = .ok (.invokevirtual idx, 3)) (kk : K ws (k + mc') (z + ms') (pc + 3) lv (rest)) : K ws k z pc lv st :=
  x_callV X hM hE1 hE2 is hC j hj hci hnd hst hco hini hd hlk hin hse hroom hrest hdg (fun w2 h => by subst h; exact ⟨by simpa using congrArg List.length hC, rfl⟩) (fun w2 h => by subst h; rw [x_put_self is ws w2 hC]; exact kk)

set_option maxHeartbeats 1000000 in
theorem x_callS (X : xR l G E own nm cc nL R Z K) (hM : xM l G E' y cc' n' ret' fr' lo' mc' ms' (As) wc r' Fin') (hE1 : xEok E') (hE2 : ∀ A U, E A U → E' A U) (is : List Nat) (hC : is.map (fun i => ws[i]?) = wc.map some) (hnd : va_nd is = true) (hst : st = As.reverse ++ rest) (hco : Cond.code y cc' n' ret' ∈ wU) (hini : Cond.initialized y.cls ∈ wU) (hd : xCd y As.length) (hlk : Cond.methodLink own idx y ∈ wU) (hst0 : Cond.static y ∈ wU) (hroom : fr' + 1 ≤ R.frames ∧ 8 + (n' + 11) + lo' ≤ R.locals ∧ k + mc' ≤ R.cells ∧ z + ms' ≤ R.slots) (hrest : (rest.map fun v => v.category).sum ≤ 8) (hdg : decode cc pc = .ok (.invokestatic idx, 3)) (hsk : ∀ w2, Fin' w2 → is.length = w2.length ∧ w2.map Prod.fst = wc.map Prod.fst) (kk : ∀ w2, Fin' w2 → K (x_put_ws ws is w2) (k + mc') (z + ms') (pc + 3) lv (r'.toList ++ rest)) : K ws k z pc lv st := by
  obtain ⟨p, e, s, m, args, below, meth, c, Q, A, hx, hb, hml, hown, hts, hK, hE, hA, hnm, rfl, hZ⟩ := X
  intro H locs ls hP hD hS hl
  have hPc := hP.sub (ws' := wc) is (x_fm hC)
  have hDc := hD.sub (ws' := wc) is hnd hC
  have hFc := va_free (wc := wc) hD hS hA is hC
  have hW0 : ∀ w ∈ (va_wsS own idx y (.code y cc' n' ret' :: wU)), w ∈ wU := by
    intro w hw
    simp only [va_wsS, List.cons_append, List.nil_append, List.mem_cons] at hw; rcases hw with rfl | rfl | rfl | rfl | hw; exact hlk; exact hst0; exact hini; exact hco; exact hw
  refine x_go (va_runS (As := As) ⟨hx, hb, hml, hown, hts⟩ (hM H.size) (va_cwS As.length hts (good_wU hW0) rfl rfl rfl hd ⟨hroom.1, hroom.2.1⟩) ⟨fun a U g mk q => ⟨q.1, q.2.1, q.2.2.1, q.2.2.2.1.call, q.2.2.2.2.1, hE1.1 _ _ _ _ _ q.2.2.2.2.2⟩, fun U hU hW => ⟨rfl, by rw [hU], by rw [hU]; exact hPc, hK.warm hW, hDc.weaken (fun _ _ _ _ => trivial), hE1.2 A _ s U hW (fun q h1 h2 => by rw [hU]; exact hS.2.1 q h1 h2) (fun q h => hFc q h) (hE2 _ _ hE)⟩⟩ rfl rfl hl.1 hst (lv_room hrest) hdg ⟨hroom.2.2.1, hroom.2.2.2⟩) hS (fun q _ h => hFc q h) hFc (fun t H1 locs1 ht hB hz1 hk1 hS1 => ?_)
  obtain ⟨w2, hF, hP1, hD1⟩ := hB
  rw [ht] at hP1
  obtain ⟨hlen, hadr⟩ := hsk w2 hF
  obtain ⟨hP2, hD2⟩ := x_upd hP hD is hC hlen hadr hk1 hP1
  exact kk w2 hF H1 locs1 ls hP2 hD2 hS1 hl

theorem x_callSfv (X : xR l G E own nm cc nL R Z K) (hM : xM l G E' y cc' n' ret' fr' lo' mc' ms' (As) wc (some v) (fun w2 => w2 = w1)) (hE1 : xEok E') (hE2 : ∀ A U, E A U → E' A U) (is : List Nat) (hC : is.map (fun i => ws[i]?) = wc.map some) (hnd : va_nd is = true) (hst : st = As.reverse ++ rest) (hco : Cond.code y cc' n' ret' ∈ wU) (hini : Cond.initialized y.cls ∈ wU) (hd : xCd y As.length) (hlk : Cond.methodLink own idx y ∈ wU) (hst0 : Cond.static y ∈ wU) (hroom : fr' + 1 ≤ R.frames ∧ 8 + (n' + 11) + lo' ≤ R.locals ∧ k + mc' ≤ R.cells ∧ z + ms' ≤ R.slots) (hrest : (rest.map fun v => v.category).sum ≤ 8) (hdg : decode cc pc = .ok (.invokestatic idx, 3)) (hlen : is.length = w1.length) (hadr : w1.map Prod.fst = wc.map Prod.fst) (hws : x_put_ws ws is w1 = ws') (kk : K ws' (k + mc') (z + ms') (pc + 3) lv (v :: rest)) : K ws k z pc lv st :=
  x_callS X hM hE1 hE2 is hC hnd hst hco hini hd hlk hst0 hroom hrest hdg (fun w2 h => by subst h; exact ⟨hlen, hadr⟩) (fun w2 h => by subst h; rw [hws]; exact kk)

theorem x_callSrv (X : xR l G E own nm cc nL R Z K) (hM : xM l G E' y cc' n' ret' fr' lo' mc' ms' (As) wc (some v) (fun w2 => w2 = wc)) (hE1 : xEok E') (hE2 : ∀ A U, E A U → E' A U) (is : List Nat) (hC : is.map (fun i => ws[i]?) = wc.map some) (hnd : va_nd is = true) (hst : st = As.reverse ++ rest) (hco : Cond.code y cc' n' ret' ∈ wU) (hini : Cond.initialized y.cls ∈ wU) (hd : xCd y As.length) (hlk : Cond.methodLink own idx y ∈ wU) (hst0 : Cond.static y ∈ wU) (hroom : fr' + 1 ≤ R.frames ∧ 8 + (n' + 11) + lo' ≤ R.locals ∧ k + mc' ≤ R.cells ∧ z + ms' ≤ R.slots) (hrest : (rest.map fun v => v.category).sum ≤ 8) (hdg : decode cc pc = .ok (.invokestatic idx, 3)) (kk : K ws (k + mc') (z + ms') (pc + 3) lv (v :: rest)) : K ws k z pc lv st :=
  x_callS X hM hE1 hE2 is hC hnd hst hco hini hd hlk hst0 hroom hrest hdg (fun w2 h => by subst h; exact ⟨by simpa using congrArg List.length hC, rfl⟩) (fun w2 h => by subst h; rw [x_put_self is ws w2 hC]; exact kk)

theorem x_callSf0 (X : xR l G E own nm cc nL R Z K) (hM : xM l G E' y cc' n' ret' fr' lo' mc' ms' (As) wc (none) (fun w2 => w2 = w1)) (hE1 : xEok E') (hE2 : ∀ A U, E A U → E' A U) (is : List Nat) (hC : is.map (fun i => ws[i]?) = wc.map some) (hnd : va_nd is = true) (hst : st = As.reverse ++ rest) (hco : Cond.code y cc' n' ret' ∈ wU) (hini : Cond.initialized y.cls ∈ wU) (hd : xCd y As.length) (hlk : Cond.methodLink own idx y ∈ wU) (hst0 : Cond.static y ∈ wU) (hroom : fr' + 1 ≤ R.frames ∧ 8 + (n' + 11) + lo' ≤ R.locals ∧ k + mc' ≤ R.cells ∧ z + ms' ≤ R.slots) (hrest : (rest.map fun v => v.category).sum ≤ 8) (hdg : decode cc pc = .ok (.invokestatic idx, 3)) (hlen : is.length = w1.length) (hadr : w1.map Prod.fst = wc.map Prod.fst) (hws : x_put_ws ws is w1 = ws') (kk : K ws' (k + mc') (z + ms') (pc + 3) lv (rest)) : K ws k z pc lv st :=
  x_callS X hM hE1 hE2 is hC hnd hst hco hini hd hlk hst0 hroom hrest hdg (fun w2 h => by subst h; exact ⟨hlen, hadr⟩) (fun w2 h => by subst h; rw [hws]; exact kk)

theorem x_callSr0 (X : xR l G E own nm cc nL R Z K) (hM : xM l G E' y cc' n' ret' fr' lo' mc' ms' (As) wc (none) (fun w2 => w2 = wc)) (hE1 : xEok E') (hE2 : ∀ A U, E A U → E' A U) (is : List Nat) (hC : is.map (fun i => ws[i]?) = wc.map some) (hnd : va_nd is = true) (hst : st = As.reverse ++ rest) (hco : Cond.code y cc' n' ret' ∈ wU) (hini : Cond.initialized y.cls ∈ wU) (hd : xCd y As.length) (hlk : Cond.methodLink own idx y ∈ wU) (hst0 : Cond.static y ∈ wU) (hroom : fr' + 1 ≤ R.frames ∧ 8 + (n' + 11) + lo' ≤ R.locals ∧ k + mc' ≤ R.cells ∧ z + ms' ≤ R.slots) (hrest : (rest.map fun v => v.category).sum ≤ 8) (hdg : decode cc pc = .ok (.invokestatic idx, 3)) (kk : K ws (k + mc') (z + ms') (pc + 3) lv (rest)) : K ws k z pc lv st :=
  x_callS X hM hE1 hE2 is hC hnd hst hco hini hd hlk hst0 hroom hrest hdg (fun w2 h => by subst h; exact ⟨by simpa using congrArg List.length hC, rfl⟩) (fun w2 h => by subst h; rw [x_put_self is ws w2 hC]; exact kk)

set_option maxHeartbeats 1000000 in
theorem x_callN (X : xR l G E own nm cc nL R Z K) (hM : xM l G E' y cc' n' ret' fr' lo' mc' ms' (As) wc r' Fin') (hE1 : xEok E') (hE2 : ∀ A U, E A U → E' A U) (is : List Nat) (hC : is.map (fun i => ws[i]?) = wc.map some) (hnd : va_nd is = true) (hst : st = As.reverse ++ rest) (hco : Cond.code y cc' n' ret' ∈ wU) (hini : Cond.initialized y.cls ∈ wU) (hd : xCd y As.length) {host : String} (hlk : (own, idx, y, host) ∈ xNest) (hst0 : Cond.static y ∈ wU) (hroom : fr' + 1 ≤ R.frames ∧ 8 + (n' + 11) + lo' ≤ R.locals ∧ k + mc' ≤ R.cells ∧ z + ms' ≤ R.slots) (hrest : (rest.map fun v => v.category).sum ≤ 8) (hdg : decode cc pc = .ok (.invokestatic idx, 3)) (hsk : ∀ w2, Fin' w2 → is.length = w2.length ∧ w2.map Prod.fst = wc.map Prod.fst) (kk : ∀ w2, Fin' w2 → K (x_put_ws ws is w2) (k + mc') (z + ms') (pc + 3) lv (r'.toList ++ rest)) : K ws k z pc lv st := by
  obtain ⟨p, e, s, m, args, below, meth, c, Q, A, hx, hb, hml, hown, hts, hK, hE, hA, hnm, rfl, hZ⟩ := X
  intro H locs ls hP hD hS hl
  have hPc := hP.sub (ws' := wc) is (x_fm hC)
  have hDc := hD.sub (ws' := wc) is hnd hC
  have hFc := va_free (wc := wc) hD hS hA is hC
  have hW0 : ∀ w ∈ ((.code y cc' n' ret' :: wU : List Cond)), w ∈ wU := by
    intro w hw
    rcases List.mem_cons.mp hw with rfl | hw; exact hco; exact hw
  refine x_go (va_runSN (As := As) (host := host) ⟨hx, hb, hml, hown, hts⟩ (hM H.size) ⟨va_cnB As.length hts (good_wU hW0) rfl rfl rfl (hK.2 _ hlk) (hts _ hini) hd ⟨hroom.1, hroom.2.1⟩, hts _ hst0, trivial⟩ ⟨fun a U g mk q => ⟨q.1, q.2.1, q.2.2.1, q.2.2.2.1.call, q.2.2.2.2.1, hE1.1 _ _ _ _ _ q.2.2.2.2.2⟩, fun U hU hW => ⟨rfl, by rw [hU], by rw [hU]; exact hPc, hK.warm hW, hDc.weaken (fun _ _ _ _ => trivial), hE1.2 A _ s U hW (fun q h1 h2 => by rw [hU]; exact hS.2.1 q h1 h2) (fun q h => hFc q h) (hE2 _ _ hE)⟩⟩ rfl rfl hl.1 hst (lv_room hrest) hdg ⟨hroom.2.2.1, hroom.2.2.2⟩) hS (fun q _ h => hFc q h) hFc (fun t H1 locs1 ht hB hz1 hk1 hS1 => ?_)
  obtain ⟨w2, hF, hP1, hD1⟩ := hB
  rw [ht] at hP1
  obtain ⟨hlen, hadr⟩ := hsk w2 hF
  obtain ⟨hP2, hD2⟩ := x_upd hP hD is hC hlen hadr hk1 hP1
  exact kk w2 hF H1 locs1 ls hP2 hD2 hS1 hl

theorem x_callNfv (X : xR l G E own nm cc nL R Z K) (hM : xM l G E' y cc' n' ret' fr' lo' mc' ms' (As) wc (some v) (fun w2 => w2 = w1)) (hE1 : xEok E') (hE2 : ∀ A U, E A U → E' A U) (is : List Nat) (hC : is.map (fun i => ws[i]?) = wc.map some) (hnd : va_nd is = true) (hst : st = As.reverse ++ rest) (hco : Cond.code y cc' n' ret' ∈ wU) (hini : Cond.initialized y.cls ∈ wU) (hd : xCd y As.length) {host : String} (hlk : (own, idx, y, host) ∈ xNest) (hst0 : Cond.static y ∈ wU) (hroom : fr' + 1 ≤ R.frames ∧ 8 + (n' + 11) + lo' ≤ R.locals ∧ k + mc' ≤ R.cells ∧ z + ms' ≤ R.slots) (hrest : (rest.map fun v => v.category).sum ≤ 8) (hdg : decode cc pc = .ok (.invokestatic idx, 3)) (hlen : is.length = w1.length) (hadr : w1.map Prod.fst = wc.map Prod.fst) (hws : x_put_ws ws is w1 = ws') (kk : K ws' (k + mc') (z + ms') (pc + 3) lv (v :: rest)) : K ws k z pc lv st :=
  x_callN X hM hE1 hE2 is hC hnd hst hco hini hd hlk hst0 hroom hrest hdg (fun w2 h => by subst h; exact ⟨hlen, hadr⟩) (fun w2 h => by subst h; rw [hws]; exact kk)

theorem x_callNrv (X : xR l G E own nm cc nL R Z K) (hM : xM l G E' y cc' n' ret' fr' lo' mc' ms' (As) wc (some v) (fun w2 => w2 = wc)) (hE1 : xEok E') (hE2 : ∀ A U, E A U → E' A U) (is : List Nat) (hC : is.map (fun i => ws[i]?) = wc.map some) (hnd : va_nd is = true) (hst : st = As.reverse ++ rest) (hco : Cond.code y cc' n' ret' ∈ wU) (hini : Cond.initialized y.cls ∈ wU) (hd : xCd y As.length) {host : String} (hlk : (own, idx, y, host) ∈ xNest) (hst0 : Cond.static y ∈ wU) (hroom : fr' + 1 ≤ R.frames ∧ 8 + (n' + 11) + lo' ≤ R.locals ∧ k + mc' ≤ R.cells ∧ z + ms' ≤ R.slots) (hrest : (rest.map fun v => v.category).sum ≤ 8) (hdg : decode cc pc = .ok (.invokestatic idx, 3)) (kk : K ws (k + mc') (z + ms') (pc + 3) lv (v :: rest)) : K ws k z pc lv st :=
  x_callN X hM hE1 hE2 is hC hnd hst hco hini hd hlk hst0 hroom hrest hdg (fun w2 h => by subst h; exact ⟨by simpa using congrArg List.length hC, rfl⟩) (fun w2 h => by subst h; rw [x_put_self is ws w2 hC]; exact kk)

theorem x_callNf0 (X : xR l G E own nm cc nL R Z K) (hM : xM l G E' y cc' n' ret' fr' lo' mc' ms' (As) wc (none) (fun w2 => w2 = w1)) (hE1 : xEok E') (hE2 : ∀ A U, E A U → E' A U) (is : List Nat) (hC : is.map (fun i => ws[i]?) = wc.map some) (hnd : va_nd is = true) (hst : st = As.reverse ++ rest) (hco : Cond.code y cc' n' ret' ∈ wU) (hini : Cond.initialized y.cls ∈ wU) (hd : xCd y As.length) {host : String} (hlk : (own, idx, y, host) ∈ xNest) (hst0 : Cond.static y ∈ wU) (hroom : fr' + 1 ≤ R.frames ∧ 8 + (n' + 11) + lo' ≤ R.locals ∧ k + mc' ≤ R.cells ∧ z + ms' ≤ R.slots) (hrest : (rest.map fun v => v.category).sum ≤ 8) (hdg : decode cc pc = .ok (.invokestatic idx, 3)) (hlen : is.length = w1.length) (hadr : w1.map Prod.fst = wc.map Prod.fst) (hws : x_put_ws ws is w1 = ws') (kk : K ws' (k + mc') (z + ms') (pc + 3) lv (rest)) : K ws k z pc lv st :=
  x_callN X hM hE1 hE2 is hC hnd hst hco hini hd hlk hst0 hroom hrest hdg (fun w2 h => by subst h; exact ⟨hlen, hadr⟩) (fun w2 h => by subst h; rw [hws]; exact kk)

theorem x_callNr0 (X : xR l G E own nm cc nL R Z K) (hM : xM l G E' y cc' n' ret' fr' lo' mc' ms' (As) wc (none) (fun w2 => w2 = wc)) (hE1 : xEok E') (hE2 : ∀ A U, E A U → E' A U) (is : List Nat) (hC : is.map (fun i => ws[i]?) = wc.map some) (hnd : va_nd is = true) (hst : st = As.reverse ++ rest) (hco : Cond.code y cc' n' ret' ∈ wU) (hini : Cond.initialized y.cls ∈ wU) (hd : xCd y As.length) {host : String} (hlk : (own, idx, y, host) ∈ xNest) (hst0 : Cond.static y ∈ wU) (hroom : fr' + 1 ≤ R.frames ∧ 8 + (n' + 11) + lo' ≤ R.locals ∧ k + mc' ≤ R.cells ∧ z + ms' ≤ R.slots) (hrest : (rest.map fun v => v.category).sum ≤ 8) (hdg : decode cc pc = .ok (.invokestatic idx, 3)) (kk : K ws (k + mc') (z + ms') (pc + 3) lv (rest)) : K ws k z pc lv st :=
  x_callN X hM hE1 hE2 is hC hnd hst hco hini hd hlk hst0 hroom hrest hdg (fun w2 h => by subst h; exact ⟨by simpa using congrArg List.length hC, rfl⟩) (fun w2 h => by subst h; rw [x_put_self is ws w2 hC]; exact kk)

set_option maxHeartbeats 1000000 in
theorem x_callI {b : Nat} (X : xR l G E own nm cc nL R Z K) (hM : xM l G E' y cc' n' none fr' lo' mc' ms' (.ref b :: As) wc r' Fin') (hE1 : xEok E') (hE2 : ∀ A U, E A U → E' A U) (is : List Nat) (hC : is.map (fun i => ws[i]?) = wc.map some) (hnd : va_nd is = true) (hst : st = As.reverse ++ .ref b :: rest) (hco : Cond.code y cc' n' none ∈ wU) (hini : Cond.initialized y.cls ∈ wU) (hd : xCd y As.length) (hlk : Cond.methodLink own idx y ∈ wU) (hin : Cond.instanceMethod y ∈ wU) (hy1 : y.name = "<init>") (hroom : fr' + 1 ≤ R.frames ∧ 8 + (n' + 11) + lo' ≤ R.locals ∧ k + mc' ≤ R.cells ∧ z + ms' ≤ R.slots) (hrest : (rest.map fun v => v.category).sum ≤ 8) (hdg : decode cc pc = .ok (.invokespecial idx, 3)) (hsk : ∀ w2, Fin' w2 → is.length = w2.length ∧ w2.map Prod.fst = wc.map Prod.fst) (kk : ∀ w2, Fin' w2 → K (x_put_ws ws is w2) (k + mc') (z + ms') (pc + 3) lv (r'.toList ++ rest)) : K ws k z pc lv st := by
  obtain ⟨p, e, s, m, args, below, meth, c, Q, A, hx, hb, hml, hown, hts, hK, hE, hA, hnm, rfl, hZ⟩ := X
  intro H locs ls hP hD hS hl
  have hPc := hP.sub (ws' := wc) is (x_fm hC)
  have hDc := hD.sub (ws' := wc) is hnd hC
  have hFc := va_free (wc := wc) hD hS hA is hC
  have hW0 : ∀ w ∈ ((.code y cc' n' none :: wU : List Cond)), w ∈ wU := by
    intro w hw
    rcases List.mem_cons.mp hw with rfl | hw; exact hco; exact hw
  refine x_go (va_runI (As := As) ⟨hx, hb, hml, hown, hts⟩ (hM H.size) (cwI As.length hts (good_wU hW0) rfl rfl rfl (hts _ hini) (hts _ hlk) (hts _ hin) hy1 hd ⟨hroom.1, hroom.2.1⟩) ⟨fun a U g mk q => ⟨q.1, q.2.1, q.2.2.1, q.2.2.2.1.call, q.2.2.2.2.1, hE1.1 _ _ _ _ _ q.2.2.2.2.2⟩, fun U hU hW => ⟨rfl, by rw [hU], by rw [hU]; exact hPc, hK.warm hW, hDc.weaken (fun _ _ _ _ => trivial), hE1.2 A _ s U hW (fun q h1 h2 => by rw [hU]; exact hS.2.1 q h1 h2) (fun q h => hFc q h) (hE2 _ _ hE)⟩⟩ rfl rfl hl.1 hst (lv_room hrest) hdg ⟨hroom.2.2.1, hroom.2.2.2⟩) hS (fun q _ h => hFc q h) hFc (fun t H1 locs1 ht hB hz1 hk1 hS1 => ?_)
  obtain ⟨w2, hF, hP1, hD1⟩ := hB
  rw [ht] at hP1
  obtain ⟨hlen, hadr⟩ := hsk w2 hF
  obtain ⟨hP2, hD2⟩ := x_upd hP hD is hC hlen hadr hk1 hP1
  exact kk w2 hF H1 locs1 ls hP2 hD2 hS1 hl

theorem x_callIf0 {b : Nat} (X : xR l G E own nm cc nL R Z K) (hM : xM l G E' y cc' n' none fr' lo' mc' ms' (.ref b :: As) wc (none) (fun w2 => w2 = w1)) (hE1 : xEok E') (hE2 : ∀ A U, E A U → E' A U) (is : List Nat) (hC : is.map (fun i => ws[i]?) = wc.map some) (hnd : va_nd is = true) (hst : st = As.reverse ++ .ref b :: rest) (hco : Cond.code y cc' n' none ∈ wU) (hini : Cond.initialized y.cls ∈ wU) (hd : xCd y As.length) (hlk : Cond.methodLink own idx y ∈ wU) (hin : Cond.instanceMethod y ∈ wU) (hy1 : y.name = "<init>") (hroom : fr' + 1 ≤ R.frames ∧ 8 + (n' + 11) + lo' ≤ R.locals ∧ k + mc' ≤ R.cells ∧ z + ms' ≤ R.slots) (hrest : (rest.map fun v => v.category).sum ≤ 8) (hdg : decode cc pc = .ok (.invokespecial idx, 3)) (hlen : is.length = w1.length) (hadr : w1.map Prod.fst = wc.map Prod.fst) (hws : x_put_ws ws is w1 = ws') (kk : K ws' (k + mc') (z + ms') (pc + 3) lv (rest)) : K ws k z pc lv st :=
  x_callI X hM hE1 hE2 is hC hnd hst hco hini hd hlk hin hy1 hroom hrest hdg (fun w2 h => by subst h; exact ⟨hlen, hadr⟩) (fun w2 h => by subst h; rw [hws]; exact kk)

theorem x_callIr0 {b : Nat} (X : xR l G E own nm cc nL R Z K) (hM : xM l G E' y cc' n' none fr' lo' mc' ms' (.ref b :: As) wc (none) (fun w2 => w2 = wc)) (hE1 : xEok E') (hE2 : ∀ A U, E A U → E' A U) (is : List Nat) (hC : is.map (fun i => ws[i]?) = wc.map some) (hnd : va_nd is = true) (hst : st = As.reverse ++ .ref b :: rest) (hco : Cond.code y cc' n' none ∈ wU) (hini : Cond.initialized y.cls ∈ wU) (hd : xCd y As.length) (hlk : Cond.methodLink own idx y ∈ wU) (hin : Cond.instanceMethod y ∈ wU) (hy1 : y.name = "<init>") (hroom : fr' + 1 ≤ R.frames ∧ 8 + (n' + 11) + lo' ≤ R.locals ∧ k + mc' ≤ R.cells ∧ z + ms' ≤ R.slots) (hrest : (rest.map fun v => v.category).sum ≤ 8) (hdg : decode cc pc = .ok (.invokespecial idx, 3)) (kk : K ws (k + mc') (z + ms') (pc + 3) lv (rest)) : K ws k z pc lv st :=
  x_callI X hM hE1 hE2 is hC hnd hst hco hini hd hlk hin hy1 hroom hrest hdg (fun w2 h => by subst h; exact ⟨by simpa using congrArg List.length hC, rfl⟩) (fun w2 h => by subst h; rw [x_put_self is ws w2 hC]; exact kk)

set_option maxHeartbeats 1000000 in
theorem x_callIa {b : Nat} (X : xR l G E own nm cc nL R Z K) (hM : xM l G E' y cc' n' none fr' lo' mc' ms' (.ref b :: As) wc r' Fin') (hE1 : xEok E') (hE2 : ∀ A U, E A U → E' A U) (is : List Nat) (hC : is.map (fun i => ws[i]?) = wc.map some) (hnd : va_nd is = true) (hst : st = As.reverse ++ .ref b :: rest) (hco : Cond.code y cc' n' none ∈ wU) (hini : Cond.initialized y.cls ∈ wU) (hd : xCd y As.length) (hlk : Cond.methodLink own idx y ∈ wU) (hin : Cond.instanceMethod y ∈ wU) (hy1 : y.name = "<init>") (hroom : fr' + 1 ≤ R.frames ∧ 8 + (n' + 11) + lo' ≤ R.locals ∧ k + mc' ≤ R.cells ∧ z + ms' ≤ R.slots) (hrest : (rest.map fun v => v.category).sum ≤ 8) (hdg : decode cc pc = .ok (.invokespecial idx, 3)) {wr : va_W} (isR : List Nat) (hR : isR.map (fun i => ws[i]?) = wr.map some) (hnR : va_nd isR = true) (hdis : ∀ i ∈ isR, i ∉ is) (kk : ∀ w2, Fin' w2 → K (wr ++ w2) (k + mc') (z + ms') (pc + 3) lv (r'.toList ++ rest)) : K ws k z pc lv st := by
  obtain ⟨p, e, s, m, args, below, meth, c, Q, A, hx, hb, hml, hown, hts, hK, hE, hA, hnm, rfl, hZ⟩ := X
  intro H locs ls hP hD hS hl
  have hPc := hP.sub (ws' := wc) is (x_fm hC)
  have hDc := hD.sub (ws' := wc) is hnd hC
  have hFc := va_free (wc := wc) hD hS hA is hC
  have hW0 : ∀ w ∈ ((.code y cc' n' none :: wU : List Cond)), w ∈ wU := by
    intro w hw
    rcases List.mem_cons.mp hw with rfl | hw; exact hco; exact hw
  refine x_go (va_runI (As := As) ⟨hx, hb, hml, hown, hts⟩ (hM H.size) (cwI As.length hts (good_wU hW0) rfl rfl rfl (hts _ hini) (hts _ hlk) (hts _ hin) hy1 hd ⟨hroom.1, hroom.2.1⟩) ⟨fun a U g mk q => ⟨q.1, q.2.1, q.2.2.1, q.2.2.2.1.call, q.2.2.2.2.1, hE1.1 _ _ _ _ _ q.2.2.2.2.2⟩, fun U hU hW => ⟨rfl, by rw [hU], by rw [hU]; exact hPc, hK.warm hW, hDc.weaken (fun _ _ _ _ => trivial), hE1.2 A _ s U hW (fun q h1 h2 => by rw [hU]; exact hS.2.1 q h1 h2) (fun q h => hFc q h) (hE2 _ _ hE)⟩⟩ rfl rfl hl.1 hst (lv_room hrest) hdg ⟨hroom.2.2.1, hroom.2.2.2⟩) hS (fun q _ h => hFc q h) hFc (fun t H1 locs1 ht hB hz1 hk1 hS1 => ?_)
  obtain ⟨w2, hF, hP1, hD1⟩ := hB
  rw [ht] at hP1
  obtain ⟨hP2, hD2⟩ := va_join hP hD is isR hC hR hnR hdis hk1 hFc hP1 hD1
  exact kk w2 hF H1 locs1 ls hP2 hD2 hS1 hl

end XD
end
