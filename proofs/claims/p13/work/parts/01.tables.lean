-- ===== PART A: goes FIRST, ahead of the names: the tables' words, and 'selects' of the private methods out of them =====
/-- a private method of a class that the tables say can be made, by its rows of tables_1 -/
def lw_okq (q : MethodName × Nat) : Prop := (q.1.cls ≠ "java/lang/invoke/MethodHandle" ∧ q.1.cls ≠ "java/lang/invoke/VarHandle") ∧ Cond.instantiable q.1.cls q.2 ∈ tables_1 ∧ Cond.privateMethod q.1 ∈ tables_1 ∧ Cond.instanceMethod q.1 ∈ tables_1
theorem lw_p0 : lw_okq (⟨"java/lang/Throwable", "fillInStackTrace", "(I)Ljava/lang/Throwable;"⟩, 6) := ⟨⟨by decide +kernel, by decide +kernel⟩, List.mem_of_getElem? (i := 374) (by decide +kernel), List.mem_of_getElem? (i := 372) (by decide +kernel), List.mem_of_getElem? (i := 373) (by decide +kernel)⟩
theorem lw_p1 : lw_okq (⟨"TypeBook$Looks", "has", "(I)Z"⟩, 6) := ⟨⟨by decide +kernel, by decide +kernel⟩, List.mem_of_getElem? (i := 195) (by decide +kernel), List.mem_of_getElem? (i := 461) (by decide +kernel), List.mem_of_getElem? (i := 462) (by decide +kernel)⟩
theorem lw_p2 : lw_okq (⟨"TypeBook$Looker", "hideBelowAttributes", "(I)V"⟩, 8) := ⟨⟨by decide +kernel, by decide +kernel⟩, List.mem_of_getElem? (i := 227) (by decide +kernel), List.mem_of_getElem? (i := 524) (by decide +kernel), List.mem_of_getElem? (i := 525) (by decide +kernel)⟩
theorem lw_p3 : lw_okq (⟨"TypeBook$Looker", "isHidden", "(I)Z"⟩, 8) := ⟨⟨by decide +kernel, by decide +kernel⟩, List.mem_of_getElem? (i := 227) (by decide +kernel), List.mem_of_getElem? (i := 533) (by decide +kernel), List.mem_of_getElem? (i := 534) (by decide +kernel)⟩
theorem lw_p4 : lw_okq (⟨"TypeBook$Looker", "lookAt", "(I)I"⟩, 8) := ⟨⟨by decide +kernel, by decide +kernel⟩, List.mem_of_getElem? (i := 227) (by decide +kernel), List.mem_of_getElem? (i := 537) (by decide +kernel), List.mem_of_getElem? (i := 538) (by decide +kernel)⟩
theorem lw_p5 : lw_okq (⟨"TypeBook$Names", "has", "(I)Z"⟩, 9) := ⟨⟨by decide +kernel, by decide +kernel⟩, List.mem_of_getElem? (i := 61) (by decide +kernel), List.mem_of_getElem? (i := 558) (by decide +kernel), List.mem_of_getElem? (i := 559) (by decide +kernel)⟩
theorem lw_p6 : lw_okq (⟨"TypeBook$Meanings", "noteObject", "(II)V"⟩, 5) := ⟨⟨by decide +kernel, by decide +kernel⟩, List.mem_of_getElem? (i := 245) (by decide +kernel), List.mem_of_getElem? (i := 570) (by decide +kernel), List.mem_of_getElem? (i := 571) (by decide +kernel)⟩
theorem lw_p7 : lw_okq (⟨"TypeBook$Objects", "has", "(I)Z"⟩, 5) := ⟨⟨by decide +kernel, by decide +kernel⟩, List.mem_of_getElem? (i := 159) (by decide +kernel), List.mem_of_getElem? (i := 578) (by decide +kernel), List.mem_of_getElem? (i := 579) (by decide +kernel)⟩
theorem lw_p8 : lw_okq (⟨"TypeBook$Meanings", "isConstant", "(I)Z"⟩, 5) := ⟨⟨by decide +kernel, by decide +kernel⟩, List.mem_of_getElem? (i := 245) (by decide +kernel), List.mem_of_getElem? (i := 602) (by decide +kernel), List.mem_of_getElem? (i := 603) (by decide +kernel)⟩
theorem lw_p9 : lw_okq (⟨"TypeBook$Rows", "has", "(I)Z"⟩, 1) := ⟨⟨by decide +kernel, by decide +kernel⟩, List.mem_of_getElem? (i := 165) (by decide +kernel), List.mem_of_getElem? (i := 630) (by decide +kernel), List.mem_of_getElem? (i := 631) (by decide +kernel)⟩
theorem lw_p10 : lw_okq (⟨"TypeBook$Meanings", "noteValue", "(IIII)V"⟩, 5) := ⟨⟨by decide +kernel, by decide +kernel⟩, List.mem_of_getElem? (i := 245) (by decide +kernel), List.mem_of_getElem? (i := 639) (by decide +kernel), List.mem_of_getElem? (i := 640) (by decide +kernel)⟩
theorem lw_p11 : lw_okq (⟨"TypeBook$Looker", "leaf", "(III)I"⟩, 8) := ⟨⟨by decide +kernel, by decide +kernel⟩, List.mem_of_getElem? (i := 227) (by decide +kernel), List.mem_of_getElem? (i := 644) (by decide +kernel), List.mem_of_getElem? (i := 645) (by decide +kernel)⟩
theorem lw_p12 : lw_okq (⟨"TypeBook$Looker", "signs", "(I)I"⟩, 8) := ⟨⟨by decide +kernel, by decide +kernel⟩, List.mem_of_getElem? (i := 227) (by decide +kernel), List.mem_of_getElem? (i := 652) (by decide +kernel), List.mem_of_getElem? (i := 653) (by decide +kernel)⟩
theorem lw_p13 : lw_okq (⟨"TypeBook$Looker", "isOperator", "(III)Z"⟩, 8) := ⟨⟨by decide +kernel, by decide +kernel⟩, List.mem_of_getElem? (i := 227) (by decide +kernel), List.mem_of_getElem? (i := 662) (by decide +kernel), List.mem_of_getElem? (i := 663) (by decide +kernel)⟩
theorem lw_p14 : lw_okq (⟨"TypeBook$Operators", "computeUnary", "(III)V"⟩, 1) := ⟨⟨by decide +kernel, by decide +kernel⟩, List.mem_of_getElem? (i := 235) (by decide +kernel), List.mem_of_getElem? (i := 683) (by decide +kernel), List.mem_of_getElem? (i := 684) (by decide +kernel)⟩
theorem lw_p15 : lw_okq (⟨"TypeBook$Operators", "resultClass", "(III)I"⟩, 1) := ⟨⟨by decide +kernel, by decide +kernel⟩, List.mem_of_getElem? (i := 235) (by decide +kernel), List.mem_of_getElem? (i := 715) (by decide +kernel), List.mem_of_getElem? (i := 716) (by decide +kernel)⟩
def lw_privs_1 : List (MethodName × Nat) := [(⟨"java/lang/Throwable", "fillInStackTrace", "(I)Ljava/lang/Throwable;"⟩, 6), (⟨"TypeBook$Looks", "has", "(I)Z"⟩, 6), (⟨"TypeBook$Looker", "hideBelowAttributes", "(I)V"⟩, 8), (⟨"TypeBook$Looker", "isHidden", "(I)Z"⟩, 8), (⟨"TypeBook$Looker", "lookAt", "(I)I"⟩, 8), (⟨"TypeBook$Names", "has", "(I)Z"⟩, 9), (⟨"TypeBook$Meanings", "noteObject", "(II)V"⟩, 5), (⟨"TypeBook$Objects", "has", "(I)Z"⟩, 5), (⟨"TypeBook$Meanings", "isConstant", "(I)Z"⟩, 5), (⟨"TypeBook$Rows", "has", "(I)Z"⟩, 1), (⟨"TypeBook$Meanings", "noteValue", "(IIII)V"⟩, 5), (⟨"TypeBook$Looker", "leaf", "(III)I"⟩, 8), (⟨"TypeBook$Looker", "signs", "(I)I"⟩, 8), (⟨"TypeBook$Looker", "isOperator", "(III)Z"⟩, 8), (⟨"TypeBook$Operators", "computeUnary", "(III)V"⟩, 1), (⟨"TypeBook$Operators", "resultClass", "(III)I"⟩, 1)]
theorem lw_r1 : ∀ q ∈ lw_privs_1, lw_okq q := List.forall_mem_cons.mpr ⟨lw_p0, List.forall_mem_cons.mpr ⟨lw_p1, List.forall_mem_cons.mpr ⟨lw_p2, List.forall_mem_cons.mpr ⟨lw_p3, List.forall_mem_cons.mpr ⟨lw_p4, List.forall_mem_cons.mpr ⟨lw_p5, List.forall_mem_cons.mpr ⟨lw_p6, List.forall_mem_cons.mpr ⟨lw_p7, List.forall_mem_cons.mpr ⟨lw_p8, List.forall_mem_cons.mpr ⟨lw_p9, List.forall_mem_cons.mpr ⟨lw_p10, List.forall_mem_cons.mpr ⟨lw_p11, List.forall_mem_cons.mpr ⟨lw_p12, List.forall_mem_cons.mpr ⟨lw_p13, List.forall_mem_cons.mpr ⟨lw_p14, List.forall_mem_cons.mpr ⟨lw_p15, fun _ h => absurd h List.not_mem_nil⟩⟩⟩⟩⟩⟩⟩⟩⟩⟩⟩⟩⟩⟩⟩⟩
theorem lw_p16 : lw_okq (⟨"TypeBook$Operators", "areOfOneClass", "(II)Z"⟩, 1) := ⟨⟨by decide +kernel, by decide +kernel⟩, List.mem_of_getElem? (i := 235) (by decide +kernel), List.mem_of_getElem? (i := 719) (by decide +kernel), List.mem_of_getElem? (i := 720) (by decide +kernel)⟩
theorem lw_p17 : lw_okq (⟨"TypeBook$Operators", "resultLength", "(III)I"⟩, 1) := ⟨⟨by decide +kernel, by decide +kernel⟩, List.mem_of_getElem? (i := 235) (by decide +kernel), List.mem_of_getElem? (i := 723) (by decide +kernel), List.mem_of_getElem? (i := 724) (by decide +kernel)⟩
theorem lw_p18 : lw_okq (⟨"TypeBook$Operators", "widthOf", "(I)I"⟩, 1) := ⟨⟨by decide +kernel, by decide +kernel⟩, List.mem_of_getElem? (i := 235) (by decide +kernel), List.mem_of_getElem? (i := 727) (by decide +kernel), List.mem_of_getElem? (i := 728) (by decide +kernel)⟩
theorem lw_p19 : lw_okq (⟨"TypeBook$Operators", "calculate", "(IIJJ)I"⟩, 1) := ⟨⟨by decide +kernel, by decide +kernel⟩, List.mem_of_getElem? (i := 235) (by decide +kernel), List.mem_of_getElem? (i := 731) (by decide +kernel), List.mem_of_getElem? (i := 732) (by decide +kernel)⟩
theorem lw_p20 : lw_okq (⟨"TypeBook$Operators", "combine", "(IIII)V"⟩, 1) := ⟨⟨by decide +kernel, by decide +kernel⟩, List.mem_of_getElem? (i := 235) (by decide +kernel), List.mem_of_getElem? (i := 743) (by decide +kernel), List.mem_of_getElem? (i := 744) (by decide +kernel)⟩
theorem lw_p21 : lw_okq (⟨"TypeBook$Operators", "areAlike", "(II)Z"⟩, 1) := ⟨⟨by decide +kernel, by decide +kernel⟩, List.mem_of_getElem? (i := 235) (by decide +kernel), List.mem_of_getElem? (i := 766) (by decide +kernel), List.mem_of_getElem? (i := 767) (by decide +kernel)⟩
theorem lw_p22 : lw_okq (⟨"TypeBook$Operators", "isOrdered", "(III)Z"⟩, 1) := ⟨⟨by decide +kernel, by decide +kernel⟩, List.mem_of_getElem? (i := 235) (by decide +kernel), List.mem_of_getElem? (i := 770) (by decide +kernel), List.mem_of_getElem? (i := 771) (by decide +kernel)⟩
theorem lw_p23 : lw_okq (⟨"TypeBook$Operators", "isClear", "(I)Z"⟩, 1) := ⟨⟨by decide +kernel, by decide +kernel⟩, List.mem_of_getElem? (i := 235) (by decide +kernel), List.mem_of_getElem? (i := 777) (by decide +kernel), List.mem_of_getElem? (i := 778) (by decide +kernel)⟩
theorem lw_p24 : lw_okq (⟨"TypeBook$Operators", "countsAs", "(I)J"⟩, 1) := ⟨⟨by decide +kernel, by decide +kernel⟩, List.mem_of_getElem? (i := 235) (by decide +kernel), List.mem_of_getElem? (i := 787) (by decide +kernel), List.mem_of_getElem? (i := 788) (by decide +kernel)⟩
theorem lw_p25 : lw_okq (⟨"TypeBook$Operators", "sumRows", "(IIII)V"⟩, 1) := ⟨⟨by decide +kernel, by decide +kernel⟩, List.mem_of_getElem? (i := 235) (by decide +kernel), List.mem_of_getElem? (i := 800) (by decide +kernel), List.mem_of_getElem? (i := 801) (by decide +kernel)⟩
theorem lw_p26 : lw_okq (⟨"TypeBook$Operators", "join", "(III)V"⟩, 1) := ⟨⟨by decide +kernel, by decide +kernel⟩, List.mem_of_getElem? (i := 235) (by decide +kernel), List.mem_of_getElem? (i := 813) (by decide +kernel), List.mem_of_getElem? (i := 814) (by decide +kernel)⟩
theorem lw_p27 : lw_okq (⟨"TypeBook$Operators", "elementOf", "(II)I"⟩, 1) := ⟨⟨by decide +kernel, by decide +kernel⟩, List.mem_of_getElem? (i := 235) (by decide +kernel), List.mem_of_getElem? (i := 817) (by decide +kernel), List.mem_of_getElem? (i := 818) (by decide +kernel)⟩
theorem lw_p28 : lw_okq (⟨"TypeBook$Operators", "shift", "(III)V"⟩, 1) := ⟨⟨by decide +kernel, by decide +kernel⟩, List.mem_of_getElem? (i := 235) (by decide +kernel), List.mem_of_getElem? (i := 821) (by decide +kernel), List.mem_of_getElem? (i := 822) (by decide +kernel)⟩
theorem lw_p29 : lw_okq (⟨"TypeBook$Meanings", "applyFunction", "(II)I"⟩, 5) := ⟨⟨by decide +kernel, by decide +kernel⟩, List.mem_of_getElem? (i := 245) (by decide +kernel), List.mem_of_getElem? (i := 829) (by decide +kernel), List.mem_of_getElem? (i := 830) (by decide +kernel)⟩
theorem lw_p30 : lw_okq (⟨"TypeBook$Meanings", "numberOfRow", "(II)I"⟩, 5) := ⟨⟨by decide +kernel, by decide +kernel⟩, List.mem_of_getElem? (i := 245) (by decide +kernel), List.mem_of_getElem? (i := 833) (by decide +kernel), List.mem_of_getElem? (i := 834) (by decide +kernel)⟩
theorem lw_p31 : lw_okq (⟨"TypeBook$Meanings", "bits", "(III)I"⟩, 5) := ⟨⟨by decide +kernel, by decide +kernel⟩, List.mem_of_getElem? (i := 245) (by decide +kernel), List.mem_of_getElem? (i := 844) (by decide +kernel), List.mem_of_getElem? (i := 845) (by decide +kernel)⟩
def lw_privs_2 : List (MethodName × Nat) := [(⟨"TypeBook$Operators", "areOfOneClass", "(II)Z"⟩, 1), (⟨"TypeBook$Operators", "resultLength", "(III)I"⟩, 1), (⟨"TypeBook$Operators", "widthOf", "(I)I"⟩, 1), (⟨"TypeBook$Operators", "calculate", "(IIJJ)I"⟩, 1), (⟨"TypeBook$Operators", "combine", "(IIII)V"⟩, 1), (⟨"TypeBook$Operators", "areAlike", "(II)Z"⟩, 1), (⟨"TypeBook$Operators", "isOrdered", "(III)Z"⟩, 1), (⟨"TypeBook$Operators", "isClear", "(I)Z"⟩, 1), (⟨"TypeBook$Operators", "countsAs", "(I)J"⟩, 1), (⟨"TypeBook$Operators", "sumRows", "(IIII)V"⟩, 1), (⟨"TypeBook$Operators", "join", "(III)V"⟩, 1), (⟨"TypeBook$Operators", "elementOf", "(II)I"⟩, 1), (⟨"TypeBook$Operators", "shift", "(III)V"⟩, 1), (⟨"TypeBook$Meanings", "applyFunction", "(II)I"⟩, 5), (⟨"TypeBook$Meanings", "numberOfRow", "(II)I"⟩, 5), (⟨"TypeBook$Meanings", "bits", "(III)I"⟩, 5)]
theorem lw_r2 : ∀ q ∈ lw_privs_2, lw_okq q := List.forall_mem_cons.mpr ⟨lw_p16, List.forall_mem_cons.mpr ⟨lw_p17, List.forall_mem_cons.mpr ⟨lw_p18, List.forall_mem_cons.mpr ⟨lw_p19, List.forall_mem_cons.mpr ⟨lw_p20, List.forall_mem_cons.mpr ⟨lw_p21, List.forall_mem_cons.mpr ⟨lw_p22, List.forall_mem_cons.mpr ⟨lw_p23, List.forall_mem_cons.mpr ⟨lw_p24, List.forall_mem_cons.mpr ⟨lw_p25, List.forall_mem_cons.mpr ⟨lw_p26, List.forall_mem_cons.mpr ⟨lw_p27, List.forall_mem_cons.mpr ⟨lw_p28, List.forall_mem_cons.mpr ⟨lw_p29, List.forall_mem_cons.mpr ⟨lw_p30, List.forall_mem_cons.mpr ⟨lw_p31, fun _ h => absurd h List.not_mem_nil⟩⟩⟩⟩⟩⟩⟩⟩⟩⟩⟩⟩⟩⟩⟩⟩
theorem lw_p32 : lw_okq (⟨"TypeBook$Meanings", "edge", "(II)I"⟩, 5) := ⟨⟨by decide +kernel, by decide +kernel⟩, List.mem_of_getElem? (i := 245) (by decide +kernel), List.mem_of_getElem? (i := 850) (by decide +kernel), List.mem_of_getElem? (i := 851) (by decide +kernel)⟩
theorem lw_p33 : lw_okq (⟨"TypeBook$Meanings", "objectAt", "(I)I"⟩, 5) := ⟨⟨by decide +kernel, by decide +kernel⟩, List.mem_of_getElem? (i := 245) (by decide +kernel), List.mem_of_getElem? (i := 859) (by decide +kernel), List.mem_of_getElem? (i := 860) (by decide +kernel)⟩
theorem lw_p34 : lw_okq (⟨"TypeBook$Meanings", "isRow", "(I)Z"⟩, 5) := ⟨⟨by decide +kernel, by decide +kernel⟩, List.mem_of_getElem? (i := 245) (by decide +kernel), List.mem_of_getElem? (i := 863) (by decide +kernel), List.mem_of_getElem? (i := 864) (by decide +kernel)⟩
theorem lw_p35 : lw_okq (⟨"TypeBook$Meanings", "element", "(III)I"⟩, 5) := ⟨⟨by decide +kernel, by decide +kernel⟩, List.mem_of_getElem? (i := 245) (by decide +kernel), List.mem_of_getElem? (i := 867) (by decide +kernel), List.mem_of_getElem? (i := 868) (by decide +kernel)⟩
theorem lw_p36 : lw_okq (⟨"TypeBook$Meanings", "isUnknown", "(I)Z"⟩, 5) := ⟨⟨by decide +kernel, by decide +kernel⟩, List.mem_of_getElem? (i := 245) (by decide +kernel), List.mem_of_getElem? (i := 888) (by decide +kernel), List.mem_of_getElem? (i := 889) (by decide +kernel)⟩
theorem lw_p37 : lw_okq (⟨"TypeBook$Meanings", "cut", "(IIII)I"⟩, 5) := ⟨⟨by decide +kernel, by decide +kernel⟩, List.mem_of_getElem? (i := 245) (by decide +kernel), List.mem_of_getElem? (i := 892) (by decide +kernel), List.mem_of_getElem? (i := 893) (by decide +kernel)⟩
theorem lw_p38 : lw_okq (⟨"TypeBook$Meanings", "noteAttribute", "(III)V"⟩, 5) := ⟨⟨by decide +kernel, by decide +kernel⟩, List.mem_of_getElem? (i := 245) (by decide +kernel), List.mem_of_getElem? (i := 902) (by decide +kernel), List.mem_of_getElem? (i := 903) (by decide +kernel)⟩
theorem lw_p39 : lw_okq (⟨"TypeBook$Meanings", "boundOf", "(II)I"⟩, 5) := ⟨⟨by decide +kernel, by decide +kernel⟩, List.mem_of_getElem? (i := 245) (by decide +kernel), List.mem_of_getElem? (i := 906) (by decide +kernel), List.mem_of_getElem? (i := 907) (by decide +kernel)⟩
theorem lw_p40 : lw_okq (⟨"TypeBook", "refused", "(II)I"⟩, 7) := ⟨⟨by decide +kernel, by decide +kernel⟩, List.mem_of_getElem? (i := 25) (by decide +kernel), List.mem_of_getElem? (i := 918) (by decide +kernel), List.mem_of_getElem? (i := 919) (by decide +kernel)⟩
theorem lw_p41 : lw_okq (⟨"TypeBook$Looker", "namedTypeFault", "(I)I"⟩, 8) := ⟨⟨by decide +kernel, by decide +kernel⟩, List.mem_of_getElem? (i := 227) (by decide +kernel), List.mem_of_getElem? (i := 926) (by decide +kernel), List.mem_of_getElem? (i := 927) (by decide +kernel)⟩
theorem lw_p42 : lw_okq (⟨"TypeBook", "malformedEnumNode", "(I)I"⟩, 7) := ⟨⟨by decide +kernel, by decide +kernel⟩, List.mem_of_getElem? (i := 25) (by decide +kernel), List.mem_of_getElem? (i := 978) (by decide +kernel), List.mem_of_getElem? (i := 979) (by decide +kernel)⟩
theorem lw_p43 : lw_okq (⟨"TypeBook", "takenEnumNode", "(I)I"⟩, 7) := ⟨⟨by decide +kernel, by decide +kernel⟩, List.mem_of_getElem? (i := 25) (by decide +kernel), List.mem_of_getElem? (i := 984) (by decide +kernel), List.mem_of_getElem? (i := 985) (by decide +kernel)⟩
theorem lw_p44 : lw_okq (⟨"TypeBook", "isNameOfOneBefore", "(II)Z"⟩, 7) := ⟨⟨by decide +kernel, by decide +kernel⟩, List.mem_of_getElem? (i := 25) (by decide +kernel), List.mem_of_getElem? (i := 994) (by decide +kernel), List.mem_of_getElem? (i := 995) (by decide +kernel)⟩
theorem lw_p45 : lw_okq (⟨"TypeBook$Looker", "classMisfit", "(II)I"⟩, 8) := ⟨⟨by decide +kernel, by decide +kernel⟩, List.mem_of_getElem? (i := 227) (by decide +kernel), List.mem_of_getElem? (i := 1028) (by decide +kernel), List.mem_of_getElem? (i := 1029) (by decide +kernel)⟩
theorem lw_p46 : lw_okq (⟨"TypeBook$Looker", "isOutside", "(II)Z"⟩, 8) := ⟨⟨by decide +kernel, by decide +kernel⟩, List.mem_of_getElem? (i := 227) (by decide +kernel), List.mem_of_getElem? (i := 1038) (by decide +kernel), List.mem_of_getElem? (i := 1039) (by decide +kernel)⟩
theorem lw_p47 : lw_okq (⟨"TypeBookModel", "newType", "(IIIIZ)I"⟩, 35) := ⟨⟨by decide +kernel, by decide +kernel⟩, List.mem_of_getElem? (i := 1101) (by decide +kernel), List.mem_of_getElem? (i := 1108) (by decide +kernel), List.mem_of_getElem? (i := 1109) (by decide +kernel)⟩
def lw_privs_3 : List (MethodName × Nat) := [(⟨"TypeBook$Meanings", "edge", "(II)I"⟩, 5), (⟨"TypeBook$Meanings", "objectAt", "(I)I"⟩, 5), (⟨"TypeBook$Meanings", "isRow", "(I)Z"⟩, 5), (⟨"TypeBook$Meanings", "element", "(III)I"⟩, 5), (⟨"TypeBook$Meanings", "isUnknown", "(I)Z"⟩, 5), (⟨"TypeBook$Meanings", "cut", "(IIII)I"⟩, 5), (⟨"TypeBook$Meanings", "noteAttribute", "(III)V"⟩, 5), (⟨"TypeBook$Meanings", "boundOf", "(II)I"⟩, 5), (⟨"TypeBook", "refused", "(II)I"⟩, 7), (⟨"TypeBook$Looker", "namedTypeFault", "(I)I"⟩, 8), (⟨"TypeBook", "malformedEnumNode", "(I)I"⟩, 7), (⟨"TypeBook", "takenEnumNode", "(I)I"⟩, 7), (⟨"TypeBook", "isNameOfOneBefore", "(II)Z"⟩, 7), (⟨"TypeBook$Looker", "classMisfit", "(II)I"⟩, 8), (⟨"TypeBook$Looker", "isOutside", "(II)Z"⟩, 8), (⟨"TypeBookModel", "newType", "(IIIIZ)I"⟩, 35)]
theorem lw_r3 : ∀ q ∈ lw_privs_3, lw_okq q := List.forall_mem_cons.mpr ⟨lw_p32, List.forall_mem_cons.mpr ⟨lw_p33, List.forall_mem_cons.mpr ⟨lw_p34, List.forall_mem_cons.mpr ⟨lw_p35, List.forall_mem_cons.mpr ⟨lw_p36, List.forall_mem_cons.mpr ⟨lw_p37, List.forall_mem_cons.mpr ⟨lw_p38, List.forall_mem_cons.mpr ⟨lw_p39, List.forall_mem_cons.mpr ⟨lw_p40, List.forall_mem_cons.mpr ⟨lw_p41, List.forall_mem_cons.mpr ⟨lw_p42, List.forall_mem_cons.mpr ⟨lw_p43, List.forall_mem_cons.mpr ⟨lw_p44, List.forall_mem_cons.mpr ⟨lw_p45, List.forall_mem_cons.mpr ⟨lw_p46, List.forall_mem_cons.mpr ⟨lw_p47, fun _ h => absurd h List.not_mem_nil⟩⟩⟩⟩⟩⟩⟩⟩⟩⟩⟩⟩⟩⟩⟩⟩
theorem lw_p48 : lw_okq (⟨"TypeBookModel", "noNode", "(I)Z"⟩, 35) := ⟨⟨by decide +kernel, by decide +kernel⟩, List.mem_of_getElem? (i := 1101) (by decide +kernel), List.mem_of_getElem? (i := 1248) (by decide +kernel), List.mem_of_getElem? (i := 1249) (by decide +kernel)⟩
theorem lw_p49 : lw_okq (⟨"TypeBookModel", "goThrough", "(II)I"⟩, 35) := ⟨⟨by decide +kernel, by decide +kernel⟩, List.mem_of_getElem? (i := 1101) (by decide +kernel), List.mem_of_getElem? (i := 1252) (by decide +kernel), List.mem_of_getElem? (i := 1253) (by decide +kernel)⟩
theorem lw_p50 : lw_okq (⟨"TypeBookModel", "below", "(II)Z"⟩, 35) := ⟨⟨by decide +kernel, by decide +kernel⟩, List.mem_of_getElem? (i := 1101) (by decide +kernel), List.mem_of_getElem? (i := 1256) (by decide +kernel), List.mem_of_getElem? (i := 1257) (by decide +kernel)⟩
theorem lw_p51 : lw_okq (⟨"TypeBookModel", "look", "(I)I"⟩, 35) := ⟨⟨by decide +kernel, by decide +kernel⟩, List.mem_of_getElem? (i := 1101) (by decide +kernel), List.mem_of_getElem? (i := 1260) (by decide +kernel), List.mem_of_getElem? (i := 1261) (by decide +kernel)⟩
theorem lw_p52 : lw_okq (⟨"TypeBookModel", "lookName", "(I)I"⟩, 35) := ⟨⟨by decide +kernel, by decide +kernel⟩, List.mem_of_getElem? (i := 1101) (by decide +kernel), List.mem_of_getElem? (i := 1264) (by decide +kernel), List.mem_of_getElem? (i := 1265) (by decide +kernel)⟩
theorem lw_p53 : lw_okq (⟨"TypeBookModel", "find", "(I)V"⟩, 35) := ⟨⟨by decide +kernel, by decide +kernel⟩, List.mem_of_getElem? (i := 1101) (by decide +kernel), List.mem_of_getElem? (i := 1268) (by decide +kernel), List.mem_of_getElem? (i := 1269) (by decide +kernel)⟩
theorem lw_p54 : lw_okq (⟨"TypeBookModel", "copy", "(II)V"⟩, 35) := ⟨⟨by decide +kernel, by decide +kernel⟩, List.mem_of_getElem? (i := 1101) (by decide +kernel), List.mem_of_getElem? (i := 1272) (by decide +kernel), List.mem_of_getElem? (i := 1273) (by decide +kernel)⟩
theorem lw_p55 : lw_okq (⟨"TypeBookModel", "element", "(II)I"⟩, 35) := ⟨⟨by decide +kernel, by decide +kernel⟩, List.mem_of_getElem? (i := 1101) (by decide +kernel), List.mem_of_getElem? (i := 1276) (by decide +kernel), List.mem_of_getElem? (i := 1277) (by decide +kernel)⟩
theorem lw_p56 : lw_okq (⟨"TypeBookModel", "setElement", "(III)V"⟩, 35) := ⟨⟨by decide +kernel, by decide +kernel⟩, List.mem_of_getElem? (i := 1101) (by decide +kernel), List.mem_of_getElem? (i := 1280) (by decide +kernel), List.mem_of_getElem? (i := 1281) (by decide +kernel)⟩
theorem lw_p57 : lw_okq (⟨"TypeBookModel", "factOfType", "(II)V"⟩, 35) := ⟨⟨by decide +kernel, by decide +kernel⟩, List.mem_of_getElem? (i := 1101) (by decide +kernel), List.mem_of_getElem? (i := 1284) (by decide +kernel), List.mem_of_getElem? (i := 1285) (by decide +kernel)⟩
theorem lw_p58 : lw_okq (⟨"TypeBookModel", "fact", "(IIIZ)V"⟩, 35) := ⟨⟨by decide +kernel, by decide +kernel⟩, List.mem_of_getElem? (i := 1101) (by decide +kernel), List.mem_of_getElem? (i := 1288) (by decide +kernel), List.mem_of_getElem? (i := 1289) (by decide +kernel)⟩
theorem lw_p59 : lw_okq (⟨"TypeBookModel", "lookRow", "(I)I"⟩, 35) := ⟨⟨by decide +kernel, by decide +kernel⟩, List.mem_of_getElem? (i := 1101) (by decide +kernel), List.mem_of_getElem? (i := 1292) (by decide +kernel), List.mem_of_getElem? (i := 1293) (by decide +kernel)⟩
theorem lw_p60 : lw_okq (⟨"TypeBookModel", "child", "(II)I"⟩, 35) := ⟨⟨by decide +kernel, by decide +kernel⟩, List.mem_of_getElem? (i := 1101) (by decide +kernel), List.mem_of_getElem? (i := 1296) (by decide +kernel), List.mem_of_getElem? (i := 1297) (by decide +kernel)⟩
theorem lw_p61 : lw_okq (⟨"TypeBookModel", "lookUnary", "(II)I"⟩, 35) := ⟨⟨by decide +kernel, by decide +kernel⟩, List.mem_of_getElem? (i := 1101) (by decide +kernel), List.mem_of_getElem? (i := 1300) (by decide +kernel), List.mem_of_getElem? (i := 1301) (by decide +kernel)⟩
theorem lw_p62 : lw_okq (⟨"TypeBookModel", "known", "(I)I"⟩, 35) := ⟨⟨by decide +kernel, by decide +kernel⟩, List.mem_of_getElem? (i := 1101) (by decide +kernel), List.mem_of_getElem? (i := 1304) (by decide +kernel), List.mem_of_getElem? (i := 1305) (by decide +kernel)⟩
theorem lw_p63 : lw_okq (⟨"TypeBookModel", "lookBinary", "(III)I"⟩, 35) := ⟨⟨by decide +kernel, by decide +kernel⟩, List.mem_of_getElem? (i := 1101) (by decide +kernel), List.mem_of_getElem? (i := 1317) (by decide +kernel), List.mem_of_getElem? (i := 1318) (by decide +kernel)⟩
def lw_privs_4 : List (MethodName × Nat) := [(⟨"TypeBookModel", "noNode", "(I)Z"⟩, 35), (⟨"TypeBookModel", "goThrough", "(II)I"⟩, 35), (⟨"TypeBookModel", "below", "(II)Z"⟩, 35), (⟨"TypeBookModel", "look", "(I)I"⟩, 35), (⟨"TypeBookModel", "lookName", "(I)I"⟩, 35), (⟨"TypeBookModel", "find", "(I)V"⟩, 35), (⟨"TypeBookModel", "copy", "(II)V"⟩, 35), (⟨"TypeBookModel", "element", "(II)I"⟩, 35), (⟨"TypeBookModel", "setElement", "(III)V"⟩, 35), (⟨"TypeBookModel", "factOfType", "(II)V"⟩, 35), (⟨"TypeBookModel", "fact", "(IIIZ)V"⟩, 35), (⟨"TypeBookModel", "lookRow", "(I)I"⟩, 35), (⟨"TypeBookModel", "child", "(II)I"⟩, 35), (⟨"TypeBookModel", "lookUnary", "(II)I"⟩, 35), (⟨"TypeBookModel", "known", "(I)I"⟩, 35), (⟨"TypeBookModel", "lookBinary", "(III)I"⟩, 35)]
theorem lw_r4 : ∀ q ∈ lw_privs_4, lw_okq q := List.forall_mem_cons.mpr ⟨lw_p48, List.forall_mem_cons.mpr ⟨lw_p49, List.forall_mem_cons.mpr ⟨lw_p50, List.forall_mem_cons.mpr ⟨lw_p51, List.forall_mem_cons.mpr ⟨lw_p52, List.forall_mem_cons.mpr ⟨lw_p53, List.forall_mem_cons.mpr ⟨lw_p54, List.forall_mem_cons.mpr ⟨lw_p55, List.forall_mem_cons.mpr ⟨lw_p56, List.forall_mem_cons.mpr ⟨lw_p57, List.forall_mem_cons.mpr ⟨lw_p58, List.forall_mem_cons.mpr ⟨lw_p59, List.forall_mem_cons.mpr ⟨lw_p60, List.forall_mem_cons.mpr ⟨lw_p61, List.forall_mem_cons.mpr ⟨lw_p62, List.forall_mem_cons.mpr ⟨lw_p63, fun _ h => absurd h List.not_mem_nil⟩⟩⟩⟩⟩⟩⟩⟩⟩⟩⟩⟩⟩⟩⟩⟩
theorem lw_p64 : lw_okq (⟨"TypeBookModel", "lookLogic", "(IIII)I"⟩, 35) := ⟨⟨by decide +kernel, by decide +kernel⟩, List.mem_of_getElem? (i := 1101) (by decide +kernel), List.mem_of_getElem? (i := 1321) (by decide +kernel), List.mem_of_getElem? (i := 1322) (by decide +kernel)⟩
theorem lw_p65 : lw_okq (⟨"TypeBookModel", "lookOrder", "(IIII)I"⟩, 35) := ⟨⟨by decide +kernel, by decide +kernel⟩, List.mem_of_getElem? (i := 1101) (by decide +kernel), List.mem_of_getElem? (i := 1334) (by decide +kernel), List.mem_of_getElem? (i := 1335) (by decide +kernel)⟩
theorem lw_p66 : lw_okq (⟨"TypeBookModel", "isClear", "(I)Z"⟩, 35) := ⟨⟨by decide +kernel, by decide +kernel⟩, List.mem_of_getElem? (i := 1101) (by decide +kernel), List.mem_of_getElem? (i := 1338) (by decide +kernel), List.mem_of_getElem? (i := 1339) (by decide +kernel)⟩
theorem lw_p67 : lw_okq (⟨"TypeBookModel", "lookSum", "(IZII)I"⟩, 35) := ⟨⟨by decide +kernel, by decide +kernel⟩, List.mem_of_getElem? (i := 1101) (by decide +kernel), List.mem_of_getElem? (i := 1342) (by decide +kernel), List.mem_of_getElem? (i := 1343) (by decide +kernel)⟩
theorem lw_p68 : lw_okq (⟨"TypeBookModel", "integer", "(IZJ)I"⟩, 35) := ⟨⟨by decide +kernel, by decide +kernel⟩, List.mem_of_getElem? (i := 1101) (by decide +kernel), List.mem_of_getElem? (i := 1346) (by decide +kernel), List.mem_of_getElem? (i := 1347) (by decide +kernel)⟩
theorem lw_p69 : lw_okq (⟨"TypeBookModel", "numberOf", "(I)J"⟩, 35) := ⟨⟨by decide +kernel, by decide +kernel⟩, List.mem_of_getElem? (i := 1101) (by decide +kernel), List.mem_of_getElem? (i := 1352) (by decide +kernel), List.mem_of_getElem? (i := 1353) (by decide +kernel)⟩
theorem lw_p70 : lw_okq (⟨"TypeBookModel", "bits", "(IJ)V"⟩, 35) := ⟨⟨by decide +kernel, by decide +kernel⟩, List.mem_of_getElem? (i := 1101) (by decide +kernel), List.mem_of_getElem? (i := 1357) (by decide +kernel), List.mem_of_getElem? (i := 1358) (by decide +kernel)⟩
theorem lw_p71 : lw_okq (⟨"TypeBookModel", "lookJoined", "(III)I"⟩, 35) := ⟨⟨by decide +kernel, by decide +kernel⟩, List.mem_of_getElem? (i := 1101) (by decide +kernel), List.mem_of_getElem? (i := 1361) (by decide +kernel), List.mem_of_getElem? (i := 1362) (by decide +kernel)⟩
theorem lw_p72 : lw_okq (⟨"TypeBookModel", "lookNumbers", "(IIII)I"⟩, 35) := ⟨⟨by decide +kernel, by decide +kernel⟩, List.mem_of_getElem? (i := 1101) (by decide +kernel), List.mem_of_getElem? (i := 1365) (by decide +kernel), List.mem_of_getElem? (i := 1366) (by decide +kernel)⟩
theorem lw_p73 : lw_okq (⟨"TypeBookModel", "lookShift", "(IZII)I"⟩, 35) := ⟨⟨by decide +kernel, by decide +kernel⟩, List.mem_of_getElem? (i := 1101) (by decide +kernel), List.mem_of_getElem? (i := 1369) (by decide +kernel), List.mem_of_getElem? (i := 1370) (by decide +kernel)⟩
theorem lw_p74 : lw_okq (⟨"TypeBookModel", "lookApply", "(I)I"⟩, 35) := ⟨⟨by decide +kernel, by decide +kernel⟩, List.mem_of_getElem? (i := 1101) (by decide +kernel), List.mem_of_getElem? (i := 1373) (by decide +kernel), List.mem_of_getElem? (i := 1374) (by decide +kernel)⟩
theorem lw_p75 : lw_okq (⟨"TypeBookModel", "lookFunction", "(II)I"⟩, 35) := ⟨⟨by decide +kernel, by decide +kernel⟩, List.mem_of_getElem? (i := 1101) (by decide +kernel), List.mem_of_getElem? (i := 1377) (by decide +kernel), List.mem_of_getElem? (i := 1378) (by decide +kernel)⟩
theorem lw_p76 : lw_okq (⟨"TypeBookModel", "rowObject", "(I)I"⟩, 35) := ⟨⟨by decide +kernel, by decide +kernel⟩, List.mem_of_getElem? (i := 1101) (by decide +kernel), List.mem_of_getElem? (i := 1382) (by decide +kernel), List.mem_of_getElem? (i := 1383) (by decide +kernel)⟩
theorem lw_p77 : lw_okq (⟨"TypeBookModel", "within", "(IJ)Z"⟩, 35) := ⟨⟨by decide +kernel, by decide +kernel⟩, List.mem_of_getElem? (i := 1101) (by decide +kernel), List.mem_of_getElem? (i := 1386) (by decide +kernel), List.mem_of_getElem? (i := 1387) (by decide +kernel)⟩
theorem lw_p78 : lw_okq (⟨"TypeBookModel", "lookSlice", "(III)I"⟩, 35) := ⟨⟨by decide +kernel, by decide +kernel⟩, List.mem_of_getElem? (i := 1101) (by decide +kernel), List.mem_of_getElem? (i := 1392) (by decide +kernel), List.mem_of_getElem? (i := 1393) (by decide +kernel)⟩
theorem lw_p79 : lw_okq (⟨"TypeBookModel", "lookAttribute", "(I)I"⟩, 35) := ⟨⟨by decide +kernel, by decide +kernel⟩, List.mem_of_getElem? (i := 1101) (by decide +kernel), List.mem_of_getElem? (i := 1396) (by decide +kernel), List.mem_of_getElem? (i := 1397) (by decide +kernel)⟩
def lw_privs_5 : List (MethodName × Nat) := [(⟨"TypeBookModel", "lookLogic", "(IIII)I"⟩, 35), (⟨"TypeBookModel", "lookOrder", "(IIII)I"⟩, 35), (⟨"TypeBookModel", "isClear", "(I)Z"⟩, 35), (⟨"TypeBookModel", "lookSum", "(IZII)I"⟩, 35), (⟨"TypeBookModel", "integer", "(IZJ)I"⟩, 35), (⟨"TypeBookModel", "numberOf", "(I)J"⟩, 35), (⟨"TypeBookModel", "bits", "(IJ)V"⟩, 35), (⟨"TypeBookModel", "lookJoined", "(III)I"⟩, 35), (⟨"TypeBookModel", "lookNumbers", "(IIII)I"⟩, 35), (⟨"TypeBookModel", "lookShift", "(IZII)I"⟩, 35), (⟨"TypeBookModel", "lookApply", "(I)I"⟩, 35), (⟨"TypeBookModel", "lookFunction", "(II)I"⟩, 35), (⟨"TypeBookModel", "rowObject", "(I)I"⟩, 35), (⟨"TypeBookModel", "within", "(IJ)Z"⟩, 35), (⟨"TypeBookModel", "lookSlice", "(III)I"⟩, 35), (⟨"TypeBookModel", "lookAttribute", "(I)I"⟩, 35)]
theorem lw_r5 : ∀ q ∈ lw_privs_5, lw_okq q := List.forall_mem_cons.mpr ⟨lw_p64, List.forall_mem_cons.mpr ⟨lw_p65, List.forall_mem_cons.mpr ⟨lw_p66, List.forall_mem_cons.mpr ⟨lw_p67, List.forall_mem_cons.mpr ⟨lw_p68, List.forall_mem_cons.mpr ⟨lw_p69, List.forall_mem_cons.mpr ⟨lw_p70, List.forall_mem_cons.mpr ⟨lw_p71, List.forall_mem_cons.mpr ⟨lw_p72, List.forall_mem_cons.mpr ⟨lw_p73, List.forall_mem_cons.mpr ⟨lw_p74, List.forall_mem_cons.mpr ⟨lw_p75, List.forall_mem_cons.mpr ⟨lw_p76, List.forall_mem_cons.mpr ⟨lw_p77, List.forall_mem_cons.mpr ⟨lw_p78, List.forall_mem_cons.mpr ⟨lw_p79, fun _ h => absurd h List.not_mem_nil⟩⟩⟩⟩⟩⟩⟩⟩⟩⟩⟩⟩⟩⟩⟩⟩
theorem lw_p80 : lw_okq (⟨"TypeBookModel", "wrong", "(II)I"⟩, 35) := ⟨⟨by decide +kernel, by decide +kernel⟩, List.mem_of_getElem? (i := 1101) (by decide +kernel), List.mem_of_getElem? (i := 1400) (by decide +kernel), List.mem_of_getElem? (i := 1401) (by decide +kernel)⟩
theorem lw_p81 : lw_okq (⟨"TypeBookModel", "constantFault", "(I)I"⟩, 35) := ⟨⟨by decide +kernel, by decide +kernel⟩, List.mem_of_getElem? (i := 1101) (by decide +kernel), List.mem_of_getElem? (i := 1404) (by decide +kernel), List.mem_of_getElem? (i := 1405) (by decide +kernel)⟩
theorem lw_p82 : lw_okq (⟨"TypeBookModel", "keep", "(II)V"⟩, 35) := ⟨⟨by decide +kernel, by decide +kernel⟩, List.mem_of_getElem? (i := 1101) (by decide +kernel), List.mem_of_getElem? (i := 1408) (by decide +kernel), List.mem_of_getElem? (i := 1409) (by decide +kernel)⟩
theorem lw_p83 : lw_okq (⟨"TypeBookModel", "hasHere", "(I)Z"⟩, 35) := ⟨⟨by decide +kernel, by decide +kernel⟩, List.mem_of_getElem? (i := 1101) (by decide +kernel), List.mem_of_getElem? (i := 1416) (by decide +kernel), List.mem_of_getElem? (i := 1417) (by decide +kernel)⟩
theorem lw_p84 : lw_okq (⟨"TypeBookModel", "name", "(IIII)V"⟩, 35) := ⟨⟨by decide +kernel, by decide +kernel⟩, List.mem_of_getElem? (i := 1101) (by decide +kernel), List.mem_of_getElem? (i := 1420) (by decide +kernel), List.mem_of_getElem? (i := 1421) (by decide +kernel)⟩
theorem lw_p85 : lw_okq (⟨"TypeBookModel", "noType", "(I)Z"⟩, 35) := ⟨⟨by decide +kernel, by decide +kernel⟩, List.mem_of_getElem? (i := 1101) (by decide +kernel), List.mem_of_getElem? (i := 1428) (by decide +kernel), List.mem_of_getElem? (i := 1429) (by decide +kernel)⟩
theorem lw_p86 : lw_okq (⟨"TypeBookModel", "fits", "(II)I"⟩, 35) := ⟨⟨by decide +kernel, by decide +kernel⟩, List.mem_of_getElem? (i := 1101) (by decide +kernel), List.mem_of_getElem? (i := 1436) (by decide +kernel), List.mem_of_getElem? (i := 1437) (by decide +kernel)⟩
def lw_privs_6 : List (MethodName × Nat) := [(⟨"TypeBookModel", "wrong", "(II)I"⟩, 35), (⟨"TypeBookModel", "constantFault", "(I)I"⟩, 35), (⟨"TypeBookModel", "keep", "(II)V"⟩, 35), (⟨"TypeBookModel", "hasHere", "(I)Z"⟩, 35), (⟨"TypeBookModel", "name", "(IIII)V"⟩, 35), (⟨"TypeBookModel", "noType", "(I)Z"⟩, 35), (⟨"TypeBookModel", "fits", "(II)I"⟩, 35)]
theorem lw_r6 : ∀ q ∈ lw_privs_6, lw_okq q := List.forall_mem_cons.mpr ⟨lw_p80, List.forall_mem_cons.mpr ⟨lw_p81, List.forall_mem_cons.mpr ⟨lw_p82, List.forall_mem_cons.mpr ⟨lw_p83, List.forall_mem_cons.mpr ⟨lw_p84, List.forall_mem_cons.mpr ⟨lw_p85, List.forall_mem_cons.mpr ⟨lw_p86, fun _ h => absurd h List.not_mem_nil⟩⟩⟩⟩⟩⟩⟩
def lw_privs : List (MethodName × Nat) := lw_privs_1 ++ (lw_privs_2 ++ (lw_privs_3 ++ (lw_privs_4 ++ (lw_privs_5 ++ (lw_privs_6)))))
def lw_tbl : List Cond := k2_sels lw_privs ++ tables_1
theorem lw_privs_ok : ∀ q ∈ lw_privs, lw_okq q := by
  show ∀ q ∈ lw_privs_1 ++ (lw_privs_2 ++ (lw_privs_3 ++ (lw_privs_4 ++ (lw_privs_5 ++ (lw_privs_6))))), lw_okq q
  exact List.forall_mem_append.mpr ⟨lw_r1, List.forall_mem_append.mpr ⟨lw_r2, List.forall_mem_append.mpr ⟨lw_r3, List.forall_mem_append.mpr ⟨lw_r4, List.forall_mem_append.mpr ⟨lw_r5, lw_r6⟩⟩⟩⟩⟩
def R_TypeBook : String := "TypeBook"
def T_TypeBook : u_T := fun k => match k with
  | 0 => ("TypeBook", "trees", "LTypeBook$Trees;", true)
  | 1 => ("TypeBook", "names", "LTypeBook$Names;", true)
  | 2 => ("TypeBook", "types", "LTypeBook$Types;", true)
  | 3 => ("TypeBook", "objects", "LTypeBook$Objects;", true)
  | 4 => ("TypeBook", "known", "LTypeBook$Looks;", true)
  | 5 => ("TypeBook", "looker", "LTypeBook$Looker;", true)
  | _ => ("TypeBook", "faultNode", "I", false)
def t_TypeBook : Nat → FieldType := fun k => match k with
  | 0 => .object "TypeBook$Trees"
  | 1 => .object "TypeBook$Names"
  | 2 => .object "TypeBook$Types"
  | 3 => .object "TypeBook$Objects"
  | 4 => .object "TypeBook$Looks"
  | 5 => .object "TypeBook$Looker"
  | _ => .int
def R_Trees : String := "TypeBook$Trees"
def T_Trees : u_T := fun k => match k with
  | 0 => ("TypeBook$Trees", "kinds", "[I", false)
  | 1 => ("TypeBook$Trees", "values", "[I", false)
  | 2 => ("TypeBook$Trees", "counts", "[I", false)
  | 3 => ("TypeBook$Trees", "firsts", "[I", false)
  | 4 => ("TypeBook$Trees", "size", "I", false)
  | _ => ("TypeBook$Trees", "roots", "I", false)
def t_Trees : Nat → FieldType := fun k => match k with
  | 0 => .array .int
  | 1 => .array .int
  | 2 => .array .int
  | 3 => .array .int
  | 4 => .int
  | _ => .int
def R_Names : String := "TypeBook$Names"
def T_Names : u_T := fun k => match k with
  | 0 => ("TypeBook$Names", "spellings", "[I", false)
  | 1 => ("TypeBook$Names", "sorts", "[I", false)
  | 2 => ("TypeBook$Names", "numbers", "[I", false)
  | 3 => ("TypeBook$Names", "parts", "[I", false)
  | 4 => ("TypeBook$Names", "outers", "[I", false)
  | 5 => ("TypeBook$Names", "chains", "[I", true)
  | 6 => ("TypeBook$Names", "starts", "[I", true)
  | 7 => ("TypeBook$Names", "size", "I", false)
  | _ => ("TypeBook$Names", "scopes", "I", false)
def t_Names : Nat → FieldType := fun k => match k with
  | 0 => .array .int
  | 1 => .array .int
  | 2 => .array .int
  | 3 => .array .int
  | 4 => .array .int
  | 5 => .array .int
  | 6 => .array .int
  | 7 => .int
  | _ => .int
def R_Types : String := "TypeBook$Types"
def T_Types : u_T := fun k => match k with
  | 0 => ("TypeBook$Types", "classes", "[I", false)
  | 1 => ("TypeBook$Types", "lefts", "[I", false)
  | 2 => ("TypeBook$Types", "rights", "[I", false)
  | 3 => ("TypeBook$Types", "counts", "[I", false)
  | _ => ("TypeBook$Types", "size", "I", false)
def t_Types : Nat → FieldType := fun k => match k with
  | 0 => .array .int
  | 1 => .array .int
  | 2 => .array .int
  | 3 => .array .int
  | _ => .int
def R_Objects : String := "TypeBook$Objects"
def T_Objects : u_T := fun k => match k with
  | 0 => ("TypeBook$Objects", "whats", "[I", false)
  | 1 => ("TypeBook$Objects", "types", "[I", false)
  | 2 => ("TypeBook$Objects", "numbers", "[I", false)
  | 3 => ("TypeBook$Objects", "rows", "LTypeBook$Rows;", true)
  | _ => ("TypeBook$Objects", "size", "I", false)
def t_Objects : Nat → FieldType := fun k => match k with
  | 0 => .array .int
  | 1 => .array .int
  | 2 => .array .int
  | 3 => .object "TypeBook$Rows"
  | _ => .int
def R_Rows : String := "TypeBook$Rows"
def T_Rows : u_T := fun k => match k with
  | _ => ("TypeBook$Rows", "words", "[J", false)
def t_Rows : Nat → FieldType := fun k => match k with
  | _ => .array .long
def R_Looks : String := "TypeBook$Looks"
def T_Looks : u_T := fun k => match k with
  | 0 => ("TypeBook$Looks", "classes", "[I", false)
  | 1 => ("TypeBook$Looks", "extents", "[I", false)
  | 2 => ("TypeBook$Looks", "meanings", "[I", false)
  | 3 => ("TypeBook$Looks", "numbers", "[I", false)
  | 4 => ("TypeBook$Looks", "constancies", "[I", false)
  | _ => ("TypeBook$Looks", "rows", "LTypeBook$Rows;", true)
def t_Looks : Nat → FieldType := fun k => match k with
  | 0 => .array .int
  | 1 => .array .int
  | 2 => .array .int
  | 3 => .array .int
  | 4 => .array .int
  | _ => .object "TypeBook$Rows"
def R_Looker : String := "TypeBook$Looker"
def T_Looker : u_T := fun k => match k with
  | 0 => ("TypeBook$Looker", "trees", "LTypeBook$Trees;", true)
  | 1 => ("TypeBook$Looker", "names", "LTypeBook$Names;", true)
  | 2 => ("TypeBook$Looker", "types", "LTypeBook$Types;", true)
  | 3 => ("TypeBook$Looker", "seen", "LTypeBook$Looks;", true)
  | 4 => ("TypeBook$Looker", "operators", "LTypeBook$Operators;", true)
  | 5 => ("TypeBook$Looker", "meanings", "LTypeBook$Meanings;", true)
  | 6 => ("TypeBook$Looker", "hidden", "[I", false)
  | _ => ("TypeBook$Looker", "at", "I", false)
def t_Looker : Nat → FieldType := fun k => match k with
  | 0 => .object "TypeBook$Trees"
  | 1 => .object "TypeBook$Names"
  | 2 => .object "TypeBook$Types"
  | 3 => .object "TypeBook$Looks"
  | 4 => .object "TypeBook$Operators"
  | 5 => .object "TypeBook$Meanings"
  | 6 => .array .int
  | _ => .int
def R_Operators : String := "TypeBook$Operators"
def T_Operators : u_T := fun k => match k with
  | _ => ("TypeBook$Operators", "seen", "LTypeBook$Looks;", true)
def t_Operators : Nat → FieldType := fun k => match k with
  | _ => .object "TypeBook$Looks"
def R_Meanings : String := "TypeBook$Meanings"
def T_Meanings : u_T := fun k => match k with
  | 0 => ("TypeBook$Meanings", "trees", "LTypeBook$Trees;", true)
  | 1 => ("TypeBook$Meanings", "names", "LTypeBook$Names;", true)
  | 2 => ("TypeBook$Meanings", "types", "LTypeBook$Types;", true)
  | 3 => ("TypeBook$Meanings", "objects", "LTypeBook$Objects;", true)
  | _ => ("TypeBook$Meanings", "seen", "LTypeBook$Looks;", true)
def t_Meanings : Nat → FieldType := fun k => match k with
  | 0 => .object "TypeBook$Trees"
  | 1 => .object "TypeBook$Names"
  | 2 => .object "TypeBook$Types"
  | 3 => .object "TypeBook$Objects"
  | _ => .object "TypeBook$Looks"
def R_Model : String := "TypeBookModel"
def T_Model : u_T := fun k => match k with
  | 0 => ("TypeBookModel", "code", "I", false)
  | 1 => ("TypeBookModel", "place", "I", false)
  | 2 => ("TypeBookModel", "kind", "[I", true)
  | 3 => ("TypeBookModel", "val", "[I", true)
  | 4 => ("TypeBookModel", "many", "[I", true)
  | 5 => ("TypeBookModel", "begin", "[I", true)
  | 6 => ("TypeBookModel", "nodes", "I", false)
  | 7 => ("TypeBookModel", "roots", "[I", true)
  | 8 => ("TypeBookModel", "rootCount", "I", false)
  | 9 => ("TypeBookModel", "is", "[I", true)
  | 10 => ("TypeBookModel", "size", "[I", true)
  | 11 => ("TypeBookModel", "constant", "[Z", true)
  | 12 => ("TypeBookModel", "meaning", "[I", true)
  | 13 => ("TypeBookModel", "number", "[J", true)
  | 14 => ("TypeBookModel", "elements", "[B", true)
  | 15 => ("TypeBookModel", "seen", "[Z", true)
  | 16 => ("TypeBookModel", "typeClass", "[I", true)
  | 17 => ("TypeBookModel", "low", "[I", true)
  | 18 => ("TypeBookModel", "high", "[I", true)
  | 19 => ("TypeBookModel", "count", "[I", true)
  | 20 => ("TypeBookModel", "down", "[Z", true)
  | 21 => ("TypeBookModel", "types", "I", false)
  | 22 => ("TypeBookModel", "what", "[I", true)
  | 23 => ("TypeBookModel", "objectType", "[I", true)
  | 24 => ("TypeBookModel", "objects", "I", false)
  | 25 => ("TypeBookModel", "names", "[I", true)
  | 26 => ("TypeBookModel", "means", "[I", true)
  | 27 => ("TypeBookModel", "which", "[I", true)
  | 28 => ("TypeBookModel", "placeOf", "[I", true)
  | 29 => ("TypeBookModel", "deep", "[I", true)
  | 30 => ("TypeBookModel", "nameCount", "I", false)
  | 31 => ("TypeBookModel", "scopes", "I", false)
  | 32 => ("TypeBookModel", "found", "I", false)
  | 33 => ("TypeBookModel", "foundNumber", "I", false)
  | _ => ("TypeBookModel", "foundPlace", "I", false)
def t_Model : Nat → FieldType := fun k => match k with
  | 0 => .int
  | 1 => .int
  | 2 => .array .int
  | 3 => .array .int
  | 4 => .array .int
  | 5 => .array .int
  | 6 => .int
  | 7 => .array .int
  | 8 => .int
  | 9 => .array .int
  | 10 => .array .int
  | 11 => .array .boolean
  | 12 => .array .int
  | 13 => .array .long
  | 14 => .array .byte
  | 15 => .array .boolean
  | 16 => .array .int
  | 17 => .array .int
  | 18 => .array .int
  | 19 => .array .int
  | 20 => .array .boolean
  | 21 => .int
  | 22 => .array .int
  | 23 => .array .int
  | 24 => .int
  | 25 => .array .int
  | 26 => .array .int
  | 27 => .array .int
  | 28 => .array .int
  | 29 => .array .int
  | 30 => .int
  | 31 => .int
  | 32 => .int
  | 33 => .int
  | _ => .int
abbrev vwCl : List vw_C := [(R_TypeBook, T_TypeBook, 7), (R_Trees, T_Trees, 6), (R_Names, T_Names, 9), (R_Types, T_Types, 5), (R_Objects, T_Objects, 5), (R_Rows, T_Rows, 1), (R_Looks, T_Looks, 6), (R_Looker, T_Looker, 8), (R_Operators, T_Operators, 1), (R_Meanings, T_Meanings, 5), (R_Model, T_Model, 35)]

def R_Logic : String := "TypeBook$Logic"
def R_jInteger : String := "java/lang/Integer"
def R_jLong : String := "java/lang/Long"
def R_jMath : String := "java/lang/Math"
def R_jArrays : String := "java/util/Arrays"
abbrev bTypeBook_init : ByteArray := prog_1_method_1_code
def yTypeBook_init : MethodName := ⟨R_TypeBook, "<init>", "()V"⟩
abbrev bTypeBook_add : ByteArray := prog_1_method_2_code
def yTypeBook_add : MethodName := ⟨R_TypeBook, "add", "(III)I"⟩
abbrev bTypeBook_clear : ByteArray := prog_1_method_3_code
def yTypeBook_clear : MethodName := ⟨R_TypeBook, "clear", "()I"⟩
abbrev bTypeBook_enter : ByteArray := prog_1_method_4_code
def yTypeBook_enter : MethodName := ⟨R_TypeBook, "enter", "()I"⟩
abbrev bTypeBook_leave : ByteArray := prog_1_method_5_code
def yTypeBook_leave : MethodName := ⟨R_TypeBook, "leave", "()I"⟩
abbrev bTypeBook_type : ByteArray := prog_1_method_6_code
def yTypeBook_type : MethodName := ⟨R_TypeBook, "type", "(I)I"⟩
abbrev bTypeBook_enumeration : ByteArray := prog_1_method_7_code
def yTypeBook_enumeration : MethodName := ⟨R_TypeBook, "enumeration", "(I)I"⟩
abbrev bTypeBook_subtype : ByteArray := prog_1_method_8_code
def yTypeBook_subtype : MethodName := ⟨R_TypeBook, "subtype", "(II)I"⟩
abbrev bTypeBook_declare : ByteArray := prog_1_method_9_code
def yTypeBook_declare : MethodName := ⟨R_TypeBook, "declare", "(IIII)I"⟩
abbrev bTypeBook_check : ByteArray := prog_1_method_10_code
def yTypeBook_check : MethodName := ⟨R_TypeBook, "check", "(II)I"⟩
abbrev bTypeBook_place : ByteArray := prog_1_method_11_code
def yTypeBook_place : MethodName := ⟨R_TypeBook, "place", "()I"⟩
abbrev bTypeBook_typeOf : ByteArray := prog_1_method_12_code
def yTypeBook_typeOf : MethodName := ⟨R_TypeBook, "typeOf", "(II)I"⟩
abbrev bTypeBook_about : ByteArray := prog_1_method_13_code
def yTypeBook_about : MethodName := ⟨R_TypeBook, "about", "(II)I"⟩
abbrev bTypeBook_value : ByteArray := prog_1_method_14_code
def yTypeBook_value : MethodName := ⟨R_TypeBook, "value", "(II)I"⟩
abbrev bTypeBook_refused : ByteArray := prog_1_method_15_code
def yTypeBook_refused : MethodName := ⟨R_TypeBook, "refused", "(II)I"⟩
abbrev bTypeBook_isName : ByteArray := prog_1_method_16_code
def yTypeBook_isName : MethodName := ⟨R_TypeBook, "isName", "(I)Z"⟩
abbrev bTypeBook_malformedEnumNode : ByteArray := prog_1_method_17_code
def yTypeBook_malformedEnumNode : MethodName := ⟨R_TypeBook, "malformedEnumNode", "(I)I"⟩
abbrev bTypeBook_takenEnumNode : ByteArray := prog_1_method_18_code
def yTypeBook_takenEnumNode : MethodName := ⟨R_TypeBook, "takenEnumNode", "(I)I"⟩
abbrev bTypeBook_isNameOfOneBefore : ByteArray := prog_1_method_19_code
def yTypeBook_isNameOfOneBefore : MethodName := ⟨R_TypeBook, "isNameOfOneBefore", "(II)Z"⟩
abbrev bTypeBook_withRoom : ByteArray := prog_1_method_20_code
def yTypeBook_withRoom : MethodName := ⟨R_TypeBook, "withRoom", "([II)[I"⟩
abbrev bLogic_isLow : ByteArray := prog_2_method_2_code
def yLogic_isLow : MethodName := ⟨R_Logic, "isLow", "(I)Z"⟩
abbrev bLogic_isHigh : ByteArray := prog_2_method_3_code
def yLogic_isHigh : MethodName := ⟨R_Logic, "isHigh", "(I)Z"⟩
abbrev bLogic_isClear : ByteArray := prog_2_method_4_code
def yLogic_isClear : MethodName := ⟨R_Logic, "isClear", "(I)Z"⟩
abbrev bLogic_not : ByteArray := prog_2_method_5_code
def yLogic_not : MethodName := ⟨R_Logic, "not", "(I)I"⟩
abbrev bLogic_and : ByteArray := prog_2_method_6_code
def yLogic_and : MethodName := ⟨R_Logic, "and", "(II)I"⟩
abbrev bLogic_or : ByteArray := prog_2_method_7_code
def yLogic_or : MethodName := ⟨R_Logic, "or", "(II)I"⟩
abbrev bLogic_other : ByteArray := prog_2_method_8_code
def yLogic_other : MethodName := ⟨R_Logic, "other", "(II)I"⟩
abbrev bLogic_ofSigns : ByteArray := prog_2_method_9_code
def yLogic_ofSigns : MethodName := ⟨R_Logic, "ofSigns", "(III)I"⟩
abbrev bLogic_ofTruths : ByteArray := prog_2_method_10_code
def yLogic_ofTruths : MethodName := ⟨R_Logic, "ofTruths", "(IZZ)Z"⟩
abbrev bLooker_init : ByteArray := prog_3_method_1_code
def yLooker_init : MethodName := ⟨R_Looker, "<init>", "(LTypeBook$Trees;LTypeBook$Names;LTypeBook$Types;LTypeBook$Objects;)V"⟩
abbrev bLooker_makeRoom : ByteArray := prog_3_method_2_code
def yLooker_makeRoom : MethodName := ⟨R_Looker, "makeRoom", "(I)V"⟩
abbrev bLooker_isHidden : ByteArray := prog_3_method_3_code
def yLooker_isHidden : MethodName := ⟨R_Looker, "isHidden", "(I)Z"⟩
abbrev bLooker_look : ByteArray := prog_3_method_4_code
def yLooker_look : MethodName := ⟨R_Looker, "look", "(II)I"⟩
abbrev bLooker_hideBelowAttributes : ByteArray := prog_3_method_5_code
def yLooker_hideBelowAttributes : MethodName := ⟨R_Looker, "hideBelowAttributes", "(I)V"⟩
abbrev bLooker_tell : ByteArray := prog_3_method_6_code
def yLooker_tell : MethodName := ⟨R_Looker, "tell", "(LTypeBook$Looks;II)V"⟩
abbrev bLooker_judge : ByteArray := prog_3_method_7_code
def yLooker_judge : MethodName := ⟨R_Looker, "judge", "(IIIZ)I"⟩
abbrev bLooker_earlier : ByteArray := prog_3_method_8_code
def yLooker_earlier : MethodName := ⟨R_Looker, "earlier", "(II)I"⟩
abbrev bLooker_classMisfit : ByteArray := prog_3_method_9_code
def yLooker_classMisfit : MethodName := ⟨R_Looker, "classMisfit", "(II)I"⟩
abbrev bLooker_isOutside : ByteArray := prog_3_method_10_code
def yLooker_isOutside : MethodName := ⟨R_Looker, "isOutside", "(II)Z"⟩
abbrev bLooker_lookAt : ByteArray := prog_3_method_11_code
def yLooker_lookAt : MethodName := ⟨R_Looker, "lookAt", "(I)I"⟩
abbrev bLooker_isOperator : ByteArray := prog_3_method_12_code
def yLooker_isOperator : MethodName := ⟨R_Looker, "isOperator", "(III)Z"⟩
abbrev bLooker_leaf : ByteArray := prog_3_method_13_code
def yLooker_leaf : MethodName := ⟨R_Looker, "leaf", "(III)I"⟩
abbrev bLooker_signs : ByteArray := prog_3_method_14_code
def yLooker_signs : MethodName := ⟨R_Looker, "signs", "(I)I"⟩
abbrev bLooker_typeFault : ByteArray := prog_3_method_15_code
def yLooker_typeFault : MethodName := ⟨R_Looker, "typeFault", "(I)I"⟩
abbrev bLooker_namedTypeFault : ByteArray := prog_3_method_16_code
def yLooker_namedTypeFault : MethodName := ⟨R_Looker, "namedTypeFault", "(I)I"⟩
abbrev bLooker_boundsFault : ByteArray := prog_3_method_17_code
def yLooker_boundsFault : MethodName := ⟨R_Looker, "boundsFault", "(III)I"⟩
abbrev bLooker_elementsOf : ByteArray := prog_3_method_18_code
def yLooker_elementsOf : MethodName := ⟨R_Looker, "elementsOf", "(IJJ)J"⟩
abbrev bLooker_namedType : ByteArray := prog_3_method_19_code
def yLooker_namedType : MethodName := ⟨R_Looker, "namedType", "(I)I"⟩
abbrev bLooker_newType : ByteArray := prog_3_method_20_code
def yLooker_newType : MethodName := ⟨R_Looker, "newType", "(I)I"⟩
abbrev bLooks_init : ByteArray := prog_4_method_1_code
def yLooks_init : MethodName := ⟨R_Looks, "<init>", "()V"⟩
abbrev bLooks_has : ByteArray := prog_4_method_2_code
def yLooks_has : MethodName := ⟨R_Looks, "has", "(I)Z"⟩
abbrev bLooks_makeRoom : ByteArray := prog_4_method_3_code
def yLooks_makeRoom : MethodName := ⟨R_Looks, "makeRoom", "(I)V"⟩
abbrev bLooks_classOf : ByteArray := prog_4_method_4_code
def yLooks_classOf : MethodName := ⟨R_Looks, "classOf", "(I)I"⟩
abbrev bLooks_extentOf : ByteArray := prog_4_method_5_code
def yLooks_extentOf : MethodName := ⟨R_Looks, "extentOf", "(I)I"⟩
abbrev bLooks_meaningOf : ByteArray := prog_4_method_6_code
def yLooks_meaningOf : MethodName := ⟨R_Looks, "meaningOf", "(I)I"⟩
abbrev bLooks_numberOf : ByteArray := prog_4_method_7_code
def yLooks_numberOf : MethodName := ⟨R_Looks, "numberOf", "(I)I"⟩
abbrev bLooks_isFixed : ByteArray := prog_4_method_8_code
def yLooks_isFixed : MethodName := ⟨R_Looks, "isFixed", "(I)Z"⟩
abbrev bLooks_forget : ByteArray := prog_4_method_9_code
def yLooks_forget : MethodName := ⟨R_Looks, "forget", "(I)V"⟩
abbrev bLooks_note : ByteArray := prog_4_method_10_code
def yLooks_note : MethodName := ⟨R_Looks, "note", "(IIIZ)V"⟩
abbrev bLooks_setMeaning : ByteArray := prog_4_method_11_code
def yLooks_setMeaning : MethodName := ⟨R_Looks, "setMeaning", "(II)V"⟩
abbrev bLooks_setNumber : ByteArray := prog_4_method_12_code
def yLooks_setNumber : MethodName := ⟨R_Looks, "setNumber", "(II)V"⟩
abbrev bLooks_copy : ByteArray := prog_4_method_13_code
def yLooks_copy : MethodName := ⟨R_Looks, "copy", "(LTypeBook$Looks;I)V"⟩
abbrev bMeanings_init : ByteArray := prog_5_method_1_code
def yMeanings_init : MethodName := ⟨R_Meanings, "<init>", "(LTypeBook$Trees;LTypeBook$Names;LTypeBook$Types;LTypeBook$Objects;LTypeBook$Looks;)V"⟩
abbrev bMeanings_name : ByteArray := prog_5_method_2_code
def yMeanings_name : MethodName := ⟨R_Meanings, "name", "(I)I"⟩
abbrev bMeanings_noteObject : ByteArray := prog_5_method_3_code
def yMeanings_noteObject : MethodName := ⟨R_Meanings, "noteObject", "(II)V"⟩
abbrev bMeanings_noteValue : ByteArray := prog_5_method_4_code
def yMeanings_noteValue : MethodName := ⟨R_Meanings, "noteValue", "(IIII)V"⟩
abbrev bMeanings_isConstant : ByteArray := prog_5_method_5_code
def yMeanings_isConstant : MethodName := ⟨R_Meanings, "isConstant", "(I)Z"⟩
abbrev bMeanings_isRow : ByteArray := prog_5_method_6_code
def yMeanings_isRow : MethodName := ⟨R_Meanings, "isRow", "(I)Z"⟩
abbrev bMeanings_objectAt : ByteArray := prog_5_method_7_code
def yMeanings_objectAt : MethodName := ⟨R_Meanings, "objectAt", "(I)I"⟩
abbrev bMeanings_isUnknown : ByteArray := prog_5_method_8_code
def yMeanings_isUnknown : MethodName := ⟨R_Meanings, "isUnknown", "(I)Z"⟩
abbrev bMeanings_apply : ByteArray := prog_5_method_9_code
def yMeanings_apply : MethodName := ⟨R_Meanings, "apply", "(I)I"⟩
abbrev bMeanings_element : ByteArray := prog_5_method_10_code
def yMeanings_element : MethodName := ⟨R_Meanings, "element", "(III)I"⟩
abbrev bMeanings_applyFunction : ByteArray := prog_5_method_11_code
def yMeanings_applyFunction : MethodName := ⟨R_Meanings, "applyFunction", "(II)I"⟩
abbrev bMeanings_edge : ByteArray := prog_5_method_12_code
def yMeanings_edge : MethodName := ⟨R_Meanings, "edge", "(II)I"⟩
abbrev bMeanings_numberOfRow : ByteArray := prog_5_method_13_code
def yMeanings_numberOfRow : MethodName := ⟨R_Meanings, "numberOfRow", "(II)I"⟩
abbrev bMeanings_bits : ByteArray := prog_5_method_14_code
def yMeanings_bits : MethodName := ⟨R_Meanings, "bits", "(III)I"⟩
abbrev bMeanings_slice : ByteArray := prog_5_method_15_code
def yMeanings_slice : MethodName := ⟨R_Meanings, "slice", "(I)I"⟩
abbrev bMeanings_cut : ByteArray := prog_5_method_16_code
def yMeanings_cut : MethodName := ⟨R_Meanings, "cut", "(IIII)I"⟩
abbrev bMeanings_attribute : ByteArray := prog_5_method_17_code
def yMeanings_attribute : MethodName := ⟨R_Meanings, "attribute", "(I)I"⟩
abbrev bMeanings_noteAttribute : ByteArray := prog_5_method_18_code
def yMeanings_noteAttribute : MethodName := ⟨R_Meanings, "noteAttribute", "(III)V"⟩
abbrev bMeanings_boundOf : ByteArray := prog_5_method_19_code
def yMeanings_boundOf : MethodName := ⟨R_Meanings, "boundOf", "(II)I"⟩
abbrev bNames_init : ByteArray := prog_6_method_1_code
def yNames_init : MethodName := ⟨R_Names, "<init>", "()V"⟩
abbrev bNames_has : ByteArray := prog_6_method_2_code
def yNames_has : MethodName := ⟨R_Names, "has", "(I)Z"⟩
abbrev bNames_sortOf : ByteArray := prog_6_method_3_code
def yNames_sortOf : MethodName := ⟨R_Names, "sortOf", "(I)I"⟩
abbrev bNames_numberOf : ByteArray := prog_6_method_4_code
def yNames_numberOf : MethodName := ⟨R_Names, "numberOf", "(I)I"⟩
abbrev bNames_partOf : ByteArray := prog_6_method_5_code
def yNames_partOf : MethodName := ⟨R_Names, "partOf", "(I)I"⟩
abbrev bNames_find : ByteArray := prog_6_method_6_code
def yNames_find : MethodName := ⟨R_Names, "find", "(I)I"⟩
abbrev bNames_isTaken : ByteArray := prog_6_method_7_code
def yNames_isTaken : MethodName := ⟨R_Names, "isTaken", "(I)Z"⟩
abbrev bNames_haveRoom : ByteArray := prog_6_method_8_code
def yNames_haveRoom : MethodName := ⟨R_Names, "haveRoom", "(I)Z"⟩
abbrev bNames_put : ByteArray := prog_6_method_9_code
def yNames_put : MethodName := ⟨R_Names, "put", "(IIII)V"⟩
abbrev bNames_open : ByteArray := prog_6_method_10_code
def yNames_open : MethodName := ⟨R_Names, "open", "()V"⟩
abbrev bNames_close : ByteArray := prog_6_method_11_code
def yNames_close : MethodName := ⟨R_Names, "close", "()V"⟩
abbrev bObjects_init : ByteArray := prog_7_method_1_code
def yObjects_init : MethodName := ⟨R_Objects, "<init>", "()V"⟩
abbrev bObjects_has : ByteArray := prog_7_method_2_code
def yObjects_has : MethodName := ⟨R_Objects, "has", "(I)Z"⟩
abbrev bObjects_whatOf : ByteArray := prog_7_method_3_code
def yObjects_whatOf : MethodName := ⟨R_Objects, "whatOf", "(I)I"⟩
abbrev bObjects_typeOfObject : ByteArray := prog_7_method_4_code
def yObjects_typeOfObject : MethodName := ⟨R_Objects, "typeOfObject", "(I)I"⟩
abbrev bObjects_numberOf : ByteArray := prog_7_method_5_code
def yObjects_numberOf : MethodName := ⟨R_Objects, "numberOf", "(I)I"⟩
abbrev bObjects_put : ByteArray := prog_7_method_6_code
def yObjects_put : MethodName := ⟨R_Objects, "put", "(II)I"⟩
abbrev bObjects_keep : ByteArray := prog_7_method_7_code
def yObjects_keep : MethodName := ⟨R_Objects, "keep", "(ILTypeBook$Looks;I)V"⟩
abbrev bOperators_init : ByteArray := prog_8_method_1_code
def yOperators_init : MethodName := ⟨R_Operators, "<init>", "(LTypeBook$Looks;)V"⟩
abbrev bOperators_unary : ByteArray := prog_8_method_2_code
def yOperators_unary : MethodName := ⟨R_Operators, "unary", "(III)I"⟩
abbrev bOperators_computeUnary : ByteArray := prog_8_method_3_code
def yOperators_computeUnary : MethodName := ⟨R_Operators, "computeUnary", "(III)V"⟩
abbrev bOperators_binary : ByteArray := prog_8_method_4_code
def yOperators_binary : MethodName := ⟨R_Operators, "binary", "(IIII)I"⟩
abbrev bOperators_resultClass : ByteArray := prog_8_method_5_code
def yOperators_resultClass : MethodName := ⟨R_Operators, "resultClass", "(III)I"⟩
abbrev bOperators_areOfOneClass : ByteArray := prog_8_method_6_code
def yOperators_areOfOneClass : MethodName := ⟨R_Operators, "areOfOneClass", "(II)Z"⟩
abbrev bOperators_resultLength : ByteArray := prog_8_method_7_code
def yOperators_resultLength : MethodName := ⟨R_Operators, "resultLength", "(III)I"⟩
abbrev bOperators_widthOf : ByteArray := prog_8_method_8_code
def yOperators_widthOf : MethodName := ⟨R_Operators, "widthOf", "(I)I"⟩
abbrev bOperators_combine : ByteArray := prog_8_method_9_code
def yOperators_combine : MethodName := ⟨R_Operators, "combine", "(IIII)V"⟩
abbrev bOperators_areAlike : ByteArray := prog_8_method_10_code
def yOperators_areAlike : MethodName := ⟨R_Operators, "areAlike", "(II)Z"⟩
abbrev bOperators_isOrdered : ByteArray := prog_8_method_11_code
def yOperators_isOrdered : MethodName := ⟨R_Operators, "isOrdered", "(III)Z"⟩
abbrev bOperators_isClear : ByteArray := prog_8_method_12_code
def yOperators_isClear : MethodName := ⟨R_Operators, "isClear", "(I)Z"⟩
abbrev bOperators_countsAs : ByteArray := prog_8_method_13_code
def yOperators_countsAs : MethodName := ⟨R_Operators, "countsAs", "(I)J"⟩
abbrev bOperators_calculate : ByteArray := prog_8_method_14_code
def yOperators_calculate : MethodName := ⟨R_Operators, "calculate", "(IIJJ)I"⟩
abbrev bOperators_divided : ByteArray := prog_8_method_15_code
def yOperators_divided : MethodName := ⟨R_Operators, "divided", "(IJJ)J"⟩
abbrev bOperators_sumRows : ByteArray := prog_8_method_16_code
def yOperators_sumRows : MethodName := ⟨R_Operators, "sumRows", "(IIII)V"⟩
abbrev bOperators_join : ByteArray := prog_8_method_17_code
def yOperators_join : MethodName := ⟨R_Operators, "join", "(III)V"⟩
abbrev bOperators_elementOf : ByteArray := prog_8_method_18_code
def yOperators_elementOf : MethodName := ⟨R_Operators, "elementOf", "(II)I"⟩
abbrev bOperators_shift : ByteArray := prog_8_method_19_code
def yOperators_shift : MethodName := ⟨R_Operators, "shift", "(III)V"⟩
abbrev bRows_init : ByteArray := prog_9_method_1_code
def yRows_init : MethodName := ⟨R_Rows, "<init>", "(I)V"⟩
abbrev bRows_makeRoom : ByteArray := prog_9_method_2_code
def yRows_makeRoom : MethodName := ⟨R_Rows, "makeRoom", "(I)V"⟩
abbrev bRows_has : ByteArray := prog_9_method_3_code
def yRows_has : MethodName := ⟨R_Rows, "has", "(I)Z"⟩
abbrev bRows_get : ByteArray := prog_9_method_4_code
def yRows_get : MethodName := ⟨R_Rows, "get", "(II)I"⟩
abbrev bRows_set : ByteArray := prog_9_method_5_code
def yRows_set : MethodName := ⟨R_Rows, "set", "(III)V"⟩
abbrev bRows_copy : ByteArray := prog_9_method_6_code
def yRows_copy : MethodName := ⟨R_Rows, "copy", "(ILTypeBook$Rows;I)V"⟩
abbrev bRows_isClear : ByteArray := prog_9_method_7_code
def yRows_isClear : MethodName := ⟨R_Rows, "isClear", "(II)Z"⟩
abbrev bRows_bitsOf : ByteArray := prog_9_method_8_code
def yRows_bitsOf : MethodName := ⟨R_Rows, "bitsOf", "(II)J"⟩
abbrev bRows_setBits : ByteArray := prog_9_method_9_code
def yRows_setBits : MethodName := ⟨R_Rows, "setBits", "(IIJ)V"⟩
abbrev bRows_setAll : ByteArray := prog_9_method_10_code
def yRows_setAll : MethodName := ⟨R_Rows, "setAll", "(III)V"⟩
abbrev bTrees_init : ByteArray := prog_10_method_1_code
def yTrees_init : MethodName := ⟨R_Trees, "<init>", "()V"⟩
abbrev bTrees_bearsName : ByteArray := prog_10_method_2_code
def yTrees_bearsName : MethodName := ⟨R_Trees, "bearsName", "(I)Z"⟩
abbrev bTrees_has : ByteArray := prog_10_method_3_code
def yTrees_has : MethodName := ⟨R_Trees, "has", "(I)Z"⟩
abbrev bTrees_kindOf : ByteArray := prog_10_method_4_code
def yTrees_kindOf : MethodName := ⟨R_Trees, "kindOf", "(I)I"⟩
abbrev bTrees_valueOf : ByteArray := prog_10_method_5_code
def yTrees_valueOf : MethodName := ⟨R_Trees, "valueOf", "(I)I"⟩
abbrev bTrees_countOf : ByteArray := prog_10_method_6_code
def yTrees_countOf : MethodName := ⟨R_Trees, "countOf", "(I)I"⟩
abbrev bTrees_firstOf : ByteArray := prog_10_method_7_code
def yTrees_firstOf : MethodName := ⟨R_Trees, "firstOf", "(I)I"⟩
abbrev bTrees_leftOfTwo : ByteArray := prog_10_method_8_code
def yTrees_leftOfTwo : MethodName := ⟨R_Trees, "leftOfTwo", "(I)I"⟩
abbrev bTrees_grow : ByteArray := prog_10_method_9_code
def yTrees_grow : MethodName := ⟨R_Trees, "grow", "(III)I"⟩
abbrev bTrees_fell : ByteArray := prog_10_method_10_code
def yTrees_fell : MethodName := ⟨R_Trees, "fell", "()V"⟩
abbrev bTypes_init : ByteArray := prog_11_method_1_code
def yTypes_init : MethodName := ⟨R_Types, "<init>", "()V"⟩
abbrev bTypes_has : ByteArray := prog_11_method_2_code
def yTypes_has : MethodName := ⟨R_Types, "has", "(I)Z"⟩
abbrev bTypes_classOf : ByteArray := prog_11_method_3_code
def yTypes_classOf : MethodName := ⟨R_Types, "classOf", "(I)I"⟩
abbrev bTypes_leftOf : ByteArray := prog_11_method_4_code
def yTypes_leftOf : MethodName := ⟨R_Types, "leftOf", "(I)I"⟩
abbrev bTypes_rightOf : ByteArray := prog_11_method_5_code
def yTypes_rightOf : MethodName := ⟨R_Types, "rightOf", "(I)I"⟩
abbrev bTypes_countOf : ByteArray := prog_11_method_6_code
def yTypes_countOf : MethodName := ⟨R_Types, "countOf", "(I)I"⟩
abbrev bTypes_goesDown : ByteArray := prog_11_method_7_code
def yTypes_goesDown : MethodName := ⟨R_Types, "goesDown", "(I)Z"⟩
abbrev bTypes_extentOf : ByteArray := prog_11_method_8_code
def yTypes_extentOf : MethodName := ⟨R_Types, "extentOf", "(I)I"⟩
abbrev bTypes_fromRight : ByteArray := prog_11_method_9_code
def yTypes_fromRight : MethodName := ⟨R_Types, "fromRight", "(II)I"⟩
abbrev bTypes_put : ByteArray := prog_11_method_10_code
def yTypes_put : MethodName := ⟨R_Types, "put", "(IIII)I"⟩
abbrev bjInteger_compare : ByteArray := prog_19_method_40_code
def yjInteger_compare : MethodName := ⟨R_jInteger, "compare", "(II)I"⟩
abbrev bjLong_compare : ByteArray := prog_20_method_42_code
def yjLong_compare : MethodName := ⟨R_jLong, "compare", "(JJ)I"⟩
abbrev bjMath_floorMod : ByteArray := prog_21_method_52_code
def yjMath_floorMod : MethodName := ⟨R_jMath, "floorMod", "(JJ)J"⟩
abbrev bjArrays_copyOf : ByteArray := prog_26_method_123_code
def yjArrays_copyOf : MethodName := ⟨R_jArrays, "copyOf", "([II)[I"⟩
abbrev bjArrays_copyOfL : ByteArray := prog_26_method_124_code
def yjArrays_copyOfL : MethodName := ⟨R_jArrays, "copyOf", "([JI)[J"⟩
abbrev bjArrays_fill : ByteArray := prog_26_method_103_code
def yjArrays_fill : MethodName := ⟨R_jArrays, "fill", "([II)V"⟩
-- BASE: one list of words for all methods; contracts of methods that only read (PU) and of methods that write (MU)
def bs_W0 : List Cond := lw_tbl.filter goodWord
theorem bs_in {w : Cond} (h : w ∈ lw_tbl) (g : goodWord w = true) : w ∈ bs_W0 := List.mem_filter.mpr ⟨h, g⟩
theorem bs_all {a : Cond} (ha : a ∈ bs_W0) : GoodIn bs_W0 (a :: bs_W0) := by
  intro w hw
  rcases List.mem_cons.mp hw with rfl | h
  · exact ⟨ha, good_of_word (List.mem_filter.mp ha).2⟩
  · exact ⟨h, good_of_word (List.mem_filter.mp h).2⟩
/-- what is known of a callee: an instance method -/
def bs_Mi (y : MethodName) (bytes : ByteArray) (maxL : Nat) (ret : Option FieldType) (n : Nat) : Prop :=
  Cond.instanceMethod y ∈ bs_W0 ∧ Cond.selects y.cls y y ∈ bs_W0 ∧ Cond.initialized y.cls ∈ bs_W0 ∧ Cond.code y bytes maxL ret ∈ bs_W0 ∧ (y.cls ≠ "java/lang/invoke/MethodHandle" ∧ y.cls ≠ "java/lang/invoke/VarHandle" ∧ (parseMethodDescriptor y.desc).map (fun d => d.parameters.length) = some n)
/-- a static one -/
def bs_Ms (y : MethodName) (bytes : ByteArray) (maxL : Nat) (ret : Option FieldType) (n : Nat) : Prop :=
  Cond.static y ∈ bs_W0 ∧ Cond.initialized y.cls ∈ bs_W0 ∧ Cond.code y bytes maxL ret ∈ bs_W0 ∧ (y.cls ≠ "java/lang/invoke/MethodHandle" ∧ y.cls ≠ "java/lang/invoke/VarHandle" ∧ (parseMethodDescriptor y.desc).map (fun d => d.parameters.length) = some n)
section BS
variable {p : Program} {l : Launch} {e : Env} {R : Room} {s : State} {m : MethodId} {args : Array Value} {below : List Frame} {meth : Method} {c : Code} {H : Heap} {locs : List Loc} {cells slots : Nat} {Q : State → Prop}
variable {y : MethodName} {bytes cc : ByteArray} {maxL nL mc ms n index : Nat} {ret : Option FieldType} {rm : Room} {Pc : Array Value → State → Prop} {Qc : Array Value → State → Outcome → State → Prop} {free : Addr → Prop} {own : String} {b : Addr} {As rest st0 : List Value} {pc : Nat} {ls : Array Slot}
/-- the machine's standing facts in a walk -/
abbrev bs_F (p : Program) (s : State) (m : MethodId) (args : Array Value) (c : Code) (cc : ByteArray) (nL : Nat) (own : String) : Prop := CallFix p m c cc nL s args bs_W0 own
theorem bs_cwV (hW : ∀ w ∈ bs_W0, w.before args s = true) (me : bs_Mi y bytes maxL ret n) (lk : Cond.methodLink own index y ∈ bs_W0) (hrc : rm.cells = mc) (hrs : rm.slots = ms) (hR : rm.frames + 1 ≤ R.frames ∧ 8 + (maxL + 11) + rm.locals ≤ R.locals) :
    CallW R s args own y.cls index y bytes maxL ret (Cond.code y bytes maxL ret :: bs_W0) rm mc ms n := by
  obtain ⟨h1, h2, h3, h4, h5⟩ := me
  exact ⟨callB_of n hW (bs_all h4) rfl hrc hrs (hW _ h3) (hW _ lk) h5 hR, hW _ h1, hW _ h2⟩
theorem bs_cwS (hW : ∀ w ∈ bs_W0, w.before args s = true) (me : bs_Ms y bytes maxL ret n) (lk : Cond.methodLink own index y ∈ bs_W0) (hrc : rm.cells = mc) (hrs : rm.slots = ms) (hR : rm.frames + 1 ≤ R.frames ∧ 8 + (maxL + 11) + rm.locals ≤ R.locals) :
    CallB R s args own index y bytes maxL ret (Cond.code y bytes maxL ret :: bs_W0) rm mc ms n ∧ (Cond.static y).before args s = true := by
  obtain ⟨h1, h3, h4, h5⟩ := me
  exact ⟨callB_of n hW (bs_all h4) rfl hrc hrs (hW _ h3) (hW _ lk) h5 hR, hW _ h1⟩
theorem bs_cnS {host : String} (hW : ∀ w ∈ bs_W0, w.before args s = true) (me : bs_Ms y bytes maxL ret n) (lk : va_Nw (.methodLinkNest own index y host) s) (hrc : rm.cells = mc) (hrs : rm.slots = ms) (hR : rm.frames + 1 ≤ R.frames ∧ 8 + (maxL + 11) + rm.locals ≤ R.locals) :
    va_CN R s args own index y host bytes maxL ret (Cond.code y bytes maxL ret :: bs_W0) rm mc ms n ∧ (Cond.static y).before args s = true ∧ True := by
  obtain ⟨h1, h3, h4, h5⟩ := me
  exact ⟨va_cnB n hW (bs_all h4) rfl hrc hrs lk (hW _ h3) h5 hR, hW _ h1, trivial⟩
/-- the words of a method's contract give all of bs_W0 -/
theorem bs_hts {w0 : Cond} (h : ∀ w ∈ w0 :: bs_W0, w.before args s = true) : ∀ w ∈ bs_W0, w.before args s = true := fun w hw => h w (List.mem_cons_of_mem _ hw)
/-- what was really made: the walk may go on with less -/
theorem W.tight {g : JFrame} {k n : Nat} (h1 : H.size ≤ s.heap.size + k) (h2 : ((H.toList.drop s.heap.size).map (·.slots.size)).sum ≤ n) (kk : W p l e R s m args below meth c H locs k n Q g) : W p l e R s m args below meth c H locs cells slots Q g := by
  intro T hT X
  subst hT
  refine kk T rfl ?_
  obtain ⟨a1, a2, a3, a4, a5, a6⟩ := X.same
  exact { X with same := ⟨a1, a2, h1, a4, h2, a6⟩ }
/-- what the walk's own record says of the heap -/
theorem W.know {g : JFrame} (kk : H.size ≤ s.heap.size + cells → ((H.toList.drop s.heap.size).map (·.slots.size)).sum ≤ slots → (∀ (a : Nat) (c : Cell), s.heap[a]? = some c → ∃ c', H[a]? = some c' ∧ c'.slots.size = c.slots.size) → W p l e R s m args below meth c H locs cells slots Q g) : W p l e R s m args below meth c H locs cells slots Q g := by
  intro T hT X
  subst hT
  obtain ⟨a1, a2, a3, a4, a5, a6⟩ := X.same
  exact kk a3 a5 (fun a c h => by obtain ⟨c', b1, _, b3, _⟩ := a6 a c h; exact ⟨c', b1, b3⟩) T rfl X
end BS
def gsum (H0 H1 : Heap) : Nat := ((H1.toList.drop H0.size).map (·.slots.size)).sum
/-- what has come since H0: at most k cells of n slots; no old cell is longer or shorter -/
def GR (H0 H1 : Heap) (k n : Nat) : Prop := H0.size ≤ H1.size ∧ H1.size ≤ H0.size + k ∧ gsum H0 H1 ≤ n ∧ ∀ (a : Nat) (c : Cell), H0[a]? = some c → ∃ c', H1[a]? = some c' ∧ c'.slots.size = c.slots.size
theorem GR.rf (H : Heap) : GR H H 0 0 := ⟨Nat.le_refl _, Nat.le_refl _, by unfold gsum; rw [List.drop_eq_nil_of_le (Nat.le_of_eq (by simp))]; exact Nat.le_refl _, fun a c h => ⟨c, h, rfl⟩⟩
theorem GR.mono {H0 H1 : Heap} {k n k' n' : Nat} (h : GR H0 H1 k n) (hk : k ≤ k') (hn : n ≤ n') : GR H0 H1 k' n' := ⟨h.1, Nat.le_trans h.2.1 (Nat.add_le_add_left hk _), Nat.le_trans h.2.2.1 hn, h.2.2.2⟩
theorem GR.trans {H0 H1 H2 : Heap} {k n k' n' : Nat} (h1 : GR H0 H1 k n) (h2 : GR H1 H2 k' n') : GR H0 H2 (k + k') (n + n') := by
  obtain ⟨a1, a2, a3, a4⟩ := h1
  obtain ⟨b1, b2, b3, b4⟩ := h2
  refine ⟨Nat.le_trans a1 b1, by omega, ?_, fun a c h => ?_⟩
  · have e : (H2.toList.drop H0.size).map (·.slots.size) = (H1.toList.drop H0.size).map (·.slots.size) ++ (H2.toList.drop H1.size).map (·.slots.size) := by
      apply List.ext_getElem?
      intro i
      by_cases hi : i < H1.size - H0.size
      · rw [List.getElem?_append_left (by simp; omega)]
        simp only [List.getElem?_map, List.getElem?_drop]
        have hlt : H0.size + i < H1.size := by omega
        have hc : H1[H0.size + i]? = some H1[H0.size + i] := Array.getElem?_eq_getElem hlt
        obtain ⟨c', hc', e⟩ := b4 _ _ hc
        rw [Array.getElem?_toList, Array.getElem?_toList, hc, hc']
        simp [e]
      · rw [List.getElem?_append_right (by simp; omega)]
        simp only [List.getElem?_map, List.getElem?_drop, List.length_map, List.length_drop, Array.length_toList]
        congr 2
        omega
    unfold gsum at *
    rw [e, List.sum_append]
    omega
  · obtain ⟨c', h1, e1⟩ := a4 a c h
    obtain ⟨c'', h2, e2⟩ := b4 a c' h1
    exact ⟨c'', h2, e2.trans e1⟩
theorem tb_in {w : Cond} (h : w ∈ tables_1) : w ∈ lw_tbl := List.mem_append_right _ h
theorem in_tables_1_1 {w : Cond} (h : w ∈ tables_1_1) : w ∈ lw_tbl := tb_in (List.mem_append_left _ h)
theorem in_tables_1_2 {w : Cond} (h : w ∈ tables_1_2) : w ∈ lw_tbl := tb_in (List.mem_append_right _ (List.mem_append_left _ h))
theorem in_tables_1_3 {w : Cond} (h : w ∈ tables_1_3) : w ∈ lw_tbl := tb_in (List.mem_append_right _ (List.mem_append_right _ (List.mem_append_left _ h)))
theorem in_tables_1_4 {w : Cond} (h : w ∈ tables_1_4) : w ∈ lw_tbl := tb_in (List.mem_append_right _ (List.mem_append_right _ (List.mem_append_right _ (List.mem_append_left _ h))))
theorem in_tables_1_5 {w : Cond} (h : w ∈ tables_1_5) : w ∈ lw_tbl := tb_in (List.mem_append_right _ (List.mem_append_right _ (List.mem_append_right _ (List.mem_append_right _ (List.mem_append_left _ h)))))
theorem in_tables_1_6 {w : Cond} (h : w ∈ tables_1_6) : w ∈ lw_tbl := tb_in (List.mem_append_right _ (List.mem_append_right _ (List.mem_append_right _ (List.mem_append_right _ (List.mem_append_right _ (List.mem_append_left _ h))))))
theorem in_tables_1_7 {w : Cond} (h : w ∈ tables_1_7) : w ∈ lw_tbl := tb_in (List.mem_append_right _ (List.mem_append_right _ (List.mem_append_right _ (List.mem_append_right _ (List.mem_append_right _ (List.mem_append_right _ (h)))))))
theorem n_TypeBook : ∀ a, a < 7 → ∀ b, b < 7 → a ≠ b → (T_TypeBook a).2.1 ≠ (T_TypeBook b).2.1 := by decide +kernel
theorem t_TypeBook_ok : ∀ k, k < 7 → parseFieldDescriptor (T_TypeBook k).2.2.1 = some (t_TypeBook k) := by decide +kernel
theorem in_TypeBook : ∀ w ∈ u_ws R_TypeBook T_TypeBook 7, w ∈ bs_W0 := List.forall_mem_cons.mpr ⟨bs_in (in_tables_1_2 (List.mem_of_getElem? (i := 59) rfl)) rfl, List.forall_mem_cons.mpr  ⟨bs_in (in_tables_1_2 (List.mem_of_getElem? (i := 61) rfl)) rfl, List.forall_mem_cons.mpr  ⟨bs_in (in_tables_1_2 (List.mem_of_getElem? (i := 63) rfl)) rfl, List.forall_mem_cons.mpr  ⟨bs_in (in_tables_1_2 (List.mem_of_getElem? (i := 65) rfl)) rfl, List.forall_mem_cons.mpr  ⟨bs_in (in_tables_1_2 (List.mem_of_getElem? (i := 67) rfl)) rfl, List.forall_mem_cons.mpr  ⟨bs_in (in_tables_1_2 (List.mem_of_getElem? (i := 69) rfl)) rfl, List.forall_mem_cons.mpr  ⟨bs_in (in_tables_1_2 (List.mem_of_getElem? (i := 71) rfl)) rfl, fun _ h => absurd h List.not_mem_nil⟩⟩⟩⟩⟩⟩⟩
theorem n_Trees : ∀ a, a < 6 → ∀ b, b < 6 → a ≠ b → (T_Trees a).2.1 ≠ (T_Trees b).2.1 := by decide +kernel
theorem t_Trees_ok : ∀ k, k < 6 → parseFieldDescriptor (T_Trees k).2.2.1 = some (t_Trees k) := by decide +kernel
theorem in_Trees : ∀ w ∈ u_ws R_Trees T_Trees 6, w ∈ bs_W0 := List.forall_mem_cons.mpr ⟨bs_in (in_tables_1_1 (List.mem_of_getElem? (i := 46) rfl)) rfl, List.forall_mem_cons.mpr  ⟨bs_in (in_tables_1_1 (List.mem_of_getElem? (i := 48) rfl)) rfl, List.forall_mem_cons.mpr  ⟨bs_in (in_tables_1_1 (List.mem_of_getElem? (i := 50) rfl)) rfl, List.forall_mem_cons.mpr  ⟨bs_in (in_tables_1_1 (List.mem_of_getElem? (i := 52) rfl)) rfl, List.forall_mem_cons.mpr  ⟨bs_in (in_tables_1_1 (List.mem_of_getElem? (i := 54) rfl)) rfl, List.forall_mem_cons.mpr  ⟨bs_in (in_tables_1_1 (List.mem_of_getElem? (i := 56) rfl)) rfl, fun _ h => absurd h List.not_mem_nil⟩⟩⟩⟩⟩⟩
theorem n_Names : ∀ a, a < 9 → ∀ b, b < 9 → a ≠ b → (T_Names a).2.1 ≠ (T_Names b).2.1 := by decide +kernel
theorem t_Names_ok : ∀ k, k < 9 → parseFieldDescriptor (T_Names k).2.2.1 = some (t_Names k) := by decide +kernel
theorem in_Names : ∀ w ∈ u_ws R_Names T_Names 9, w ∈ bs_W0 := List.forall_mem_cons.mpr ⟨bs_in (in_tables_1_1 (List.mem_of_getElem? (i := 109) rfl)) rfl, List.forall_mem_cons.mpr  ⟨bs_in (in_tables_1_1 (List.mem_of_getElem? (i := 111) rfl)) rfl, List.forall_mem_cons.mpr  ⟨bs_in (in_tables_1_1 (List.mem_of_getElem? (i := 113) rfl)) rfl, List.forall_mem_cons.mpr  ⟨bs_in (in_tables_1_1 (List.mem_of_getElem? (i := 115) rfl)) rfl, List.forall_mem_cons.mpr  ⟨bs_in (in_tables_1_1 (List.mem_of_getElem? (i := 117) rfl)) rfl, List.forall_mem_cons.mpr  ⟨bs_in (in_tables_1_1 (List.mem_of_getElem? (i := 119) rfl)) rfl, List.forall_mem_cons.mpr  ⟨bs_in (in_tables_1_1 (List.mem_of_getElem? (i := 121) rfl)) rfl, List.forall_mem_cons.mpr  ⟨bs_in (in_tables_1_1 (List.mem_of_getElem? (i := 123) rfl)) rfl, List.forall_mem_cons.mpr  ⟨bs_in (in_tables_1_1 (List.mem_of_getElem? (i := 125) rfl)) rfl, fun _ h => absurd h List.not_mem_nil⟩⟩⟩⟩⟩⟩⟩⟩⟩
theorem n_Types : ∀ a, a < 5 → ∀ b, b < 5 → a ≠ b → (T_Types a).2.1 ≠ (T_Types b).2.1 := by decide +kernel
theorem t_Types_ok : ∀ k, k < 5 → parseFieldDescriptor (T_Types k).2.2.1 = some (t_Types k) := by decide +kernel
theorem in_Types : ∀ w ∈ u_ws R_Types T_Types 5, w ∈ bs_W0 := List.forall_mem_cons.mpr ⟨bs_in (in_tables_1_1 (List.mem_of_getElem? (i := 147) rfl)) rfl, List.forall_mem_cons.mpr  ⟨bs_in (in_tables_1_1 (List.mem_of_getElem? (i := 149) rfl)) rfl, List.forall_mem_cons.mpr  ⟨bs_in (in_tables_1_1 (List.mem_of_getElem? (i := 151) rfl)) rfl, List.forall_mem_cons.mpr  ⟨bs_in (in_tables_1_1 (List.mem_of_getElem? (i := 153) rfl)) rfl, List.forall_mem_cons.mpr  ⟨bs_in (in_tables_1_1 (List.mem_of_getElem? (i := 155) rfl)) rfl, fun _ h => absurd h List.not_mem_nil⟩⟩⟩⟩⟩
theorem n_Objects : ∀ a, a < 5 → ∀ b, b < 5 → a ≠ b → (T_Objects a).2.1 ≠ (T_Objects b).2.1 := by decide +kernel
theorem t_Objects_ok : ∀ k, k < 5 → parseFieldDescriptor (T_Objects k).2.2.1 = some (t_Objects k) := by decide +kernel
theorem in_Objects : ∀ w ∈ u_ws R_Objects T_Objects 5, w ∈ bs_W0 := List.forall_mem_cons.mpr ⟨bs_in (in_tables_1_1 (List.mem_of_getElem? (i := 183) rfl)) rfl, List.forall_mem_cons.mpr  ⟨bs_in (in_tables_1_1 (List.mem_of_getElem? (i := 185) rfl)) rfl, List.forall_mem_cons.mpr  ⟨bs_in (in_tables_1_1 (List.mem_of_getElem? (i := 187) rfl)) rfl, List.forall_mem_cons.mpr  ⟨bs_in (in_tables_1_1 (List.mem_of_getElem? (i := 189) rfl)) rfl, List.forall_mem_cons.mpr  ⟨bs_in (in_tables_1_1 (List.mem_of_getElem? (i := 191) rfl)) rfl, fun _ h => absurd h List.not_mem_nil⟩⟩⟩⟩⟩
theorem n_Rows : ∀ a, a < 1 → ∀ b, b < 1 → a ≠ b → (T_Rows a).2.1 ≠ (T_Rows b).2.1 := by decide +kernel
theorem t_Rows_ok : ∀ k, k < 1 → parseFieldDescriptor (T_Rows k).2.2.1 = some (t_Rows k) := by decide +kernel
theorem in_Rows : ∀ w ∈ u_ws R_Rows T_Rows 1, w ∈ bs_W0 := List.forall_mem_cons.mpr ⟨bs_in (in_tables_1_1 (List.mem_of_getElem? (i := 172) rfl)) rfl, fun _ h => absurd h List.not_mem_nil⟩
theorem n_Looks : ∀ a, a < 6 → ∀ b, b < 6 → a ≠ b → (T_Looks a).2.1 ≠ (T_Looks b).2.1 := by decide +kernel
theorem t_Looks_ok : ∀ k, k < 6 → parseFieldDescriptor (T_Looks k).2.2.1 = some (t_Looks k) := by decide +kernel
theorem in_Looks : ∀ w ∈ u_ws R_Looks T_Looks 6, w ∈ bs_W0 := List.forall_mem_cons.mpr ⟨bs_in (in_tables_1_1 (List.mem_of_getElem? (i := 213) rfl)) rfl, List.forall_mem_cons.mpr  ⟨bs_in (in_tables_1_1 (List.mem_of_getElem? (i := 215) rfl)) rfl, List.forall_mem_cons.mpr  ⟨bs_in (in_tables_1_1 (List.mem_of_getElem? (i := 217) rfl)) rfl, List.forall_mem_cons.mpr  ⟨bs_in (in_tables_1_1 (List.mem_of_getElem? (i := 219) rfl)) rfl, List.forall_mem_cons.mpr  ⟨bs_in (in_tables_1_1 (List.mem_of_getElem? (i := 221) rfl)) rfl, List.forall_mem_cons.mpr  ⟨bs_in (in_tables_1_1 (List.mem_of_getElem? (i := 223) rfl)) rfl, fun _ h => absurd h List.not_mem_nil⟩⟩⟩⟩⟩⟩
theorem n_Looker : ∀ a, a < 8 → ∀ b, b < 8 → a ≠ b → (T_Looker a).2.1 ≠ (T_Looker b).2.1 := by decide +kernel
theorem t_Looker_ok : ∀ k, k < 8 → parseFieldDescriptor (T_Looker k).2.2.1 = some (t_Looker k) := by decide +kernel
theorem in_Looker : ∀ w ∈ u_ws R_Looker T_Looker 8, w ∈ bs_W0 := List.forall_mem_cons.mpr ⟨bs_in (in_tables_1_2 (List.mem_of_getElem? (i := 35) rfl)) rfl, List.forall_mem_cons.mpr  ⟨bs_in (in_tables_1_2 (List.mem_of_getElem? (i := 37) rfl)) rfl, List.forall_mem_cons.mpr  ⟨bs_in (in_tables_1_2 (List.mem_of_getElem? (i := 39) rfl)) rfl, List.forall_mem_cons.mpr  ⟨bs_in (in_tables_1_2 (List.mem_of_getElem? (i := 41) rfl)) rfl, List.forall_mem_cons.mpr  ⟨bs_in (in_tables_1_2 (List.mem_of_getElem? (i := 43) rfl)) rfl, List.forall_mem_cons.mpr  ⟨bs_in (in_tables_1_2 (List.mem_of_getElem? (i := 45) rfl)) rfl, List.forall_mem_cons.mpr  ⟨bs_in (in_tables_1_2 (List.mem_of_getElem? (i := 47) rfl)) rfl, List.forall_mem_cons.mpr  ⟨bs_in (in_tables_1_2 (List.mem_of_getElem? (i := 49) rfl)) rfl, fun _ h => absurd h List.not_mem_nil⟩⟩⟩⟩⟩⟩⟩⟩
theorem n_Operators : ∀ a, a < 1 → ∀ b, b < 1 → a ≠ b → (T_Operators a).2.1 ≠ (T_Operators b).2.1 := by decide +kernel
theorem t_Operators_ok : ∀ k, k < 1 → parseFieldDescriptor (T_Operators k).2.2.1 = some (t_Operators k) := by decide +kernel
theorem in_Operators : ∀ w ∈ u_ws R_Operators T_Operators 1, w ∈ bs_W0 := List.forall_mem_cons.mpr ⟨bs_in (in_tables_1_2 (List.mem_of_getElem? (i := 1) rfl)) rfl, fun _ h => absurd h List.not_mem_nil⟩
theorem n_Meanings : ∀ a, a < 5 → ∀ b, b < 5 → a ≠ b → (T_Meanings a).2.1 ≠ (T_Meanings b).2.1 := by decide +kernel
theorem t_Meanings_ok : ∀ k, k < 5 → parseFieldDescriptor (T_Meanings k).2.2.1 = some (t_Meanings k) := by decide +kernel
theorem in_Meanings : ∀ w ∈ u_ws R_Meanings T_Meanings 5, w ∈ bs_W0 := List.forall_mem_cons.mpr ⟨bs_in (in_tables_1_2 (List.mem_of_getElem? (i := 15) rfl)) rfl, List.forall_mem_cons.mpr  ⟨bs_in (in_tables_1_2 (List.mem_of_getElem? (i := 17) rfl)) rfl, List.forall_mem_cons.mpr  ⟨bs_in (in_tables_1_2 (List.mem_of_getElem? (i := 19) rfl)) rfl, List.forall_mem_cons.mpr  ⟨bs_in (in_tables_1_2 (List.mem_of_getElem? (i := 21) rfl)) rfl, List.forall_mem_cons.mpr  ⟨bs_in (in_tables_1_2 (List.mem_of_getElem? (i := 23) rfl)) rfl, fun _ h => absurd h List.not_mem_nil⟩⟩⟩⟩⟩
theorem n_Model : ∀ a, a < 35 → ∀ b, b < 35 → a ≠ b → (T_Model a).2.1 ≠ (T_Model b).2.1 := by decide +kernel
theorem t_Model_ok : ∀ k, k < 35 → parseFieldDescriptor (T_Model k).2.2.1 = some (t_Model k) := by decide +kernel
theorem in_Model : ∀ w ∈ u_ws R_Model T_Model 35, w ∈ bs_W0 := List.forall_mem_cons.mpr ⟨bs_in (in_tables_1_5 (List.mem_of_getElem? (i := 188) rfl)) rfl, List.forall_mem_cons.mpr  ⟨bs_in (in_tables_1_5 (List.mem_of_getElem? (i := 190) rfl)) rfl, List.forall_mem_cons.mpr  ⟨bs_in (in_tables_1_5 (List.mem_of_getElem? (i := 192) rfl)) rfl, List.forall_mem_cons.mpr  ⟨bs_in (in_tables_1_5 (List.mem_of_getElem? (i := 194) rfl)) rfl, List.forall_mem_cons.mpr  ⟨bs_in (in_tables_1_5 (List.mem_of_getElem? (i := 196) rfl)) rfl, List.forall_mem_cons.mpr  ⟨bs_in (in_tables_1_5 (List.mem_of_getElem? (i := 198) rfl)) rfl, List.forall_mem_cons.mpr  ⟨bs_in (in_tables_1_5 (List.mem_of_getElem? (i := 200) rfl)) rfl, List.forall_mem_cons.mpr  ⟨bs_in (in_tables_1_5 (List.mem_of_getElem? (i := 202) rfl)) rfl, List.forall_mem_cons.mpr  ⟨bs_in (in_tables_1_5 (List.mem_of_getElem? (i := 204) rfl)) rfl, List.forall_mem_cons.mpr  ⟨bs_in (in_tables_1_5 (List.mem_of_getElem? (i := 206) rfl)) rfl, List.forall_mem_cons.mpr  ⟨bs_in (in_tables_1_5 (List.mem_of_getElem? (i := 208) rfl)) rfl, List.forall_mem_cons.mpr  ⟨bs_in (in_tables_1_5 (List.mem_of_getElem? (i := 210) rfl)) rfl, List.forall_mem_cons.mpr  ⟨bs_in (in_tables_1_5 (List.mem_of_getElem? (i := 212) rfl)) rfl, List.forall_mem_cons.mpr  ⟨bs_in (in_tables_1_5 (List.mem_of_getElem? (i := 214) rfl)) rfl, List.forall_mem_cons.mpr  ⟨bs_in (in_tables_1_5 (List.mem_of_getElem? (i := 216) rfl)) rfl, List.forall_mem_cons.mpr  ⟨bs_in (in_tables_1_5 (List.mem_of_getElem? (i := 218) rfl)) rfl, List.forall_mem_cons.mpr  ⟨bs_in (in_tables_1_5 (List.mem_of_getElem? (i := 220) rfl)) rfl, List.forall_mem_cons.mpr  ⟨bs_in (in_tables_1_5 (List.mem_of_getElem? (i := 222) rfl)) rfl, List.forall_mem_cons.mpr  ⟨bs_in (in_tables_1_5 (List.mem_of_getElem? (i := 224) rfl)) rfl, List.forall_mem_cons.mpr  ⟨bs_in (in_tables_1_5 (List.mem_of_getElem? (i := 226) rfl)) rfl, List.forall_mem_cons.mpr  ⟨bs_in (in_tables_1_5 (List.mem_of_getElem? (i := 228) rfl)) rfl, List.forall_mem_cons.mpr  ⟨bs_in (in_tables_1_5 (List.mem_of_getElem? (i := 230) rfl)) rfl, List.forall_mem_cons.mpr  ⟨bs_in (in_tables_1_5 (List.mem_of_getElem? (i := 232) rfl)) rfl, List.forall_mem_cons.mpr  ⟨bs_in (in_tables_1_5 (List.mem_of_getElem? (i := 234) rfl)) rfl, List.forall_mem_cons.mpr  ⟨bs_in (in_tables_1_5 (List.mem_of_getElem? (i := 236) rfl)) rfl, List.forall_mem_cons.mpr  ⟨bs_in (in_tables_1_5 (List.mem_of_getElem? (i := 238) rfl)) rfl, List.forall_mem_cons.mpr  ⟨bs_in (in_tables_1_6 (List.mem_of_getElem? (i := 0) rfl)) rfl, List.forall_mem_cons.mpr  ⟨bs_in (in_tables_1_6 (List.mem_of_getElem? (i := 2) rfl)) rfl, List.forall_mem_cons.mpr  ⟨bs_in (in_tables_1_6 (List.mem_of_getElem? (i := 4) rfl)) rfl, List.forall_mem_cons.mpr  ⟨bs_in (in_tables_1_6 (List.mem_of_getElem? (i := 6) rfl)) rfl, List.forall_mem_cons.mpr  ⟨bs_in (in_tables_1_6 (List.mem_of_getElem? (i := 8) rfl)) rfl, List.forall_mem_cons.mpr  ⟨bs_in (in_tables_1_6 (List.mem_of_getElem? (i := 10) rfl)) rfl, List.forall_mem_cons.mpr  ⟨bs_in (in_tables_1_6 (List.mem_of_getElem? (i := 12) rfl)) rfl, List.forall_mem_cons.mpr  ⟨bs_in (in_tables_1_6 (List.mem_of_getElem? (i := 14) rfl)) rfl, List.forall_mem_cons.mpr  ⟨bs_in (in_tables_1_6 (List.mem_of_getElem? (i := 16) rfl)) rfl, fun _ h => absurd h List.not_mem_nil⟩⟩⟩⟩⟩⟩⟩⟩⟩⟩⟩⟩⟩⟩⟩⟩⟩⟩⟩⟩⟩⟩⟩⟩⟩⟩⟩⟩⟩⟩⟩⟩⟩⟩⟩
-- CONTRACTS: what the tables say (CX), methods that only read (PU), methods that write (MU)
abbrev gE : Type := va_G × ClassId × ClassId × (Nat → Nat)
def cx_isN : Cond → Bool
  | .methodLinkNest .. => true
  | .fieldLinkNest .. => true
  | _ => false
def CX (γ : gE) (U : State) : Prop := va_K γ.1 vwCl [(γ.2.1, .int), (γ.2.2.1, .long), (γ.2.2.2 20, .byte), (γ.2.2.2 21, .boolean)] U ∧ ∀ w ∈ lw_tbl, cx_isN w = true → va_Nw w U
theorem CX.warm {γ : gE} {s U : State} (h : CX γ s) (hW : s.WarmedH U.vm) : CX γ U := ⟨va_K.moved hW.alike h.1, fun w hw hn => by
  have h2 := h.2 w hw hn
  unfold cx_isN at hn
  split at hn
  · exact va_Nw.warmM hW h2
  · exact va_Nw.warmF hW h2
  · cases hn⟩
theorem CX.same {γ : gE} {u U : State} (h : CX γ u) (hv : u.vm = U.vm) : CX γ U := ⟨va_K.moved (by rw [hv]; exact Vm.Alike.refl _) h.1, fun w hw hn => by
  have h2 := h.2 w hw hn
  unfold cx_isN at hn
  split at hn
  · exact va_Nw.same rfl hv h2
  · exact va_Nw.same rfl hv h2
  · cases hn⟩
theorem cx_blind {av : List Value} {γ : gE} {P : Heap → Prop} : FrameBlind (va_Pc av (fun U => CX γ U ∧ P U.heap)) := fun _ _ _ _ h => ⟨h.1, h.2.1.same rfl, h.2.2⟩
theorem mu_blind {av : List Value} {γ : gE} {P : Heap → Prop} {A : Nat → Prop} : FrameBlind (va_Pc av (fun U => CX γ U ∧ (∀ q, U.heap.size ≤ q → A q) ∧ P U.heap)) := fun _ _ _ _ h => ⟨h.1, h.2.1.same rfl, h.2.2.1, h.2.2.2⟩
abbrev bs_rm (fr mc ms lo : Nat) : Room := { frames := fr, cells := mc, slots := ms, locals := lo }
abbrev PU (l : Launch) (y : MethodName) (bytes : ByteArray) (maxL : Nat) (ret : Option FieldType) (fr lo : Nat) (av : List Value) (γ : gE) (P : Heap → Prop) (Qc : Array Value → State → Outcome → State → Prop) : Prop :=
  Met l y (Cond.code y bytes maxL ret :: bs_W0) (bs_rm fr 0 0 lo) (va_Pc av (fun U => CX γ U ∧ P U.heap)) Qc 0 0 (fun _ => False)
abbrev MU (l : Launch) (y : MethodName) (bytes : ByteArray) (maxL : Nat) (ret : Option FieldType) (fr lo mc ms : Nat) (av : List Value) (γ : gE) (A : Nat → Prop) (P : Heap → Prop) (Qc : Array Value → State → Outcome → State → Prop) : Prop :=
  Met l y (Cond.code y bytes maxL ret :: bs_W0) (bs_rm fr mc ms lo) (va_Pc av (fun U => CX γ U ∧ (∀ q, U.heap.size ≤ q → A q) ∧ P U.heap)) Qc mc ms A
abbrev mQv (PO : Heap → Prop) (A : Nat → Prop) : Array Value → State → Outcome → State → Prop := va_Qv (S := Unit) (fun _ => True) (fun _ t => PO t.heap) A
abbrev mQi (PO : Int32 → Heap → Prop) (A : Nat → Prop) : Array Value → State → Outcome → State → Prop := va_Qi (S := Int32) (fun r u => u = r) (fun u t => PO u t.heap) A
abbrev mQl (PO : Int64 → Heap → Prop) (A : Nat → Prop) : Array Value → State → Outcome → State → Prop := va_Ql (S := Int64) (fun r u => u = r) (fun u t => PO u t.heap) A
abbrev mQr (PO : Nat → Heap → Prop) (A : Nat → Prop) : Array Value → State → Outcome → State → Prop := va_Qr (S := Unit) (fun _ => True) (fun _ a t => PO a t.heap) A
section CXS
variable {p : Program} {l : Launch} {e : Env} {R : Room} {s : State} {m : MethodId} {args : Array Value} {below : List Frame} {meth : Method} {c : Code} {H : Heap} {locs : List Loc} {cells slots : Nat} {Q : State → Prop}
variable {y : MethodName} {bytes cc : ByteArray} {maxL nL mc ms n index fr lo : Nat} {ret : Option FieldType} {own : String} {b : Addr} {As rest st0 av : List Value} {pc : Nat} {ls : Array Slot} {γ : gE} {P : Heap → Prop} {A A0 : Nat → Prop} {H0 : Heap}
theorem pu_open {Qc : Array Value → State → Outcome → State → Prop} (hy : plainName y.cls = true) (hn : (lg_sl av).length ≤ maxL)
    (body : ∀ (p : Program) (e : Env) (s : State) (m : MethodId) (below : List Frame) (meth : Method) (c : Code) (ls : Array Slot), bs_F p s m av.toArray c bytes maxL y.cls → meth.sig.returnType = ret → meth.locks = false → CX γ s → P s.heap → lv_has ls maxL (lv_args 0 av) →
      W p l e (bs_rm fr 0 0 lo) s m av.toArray below meth c s.heap [] 0 0 (MQ below Qc av.toArray s 0 0 (fun _ => False)) (F0 m 0 ls [])) : PU l y bytes maxL ret fr lo av γ P Qc := by
  refine Met.ofW (cc := bytes) (maxL := maxL) (ret := ret) hy rfl ?_
  intro p e s m args below meth c s₁ B hml hv
  obtain ⟨rfl, hC, hP⟩ := hv
  have hts := bs_hts (atoms_spec (ws := Cond.code y bytes maxL ret :: bs_W0) B.pre)
  have hl := lv_entry av (n := maxL) hn
  rw [lg_entry_eq]
  exact body p e s m below meth c _ ⟨B.exec, B.bytes, hml, findClass_of_methodNamed B.named, hts⟩ B.returns B.notSynchronized hC hP hl
theorem mu_open {Qc : Array Value → State → Outcome → State → Prop} (hy : plainName y.cls = true) (hn : (lg_sl av).length ≤ maxL)
    (body : ∀ (p : Program) (e : Env) (s : State) (m : MethodId) (below : List Frame) (meth : Method) (c : Code) (ls : Array Slot), bs_F p s m av.toArray c bytes maxL y.cls → meth.sig.returnType = ret → meth.locks = false → meth.name = y.name → CX γ s → (∀ q, s.heap.size ≤ q → A q) → P s.heap → lv_has ls maxL (lv_args 0 av) →
      W p l e (bs_rm fr mc ms lo) s m av.toArray below meth c s.heap [] 0 0 (MQ below Qc av.toArray s mc ms A) (F0 m 0 ls [])) : MU l y bytes maxL ret fr lo mc ms av γ A P Qc := by
  refine Met.ofW (cc := bytes) (maxL := maxL) (ret := ret) hy rfl ?_
  intro p e s m args below meth c s₁ B hml hv
  obtain ⟨rfl, hC, hA, hP⟩ := hv
  have hts := bs_hts (atoms_spec (ws := Cond.code y bytes maxL ret :: bs_W0) B.pre)
  have hl := lv_entry av (n := maxL) hn
  rw [lg_entry_eq]
  exact body p e s m below meth c _ ⟨B.exec, B.bytes, hml, findClass_of_methodNamed B.named, hts⟩ B.returns B.notSynchronized (name_of_methodNamed B.named B.method).1 hC hA hP hl
/-- openings with the end as a premise: the walk's own aim stays a name -/
theorem pu_openI {post : Int32 → Prop} (hy : plainName y.cls = true) (hn : (lg_sl av).length ≤ maxL)
    (body : ∀ (p : Program) (e : Env) (s : State) (m : MethodId) (args : Array Value) (below : List Frame) (meth : Method) (c : Code) (ls : Array Slot) (Q : State → Prop), bs_F p s m args c bytes maxL y.cls → CX γ s → P s.heap → (∀ (v : Int32) (pc : Nat) (ls : Array Slot), post v → decode bytes pc = .ok (.ireturn, 1) → W p l e (bs_rm fr 0 0 lo) s m args below meth c s.heap [] 0 0 Q (F0 m pc ls [.int v])) → lv_has ls maxL (lv_args 0 av) → W p l e (bs_rm fr 0 0 lo) s m args below meth c s.heap [] 0 0 Q (F0 m 0 ls [])) : PU l y bytes maxL (some .int) fr lo av γ P (vp_Si post) :=
  pu_open hy hn (fun p e s m below meth c ls S hr hlk hC hP hl => body p e s m _ below meth c ls _ S hC hP (fun v _ _ hp hdg => W.iret S.1 S.2.1 hr (fun t ht _ => ⟨v, rfl, hp, ht⟩) (fun q h => by cases h) hdg hlk) hl)
theorem pu_openZ {post : Int32 → Prop} (hy : plainName y.cls = true) (hn : (lg_sl av).length ≤ maxL)
    (body : ∀ (p : Program) (e : Env) (s : State) (m : MethodId) (args : Array Value) (below : List Frame) (meth : Method) (c : Code) (ls : Array Slot) (Q : State → Prop), bs_F p s m args c bytes maxL y.cls → CX γ s → P s.heap → (∀ (v : Int32) (pc : Nat) (ls : Array Slot), narrow .boolean (.int v) = .int v → post v → decode bytes pc = .ok (.ireturn, 1) → W p l e (bs_rm fr 0 0 lo) s m args below meth c s.heap [] 0 0 Q (F0 m pc ls [.int v])) → lv_has ls maxL (lv_args 0 av) → W p l e (bs_rm fr 0 0 lo) s m args below meth c s.heap [] 0 0 Q (F0 m 0 ls [])) : PU l y bytes maxL (some .boolean) fr lo av γ P (vp_Si post) :=
  pu_open hy hn (fun p e s m below meth c ls S hr hlk hC hP hl => body p e s m _ below meth c ls _ S hC hP (fun v _ _ hz hp hdg => W.zret S.1 S.2.1 hr hz (fun t ht _ => ⟨v, rfl, hp, ht⟩) (fun q h => by cases h) hdg hlk) hl)
theorem pu_openJ {post : Int64 → Prop} (hy : plainName y.cls = true) (hn : (lg_sl av).length ≤ maxL)
    (body : ∀ (p : Program) (e : Env) (s : State) (m : MethodId) (args : Array Value) (below : List Frame) (meth : Method) (c : Code) (ls : Array Slot) (Q : State → Prop), bs_F p s m args c bytes maxL y.cls → CX γ s → P s.heap → (∀ (v : Int64) (pc : Nat) (ls : Array Slot), post v → decode bytes pc = .ok (.lreturn, 1) → W p l e (bs_rm fr 0 0 lo) s m args below meth c s.heap [] 0 0 Q (F0 m pc ls [.long v])) → lv_has ls maxL (lv_args 0 av) → W p l e (bs_rm fr 0 0 lo) s m args below meth c s.heap [] 0 0 Q (F0 m 0 ls [])) : PU l y bytes maxL (some .long) fr lo av γ P (vp_Sl post) :=
  pu_open hy hn (fun p e s m below meth c ls S hr hlk hC hP hl => body p e s m _ below meth c ls _ S hC hP (fun v _ _ hp hdg => W.lret S.1 S.2.1 hr (fun t ht _ => ⟨v, rfl, hp, ht⟩) (fun q h => by cases h) hdg hlk) hl)
theorem pu_openF {Qc : Array Value → State → Outcome → State → Prop} (hy : plainFor y = true) (hn : (lg_sl av).length ≤ maxL)
    (body : ∀ (p : Program) (e : Env) (s : State) (m : MethodId) (below : List Frame) (meth : Method) (c : Code) (ls : Array Slot), bs_F p s m av.toArray c bytes maxL y.cls → meth.sig.returnType = ret → meth.locks = false → CX γ s → P s.heap → lv_has ls maxL (lv_args 0 av) →
      W p l e (bs_rm fr 0 0 lo) s m av.toArray below meth c s.heap [] 0 0 (MQ below Qc av.toArray s 0 0 (fun _ => False)) (F0 m 0 ls [])) : PU l y bytes maxL ret fr lo av γ P Qc := by
  refine va_MetF (cc := bytes) (maxL := maxL) (ret := ret) hy rfl ?_
  intro p e s m args below meth c s₁ B hml hv
  obtain ⟨rfl, hC, hP⟩ := hv
  have hts := bs_hts (atoms_spec (ws := Cond.code y bytes maxL ret :: bs_W0) B.pre)
  have hl := lv_entry av (n := maxL) hn
  rw [lg_entry_eq]
  exact body p e s m below meth c _ ⟨B.exec, B.bytes, hml, findClass_of_methodNamed B.named, hts⟩ B.returns B.notSynchronized hC hP hl
theorem pu_openFI {post : Int32 → Prop} (hy : plainFor y = true) (hn : (lg_sl av).length ≤ maxL)
    (body : ∀ (p : Program) (e : Env) (s : State) (m : MethodId) (args : Array Value) (below : List Frame) (meth : Method) (c : Code) (ls : Array Slot) (Q : State → Prop), bs_F p s m args c bytes maxL y.cls → CX γ s → P s.heap → (∀ (v : Int32) (pc : Nat) (ls : Array Slot), post v → decode bytes pc = .ok (.ireturn, 1) → W p l e (bs_rm fr 0 0 lo) s m args below meth c s.heap [] 0 0 Q (F0 m pc ls [.int v])) → lv_has ls maxL (lv_args 0 av) → W p l e (bs_rm fr 0 0 lo) s m args below meth c s.heap [] 0 0 Q (F0 m 0 ls [])) : PU l y bytes maxL (some .int) fr lo av γ P (vp_Si post) :=
  pu_openF hy hn (fun p e s m below meth c ls S hr hlk hC hP hl => body p e s m _ below meth c ls _ S hC hP (fun v _ _ hp hdg => W.iret S.1 S.2.1 hr (fun t ht _ => ⟨v, rfl, hp, ht⟩) (fun q h => by cases h) hdg hlk) hl)
theorem pu_openFJ {post : Int64 → Prop} (hy : plainFor y = true) (hn : (lg_sl av).length ≤ maxL)
    (body : ∀ (p : Program) (e : Env) (s : State) (m : MethodId) (args : Array Value) (below : List Frame) (meth : Method) (c : Code) (ls : Array Slot) (Q : State → Prop), bs_F p s m args c bytes maxL y.cls → CX γ s → P s.heap → (∀ (v : Int64) (pc : Nat) (ls : Array Slot), post v → decode bytes pc = .ok (.lreturn, 1) → W p l e (bs_rm fr 0 0 lo) s m args below meth c s.heap [] 0 0 Q (F0 m pc ls [.long v])) → lv_has ls maxL (lv_args 0 av) → W p l e (bs_rm fr 0 0 lo) s m args below meth c s.heap [] 0 0 Q (F0 m 0 ls [])) : PU l y bytes maxL (some .long) fr lo av γ P (vp_Sl post) :=
  pu_openF hy hn (fun p e s m below meth c ls S hr hlk hC hP hl => body p e s m _ below meth c ls _ S hC hP (fun v _ _ hp hdg => W.lret S.1 S.2.1 hr (fun t ht _ => ⟨v, rfl, hp, ht⟩) (fun q h => by cases h) hdg hlk) hl)
theorem mu_openI {PO : Int32 → Heap → Prop} (hy : plainName y.cls = true) (hn : (lg_sl av).length ≤ maxL)
    (body : ∀ (p : Program) (e : Env) (s : State) (m : MethodId) (args : Array Value) (below : List Frame) (meth : Method) (c : Code) (ls : Array Slot) (Q : State → Prop), bs_F p s m args c bytes maxL y.cls → meth.name = y.name → CX γ s → (∀ q, s.heap.size ≤ q → A q) → P s.heap → (∀ (H : Heap) (locs : List Loc) (v : Int32) (pc : Nat) (ls : Array Slot), va_S A s.heap H locs → PO v H → decode bytes pc = .ok (.ireturn, 1) → W p l e (bs_rm fr mc ms lo) s m args below meth c H locs mc ms Q (F0 m pc ls [.int v])) → lv_has ls maxL (lv_args 0 av) → W p l e (bs_rm fr mc ms lo) s m args below meth c s.heap [] 0 0 Q (F0 m 0 ls [])) : MU l y bytes maxL (some .int) fr lo mc ms av γ A P (mQi PO A) :=
  mu_open hy hn (fun p e s m below meth c ls S hr hlk hnm hC hA hP hl => body p e s m _ below meth c ls _ S hnm hC hA hP (fun H locs v _ _ hS hp hdg => W.iret S.1 S.2.1 hr (fun t ht _ => ⟨⟨v, v, rfl, rfl, by show PO v t.heap; rw [ht]; exact hp⟩, hS.F ht⟩) hS.2.2 hdg hlk) hl)
theorem mu_openV {PO : Heap → Prop} (hy : plainName y.cls = true) (hn : (lg_sl av).length ≤ maxL)
    (body : ∀ (p : Program) (e : Env) (s : State) (m : MethodId) (args : Array Value) (below : List Frame) (meth : Method) (c : Code) (ls : Array Slot) (Q : State → Prop), bs_F p s m args c bytes maxL y.cls → meth.name = y.name → CX γ s → (∀ q, s.heap.size ≤ q → A q) → P s.heap → (∀ (H : Heap) (locs : List Loc) (pc : Nat) (ls : Array Slot), va_S A s.heap H locs → PO H → decode bytes pc = .ok (.return_, 1) → W p l e (bs_rm fr mc ms lo) s m args below meth c H locs mc ms Q (F0 m pc ls [])) → lv_has ls maxL (lv_args 0 av) → W p l e (bs_rm fr mc ms lo) s m args below meth c s.heap [] 0 0 Q (F0 m 0 ls [])) : MU l y bytes maxL none fr lo mc ms av γ A P (mQv PO A) :=
  mu_open hy hn (fun p e s m below meth c ls S hr hlk hnm hC hA hP hl => body p e s m _ below meth c ls _ S hnm hC hA hP (fun H locs _ _ hS hp hdg => W.vret S.1 S.2.1 hr (fun t ht _ => ⟨⟨(), rfl, trivial, by show PO t.heap; rw [ht]; exact hp⟩, hS.F ht⟩) hS.2.2 hdg hlk) hl)
theorem pu_Vi {post : Int32 → Prop} (S : bs_F p s m args c cc nL own) (hC : CX γ s) (hM : PU l y bytes maxL ret fr lo (.ref b :: As) γ P (vp_Si post)) (me : bs_Mi y bytes maxL ret n) (lk : Cond.methodLink own index y ∈ bs_W0) (hR : fr + 1 ≤ R.frames ∧ 8 + (maxL + 11) + lo ≤ R.locals) (hrv : ∃ cellB : Cell, H[b]? = some cellB ∧ cellB.vm.isStatics = false ∧ s.vm.findClass y.cls = some cellB.cls) (hP : P H) (hn : As.length = n) (hsz : ls.size = nL) (hst : st0 = As.reverse ++ .ref b :: rest) (hrm : (rest.map fun v => v.category).sum ≤ 8) (hdg : decode cc pc = .ok (.invokevirtual index, 3)) (hf : cells ≤ R.cells ∧ slots ≤ R.slots)
    (kk : ∀ r : Int32, post r → W p l e R s m args below meth c H locs cells slots Q (F0 m (pc + 3) ls (.int r :: rest))) : W p l e R s m args below meth c H locs cells slots Q (F0 m pc ls st0) :=
  vp_callSi (va_Run.run (va_runV (As := As) (rest := rest) S hM (bs_cwV S.2.2.2.2 me lk rfl rfl hR) ⟨cx_blind, hrv, fun U hU hW => ⟨rfl, hC.warm hW, by rw [hU]; exact hP⟩⟩ rfl hn hsz hst (lv_room hrm) hdg hf)) kk
theorem pu_Vl {post : Int64 → Prop} (S : bs_F p s m args c cc nL own) (hC : CX γ s) (hM : PU l y bytes maxL ret fr lo (.ref b :: As) γ P (vp_Sl post)) (me : bs_Mi y bytes maxL ret n) (lk : Cond.methodLink own index y ∈ bs_W0) (hR : fr + 1 ≤ R.frames ∧ 8 + (maxL + 11) + lo ≤ R.locals) (hrv : ∃ cellB : Cell, H[b]? = some cellB ∧ cellB.vm.isStatics = false ∧ s.vm.findClass y.cls = some cellB.cls) (hP : P H) (hn : As.length = n) (hsz : ls.size = nL) (hst : st0 = As.reverse ++ .ref b :: rest) (hrm : (rest.map fun v => v.category).sum ≤ 8) (hdg : decode cc pc = .ok (.invokevirtual index, 3)) (hf : cells ≤ R.cells ∧ slots ≤ R.slots)
    (kk : ∀ r : Int64, post r → W p l e R s m args below meth c H locs cells slots Q (F0 m (pc + 3) ls (.long r :: rest))) : W p l e R s m args below meth c H locs cells slots Q (F0 m pc ls st0) :=
  vp_callSl (va_Run.run (va_runV (As := As) (rest := rest) S hM (bs_cwV S.2.2.2.2 me lk rfl rfl hR) ⟨cx_blind, hrv, fun U hU hW => ⟨rfl, hC.warm hW, by rw [hU]; exact hP⟩⟩ rfl hn hsz hst (lv_room hrm) hdg hf)) kk
theorem mu_Vi {PO : Int32 → Heap → Prop} (S : bs_F p s m args c cc nL own) (hC : CX γ s) (hA : ∀ q, H.size ≤ q → A q) (hAA : ∀ q, A q → A0 q) (hS : va_S A0 H0 H locs) (hM : MU l y bytes maxL ret fr lo mc ms (.ref b :: As) γ A P (mQi PO A)) (me : bs_Mi y bytes maxL ret n) (lk : Cond.methodLink own index y ∈ bs_W0) (hR : fr + 1 ≤ R.frames ∧ 8 + (maxL + 11) + lo ≤ R.locals) (hrv : ∃ cellB : Cell, H[b]? = some cellB ∧ cellB.vm.isStatics = false ∧ s.vm.findClass y.cls = some cellB.cls) (hP : P H) (hn : As.length = n) (hsz : ls.size = nL) (hst : st0 = As.reverse ++ .ref b :: rest) (hrm : (rest.map fun v => v.category).sum ≤ 8) (hdg : decode cc pc = .ok (.invokevirtual index, 3)) (hf : cells + mc ≤ R.cells ∧ slots + ms ≤ R.slots)
    (kk : ∀ (r : Int32) (H1 : Heap) (locs1 : List Loc), PO r H1 → va_S A0 H0 H1 locs1 → H.size ≤ H1.size → (∀ q : Nat, q < H.size → ¬ A q → H1[q]? = H[q]?) → W p l e R s m args below meth c H1 locs1 (cells + mc) (slots + ms) Q (F0 m (pc + 3) ls (.int r :: rest))) : W p l e R s m args below meth c H locs cells slots Q (F0 m pc ls st0) :=
  va_calli (va_runV (As := As) (rest := rest) S hM (bs_cwV S.2.2.2.2 me lk rfl rfl hR) ⟨mu_blind, hrv, fun U hU hW => ⟨rfl, hC.warm hW, by rw [hU]; exact hA, by rw [hU]; exact hP⟩⟩ rfl hn hsz hst (lv_room hrm) hdg hf) hS (fun q _ h => hAA q h) hAA (fun r u t H1 locs1 ht _ hw hB hz hk hS1 => kk r H1 locs1 (by cases hw; rw [← ht]; exact hB) hS1 hz hk)
theorem mu_Vv {PO : Heap → Prop} (S : bs_F p s m args c cc nL own) (hC : CX γ s) (hA : ∀ q, H.size ≤ q → A q) (hAA : ∀ q, A q → A0 q) (hS : va_S A0 H0 H locs) (hM : MU l y bytes maxL ret fr lo mc ms (.ref b :: As) γ A P (mQv PO A)) (me : bs_Mi y bytes maxL ret n) (lk : Cond.methodLink own index y ∈ bs_W0) (hR : fr + 1 ≤ R.frames ∧ 8 + (maxL + 11) + lo ≤ R.locals) (hrv : ∃ cellB : Cell, H[b]? = some cellB ∧ cellB.vm.isStatics = false ∧ s.vm.findClass y.cls = some cellB.cls) (hP : P H) (hn : As.length = n) (hsz : ls.size = nL) (hst : st0 = As.reverse ++ .ref b :: rest) (hrm : (rest.map fun v => v.category).sum ≤ 8) (hdg : decode cc pc = .ok (.invokevirtual index, 3)) (hf : cells + mc ≤ R.cells ∧ slots + ms ≤ R.slots)
    (kk : ∀ (H1 : Heap) (locs1 : List Loc), PO  H1 → va_S A0 H0 H1 locs1 → H.size ≤ H1.size → (∀ q : Nat, q < H.size → ¬ A q → H1[q]? = H[q]?) → W p l e R s m args below meth c H1 locs1 (cells + mc) (slots + ms) Q (F0 m (pc + 3) ls (rest))) : W p l e R s m args below meth c H locs cells slots Q (F0 m pc ls st0) :=
  va_callv (va_runV (As := As) (rest := rest) S hM (bs_cwV S.2.2.2.2 me lk rfl rfl hR) ⟨mu_blind, hrv, fun U hU hW => ⟨rfl, hC.warm hW, by rw [hU]; exact hA, by rw [hU]; exact hP⟩⟩ rfl hn hsz hst (lv_room hrm) hdg hf) hS (fun q _ h => hAA q h) hAA (fun u t H1 locs1 ht _ hw hB hz hk hS1 => kk H1 locs1 (by rw [← ht]; exact hB) hS1 hz hk)
theorem pu_Si {post : Int32 → Prop} (S : bs_F p s m args c cc nL own) (hC : CX γ s) (hM : PU l y bytes maxL ret fr lo As γ P (vp_Si post)) (me : bs_Ms y bytes maxL ret n) (lk : Cond.methodLink own index y ∈ bs_W0) (hR : fr + 1 ≤ R.frames ∧ 8 + (maxL + 11) + lo ≤ R.locals) (hP : P H) (hn : As.length = n) (hsz : ls.size = nL) (hst : st0 = As.reverse ++ rest) (hrm : (rest.map fun v => v.category).sum ≤ 8) (hdg : decode cc pc = .ok (.invokestatic index, 3)) (hf : cells ≤ R.cells ∧ slots ≤ R.slots)
    (kk : ∀ r : Int32, post r → W p l e R s m args below meth c H locs cells slots Q (F0 m (pc + 3) ls (.int r :: rest))) : W p l e R s m args below meth c H locs cells slots Q (F0 m pc ls st0) :=
  vp_callSi (va_Run.run (va_runS (As := As) (rest := rest) S hM (bs_cwS S.2.2.2.2 me lk rfl rfl hR) ⟨cx_blind, fun U hU hW => ⟨rfl, hC.warm hW, by rw [hU]; exact hP⟩⟩ rfl hn hsz hst (lv_room hrm) hdg hf)) kk
theorem pu_Sl {post : Int64 → Prop} (S : bs_F p s m args c cc nL own) (hC : CX γ s) (hM : PU l y bytes maxL ret fr lo As γ P (vp_Sl post)) (me : bs_Ms y bytes maxL ret n) (lk : Cond.methodLink own index y ∈ bs_W0) (hR : fr + 1 ≤ R.frames ∧ 8 + (maxL + 11) + lo ≤ R.locals) (hP : P H) (hn : As.length = n) (hsz : ls.size = nL) (hst : st0 = As.reverse ++ rest) (hrm : (rest.map fun v => v.category).sum ≤ 8) (hdg : decode cc pc = .ok (.invokestatic index, 3)) (hf : cells ≤ R.cells ∧ slots ≤ R.slots)
    (kk : ∀ r : Int64, post r → W p l e R s m args below meth c H locs cells slots Q (F0 m (pc + 3) ls (.long r :: rest))) : W p l e R s m args below meth c H locs cells slots Q (F0 m pc ls st0) :=
  vp_callSl (va_Run.run (va_runS (As := As) (rest := rest) S hM (bs_cwS S.2.2.2.2 me lk rfl rfl hR) ⟨cx_blind, fun U hU hW => ⟨rfl, hC.warm hW, by rw [hU]; exact hP⟩⟩ rfl hn hsz hst (lv_room hrm) hdg hf)) kk
theorem mu_Sv {PO : Heap → Prop} (S : bs_F p s m args c cc nL own) (hC : CX γ s) (hA : ∀ q, H.size ≤ q → A q) (hAA : ∀ q, A q → A0 q) (hS : va_S A0 H0 H locs) (hM : MU l y bytes maxL ret fr lo mc ms As γ A P (mQv PO A)) (me : bs_Ms y bytes maxL ret n) (lk : Cond.methodLink own index y ∈ bs_W0) (hR : fr + 1 ≤ R.frames ∧ 8 + (maxL + 11) + lo ≤ R.locals) (hP : P H) (hn : As.length = n) (hsz : ls.size = nL) (hst : st0 = As.reverse ++ rest) (hrm : (rest.map fun v => v.category).sum ≤ 8) (hdg : decode cc pc = .ok (.invokestatic index, 3)) (hf : cells + mc ≤ R.cells ∧ slots + ms ≤ R.slots)
    (kk : ∀ (H1 : Heap) (locs1 : List Loc), PO  H1 → va_S A0 H0 H1 locs1 → H.size ≤ H1.size → (∀ q : Nat, q < H.size → ¬ A q → H1[q]? = H[q]?) → W p l e R s m args below meth c H1 locs1 (cells + mc) (slots + ms) Q (F0 m (pc + 3) ls (rest))) : W p l e R s m args below meth c H locs cells slots Q (F0 m pc ls st0) :=
  va_callv (va_runS (As := As) (rest := rest) S hM (bs_cwS S.2.2.2.2 me lk rfl rfl hR) ⟨mu_blind, fun U hU hW => ⟨rfl, hC.warm hW, by rw [hU]; exact hA, by rw [hU]; exact hP⟩⟩ rfl hn hsz hst (lv_room hrm) hdg hf) hS (fun q _ h => hAA q h) hAA (fun u t H1 locs1 ht _ hw hB hz hk hS1 => kk H1 locs1 (by rw [← ht]; exact hB) hS1 hz hk)
theorem mu_Sr {PO : Nat → Heap → Prop} (S : bs_F p s m args c cc nL own) (hC : CX γ s) (hA : ∀ q, H.size ≤ q → A q) (hAA : ∀ q, A q → A0 q) (hS : va_S A0 H0 H locs) (hM : MU l y bytes maxL ret fr lo mc ms As γ A P (mQr PO A)) (me : bs_Ms y bytes maxL ret n) (lk : Cond.methodLink own index y ∈ bs_W0) (hR : fr + 1 ≤ R.frames ∧ 8 + (maxL + 11) + lo ≤ R.locals) (hP : P H) (hn : As.length = n) (hsz : ls.size = nL) (hst : st0 = As.reverse ++ rest) (hrm : (rest.map fun v => v.category).sum ≤ 8) (hdg : decode cc pc = .ok (.invokestatic index, 3)) (hf : cells + mc ≤ R.cells ∧ slots + ms ≤ R.slots)
    (kk : ∀ (r : Nat) (H1 : Heap) (locs1 : List Loc), PO r H1 → va_S A0 H0 H1 locs1 → H.size ≤ H1.size → (∀ q : Nat, q < H.size → ¬ A q → H1[q]? = H[q]?) → W p l e R s m args below meth c H1 locs1 (cells + mc) (slots + ms) Q (F0 m (pc + 3) ls (.ref r :: rest))) : W p l e R s m args below meth c H locs cells slots Q (F0 m pc ls st0) :=
  va_callr (va_runS (As := As) (rest := rest) S hM (bs_cwS S.2.2.2.2 me lk rfl rfl hR) ⟨mu_blind, fun U hU hW => ⟨rfl, hC.warm hW, by rw [hU]; exact hA, by rw [hU]; exact hP⟩⟩ rfl hn hsz hst (lv_room hrm) hdg hf) hS (fun q _ h => hAA q h) hAA (fun u r t H1 locs1 ht _ hw hB hz hk hS1 => kk r H1 locs1 (by rw [← ht]; exact hB) hS1 hz hk)
theorem mu_Tr {PO : Nat → Heap → Prop} (S : bs_F p s m args c cc nL own) (hC : CX γ s) (hA : ∀ q, H.size ≤ q → A q) (hAA : ∀ q, A q → A0 q) (hS : va_S A0 H0 H locs) (hM : MU l y bytes maxL ret fr lo mc ms As γ A P (mQr PO A)) (me : bs_Ms y bytes maxL ret n) {host : String} (lk : va_Nw (.methodLinkNest own index y host) s) (hR : fr + 1 ≤ R.frames ∧ 8 + (maxL + 11) + lo ≤ R.locals) (hP : P H) (hn : As.length = n) (hsz : ls.size = nL) (hst : st0 = As.reverse ++ rest) (hrm : (rest.map fun v => v.category).sum ≤ 8) (hdg : decode cc pc = .ok (.invokestatic index, 3)) (hf : cells + mc ≤ R.cells ∧ slots + ms ≤ R.slots)
    (kk : ∀ (r : Nat) (H1 : Heap) (locs1 : List Loc), PO r H1 → va_S A0 H0 H1 locs1 → H.size ≤ H1.size → (∀ q : Nat, q < H.size → ¬ A q → H1[q]? = H[q]?) → W p l e R s m args below meth c H1 locs1 (cells + mc) (slots + ms) Q (F0 m (pc + 3) ls (.ref r :: rest))) : W p l e R s m args below meth c H locs cells slots Q (F0 m pc ls st0) :=
  va_callr (va_runSN (As := As) (rest := rest) S hM (bs_cnS S.2.2.2.2 me lk rfl rfl hR) ⟨mu_blind, fun U hU hW => ⟨rfl, hC.warm hW, by rw [hU]; exact hA, by rw [hU]; exact hP⟩⟩ rfl hn hsz hst (lv_room hrm) hdg hf) hS (fun q _ h => hAA q h) hAA (fun u r t H1 locs1 ht _ hw hB hz hk hS1 => kk r H1 locs1 (by rw [← ht]; exact hB) hS1 hz hk)
end CXS
/-- a contract said otherwise: for each start one of the known ones -/
theorem met_x {l : Launch} {y : MethodName} {ws : List Cond} {rm : Room} {ι : Type} {Pc : ι → Array Value → State → Prop} {Qc : ι → Array Value → State → Outcome → State → Prop} {Pc' : Array Value → State → Prop} {Qc' : Array Value → State → Outcome → State → Prop} {mc ms : Nat} {free : ι → Addr → Prop} {free' : Addr → Prop}
    (hM : ∀ i, Met l y ws rm (Pc i) (Qc i) mc ms (free i)) (h : ∀ a U, Pc' a U → ∃ i, Pc i a U ∧ (∀ o t, Qc i a U o t → Qc' a U o t) ∧ ∀ q, free i q → free' q) : Met l y ws rm Pc' Qc' mc ms free' := by
  intro p e h1 h2 h3 s m args below h4 h5 h6 h7
  obtain ⟨i, a1, a2, a3⟩ := h args s h6
  obtain ⟨n, o, b1, b2, b3, b4, L, b5, b6⟩ := hM i p e h1 h2 h3 s m args below h4 h5 a1 h7
  exact ⟨n, o, b1, b2, b3, a2 _ _ b4, L, b5, fun q hq => a3 _ (b6 q hq)⟩
-- COMPONENTS: which cells a part of the book has, in a region Z; INV: all parts, in regions that are apart
def cmp (γ : gE) (F : va_W → Prop) (Z : Nat → Prop) (H : Heap) : Prop := ∃ ws : va_W, F ws ∧ va_P γ.1 vwCl ws H ∧ va_D Z ws
theorem cmp_kept {γ : gE} {F : va_W → Prop} {Z Z1 : Nat → Prop} {H H1 : Heap} (h : cmp γ F Z H) (hk : ∀ q, Z q → q < H.size → H1[q]? = H[q]?) (hZ : ∀ q, Z q → q < H.size → Z1 q) : cmp γ F Z1 H1 := by
  obtain ⟨ws, hF, hP, hD⟩ := h
  exact ⟨ws, hF, fun k q hq => (hP k q hq).kept (hk q.1 (hD.2 k q hq) (hP k q hq).lt), hD.1, fun k q hq => hZ _ (hD.2 k q hq) (hP k q hq).lt⟩
def wsTrees (γ : gE) (a N r L b0 b1 b2 b3 : Nat) (f0 f1 f2 f3 : Nat → Int32) : va_W := [(a, .inr (1, [.ref b0, .ref b1, .ref b2, .ref b3, .int (nI N), .int (nI r)])), (b0, .inl (γ.2.1, L, .inl f0)), (b1, .inl (γ.2.1, L, .inl f1)), (b2, .inl (γ.2.1, L, .inl f2)), (b3, .inl (γ.2.1, L, .inl f3))]
def fTrees (γ : gE) (a N r L : Nat) (ws : va_W) : Prop := ∃ (b0 b1 b2 b3 : Nat) (f0 f1 f2 f3 : Nat → Int32), ws = wsTrees γ a N r L b0 b1 b2 b3 f0 f1 f2 f3 ∧ N ≤ L ∧ L ≤ 8192 ∧ 64 ≤ L ∧ r ≤ N ∧ (∀ k, k < N → ¬ f3 k < 0) ∧ ∀ k, k < N → ∃ j, j ≤ 4096 ∧ f2 k = nI j
def wsNames (γ : gE) (a N sc L b0 b1 b2 b3 b4 b5 b6 : Nat) (f0 f1 f2 f3 f4 f5 f6 : Nat → Int32) : va_W := [(a, .inr (2, [.ref b0, .ref b1, .ref b2, .ref b3, .ref b4, .ref b5, .ref b6, .int (nI N), .int (nI sc)])), (b0, .inl (γ.2.1, L, .inl f0)), (b1, .inl (γ.2.1, L, .inl f1)), (b2, .inl (γ.2.1, L, .inl f2)), (b3, .inl (γ.2.1, L, .inl f3)), (b4, .inl (γ.2.1, L, .inl f4)), (b5, .inl (γ.2.1, 256, .inl f5)), (b6, .inl (γ.2.1, 32, .inl f6))]
def fNames (γ : gE) (a N sc L : Nat) (ws : va_W) : Prop := ∃ (b0 b1 b2 b3 b4 b5 b6 : Nat) (f0 f1 f2 f3 f4 f5 f6 : Nat → Int32), ws = wsNames γ a N sc L b0 b1 b2 b3 b4 b5 b6 f0 f1 f2 f3 f4 f5 f6 ∧ N ≤ L ∧ L ≤ 8192 ∧ 64 ≤ L ∧ 1 ≤ sc ∧ sc ≤ 32 ∧ ∃ g : Nat → Nat, (∀ k, k < sc → f6 k = nI (g k)) ∧ (∀ i j, i ≤ j → j < sc → g i ≤ g j) ∧ ∀ k, k < sc → g k ≤ N
def fNamesX (γ : gE) (a N sc L : Nat) (x : Int32) (ws : va_W) : Prop := ∃ (b0 b1 b2 b3 b4 b5 b6 : Nat) (f0 f1 f2 f3 f4 f5 f6 : Nat → Int32), ws = wsNames γ a N sc L b0 b1 b2 b3 b4 b5 b6 f0 f1 f2 f3 f4 f5 f6 ∧ N ≤ L ∧ L ≤ 8192 ∧ 64 ≤ L ∧ 1 ≤ sc ∧ sc ≤ 32 ∧ ∃ (g : Nat → Nat) (G : Nat), x = nI G ∧ G ≤ N ∧ (∀ k, k < sc → f6 k = nI (g k)) ∧ (∀ i j, i ≤ j → j < sc → g i ≤ g j) ∧ ∀ k, k < sc → g k ≤ G
def wsTypes (γ : gE) (a N L b0 b1 b2 b3 : Nat) (f0 f1 f2 f3 : Nat → Int32) : va_W := [(a, .inr (3, [.ref b0, .ref b1, .ref b2, .ref b3, .int (nI N)])), (b0, .inl (γ.2.1, L, .inl f0)), (b1, .inl (γ.2.1, L, .inl f1)), (b2, .inl (γ.2.1, L, .inl f2)), (b3, .inl (γ.2.1, L, .inl f3))]
def fTypes (γ : gE) (a N L : Nat) (ws : va_W) : Prop := ∃ (b0 b1 b2 b3 : Nat) (f0 f1 f2 f3 : Nat → Int32), ws = wsTypes γ a N L b0 b1 b2 b3 f0 f1 f2 f3 ∧ N ≤ L ∧ L ≤ 8192 ∧ 16 ≤ L
def wsObjects (γ : gE) (a rw N L b0 b1 b2 : Nat) (f0 f1 f2 : Nat → Int32) : va_W := [(a, .inr (4, [.ref b0, .ref b1, .ref b2, .ref rw, .int (nI N)])), (b0, .inl (γ.2.1, L, .inl f0)), (b1, .inl (γ.2.1, L, .inl f1)), (b2, .inl (γ.2.1, L, .inl f2))]
def fObjects (γ : gE) (a rw N L : Nat) (ws : va_W) : Prop := ∃ (b0 b1 b2 : Nat) (f0 f1 f2 : Nat → Int32), ws = wsObjects γ a rw N L b0 b1 b2 f0 f1 f2 ∧ N ≤ L ∧ L ≤ 8192 ∧ 16 ≤ L
def wsLooks (γ : gE) (a rw L b0 b1 b2 b3 b4 : Nat) (f0 f1 f2 f3 f4 : Nat → Int32) : va_W := [(a, .inr (6, [.ref b0, .ref b1, .ref b2, .ref b3, .ref b4, .ref rw])), (b0, .inl (γ.2.1, L, .inl f0)), (b1, .inl (γ.2.1, L, .inl f1)), (b2, .inl (γ.2.1, L, .inl f2)), (b3, .inl (γ.2.1, L, .inl f3)), (b4, .inl (γ.2.1, L, .inl f4))]
def fLooks (γ : gE) (a rw L : Nat) (ws : va_W) : Prop := ∃ (b0 b1 b2 b3 b4 : Nat) (f0 f1 f2 f3 f4 : Nat → Int32), ws = wsLooks γ a rw L b0 b1 b2 b3 b4 f0 f1 f2 f3 f4 ∧ L ≤ 8192 ∧ 64 ≤ L
def wsRows (γ : gE) (a M b0 : Nat) (g0 : Nat → Int64) : va_W := [(a, .inr (5, [.ref b0])), (b0, .inl (γ.2.2.1, 4 * M, .inr (.inl g0)))]
def fRows (γ : gE) (a M : Nat) (ws : va_W) : Prop := ∃ (b0 : Nat) (g0 : Nat → Int64), ws = wsRows γ a M b0 g0 ∧ M ≤ 8192 ∧ 16 ≤ M
def wsSkel (γ : gE) (o : Nat → Nat) (L b0 : Nat) (f0 : Nat → Int32) (vf va : Int32) : va_W := [(o 0, .inr (0, [.ref (o 1), .ref (o 2), .ref (o 3), .ref (o 4), .ref (o 6), .ref (o 8), .int vf])), (o 8, .inr (7, [.ref (o 1), .ref (o 2), .ref (o 3), .ref (o 9), .ref (o 11), .ref (o 12), .ref b0, .int va])), (o 11, .inr (8, [.ref (o 9)])), (o 12, .inr (9, [.ref (o 1), .ref (o 2), .ref (o 3), .ref (o 4), .ref (o 9)])), (b0, .inl (γ.2.1, L, .inl f0))]
def fSkel (γ : gE) (o : Nat → Nat) (L : Nat) (ws : va_W) : Prop := ∃ (b0 : Nat) (f0 : Nat → Int32) (vf va : Int32), ws = wsSkel γ o L b0 f0 vf va ∧ L ≤ 8192 ∧ 64 ≤ L
def FF (γ : gE) (κ : Nat → Nat) : Nat → va_W → Prop
  | 1 => fSkel γ γ.2.2.2 (κ 15)
  | 2 => fTrees γ (γ.2.2.2 1) (κ 0) (κ 1) (κ 11)
  | 3 => fNames γ (γ.2.2.2 2) (κ 2) (κ 3) (κ 12)
  | 4 => fTypes γ (γ.2.2.2 3) (κ 4) (κ 13)
  | 5 => fObjects γ (γ.2.2.2 4) (γ.2.2.2 5) (κ 5) (κ 14)
  | 6 => fRows γ (γ.2.2.2 5) (κ 8)
  | 7 => fLooks γ (γ.2.2.2 6) (γ.2.2.2 7) (κ 6)
  | 8 => fRows γ (γ.2.2.2 7) (κ 9)
  | 9 => fLooks γ (γ.2.2.2 9) (γ.2.2.2 10) (κ 7)
  | 10 => fRows γ (γ.2.2.2 10) (κ 10)
  | _ => fun _ => True
/-- κ: 0 trees' size, 1 roots, 2 names' size, 3 scopes, 4 types' size, 5 objects' size; lengths: 6 known, 7 seen, 8 9 10 rows of objects, known, seen, 11 trees, 12 names, 13 types, 14 objects, 15 hidden -/
def INV (γ : gE) (A : Nat → Prop) (κ : Nat → Nat) (H : Heap) : Prop := ∃ ρ : Nat → Nat, (∀ q, ρ q ≠ 0 → A q) ∧ ∀ i, 1 ≤ i → i ≤ 10 → cmp γ (FF γ κ i) (fun q => ρ q = i) H
theorem inv_c {γ : gE} {A : Nat → Prop} {κ : Nat → Nat} {H : Heap} (hI : INV γ A κ H) (i : Nat) (h1 : 1 ≤ i) (h2 : i ≤ 10) : ∃ Z, cmp γ (FF γ κ i) Z H := by
  obtain ⟨ρ, -, hc⟩ := hI
  exact ⟨_, hc i h1 h2⟩
/-- a field of a known object -/
def OF (γ : gE) (H : Heap) (a ci j : Nat) (v : Value) : Prop := ∃ fs : List Value, va_P γ.1 vwCl [(a, .inr (ci, fs))] H ∧ fs[j]? = some v
section OFS
variable {p : Program} {l : Launch} {e : Env} {R : Room} {s : State} {m : MethodId} {args : Array Value} {below : List Frame} {meth : Method} {c : Code} {H : Heap} {locs : List Loc} {cells slots : Nat} {Q : State → Prop}
variable {cc : ByteArray} {nL ci j N index pc a : Nat} {own C ref host : String} {T : u_T} {γ : gE} {v : Value} {ls : Array Slot} {rest : List Value}
theorem of_get (S : bs_F p s m args c cc nL own) (hC : CX γ s) (hO : OF γ H a ci j v) (hin : ∀ w ∈ u_ws C T N, w ∈ bs_W0) (hc : vwCl[ci]? = some (C, T, N)) (hj : j < N) (lk : Cond.fieldLink own index (T j).1 (T j).2.1 (T j).2.2.1 ∈ bs_W0) (hdg : decode cc pc = .ok (.getfield index, 3))
    (kk : W p l e R s m args below meth c H locs cells slots Q (F0 m (pc + 3) ls (v :: rest))) : W p l e R s m args below meth c H locs cells slots Q (F0 m pc ls (.ref a :: rest)) := by
  obtain ⟨fs, hP, hv⟩ := hO
  exact va_get (D := γ.1) (ci := ci) S.1 S.2.1 S.2.2.2.2 hin S.2.2.2.1 hC.1 hP 0 rfl hc j hj (S.2.2.2.2 _ lk) (fun _ h => h) hv hdg kk
theorem of_getN (S : bs_F p s m args c cc nL own) (hC : CX γ s) (hO : OF γ H a ci j v) (hin : ∀ w ∈ u_ws C T N, w ∈ bs_W0) (hc : vwCl[ci]? = some (C, T, N)) (hj : j < N) (lk : Cond.fieldLinkNest own index (T j).1 (T j).2.1 (T j).2.2.1 host ∈ lw_tbl) (hdg : decode cc pc = .ok (.getfield index, 3))
    (kk : W p l e R s m args below meth c H locs cells slots Q (F0 m (pc + 3) ls (v :: rest))) : W p l e R s m args below meth c H locs cells slots Q (F0 m pc ls (.ref a :: rest)) := by
  obtain ⟨fs, hP, hv⟩ := hO
  exact va_getN (D := γ.1) (ci := ci) S.1 S.2.1 S.2.2.2.2 hin S.2.2.2.1 hC.1 hP 0 rfl hc j hj (va_Nw.use rfl (hC.2 _ lk rfl)) (fun _ h => h) hv hdg kk
end OFS
theorem mu_up {k r : Int32} (h : ¬ r ≤ k) : (k + 1).toInt = k.toInt + 1 ∧ k.toInt < 2147483647 := by
  rw [Int32.le_iff_toInt_le] at h
  have h1 : r.toInt ≤ 2147483647 := by have h9 := Int32.toInt_le r; rw [show Int32.maxValue.toInt = 2147483647 by decide] at h9; exact h9
  have h2 : -2147483648 ≤ k.toInt := by have h9 := Int32.le_toInt k; omega
  refine ⟨?_, by omega⟩
  rw [Int32.toInt_add]
  have h3 : (1 : Int32).toInt = 1 := by decide
  rw [h3]
  exact Int.bmod_eq_of_le (by omega) (by omega)
theorem mu_lt {k : Int32} (h : k.toInt < 2147483647) : (k + 1).toInt = k.toInt + 1 := by
  have h2 : -2147483648 ≤ k.toInt := by have h9 := Int32.le_toInt k; omega
  rw [Int32.toInt_add]
  have h3 : (1 : Int32).toInt = 1 := by decide
  rw [h3]
  exact Int.bmod_eq_of_le (by omega) (by omega)
theorem has_ok {x : Int32} {N : Nat} (h0 : ¬ x < 0) (h1 : ¬ nI N ≤ x) (hN : N < 2 ^ 31) : ∃ j, j < N ∧ x = nI j := by
  rcases pk_ix x hN with h | h | h
  · exact absurd h h0
  · exact absurd h h1
  · exact h
theorem rv_0 {s : State} {γ : gE} {A : Nat → Prop} {κ : Nat → Nat} {H : Heap} (hC : CX γ s) (hI : INV γ A κ H) : ∃ cellB : Cell, H[γ.2.2.2 0]? = some cellB ∧ cellB.vm.isStatics = false ∧ s.vm.findClass R_TypeBook = some cellB.cls := by
  obtain ⟨Z, ws, ⟨b0, f0, vf, va, rfl, h1, h2⟩, hP, hD⟩ := inv_c hI 1 (by decide) (by decide)
  exact va_recv hC.1 hP (ci := 0) (q0 := 0) rfl rfl
theorem of_0_0 {γ : gE} {A : Nat → Prop} {κ : Nat → Nat} {H : Heap} (hI : INV γ A κ H) : OF γ H (γ.2.2.2 0) 0 0 (.ref (γ.2.2.2 1)) := by
  obtain ⟨Z, ws, ⟨b0, f0, vf, va, rfl, h1, h2⟩, hP, hD⟩ := inv_c hI 1 (by decide) (by decide)
  exact ⟨_, fun k q hq => hP 0 q (by cases k with | zero => exact hq | succ k => cases hq), rfl⟩
theorem of_0_1 {γ : gE} {A : Nat → Prop} {κ : Nat → Nat} {H : Heap} (hI : INV γ A κ H) : OF γ H (γ.2.2.2 0) 0 1 (.ref (γ.2.2.2 2)) := by
  obtain ⟨Z, ws, ⟨b0, f0, vf, va, rfl, h1, h2⟩, hP, hD⟩ := inv_c hI 1 (by decide) (by decide)
  exact ⟨_, fun k q hq => hP 0 q (by cases k with | zero => exact hq | succ k => cases hq), rfl⟩
theorem of_0_2 {γ : gE} {A : Nat → Prop} {κ : Nat → Nat} {H : Heap} (hI : INV γ A κ H) : OF γ H (γ.2.2.2 0) 0 2 (.ref (γ.2.2.2 3)) := by
  obtain ⟨Z, ws, ⟨b0, f0, vf, va, rfl, h1, h2⟩, hP, hD⟩ := inv_c hI 1 (by decide) (by decide)
  exact ⟨_, fun k q hq => hP 0 q (by cases k with | zero => exact hq | succ k => cases hq), rfl⟩
theorem of_0_3 {γ : gE} {A : Nat → Prop} {κ : Nat → Nat} {H : Heap} (hI : INV γ A κ H) : OF γ H (γ.2.2.2 0) 0 3 (.ref (γ.2.2.2 4)) := by
  obtain ⟨Z, ws, ⟨b0, f0, vf, va, rfl, h1, h2⟩, hP, hD⟩ := inv_c hI 1 (by decide) (by decide)
  exact ⟨_, fun k q hq => hP 0 q (by cases k with | zero => exact hq | succ k => cases hq), rfl⟩
theorem of_0_4 {γ : gE} {A : Nat → Prop} {κ : Nat → Nat} {H : Heap} (hI : INV γ A κ H) : OF γ H (γ.2.2.2 0) 0 4 (.ref (γ.2.2.2 6)) := by
  obtain ⟨Z, ws, ⟨b0, f0, vf, va, rfl, h1, h2⟩, hP, hD⟩ := inv_c hI 1 (by decide) (by decide)
  exact ⟨_, fun k q hq => hP 0 q (by cases k with | zero => exact hq | succ k => cases hq), rfl⟩
theorem of_0_5 {γ : gE} {A : Nat → Prop} {κ : Nat → Nat} {H : Heap} (hI : INV γ A κ H) : OF γ H (γ.2.2.2 0) 0 5 (.ref (γ.2.2.2 8)) := by
  obtain ⟨Z, ws, ⟨b0, f0, vf, va, rfl, h1, h2⟩, hP, hD⟩ := inv_c hI 1 (by decide) (by decide)
  exact ⟨_, fun k q hq => hP 0 q (by cases k with | zero => exact hq | succ k => cases hq), rfl⟩
theorem rv_8 {s : State} {γ : gE} {A : Nat → Prop} {κ : Nat → Nat} {H : Heap} (hC : CX γ s) (hI : INV γ A κ H) : ∃ cellB : Cell, H[γ.2.2.2 8]? = some cellB ∧ cellB.vm.isStatics = false ∧ s.vm.findClass R_Looker = some cellB.cls := by
  obtain ⟨Z, ws, ⟨b0, f0, vf, va, rfl, h1, h2⟩, hP, hD⟩ := inv_c hI 1 (by decide) (by decide)
  exact va_recv hC.1 hP (ci := 7) (q0 := 1) rfl rfl
theorem of_8_0 {γ : gE} {A : Nat → Prop} {κ : Nat → Nat} {H : Heap} (hI : INV γ A κ H) : OF γ H (γ.2.2.2 8) 7 0 (.ref (γ.2.2.2 1)) := by
  obtain ⟨Z, ws, ⟨b0, f0, vf, va, rfl, h1, h2⟩, hP, hD⟩ := inv_c hI 1 (by decide) (by decide)
  exact ⟨_, fun k q hq => hP 1 q (by cases k with | zero => exact hq | succ k => cases hq), rfl⟩
theorem of_8_1 {γ : gE} {A : Nat → Prop} {κ : Nat → Nat} {H : Heap} (hI : INV γ A κ H) : OF γ H (γ.2.2.2 8) 7 1 (.ref (γ.2.2.2 2)) := by
  obtain ⟨Z, ws, ⟨b0, f0, vf, va, rfl, h1, h2⟩, hP, hD⟩ := inv_c hI 1 (by decide) (by decide)
  exact ⟨_, fun k q hq => hP 1 q (by cases k with | zero => exact hq | succ k => cases hq), rfl⟩
theorem of_8_2 {γ : gE} {A : Nat → Prop} {κ : Nat → Nat} {H : Heap} (hI : INV γ A κ H) : OF γ H (γ.2.2.2 8) 7 2 (.ref (γ.2.2.2 3)) := by
  obtain ⟨Z, ws, ⟨b0, f0, vf, va, rfl, h1, h2⟩, hP, hD⟩ := inv_c hI 1 (by decide) (by decide)
  exact ⟨_, fun k q hq => hP 1 q (by cases k with | zero => exact hq | succ k => cases hq), rfl⟩
theorem of_8_3 {γ : gE} {A : Nat → Prop} {κ : Nat → Nat} {H : Heap} (hI : INV γ A κ H) : OF γ H (γ.2.2.2 8) 7 3 (.ref (γ.2.2.2 9)) := by
  obtain ⟨Z, ws, ⟨b0, f0, vf, va, rfl, h1, h2⟩, hP, hD⟩ := inv_c hI 1 (by decide) (by decide)
  exact ⟨_, fun k q hq => hP 1 q (by cases k with | zero => exact hq | succ k => cases hq), rfl⟩
theorem of_8_4 {γ : gE} {A : Nat → Prop} {κ : Nat → Nat} {H : Heap} (hI : INV γ A κ H) : OF γ H (γ.2.2.2 8) 7 4 (.ref (γ.2.2.2 11)) := by
  obtain ⟨Z, ws, ⟨b0, f0, vf, va, rfl, h1, h2⟩, hP, hD⟩ := inv_c hI 1 (by decide) (by decide)
  exact ⟨_, fun k q hq => hP 1 q (by cases k with | zero => exact hq | succ k => cases hq), rfl⟩
theorem of_8_5 {γ : gE} {A : Nat → Prop} {κ : Nat → Nat} {H : Heap} (hI : INV γ A κ H) : OF γ H (γ.2.2.2 8) 7 5 (.ref (γ.2.2.2 12)) := by
  obtain ⟨Z, ws, ⟨b0, f0, vf, va, rfl, h1, h2⟩, hP, hD⟩ := inv_c hI 1 (by decide) (by decide)
  exact ⟨_, fun k q hq => hP 1 q (by cases k with | zero => exact hq | succ k => cases hq), rfl⟩
theorem rv_11 {s : State} {γ : gE} {A : Nat → Prop} {κ : Nat → Nat} {H : Heap} (hC : CX γ s) (hI : INV γ A κ H) : ∃ cellB : Cell, H[γ.2.2.2 11]? = some cellB ∧ cellB.vm.isStatics = false ∧ s.vm.findClass R_Operators = some cellB.cls := by
  obtain ⟨Z, ws, ⟨b0, f0, vf, va, rfl, h1, h2⟩, hP, hD⟩ := inv_c hI 1 (by decide) (by decide)
  exact va_recv hC.1 hP (ci := 8) (q0 := 2) rfl rfl
theorem of_11_0 {γ : gE} {A : Nat → Prop} {κ : Nat → Nat} {H : Heap} (hI : INV γ A κ H) : OF γ H (γ.2.2.2 11) 8 0 (.ref (γ.2.2.2 9)) := by
  obtain ⟨Z, ws, ⟨b0, f0, vf, va, rfl, h1, h2⟩, hP, hD⟩ := inv_c hI 1 (by decide) (by decide)
  exact ⟨_, fun k q hq => hP 2 q (by cases k with | zero => exact hq | succ k => cases hq), rfl⟩
theorem rv_12 {s : State} {γ : gE} {A : Nat → Prop} {κ : Nat → Nat} {H : Heap} (hC : CX γ s) (hI : INV γ A κ H) : ∃ cellB : Cell, H[γ.2.2.2 12]? = some cellB ∧ cellB.vm.isStatics = false ∧ s.vm.findClass R_Meanings = some cellB.cls := by
  obtain ⟨Z, ws, ⟨b0, f0, vf, va, rfl, h1, h2⟩, hP, hD⟩ := inv_c hI 1 (by decide) (by decide)
  exact va_recv hC.1 hP (ci := 9) (q0 := 3) rfl rfl
theorem of_12_0 {γ : gE} {A : Nat → Prop} {κ : Nat → Nat} {H : Heap} (hI : INV γ A κ H) : OF γ H (γ.2.2.2 12) 9 0 (.ref (γ.2.2.2 1)) := by
  obtain ⟨Z, ws, ⟨b0, f0, vf, va, rfl, h1, h2⟩, hP, hD⟩ := inv_c hI 1 (by decide) (by decide)
  exact ⟨_, fun k q hq => hP 3 q (by cases k with | zero => exact hq | succ k => cases hq), rfl⟩
theorem of_12_1 {γ : gE} {A : Nat → Prop} {κ : Nat → Nat} {H : Heap} (hI : INV γ A κ H) : OF γ H (γ.2.2.2 12) 9 1 (.ref (γ.2.2.2 2)) := by
  obtain ⟨Z, ws, ⟨b0, f0, vf, va, rfl, h1, h2⟩, hP, hD⟩ := inv_c hI 1 (by decide) (by decide)
  exact ⟨_, fun k q hq => hP 3 q (by cases k with | zero => exact hq | succ k => cases hq), rfl⟩
theorem of_12_2 {γ : gE} {A : Nat → Prop} {κ : Nat → Nat} {H : Heap} (hI : INV γ A κ H) : OF γ H (γ.2.2.2 12) 9 2 (.ref (γ.2.2.2 3)) := by
  obtain ⟨Z, ws, ⟨b0, f0, vf, va, rfl, h1, h2⟩, hP, hD⟩ := inv_c hI 1 (by decide) (by decide)
  exact ⟨_, fun k q hq => hP 3 q (by cases k with | zero => exact hq | succ k => cases hq), rfl⟩
theorem of_12_3 {γ : gE} {A : Nat → Prop} {κ : Nat → Nat} {H : Heap} (hI : INV γ A κ H) : OF γ H (γ.2.2.2 12) 9 3 (.ref (γ.2.2.2 4)) := by
  obtain ⟨Z, ws, ⟨b0, f0, vf, va, rfl, h1, h2⟩, hP, hD⟩ := inv_c hI 1 (by decide) (by decide)
  exact ⟨_, fun k q hq => hP 3 q (by cases k with | zero => exact hq | succ k => cases hq), rfl⟩
theorem of_12_4 {γ : gE} {A : Nat → Prop} {κ : Nat → Nat} {H : Heap} (hI : INV γ A κ H) : OF γ H (γ.2.2.2 12) 9 4 (.ref (γ.2.2.2 9)) := by
  obtain ⟨Z, ws, ⟨b0, f0, vf, va, rfl, h1, h2⟩, hP, hD⟩ := inv_c hI 1 (by decide) (by decide)
  exact ⟨_, fun k q hq => hP 3 q (by cases k with | zero => exact hq | succ k => cases hq), rfl⟩
theorem rv_1 {s : State} {γ : gE} {A : Nat → Prop} {κ : Nat → Nat} {H : Heap} (hC : CX γ s) (hI : INV γ A κ H) : ∃ cellB : Cell, H[γ.2.2.2 1]? = some cellB ∧ cellB.vm.isStatics = false ∧ s.vm.findClass R_Trees = some cellB.cls := by
  obtain ⟨Z, ws, ⟨b0, b1, b2, b3, f0, f1, f2, f3, rfl, h1⟩, hP, hD⟩ := inv_c hI 2 (by decide) (by decide)
  exact va_recv hC.1 hP (ci := 1) (q0 := 0) rfl rfl
theorem of_1_4 {γ : gE} {A : Nat → Prop} {κ : Nat → Nat} {H : Heap} (hI : INV γ A κ H) : OF γ H (γ.2.2.2 1) 1 4 (.int (nI (κ 0))) := by
  obtain ⟨Z, ws, ⟨b0, b1, b2, b3, f0, f1, f2, f3, rfl, h1⟩, hP, hD⟩ := inv_c hI 2 (by decide) (by decide)
  exact ⟨_, fun k q hq => hP 0 q (by cases k with | zero => exact hq | succ k => cases hq), rfl⟩
theorem of_1_5 {γ : gE} {A : Nat → Prop} {κ : Nat → Nat} {H : Heap} (hI : INV γ A κ H) : OF γ H (γ.2.2.2 1) 1 5 (.int (nI (κ 1))) := by
  obtain ⟨Z, ws, ⟨b0, b1, b2, b3, f0, f1, f2, f3, rfl, h1⟩, hP, hD⟩ := inv_c hI 2 (by decide) (by decide)
  exact ⟨_, fun k q hq => hP 0 q (by cases k with | zero => exact hq | succ k => cases hq), rfl⟩
theorem rv_2 {s : State} {γ : gE} {A : Nat → Prop} {κ : Nat → Nat} {H : Heap} (hC : CX γ s) (hI : INV γ A κ H) : ∃ cellB : Cell, H[γ.2.2.2 2]? = some cellB ∧ cellB.vm.isStatics = false ∧ s.vm.findClass R_Names = some cellB.cls := by
  obtain ⟨Z, ws, ⟨b0, b1, b2, b3, b4, b5, b6, f0, f1, f2, f3, f4, f5, f6, rfl, h1⟩, hP, hD⟩ := inv_c hI 3 (by decide) (by decide)
  exact va_recv hC.1 hP (ci := 2) (q0 := 0) rfl rfl
theorem of_2_7 {γ : gE} {A : Nat → Prop} {κ : Nat → Nat} {H : Heap} (hI : INV γ A κ H) : OF γ H (γ.2.2.2 2) 2 7 (.int (nI (κ 2))) := by
  obtain ⟨Z, ws, ⟨b0, b1, b2, b3, b4, b5, b6, f0, f1, f2, f3, f4, f5, f6, rfl, h1⟩, hP, hD⟩ := inv_c hI 3 (by decide) (by decide)
  exact ⟨_, fun k q hq => hP 0 q (by cases k with | zero => exact hq | succ k => cases hq), rfl⟩
theorem of_2_8 {γ : gE} {A : Nat → Prop} {κ : Nat → Nat} {H : Heap} (hI : INV γ A κ H) : OF γ H (γ.2.2.2 2) 2 8 (.int (nI (κ 3))) := by
  obtain ⟨Z, ws, ⟨b0, b1, b2, b3, b4, b5, b6, f0, f1, f2, f3, f4, f5, f6, rfl, h1⟩, hP, hD⟩ := inv_c hI 3 (by decide) (by decide)
  exact ⟨_, fun k q hq => hP 0 q (by cases k with | zero => exact hq | succ k => cases hq), rfl⟩
theorem rv_3 {s : State} {γ : gE} {A : Nat → Prop} {κ : Nat → Nat} {H : Heap} (hC : CX γ s) (hI : INV γ A κ H) : ∃ cellB : Cell, H[γ.2.2.2 3]? = some cellB ∧ cellB.vm.isStatics = false ∧ s.vm.findClass R_Types = some cellB.cls := by
  obtain ⟨Z, ws, ⟨b0, b1, b2, b3, f0, f1, f2, f3, rfl, h1⟩, hP, hD⟩ := inv_c hI 4 (by decide) (by decide)
  exact va_recv hC.1 hP (ci := 3) (q0 := 0) rfl rfl
theorem of_3_4 {γ : gE} {A : Nat → Prop} {κ : Nat → Nat} {H : Heap} (hI : INV γ A κ H) : OF γ H (γ.2.2.2 3) 3 4 (.int (nI (κ 4))) := by
  obtain ⟨Z, ws, ⟨b0, b1, b2, b3, f0, f1, f2, f3, rfl, h1⟩, hP, hD⟩ := inv_c hI 4 (by decide) (by decide)
  exact ⟨_, fun k q hq => hP 0 q (by cases k with | zero => exact hq | succ k => cases hq), rfl⟩
theorem rv_4 {s : State} {γ : gE} {A : Nat → Prop} {κ : Nat → Nat} {H : Heap} (hC : CX γ s) (hI : INV γ A κ H) : ∃ cellB : Cell, H[γ.2.2.2 4]? = some cellB ∧ cellB.vm.isStatics = false ∧ s.vm.findClass R_Objects = some cellB.cls := by
  obtain ⟨Z, ws, ⟨b0, b1, b2, f0, f1, f2, rfl, h1⟩, hP, hD⟩ := inv_c hI 5 (by decide) (by decide)
  exact va_recv hC.1 hP (ci := 4) (q0 := 0) rfl rfl
theorem of_4_3 {γ : gE} {A : Nat → Prop} {κ : Nat → Nat} {H : Heap} (hI : INV γ A κ H) : OF γ H (γ.2.2.2 4) 4 3 (.ref (γ.2.2.2 5)) := by
  obtain ⟨Z, ws, ⟨b0, b1, b2, f0, f1, f2, rfl, h1⟩, hP, hD⟩ := inv_c hI 5 (by decide) (by decide)
  exact ⟨_, fun k q hq => hP 0 q (by cases k with | zero => exact hq | succ k => cases hq), rfl⟩
theorem of_4_4 {γ : gE} {A : Nat → Prop} {κ : Nat → Nat} {H : Heap} (hI : INV γ A κ H) : OF γ H (γ.2.2.2 4) 4 4 (.int (nI (κ 5))) := by
  obtain ⟨Z, ws, ⟨b0, b1, b2, f0, f1, f2, rfl, h1⟩, hP, hD⟩ := inv_c hI 5 (by decide) (by decide)
  exact ⟨_, fun k q hq => hP 0 q (by cases k with | zero => exact hq | succ k => cases hq), rfl⟩
theorem rv_5 {s : State} {γ : gE} {A : Nat → Prop} {κ : Nat → Nat} {H : Heap} (hC : CX γ s) (hI : INV γ A κ H) : ∃ cellB : Cell, H[γ.2.2.2 5]? = some cellB ∧ cellB.vm.isStatics = false ∧ s.vm.findClass R_Rows = some cellB.cls := by
  obtain ⟨Z, ws, ⟨b0, g0, rfl, h1⟩, hP, hD⟩ := inv_c hI 6 (by decide) (by decide)
  exact va_recv hC.1 hP (ci := 5) (q0 := 0) rfl rfl
theorem rv_7 {s : State} {γ : gE} {A : Nat → Prop} {κ : Nat → Nat} {H : Heap} (hC : CX γ s) (hI : INV γ A κ H) : ∃ cellB : Cell, H[γ.2.2.2 7]? = some cellB ∧ cellB.vm.isStatics = false ∧ s.vm.findClass R_Rows = some cellB.cls := by
  obtain ⟨Z, ws, ⟨b0, g0, rfl, h1⟩, hP, hD⟩ := inv_c hI 8 (by decide) (by decide)
  exact va_recv hC.1 hP (ci := 5) (q0 := 0) rfl rfl
theorem rv_10 {s : State} {γ : gE} {A : Nat → Prop} {κ : Nat → Nat} {H : Heap} (hC : CX γ s) (hI : INV γ A κ H) : ∃ cellB : Cell, H[γ.2.2.2 10]? = some cellB ∧ cellB.vm.isStatics = false ∧ s.vm.findClass R_Rows = some cellB.cls := by
  obtain ⟨Z, ws, ⟨b0, g0, rfl, h1⟩, hP, hD⟩ := inv_c hI 10 (by decide) (by decide)
  exact va_recv hC.1 hP (ci := 5) (q0 := 0) rfl rfl
theorem rv_6 {s : State} {γ : gE} {A : Nat → Prop} {κ : Nat → Nat} {H : Heap} (hC : CX γ s) (hI : INV γ A κ H) : ∃ cellB : Cell, H[γ.2.2.2 6]? = some cellB ∧ cellB.vm.isStatics = false ∧ s.vm.findClass R_Looks = some cellB.cls := by
  obtain ⟨Z, ws, ⟨b0, b1, b2, b3, b4, f0, f1, f2, f3, f4, rfl, h1⟩, hP, hD⟩ := inv_c hI 7 (by decide) (by decide)
  exact va_recv hC.1 hP (ci := 6) (q0 := 0) rfl rfl
theorem of_6_5 {γ : gE} {A : Nat → Prop} {κ : Nat → Nat} {H : Heap} (hI : INV γ A κ H) : OF γ H (γ.2.2.2 6) 6 5 (.ref (γ.2.2.2 7)) := by
  obtain ⟨Z, ws, ⟨b0, b1, b2, b3, b4, f0, f1, f2, f3, f4, rfl, h1⟩, hP, hD⟩ := inv_c hI 7 (by decide) (by decide)
  exact ⟨_, fun k q hq => hP 0 q (by cases k with | zero => exact hq | succ k => cases hq), rfl⟩
theorem rv_9 {s : State} {γ : gE} {A : Nat → Prop} {κ : Nat → Nat} {H : Heap} (hC : CX γ s) (hI : INV γ A κ H) : ∃ cellB : Cell, H[γ.2.2.2 9]? = some cellB ∧ cellB.vm.isStatics = false ∧ s.vm.findClass R_Looks = some cellB.cls := by
  obtain ⟨Z, ws, ⟨b0, b1, b2, b3, b4, f0, f1, f2, f3, f4, rfl, h1⟩, hP, hD⟩ := inv_c hI 9 (by decide) (by decide)
  exact va_recv hC.1 hP (ci := 6) (q0 := 0) rfl rfl
theorem of_9_5 {γ : gE} {A : Nat → Prop} {κ : Nat → Nat} {H : Heap} (hI : INV γ A κ H) : OF γ H (γ.2.2.2 9) 6 5 (.ref (γ.2.2.2 10)) := by
  obtain ⟨Z, ws, ⟨b0, b1, b2, b3, b4, f0, f1, f2, f3, f4, rfl, h1⟩, hP, hD⟩ := inv_c hI 9 (by decide) (by decide)
  exact ⟨_, fun k q hq => hP 0 q (by cases k with | zero => exact hq | succ k => cases hq), rfl⟩
-- NUMBERS
theorem in_has {r x : Int32} {N n : Nat} (hr : r = 0 ∨ ∃ j, j < N ∧ x = nI j) (hc : ¬ r = 0) (h : N ≤ n) (hn : n < 2 ^ 31) : vp_in x n := by
  rcases hr with h0 | ⟨j, hj, rfl⟩
  · exact absurd h0 hc
  · exact vp_in_nI (by omega) (by omega)
theorem first_ok {r x : Int32} {N : Nat} {f : Nat → Int32} (hr : r = 0 ∨ ∃ j, j < N ∧ x = nI j) (hc : ¬ r = 0) (hf : ∀ k, k < N → ¬ f k < 0) (hN : N < 2 ^ 31) : ¬ f x.toNatClampNeg < 0 := by
  rcases hr with h0 | ⟨j, hj, rfl⟩
  · exact absurd h0 hc
  · rw [nI_clamp (by omega)]
    exact hf j hj
theorem sc_in {sc : Nat} (h1 : 1 ≤ sc) (h2 : sc ≤ 32) : vp_in (nI sc - 1) 32 := by
  obtain ⟨k, rfl⟩ : ∃ k, sc = k + 1 := ⟨sc - 1, by omega⟩
  rw [nI_pred]
  exact vp_in_nI (by omega) (by omega)
theorem rows_q {M : Nat} (h : M ≤ 8192) : nI (4 * M) / 4 = nI M := by
  have h1 := pk_div (a := 4 * M) (d := 4) (by omega) (by omega) (by omega)
  rw [show (4 * M) / 4 = M by omega] at h1
  exact h1
theorem rows_ix {x k : Int32} {M : Nat} (h1 : ¬ x < 0) (h2 : ¬ nI (4 * M) / 4 ≤ x) (h3 : ¬ k < 0) (h4 : ¬ 64 ≤ k) (hM : M ≤ 8192) : vp_in (x * 4 + k / 16) (4 * M) := by
  rw [rows_q hM] at h2
  obtain ⟨j, hj, rfl⟩ := has_ok h1 h2 (by omega)
  obtain ⟨i, hi, rfl⟩ := has_ok (N := 64) h3 h4 (by omega)
  have e1 : nI j * 4 = nI (j * 4) := pk_mul j 4
  have e2 : nI i / 16 = nI (i / 16) := pk_div (a := i) (d := 16) (by omega) (by omega) (by omega)
  rw [e1, e2, nI_add]
  exact vp_in_nI (by omega) (by omega)
theorem in_cmp {x : Int32} {n : Nat} (h0 : ¬ x < 0) (h1 : ¬ nI n ≤ x) (hn : n < 2 ^ 31) : vp_in x n := by
  obtain ⟨j, hj, rfl⟩ := has_ok h0 h1 hn
  exact vp_in_nI hj hn
theorem lc_nz {x y : Int64} {v : Int32} (h : v = lg_cmp x y) (hv : ¬ v = 0) : ¬ x = y := by
  intro e
  subst e
  exact hv (by rw [h]; simp [lg_cmp])
theorem cn_ok {f : Nat → Int32} {p N : Nat} {x : Int32} (hp : p = N) (hx : ∃ j, j ≤ 4096 ∧ x = nI j) (hf : ∀ k, k < N → ∃ j, j ≤ 4096 ∧ f k = nI j) : ∀ k, k < N + 1 → ∃ j, j ≤ 4096 ∧ upd f p x k = nI j := by
  intro k hk
  subst hp
  by_cases h : k = p
  · subst h
    rw [pk_us]
    exact hx
  · rw [pk_un h]
    exact hf k (by omega)
theorem cnt_ok {r x : Int32} {N : Nat} {f : Nat → Int32} (hr : r = 0 ∨ ∃ j, j < N ∧ x = nI j) (hc : ¬ r = 0) (hf : ∀ k, k < N → ∃ j, j ≤ 4096 ∧ f k = nI j) (hN : N < 2 ^ 31) : ∃ j, j ≤ 4096 ∧ f x.toNatClampNeg = nI j := by
  rcases hr with h0 | ⟨j, hj, rfl⟩
  · exact absurd h0 hc
  · rw [nI_clamp (by omega)]
    exact hf j hj
theorem pr_lt {N : Nat} (h : N ≤ 8192) : (nI N - 1).toInt < (N : Int) := by
  cases N with
  | zero => decide
  | succ k =>
    rw [nI_pred, nI_toInt (by omega)]
    omega
theorem rng_ok {x y : Int32} {G N L : Nat} (hy : y = nI G) (hG : G ≤ N) (hx : ¬ x < y) (hlt : x.toInt < (N : Int)) (hL : N ≤ L) (hL2 : L ≤ 8192) : vp_in x L ∧ -2147483648 < x.toInt := by
  subst hy
  rw [Int32.lt_iff_toInt_lt, nI_toInt (by omega)] at hx
  refine ⟨vp_in_iff.mpr ⟨by omega, by omega⟩, by omega⟩
theorem node_ok {r x : Int32} {N : Nat} (h : r = 0 ∨ ∃ j, j < N ∧ x = nI j) (hc : ¬ r = 0) (hN : N ≤ 8192) : x.toInt < 2147483647 ∧ (x - 1).toInt < 2147483647 := by
  rcases h with h | ⟨j, hj, rfl⟩
  · exact absurd h hc
  · refine ⟨by rw [nI_toInt (by omega)]; omega, ?_⟩
    have := pr_lt (N := j) (by omega)
    omega
theorem nge_ok {v c : Int32} {N M : Nat} (ev : v = nI N) (ec : c = nI M) (h : ¬ c ≤ v) (hN : N < 2 ^ 31) (hM : M < 2 ^ 31) : N < M := by
  subst ev; subst ec
  exact Nat.not_le.mp (fun h9 => h ((nI_leI hM hN).mpr h9))
theorem hr_ok {k N : Nat} (hk : k ≤ 8192) (hN : N ≤ 5000) (h : ¬ (3000 : Int32) < nI k - nI 12 + nI N) : k + N ≤ 3012 := by
  rcases Nat.lt_or_ge 3012 (k + N) with h1 | h1
  · exfalso
    have h2 : nI k - nI 12 + nI N = nI (k + N) - nI 12 := by
      rw [← nI_add, Int32.sub_eq_add_neg, Int32.sub_eq_add_neg, Int32.add_assoc, Int32.add_assoc, Int32.add_comm (-nI 12)]
    rw [h2, pk_sub (a := k + N) (b := 12) (by omega)] at h
    exact h (nI_lt (a := 3000) (b := k + N - 12) (by omega) (by omega))
  · exact h1
-- what add refuses
def BN (k : Int32) : Prop := k = 1 ∨ k = 10 ∨ (¬ k < 22 ∧ k ≤ 25) ∨ k = 53
def GNm (v : Int32) : Prop := ¬ v < 0 ∧ ¬ 9999 < v
def BA (r : Nat) (k v n : Int32) : Prop := k < 0 ∨ 99 < k ∨ n < 0 ∨ ¬ n ≤ nI r ∨ (BN k ∧ ¬ GNm v)
theorem bt_t {P : Prop} {v : Int32} (h : (v = 1 ∧ P) ∨ (v = 0 ∧ ¬ P)) (h0 : ¬ v = 0) : P := h.elim (fun h => h.2) (fun h => absurd h.1 h0)
theorem bt_f {P : Prop} {v : Int32} (h : (v = 1 ∧ P) ∨ (v = 0 ∧ ¬ P)) (h0 : v = 0) : ¬ P := h.elim (fun h => by rw [h.1] at h0; exact absurd h0 (by decide)) (fun h => h.2)
theorem ba_ok {r : Nat} {k w n v : Int32} (h1 : ¬ k < 0) (h2 : ¬ 99 < k) (h3 : ¬ n < 0) (ev : v = nI r) (h4 : n ≤ v) (h5 : ¬ (BN k ∧ ¬ GNm w)) : ¬ BA r k w n := by
  intro h
  rcases h with h | h | h | h | h
  · exact h1 h
  · exact h2 h
  · exact h3 h
  · exact h (by rw [← ev]; exact h4)
  · exact h5 h
theorem ba_m {r : Nat} {n v : Int32} (ev : v = nI r) (h : v < n) : ¬ n ≤ nI r := by rw [← ev]; exact Int32.not_le.mpr h
theorem ba_ok2 {r : Nat} {k w n : Int32} (h1 : ¬ k < 0) (h2 : ¬ 99 < k) (h3 : ¬ n < 0) (h4 : ¬ nI r < n) (h5 : ¬ (BN k ∧ ¬ GNm w)) : ¬ BA r k w n := ba_ok h1 h2 h3 rfl (Int32.not_lt.mp h4) h5
theorem bn_of {k : Int32} (h : k = 1 ∨ k = 10 ∨ k = 22 ∨ k = 23 ∨ k = 24 ∨ k = 25 ∨ k = 53) : BN k := by
  unfold BN
  rcases h with h | h | h | h | h | h | h <;> subst h <;> decide
theorem bn_not {k : Int32} (h1 : ¬ k = 1) (h2 : ¬ k = 10) (h3 : ¬ k = 22) (h4 : ¬ k = 23) (h5 : ¬ k = 24) (h6 : ¬ k = 25) (h7 : ¬ k = 53) : ¬ BN k := by
  intro h
  rcases h with h | h | ⟨h, h'⟩ | h
  · exact h1 h
  · exact h2 h
  · have e1 := Int32.not_lt.mp h
    rw [Int32.le_iff_toInt_le] at e1 h'
    have a1 : ¬ k.toInt = 22 := fun e => h3 (Int32.toInt_inj.mp e)
    have a2 : ¬ k.toInt = 23 := fun e => h4 (Int32.toInt_inj.mp e)
    have a3 : ¬ k.toInt = 24 := fun e => h5 (Int32.toInt_inj.mp e)
    have a4 : ¬ k.toInt = 25 := fun e => h6 (Int32.toInt_inj.mp e)
    have b1 : (22 : Int32).toInt = 22 := by decide
    have b2 : (25 : Int32).toInt = 25 := by decide
    omega
  · exact h7 h
theorem gm_t {v : Int32} (h1 : ¬ v < 0) (h2 : ¬ 10000 ≤ v) : GNm v := by
  refine ⟨h1, fun h => h2 ?_⟩
  rw [Int32.lt_iff_toInt_lt] at h
  rw [Int32.le_iff_toInt_le]
  have b1 : (9999 : Int32).toInt = 9999 := by decide
  have b2 : (10000 : Int32).toInt = 10000 := by decide
  omega
theorem gm_2 {v : Int32} (h : 10000 ≤ v) : ¬ GNm v := by
  intro h9
  refine h9.2 ?_
  rw [Int32.le_iff_toInt_le] at h
  rw [Int32.lt_iff_toInt_lt]
  have b1 : (9999 : Int32).toInt = 9999 := by decide
  have b2 : (10000 : Int32).toInt = 10000 := by decide
  omega
