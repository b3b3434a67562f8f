section
-- ===== PART A: goes FIRST, ahead of the names: the tables' words, and 'selects' of the private methods out of them =====
/-- a private method of a class that the tables say can be made, by its rows of tables_1 -/
def lw_okq (q : MethodName × Nat) : Prop := (q.1.cls ≠ "java/lang/invoke/MethodHandle" ∧ q.1.cls ≠ "java/lang/invoke/VarHandle") ∧ Cond.instantiable q.1.cls q.2 ∈ tables_1 ∧ Cond.privateMethod q.1 ∈ tables_1 ∧ Cond.instanceMethod q.1 ∈ tables_1
theorem lw_p0 : lw_okq (⟨"RememberedCells$History", "dropOldest", "()V"⟩, 2) := ⟨⟨by decide +kernel, by decide +kernel⟩, List.mem_of_getElem? (i := 141) (by decide +kernel), List.mem_of_getElem? (i := 225) (by decide +kernel), List.mem_of_getElem? (i := 226) (by decide +kernel)⟩
theorem lw_p1 : lw_okq (⟨"RememberedCells$State", "look", "(II)I"⟩, 10) := ⟨⟨by decide +kernel, by decide +kernel⟩, List.mem_of_getElem? (i := 18) (by decide +kernel), List.mem_of_getElem? (i := 282) (by decide +kernel), List.mem_of_getElem? (i := 283) (by decide +kernel)⟩
theorem lw_p2 : lw_okq (⟨"RememberedCells$State", "bringUpToDate", "(LRememberedCells$Cell;I)Z"⟩, 10) := ⟨⟨by decide +kernel, by decide +kernel⟩, List.mem_of_getElem? (i := 18) (by decide +kernel), List.mem_of_getElem? (i := 286) (by decide +kernel), List.mem_of_getElem? (i := 287) (by decide +kernel)⟩
theorem lw_p3 : lw_okq (⟨"RememberedCells$State", "workOut", "(LRememberedCells$Cell;I)Z"⟩, 10) := ⟨⟨by decide +kernel, by decide +kernel⟩, List.mem_of_getElem? (i := 18) (by decide +kernel), List.mem_of_getElem? (i := 290) (by decide +kernel), List.mem_of_getElem? (i := 291) (by decide +kernel)⟩
theorem lw_p4 : lw_okq (⟨"RememberedCells$State", "remember", "(LRememberedCells$Cell;II)V"⟩, 10) := ⟨⟨by decide +kernel, by decide +kernel⟩, List.mem_of_getElem? (i := 18) (by decide +kernel), List.mem_of_getElem? (i := 304) (by decide +kernel), List.mem_of_getElem? (i := 305) (by decide +kernel)⟩
theorem lw_p5 : lw_okq (⟨"RememberedCells$State", "lookForChange", "(LRememberedCells$Cell;I)I"⟩, 10) := ⟨⟨by decide +kernel, by decide +kernel⟩, List.mem_of_getElem? (i := 18) (by decide +kernel), List.mem_of_getElem? (i := 317) (by decide +kernel), List.mem_of_getElem? (i := 318) (by decide +kernel)⟩
theorem lw_p6 : lw_okq (⟨"RememberedCells$State", "forgetOldest", "()V"⟩, 10) := ⟨⟨by decide +kernel, by decide +kernel⟩, List.mem_of_getElem? (i := 18) (by decide +kernel), List.mem_of_getElem? (i := 331) (by decide +kernel), List.mem_of_getElem? (i := 332) (by decide +kernel)⟩
theorem lw_p7 : lw_okq (⟨"RememberedCells", "answerAfresh", "(I)I"⟩, 5) := ⟨⟨by decide +kernel, by decide +kernel⟩, List.mem_of_getElem? (i := 10) (by decide +kernel), List.mem_of_getElem? (i := 343) (by decide +kernel), List.mem_of_getElem? (i := 344) (by decide +kernel)⟩
theorem lw_p8 : lw_okq (⟨"RememberedCells", "isOneOf", "(II)Z"⟩, 5) := ⟨⟨by decide +kernel, by decide +kernel⟩, List.mem_of_getElem? (i := 10) (by decide +kernel), List.mem_of_getElem? (i := 379) (by decide +kernel), List.mem_of_getElem? (i := 380) (by decide +kernel)⟩
theorem lw_p9 : lw_okq (⟨"RememberedCells", "usedAfresh", "(I)I"⟩, 5) := ⟨⟨by decide +kernel, by decide +kernel⟩, List.mem_of_getElem? (i := 10) (by decide +kernel), List.mem_of_getElem? (i := 387) (by decide +kernel), List.mem_of_getElem? (i := 388) (by decide +kernel)⟩
theorem lw_p10 : lw_okq (⟨"RememberedCells$Text", "readLetter", "()I"⟩, 5) := ⟨⟨by decide +kernel, by decide +kernel⟩, List.mem_of_getElem? (i := 158) (by decide +kernel), List.mem_of_getElem? (i := 447) (by decide +kernel), List.mem_of_getElem? (i := 448) (by decide +kernel)⟩
theorem lw_p11 : lw_okq (⟨"RememberedCells$Text", "character", "()I"⟩, 5) := ⟨⟨by decide +kernel, by decide +kernel⟩, List.mem_of_getElem? (i := 158) (by decide +kernel), List.mem_of_getElem? (i := 451) (by decide +kernel), List.mem_of_getElem? (i := 452) (by decide +kernel)⟩
theorem lw_p12 : lw_okq (⟨"RememberedCells$Text", "readSign", "(C)Z"⟩, 5) := ⟨⟨by decide +kernel, by decide +kernel⟩, List.mem_of_getElem? (i := 158) (by decide +kernel), List.mem_of_getElem? (i := 456) (by decide +kernel), List.mem_of_getElem? (i := 457) (by decide +kernel)⟩
theorem lw_p13 : lw_okq (⟨"RememberedCells$Text", "readNumber", "()Z"⟩, 5) := ⟨⟨by decide +kernel, by decide +kernel⟩, List.mem_of_getElem? (i := 158) (by decide +kernel), List.mem_of_getElem? (i := 460) (by decide +kernel), List.mem_of_getElem? (i := 461) (by decide +kernel)⟩
theorem lw_p14 : lw_okq (⟨"RememberedCells$Text", "readFormula", "(I)Z"⟩, 5) := ⟨⟨by decide +kernel, by decide +kernel⟩, List.mem_of_getElem? (i := 158) (by decide +kernel), List.mem_of_getElem? (i := 466) (by decide +kernel), List.mem_of_getElem? (i := 467) (by decide +kernel)⟩
theorem lw_p15 : lw_okq (⟨"RememberedCells$Text", "readOperator", "()I"⟩, 5) := ⟨⟨by decide +kernel, by decide +kernel⟩, List.mem_of_getElem? (i := 158) (by decide +kernel), List.mem_of_getElem? (i := 470) (by decide +kernel), List.mem_of_getElem? (i := 471) (by decide +kernel)⟩
def lw_privs_1 : List (MethodName × Nat) := [(⟨"RememberedCells$History", "dropOldest", "()V"⟩, 2), (⟨"RememberedCells$State", "look", "(II)I"⟩, 10), (⟨"RememberedCells$State", "bringUpToDate", "(LRememberedCells$Cell;I)Z"⟩, 10), (⟨"RememberedCells$State", "workOut", "(LRememberedCells$Cell;I)Z"⟩, 10), (⟨"RememberedCells$State", "remember", "(LRememberedCells$Cell;II)V"⟩, 10), (⟨"RememberedCells$State", "lookForChange", "(LRememberedCells$Cell;I)I"⟩, 10), (⟨"RememberedCells$State", "forgetOldest", "()V"⟩, 10), (⟨"RememberedCells", "answerAfresh", "(I)I"⟩, 5), (⟨"RememberedCells", "isOneOf", "(II)Z"⟩, 5), (⟨"RememberedCells", "usedAfresh", "(I)I"⟩, 5), (⟨"RememberedCells$Text", "readLetter", "()I"⟩, 5), (⟨"RememberedCells$Text", "character", "()I"⟩, 5), (⟨"RememberedCells$Text", "readSign", "(C)Z"⟩, 5), (⟨"RememberedCells$Text", "readNumber", "()Z"⟩, 5), (⟨"RememberedCells$Text", "readFormula", "(I)Z"⟩, 5), (⟨"RememberedCells$Text", "readOperator", "()I"⟩, 5)]
theorem lw_r1 : ∀ q ∈ lw_privs_1, lw_okq q := List.forall_mem_cons.mpr ⟨lw_p0, List.forall_mem_cons.mpr ⟨lw_p1, List.forall_mem_cons.mpr ⟨lw_p2, List.forall_mem_cons.mpr ⟨lw_p3, List.forall_mem_cons.mpr ⟨lw_p4, List.forall_mem_cons.mpr ⟨lw_p5, List.forall_mem_cons.mpr ⟨lw_p6, List.forall_mem_cons.mpr ⟨lw_p7, List.forall_mem_cons.mpr ⟨lw_p8, List.forall_mem_cons.mpr ⟨lw_p9, List.forall_mem_cons.mpr ⟨lw_p10, List.forall_mem_cons.mpr ⟨lw_p11, List.forall_mem_cons.mpr ⟨lw_p12, List.forall_mem_cons.mpr ⟨lw_p13, List.forall_mem_cons.mpr ⟨lw_p14, List.forall_mem_cons.mpr ⟨lw_p15, fun _ h => absurd h List.not_mem_nil⟩⟩⟩⟩⟩⟩⟩⟩⟩⟩⟩⟩⟩⟩⟩⟩
theorem lw_p16 : lw_okq (⟨"RememberedCellsModel", "begins", "()V"⟩, 18) := ⟨⟨by decide +kernel, by decide +kernel⟩, List.mem_of_getElem? (i := 485) (by decide +kernel), List.mem_of_getElem? (i := 563) (by decide +kernel), List.mem_of_getElem? (i := 564) (by decide +kernel)⟩
theorem lw_p17 : lw_okq (⟨"RememberedCellsModel", "defines", "(IIIIII)I"⟩, 18) := ⟨⟨by decide +kernel, by decide +kernel⟩, List.mem_of_getElem? (i := 485) (by decide +kernel), List.mem_of_getElem? (i := 567) (by decide +kernel), List.mem_of_getElem? (i := 568) (by decide +kernel)⟩
theorem lw_p18 : lw_okq (⟨"RememberedCellsModel", "isSo", "(IIIIII)Z"⟩, 18) := ⟨⟨by decide +kernel, by decide +kernel⟩, List.mem_of_getElem? (i := 485) (by decide +kernel), List.mem_of_getElem? (i := 571) (by decide +kernel), List.mem_of_getElem? (i := 572) (by decide +kernel)⟩
theorem lw_p19 : lw_okq (⟨"RememberedCellsModel", "of", "(II)I"⟩, 18) := ⟨⟨by decide +kernel, by decide +kernel⟩, List.mem_of_getElem? (i := 485) (by decide +kernel), List.mem_of_getElem? (i := 575) (by decide +kernel), List.mem_of_getElem? (i := 576) (by decide +kernel)⟩
theorem lw_p20 : lw_okq (⟨"RememberedCellsModel", "puts", "(III)V"⟩, 18) := ⟨⟨by decide +kernel, by decide +kernel⟩, List.mem_of_getElem? (i := 485) (by decide +kernel), List.mem_of_getElem? (i := 579) (by decide +kernel), List.mem_of_getElem? (i := 580) (by decide +kernel)⟩
theorem lw_p21 : lw_okq (⟨"RememberedCellsModel", "acted", "(I)I"⟩, 18) := ⟨⟨by decide +kernel, by decide +kernel⟩, List.mem_of_getElem? (i := 485) (by decide +kernel), List.mem_of_getElem? (i := 583) (by decide +kernel), List.mem_of_getElem? (i := 584) (by decide +kernel)⟩
theorem lw_p22 : lw_okq (⟨"RememberedCellsModel", "looks", "(I)Z"⟩, 18) := ⟨⟨by decide +kernel, by decide +kernel⟩, List.mem_of_getElem? (i := 485) (by decide +kernel), List.mem_of_getElem? (i := 600) (by decide +kernel), List.mem_of_getElem? (i := 601) (by decide +kernel)⟩
theorem lw_p23 : lw_okq (⟨"RememberedCellsModel", "enters", "(I)V"⟩, 18) := ⟨⟨by decide +kernel, by decide +kernel⟩, List.mem_of_getElem? (i := 485) (by decide +kernel), List.mem_of_getElem? (i := 604) (by decide +kernel), List.mem_of_getElem? (i := 605) (by decide +kernel)⟩
theorem lw_p24 : lw_okq (⟨"RememberedCellsModel", "uses", "(I)V"⟩, 18) := ⟨⟨by decide +kernel, by decide +kernel⟩, List.mem_of_getElem? (i := 485) (by decide +kernel), List.mem_of_getElem? (i := 608) (by decide +kernel), List.mem_of_getElem? (i := 609) (by decide +kernel)⟩
theorem lw_p25 : lw_okq (⟨"RememberedCellsModel", "isOpen", "(I)Z"⟩, 18) := ⟨⟨by decide +kernel, by decide +kernel⟩, List.mem_of_getElem? (i := 485) (by decide +kernel), List.mem_of_getElem? (i := 612) (by decide +kernel), List.mem_of_getElem? (i := 613) (by decide +kernel)⟩
theorem lw_p26 : lw_okq (⟨"RememberedCellsModel", "checks", "(I)V"⟩, 18) := ⟨⟨by decide +kernel, by decide +kernel⟩, List.mem_of_getElem? (i := 485) (by decide +kernel), List.mem_of_getElem? (i := 616) (by decide +kernel), List.mem_of_getElem? (i := 617) (by decide +kernel)⟩
theorem lw_p27 : lw_okq (⟨"RememberedCellsModel", "changedAt", "(I)I"⟩, 18) := ⟨⟨by decide +kernel, by decide +kernel⟩, List.mem_of_getElem? (i := 485) (by decide +kernel), List.mem_of_getElem? (i := 620) (by decide +kernel), List.mem_of_getElem? (i := 621) (by decide +kernel)⟩
theorem lw_p28 : lw_okq (⟨"RememberedCellsModel", "works", "(I)V"⟩, 18) := ⟨⟨by decide +kernel, by decide +kernel⟩, List.mem_of_getElem? (i := 485) (by decide +kernel), List.mem_of_getElem? (i := 624) (by decide +kernel), List.mem_of_getElem? (i := 625) (by decide +kernel)⟩
theorem lw_p29 : lw_okq (⟨"RememberedCellsModel", "answerOf", "(I)I"⟩, 18) := ⟨⟨by decide +kernel, by decide +kernel⟩, List.mem_of_getElem? (i := 485) (by decide +kernel), List.mem_of_getElem? (i := 628) (by decide +kernel), List.mem_of_getElem? (i := 629) (by decide +kernel)⟩
theorem lw_p30 : lw_okq (⟨"RememberedCellsModel", "ends", "(III)V"⟩, 18) := ⟨⟨by decide +kernel, by decide +kernel⟩, List.mem_of_getElem? (i := 485) (by decide +kernel), List.mem_of_getElem? (i := 633) (by decide +kernel), List.mem_of_getElem? (i := 634) (by decide +kernel)⟩
theorem lw_p31 : lw_okq (⟨"RememberedCellsModel", "returns", "()V"⟩, 18) := ⟨⟨by decide +kernel, by decide +kernel⟩, List.mem_of_getElem? (i := 485) (by decide +kernel), List.mem_of_getElem? (i := 645) (by decide +kernel), List.mem_of_getElem? (i := 646) (by decide +kernel)⟩
def lw_privs_2 : List (MethodName × Nat) := [(⟨"RememberedCellsModel", "begins", "()V"⟩, 18), (⟨"RememberedCellsModel", "defines", "(IIIIII)I"⟩, 18), (⟨"RememberedCellsModel", "isSo", "(IIIIII)Z"⟩, 18), (⟨"RememberedCellsModel", "of", "(II)I"⟩, 18), (⟨"RememberedCellsModel", "puts", "(III)V"⟩, 18), (⟨"RememberedCellsModel", "acted", "(I)I"⟩, 18), (⟨"RememberedCellsModel", "looks", "(I)Z"⟩, 18), (⟨"RememberedCellsModel", "enters", "(I)V"⟩, 18), (⟨"RememberedCellsModel", "uses", "(I)V"⟩, 18), (⟨"RememberedCellsModel", "isOpen", "(I)Z"⟩, 18), (⟨"RememberedCellsModel", "checks", "(I)V"⟩, 18), (⟨"RememberedCellsModel", "changedAt", "(I)I"⟩, 18), (⟨"RememberedCellsModel", "works", "(I)V"⟩, 18), (⟨"RememberedCellsModel", "answerOf", "(I)I"⟩, 18), (⟨"RememberedCellsModel", "ends", "(III)V"⟩, 18), (⟨"RememberedCellsModel", "returns", "()V"⟩, 18)]
theorem lw_r2 : ∀ q ∈ lw_privs_2, lw_okq q := List.forall_mem_cons.mpr ⟨lw_p16, List.forall_mem_cons.mpr ⟨lw_p17, List.forall_mem_cons.mpr ⟨lw_p18, List.forall_mem_cons.mpr ⟨lw_p19, List.forall_mem_cons.mpr ⟨lw_p20, List.forall_mem_cons.mpr ⟨lw_p21, List.forall_mem_cons.mpr ⟨lw_p22, List.forall_mem_cons.mpr ⟨lw_p23, List.forall_mem_cons.mpr ⟨lw_p24, List.forall_mem_cons.mpr ⟨lw_p25, List.forall_mem_cons.mpr ⟨lw_p26, List.forall_mem_cons.mpr ⟨lw_p27, List.forall_mem_cons.mpr ⟨lw_p28, List.forall_mem_cons.mpr ⟨lw_p29, List.forall_mem_cons.mpr ⟨lw_p30, List.forall_mem_cons.mpr ⟨lw_p31, fun _ h => absurd h List.not_mem_nil⟩⟩⟩⟩⟩⟩⟩⟩⟩⟩⟩⟩⟩⟩⟩⟩
theorem lw_p32 : lw_okq (⟨"RememberedCellsModel", "trims", "()V"⟩, 18) := ⟨⟨by decide +kernel, by decide +kernel⟩, List.mem_of_getElem? (i := 485) (by decide +kernel), List.mem_of_getElem? (i := 650) (by decide +kernel), List.mem_of_getElem? (i := 651) (by decide +kernel)⟩
theorem lw_p33 : lw_okq (⟨"RememberedCellsModel", "remembered", "()I"⟩, 18) := ⟨⟨by decide +kernel, by decide +kernel⟩, List.mem_of_getElem? (i := 485) (by decide +kernel), List.mem_of_getElem? (i := 654) (by decide +kernel), List.mem_of_getElem? (i := 655) (by decide +kernel)⟩
theorem lw_p34 : lw_okq (⟨"RememberedCellsModel", "drops", "(I)V"⟩, 18) := ⟨⟨by decide +kernel, by decide +kernel⟩, List.mem_of_getElem? (i := 485) (by decide +kernel), List.mem_of_getElem? (i := 658) (by decide +kernel), List.mem_of_getElem? (i := 659) (by decide +kernel)⟩
theorem lw_p35 : lw_okq (⟨"RememberedCellsModel", "placeOf", "(I)I"⟩, 18) := ⟨⟨by decide +kernel, by decide +kernel⟩, List.mem_of_getElem? (i := 485) (by decide +kernel), List.mem_of_getElem? (i := 678) (by decide +kernel), List.mem_of_getElem? (i := 679) (by decide +kernel)⟩
theorem lw_p36 : lw_okq (⟨"RememberedCellsModel", "told", "(I)I"⟩, 18) := ⟨⟨by decide +kernel, by decide +kernel⟩, List.mem_of_getElem? (i := 485) (by decide +kernel), List.mem_of_getElem? (i := 686) (by decide +kernel), List.mem_of_getElem? (i := 687) (by decide +kernel)⟩
theorem lw_p37 : lw_okq (⟨"RememberedCellsModel", "afresh", "(I)Z"⟩, 18) := ⟨⟨by decide +kernel, by decide +kernel⟩, List.mem_of_getElem? (i := 485) (by decide +kernel), List.mem_of_getElem? (i := 690) (by decide +kernel), List.mem_of_getElem? (i := 691) (by decide +kernel)⟩
theorem lw_p38 : lw_okq (⟨"RememberedCellsModel", "wantedBy", "(I)I"⟩, 18) := ⟨⟨by decide +kernel, by decide +kernel⟩, List.mem_of_getElem? (i := 485) (by decide +kernel), List.mem_of_getElem? (i := 694) (by decide +kernel), List.mem_of_getElem? (i := 695) (by decide +kernel)⟩
theorem lw_p39 : lw_okq (⟨"RememberedCellsModel", "settles", "(I)V"⟩, 18) := ⟨⟨by decide +kernel, by decide +kernel⟩, List.mem_of_getElem? (i := 485) (by decide +kernel), List.mem_of_getElem? (i := 698) (by decide +kernel), List.mem_of_getElem? (i := 699) (by decide +kernel)⟩
theorem lw_p40 : lw_okq (⟨"RememberedCellsModel", "isOne", "(II)Z"⟩, 18) := ⟨⟨by decide +kernel, by decide +kernel⟩, List.mem_of_getElem? (i := 485) (by decide +kernel), List.mem_of_getElem? (i := 707) (by decide +kernel), List.mem_of_getElem? (i := 708) (by decide +kernel)⟩
theorem lw_p41 : lw_okq (⟨"RememberedCellsModel", "brokenAt", "()I"⟩, 18) := ⟨⟨by decide +kernel, by decide +kernel⟩, List.mem_of_getElem? (i := 485) (by decide +kernel), List.mem_of_getElem? (i := 743) (by decide +kernel), List.mem_of_getElem? (i := 744) (by decide +kernel)⟩
theorem lw_p42 : lw_okq (⟨"RememberedCellsModel", "reads", "()Z"⟩, 18) := ⟨⟨by decide +kernel, by decide +kernel⟩, List.mem_of_getElem? (i := 485) (by decide +kernel), List.mem_of_getElem? (i := 747) (by decide +kernel), List.mem_of_getElem? (i := 748) (by decide +kernel)⟩
theorem lw_p43 : lw_okq (⟨"RememberedCellsModel", "readLetter", "()I"⟩, 18) := ⟨⟨by decide +kernel, by decide +kernel⟩, List.mem_of_getElem? (i := 485) (by decide +kernel), List.mem_of_getElem? (i := 751) (by decide +kernel), List.mem_of_getElem? (i := 752) (by decide +kernel)⟩
theorem lw_p44 : lw_okq (⟨"RememberedCellsModel", "here", "()I"⟩, 18) := ⟨⟨by decide +kernel, by decide +kernel⟩, List.mem_of_getElem? (i := 485) (by decide +kernel), List.mem_of_getElem? (i := 755) (by decide +kernel), List.mem_of_getElem? (i := 756) (by decide +kernel)⟩
theorem lw_p45 : lw_okq (⟨"RememberedCellsModel", "takes", "(Z)V"⟩, 18) := ⟨⟨by decide +kernel, by decide +kernel⟩, List.mem_of_getElem? (i := 485) (by decide +kernel), List.mem_of_getElem? (i := 759) (by decide +kernel), List.mem_of_getElem? (i := 760) (by decide +kernel)⟩
theorem lw_p46 : lw_okq (⟨"RememberedCellsModel", "readNumber", "()V"⟩, 18) := ⟨⟨by decide +kernel, by decide +kernel⟩, List.mem_of_getElem? (i := 485) (by decide +kernel), List.mem_of_getElem? (i := 763) (by decide +kernel), List.mem_of_getElem? (i := 764) (by decide +kernel)⟩
theorem lw_p47 : lw_okq (⟨"RememberedCellsModel", "readFormula", "()V"⟩, 18) := ⟨⟨by decide +kernel, by decide +kernel⟩, List.mem_of_getElem? (i := 485) (by decide +kernel), List.mem_of_getElem? (i := 767) (by decide +kernel), List.mem_of_getElem? (i := 768) (by decide +kernel)⟩
def lw_privs_3 : List (MethodName × Nat) := [(⟨"RememberedCellsModel", "trims", "()V"⟩, 18), (⟨"RememberedCellsModel", "remembered", "()I"⟩, 18), (⟨"RememberedCellsModel", "drops", "(I)V"⟩, 18), (⟨"RememberedCellsModel", "placeOf", "(I)I"⟩, 18), (⟨"RememberedCellsModel", "told", "(I)I"⟩, 18), (⟨"RememberedCellsModel", "afresh", "(I)Z"⟩, 18), (⟨"RememberedCellsModel", "wantedBy", "(I)I"⟩, 18), (⟨"RememberedCellsModel", "settles", "(I)V"⟩, 18), (⟨"RememberedCellsModel", "isOne", "(II)Z"⟩, 18), (⟨"RememberedCellsModel", "brokenAt", "()I"⟩, 18), (⟨"RememberedCellsModel", "reads", "()Z"⟩, 18), (⟨"RememberedCellsModel", "readLetter", "()I"⟩, 18), (⟨"RememberedCellsModel", "here", "()I"⟩, 18), (⟨"RememberedCellsModel", "takes", "(Z)V"⟩, 18), (⟨"RememberedCellsModel", "readNumber", "()V"⟩, 18), (⟨"RememberedCellsModel", "readFormula", "()V"⟩, 18)]
theorem lw_r3 : ∀ q ∈ lw_privs_3, lw_okq q := List.forall_mem_cons.mpr ⟨lw_p32, List.forall_mem_cons.mpr ⟨lw_p33, List.forall_mem_cons.mpr ⟨lw_p34, List.forall_mem_cons.mpr ⟨lw_p35, List.forall_mem_cons.mpr ⟨lw_p36, List.forall_mem_cons.mpr ⟨lw_p37, List.forall_mem_cons.mpr ⟨lw_p38, List.forall_mem_cons.mpr ⟨lw_p39, List.forall_mem_cons.mpr ⟨lw_p40, List.forall_mem_cons.mpr ⟨lw_p41, List.forall_mem_cons.mpr ⟨lw_p42, List.forall_mem_cons.mpr ⟨lw_p43, List.forall_mem_cons.mpr ⟨lw_p44, List.forall_mem_cons.mpr ⟨lw_p45, List.forall_mem_cons.mpr ⟨lw_p46, List.forall_mem_cons.mpr ⟨lw_p47, fun _ h => absurd h List.not_mem_nil⟩⟩⟩⟩⟩⟩⟩⟩⟩⟩⟩⟩⟩⟩⟩⟩
def lw_privs : List (MethodName × Nat) := lw_privs_1 ++ (lw_privs_2 ++ (lw_privs_3))
def lw_tbl : List Cond := k2_sels lw_privs ++ tables_1
theorem lw_privs_ok : ∀ q ∈ lw_privs, lw_okq q := by
  show ∀ q ∈ lw_privs_1 ++ (lw_privs_2 ++ (lw_privs_3)), lw_okq q
  exact List.forall_mem_append.mpr ⟨lw_r1, List.forall_mem_append.mpr ⟨lw_r2, lw_r3⟩⟩
end
section
def RX0 : String := "RememberedCells$Cell"
def TX0 : u_T := fun k => match k with
  | 0 => ("RememberedCells$Cell", "definition", "LRememberedCells$Definition;", true)
  | 1 => ("RememberedCells$Cell", "changed", "I", false)
  | 2 => ("RememberedCells$Cell", "remembered", "Z", false)
  | 3 => ("RememberedCells$Cell", "answer", "I", false)
  | 4 => ("RememberedCells$Cell", "seen", "I", false)
  | 5 => ("RememberedCells$Cell", "secondUsed", "I", false)
  | 6 => ("RememberedCells$Cell", "lastUse", "I", false)
  | _ => ("RememberedCells$Cell", "beingLookedAt", "Z", false)
def tyX0 : Nat → FieldType := fun k => match k with
  | 0 => .object "RememberedCells$Definition"
  | 1 => .int
  | 2 => .boolean
  | 3 => .int
  | 4 => .int
  | 5 => .int
  | 6 => .int
  | _ => .boolean
abbrev wsX00 : List Cond := u_ws RX0 TX0 8
theorem nmX0 : ∀ a, a < 8 → ∀ b, b < 8 → a ≠ b → (TX0 a).2.1 ≠ (TX0 b).2.1 := by decide +kernel
theorem tyX0_ok : ∀ k, k < 8 → parseFieldDescriptor (TX0 k).2.2.1 = some (tyX0 k) := by decide +kernel
abbrev cX0_init : ByteArray := prog_2_method_1_code
def yX0_init : MethodName := ⟨RX0, "<init>", "()V"⟩
abbrev cX0_copy : ByteArray := prog_2_method_2_code
def yX0_copy : MethodName := ⟨RX0, "copy", "(LRememberedCells$Cell;)V"⟩
abbrev cX0_told : ByteArray := prog_2_method_3_code
def yX0_told : MethodName := ⟨RX0, "told", "()I"⟩
def RX1 : String := "RememberedCells$Definition"
def TX1 : u_T := fun k => match k with
  | 0 => ("RememberedCells$Definition", "kind", "I", false)
  | 1 => ("RememberedCells$Definition", "value", "I", false)
  | 2 => ("RememberedCells$Definition", "first", "I", false)
  | 3 => ("RememberedCells$Definition", "second", "I", false)
  | _ => ("RememberedCells$Definition", "third", "I", false)
def tyX1 : Nat → FieldType := fun k => match k with
  | 0 => .int
  | 1 => .int
  | 2 => .int
  | 3 => .int
  | _ => .int
abbrev wsX10 : List Cond := u_ws RX1 TX1 5
theorem nmX1 : ∀ a, a < 5 → ∀ b, b < 5 → a ≠ b → (TX1 a).2.1 ≠ (TX1 b).2.1 := by decide +kernel
theorem tyX1_ok : ∀ k, k < 5 → parseFieldDescriptor (TX1 k).2.2.1 = some (tyX1 k) := by decide +kernel
abbrev cX1_init : ByteArray := prog_3_method_1_code
def yX1_init : MethodName := ⟨RX1, "<init>", "()V"⟩
abbrev cX1_setValue : ByteArray := prog_3_method_2_code
def yX1_setValue : MethodName := ⟨RX1, "setValue", "(I)V"⟩
abbrev cX1_setFormula : ByteArray := prog_3_method_3_code
def yX1_setFormula : MethodName := ⟨RX1, "setFormula", "(IIII)V"⟩
abbrev cX1_copy : ByteArray := prog_3_method_4_code
def yX1_copy : MethodName := ⟨RX1, "copy", "(LRememberedCells$Definition;)V"⟩
abbrev cX1_isLike : ByteArray := prog_3_method_5_code
def yX1_isLike : MethodName := ⟨RX1, "isLike", "(LRememberedCells$Definition;)Z"⟩
abbrev cX1_secondFor : ByteArray := prog_3_method_6_code
def yX1_secondFor : MethodName := ⟨RX1, "secondFor", "(I)I"⟩
abbrev cX1_give : ByteArray := prog_3_method_7_code
def yX1_give : MethodName := ⟨RX1, "give", "(II)I"⟩
def RX2 : String := "RememberedCells$History"
def TX2 : u_T := fun k => match k with
  | 0 => ("RememberedCells$History", "states", "[LRememberedCells$State;", true)
  | _ => ("RememberedCells$History", "size", "I", false)
def tyX2 : Nat → FieldType := fun k => match k with
  | 0 => .array (.object "RememberedCells$State")
  | _ => .int
abbrev wsX20 : List Cond := u_ws RX2 TX2 2
theorem nmX2 : ∀ a, a < 2 → ∀ b, b < 2 → a ≠ b → (TX2 a).2.1 ≠ (TX2 b).2.1 := by decide +kernel
theorem tyX2_ok : ∀ k, k < 2 → parseFieldDescriptor (TX2 k).2.2.1 = some (tyX2 k) := by decide +kernel
abbrev cX2_init : ByteArray := prog_4_method_1_code
def yX2_init : MethodName := ⟨RX2, "<init>", "()V"⟩
abbrev cX2_record : ByteArray := prog_4_method_2_code
def yX2_record : MethodName := ⟨RX2, "record", "(LRememberedCells$State;)V"⟩
abbrev cX2_dropOldest : ByteArray := prog_4_method_3_code
def yX2_dropOldest : MethodName := ⟨RX2, "dropOldest", "()V"⟩
abbrev cX2_restoreLatestTo : ByteArray := prog_4_method_4_code
def yX2_restoreLatestTo : MethodName := ⟨RX2, "restoreLatestTo", "(LRememberedCells$State;)V"⟩
def RX3 : String := "RememberedCells$State"
def TX3 : u_T := fun k => match k with
  | 0 => ("RememberedCells$State", "cells", "[LRememberedCells$Cell;", true)
  | 1 => ("RememberedCells$State", "revision", "I", false)
  | 2 => ("RememberedCells$State", "bound", "I", false)
  | 3 => ("RememberedCells$State", "workedOut", "I", false)
  | 4 => ("RememberedCells$State", "kept", "I", false)
  | 5 => ("RememberedCells$State", "taken", "I", false)
  | 6 => ("RememberedCells$State", "forgotten", "I", false)
  | 7 => ("RememberedCells$State", "same", "I", false)
  | 8 => ("RememberedCells$State", "uses", "I", false)
  | _ => ("RememberedCells$State", "lookedAt", "I", false)
def tyX3 : Nat → FieldType := fun k => match k with
  | 0 => .array (.object "RememberedCells$Cell")
  | 1 => .int
  | 2 => .int
  | 3 => .int
  | 4 => .int
  | 5 => .int
  | 6 => .int
  | 7 => .int
  | 8 => .int
  | _ => .int
abbrev wsX30 : List Cond := u_ws RX3 TX3 10
theorem nmX3 : ∀ a, a < 10 → ∀ b, b < 10 → a ≠ b → (TX3 a).2.1 ≠ (TX3 b).2.1 := by decide +kernel
theorem tyX3_ok : ∀ k, k < 10 → parseFieldDescriptor (TX3 k).2.2.1 = some (tyX3 k) := by decide +kernel
abbrev cX3_init : ByteArray := prog_5_method_1_code
def yX3_init : MethodName := ⟨RX3, "<init>", "()V"⟩
abbrev cX3_copy : ByteArray := prog_5_method_2_code
def yX3_copy : MethodName := ⟨RX3, "copy", "(LRememberedCells$State;)V"⟩
abbrev cX3_redefine : ByteArray := prog_5_method_3_code
def yX3_redefine : MethodName := ⟨RX3, "redefine", "(ILRememberedCells$Definition;)V"⟩
abbrev cX3_rememberedAnswers : ByteArray := prog_5_method_4_code
def yX3_rememberedAnswers : MethodName := ⟨RX3, "rememberedAnswers", "()I"⟩
abbrev cX3_placeOf : ByteArray := prog_5_method_5_code
def yX3_placeOf : MethodName := ⟨RX3, "placeOf", "(I)I"⟩
abbrev cX3_forgetAnswer : ByteArray := prog_5_method_6_code
def yX3_forgetAnswer : MethodName := ⟨RX3, "forgetAnswer", "(I)V"⟩
abbrev cX3_forgetBeyondBound : ByteArray := prog_5_method_7_code
def yX3_forgetBeyondBound : MethodName := ⟨RX3, "forgetBeyondBound", "()V"⟩
abbrev cX3_forgetOldest : ByteArray := prog_5_method_8_code
def yX3_forgetOldest : MethodName := ⟨RX3, "forgetOldest", "()V"⟩
abbrev cX3_dropAnswers : ByteArray := prog_5_method_9_code
def yX3_dropAnswers : MethodName := ⟨RX3, "dropAnswers", "()V"⟩
abbrev cX3_lookAt : ByteArray := prog_5_method_10_code
def yX3_lookAt : MethodName := ⟨RX3, "lookAt", "(I)Z"⟩
abbrev cX3_look : ByteArray := prog_5_method_11_code
def yX3_look : MethodName := ⟨RX3, "look", "(II)I"⟩
abbrev cX3_bringUpToDate : ByteArray := prog_5_method_12_code
def yX3_bringUpToDate : MethodName := ⟨RX3, "bringUpToDate", "(LRememberedCells$Cell;I)Z"⟩
abbrev cX3_lookForChange : ByteArray := prog_5_method_13_code
def yX3_lookForChange : MethodName := ⟨RX3, "lookForChange", "(LRememberedCells$Cell;I)I"⟩
abbrev cX3_workOut : ByteArray := prog_5_method_14_code
def yX3_workOut : MethodName := ⟨RX3, "workOut", "(LRememberedCells$Cell;I)Z"⟩
abbrev cX3_remember : ByteArray := prog_5_method_15_code
def yX3_remember : MethodName := ⟨RX3, "remember", "(LRememberedCells$Cell;II)V"⟩
def RX4 : String := "RememberedCells$Text"
def TX4 : u_T := fun k => match k with
  | 0 => ("RememberedCells$Text", "characters", "[C", true)
  | 1 => ("RememberedCells$Text", "length", "I", false)
  | 2 => ("RememberedCells$Text", "at", "I", false)
  | 3 => ("RememberedCells$Text", "cell", "I", false)
  | _ => ("RememberedCells$Text", "definition", "LRememberedCells$Definition;", true)
def tyX4 : Nat → FieldType := fun k => match k with
  | 0 => .array .char
  | 1 => .int
  | 2 => .int
  | 3 => .int
  | _ => .object "RememberedCells$Definition"
abbrev wsX40 : List Cond := u_ws RX4 TX4 5
theorem nmX4 : ∀ a, a < 5 → ∀ b, b < 5 → a ≠ b → (TX4 a).2.1 ≠ (TX4 b).2.1 := by decide +kernel
theorem tyX4_ok : ∀ k, k < 5 → parseFieldDescriptor (TX4 k).2.2.1 = some (tyX4 k) := by decide +kernel
abbrev cX4_init : ByteArray := prog_6_method_1_code
def yX4_init : MethodName := ⟨RX4, "<init>", "()V"⟩
abbrev cX4_append : ByteArray := prog_6_method_2_code
def yX4_append : MethodName := ⟨RX4, "append", "(C)V"⟩
abbrev cX4_empty : ByteArray := prog_6_method_3_code
def yX4_empty : MethodName := ⟨RX4, "empty", "()V"⟩
abbrev cX4_rewind : ByteArray := prog_6_method_4_code
def yX4_rewind : MethodName := ⟨RX4, "rewind", "()V"⟩
abbrev cX4_hasMore : ByteArray := prog_6_method_5_code
def yX4_hasMore : MethodName := ⟨RX4, "hasMore", "()Z"⟩
abbrev cX4_findFault : ByteArray := prog_6_method_6_code
def yX4_findFault : MethodName := ⟨RX4, "findFault", "()I"⟩
abbrev cX4_readDefinition : ByteArray := prog_6_method_7_code
def yX4_readDefinition : MethodName := ⟨RX4, "readDefinition", "()Z"⟩
abbrev cX4_readFormula : ByteArray := prog_6_method_8_code
def yX4_readFormula : MethodName := ⟨RX4, "readFormula", "(I)Z"⟩
abbrev cX4_readNumber : ByteArray := prog_6_method_9_code
def yX4_readNumber : MethodName := ⟨RX4, "readNumber", "()Z"⟩
abbrev cX4_readOperator : ByteArray := prog_6_method_10_code
def yX4_readOperator : MethodName := ⟨RX4, "readOperator", "()I"⟩
abbrev cX4_kindOf : ByteArray := prog_6_method_11_code
def yX4_kindOf : MethodName := ⟨RX4, "kindOf", "(I)I"⟩
abbrev cX4_readLetter : ByteArray := prog_6_method_12_code
def yX4_readLetter : MethodName := ⟨RX4, "readLetter", "()I"⟩
abbrev cX4_readSign : ByteArray := prog_6_method_13_code
def yX4_readSign : MethodName := ⟨RX4, "readSign", "(C)Z"⟩
abbrev cX4_character : ByteArray := prog_6_method_14_code
def yX4_character : MethodName := ⟨RX4, "character", "()I"⟩
def RX5 : String := "RememberedCells"
def TX5 : u_T := fun k => match k with
  | 0 => ("RememberedCells", "present", "LRememberedCells$State;", true)
  | 1 => ("RememberedCells", "trial", "LRememberedCells$State;", true)
  | 2 => ("RememberedCells", "history", "LRememberedCells$History;", true)
  | 3 => ("RememberedCells", "text", "LRememberedCells$Text;", true)
  | _ => ("RememberedCells", "given", "LRememberedCells$Definition;", true)
def tyX5 : Nat → FieldType := fun k => match k with
  | 0 => .object "RememberedCells$State"
  | 1 => .object "RememberedCells$State"
  | 2 => .object "RememberedCells$History"
  | 3 => .object "RememberedCells$Text"
  | _ => .object "RememberedCells$Definition"
abbrev wsX50 : List Cond := u_ws RX5 TX5 5
theorem nmX5 : ∀ a, a < 5 → ∀ b, b < 5 → a ≠ b → (TX5 a).2.1 ≠ (TX5 b).2.1 := by decide +kernel
theorem tyX5_ok : ∀ k, k < 5 → parseFieldDescriptor (TX5 k).2.2.1 = some (tyX5 k) := by decide +kernel
abbrev cX5_init : ByteArray := prog_1_method_1_code
def yX5_init : MethodName := ⟨RX5, "<init>", "()V"⟩
abbrev cX5_define : ByteArray := prog_1_method_2_code
def yX5_define : MethodName := ⟨RX5, "define", "(II)I"⟩
abbrev cX5_formula : ByteArray := prog_1_method_3_code
def yX5_formula : MethodName := ⟨RX5, "formula", "(IIIII)I"⟩
abbrev cX5_cellOf : ByteArray := prog_1_method_4_code
def yX5_cellOf : MethodName := ⟨RX5, "cellOf", "(II)I"⟩
abbrev cX5_ask : ByteArray := prog_1_method_5_code
def yX5_ask : MethodName := ⟨RX5, "ask", "(I)I"⟩
abbrev cX5_fresh : ByteArray := prog_1_method_6_code
def yX5_fresh : MethodName := ⟨RX5, "fresh", "(I)I"⟩
abbrev cX5_cost : ByteArray := prog_1_method_7_code
def yX5_cost : MethodName := ⟨RX5, "cost", "(II)I"⟩
abbrev cX5_forget : ByteArray := prog_1_method_8_code
def yX5_forget : MethodName := ⟨RX5, "forget", "(I)I"⟩
abbrev cX5_bound : ByteArray := prog_1_method_9_code
def yX5_bound : MethodName := ⟨RX5, "bound", "(I)I"⟩
abbrev cX5_rememberedOf : ByteArray := prog_1_method_10_code
def yX5_rememberedOf : MethodName := ⟨RX5, "rememberedOf", "(II)I"⟩
abbrev cX5_which : ByteArray := prog_1_method_11_code
def yX5_which : MethodName := ⟨RX5, "which", "(I)I"⟩
abbrev cX5_used : ByteArray := prog_1_method_12_code
def yX5_used : MethodName := ⟨RX5, "used", "(I)I"⟩
abbrev cX5_usedBy : ByteArray := prog_1_method_13_code
def yX5_usedBy : MethodName := ⟨RX5, "usedBy", "(I)I"⟩
abbrev cX5_would : ByteArray := prog_1_method_14_code
def yX5_would : MethodName := ⟨RX5, "would", "(III)I"⟩
abbrev cX5_count : ByteArray := prog_1_method_15_code
def yX5_count : MethodName := ⟨RX5, "count", "(I)I"⟩
abbrev cX5_undo : ByteArray := prog_1_method_16_code
def yX5_undo : MethodName := ⟨RX5, "undo", "()I"⟩
abbrev cX5_type : ByteArray := prog_1_method_17_code
def yX5_type : MethodName := ⟨RX5, "type", "(I)I"⟩
abbrev cX5_clearText : ByteArray := prog_1_method_18_code
def yX5_clearText : MethodName := ⟨RX5, "clearText", "()I"⟩
abbrev cX5_fault : ByteArray := prog_1_method_19_code
def yX5_fault : MethodName := ⟨RX5, "fault", "(I)I"⟩
abbrev cX5_play : ByteArray := prog_1_method_20_code
def yX5_play : MethodName := ⟨RX5, "play", "()I"⟩
abbrev cX5_isWithin : ByteArray := prog_1_method_21_code
def yX5_isWithin : MethodName := ⟨RX5, "isWithin", "(III)Z"⟩
abbrev cX5_isCell : ByteArray := prog_1_method_22_code
def yX5_isCell : MethodName := ⟨RX5, "isCell", "(I)Z"⟩
abbrev cX5_isValue : ByteArray := prog_1_method_23_code
def yX5_isValue : MethodName := ⟨RX5, "isValue", "(I)Z"⟩
abbrev cX5_isKind : ByteArray := prog_1_method_24_code
def yX5_isKind : MethodName := ⟨RX5, "isKind", "(I)Z"⟩
abbrev cX5_isThird : ByteArray := prog_1_method_25_code
def yX5_isThird : MethodName := ⟨RX5, "isThird", "(II)Z"⟩
abbrev cX5_answerAfresh : ByteArray := prog_1_method_26_code
def yX5_answerAfresh : MethodName := ⟨RX5, "answerAfresh", "(I)I"⟩
abbrev cX5_usedAfresh : ByteArray := prog_1_method_27_code
def yX5_usedAfresh : MethodName := ⟨RX5, "usedAfresh", "(I)I"⟩
abbrev cX5_isOneOf : ByteArray := prog_1_method_28_code
def yX5_isOneOf : MethodName := ⟨RX5, "isOneOf", "(II)Z"⟩
def RX6 : String := "RememberedCellsModel"
def TX6 : u_T := fun k => match k with
  | 0 => ("RememberedCellsModel", "s", "[I", true)
  | 1 => ("RememberedCellsModel", "begun", "[I", true)
  | 2 => ("RememberedCellsModel", "past", "[I", true)
  | 3 => ("RememberedCellsModel", "states", "I", false)
  | 4 => ("RememberedCellsModel", "text", "[I", true)
  | 5 => ("RememberedCellsModel", "length", "I", false)
  | 6 => ("RememberedCellsModel", "open", "[I", true)
  | 7 => ("RememberedCellsModel", "phase", "[I", true)
  | 8 => ("RememberedCellsModel", "step", "[I", true)
  | 9 => ("RememberedCellsModel", "second", "[I", true)
  | 10 => ("RememberedCellsModel", "depth", "I", false)
  | 11 => ("RememberedCellsModel", "isRing", "Z", false)
  | 12 => ("RememberedCellsModel", "how", "[I", true)
  | 13 => ("RememberedCellsModel", "given", "[I", true)
  | 14 => ("RememberedCellsModel", "sets", "[I", true)
  | 15 => ("RememberedCellsModel", "at", "I", false)
  | 16 => ("RememberedCellsModel", "isForm", "Z", false)
  | _ => ("RememberedCellsModel", "read", "[I", true)
def tyX6 : Nat → FieldType := fun k => match k with
  | 0 => .array .int
  | 1 => .array .int
  | 2 => .array .int
  | 3 => .int
  | 4 => .array .int
  | 5 => .int
  | 6 => .array .int
  | 7 => .array .int
  | 8 => .array .int
  | 9 => .array .int
  | 10 => .int
  | 11 => .boolean
  | 12 => .array .int
  | 13 => .array .int
  | 14 => .array .int
  | 15 => .int
  | 16 => .boolean
  | _ => .array .int
abbrev wsX60 : List Cond := u_ws RX6 TX6 18
theorem nmX6 : ∀ a, a < 18 → ∀ b, b < 18 → a ≠ b → (TX6 a).2.1 ≠ (TX6 b).2.1 := by decide +kernel
theorem tyX6_ok : ∀ k, k < 18 → parseFieldDescriptor (TX6 k).2.2.1 = some (tyX6 k) := by decide +kernel
abbrev cX6_init : ByteArray := prog_8_method_1_code
def yX6_init : MethodName := ⟨RX6, "<init>", "()V"⟩
abbrev cX6_in : ByteArray := prog_8_method_3_code
def yX6_in : MethodName := ⟨RX6, "in", "(III)Z"⟩
abbrev cX6_isCell : ByteArray := prog_8_method_4_code
def yX6_isCell : MethodName := ⟨RX6, "isCell", "(I)Z"⟩
abbrev cX6_of : ByteArray := prog_8_method_5_code
def yX6_of : MethodName := ⟨RX6, "of", "(II)I"⟩
abbrev cX6_puts : ByteArray := prog_8_method_6_code
def yX6_puts : MethodName := ⟨RX6, "puts", "(III)V"⟩
abbrev cX6_begins : ByteArray := prog_8_method_7_code
def yX6_begins : MethodName := ⟨RX6, "begins", "()V"⟩
abbrev cX6_returns : ByteArray := prog_8_method_8_code
def yX6_returns : MethodName := ⟨RX6, "returns", "()V"⟩
abbrev cX6_acted : ByteArray := prog_8_method_9_code
def yX6_acted : MethodName := ⟨RX6, "acted", "(I)I"⟩
abbrev cX6_isSo : ByteArray := prog_8_method_10_code
def yX6_isSo : MethodName := ⟨RX6, "isSo", "(IIIIII)Z"⟩
abbrev cX6_defines : ByteArray := prog_8_method_11_code
def yX6_defines : MethodName := ⟨RX6, "defines", "(IIIIII)I"⟩
abbrev cX6_isValue : ByteArray := prog_8_method_12_code
def yX6_isValue : MethodName := ⟨RX6, "isValue", "(I)Z"⟩
abbrev cX6_define : ByteArray := prog_8_method_13_code
def yX6_define : MethodName := ⟨RX6, "define", "(II)I"⟩
abbrev cX6_formula : ByteArray := prog_8_method_14_code
def yX6_formula : MethodName := ⟨RX6, "formula", "(IIIII)I"⟩
abbrev cX6_cellOf : ByteArray := prog_8_method_15_code
def yX6_cellOf : MethodName := ⟨RX6, "cellOf", "(II)I"⟩
abbrev cX6_uses : ByteArray := prog_8_method_16_code
def yX6_uses : MethodName := ⟨RX6, "uses", "(I)V"⟩
abbrev cX6_isOpen : ByteArray := prog_8_method_17_code
def yX6_isOpen : MethodName := ⟨RX6, "isOpen", "(I)Z"⟩
abbrev cX6_enters : ByteArray := prog_8_method_18_code
def yX6_enters : MethodName := ⟨RX6, "enters", "(I)V"⟩
abbrev cX6_changedAt : ByteArray := prog_8_method_19_code
def yX6_changedAt : MethodName := ⟨RX6, "changedAt", "(I)I"⟩
abbrev cX6_answerOf : ByteArray := prog_8_method_20_code
def yX6_answerOf : MethodName := ⟨RX6, "answerOf", "(I)I"⟩
abbrev cX6_bounded : ByteArray := prog_8_method_21_code
def yX6_bounded : MethodName := ⟨RX6, "bounded", "(J)I"⟩
abbrev cX6_made : ByteArray := prog_8_method_22_code
def yX6_made : MethodName := ⟨RX6, "made", "(III)I"⟩
abbrev cX6_checks : ByteArray := prog_8_method_23_code
def yX6_checks : MethodName := ⟨RX6, "checks", "(I)V"⟩
abbrev cX6_ends : ByteArray := prog_8_method_24_code
def yX6_ends : MethodName := ⟨RX6, "ends", "(III)V"⟩
abbrev cX6_works : ByteArray := prog_8_method_25_code
def yX6_works : MethodName := ⟨RX6, "works", "(I)V"⟩
abbrev cX6_looks : ByteArray := prog_8_method_26_code
def yX6_looks : MethodName := ⟨RX6, "looks", "(I)Z"⟩
abbrev cX6_remembered : ByteArray := prog_8_method_27_code
def yX6_remembered : MethodName := ⟨RX6, "remembered", "()I"⟩
abbrev cX6_drops : ByteArray := prog_8_method_28_code
def yX6_drops : MethodName := ⟨RX6, "drops", "(I)V"⟩
abbrev cX6_trims : ByteArray := prog_8_method_29_code
def yX6_trims : MethodName := ⟨RX6, "trims", "()V"⟩
abbrev cX6_ask : ByteArray := prog_8_method_30_code
def yX6_ask : MethodName := ⟨RX6, "ask", "(I)I"⟩
abbrev cX6_cost : ByteArray := prog_8_method_31_code
def yX6_cost : MethodName := ⟨RX6, "cost", "(II)I"⟩
abbrev cX6_forget : ByteArray := prog_8_method_32_code
def yX6_forget : MethodName := ⟨RX6, "forget", "(I)I"⟩
abbrev cX6_bound : ByteArray := prog_8_method_33_code
def yX6_bound : MethodName := ⟨RX6, "bound", "(I)I"⟩
abbrev cX6_placeOf : ByteArray := prog_8_method_34_code
def yX6_placeOf : MethodName := ⟨RX6, "placeOf", "(I)I"⟩
abbrev cX6_rememberedOf : ByteArray := prog_8_method_35_code
def yX6_rememberedOf : MethodName := ⟨RX6, "rememberedOf", "(II)I"⟩
abbrev cX6_wantedBy : ByteArray := prog_8_method_36_code
def yX6_wantedBy : MethodName := ⟨RX6, "wantedBy", "(I)I"⟩
abbrev cX6_settles : ByteArray := prog_8_method_37_code
def yX6_settles : MethodName := ⟨RX6, "settles", "(I)V"⟩
abbrev cX6_afresh : ByteArray := prog_8_method_38_code
def yX6_afresh : MethodName := ⟨RX6, "afresh", "(I)Z"⟩
abbrev cX6_told : ByteArray := prog_8_method_39_code
def yX6_told : MethodName := ⟨RX6, "told", "(I)I"⟩
abbrev cX6_fresh : ByteArray := prog_8_method_40_code
def yX6_fresh : MethodName := ⟨RX6, "fresh", "(I)I"⟩
abbrev cX6_isOne : ByteArray := prog_8_method_41_code
def yX6_isOne : MethodName := ⟨RX6, "isOne", "(II)Z"⟩
abbrev cX6_which : ByteArray := prog_8_method_42_code
def yX6_which : MethodName := ⟨RX6, "which", "(I)I"⟩
abbrev cX6_used : ByteArray := prog_8_method_43_code
def yX6_used : MethodName := ⟨RX6, "used", "(I)I"⟩
abbrev cX6_usedBy : ByteArray := prog_8_method_44_code
def yX6_usedBy : MethodName := ⟨RX6, "usedBy", "(I)I"⟩
abbrev cX6_would : ByteArray := prog_8_method_45_code
def yX6_would : MethodName := ⟨RX6, "would", "(III)I"⟩
abbrev cX6_count : ByteArray := prog_8_method_46_code
def yX6_count : MethodName := ⟨RX6, "count", "(I)I"⟩
abbrev cX6_undo : ByteArray := prog_8_method_47_code
def yX6_undo : MethodName := ⟨RX6, "undo", "()I"⟩
abbrev cX6_type : ByteArray := prog_8_method_48_code
def yX6_type : MethodName := ⟨RX6, "type", "(I)I"⟩
abbrev cX6_clearText : ByteArray := prog_8_method_49_code
def yX6_clearText : MethodName := ⟨RX6, "clearText", "()I"⟩
abbrev cX6_here : ByteArray := prog_8_method_50_code
def yX6_here : MethodName := ⟨RX6, "here", "()I"⟩
abbrev cX6_takes : ByteArray := prog_8_method_51_code
def yX6_takes : MethodName := ⟨RX6, "takes", "(Z)V"⟩
abbrev cX6_readLetter : ByteArray := prog_8_method_52_code
def yX6_readLetter : MethodName := ⟨RX6, "readLetter", "()I"⟩
abbrev cX6_readNumber : ByteArray := prog_8_method_53_code
def yX6_readNumber : MethodName := ⟨RX6, "readNumber", "()V"⟩
abbrev cX6_kindOf : ByteArray := prog_8_method_54_code
def yX6_kindOf : MethodName := ⟨RX6, "kindOf", "(I)I"⟩
abbrev cX6_readFormula : ByteArray := prog_8_method_55_code
def yX6_readFormula : MethodName := ⟨RX6, "readFormula", "()V"⟩
abbrev cX6_reads : ByteArray := prog_8_method_56_code
def yX6_reads : MethodName := ⟨RX6, "reads", "()Z"⟩
abbrev cX6_brokenAt : ByteArray := prog_8_method_57_code
def yX6_brokenAt : MethodName := ⟨RX6, "brokenAt", "()I"⟩
abbrev cX6_fault : ByteArray := prog_8_method_58_code
def yX6_fault : MethodName := ⟨RX6, "fault", "(I)I"⟩
abbrev cX6_play : ByteArray := prog_8_method_59_code
def yX6_play : MethodName := ⟨RX6, "play", "()I"⟩
def RJ9 : String := "java/lang/Math"
def TJ9 : u_T := fun k => match k with
  | _ => ("", "", "", false)
def tyJ9 : Nat → FieldType := fun k => match k with
  | _ => .int
abbrev wsJ90 : List Cond := u_ws RJ9 TJ9 0
theorem nmJ9 : ∀ a, a < 0 → ∀ b, b < 0 → a ≠ b → (TJ9 a).2.1 ≠ (TJ9 b).2.1 := by decide +kernel
theorem tyJ9_ok : ∀ k, k < 0 → parseFieldDescriptor (TJ9 k).2.2.1 = some (tyJ9 k) := by decide +kernel
abbrev cJ9_max_7cf53 : ByteArray := prog_9_method_65_code
def yJ9_max_7cf53 : MethodName := ⟨RJ9, "max", "(II)I"⟩
def RL : String := "RememberedCellsLaw"
abbrev cL_law : ByteArray := code
def yL_law : MethodName := ⟨RL, "law", "([I)Z"⟩
abbrev vwCl : List vw_C := [(RX0, TX0, 8), (RX1, TX1, 5), (RX2, TX2, 2), (RX3, TX3, 10), (RX4, TX4, 5), (RX5, TX5, 5), (RX6, TX6, 18)]
end
section
/-- the words that every contract carries -/
def lw_g : List Cond := lw_tbl.filter goodWord
/-- the words of nest mates -/
def lw_nest : Cond → Bool
  | .methodLinkNest .. => true
  | _ => false
def lw_n : List Cond := lw_tbl.filter lw_nest
theorem lw_gi {w : Cond} (i : Nat) (h : lw_tbl[i]? = some w) (hg : goodWord w = true) : w ∈ lw_g := List.mem_filter.mpr ⟨List.mem_of_getElem? h, hg⟩
theorem lw_ni {w : Cond} (i : Nat) (h : lw_tbl[i]? = some w) (hg : lw_nest w = true) : w ∈ lw_n := List.mem_filter.mpr ⟨List.mem_of_getElem? h, hg⟩
theorem se_X2_dropOldest : Cond.selects RX2 yX2_dropOldest yX2_dropOldest ∈ lw_g := lw_gi 0 (by decide +kernel) (by decide +kernel)
theorem se_X3_look : Cond.selects RX3 yX3_look yX3_look ∈ lw_g := lw_gi 1 (by decide +kernel) (by decide +kernel)
theorem se_X3_bringUpToDate : Cond.selects RX3 yX3_bringUpToDate yX3_bringUpToDate ∈ lw_g := lw_gi 2 (by decide +kernel) (by decide +kernel)
theorem se_X3_workOut : Cond.selects RX3 yX3_workOut yX3_workOut ∈ lw_g := lw_gi 3 (by decide +kernel) (by decide +kernel)
theorem se_X3_remember : Cond.selects RX3 yX3_remember yX3_remember ∈ lw_g := lw_gi 4 (by decide +kernel) (by decide +kernel)
theorem se_X3_lookForChange : Cond.selects RX3 yX3_lookForChange yX3_lookForChange ∈ lw_g := lw_gi 5 (by decide +kernel) (by decide +kernel)
theorem se_X3_forgetOldest : Cond.selects RX3 yX3_forgetOldest yX3_forgetOldest ∈ lw_g := lw_gi 6 (by decide +kernel) (by decide +kernel)
theorem se_X5_answerAfresh : Cond.selects RX5 yX5_answerAfresh yX5_answerAfresh ∈ lw_g := lw_gi 7 (by decide +kernel) (by decide +kernel)
theorem se_X5_isOneOf : Cond.selects RX5 yX5_isOneOf yX5_isOneOf ∈ lw_g := lw_gi 8 (by decide +kernel) (by decide +kernel)
theorem se_X5_usedAfresh : Cond.selects RX5 yX5_usedAfresh yX5_usedAfresh ∈ lw_g := lw_gi 9 (by decide +kernel) (by decide +kernel)
theorem se_X4_readLetter : Cond.selects RX4 yX4_readLetter yX4_readLetter ∈ lw_g := lw_gi 10 (by decide +kernel) (by decide +kernel)
theorem se_X4_character : Cond.selects RX4 yX4_character yX4_character ∈ lw_g := lw_gi 11 (by decide +kernel) (by decide +kernel)
theorem se_X4_readSign : Cond.selects RX4 yX4_readSign yX4_readSign ∈ lw_g := lw_gi 12 (by decide +kernel) (by decide +kernel)
theorem se_X4_readNumber : Cond.selects RX4 yX4_readNumber yX4_readNumber ∈ lw_g := lw_gi 13 (by decide +kernel) (by decide +kernel)
theorem se_X4_readFormula : Cond.selects RX4 yX4_readFormula yX4_readFormula ∈ lw_g := lw_gi 14 (by decide +kernel) (by decide +kernel)
theorem se_X4_readOperator : Cond.selects RX4 yX4_readOperator yX4_readOperator ∈ lw_g := lw_gi 15 (by decide +kernel) (by decide +kernel)
theorem se_X6_begins : Cond.selects RX6 yX6_begins yX6_begins ∈ lw_g := lw_gi 16 (by decide +kernel) (by decide +kernel)
theorem se_X6_defines : Cond.selects RX6 yX6_defines yX6_defines ∈ lw_g := lw_gi 17 (by decide +kernel) (by decide +kernel)
theorem se_X6_isSo : Cond.selects RX6 yX6_isSo yX6_isSo ∈ lw_g := lw_gi 18 (by decide +kernel) (by decide +kernel)
theorem se_X6_of : Cond.selects RX6 yX6_of yX6_of ∈ lw_g := lw_gi 19 (by decide +kernel) (by decide +kernel)
theorem se_X6_puts : Cond.selects RX6 yX6_puts yX6_puts ∈ lw_g := lw_gi 20 (by decide +kernel) (by decide +kernel)
theorem se_X6_acted : Cond.selects RX6 yX6_acted yX6_acted ∈ lw_g := lw_gi 21 (by decide +kernel) (by decide +kernel)
theorem se_X6_looks : Cond.selects RX6 yX6_looks yX6_looks ∈ lw_g := lw_gi 22 (by decide +kernel) (by decide +kernel)
theorem se_X6_enters : Cond.selects RX6 yX6_enters yX6_enters ∈ lw_g := lw_gi 23 (by decide +kernel) (by decide +kernel)
theorem se_X6_uses : Cond.selects RX6 yX6_uses yX6_uses ∈ lw_g := lw_gi 24 (by decide +kernel) (by decide +kernel)
theorem se_X6_isOpen : Cond.selects RX6 yX6_isOpen yX6_isOpen ∈ lw_g := lw_gi 25 (by decide +kernel) (by decide +kernel)
theorem se_X6_checks : Cond.selects RX6 yX6_checks yX6_checks ∈ lw_g := lw_gi 26 (by decide +kernel) (by decide +kernel)
theorem se_X6_changedAt : Cond.selects RX6 yX6_changedAt yX6_changedAt ∈ lw_g := lw_gi 27 (by decide +kernel) (by decide +kernel)
theorem se_X6_works : Cond.selects RX6 yX6_works yX6_works ∈ lw_g := lw_gi 28 (by decide +kernel) (by decide +kernel)
theorem se_X6_answerOf : Cond.selects RX6 yX6_answerOf yX6_answerOf ∈ lw_g := lw_gi 29 (by decide +kernel) (by decide +kernel)
theorem se_X6_ends : Cond.selects RX6 yX6_ends yX6_ends ∈ lw_g := lw_gi 30 (by decide +kernel) (by decide +kernel)
theorem se_X6_returns : Cond.selects RX6 yX6_returns yX6_returns ∈ lw_g := lw_gi 31 (by decide +kernel) (by decide +kernel)
theorem se_X6_trims : Cond.selects RX6 yX6_trims yX6_trims ∈ lw_g := lw_gi 32 (by decide +kernel) (by decide +kernel)
theorem se_X6_remembered : Cond.selects RX6 yX6_remembered yX6_remembered ∈ lw_g := lw_gi 33 (by decide +kernel) (by decide +kernel)
theorem se_X6_drops : Cond.selects RX6 yX6_drops yX6_drops ∈ lw_g := lw_gi 34 (by decide +kernel) (by decide +kernel)
theorem se_X6_placeOf : Cond.selects RX6 yX6_placeOf yX6_placeOf ∈ lw_g := lw_gi 35 (by decide +kernel) (by decide +kernel)
theorem se_X6_told : Cond.selects RX6 yX6_told yX6_told ∈ lw_g := lw_gi 36 (by decide +kernel) (by decide +kernel)
theorem se_X6_afresh : Cond.selects RX6 yX6_afresh yX6_afresh ∈ lw_g := lw_gi 37 (by decide +kernel) (by decide +kernel)
theorem se_X6_wantedBy : Cond.selects RX6 yX6_wantedBy yX6_wantedBy ∈ lw_g := lw_gi 38 (by decide +kernel) (by decide +kernel)
theorem se_X6_settles : Cond.selects RX6 yX6_settles yX6_settles ∈ lw_g := lw_gi 39 (by decide +kernel) (by decide +kernel)
theorem se_X6_isOne : Cond.selects RX6 yX6_isOne yX6_isOne ∈ lw_g := lw_gi 40 (by decide +kernel) (by decide +kernel)
theorem se_X6_brokenAt : Cond.selects RX6 yX6_brokenAt yX6_brokenAt ∈ lw_g := lw_gi 41 (by decide +kernel) (by decide +kernel)
theorem se_X6_reads : Cond.selects RX6 yX6_reads yX6_reads ∈ lw_g := lw_gi 42 (by decide +kernel) (by decide +kernel)
theorem se_X6_readLetter : Cond.selects RX6 yX6_readLetter yX6_readLetter ∈ lw_g := lw_gi 43 (by decide +kernel) (by decide +kernel)
theorem se_X6_here : Cond.selects RX6 yX6_here yX6_here ∈ lw_g := lw_gi 44 (by decide +kernel) (by decide +kernel)
theorem se_X6_takes : Cond.selects RX6 yX6_takes yX6_takes ∈ lw_g := lw_gi 45 (by decide +kernel) (by decide +kernel)
theorem se_X6_readNumber : Cond.selects RX6 yX6_readNumber yX6_readNumber ∈ lw_g := lw_gi 46 (by decide +kernel) (by decide +kernel)
theorem se_X6_readFormula : Cond.selects RX6 yX6_readFormula yX6_readFormula ∈ lw_g := lw_gi 47 (by decide +kernel) (by decide +kernel)
theorem in_L : Cond.initialized RL ∈ lw_g := lw_gi 48 (by decide +kernel) (by decide +kernel)
theorem in_X5 : Cond.initialized RX5 ∈ lw_g := lw_gi 49 (by decide +kernel) (by decide +kernel)
theorem in_X3 : Cond.initialized RX3 ∈ lw_g := lw_gi 50 (by decide +kernel) (by decide +kernel)
theorem in_X0 : Cond.initialized RX0 ∈ lw_g := lw_gi 51 (by decide +kernel) (by decide +kernel)
theorem in_X1 : Cond.initialized RX1 ∈ lw_g := lw_gi 52 (by decide +kernel) (by decide +kernel)
theorem in_X2 : Cond.initialized RX2 ∈ lw_g := lw_gi 53 (by decide +kernel) (by decide +kernel)
theorem in_X4 : Cond.initialized RX4 ∈ lw_g := lw_gi 54 (by decide +kernel) (by decide +kernel)
theorem in_X6 : Cond.initialized RX6 ∈ lw_g := lw_gi 55 (by decide +kernel) (by decide +kernel)
theorem in_J9 : Cond.initialized "java/lang/Math" ∈ lw_g := lw_gi 56 (by decide +kernel) (by decide +kernel)
theorem kl_L_7 : Cond.classLink RL 7 RX5 ∈ lw_g := lw_gi 57 (by decide +kernel) (by decide +kernel)
theorem ia_X5 : Cond.instantiable RX5 5 ∈ lw_g := lw_gi 58 (by decide +kernel) (by decide +kernel)
theorem ml_L_9 : Cond.methodLink RL 9 yX5_init ∈ lw_g := lw_gi 59 (by decide +kernel) (by decide +kernel)
theorem im_X5_init : Cond.instanceMethod yX5_init ∈ lw_g := lw_gi 60 (by decide +kernel) (by decide +kernel)
theorem co_X5_init : Cond.code yX5_init cX5_init 1 none ∈ lw_g := lw_gi 61 (by decide +kernel) (by decide +kernel)
theorem ml_X5_1 : Cond.methodLink RX5 1 objectInit ∈ lw_g := lw_gi 62 (by decide +kernel) (by decide +kernel)
theorem im_obj : Cond.instanceMethod objectInit ∈ lw_g := lw_gi 63 (by decide +kernel) (by decide +kernel)
theorem co_obj : Cond.code objectInit ⟨#[0xb1]⟩ 1 none ∈ lw_g := lw_gi 64 (by decide +kernel) (by decide +kernel)
theorem kl_X5_7 : Cond.classLink RX5 7 RX3 ∈ lw_g := lw_gi 65 (by decide +kernel) (by decide +kernel)
theorem ia_X3 : Cond.instantiable RX3 10 ∈ lw_g := lw_gi 66 (by decide +kernel) (by decide +kernel)
theorem ml_X5_9 : Cond.methodLink RX5 9 yX3_init ∈ lw_g := lw_gi 67 (by decide +kernel) (by decide +kernel)
theorem im_X3_init : Cond.instanceMethod yX3_init ∈ lw_g := lw_gi 68 (by decide +kernel) (by decide +kernel)
theorem co_X3_init : Cond.code yX3_init cX3_init 2 none ∈ lw_g := lw_gi 69 (by decide +kernel) (by decide +kernel)
theorem ml_X3_3 : Cond.methodLink RX3 3 objectInit ∈ lw_g := lw_gi 70 (by decide +kernel) (by decide +kernel)
theorem kl_X3_9 : Cond.classLink RX3 9 RX0 ∈ lw_g := lw_gi 71 (by decide +kernel) (by decide +kernel)
theorem ia_X0 : Cond.instantiable RX0 8 ∈ lw_g := lw_gi 73 (by decide +kernel) (by decide +kernel)
theorem mn_X3_21 : Cond.methodLinkNest RX3 21 yX0_init RX5 ∈ lw_n := lw_ni 74 (by decide +kernel) (by decide +kernel)
theorem im_X0_init : Cond.instanceMethod yX0_init ∈ lw_g := lw_gi 75 (by decide +kernel) (by decide +kernel)
theorem co_X0_init : Cond.code yX0_init cX0_init 1 none ∈ lw_g := lw_gi 76 (by decide +kernel) (by decide +kernel)
theorem ml_X0_3 : Cond.methodLink RX0 3 objectInit ∈ lw_g := lw_gi 77 (by decide +kernel) (by decide +kernel)
theorem kl_X0_9 : Cond.classLink RX0 9 RX1 ∈ lw_g := lw_gi 78 (by decide +kernel) (by decide +kernel)
theorem ia_X1 : Cond.instantiable RX1 5 ∈ lw_g := lw_gi 79 (by decide +kernel) (by decide +kernel)
theorem mn_X0_11 : Cond.methodLinkNest RX0 11 yX1_init RX5 ∈ lw_n := lw_ni 80 (by decide +kernel) (by decide +kernel)
theorem im_X1_init : Cond.instanceMethod yX1_init ∈ lw_g := lw_gi 81 (by decide +kernel) (by decide +kernel)
theorem co_X1_init : Cond.code yX1_init cX1_init 1 none ∈ lw_g := lw_gi 82 (by decide +kernel) (by decide +kernel)
theorem ml_X1_3 : Cond.methodLink RX1 3 objectInit ∈ lw_g := lw_gi 83 (by decide +kernel) (by decide +kernel)
theorem fl_X1_9 : Cond.fieldLink RX1 9 "RememberedCells$Definition" "kind" "I" ∈ lw_g := lw_gi 84 (by decide +kernel) (by decide +kernel)
theorem fl_X0_45 : Cond.fieldLink RX0 45 "RememberedCells$Definition" "kind" "I" ∈ lw_g := lw_gi 85 (by decide +kernel) (by decide +kernel)
theorem fl_X5_88 : Cond.fieldLink RX5 88 "RememberedCells$Definition" "kind" "I" ∈ lw_g := lw_gi 86 (by decide +kernel) (by decide +kernel)
theorem fl_X3_88 : Cond.fieldLink RX3 88 "RememberedCells$Definition" "kind" "I" ∈ lw_g := lw_gi 87 (by decide +kernel) (by decide +kernel)
theorem fl_X1_15 : Cond.fieldLink RX1 15 "RememberedCells$Definition" "value" "I" ∈ lw_g := lw_gi 88 (by decide +kernel) (by decide +kernel)
theorem fl_X0_48 : Cond.fieldLink RX0 48 "RememberedCells$Definition" "value" "I" ∈ lw_g := lw_gi 89 (by decide +kernel) (by decide +kernel)
theorem fl_X5_92 : Cond.fieldLink RX5 92 "RememberedCells$Definition" "value" "I" ∈ lw_g := lw_gi 90 (by decide +kernel) (by decide +kernel)
theorem fl_X1_18 : Cond.fieldLink RX1 18 "RememberedCells$Definition" "first" "I" ∈ lw_g := lw_gi 91 (by decide +kernel) (by decide +kernel)
theorem fl_X5_95 : Cond.fieldLink RX5 95 "RememberedCells$Definition" "first" "I" ∈ lw_g := lw_gi 92 (by decide +kernel) (by decide +kernel)
theorem fl_X3_108 : Cond.fieldLink RX3 108 "RememberedCells$Definition" "first" "I" ∈ lw_g := lw_gi 93 (by decide +kernel) (by decide +kernel)
theorem fl_X1_21 : Cond.fieldLink RX1 21 "RememberedCells$Definition" "second" "I" ∈ lw_g := lw_gi 94 (by decide +kernel) (by decide +kernel)
theorem fl_X5_98 : Cond.fieldLink RX5 98 "RememberedCells$Definition" "second" "I" ∈ lw_g := lw_gi 95 (by decide +kernel) (by decide +kernel)
theorem fl_X1_24 : Cond.fieldLink RX1 24 "RememberedCells$Definition" "third" "I" ∈ lw_g := lw_gi 96 (by decide +kernel) (by decide +kernel)
theorem fl_X5_101 : Cond.fieldLink RX5 101 "RememberedCells$Definition" "third" "I" ∈ lw_g := lw_gi 97 (by decide +kernel) (by decide +kernel)
theorem fl_X0_12 : Cond.fieldLink RX0 12 "RememberedCells$Cell" "definition" "LRememberedCells$Definition;" ∈ lw_g := lw_gi 109 (by decide +kernel) (by decide +kernel)
theorem fl_X3_50 : Cond.fieldLink RX3 50 "RememberedCells$Cell" "definition" "LRememberedCells$Definition;" ∈ lw_g := lw_gi 110 (by decide +kernel) (by decide +kernel)
theorem fl_X5_83 : Cond.fieldLink RX5 83 "RememberedCells$Cell" "definition" "LRememberedCells$Definition;" ∈ lw_g := lw_gi 111 (by decide +kernel) (by decide +kernel)
theorem fl_X0_26 : Cond.fieldLink RX0 26 "RememberedCells$Cell" "changed" "I" ∈ lw_g := lw_gi 112 (by decide +kernel) (by decide +kernel)
theorem fl_X3_63 : Cond.fieldLink RX3 63 "RememberedCells$Cell" "changed" "I" ∈ lw_g := lw_gi 113 (by decide +kernel) (by decide +kernel)
theorem fl_X5_147 : Cond.fieldLink RX5 147 "RememberedCells$Cell" "changed" "I" ∈ lw_g := lw_gi 114 (by decide +kernel) (by decide +kernel)
theorem fl_X0_29 : Cond.fieldLink RX0 29 "RememberedCells$Cell" "remembered" "Z" ∈ lw_g := lw_gi 115 (by decide +kernel) (by decide +kernel)
theorem fl_X3_66 : Cond.fieldLink RX3 66 "RememberedCells$Cell" "remembered" "Z" ∈ lw_g := lw_gi 116 (by decide +kernel) (by decide +kernel)
theorem fl_X5_131 : Cond.fieldLink RX5 131 "RememberedCells$Cell" "remembered" "Z" ∈ lw_g := lw_gi 117 (by decide +kernel) (by decide +kernel)
theorem fl_X0_33 : Cond.fieldLink RX0 33 "RememberedCells$Cell" "answer" "I" ∈ lw_g := lw_gi 118 (by decide +kernel) (by decide +kernel)
theorem fl_X5_144 : Cond.fieldLink RX5 144 "RememberedCells$Cell" "answer" "I" ∈ lw_g := lw_gi 119 (by decide +kernel) (by decide +kernel)
theorem fl_X3_129 : Cond.fieldLink RX3 129 "RememberedCells$Cell" "answer" "I" ∈ lw_g := lw_gi 120 (by decide +kernel) (by decide +kernel)
theorem fl_X0_36 : Cond.fieldLink RX0 36 "RememberedCells$Cell" "seen" "I" ∈ lw_g := lw_gi 121 (by decide +kernel) (by decide +kernel)
theorem fl_X5_150 : Cond.fieldLink RX5 150 "RememberedCells$Cell" "seen" "I" ∈ lw_g := lw_gi 122 (by decide +kernel) (by decide +kernel)
theorem fl_X3_94 : Cond.fieldLink RX3 94 "RememberedCells$Cell" "seen" "I" ∈ lw_g := lw_gi 123 (by decide +kernel) (by decide +kernel)
theorem fl_X0_18 : Cond.fieldLink RX0 18 "RememberedCells$Cell" "secondUsed" "I" ∈ lw_g := lw_gi 124 (by decide +kernel) (by decide +kernel)
theorem fl_X5_153 : Cond.fieldLink RX5 153 "RememberedCells$Cell" "secondUsed" "I" ∈ lw_g := lw_gi 125 (by decide +kernel) (by decide +kernel)
theorem fl_X3_111 : Cond.fieldLink RX3 111 "RememberedCells$Cell" "secondUsed" "I" ∈ lw_g := lw_gi 126 (by decide +kernel) (by decide +kernel)
theorem fl_X0_39 : Cond.fieldLink RX0 39 "RememberedCells$Cell" "lastUse" "I" ∈ lw_g := lw_gi 127 (by decide +kernel) (by decide +kernel)
theorem fl_X3_70 : Cond.fieldLink RX3 70 "RememberedCells$Cell" "lastUse" "I" ∈ lw_g := lw_gi 128 (by decide +kernel) (by decide +kernel)
theorem fl_X0_42 : Cond.fieldLink RX0 42 "RememberedCells$Cell" "beingLookedAt" "Z" ∈ lw_g := lw_gi 129 (by decide +kernel) (by decide +kernel)
theorem fl_X3_91 : Cond.fieldLink RX3 91 "RememberedCells$Cell" "beingLookedAt" "Z" ∈ lw_g := lw_gi 130 (by decide +kernel) (by decide +kernel)
theorem fl_X3_11 : Cond.fieldLink RX3 11 "RememberedCells$State" "cells" "[LRememberedCells$Cell;" ∈ lw_g := lw_gi 148 (by decide +kernel) (by decide +kernel)
theorem fl_X5_79 : Cond.fieldLink RX5 79 "RememberedCells$State" "cells" "[LRememberedCells$Cell;" ∈ lw_g := lw_gi 149 (by decide +kernel) (by decide +kernel)
theorem fl_X3_26 : Cond.fieldLink RX3 26 "RememberedCells$State" "revision" "I" ∈ lw_g := lw_gi 150 (by decide +kernel) (by decide +kernel)
theorem fl_X5_60 : Cond.fieldLink RX5 60 "RememberedCells$State" "revision" "I" ∈ lw_g := lw_gi 151 (by decide +kernel) (by decide +kernel)
theorem fl_X3_17 : Cond.fieldLink RX3 17 "RememberedCells$State" "bound" "I" ∈ lw_g := lw_gi 152 (by decide +kernel) (by decide +kernel)
theorem fl_X5_141 : Cond.fieldLink RX5 141 "RememberedCells$State" "bound" "I" ∈ lw_g := lw_gi 153 (by decide +kernel) (by decide +kernel)
theorem fl_X3_29 : Cond.fieldLink RX3 29 "RememberedCells$State" "workedOut" "I" ∈ lw_g := lw_gi 154 (by decide +kernel) (by decide +kernel)
theorem fl_X5_122 : Cond.fieldLink RX5 122 "RememberedCells$State" "workedOut" "I" ∈ lw_g := lw_gi 155 (by decide +kernel) (by decide +kernel)
theorem fl_X3_32 : Cond.fieldLink RX3 32 "RememberedCells$State" "kept" "I" ∈ lw_g := lw_gi 156 (by decide +kernel) (by decide +kernel)
theorem fl_X5_125 : Cond.fieldLink RX5 125 "RememberedCells$State" "kept" "I" ∈ lw_g := lw_gi 157 (by decide +kernel) (by decide +kernel)
theorem fl_X3_35 : Cond.fieldLink RX3 35 "RememberedCells$State" "taken" "I" ∈ lw_g := lw_gi 158 (by decide +kernel) (by decide +kernel)
theorem fl_X5_128 : Cond.fieldLink RX5 128 "RememberedCells$State" "taken" "I" ∈ lw_g := lw_gi 159 (by decide +kernel) (by decide +kernel)
theorem fl_X3_38 : Cond.fieldLink RX3 38 "RememberedCells$State" "forgotten" "I" ∈ lw_g := lw_gi 160 (by decide +kernel) (by decide +kernel)
theorem fl_X5_165 : Cond.fieldLink RX5 165 "RememberedCells$State" "forgotten" "I" ∈ lw_g := lw_gi 161 (by decide +kernel) (by decide +kernel)
theorem fl_X3_41 : Cond.fieldLink RX3 41 "RememberedCells$State" "same" "I" ∈ lw_g := lw_gi 162 (by decide +kernel) (by decide +kernel)
theorem fl_X5_168 : Cond.fieldLink RX5 168 "RememberedCells$State" "same" "I" ∈ lw_g := lw_gi 163 (by decide +kernel) (by decide +kernel)
theorem fl_X3_44 : Cond.fieldLink RX3 44 "RememberedCells$State" "uses" "I" ∈ lw_g := lw_gi 164 (by decide +kernel) (by decide +kernel)
theorem fl_X3_47 : Cond.fieldLink RX3 47 "RememberedCells$State" "lookedAt" "I" ∈ lw_g := lw_gi 165 (by decide +kernel) (by decide +kernel)
theorem fl_X5_214 : Cond.fieldLink RX5 214 "RememberedCells$State" "lookedAt" "I" ∈ lw_g := lw_gi 166 (by decide +kernel) (by decide +kernel)
theorem kl_X5_19 : Cond.classLink RX5 19 RX2 ∈ lw_g := lw_gi 188 (by decide +kernel) (by decide +kernel)
theorem ia_X2 : Cond.instantiable RX2 2 ∈ lw_g := lw_gi 189 (by decide +kernel) (by decide +kernel)
theorem ml_X5_21 : Cond.methodLink RX5 21 yX2_init ∈ lw_g := lw_gi 190 (by decide +kernel) (by decide +kernel)
theorem im_X2_init : Cond.instanceMethod yX2_init ∈ lw_g := lw_gi 191 (by decide +kernel) (by decide +kernel)
theorem co_X2_init : Cond.code yX2_init cX2_init 2 none ∈ lw_g := lw_gi 192 (by decide +kernel) (by decide +kernel)
theorem ml_X2_3 : Cond.methodLink RX2 3 objectInit ∈ lw_g := lw_gi 193 (by decide +kernel) (by decide +kernel)
theorem kl_X2_9 : Cond.classLink RX2 9 RX3 ∈ lw_g := lw_gi 194 (by decide +kernel) (by decide +kernel)
theorem ml_X2_17 : Cond.methodLink RX2 17 yX3_init ∈ lw_g := lw_gi 196 (by decide +kernel) (by decide +kernel)
theorem fl_X2_11 : Cond.fieldLink RX2 11 "RememberedCells$History" "states" "[LRememberedCells$State;" ∈ lw_g := lw_gi 197 (by decide +kernel) (by decide +kernel)
theorem fl_X2_18 : Cond.fieldLink RX2 18 "RememberedCells$History" "size" "I" ∈ lw_g := lw_gi 198 (by decide +kernel) (by decide +kernel)
theorem fl_X5_171 : Cond.fieldLink RX5 171 "RememberedCells$History" "size" "I" ∈ lw_g := lw_gi 199 (by decide +kernel) (by decide +kernel)
theorem kl_X5_26 : Cond.classLink RX5 26 RX4 ∈ lw_g := lw_gi 205 (by decide +kernel) (by decide +kernel)
theorem ia_X4 : Cond.instantiable RX4 5 ∈ lw_g := lw_gi 206 (by decide +kernel) (by decide +kernel)
theorem mn_X5_28 : Cond.methodLinkNest RX5 28 yX4_init RX5 ∈ lw_n := lw_ni 207 (by decide +kernel) (by decide +kernel)
theorem im_X4_init : Cond.instanceMethod yX4_init ∈ lw_g := lw_gi 208 (by decide +kernel) (by decide +kernel)
theorem co_X4_init : Cond.code yX4_init cX4_init 1 none ∈ lw_g := lw_gi 209 (by decide +kernel) (by decide +kernel)
theorem ml_X4_3 : Cond.methodLink RX4 3 objectInit ∈ lw_g := lw_gi 210 (by decide +kernel) (by decide +kernel)
theorem kl_X4_15 : Cond.classLink RX4 15 RX1 ∈ lw_g := lw_gi 211 (by decide +kernel) (by decide +kernel)
theorem mn_X4_17 : Cond.methodLinkNest RX4 17 yX1_init RX5 ∈ lw_n := lw_ni 212 (by decide +kernel) (by decide +kernel)
theorem fl_X4_9 : Cond.fieldLink RX4 9 "RememberedCells$Text" "characters" "[C" ∈ lw_g := lw_gi 213 (by decide +kernel) (by decide +kernel)
theorem fl_X4_22 : Cond.fieldLink RX4 22 "RememberedCells$Text" "length" "I" ∈ lw_g := lw_gi 214 (by decide +kernel) (by decide +kernel)
theorem fl_X5_174 : Cond.fieldLink RX5 174 "RememberedCells$Text" "length" "I" ∈ lw_g := lw_gi 215 (by decide +kernel) (by decide +kernel)
theorem fl_X4_26 : Cond.fieldLink RX4 26 "RememberedCells$Text" "at" "I" ∈ lw_g := lw_gi 216 (by decide +kernel) (by decide +kernel)
theorem fl_X5_191 : Cond.fieldLink RX5 191 "RememberedCells$Text" "at" "I" ∈ lw_g := lw_gi 217 (by decide +kernel) (by decide +kernel)
theorem fl_X4_43 : Cond.fieldLink RX4 43 "RememberedCells$Text" "cell" "I" ∈ lw_g := lw_gi 218 (by decide +kernel) (by decide +kernel)
theorem fl_X5_204 : Cond.fieldLink RX5 204 "RememberedCells$Text" "cell" "I" ∈ lw_g := lw_gi 219 (by decide +kernel) (by decide +kernel)
theorem fl_X4_18 : Cond.fieldLink RX4 18 "RememberedCells$Text" "definition" "LRememberedCells$Definition;" ∈ lw_g := lw_gi 220 (by decide +kernel) (by decide +kernel)
theorem fl_X5_207 : Cond.fieldLink RX5 207 "RememberedCells$Text" "definition" "LRememberedCells$Definition;" ∈ lw_g := lw_gi 221 (by decide +kernel) (by decide +kernel)
theorem ac_char : Cond.arrayClass .char ∈ lw_g := lw_gi 233 (by decide +kernel) (by decide +kernel)
theorem kl_X5_33 : Cond.classLink RX5 33 RX1 ∈ lw_g := lw_gi 234 (by decide +kernel) (by decide +kernel)
theorem mn_X5_35 : Cond.methodLinkNest RX5 35 yX1_init RX5 ∈ lw_n := lw_ni 235 (by decide +kernel) (by decide +kernel)
theorem fl_X5_10 : Cond.fieldLink RX5 10 "RememberedCells" "present" "LRememberedCells$State;" ∈ lw_g := lw_gi 236 (by decide +kernel) (by decide +kernel)
theorem fl_X5_16 : Cond.fieldLink RX5 16 "RememberedCells" "trial" "LRememberedCells$State;" ∈ lw_g := lw_gi 237 (by decide +kernel) (by decide +kernel)
theorem fl_X5_22 : Cond.fieldLink RX5 22 "RememberedCells" "history" "LRememberedCells$History;" ∈ lw_g := lw_gi 238 (by decide +kernel) (by decide +kernel)
theorem fl_X5_29 : Cond.fieldLink RX5 29 "RememberedCells" "text" "LRememberedCells$Text;" ∈ lw_g := lw_gi 239 (by decide +kernel) (by decide +kernel)
theorem fl_X5_36 : Cond.fieldLink RX5 36 "RememberedCells" "given" "LRememberedCells$Definition;" ∈ lw_g := lw_gi 240 (by decide +kernel) (by decide +kernel)
theorem ml_L_13 : Cond.methodLink RL 13 yX5_define ∈ lw_g := lw_gi 252 (by decide +kernel) (by decide +kernel)
theorem im_X5_define : Cond.instanceMethod yX5_define ∈ lw_g := lw_gi 253 (by decide +kernel) (by decide +kernel)
theorem se_X5_define : Cond.selects RX5 yX5_define yX5_define ∈ lw_g := lw_gi 254 (by decide +kernel) (by decide +kernel)
theorem co_X5_define : Cond.code yX5_define cX5_define 3 (some .int) ∈ lw_g := lw_gi 255 (by decide +kernel) (by decide +kernel)
theorem ml_X5_40 : Cond.methodLink RX5 40 yX5_isCell ∈ lw_g := lw_gi 256 (by decide +kernel) (by decide +kernel)
theorem st_X5_isCell : Cond.static yX5_isCell ∈ lw_g := lw_gi 257 (by decide +kernel) (by decide +kernel)
theorem co_X5_isCell : Cond.code yX5_isCell cX5_isCell 1 (some .boolean) ∈ lw_g := lw_gi 258 (by decide +kernel) (by decide +kernel)
theorem ml_X5_75 : Cond.methodLink RX5 75 yX5_isWithin ∈ lw_g := lw_gi 259 (by decide +kernel) (by decide +kernel)
theorem st_X5_isWithin : Cond.static yX5_isWithin ∈ lw_g := lw_gi 260 (by decide +kernel) (by decide +kernel)
theorem co_X5_isWithin : Cond.code yX5_isWithin cX5_isWithin 3 (some .boolean) ∈ lw_g := lw_gi 261 (by decide +kernel) (by decide +kernel)
theorem ml_X5_44 : Cond.methodLink RX5 44 yX5_isValue ∈ lw_g := lw_gi 262 (by decide +kernel) (by decide +kernel)
theorem st_X5_isValue : Cond.static yX5_isValue ∈ lw_g := lw_gi 263 (by decide +kernel) (by decide +kernel)
theorem co_X5_isValue : Cond.code yX5_isValue cX5_isValue 1 (some .boolean) ∈ lw_g := lw_gi 264 (by decide +kernel) (by decide +kernel)
theorem cn_X5_208 : Cond.constant RX5 208 (-99999) ∈ lw_g := lw_gi 265 (by decide +kernel) (by decide +kernel)
theorem cn_X5_209 : Cond.constant RX5 209 (99999) ∈ lw_g := lw_gi 266 (by decide +kernel) (by decide +kernel)
theorem cn_X5_47 : Cond.constant RX5 47 (-2000000001) ∈ lw_g := lw_gi 267 (by decide +kernel) (by decide +kernel)
theorem ml_X5_48 : Cond.methodLink RX5 48 yX2_record ∈ lw_g := lw_gi 268 (by decide +kernel) (by decide +kernel)
theorem im_X2_record : Cond.instanceMethod yX2_record ∈ lw_g := lw_gi 269 (by decide +kernel) (by decide +kernel)
theorem se_X2_record : Cond.selects RX2 yX2_record yX2_record ∈ lw_g := lw_gi 270 (by decide +kernel) (by decide +kernel)
theorem co_X2_record : Cond.code yX2_record cX2_record 2 none ∈ lw_g := lw_gi 271 (by decide +kernel) (by decide +kernel)
theorem ml_X2_22 : Cond.methodLink RX2 22 yX2_dropOldest ∈ lw_g := lw_gi 272 (by decide +kernel) (by decide +kernel)
theorem im_X2_dropOldest : Cond.instanceMethod yX2_dropOldest ∈ lw_g := lw_gi 274 (by decide +kernel) (by decide +kernel)
theorem co_X2_dropOldest : Cond.code yX2_dropOldest cX2_dropOldest 3 none ∈ lw_g := lw_gi 275 (by decide +kernel) (by decide +kernel)
theorem ml_X2_25 : Cond.methodLink RX2 25 yX3_copy ∈ lw_g := lw_gi 276 (by decide +kernel) (by decide +kernel)
theorem im_X3_copy : Cond.instanceMethod yX3_copy ∈ lw_g := lw_gi 277 (by decide +kernel) (by decide +kernel)
theorem se_X3_copy : Cond.selects RX3 yX3_copy yX3_copy ∈ lw_g := lw_gi 278 (by decide +kernel) (by decide +kernel)
theorem co_X3_copy : Cond.code yX3_copy cX3_copy 3 none ∈ lw_g := lw_gi 279 (by decide +kernel) (by decide +kernel)
theorem ml_X3_22 : Cond.methodLink RX3 22 yX0_copy ∈ lw_g := lw_gi 280 (by decide +kernel) (by decide +kernel)
theorem im_X0_copy : Cond.instanceMethod yX0_copy ∈ lw_g := lw_gi 281 (by decide +kernel) (by decide +kernel)
theorem se_X0_copy : Cond.selects RX0 yX0_copy yX0_copy ∈ lw_g := lw_gi 282 (by decide +kernel) (by decide +kernel)
theorem co_X0_copy : Cond.code yX0_copy cX0_copy 2 none ∈ lw_g := lw_gi 283 (by decide +kernel) (by decide +kernel)
theorem ml_X0_22 : Cond.methodLink RX0 22 yX1_copy ∈ lw_g := lw_gi 284 (by decide +kernel) (by decide +kernel)
theorem im_X1_copy : Cond.instanceMethod yX1_copy ∈ lw_g := lw_gi 285 (by decide +kernel) (by decide +kernel)
theorem se_X1_copy : Cond.selects RX1 yX1_copy yX1_copy ∈ lw_g := lw_gi 286 (by decide +kernel) (by decide +kernel)
theorem co_X1_copy : Cond.code yX1_copy cX1_copy 2 none ∈ lw_g := lw_gi 287 (by decide +kernel) (by decide +kernel)
theorem ml_X5_52 : Cond.methodLink RX5 52 yX1_setValue ∈ lw_g := lw_gi 288 (by decide +kernel) (by decide +kernel)
theorem im_X1_setValue : Cond.instanceMethod yX1_setValue ∈ lw_g := lw_gi 289 (by decide +kernel) (by decide +kernel)
theorem se_X1_setValue : Cond.selects RX1 yX1_setValue yX1_setValue ∈ lw_g := lw_gi 290 (by decide +kernel) (by decide +kernel)
theorem co_X1_setValue : Cond.code yX1_setValue cX1_setValue 2 none ∈ lw_g := lw_gi 291 (by decide +kernel) (by decide +kernel)
theorem ml_X5_56 : Cond.methodLink RX5 56 yX3_redefine ∈ lw_g := lw_gi 292 (by decide +kernel) (by decide +kernel)
theorem im_X3_redefine : Cond.instanceMethod yX3_redefine ∈ lw_g := lw_gi 293 (by decide +kernel) (by decide +kernel)
theorem se_X3_redefine : Cond.selects RX3 yX3_redefine yX3_redefine ∈ lw_g := lw_gi 294 (by decide +kernel) (by decide +kernel)
theorem co_X3_redefine : Cond.code yX3_redefine cX3_redefine 4 none ∈ lw_g := lw_gi 295 (by decide +kernel) (by decide +kernel)
theorem ml_X3_54 : Cond.methodLink RX3 54 yX1_isLike ∈ lw_g := lw_gi 296 (by decide +kernel) (by decide +kernel)
theorem im_X1_isLike : Cond.instanceMethod yX1_isLike ∈ lw_g := lw_gi 297 (by decide +kernel) (by decide +kernel)
theorem se_X1_isLike : Cond.selects RX1 yX1_isLike yX1_isLike ∈ lw_g := lw_gi 298 (by decide +kernel) (by decide +kernel)
theorem co_X1_isLike : Cond.code yX1_isLike cX1_isLike 2 (some .boolean) ∈ lw_g := lw_gi 299 (by decide +kernel) (by decide +kernel)
theorem ml_X3_60 : Cond.methodLink RX3 60 yX1_copy ∈ lw_g := lw_gi 300 (by decide +kernel) (by decide +kernel)
theorem ml_L_18 : Cond.methodLink RL 18 yX5_formula ∈ lw_g := lw_gi 301 (by decide +kernel) (by decide +kernel)
theorem im_X5_formula : Cond.instanceMethod yX5_formula ∈ lw_g := lw_gi 302 (by decide +kernel) (by decide +kernel)
theorem se_X5_formula : Cond.selects RX5 yX5_formula yX5_formula ∈ lw_g := lw_gi 303 (by decide +kernel) (by decide +kernel)
theorem co_X5_formula : Cond.code yX5_formula cX5_formula 6 (some .int) ∈ lw_g := lw_gi 304 (by decide +kernel) (by decide +kernel)
theorem ml_X5_64 : Cond.methodLink RX5 64 yX5_isKind ∈ lw_g := lw_gi 305 (by decide +kernel) (by decide +kernel)
theorem st_X5_isKind : Cond.static yX5_isKind ∈ lw_g := lw_gi 306 (by decide +kernel) (by decide +kernel)
theorem co_X5_isKind : Cond.code yX5_isKind cX5_isKind 1 (some .boolean) ∈ lw_g := lw_gi 307 (by decide +kernel) (by decide +kernel)
theorem ml_X5_67 : Cond.methodLink RX5 67 yX5_isThird ∈ lw_g := lw_gi 308 (by decide +kernel) (by decide +kernel)
theorem st_X5_isThird : Cond.static yX5_isThird ∈ lw_g := lw_gi 309 (by decide +kernel) (by decide +kernel)
theorem co_X5_isThird : Cond.code yX5_isThird cX5_isThird 2 (some .boolean) ∈ lw_g := lw_gi 310 (by decide +kernel) (by decide +kernel)
theorem ml_X5_71 : Cond.methodLink RX5 71 yX1_setFormula ∈ lw_g := lw_gi 311 (by decide +kernel) (by decide +kernel)
theorem im_X1_setFormula : Cond.instanceMethod yX1_setFormula ∈ lw_g := lw_gi 312 (by decide +kernel) (by decide +kernel)
theorem se_X1_setFormula : Cond.selects RX1 yX1_setFormula yX1_setFormula ∈ lw_g := lw_gi 313 (by decide +kernel) (by decide +kernel)
theorem co_X1_setFormula : Cond.code yX1_setFormula cX1_setFormula 5 none ∈ lw_g := lw_gi 314 (by decide +kernel) (by decide +kernel)
theorem ml_L_23 : Cond.methodLink RL 23 yX5_cellOf ∈ lw_g := lw_gi 315 (by decide +kernel) (by decide +kernel)
theorem im_X5_cellOf : Cond.instanceMethod yX5_cellOf ∈ lw_g := lw_gi 316 (by decide +kernel) (by decide +kernel)
theorem se_X5_cellOf : Cond.selects RX5 yX5_cellOf yX5_cellOf ∈ lw_g := lw_gi 317 (by decide +kernel) (by decide +kernel)
theorem co_X5_cellOf : Cond.code yX5_cellOf cX5_cellOf 5 (some .int) ∈ lw_g := lw_gi 318 (by decide +kernel) (by decide +kernel)
theorem cn_X5_91 : Cond.constant RX5 91 (-2000000004) ∈ lw_g := lw_gi 319 (by decide +kernel) (by decide +kernel)
theorem ml_L_27 : Cond.methodLink RL 27 yX5_ask ∈ lw_g := lw_gi 320 (by decide +kernel) (by decide +kernel)
theorem im_X5_ask : Cond.instanceMethod yX5_ask ∈ lw_g := lw_gi 321 (by decide +kernel) (by decide +kernel)
theorem se_X5_ask : Cond.selects RX5 yX5_ask yX5_ask ∈ lw_g := lw_gi 322 (by decide +kernel) (by decide +kernel)
theorem co_X5_ask : Cond.code yX5_ask cX5_ask 3 (some .int) ∈ lw_g := lw_gi 323 (by decide +kernel) (by decide +kernel)
theorem ml_X5_104 : Cond.methodLink RX5 104 yX3_copy ∈ lw_g := lw_gi 324 (by decide +kernel) (by decide +kernel)
theorem ml_X5_107 : Cond.methodLink RX5 107 yX3_lookAt ∈ lw_g := lw_gi 325 (by decide +kernel) (by decide +kernel)
theorem im_X3_lookAt : Cond.instanceMethod yX3_lookAt ∈ lw_g := lw_gi 326 (by decide +kernel) (by decide +kernel)
theorem se_X3_lookAt : Cond.selects RX3 yX3_lookAt yX3_lookAt ∈ lw_g := lw_gi 327 (by decide +kernel) (by decide +kernel)
theorem co_X3_lookAt : Cond.code yX3_lookAt cX3_lookAt 2 (some .boolean) ∈ lw_g := lw_gi 328 (by decide +kernel) (by decide +kernel)
theorem ml_X3_84 : Cond.methodLink RX3 84 yX3_look ∈ lw_g := lw_gi 329 (by decide +kernel) (by decide +kernel)
theorem im_X3_look : Cond.instanceMethod yX3_look ∈ lw_g := lw_gi 331 (by decide +kernel) (by decide +kernel)
theorem co_X3_look : Cond.code yX3_look cX3_look 5 (some .int) ∈ lw_g := lw_gi 332 (by decide +kernel) (by decide +kernel)
theorem ml_X3_97 : Cond.methodLink RX3 97 yX3_bringUpToDate ∈ lw_g := lw_gi 333 (by decide +kernel) (by decide +kernel)
theorem im_X3_bringUpToDate : Cond.instanceMethod yX3_bringUpToDate ∈ lw_g := lw_gi 335 (by decide +kernel) (by decide +kernel)
theorem co_X3_bringUpToDate : Cond.code yX3_bringUpToDate cX3_bringUpToDate 4 (some .boolean) ∈ lw_g := lw_gi 336 (by decide +kernel) (by decide +kernel)
theorem ml_X3_101 : Cond.methodLink RX3 101 yX3_workOut ∈ lw_g := lw_gi 337 (by decide +kernel) (by decide +kernel)
theorem im_X3_workOut : Cond.instanceMethod yX3_workOut ∈ lw_g := lw_gi 339 (by decide +kernel) (by decide +kernel)
theorem co_X3_workOut : Cond.code yX3_workOut cX3_workOut 6 (some .boolean) ∈ lw_g := lw_gi 340 (by decide +kernel) (by decide +kernel)
theorem ml_X3_114 : Cond.methodLink RX3 114 yX0_told ∈ lw_g := lw_gi 341 (by decide +kernel) (by decide +kernel)
theorem im_X0_told : Cond.instanceMethod yX0_told ∈ lw_g := lw_gi 342 (by decide +kernel) (by decide +kernel)
theorem se_X0_told : Cond.selects RX0 yX0_told yX0_told ∈ lw_g := lw_gi 343 (by decide +kernel) (by decide +kernel)
theorem co_X0_told : Cond.code yX0_told cX0_told 1 (some .int) ∈ lw_g := lw_gi 344 (by decide +kernel) (by decide +kernel)
theorem ml_X3_117 : Cond.methodLink RX3 117 yX1_secondFor ∈ lw_g := lw_gi 345 (by decide +kernel) (by decide +kernel)
theorem im_X1_secondFor : Cond.instanceMethod yX1_secondFor ∈ lw_g := lw_gi 346 (by decide +kernel) (by decide +kernel)
theorem se_X1_secondFor : Cond.selects RX1 yX1_secondFor yX1_secondFor ∈ lw_g := lw_gi 347 (by decide +kernel) (by decide +kernel)
theorem co_X1_secondFor : Cond.code yX1_secondFor cX1_secondFor 2 (some .int) ∈ lw_g := lw_gi 348 (by decide +kernel) (by decide +kernel)
theorem cn_X1_27 : Cond.constant RX1 27 (2000000000) ∈ lw_g := lw_gi 349 (by decide +kernel) (by decide +kernel)
theorem cn_X3_121 : Cond.constant RX3 121 (2000000000) ∈ lw_g := lw_gi 350 (by decide +kernel) (by decide +kernel)
theorem ml_X3_122 : Cond.methodLink RX3 122 yX3_remember ∈ lw_g := lw_gi 351 (by decide +kernel) (by decide +kernel)
theorem im_X3_remember : Cond.instanceMethod yX3_remember ∈ lw_g := lw_gi 353 (by decide +kernel) (by decide +kernel)
theorem co_X3_remember : Cond.code yX3_remember cX3_remember 4 none ∈ lw_g := lw_gi 354 (by decide +kernel) (by decide +kernel)
theorem ml_X3_126 : Cond.methodLink RX3 126 yX1_give ∈ lw_g := lw_gi 355 (by decide +kernel) (by decide +kernel)
theorem im_X1_give : Cond.instanceMethod yX1_give ∈ lw_g := lw_gi 356 (by decide +kernel) (by decide +kernel)
theorem se_X1_give : Cond.selects RX1 yX1_give yX1_give ∈ lw_g := lw_gi 357 (by decide +kernel) (by decide +kernel)
theorem co_X1_give : Cond.code yX1_give cX1_give 5 (some .int) ∈ lw_g := lw_gi 358 (by decide +kernel) (by decide +kernel)
theorem ml_X1_28 : Cond.methodLink RX1 28 Lib.Math.max.name ∈ lw_g := lw_gi 359 (by decide +kernel) (by decide +kernel)
theorem st_J9_max_7cf53 : Cond.static Lib.Math.max.name ∈ lw_g := lw_gi 360 (by decide +kernel) (by decide +kernel)
theorem co_J9_max_7cf53 : Cond.code Lib.Math.max.name Lib.Math.max.code 2 (some .int) ∈ lw_g := lw_gi 361 (by decide +kernel) (by decide +kernel)
theorem cl_X1_34 : Cond.constantLong RX1 34 (-1000000000) ∈ lw_g := lw_gi 362 (by decide +kernel) (by decide +kernel)
theorem cl_X1_36 : Cond.constantLong RX1 36 (1000000000) ∈ lw_g := lw_gi 363 (by decide +kernel) (by decide +kernel)
theorem ml_X3_104 : Cond.methodLink RX3 104 yX3_lookForChange ∈ lw_g := lw_gi 364 (by decide +kernel) (by decide +kernel)
theorem im_X3_lookForChange : Cond.instanceMethod yX3_lookForChange ∈ lw_g := lw_gi 366 (by decide +kernel) (by decide +kernel)
theorem co_X3_lookForChange : Cond.code yX3_lookForChange cX3_lookForChange 4 (some .int) ∈ lw_g := lw_gi 367 (by decide +kernel) (by decide +kernel)
theorem cn_X5_110 : Cond.constant RX5 110 (-2000000002) ∈ lw_g := lw_gi 368 (by decide +kernel) (by decide +kernel)
theorem ml_X5_111 : Cond.methodLink RX5 111 yX0_told ∈ lw_g := lw_gi 369 (by decide +kernel) (by decide +kernel)
theorem ml_X5_115 : Cond.methodLink RX5 115 yX3_forgetBeyondBound ∈ lw_g := lw_gi 370 (by decide +kernel) (by decide +kernel)
theorem im_X3_forgetBeyondBound : Cond.instanceMethod yX3_forgetBeyondBound ∈ lw_g := lw_gi 371 (by decide +kernel) (by decide +kernel)
theorem se_X3_forgetBeyondBound : Cond.selects RX3 yX3_forgetBeyondBound yX3_forgetBeyondBound ∈ lw_g := lw_gi 372 (by decide +kernel) (by decide +kernel)
theorem co_X3_forgetBeyondBound : Cond.code yX3_forgetBeyondBound cX3_forgetBeyondBound 3 none ∈ lw_g := lw_gi 373 (by decide +kernel) (by decide +kernel)
theorem ml_X3_73 : Cond.methodLink RX3 73 yX3_rememberedAnswers ∈ lw_g := lw_gi 374 (by decide +kernel) (by decide +kernel)
theorem im_X3_rememberedAnswers : Cond.instanceMethod yX3_rememberedAnswers ∈ lw_g := lw_gi 375 (by decide +kernel) (by decide +kernel)
theorem se_X3_rememberedAnswers : Cond.selects RX3 yX3_rememberedAnswers yX3_rememberedAnswers ∈ lw_g := lw_gi 376 (by decide +kernel) (by decide +kernel)
theorem co_X3_rememberedAnswers : Cond.code yX3_rememberedAnswers cX3_rememberedAnswers 3 (some .int) ∈ lw_g := lw_gi 377 (by decide +kernel) (by decide +kernel)
theorem ml_X3_77 : Cond.methodLink RX3 77 yX3_forgetOldest ∈ lw_g := lw_gi 378 (by decide +kernel) (by decide +kernel)
theorem im_X3_forgetOldest : Cond.instanceMethod yX3_forgetOldest ∈ lw_g := lw_gi 380 (by decide +kernel) (by decide +kernel)
theorem co_X3_forgetOldest : Cond.code yX3_forgetOldest cX3_forgetOldest 3 none ∈ lw_g := lw_gi 381 (by decide +kernel) (by decide +kernel)
theorem ml_X3_80 : Cond.methodLink RX3 80 yX3_forgetAnswer ∈ lw_g := lw_gi 382 (by decide +kernel) (by decide +kernel)
theorem im_X3_forgetAnswer : Cond.instanceMethod yX3_forgetAnswer ∈ lw_g := lw_gi 383 (by decide +kernel) (by decide +kernel)
theorem se_X3_forgetAnswer : Cond.selects RX3 yX3_forgetAnswer yX3_forgetAnswer ∈ lw_g := lw_gi 384 (by decide +kernel) (by decide +kernel)
theorem co_X3_forgetAnswer : Cond.code yX3_forgetAnswer cX3_forgetAnswer 2 none ∈ lw_g := lw_gi 385 (by decide +kernel) (by decide +kernel)
theorem ml_L_32 : Cond.methodLink RL 32 yX5_fresh ∈ lw_g := lw_gi 386 (by decide +kernel) (by decide +kernel)
theorem im_X5_fresh : Cond.instanceMethod yX5_fresh ∈ lw_g := lw_gi 387 (by decide +kernel) (by decide +kernel)
theorem se_X5_fresh : Cond.selects RX5 yX5_fresh yX5_fresh ∈ lw_g := lw_gi 388 (by decide +kernel) (by decide +kernel)
theorem co_X5_fresh : Cond.code yX5_fresh cX5_fresh 2 (some .int) ∈ lw_g := lw_gi 389 (by decide +kernel) (by decide +kernel)
theorem ml_X5_118 : Cond.methodLink RX5 118 yX5_answerAfresh ∈ lw_g := lw_gi 390 (by decide +kernel) (by decide +kernel)
theorem im_X5_answerAfresh : Cond.instanceMethod yX5_answerAfresh ∈ lw_g := lw_gi 392 (by decide +kernel) (by decide +kernel)
theorem co_X5_answerAfresh : Cond.code yX5_answerAfresh cX5_answerAfresh 3 (some .int) ∈ lw_g := lw_gi 393 (by decide +kernel) (by decide +kernel)
theorem ml_X5_210 : Cond.methodLink RX5 210 yX3_dropAnswers ∈ lw_g := lw_gi 394 (by decide +kernel) (by decide +kernel)
theorem im_X3_dropAnswers : Cond.instanceMethod yX3_dropAnswers ∈ lw_g := lw_gi 395 (by decide +kernel) (by decide +kernel)
theorem se_X3_dropAnswers : Cond.selects RX3 yX3_dropAnswers yX3_dropAnswers ∈ lw_g := lw_gi 396 (by decide +kernel) (by decide +kernel)
theorem co_X3_dropAnswers : Cond.code yX3_dropAnswers cX3_dropAnswers 2 none ∈ lw_g := lw_gi 397 (by decide +kernel) (by decide +kernel)
theorem cn_X5_213 : Cond.constant RX5 213 (2000000000) ∈ lw_g := lw_gi 398 (by decide +kernel) (by decide +kernel)
theorem cn_X5_180 : Cond.constant RX5 180 (-2000000003) ∈ lw_g := lw_gi 399 (by decide +kernel) (by decide +kernel)
theorem ml_L_36 : Cond.methodLink RL 36 yX5_cost ∈ lw_g := lw_gi 400 (by decide +kernel) (by decide +kernel)
theorem im_X5_cost : Cond.instanceMethod yX5_cost ∈ lw_g := lw_gi 401 (by decide +kernel) (by decide +kernel)
theorem se_X5_cost : Cond.selects RX5 yX5_cost yX5_cost ∈ lw_g := lw_gi 402 (by decide +kernel) (by decide +kernel)
theorem co_X5_cost : Cond.code yX5_cost cX5_cost 3 (some .int) ∈ lw_g := lw_gi 403 (by decide +kernel) (by decide +kernel)
theorem ml_L_40 : Cond.methodLink RL 40 yX5_forget ∈ lw_g := lw_gi 404 (by decide +kernel) (by decide +kernel)
theorem im_X5_forget : Cond.instanceMethod yX5_forget ∈ lw_g := lw_gi 405 (by decide +kernel) (by decide +kernel)
theorem se_X5_forget : Cond.selects RX5 yX5_forget yX5_forget ∈ lw_g := lw_gi 406 (by decide +kernel) (by decide +kernel)
theorem co_X5_forget : Cond.code yX5_forget cX5_forget 2 (some .int) ∈ lw_g := lw_gi 407 (by decide +kernel) (by decide +kernel)
theorem ml_X5_135 : Cond.methodLink RX5 135 yX3_forgetAnswer ∈ lw_g := lw_gi 408 (by decide +kernel) (by decide +kernel)
theorem ml_X5_138 : Cond.methodLink RX5 138 yX3_rememberedAnswers ∈ lw_g := lw_gi 409 (by decide +kernel) (by decide +kernel)
theorem ml_L_44 : Cond.methodLink RL 44 yX5_bound ∈ lw_g := lw_gi 410 (by decide +kernel) (by decide +kernel)
theorem im_X5_bound : Cond.instanceMethod yX5_bound ∈ lw_g := lw_gi 411 (by decide +kernel) (by decide +kernel)
theorem se_X5_bound : Cond.selects RX5 yX5_bound yX5_bound ∈ lw_g := lw_gi 412 (by decide +kernel) (by decide +kernel)
theorem co_X5_bound : Cond.code yX5_bound cX5_bound 3 (some .int) ∈ lw_g := lw_gi 413 (by decide +kernel) (by decide +kernel)
theorem ml_L_48 : Cond.methodLink RL 48 yX5_rememberedOf ∈ lw_g := lw_gi 414 (by decide +kernel) (by decide +kernel)
theorem im_X5_rememberedOf : Cond.instanceMethod yX5_rememberedOf ∈ lw_g := lw_gi 415 (by decide +kernel) (by decide +kernel)
theorem se_X5_rememberedOf : Cond.selects RX5 yX5_rememberedOf yX5_rememberedOf ∈ lw_g := lw_gi 416 (by decide +kernel) (by decide +kernel)
theorem co_X5_rememberedOf : Cond.code yX5_rememberedOf cX5_rememberedOf 4 (some .int) ∈ lw_g := lw_gi 417 (by decide +kernel) (by decide +kernel)
theorem ml_X5_156 : Cond.methodLink RX5 156 yX3_placeOf ∈ lw_g := lw_gi 418 (by decide +kernel) (by decide +kernel)
theorem im_X3_placeOf : Cond.instanceMethod yX3_placeOf ∈ lw_g := lw_gi 419 (by decide +kernel) (by decide +kernel)
theorem se_X3_placeOf : Cond.selects RX3 yX3_placeOf yX3_placeOf ∈ lw_g := lw_gi 420 (by decide +kernel) (by decide +kernel)
theorem co_X3_placeOf : Cond.code yX3_placeOf cX3_placeOf 4 (some .int) ∈ lw_g := lw_gi 421 (by decide +kernel) (by decide +kernel)
theorem ml_L_52 : Cond.methodLink RL 52 yX5_which ∈ lw_g := lw_gi 422 (by decide +kernel) (by decide +kernel)
theorem im_X5_which : Cond.instanceMethod yX5_which ∈ lw_g := lw_gi 423 (by decide +kernel) (by decide +kernel)
theorem se_X5_which : Cond.selects RX5 yX5_which yX5_which ∈ lw_g := lw_gi 424 (by decide +kernel) (by decide +kernel)
theorem co_X5_which : Cond.code yX5_which cX5_which 4 (some .int) ∈ lw_g := lw_gi 425 (by decide +kernel) (by decide +kernel)
theorem ml_X5_159 : Cond.methodLink RX5 159 yX5_isOneOf ∈ lw_g := lw_gi 426 (by decide +kernel) (by decide +kernel)
theorem im_X5_isOneOf : Cond.instanceMethod yX5_isOneOf ∈ lw_g := lw_gi 428 (by decide +kernel) (by decide +kernel)
theorem co_X5_isOneOf : Cond.code yX5_isOneOf cX5_isOneOf 4 (some .boolean) ∈ lw_g := lw_gi 429 (by decide +kernel) (by decide +kernel)
theorem ml_L_56 : Cond.methodLink RL 56 yX5_used ∈ lw_g := lw_gi 430 (by decide +kernel) (by decide +kernel)
theorem im_X5_used : Cond.instanceMethod yX5_used ∈ lw_g := lw_gi 431 (by decide +kernel) (by decide +kernel)
theorem se_X5_used : Cond.selects RX5 yX5_used yX5_used ∈ lw_g := lw_gi 432 (by decide +kernel) (by decide +kernel)
theorem co_X5_used : Cond.code yX5_used cX5_used 2 (some .int) ∈ lw_g := lw_gi 433 (by decide +kernel) (by decide +kernel)
theorem ml_X5_162 : Cond.methodLink RX5 162 yX5_usedAfresh ∈ lw_g := lw_gi 434 (by decide +kernel) (by decide +kernel)
theorem im_X5_usedAfresh : Cond.instanceMethod yX5_usedAfresh ∈ lw_g := lw_gi 436 (by decide +kernel) (by decide +kernel)
theorem co_X5_usedAfresh : Cond.code yX5_usedAfresh cX5_usedAfresh 2 (some .int) ∈ lw_g := lw_gi 437 (by decide +kernel) (by decide +kernel)
theorem ml_L_60 : Cond.methodLink RL 60 yX5_usedBy ∈ lw_g := lw_gi 438 (by decide +kernel) (by decide +kernel)
theorem im_X5_usedBy : Cond.instanceMethod yX5_usedBy ∈ lw_g := lw_gi 439 (by decide +kernel) (by decide +kernel)
theorem se_X5_usedBy : Cond.selects RX5 yX5_usedBy yX5_usedBy ∈ lw_g := lw_gi 440 (by decide +kernel) (by decide +kernel)
theorem co_X5_usedBy : Cond.code yX5_usedBy cX5_usedBy 5 (some .int) ∈ lw_g := lw_gi 441 (by decide +kernel) (by decide +kernel)
theorem ml_L_64 : Cond.methodLink RL 64 yX5_would ∈ lw_g := lw_gi 442 (by decide +kernel) (by decide +kernel)
theorem im_X5_would : Cond.instanceMethod yX5_would ∈ lw_g := lw_gi 443 (by decide +kernel) (by decide +kernel)
theorem se_X5_would : Cond.selects RX5 yX5_would yX5_would ∈ lw_g := lw_gi 444 (by decide +kernel) (by decide +kernel)
theorem co_X5_would : Cond.code yX5_would cX5_would 4 (some .int) ∈ lw_g := lw_gi 445 (by decide +kernel) (by decide +kernel)
theorem ml_L_69 : Cond.methodLink RL 69 yX5_count ∈ lw_g := lw_gi 446 (by decide +kernel) (by decide +kernel)
theorem im_X5_count : Cond.instanceMethod yX5_count ∈ lw_g := lw_gi 447 (by decide +kernel) (by decide +kernel)
theorem se_X5_count : Cond.selects RX5 yX5_count yX5_count ∈ lw_g := lw_gi 448 (by decide +kernel) (by decide +kernel)
theorem co_X5_count : Cond.code yX5_count cX5_count 2 (some .int) ∈ lw_g := lw_gi 449 (by decide +kernel) (by decide +kernel)
theorem ml_L_73 : Cond.methodLink RL 73 yX5_undo ∈ lw_g := lw_gi 450 (by decide +kernel) (by decide +kernel)
theorem im_X5_undo : Cond.instanceMethod yX5_undo ∈ lw_g := lw_gi 451 (by decide +kernel) (by decide +kernel)
theorem se_X5_undo : Cond.selects RX5 yX5_undo yX5_undo ∈ lw_g := lw_gi 452 (by decide +kernel) (by decide +kernel)
theorem co_X5_undo : Cond.code yX5_undo cX5_undo 1 (some .int) ∈ lw_g := lw_gi 453 (by decide +kernel) (by decide +kernel)
theorem ml_X5_177 : Cond.methodLink RX5 177 yX2_restoreLatestTo ∈ lw_g := lw_gi 454 (by decide +kernel) (by decide +kernel)
theorem im_X2_restoreLatestTo : Cond.instanceMethod yX2_restoreLatestTo ∈ lw_g := lw_gi 455 (by decide +kernel) (by decide +kernel)
theorem se_X2_restoreLatestTo : Cond.selects RX2 yX2_restoreLatestTo yX2_restoreLatestTo ∈ lw_g := lw_gi 456 (by decide +kernel) (by decide +kernel)
theorem co_X2_restoreLatestTo : Cond.code yX2_restoreLatestTo cX2_restoreLatestTo 2 none ∈ lw_g := lw_gi 457 (by decide +kernel) (by decide +kernel)
theorem ml_L_78 : Cond.methodLink RL 78 yX5_type ∈ lw_g := lw_gi 458 (by decide +kernel) (by decide +kernel)
theorem im_X5_type : Cond.instanceMethod yX5_type ∈ lw_g := lw_gi 459 (by decide +kernel) (by decide +kernel)
theorem se_X5_type : Cond.selects RX5 yX5_type yX5_type ∈ lw_g := lw_gi 460 (by decide +kernel) (by decide +kernel)
theorem co_X5_type : Cond.code yX5_type cX5_type 2 (some .int) ∈ lw_g := lw_gi 461 (by decide +kernel) (by decide +kernel)
theorem ml_X5_181 : Cond.methodLink RX5 181 yX4_append ∈ lw_g := lw_gi 462 (by decide +kernel) (by decide +kernel)
theorem im_X4_append : Cond.instanceMethod yX4_append ∈ lw_g := lw_gi 463 (by decide +kernel) (by decide +kernel)
theorem se_X4_append : Cond.selects RX4 yX4_append yX4_append ∈ lw_g := lw_gi 464 (by decide +kernel) (by decide +kernel)
theorem co_X4_append : Cond.code yX4_append cX4_append 2 none ∈ lw_g := lw_gi 465 (by decide +kernel) (by decide +kernel)
theorem ml_L_82 : Cond.methodLink RL 82 yX5_clearText ∈ lw_g := lw_gi 466 (by decide +kernel) (by decide +kernel)
theorem im_X5_clearText : Cond.instanceMethod yX5_clearText ∈ lw_g := lw_gi 467 (by decide +kernel) (by decide +kernel)
theorem se_X5_clearText : Cond.selects RX5 yX5_clearText yX5_clearText ∈ lw_g := lw_gi 468 (by decide +kernel) (by decide +kernel)
theorem co_X5_clearText : Cond.code yX5_clearText cX5_clearText 2 (some .int) ∈ lw_g := lw_gi 469 (by decide +kernel) (by decide +kernel)
theorem ml_X5_185 : Cond.methodLink RX5 185 yX4_empty ∈ lw_g := lw_gi 470 (by decide +kernel) (by decide +kernel)
theorem im_X4_empty : Cond.instanceMethod yX4_empty ∈ lw_g := lw_gi 471 (by decide +kernel) (by decide +kernel)
theorem se_X4_empty : Cond.selects RX4 yX4_empty yX4_empty ∈ lw_g := lw_gi 472 (by decide +kernel) (by decide +kernel)
theorem co_X4_empty : Cond.code yX4_empty cX4_empty 1 none ∈ lw_g := lw_gi 473 (by decide +kernel) (by decide +kernel)
theorem ml_L_86 : Cond.methodLink RL 86 yX5_fault ∈ lw_g := lw_gi 474 (by decide +kernel) (by decide +kernel)
theorem im_X5_fault : Cond.instanceMethod yX5_fault ∈ lw_g := lw_gi 475 (by decide +kernel) (by decide +kernel)
theorem se_X5_fault : Cond.selects RX5 yX5_fault yX5_fault ∈ lw_g := lw_gi 476 (by decide +kernel) (by decide +kernel)
theorem co_X5_fault : Cond.code yX5_fault cX5_fault 3 (some .int) ∈ lw_g := lw_gi 477 (by decide +kernel) (by decide +kernel)
theorem ml_X5_188 : Cond.methodLink RX5 188 yX4_findFault ∈ lw_g := lw_gi 478 (by decide +kernel) (by decide +kernel)
theorem im_X4_findFault : Cond.instanceMethod yX4_findFault ∈ lw_g := lw_gi 479 (by decide +kernel) (by decide +kernel)
theorem se_X4_findFault : Cond.selects RX4 yX4_findFault yX4_findFault ∈ lw_g := lw_gi 480 (by decide +kernel) (by decide +kernel)
theorem co_X4_findFault : Cond.code yX4_findFault cX4_findFault 3 (some .int) ∈ lw_g := lw_gi 481 (by decide +kernel) (by decide +kernel)
theorem ml_X4_29 : Cond.methodLink RX4 29 yX4_rewind ∈ lw_g := lw_gi 482 (by decide +kernel) (by decide +kernel)
theorem im_X4_rewind : Cond.instanceMethod yX4_rewind ∈ lw_g := lw_gi 483 (by decide +kernel) (by decide +kernel)
theorem se_X4_rewind : Cond.selects RX4 yX4_rewind yX4_rewind ∈ lw_g := lw_gi 484 (by decide +kernel) (by decide +kernel)
theorem co_X4_rewind : Cond.code yX4_rewind cX4_rewind 1 none ∈ lw_g := lw_gi 485 (by decide +kernel) (by decide +kernel)
theorem ml_X4_32 : Cond.methodLink RX4 32 yX4_hasMore ∈ lw_g := lw_gi 486 (by decide +kernel) (by decide +kernel)
theorem im_X4_hasMore : Cond.instanceMethod yX4_hasMore ∈ lw_g := lw_gi 487 (by decide +kernel) (by decide +kernel)
theorem se_X4_hasMore : Cond.selects RX4 yX4_hasMore yX4_hasMore ∈ lw_g := lw_gi 488 (by decide +kernel) (by decide +kernel)
theorem co_X4_hasMore : Cond.code yX4_hasMore cX4_hasMore 1 (some .boolean) ∈ lw_g := lw_gi 489 (by decide +kernel) (by decide +kernel)
theorem ml_X4_36 : Cond.methodLink RX4 36 yX4_readDefinition ∈ lw_g := lw_gi 490 (by decide +kernel) (by decide +kernel)
theorem im_X4_readDefinition : Cond.instanceMethod yX4_readDefinition ∈ lw_g := lw_gi 491 (by decide +kernel) (by decide +kernel)
theorem se_X4_readDefinition : Cond.selects RX4 yX4_readDefinition yX4_readDefinition ∈ lw_g := lw_gi 492 (by decide +kernel) (by decide +kernel)
theorem co_X4_readDefinition : Cond.code yX4_readDefinition cX4_readDefinition 3 (some .boolean) ∈ lw_g := lw_gi 493 (by decide +kernel) (by decide +kernel)
theorem ml_X4_39 : Cond.methodLink RX4 39 yX4_readLetter ∈ lw_g := lw_gi 494 (by decide +kernel) (by decide +kernel)
theorem im_X4_readLetter : Cond.instanceMethod yX4_readLetter ∈ lw_g := lw_gi 496 (by decide +kernel) (by decide +kernel)
theorem co_X4_readLetter : Cond.code yX4_readLetter cX4_readLetter 2 (some .int) ∈ lw_g := lw_gi 497 (by decide +kernel) (by decide +kernel)
theorem ml_X4_64 : Cond.methodLink RX4 64 yX4_character ∈ lw_g := lw_gi 498 (by decide +kernel) (by decide +kernel)
theorem im_X4_character : Cond.instanceMethod yX4_character ∈ lw_g := lw_gi 500 (by decide +kernel) (by decide +kernel)
theorem co_X4_character : Cond.code yX4_character cX4_character 1 (some .int) ∈ lw_g := lw_gi 501 (by decide +kernel) (by decide +kernel)
theorem mn_X4_79 : Cond.methodLinkNest RX4 79 yX5_isCell RX5 ∈ lw_n := lw_ni 502 (by decide +kernel) (by decide +kernel)
theorem ml_X4_46 : Cond.methodLink RX4 46 yX4_readSign ∈ lw_g := lw_gi 503 (by decide +kernel) (by decide +kernel)
theorem im_X4_readSign : Cond.instanceMethod yX4_readSign ∈ lw_g := lw_gi 505 (by decide +kernel) (by decide +kernel)
theorem co_X4_readSign : Cond.code yX4_readSign cX4_readSign 2 (some .boolean) ∈ lw_g := lw_gi 506 (by decide +kernel) (by decide +kernel)
theorem ml_X4_50 : Cond.methodLink RX4 50 yX4_readNumber ∈ lw_g := lw_gi 507 (by decide +kernel) (by decide +kernel)
theorem im_X4_readNumber : Cond.instanceMethod yX4_readNumber ∈ lw_g := lw_gi 509 (by decide +kernel) (by decide +kernel)
theorem co_X4_readNumber : Cond.code yX4_readNumber cX4_readNumber 4 (some .boolean) ∈ lw_g := lw_gi 510 (by decide +kernel) (by decide +kernel)
theorem mn_X4_67 : Cond.methodLinkNest RX4 67 yX5_isWithin RX5 ∈ lw_n := lw_ni 511 (by decide +kernel) (by decide +kernel)
theorem ml_X4_71 : Cond.methodLink RX4 71 yX1_setValue ∈ lw_g := lw_gi 512 (by decide +kernel) (by decide +kernel)
theorem ml_X4_53 : Cond.methodLink RX4 53 yX4_readFormula ∈ lw_g := lw_gi 513 (by decide +kernel) (by decide +kernel)
theorem im_X4_readFormula : Cond.instanceMethod yX4_readFormula ∈ lw_g := lw_gi 515 (by decide +kernel) (by decide +kernel)
theorem co_X4_readFormula : Cond.code yX4_readFormula cX4_readFormula 5 (some .boolean) ∈ lw_g := lw_gi 516 (by decide +kernel) (by decide +kernel)
theorem ml_X4_57 : Cond.methodLink RX4 57 yX4_readOperator ∈ lw_g := lw_gi 517 (by decide +kernel) (by decide +kernel)
theorem im_X4_readOperator : Cond.instanceMethod yX4_readOperator ∈ lw_g := lw_gi 519 (by decide +kernel) (by decide +kernel)
theorem co_X4_readOperator : Cond.code yX4_readOperator cX4_readOperator 2 (some .int) ∈ lw_g := lw_gi 520 (by decide +kernel) (by decide +kernel)
theorem ml_X4_75 : Cond.methodLink RX4 75 yX4_kindOf ∈ lw_g := lw_gi 521 (by decide +kernel) (by decide +kernel)
theorem st_X4_kindOf : Cond.static yX4_kindOf ∈ lw_g := lw_gi 522 (by decide +kernel) (by decide +kernel)
theorem co_X4_kindOf : Cond.code yX4_kindOf cX4_kindOf 1 (some .int) ∈ lw_g := lw_gi 523 (by decide +kernel) (by decide +kernel)
theorem ml_X4_60 : Cond.methodLink RX4 60 yX1_setFormula ∈ lw_g := lw_gi 524 (by decide +kernel) (by decide +kernel)
theorem ml_L_90 : Cond.methodLink RL 90 yX5_play ∈ lw_g := lw_gi 525 (by decide +kernel) (by decide +kernel)
theorem im_X5_play : Cond.instanceMethod yX5_play ∈ lw_g := lw_gi 526 (by decide +kernel) (by decide +kernel)
theorem se_X5_play : Cond.selects RX5 yX5_play yX5_play ∈ lw_g := lw_gi 527 (by decide +kernel) (by decide +kernel)
theorem co_X5_play : Cond.code yX5_play cX5_play 2 (some .int) ∈ lw_g := lw_gi 528 (by decide +kernel) (by decide +kernel)
theorem ml_X5_194 : Cond.methodLink RX5 194 yX4_rewind ∈ lw_g := lw_gi 529 (by decide +kernel) (by decide +kernel)
theorem ml_X5_197 : Cond.methodLink RX5 197 yX4_hasMore ∈ lw_g := lw_gi 530 (by decide +kernel) (by decide +kernel)
theorem ml_X5_201 : Cond.methodLink RX5 201 yX4_readDefinition ∈ lw_g := lw_gi 531 (by decide +kernel) (by decide +kernel)
theorem kl_L_10 : Cond.classLink RL 10 RX6 ∈ lw_g := lw_gi 532 (by decide +kernel) (by decide +kernel)
theorem ia_X6 : Cond.instantiable RX6 18 ∈ lw_g := lw_gi 533 (by decide +kernel) (by decide +kernel)
theorem ml_L_12 : Cond.methodLink RL 12 yX6_init ∈ lw_g := lw_gi 534 (by decide +kernel) (by decide +kernel)
theorem im_X6_init : Cond.instanceMethod yX6_init ∈ lw_g := lw_gi 535 (by decide +kernel) (by decide +kernel)
theorem co_X6_init : Cond.code yX6_init cX6_init 1 none ∈ lw_g := lw_gi 536 (by decide +kernel) (by decide +kernel)
theorem ml_X6_1 : Cond.methodLink RX6 1 objectInit ∈ lw_g := lw_gi 537 (by decide +kernel) (by decide +kernel)
theorem fl_X6_7 : Cond.fieldLink RX6 7 "RememberedCellsModel" "s" "[I" ∈ lw_g := lw_gi 538 (by decide +kernel) (by decide +kernel)
theorem fl_X6_13 : Cond.fieldLink RX6 13 "RememberedCellsModel" "begun" "[I" ∈ lw_g := lw_gi 539 (by decide +kernel) (by decide +kernel)
theorem fl_X6_16 : Cond.fieldLink RX6 16 "RememberedCellsModel" "past" "[I" ∈ lw_g := lw_gi 540 (by decide +kernel) (by decide +kernel)
theorem fl_X6_51 : Cond.fieldLink RX6 51 "RememberedCellsModel" "states" "I" ∈ lw_g := lw_gi 541 (by decide +kernel) (by decide +kernel)
theorem fl_X6_19 : Cond.fieldLink RX6 19 "RememberedCellsModel" "text" "[I" ∈ lw_g := lw_gi 542 (by decide +kernel) (by decide +kernel)
theorem fl_X6_170 : Cond.fieldLink RX6 170 "RememberedCellsModel" "length" "I" ∈ lw_g := lw_gi 543 (by decide +kernel) (by decide +kernel)
theorem fl_X6_22 : Cond.fieldLink RX6 22 "RememberedCellsModel" "open" "[I" ∈ lw_g := lw_gi 544 (by decide +kernel) (by decide +kernel)
theorem fl_X6_25 : Cond.fieldLink RX6 25 "RememberedCellsModel" "phase" "[I" ∈ lw_g := lw_gi 545 (by decide +kernel) (by decide +kernel)
theorem fl_X6_28 : Cond.fieldLink RX6 28 "RememberedCellsModel" "step" "[I" ∈ lw_g := lw_gi 546 (by decide +kernel) (by decide +kernel)
theorem fl_X6_31 : Cond.fieldLink RX6 31 "RememberedCellsModel" "second" "[I" ∈ lw_g := lw_gi 547 (by decide +kernel) (by decide +kernel)
theorem fl_X6_88 : Cond.fieldLink RX6 88 "RememberedCellsModel" "depth" "I" ∈ lw_g := lw_gi 548 (by decide +kernel) (by decide +kernel)
theorem fl_X6_98 : Cond.fieldLink RX6 98 "RememberedCellsModel" "isRing" "Z" ∈ lw_g := lw_gi 549 (by decide +kernel) (by decide +kernel)
theorem fl_X6_34 : Cond.fieldLink RX6 34 "RememberedCellsModel" "how" "[I" ∈ lw_g := lw_gi 550 (by decide +kernel) (by decide +kernel)
theorem fl_X6_37 : Cond.fieldLink RX6 37 "RememberedCellsModel" "given" "[I" ∈ lw_g := lw_gi 551 (by decide +kernel) (by decide +kernel)
theorem fl_X6_40 : Cond.fieldLink RX6 40 "RememberedCellsModel" "sets" "[I" ∈ lw_g := lw_gi 552 (by decide +kernel) (by decide +kernel)
theorem fl_X6_173 : Cond.fieldLink RX6 173 "RememberedCellsModel" "at" "I" ∈ lw_g := lw_gi 553 (by decide +kernel) (by decide +kernel)
theorem fl_X6_176 : Cond.fieldLink RX6 176 "RememberedCellsModel" "isForm" "Z" ∈ lw_g := lw_gi 554 (by decide +kernel) (by decide +kernel)
theorem fl_X6_43 : Cond.fieldLink RX6 43 "RememberedCellsModel" "read" "[I" ∈ lw_g := lw_gi 555 (by decide +kernel) (by decide +kernel)
theorem ac_int : Cond.arrayClass .int ∈ lw_g := lw_gi 593 (by decide +kernel) (by decide +kernel)
theorem ml_L_17 : Cond.methodLink RL 17 yX6_define ∈ lw_g := lw_gi 594 (by decide +kernel) (by decide +kernel)
theorem im_X6_define : Cond.instanceMethod yX6_define ∈ lw_g := lw_gi 595 (by decide +kernel) (by decide +kernel)
theorem se_X6_define : Cond.selects RX6 yX6_define yX6_define ∈ lw_g := lw_gi 596 (by decide +kernel) (by decide +kernel)
theorem co_X6_define : Cond.code yX6_define cX6_define 3 (some .int) ∈ lw_g := lw_gi 597 (by decide +kernel) (by decide +kernel)
theorem ml_X6_69 : Cond.methodLink RX6 69 yX6_isCell ∈ lw_g := lw_gi 598 (by decide +kernel) (by decide +kernel)
theorem st_X6_isCell : Cond.static yX6_isCell ∈ lw_g := lw_gi 599 (by decide +kernel) (by decide +kernel)
theorem co_X6_isCell : Cond.code yX6_isCell cX6_isCell 1 (some .boolean) ∈ lw_g := lw_gi 600 (by decide +kernel) (by decide +kernel)
theorem ml_X6_46 : Cond.methodLink RX6 46 yX6_in ∈ lw_g := lw_gi 601 (by decide +kernel) (by decide +kernel)
theorem st_X6_in : Cond.static yX6_in ∈ lw_g := lw_gi 602 (by decide +kernel) (by decide +kernel)
theorem co_X6_in : Cond.code yX6_in cX6_in 3 (some .boolean) ∈ lw_g := lw_gi 603 (by decide +kernel) (by decide +kernel)
theorem ml_X6_73 : Cond.methodLink RX6 73 yX6_isValue ∈ lw_g := lw_gi 604 (by decide +kernel) (by decide +kernel)
theorem st_X6_isValue : Cond.static yX6_isValue ∈ lw_g := lw_gi 605 (by decide +kernel) (by decide +kernel)
theorem co_X6_isValue : Cond.code yX6_isValue cX6_isValue 1 (some .boolean) ∈ lw_g := lw_gi 606 (by decide +kernel) (by decide +kernel)
theorem cn_X6_67 : Cond.constant RX6 67 (-99999) ∈ lw_g := lw_gi 607 (by decide +kernel) (by decide +kernel)
theorem cn_X6_68 : Cond.constant RX6 68 (99999) ∈ lw_g := lw_gi 608 (by decide +kernel) (by decide +kernel)
theorem cn_X6_50 : Cond.constant RX6 50 (-2000000001) ∈ lw_g := lw_gi 609 (by decide +kernel) (by decide +kernel)
theorem ml_X6_76 : Cond.methodLink RX6 76 yX6_begins ∈ lw_g := lw_gi 610 (by decide +kernel) (by decide +kernel)
theorem im_X6_begins : Cond.instanceMethod yX6_begins ∈ lw_g := lw_gi 612 (by decide +kernel) (by decide +kernel)
theorem co_X6_begins : Cond.code yX6_begins cX6_begins 2 none ∈ lw_g := lw_gi 613 (by decide +kernel) (by decide +kernel)
theorem ml_X6_79 : Cond.methodLink RX6 79 yX6_defines ∈ lw_g := lw_gi 614 (by decide +kernel) (by decide +kernel)
theorem im_X6_defines : Cond.instanceMethod yX6_defines ∈ lw_g := lw_gi 616 (by decide +kernel) (by decide +kernel)
theorem co_X6_defines : Cond.code yX6_defines cX6_defines 8 (some .int) ∈ lw_g := lw_gi 617 (by decide +kernel) (by decide +kernel)
theorem ml_X6_59 : Cond.methodLink RX6 59 yX6_isSo ∈ lw_g := lw_gi 618 (by decide +kernel) (by decide +kernel)
theorem im_X6_isSo : Cond.instanceMethod yX6_isSo ∈ lw_g := lw_gi 620 (by decide +kernel) (by decide +kernel)
theorem co_X6_isSo : Cond.code yX6_isSo cX6_isSo 7 (some .boolean) ∈ lw_g := lw_gi 621 (by decide +kernel) (by decide +kernel)
theorem ml_X6_55 : Cond.methodLink RX6 55 yX6_of ∈ lw_g := lw_gi 622 (by decide +kernel) (by decide +kernel)
theorem im_X6_of : Cond.instanceMethod yX6_of ∈ lw_g := lw_gi 624 (by decide +kernel) (by decide +kernel)
theorem co_X6_of : Cond.code yX6_of cX6_of 3 (some .int) ∈ lw_g := lw_gi 625 (by decide +kernel) (by decide +kernel)
theorem ml_X6_63 : Cond.methodLink RX6 63 yX6_puts ∈ lw_g := lw_gi 626 (by decide +kernel) (by decide +kernel)
theorem im_X6_puts : Cond.instanceMethod yX6_puts ∈ lw_g := lw_gi 628 (by decide +kernel) (by decide +kernel)
theorem co_X6_puts : Cond.code yX6_puts cX6_puts 4 none ∈ lw_g := lw_gi 629 (by decide +kernel) (by decide +kernel)
theorem ml_X6_83 : Cond.methodLink RX6 83 yX6_acted ∈ lw_g := lw_gi 630 (by decide +kernel) (by decide +kernel)
theorem im_X6_acted : Cond.instanceMethod yX6_acted ∈ lw_g := lw_gi 632 (by decide +kernel) (by decide +kernel)
theorem co_X6_acted : Cond.code yX6_acted cX6_acted 3 (some .int) ∈ lw_g := lw_gi 633 (by decide +kernel) (by decide +kernel)
theorem ml_L_22 : Cond.methodLink RL 22 yX6_formula ∈ lw_g := lw_gi 634 (by decide +kernel) (by decide +kernel)
theorem im_X6_formula : Cond.instanceMethod yX6_formula ∈ lw_g := lw_gi 635 (by decide +kernel) (by decide +kernel)
theorem se_X6_formula : Cond.selects RX6 yX6_formula yX6_formula ∈ lw_g := lw_gi 636 (by decide +kernel) (by decide +kernel)
theorem co_X6_formula : Cond.code yX6_formula cX6_formula 6 (some .int) ∈ lw_g := lw_gi 637 (by decide +kernel) (by decide +kernel)
theorem ml_L_26 : Cond.methodLink RL 26 yX6_cellOf ∈ lw_g := lw_gi 638 (by decide +kernel) (by decide +kernel)
theorem im_X6_cellOf : Cond.instanceMethod yX6_cellOf ∈ lw_g := lw_gi 639 (by decide +kernel) (by decide +kernel)
theorem se_X6_cellOf : Cond.selects RX6 yX6_cellOf yX6_cellOf ∈ lw_g := lw_gi 640 (by decide +kernel) (by decide +kernel)
theorem co_X6_cellOf : Cond.code yX6_cellOf cX6_cellOf 4 (some .int) ∈ lw_g := lw_gi 641 (by decide +kernel) (by decide +kernel)
theorem cn_X6_87 : Cond.constant RX6 87 (-2000000004) ∈ lw_g := lw_gi 642 (by decide +kernel) (by decide +kernel)
theorem ml_L_31 : Cond.methodLink RL 31 yX6_ask ∈ lw_g := lw_gi 643 (by decide +kernel) (by decide +kernel)
theorem im_X6_ask : Cond.instanceMethod yX6_ask ∈ lw_g := lw_gi 644 (by decide +kernel) (by decide +kernel)
theorem se_X6_ask : Cond.selects RX6 yX6_ask yX6_ask ∈ lw_g := lw_gi 645 (by decide +kernel) (by decide +kernel)
theorem co_X6_ask : Cond.code yX6_ask cX6_ask 3 (some .int) ∈ lw_g := lw_gi 646 (by decide +kernel) (by decide +kernel)
theorem ml_X6_140 : Cond.methodLink RX6 140 yX6_looks ∈ lw_g := lw_gi 647 (by decide +kernel) (by decide +kernel)
theorem im_X6_looks : Cond.instanceMethod yX6_looks ∈ lw_g := lw_gi 649 (by decide +kernel) (by decide +kernel)
theorem co_X6_looks : Cond.code yX6_looks cX6_looks 2 (some .boolean) ∈ lw_g := lw_gi 650 (by decide +kernel) (by decide +kernel)
theorem ml_X6_114 : Cond.methodLink RX6 114 yX6_enters ∈ lw_g := lw_gi 651 (by decide +kernel) (by decide +kernel)
theorem im_X6_enters : Cond.instanceMethod yX6_enters ∈ lw_g := lw_gi 653 (by decide +kernel) (by decide +kernel)
theorem co_X6_enters : Cond.code yX6_enters cX6_enters 2 none ∈ lw_g := lw_gi 654 (by decide +kernel) (by decide +kernel)
theorem ml_X6_91 : Cond.methodLink RX6 91 yX6_uses ∈ lw_g := lw_gi 655 (by decide +kernel) (by decide +kernel)
theorem im_X6_uses : Cond.instanceMethod yX6_uses ∈ lw_g := lw_gi 657 (by decide +kernel) (by decide +kernel)
theorem co_X6_uses : Cond.code yX6_uses cX6_uses 2 none ∈ lw_g := lw_gi 658 (by decide +kernel) (by decide +kernel)
theorem ml_X6_95 : Cond.methodLink RX6 95 yX6_isOpen ∈ lw_g := lw_gi 659 (by decide +kernel) (by decide +kernel)
theorem im_X6_isOpen : Cond.instanceMethod yX6_isOpen ∈ lw_g := lw_gi 661 (by decide +kernel) (by decide +kernel)
theorem co_X6_isOpen : Cond.code yX6_isOpen cX6_isOpen 4 (some .boolean) ∈ lw_g := lw_gi 662 (by decide +kernel) (by decide +kernel)
theorem ml_X6_127 : Cond.methodLink RX6 127 yX6_checks ∈ lw_g := lw_gi 663 (by decide +kernel) (by decide +kernel)
theorem im_X6_checks : Cond.instanceMethod yX6_checks ∈ lw_g := lw_gi 665 (by decide +kernel) (by decide +kernel)
theorem co_X6_checks : Cond.code yX6_checks cX6_checks 4 none ∈ lw_g := lw_gi 666 (by decide +kernel) (by decide +kernel)
theorem ml_X6_111 : Cond.methodLink RX6 111 yX6_changedAt ∈ lw_g := lw_gi 667 (by decide +kernel) (by decide +kernel)
theorem im_X6_changedAt : Cond.instanceMethod yX6_changedAt ∈ lw_g := lw_gi 669 (by decide +kernel) (by decide +kernel)
theorem co_X6_changedAt : Cond.code yX6_changedAt cX6_changedAt 2 (some .int) ∈ lw_g := lw_gi 670 (by decide +kernel) (by decide +kernel)
theorem ml_X6_130 : Cond.methodLink RX6 130 yX6_works ∈ lw_g := lw_gi 671 (by decide +kernel) (by decide +kernel)
theorem im_X6_works : Cond.instanceMethod yX6_works ∈ lw_g := lw_gi 673 (by decide +kernel) (by decide +kernel)
theorem co_X6_works : Cond.code yX6_works cX6_works 5 none ∈ lw_g := lw_gi 674 (by decide +kernel) (by decide +kernel)
theorem ml_X6_117 : Cond.methodLink RX6 117 yX6_answerOf ∈ lw_g := lw_gi 675 (by decide +kernel) (by decide +kernel)
theorem im_X6_answerOf : Cond.instanceMethod yX6_answerOf ∈ lw_g := lw_gi 677 (by decide +kernel) (by decide +kernel)
theorem co_X6_answerOf : Cond.code yX6_answerOf cX6_answerOf 2 (some .int) ∈ lw_g := lw_gi 678 (by decide +kernel) (by decide +kernel)
theorem cn_X6_106 : Cond.constant RX6 106 (2000000000) ∈ lw_g := lw_gi 679 (by decide +kernel) (by decide +kernel)
theorem ml_X6_124 : Cond.methodLink RX6 124 yX6_ends ∈ lw_g := lw_gi 680 (by decide +kernel) (by decide +kernel)
theorem im_X6_ends : Cond.instanceMethod yX6_ends ∈ lw_g := lw_gi 682 (by decide +kernel) (by decide +kernel)
theorem co_X6_ends : Cond.code yX6_ends cX6_ends 7 none ∈ lw_g := lw_gi 683 (by decide +kernel) (by decide +kernel)
theorem ml_X6_120 : Cond.methodLink RX6 120 yX6_made ∈ lw_g := lw_gi 684 (by decide +kernel) (by decide +kernel)
theorem st_X6_made : Cond.static yX6_made ∈ lw_g := lw_gi 685 (by decide +kernel) (by decide +kernel)
theorem co_X6_made : Cond.code yX6_made cX6_made 3 (some .int) ∈ lw_g := lw_gi 686 (by decide +kernel) (by decide +kernel)
theorem ml_X6_107 : Cond.methodLink RX6 107 yX6_bounded ∈ lw_g := lw_gi 687 (by decide +kernel) (by decide +kernel)
theorem st_X6_bounded : Cond.static yX6_bounded ∈ lw_g := lw_gi 688 (by decide +kernel) (by decide +kernel)
theorem co_X6_bounded : Cond.code yX6_bounded cX6_bounded 2 (some .int) ∈ lw_g := lw_gi 689 (by decide +kernel) (by decide +kernel)
theorem cl_X6_102 : Cond.constantLong RX6 102 (-1000000000) ∈ lw_g := lw_gi 690 (by decide +kernel) (by decide +kernel)
theorem cl_X6_104 : Cond.constantLong RX6 104 (1000000000) ∈ lw_g := lw_gi 691 (by decide +kernel) (by decide +kernel)
theorem ml_X6_143 : Cond.methodLink RX6 143 yX6_returns ∈ lw_g := lw_gi 692 (by decide +kernel) (by decide +kernel)
theorem im_X6_returns : Cond.instanceMethod yX6_returns ∈ lw_g := lw_gi 694 (by decide +kernel) (by decide +kernel)
theorem co_X6_returns : Cond.code yX6_returns cX6_returns 2 none ∈ lw_g := lw_gi 695 (by decide +kernel) (by decide +kernel)
theorem cn_X6_146 : Cond.constant RX6 146 (-2000000002) ∈ lw_g := lw_gi 696 (by decide +kernel) (by decide +kernel)
theorem ml_X6_147 : Cond.methodLink RX6 147 yX6_trims ∈ lw_g := lw_gi 697 (by decide +kernel) (by decide +kernel)
theorem im_X6_trims : Cond.instanceMethod yX6_trims ∈ lw_g := lw_gi 699 (by decide +kernel) (by decide +kernel)
theorem co_X6_trims : Cond.code yX6_trims cX6_trims 3 none ∈ lw_g := lw_gi 700 (by decide +kernel) (by decide +kernel)
theorem ml_X6_133 : Cond.methodLink RX6 133 yX6_remembered ∈ lw_g := lw_gi 701 (by decide +kernel) (by decide +kernel)
theorem im_X6_remembered : Cond.instanceMethod yX6_remembered ∈ lw_g := lw_gi 703 (by decide +kernel) (by decide +kernel)
theorem co_X6_remembered : Cond.code yX6_remembered cX6_remembered 3 (some .int) ∈ lw_g := lw_gi 704 (by decide +kernel) (by decide +kernel)
theorem ml_X6_137 : Cond.methodLink RX6 137 yX6_drops ∈ lw_g := lw_gi 705 (by decide +kernel) (by decide +kernel)
theorem im_X6_drops : Cond.instanceMethod yX6_drops ∈ lw_g := lw_gi 707 (by decide +kernel) (by decide +kernel)
theorem co_X6_drops : Cond.code yX6_drops cX6_drops 3 none ∈ lw_g := lw_gi 708 (by decide +kernel) (by decide +kernel)
theorem ml_L_39 : Cond.methodLink RL 39 yX6_cost ∈ lw_g := lw_gi 709 (by decide +kernel) (by decide +kernel)
theorem im_X6_cost : Cond.instanceMethod yX6_cost ∈ lw_g := lw_gi 710 (by decide +kernel) (by decide +kernel)
theorem se_X6_cost : Cond.selects RX6 yX6_cost yX6_cost ∈ lw_g := lw_gi 711 (by decide +kernel) (by decide +kernel)
theorem co_X6_cost : Cond.code yX6_cost cX6_cost 5 (some .int) ∈ lw_g := lw_gi 712 (by decide +kernel) (by decide +kernel)
theorem ml_L_43 : Cond.methodLink RL 43 yX6_forget ∈ lw_g := lw_gi 713 (by decide +kernel) (by decide +kernel)
theorem im_X6_forget : Cond.instanceMethod yX6_forget ∈ lw_g := lw_gi 714 (by decide +kernel) (by decide +kernel)
theorem se_X6_forget : Cond.selects RX6 yX6_forget yX6_forget ∈ lw_g := lw_gi 715 (by decide +kernel) (by decide +kernel)
theorem co_X6_forget : Cond.code yX6_forget cX6_forget 2 (some .int) ∈ lw_g := lw_gi 716 (by decide +kernel) (by decide +kernel)
theorem ml_L_47 : Cond.methodLink RL 47 yX6_bound ∈ lw_g := lw_gi 717 (by decide +kernel) (by decide +kernel)
theorem im_X6_bound : Cond.instanceMethod yX6_bound ∈ lw_g := lw_gi 718 (by decide +kernel) (by decide +kernel)
theorem se_X6_bound : Cond.selects RX6 yX6_bound yX6_bound ∈ lw_g := lw_gi 719 (by decide +kernel) (by decide +kernel)
theorem co_X6_bound : Cond.code yX6_bound cX6_bound 3 (some .int) ∈ lw_g := lw_gi 720 (by decide +kernel) (by decide +kernel)
theorem ml_L_51 : Cond.methodLink RL 51 yX6_rememberedOf ∈ lw_g := lw_gi 721 (by decide +kernel) (by decide +kernel)
theorem im_X6_rememberedOf : Cond.instanceMethod yX6_rememberedOf ∈ lw_g := lw_gi 722 (by decide +kernel) (by decide +kernel)
theorem se_X6_rememberedOf : Cond.selects RX6 yX6_rememberedOf yX6_rememberedOf ∈ lw_g := lw_gi 723 (by decide +kernel) (by decide +kernel)
theorem co_X6_rememberedOf : Cond.code yX6_rememberedOf cX6_rememberedOf 3 (some .int) ∈ lw_g := lw_gi 724 (by decide +kernel) (by decide +kernel)
theorem ml_X6_150 : Cond.methodLink RX6 150 yX6_placeOf ∈ lw_g := lw_gi 725 (by decide +kernel) (by decide +kernel)
theorem im_X6_placeOf : Cond.instanceMethod yX6_placeOf ∈ lw_g := lw_gi 727 (by decide +kernel) (by decide +kernel)
theorem co_X6_placeOf : Cond.code yX6_placeOf cX6_placeOf 4 (some .int) ∈ lw_g := lw_gi 728 (by decide +kernel) (by decide +kernel)
theorem ml_L_35 : Cond.methodLink RL 35 yX6_fresh ∈ lw_g := lw_gi 729 (by decide +kernel) (by decide +kernel)
theorem im_X6_fresh : Cond.instanceMethod yX6_fresh ∈ lw_g := lw_gi 730 (by decide +kernel) (by decide +kernel)
theorem se_X6_fresh : Cond.selects RX6 yX6_fresh yX6_fresh ∈ lw_g := lw_gi 731 (by decide +kernel) (by decide +kernel)
theorem co_X6_fresh : Cond.code yX6_fresh cX6_fresh 2 (some .int) ∈ lw_g := lw_gi 732 (by decide +kernel) (by decide +kernel)
theorem ml_X6_163 : Cond.methodLink RX6 163 yX6_told ∈ lw_g := lw_gi 733 (by decide +kernel) (by decide +kernel)
theorem im_X6_told : Cond.instanceMethod yX6_told ∈ lw_g := lw_gi 735 (by decide +kernel) (by decide +kernel)
theorem co_X6_told : Cond.code yX6_told cX6_told 2 (some .int) ∈ lw_g := lw_gi 736 (by decide +kernel) (by decide +kernel)
theorem ml_X6_159 : Cond.methodLink RX6 159 yX6_afresh ∈ lw_g := lw_gi 737 (by decide +kernel) (by decide +kernel)
theorem im_X6_afresh : Cond.instanceMethod yX6_afresh ∈ lw_g := lw_gi 739 (by decide +kernel) (by decide +kernel)
theorem co_X6_afresh : Cond.code yX6_afresh cX6_afresh 4 (some .boolean) ∈ lw_g := lw_gi 740 (by decide +kernel) (by decide +kernel)
theorem ml_X6_153 : Cond.methodLink RX6 153 yX6_wantedBy ∈ lw_g := lw_gi 741 (by decide +kernel) (by decide +kernel)
theorem im_X6_wantedBy : Cond.instanceMethod yX6_wantedBy ∈ lw_g := lw_gi 743 (by decide +kernel) (by decide +kernel)
theorem co_X6_wantedBy : Cond.code yX6_wantedBy cX6_wantedBy 5 (some .int) ∈ lw_g := lw_gi 744 (by decide +kernel) (by decide +kernel)
theorem ml_X6_156 : Cond.methodLink RX6 156 yX6_settles ∈ lw_g := lw_gi 745 (by decide +kernel) (by decide +kernel)
theorem im_X6_settles : Cond.instanceMethod yX6_settles ∈ lw_g := lw_gi 747 (by decide +kernel) (by decide +kernel)
theorem co_X6_settles : Cond.code yX6_settles cX6_settles 5 none ∈ lw_g := lw_gi 748 (by decide +kernel) (by decide +kernel)
theorem cn_X6_162 : Cond.constant RX6 162 (-2000000003) ∈ lw_g := lw_gi 749 (by decide +kernel) (by decide +kernel)
theorem ml_L_55 : Cond.methodLink RL 55 yX6_which ∈ lw_g := lw_gi 750 (by decide +kernel) (by decide +kernel)
theorem im_X6_which : Cond.instanceMethod yX6_which ∈ lw_g := lw_gi 751 (by decide +kernel) (by decide +kernel)
theorem se_X6_which : Cond.selects RX6 yX6_which yX6_which ∈ lw_g := lw_gi 752 (by decide +kernel) (by decide +kernel)
theorem co_X6_which : Cond.code yX6_which cX6_which 4 (some .int) ∈ lw_g := lw_gi 753 (by decide +kernel) (by decide +kernel)
theorem ml_X6_166 : Cond.methodLink RX6 166 yX6_isOne ∈ lw_g := lw_gi 754 (by decide +kernel) (by decide +kernel)
theorem im_X6_isOne : Cond.instanceMethod yX6_isOne ∈ lw_g := lw_gi 756 (by decide +kernel) (by decide +kernel)
theorem co_X6_isOne : Cond.code yX6_isOne cX6_isOne 3 (some .boolean) ∈ lw_g := lw_gi 757 (by decide +kernel) (by decide +kernel)
theorem ml_L_59 : Cond.methodLink RL 59 yX6_used ∈ lw_g := lw_gi 758 (by decide +kernel) (by decide +kernel)
theorem im_X6_used : Cond.instanceMethod yX6_used ∈ lw_g := lw_gi 759 (by decide +kernel) (by decide +kernel)
theorem se_X6_used : Cond.selects RX6 yX6_used yX6_used ∈ lw_g := lw_gi 760 (by decide +kernel) (by decide +kernel)
theorem co_X6_used : Cond.code yX6_used cX6_used 2 (some .int) ∈ lw_g := lw_gi 761 (by decide +kernel) (by decide +kernel)
theorem ml_L_63 : Cond.methodLink RL 63 yX6_usedBy ∈ lw_g := lw_gi 762 (by decide +kernel) (by decide +kernel)
theorem im_X6_usedBy : Cond.instanceMethod yX6_usedBy ∈ lw_g := lw_gi 763 (by decide +kernel) (by decide +kernel)
theorem se_X6_usedBy : Cond.selects RX6 yX6_usedBy yX6_usedBy ∈ lw_g := lw_gi 764 (by decide +kernel) (by decide +kernel)
theorem co_X6_usedBy : Cond.code yX6_usedBy cX6_usedBy 4 (some .int) ∈ lw_g := lw_gi 765 (by decide +kernel) (by decide +kernel)
theorem ml_L_68 : Cond.methodLink RL 68 yX6_would ∈ lw_g := lw_gi 766 (by decide +kernel) (by decide +kernel)
theorem im_X6_would : Cond.instanceMethod yX6_would ∈ lw_g := lw_gi 767 (by decide +kernel) (by decide +kernel)
theorem se_X6_would : Cond.selects RX6 yX6_would yX6_would ∈ lw_g := lw_gi 768 (by decide +kernel) (by decide +kernel)
theorem co_X6_would : Cond.code yX6_would cX6_would 5 (some .int) ∈ lw_g := lw_gi 769 (by decide +kernel) (by decide +kernel)
theorem ml_L_72 : Cond.methodLink RL 72 yX6_count ∈ lw_g := lw_gi 770 (by decide +kernel) (by decide +kernel)
theorem im_X6_count : Cond.instanceMethod yX6_count ∈ lw_g := lw_gi 771 (by decide +kernel) (by decide +kernel)
theorem se_X6_count : Cond.selects RX6 yX6_count yX6_count ∈ lw_g := lw_gi 772 (by decide +kernel) (by decide +kernel)
theorem co_X6_count : Cond.code yX6_count cX6_count 2 (some .int) ∈ lw_g := lw_gi 773 (by decide +kernel) (by decide +kernel)
theorem ml_L_77 : Cond.methodLink RL 77 yX6_undo ∈ lw_g := lw_gi 774 (by decide +kernel) (by decide +kernel)
theorem im_X6_undo : Cond.instanceMethod yX6_undo ∈ lw_g := lw_gi 775 (by decide +kernel) (by decide +kernel)
theorem se_X6_undo : Cond.selects RX6 yX6_undo yX6_undo ∈ lw_g := lw_gi 776 (by decide +kernel) (by decide +kernel)
theorem co_X6_undo : Cond.code yX6_undo cX6_undo 2 (some .int) ∈ lw_g := lw_gi 777 (by decide +kernel) (by decide +kernel)
theorem ml_L_81 : Cond.methodLink RL 81 yX6_type ∈ lw_g := lw_gi 778 (by decide +kernel) (by decide +kernel)
theorem im_X6_type : Cond.instanceMethod yX6_type ∈ lw_g := lw_gi 779 (by decide +kernel) (by decide +kernel)
theorem se_X6_type : Cond.selects RX6 yX6_type yX6_type ∈ lw_g := lw_gi 780 (by decide +kernel) (by decide +kernel)
theorem co_X6_type : Cond.code yX6_type cX6_type 2 (some .int) ∈ lw_g := lw_gi 781 (by decide +kernel) (by decide +kernel)
theorem ml_L_85 : Cond.methodLink RL 85 yX6_clearText ∈ lw_g := lw_gi 782 (by decide +kernel) (by decide +kernel)
theorem im_X6_clearText : Cond.instanceMethod yX6_clearText ∈ lw_g := lw_gi 783 (by decide +kernel) (by decide +kernel)
theorem se_X6_clearText : Cond.selects RX6 yX6_clearText yX6_clearText ∈ lw_g := lw_gi 784 (by decide +kernel) (by decide +kernel)
theorem co_X6_clearText : Cond.code yX6_clearText cX6_clearText 2 (some .int) ∈ lw_g := lw_gi 785 (by decide +kernel) (by decide +kernel)
theorem ml_L_89 : Cond.methodLink RL 89 yX6_fault ∈ lw_g := lw_gi 786 (by decide +kernel) (by decide +kernel)
theorem im_X6_fault : Cond.instanceMethod yX6_fault ∈ lw_g := lw_gi 787 (by decide +kernel) (by decide +kernel)
theorem se_X6_fault : Cond.selects RX6 yX6_fault yX6_fault ∈ lw_g := lw_gi 788 (by decide +kernel) (by decide +kernel)
theorem co_X6_fault : Cond.code yX6_fault cX6_fault 3 (some .int) ∈ lw_g := lw_gi 789 (by decide +kernel) (by decide +kernel)
theorem ml_X6_202 : Cond.methodLink RX6 202 yX6_brokenAt ∈ lw_g := lw_gi 790 (by decide +kernel) (by decide +kernel)
theorem im_X6_brokenAt : Cond.instanceMethod yX6_brokenAt ∈ lw_g := lw_gi 792 (by decide +kernel) (by decide +kernel)
theorem co_X6_brokenAt : Cond.code yX6_brokenAt cX6_brokenAt 2 (some .int) ∈ lw_g := lw_gi 793 (by decide +kernel) (by decide +kernel)
theorem ml_X6_198 : Cond.methodLink RX6 198 yX6_reads ∈ lw_g := lw_gi 794 (by decide +kernel) (by decide +kernel)
theorem im_X6_reads : Cond.instanceMethod yX6_reads ∈ lw_g := lw_gi 796 (by decide +kernel) (by decide +kernel)
theorem co_X6_reads : Cond.code yX6_reads cX6_reads 2 (some .boolean) ∈ lw_g := lw_gi 797 (by decide +kernel) (by decide +kernel)
theorem ml_X6_186 : Cond.methodLink RX6 186 yX6_readLetter ∈ lw_g := lw_gi 798 (by decide +kernel) (by decide +kernel)
theorem im_X6_readLetter : Cond.instanceMethod yX6_readLetter ∈ lw_g := lw_gi 800 (by decide +kernel) (by decide +kernel)
theorem co_X6_readLetter : Cond.code yX6_readLetter cX6_readLetter 2 (some .int) ∈ lw_g := lw_gi 801 (by decide +kernel) (by decide +kernel)
theorem ml_X6_179 : Cond.methodLink RX6 179 yX6_here ∈ lw_g := lw_gi 802 (by decide +kernel) (by decide +kernel)
theorem im_X6_here : Cond.instanceMethod yX6_here ∈ lw_g := lw_gi 804 (by decide +kernel) (by decide +kernel)
theorem co_X6_here : Cond.code yX6_here cX6_here 1 (some .int) ∈ lw_g := lw_gi 805 (by decide +kernel) (by decide +kernel)
theorem ml_X6_182 : Cond.methodLink RX6 182 yX6_takes ∈ lw_g := lw_gi 806 (by decide +kernel) (by decide +kernel)
theorem im_X6_takes : Cond.instanceMethod yX6_takes ∈ lw_g := lw_gi 808 (by decide +kernel) (by decide +kernel)
theorem co_X6_takes : Cond.code yX6_takes cX6_takes 2 none ∈ lw_g := lw_gi 809 (by decide +kernel) (by decide +kernel)
theorem ml_X6_192 : Cond.methodLink RX6 192 yX6_readNumber ∈ lw_g := lw_gi 810 (by decide +kernel) (by decide +kernel)
theorem im_X6_readNumber : Cond.instanceMethod yX6_readNumber ∈ lw_g := lw_gi 812 (by decide +kernel) (by decide +kernel)
theorem co_X6_readNumber : Cond.code yX6_readNumber cX6_readNumber 4 none ∈ lw_g := lw_gi 813 (by decide +kernel) (by decide +kernel)
theorem ml_X6_195 : Cond.methodLink RX6 195 yX6_readFormula ∈ lw_g := lw_gi 814 (by decide +kernel) (by decide +kernel)
theorem im_X6_readFormula : Cond.instanceMethod yX6_readFormula ∈ lw_g := lw_gi 816 (by decide +kernel) (by decide +kernel)
theorem co_X6_readFormula : Cond.code yX6_readFormula cX6_readFormula 2 none ∈ lw_g := lw_gi 817 (by decide +kernel) (by decide +kernel)
theorem ml_X6_189 : Cond.methodLink RX6 189 yX6_kindOf ∈ lw_g := lw_gi 818 (by decide +kernel) (by decide +kernel)
theorem st_X6_kindOf : Cond.static yX6_kindOf ∈ lw_g := lw_gi 819 (by decide +kernel) (by decide +kernel)
theorem co_X6_kindOf : Cond.code yX6_kindOf cX6_kindOf 1 (some .int) ∈ lw_g := lw_gi 820 (by decide +kernel) (by decide +kernel)
theorem ml_L_93 : Cond.methodLink RL 93 yX6_play ∈ lw_g := lw_gi 821 (by decide +kernel) (by decide +kernel)
theorem im_X6_play : Cond.instanceMethod yX6_play ∈ lw_g := lw_gi 822 (by decide +kernel) (by decide +kernel)
theorem se_X6_play : Cond.selects RX6 yX6_play yX6_play ∈ lw_g := lw_gi 823 (by decide +kernel) (by decide +kernel)
theorem co_X6_play : Cond.code yX6_play cX6_play 2 (some .int) ∈ lw_g := lw_gi 824 (by decide +kernel) (by decide +kernel)
theorem inX0 : ∀ w ∈ wsX00, w ∈ lw_g := fun w h => List.mem_filter.mpr ⟨(by decide +kernel : ∀ w ∈ wsX00, w ∈ lw_tbl) w h, (by decide +kernel : ∀ w ∈ wsX00, goodWord w = true) w h⟩
theorem inX1 : ∀ w ∈ wsX10, w ∈ lw_g := fun w h => List.mem_filter.mpr ⟨(by decide +kernel : ∀ w ∈ wsX10, w ∈ lw_tbl) w h, (by decide +kernel : ∀ w ∈ wsX10, goodWord w = true) w h⟩
theorem inX2 : ∀ w ∈ wsX20, w ∈ lw_g := fun w h => List.mem_filter.mpr ⟨(by decide +kernel : ∀ w ∈ wsX20, w ∈ lw_tbl) w h, (by decide +kernel : ∀ w ∈ wsX20, goodWord w = true) w h⟩
theorem inX3 : ∀ w ∈ wsX30, w ∈ lw_g := fun w h => List.mem_filter.mpr ⟨(by decide +kernel : ∀ w ∈ wsX30, w ∈ lw_tbl) w h, (by decide +kernel : ∀ w ∈ wsX30, goodWord w = true) w h⟩
theorem inX4 : ∀ w ∈ wsX40, w ∈ lw_g := fun w h => List.mem_filter.mpr ⟨(by decide +kernel : ∀ w ∈ wsX40, w ∈ lw_tbl) w h, (by decide +kernel : ∀ w ∈ wsX40, goodWord w = true) w h⟩
theorem inX5 : ∀ w ∈ wsX50, w ∈ lw_g := fun w h => List.mem_filter.mpr ⟨(by decide +kernel : ∀ w ∈ wsX50, w ∈ lw_tbl) w h, (by decide +kernel : ∀ w ∈ wsX50, goodWord w = true) w h⟩
theorem inX6 : ∀ w ∈ wsX60, w ∈ lw_g := fun w h => List.mem_filter.mpr ⟨(by decide +kernel : ∀ w ∈ wsX60, w ∈ lw_tbl) w h, (by decide +kernel : ∀ w ∈ wsX60, goodWord w = true) w h⟩
end
section
theorem dX0_init_0 : decode cX0_init 0 = .ok (.aload_n 0, 1) := by decide +kernel
theorem dX0_init_1 : decode cX0_init 1 = .ok (.invokespecial 3, 3) := by decide +kernel
theorem dX0_init_4 : decode cX0_init 4 = .ok (.aload_n 0, 1) := by decide +kernel
theorem dX0_init_5 : decode cX0_init 5 = .ok (.new 9, 3) := by decide +kernel
theorem dX0_init_8 : decode cX0_init 8 = .ok (.dup, 1) := by decide +kernel
theorem dX0_init_9 : decode cX0_init 9 = .ok (.invokespecial 11, 3) := by decide +kernel
theorem dX0_init_12 : decode cX0_init 12 = .ok (.putfield 12, 3) := by decide +kernel
theorem dX0_init_15 : decode cX0_init 15 = .ok (.aload_n 0, 1) := by decide +kernel
theorem dX0_init_16 : decode cX0_init 16 = .ok (.iconst (-1), 1) := by decide +kernel
theorem dX0_init_17 : decode cX0_init 17 = .ok (.putfield 18, 3) := by decide +kernel
theorem dX0_init_20 : decode cX0_init 20 = .ok (.return_, 1) := by decide +kernel
theorem dX0_copy_0 : decode cX0_copy 0 = .ok (.aload_n 0, 1) := by decide +kernel
theorem dX0_copy_1 : decode cX0_copy 1 = .ok (.getfield 12, 3) := by decide +kernel
theorem dX0_copy_4 : decode cX0_copy 4 = .ok (.aload_n 1, 1) := by decide +kernel
theorem dX0_copy_5 : decode cX0_copy 5 = .ok (.getfield 12, 3) := by decide +kernel
theorem dX0_copy_8 : decode cX0_copy 8 = .ok (.invokevirtual 22, 3) := by decide +kernel
theorem dX0_copy_11 : decode cX0_copy 11 = .ok (.aload_n 0, 1) := by decide +kernel
theorem dX0_copy_12 : decode cX0_copy 12 = .ok (.aload_n 1, 1) := by decide +kernel
theorem dX0_copy_13 : decode cX0_copy 13 = .ok (.getfield 26, 3) := by decide +kernel
theorem dX0_copy_16 : decode cX0_copy 16 = .ok (.putfield 26, 3) := by decide +kernel
theorem dX0_copy_19 : decode cX0_copy 19 = .ok (.aload_n 0, 1) := by decide +kernel
theorem dX0_copy_20 : decode cX0_copy 20 = .ok (.aload_n 1, 1) := by decide +kernel
theorem dX0_copy_21 : decode cX0_copy 21 = .ok (.getfield 29, 3) := by decide +kernel
theorem dX0_copy_24 : decode cX0_copy 24 = .ok (.putfield 29, 3) := by decide +kernel
theorem dX0_copy_27 : decode cX0_copy 27 = .ok (.aload_n 0, 1) := by decide +kernel
theorem dX0_copy_28 : decode cX0_copy 28 = .ok (.aload_n 1, 1) := by decide +kernel
theorem dX0_copy_29 : decode cX0_copy 29 = .ok (.getfield 33, 3) := by decide +kernel
theorem dX0_copy_32 : decode cX0_copy 32 = .ok (.putfield 33, 3) := by decide +kernel
theorem dX0_copy_35 : decode cX0_copy 35 = .ok (.aload_n 0, 1) := by decide +kernel
theorem dX0_copy_36 : decode cX0_copy 36 = .ok (.aload_n 1, 1) := by decide +kernel
theorem dX0_copy_37 : decode cX0_copy 37 = .ok (.getfield 36, 3) := by decide +kernel
theorem dX0_copy_40 : decode cX0_copy 40 = .ok (.putfield 36, 3) := by decide +kernel
theorem dX0_copy_43 : decode cX0_copy 43 = .ok (.aload_n 0, 1) := by decide +kernel
theorem dX0_copy_44 : decode cX0_copy 44 = .ok (.aload_n 1, 1) := by decide +kernel
theorem dX0_copy_45 : decode cX0_copy 45 = .ok (.getfield 18, 3) := by decide +kernel
theorem dX0_copy_48 : decode cX0_copy 48 = .ok (.putfield 18, 3) := by decide +kernel
theorem dX0_copy_51 : decode cX0_copy 51 = .ok (.aload_n 0, 1) := by decide +kernel
theorem dX0_copy_52 : decode cX0_copy 52 = .ok (.aload_n 1, 1) := by decide +kernel
theorem dX0_copy_53 : decode cX0_copy 53 = .ok (.getfield 39, 3) := by decide +kernel
theorem dX0_copy_56 : decode cX0_copy 56 = .ok (.putfield 39, 3) := by decide +kernel
theorem dX0_copy_59 : decode cX0_copy 59 = .ok (.aload_n 0, 1) := by decide +kernel
theorem dX0_copy_60 : decode cX0_copy 60 = .ok (.iconst 0, 1) := by decide +kernel
theorem dX0_copy_61 : decode cX0_copy 61 = .ok (.putfield 42, 3) := by decide +kernel
theorem dX0_copy_64 : decode cX0_copy 64 = .ok (.return_, 1) := by decide +kernel
theorem dX0_told_0 : decode cX0_told 0 = .ok (.aload_n 0, 1) := by decide +kernel
theorem dX0_told_1 : decode cX0_told 1 = .ok (.getfield 12, 3) := by decide +kernel
theorem dX0_told_4 : decode cX0_told 4 = .ok (.getfield 45, 3) := by decide +kernel
theorem dX0_told_7 : decode cX0_told 7 = .ok (.iconst (-1), 1) := by decide +kernel
theorem dX0_told_8 : decode cX0_told 8 = .ok (.if_icmp .ne 13, 3) := by decide +kernel
theorem dX0_told_11 : decode cX0_told 11 = .ok (.aload_n 0, 1) := by decide +kernel
theorem dX0_told_12 : decode cX0_told 12 = .ok (.getfield 12, 3) := by decide +kernel
theorem dX0_told_15 : decode cX0_told 15 = .ok (.getfield 48, 3) := by decide +kernel
theorem dX0_told_18 : decode cX0_told 18 = .ok (.goto 7, 3) := by decide +kernel
theorem dX0_told_21 : decode cX0_told 21 = .ok (.aload_n 0, 1) := by decide +kernel
theorem dX0_told_22 : decode cX0_told 22 = .ok (.getfield 33, 3) := by decide +kernel
theorem dX0_told_25 : decode cX0_told 25 = .ok (.ireturn, 1) := by decide +kernel
theorem dX1_init_0 : decode cX1_init 0 = .ok (.aload_n 0, 1) := by decide +kernel
theorem dX1_init_1 : decode cX1_init 1 = .ok (.invokespecial 3, 3) := by decide +kernel
theorem dX1_init_4 : decode cX1_init 4 = .ok (.aload_n 0, 1) := by decide +kernel
theorem dX1_init_5 : decode cX1_init 5 = .ok (.iconst (-1), 1) := by decide +kernel
theorem dX1_init_6 : decode cX1_init 6 = .ok (.putfield 9, 3) := by decide +kernel
theorem dX1_init_9 : decode cX1_init 9 = .ok (.return_, 1) := by decide +kernel
theorem dX1_setValue_0 : decode cX1_setValue 0 = .ok (.aload_n 0, 1) := by decide +kernel
theorem dX1_setValue_1 : decode cX1_setValue 1 = .ok (.iconst (-1), 1) := by decide +kernel
theorem dX1_setValue_2 : decode cX1_setValue 2 = .ok (.putfield 9, 3) := by decide +kernel
theorem dX1_setValue_5 : decode cX1_setValue 5 = .ok (.aload_n 0, 1) := by decide +kernel
theorem dX1_setValue_6 : decode cX1_setValue 6 = .ok (.iload_n 1, 1) := by decide +kernel
theorem dX1_setValue_7 : decode cX1_setValue 7 = .ok (.putfield 15, 3) := by decide +kernel
theorem dX1_setValue_10 : decode cX1_setValue 10 = .ok (.aload_n 0, 1) := by decide +kernel
theorem dX1_setValue_11 : decode cX1_setValue 11 = .ok (.iconst 0, 1) := by decide +kernel
theorem dX1_setValue_12 : decode cX1_setValue 12 = .ok (.putfield 18, 3) := by decide +kernel
theorem dX1_setValue_15 : decode cX1_setValue 15 = .ok (.aload_n 0, 1) := by decide +kernel
theorem dX1_setValue_16 : decode cX1_setValue 16 = .ok (.iconst 0, 1) := by decide +kernel
theorem dX1_setValue_17 : decode cX1_setValue 17 = .ok (.putfield 21, 3) := by decide +kernel
theorem dX1_setValue_20 : decode cX1_setValue 20 = .ok (.aload_n 0, 1) := by decide +kernel
theorem dX1_setValue_21 : decode cX1_setValue 21 = .ok (.iconst 0, 1) := by decide +kernel
theorem dX1_setValue_22 : decode cX1_setValue 22 = .ok (.putfield 24, 3) := by decide +kernel
theorem dX1_setValue_25 : decode cX1_setValue 25 = .ok (.return_, 1) := by decide +kernel
theorem dX1_setFormula_0 : decode cX1_setFormula 0 = .ok (.aload_n 0, 1) := by decide +kernel
theorem dX1_setFormula_1 : decode cX1_setFormula 1 = .ok (.iload_n 1, 1) := by decide +kernel
theorem dX1_setFormula_2 : decode cX1_setFormula 2 = .ok (.putfield 9, 3) := by decide +kernel
theorem dX1_setFormula_5 : decode cX1_setFormula 5 = .ok (.aload_n 0, 1) := by decide +kernel
theorem dX1_setFormula_6 : decode cX1_setFormula 6 = .ok (.iconst 0, 1) := by decide +kernel
theorem dX1_setFormula_7 : decode cX1_setFormula 7 = .ok (.putfield 15, 3) := by decide +kernel
theorem dX1_setFormula_10 : decode cX1_setFormula 10 = .ok (.aload_n 0, 1) := by decide +kernel
theorem dX1_setFormula_11 : decode cX1_setFormula 11 = .ok (.iload_n 2, 1) := by decide +kernel
theorem dX1_setFormula_12 : decode cX1_setFormula 12 = .ok (.putfield 18, 3) := by decide +kernel
theorem dX1_setFormula_15 : decode cX1_setFormula 15 = .ok (.aload_n 0, 1) := by decide +kernel
theorem dX1_setFormula_16 : decode cX1_setFormula 16 = .ok (.iload_n 3, 1) := by decide +kernel
theorem dX1_setFormula_17 : decode cX1_setFormula 17 = .ok (.putfield 21, 3) := by decide +kernel
theorem dX1_setFormula_20 : decode cX1_setFormula 20 = .ok (.aload_n 0, 1) := by decide +kernel
theorem dX1_setFormula_21 : decode cX1_setFormula 21 = .ok (.iload 4, 2) := by decide +kernel
theorem dX1_setFormula_23 : decode cX1_setFormula 23 = .ok (.putfield 24, 3) := by decide +kernel
theorem dX1_setFormula_26 : decode cX1_setFormula 26 = .ok (.return_, 1) := by decide +kernel
theorem dX1_copy_0 : decode cX1_copy 0 = .ok (.aload_n 0, 1) := by decide +kernel
theorem dX1_copy_1 : decode cX1_copy 1 = .ok (.aload_n 1, 1) := by decide +kernel
theorem dX1_copy_2 : decode cX1_copy 2 = .ok (.getfield 9, 3) := by decide +kernel
theorem dX1_copy_5 : decode cX1_copy 5 = .ok (.putfield 9, 3) := by decide +kernel
theorem dX1_copy_8 : decode cX1_copy 8 = .ok (.aload_n 0, 1) := by decide +kernel
theorem dX1_copy_9 : decode cX1_copy 9 = .ok (.aload_n 1, 1) := by decide +kernel
theorem dX1_copy_10 : decode cX1_copy 10 = .ok (.getfield 15, 3) := by decide +kernel
theorem dX1_copy_13 : decode cX1_copy 13 = .ok (.putfield 15, 3) := by decide +kernel
theorem dX1_copy_16 : decode cX1_copy 16 = .ok (.aload_n 0, 1) := by decide +kernel
theorem dX1_copy_17 : decode cX1_copy 17 = .ok (.aload_n 1, 1) := by decide +kernel
theorem dX1_copy_18 : decode cX1_copy 18 = .ok (.getfield 18, 3) := by decide +kernel
theorem dX1_copy_21 : decode cX1_copy 21 = .ok (.putfield 18, 3) := by decide +kernel
theorem dX1_copy_24 : decode cX1_copy 24 = .ok (.aload_n 0, 1) := by decide +kernel
theorem dX1_copy_25 : decode cX1_copy 25 = .ok (.aload_n 1, 1) := by decide +kernel
theorem dX1_copy_26 : decode cX1_copy 26 = .ok (.getfield 21, 3) := by decide +kernel
theorem dX1_copy_29 : decode cX1_copy 29 = .ok (.putfield 21, 3) := by decide +kernel
theorem dX1_copy_32 : decode cX1_copy 32 = .ok (.aload_n 0, 1) := by decide +kernel
theorem dX1_copy_33 : decode cX1_copy 33 = .ok (.aload_n 1, 1) := by decide +kernel
theorem dX1_copy_34 : decode cX1_copy 34 = .ok (.getfield 24, 3) := by decide +kernel
theorem dX1_copy_37 : decode cX1_copy 37 = .ok (.putfield 24, 3) := by decide +kernel
theorem dX1_copy_40 : decode cX1_copy 40 = .ok (.return_, 1) := by decide +kernel
theorem dX1_isLike_0 : decode cX1_isLike 0 = .ok (.aload_n 0, 1) := by decide +kernel
theorem dX1_isLike_1 : decode cX1_isLike 1 = .ok (.getfield 9, 3) := by decide +kernel
theorem dX1_isLike_4 : decode cX1_isLike 4 = .ok (.aload_n 1, 1) := by decide +kernel
theorem dX1_isLike_5 : decode cX1_isLike 5 = .ok (.getfield 9, 3) := by decide +kernel
theorem dX1_isLike_8 : decode cX1_isLike 8 = .ok (.if_icmp .ne 51, 3) := by decide +kernel
theorem dX1_isLike_11 : decode cX1_isLike 11 = .ok (.aload_n 0, 1) := by decide +kernel
theorem dX1_isLike_12 : decode cX1_isLike 12 = .ok (.getfield 15, 3) := by decide +kernel
theorem dX1_isLike_15 : decode cX1_isLike 15 = .ok (.aload_n 1, 1) := by decide +kernel
theorem dX1_isLike_16 : decode cX1_isLike 16 = .ok (.getfield 15, 3) := by decide +kernel
theorem dX1_isLike_19 : decode cX1_isLike 19 = .ok (.if_icmp .ne 40, 3) := by decide +kernel
theorem dX1_isLike_22 : decode cX1_isLike 22 = .ok (.aload_n 0, 1) := by decide +kernel
theorem dX1_isLike_23 : decode cX1_isLike 23 = .ok (.getfield 18, 3) := by decide +kernel
theorem dX1_isLike_26 : decode cX1_isLike 26 = .ok (.aload_n 1, 1) := by decide +kernel
theorem dX1_isLike_27 : decode cX1_isLike 27 = .ok (.getfield 18, 3) := by decide +kernel
theorem dX1_isLike_30 : decode cX1_isLike 30 = .ok (.if_icmp .ne 29, 3) := by decide +kernel
theorem dX1_isLike_33 : decode cX1_isLike 33 = .ok (.aload_n 0, 1) := by decide +kernel
theorem dX1_isLike_34 : decode cX1_isLike 34 = .ok (.getfield 21, 3) := by decide +kernel
theorem dX1_isLike_37 : decode cX1_isLike 37 = .ok (.aload_n 1, 1) := by decide +kernel
theorem dX1_isLike_38 : decode cX1_isLike 38 = .ok (.getfield 21, 3) := by decide +kernel
theorem dX1_isLike_41 : decode cX1_isLike 41 = .ok (.if_icmp .ne 18, 3) := by decide +kernel
theorem dX1_isLike_44 : decode cX1_isLike 44 = .ok (.aload_n 0, 1) := by decide +kernel
theorem dX1_isLike_45 : decode cX1_isLike 45 = .ok (.getfield 24, 3) := by decide +kernel
theorem dX1_isLike_48 : decode cX1_isLike 48 = .ok (.aload_n 1, 1) := by decide +kernel
theorem dX1_isLike_49 : decode cX1_isLike 49 = .ok (.getfield 24, 3) := by decide +kernel
theorem dX1_isLike_52 : decode cX1_isLike 52 = .ok (.if_icmp .ne 7, 3) := by decide +kernel
theorem dX1_isLike_55 : decode cX1_isLike 55 = .ok (.iconst 1, 1) := by decide +kernel
theorem dX1_isLike_56 : decode cX1_isLike 56 = .ok (.goto 4, 3) := by decide +kernel
theorem dX1_isLike_59 : decode cX1_isLike 59 = .ok (.iconst 0, 1) := by decide +kernel
theorem dX1_isLike_60 : decode cX1_isLike 60 = .ok (.ireturn, 1) := by decide +kernel
theorem dX1_secondFor_0 : decode cX1_secondFor 0 = .ok (.aload_n 0, 1) := by decide +kernel
theorem dX1_secondFor_1 : decode cX1_secondFor 1 = .ok (.getfield 9, 3) := by decide +kernel
theorem dX1_secondFor_4 : decode cX1_secondFor 4 = .ok (.iconst 4, 1) := by decide +kernel
theorem dX1_secondFor_5 : decode cX1_secondFor 5 = .ok (.if_icmp .eq 8, 3) := by decide +kernel
theorem dX1_secondFor_8 : decode cX1_secondFor 8 = .ok (.aload_n 0, 1) := by decide +kernel
theorem dX1_secondFor_9 : decode cX1_secondFor 9 = .ok (.getfield 21, 3) := by decide +kernel
theorem dX1_secondFor_12 : decode cX1_secondFor 12 = .ok (.ireturn, 1) := by decide +kernel
theorem dX1_secondFor_13 : decode cX1_secondFor 13 = .ok (.iload_n 1, 1) := by decide +kernel
theorem dX1_secondFor_14 : decode cX1_secondFor 14 = .ok (.ldc 27, 2) := by decide +kernel
theorem dX1_secondFor_16 : decode cX1_secondFor 16 = .ok (.if_icmp .ne 5, 3) := by decide +kernel
theorem dX1_secondFor_19 : decode cX1_secondFor 19 = .ok (.iconst (-1), 1) := by decide +kernel
theorem dX1_secondFor_20 : decode cX1_secondFor 20 = .ok (.ireturn, 1) := by decide +kernel
theorem dX1_secondFor_21 : decode cX1_secondFor 21 = .ok (.iload_n 1, 1) := by decide +kernel
theorem dX1_secondFor_22 : decode cX1_secondFor 22 = .ok (.ifCond .le 10, 3) := by decide +kernel
theorem dX1_secondFor_25 : decode cX1_secondFor 25 = .ok (.aload_n 0, 1) := by decide +kernel
theorem dX1_secondFor_26 : decode cX1_secondFor 26 = .ok (.getfield 21, 3) := by decide +kernel
theorem dX1_secondFor_29 : decode cX1_secondFor 29 = .ok (.goto 7, 3) := by decide +kernel
theorem dX1_secondFor_32 : decode cX1_secondFor 32 = .ok (.aload_n 0, 1) := by decide +kernel
theorem dX1_secondFor_33 : decode cX1_secondFor 33 = .ok (.getfield 24, 3) := by decide +kernel
theorem dX1_secondFor_36 : decode cX1_secondFor 36 = .ok (.ireturn, 1) := by decide +kernel
theorem dX1_give_0 : decode cX1_give 0 = .ok (.iload_n 1, 1) := by decide +kernel
theorem dX1_give_1 : decode cX1_give 1 = .ok (.ldc 27, 2) := by decide +kernel
theorem dX1_give_3 : decode cX1_give 3 = .ok (.if_icmp .eq 9, 3) := by decide +kernel
theorem dX1_give_6 : decode cX1_give 6 = .ok (.iload_n 2, 1) := by decide +kernel
theorem dX1_give_7 : decode cX1_give 7 = .ok (.ldc 27, 2) := by decide +kernel
theorem dX1_give_9 : decode cX1_give 9 = .ok (.if_icmp .ne 6, 3) := by decide +kernel
theorem dX1_give_12 : decode cX1_give 12 = .ok (.ldc 27, 2) := by decide +kernel
theorem dX1_give_14 : decode cX1_give 14 = .ok (.ireturn, 1) := by decide +kernel
theorem dX1_give_15 : decode cX1_give 15 = .ok (.iload_n 2, 1) := by decide +kernel
theorem dX1_give_16 : decode cX1_give 16 = .ok (.i2l, 1) := by decide +kernel
theorem dX1_give_17 : decode cX1_give 17 = .ok (.lstore_n 3, 1) := by decide +kernel
theorem dX1_give_18 : decode cX1_give 18 = .ok (.aload_n 0, 1) := by decide +kernel
theorem dX1_give_19 : decode cX1_give 19 = .ok (.getfield 9, 3) := by decide +kernel
theorem dX1_give_22 : decode cX1_give 22 = .ok (.tableswitch 67 0 3 #[30, 39, 48, 57], 30) := by decide +kernel
theorem dX1_give_52 : decode cX1_give 52 = .ok (.iload_n 1, 1) := by decide +kernel
theorem dX1_give_53 : decode cX1_give 53 = .ok (.i2l, 1) := by decide +kernel
theorem dX1_give_54 : decode cX1_give 54 = .ok (.iload_n 2, 1) := by decide +kernel
theorem dX1_give_55 : decode cX1_give 55 = .ok (.i2l, 1) := by decide +kernel
theorem dX1_give_56 : decode cX1_give 56 = .ok (.ladd, 1) := by decide +kernel
theorem dX1_give_57 : decode cX1_give 57 = .ok (.lstore_n 3, 1) := by decide +kernel
theorem dX1_give_58 : decode cX1_give 58 = .ok (.goto 31, 3) := by decide +kernel
theorem dX1_give_61 : decode cX1_give 61 = .ok (.iload_n 1, 1) := by decide +kernel
theorem dX1_give_62 : decode cX1_give 62 = .ok (.i2l, 1) := by decide +kernel
theorem dX1_give_63 : decode cX1_give 63 = .ok (.iload_n 2, 1) := by decide +kernel
theorem dX1_give_64 : decode cX1_give 64 = .ok (.i2l, 1) := by decide +kernel
theorem dX1_give_65 : decode cX1_give 65 = .ok (.lsub, 1) := by decide +kernel
theorem dX1_give_66 : decode cX1_give 66 = .ok (.lstore_n 3, 1) := by decide +kernel
theorem dX1_give_67 : decode cX1_give 67 = .ok (.goto 22, 3) := by decide +kernel
theorem dX1_give_70 : decode cX1_give 70 = .ok (.iload_n 1, 1) := by decide +kernel
theorem dX1_give_71 : decode cX1_give 71 = .ok (.i2l, 1) := by decide +kernel
theorem dX1_give_72 : decode cX1_give 72 = .ok (.iload_n 2, 1) := by decide +kernel
theorem dX1_give_73 : decode cX1_give 73 = .ok (.i2l, 1) := by decide +kernel
theorem dX1_give_74 : decode cX1_give 74 = .ok (.lmul, 1) := by decide +kernel
theorem dX1_give_75 : decode cX1_give 75 = .ok (.lstore_n 3, 1) := by decide +kernel
theorem dX1_give_76 : decode cX1_give 76 = .ok (.goto 13, 3) := by decide +kernel
theorem dX1_give_79 : decode cX1_give 79 = .ok (.iload_n 1, 1) := by decide +kernel
theorem dX1_give_80 : decode cX1_give 80 = .ok (.iload_n 2, 1) := by decide +kernel
theorem dX1_give_81 : decode cX1_give 81 = .ok (.invokestatic 28, 3) := by decide +kernel
theorem dX1_give_84 : decode cX1_give 84 = .ok (.i2l, 1) := by decide +kernel
theorem dX1_give_85 : decode cX1_give 85 = .ok (.lstore_n 3, 1) := by decide +kernel
theorem dX1_give_86 : decode cX1_give 86 = .ok (.goto 3, 3) := by decide +kernel
theorem dX1_give_89 : decode cX1_give 89 = .ok (.lload_n 3, 1) := by decide +kernel
theorem dX1_give_90 : decode cX1_give 90 = .ok (.ldc2_w 34, 3) := by decide +kernel
theorem dX1_give_93 : decode cX1_give 93 = .ok (.lcmp, 1) := by decide +kernel
theorem dX1_give_94 : decode cX1_give 94 = .ok (.ifCond .lt 11, 3) := by decide +kernel
theorem dX1_give_97 : decode cX1_give 97 = .ok (.lload_n 3, 1) := by decide +kernel
theorem dX1_give_98 : decode cX1_give 98 = .ok (.ldc2_w 36, 3) := by decide +kernel
theorem dX1_give_101 : decode cX1_give 101 = .ok (.lcmp, 1) := by decide +kernel
theorem dX1_give_102 : decode cX1_give 102 = .ok (.ifCond .le 8, 3) := by decide +kernel
theorem dX1_give_105 : decode cX1_give 105 = .ok (.ldc 27, 2) := by decide +kernel
theorem dX1_give_107 : decode cX1_give 107 = .ok (.goto 5, 3) := by decide +kernel
theorem dX1_give_110 : decode cX1_give 110 = .ok (.lload_n 3, 1) := by decide +kernel
theorem dX1_give_111 : decode cX1_give 111 = .ok (.l2i, 1) := by decide +kernel
theorem dX1_give_112 : decode cX1_give 112 = .ok (.ireturn, 1) := by decide +kernel
theorem dX2_init_0 : decode cX2_init 0 = .ok (.aload_n 0, 1) := by decide +kernel
theorem dX2_init_1 : decode cX2_init 1 = .ok (.invokespecial 3, 3) := by decide +kernel
theorem dX2_init_4 : decode cX2_init 4 = .ok (.aload_n 0, 1) := by decide +kernel
theorem dX2_init_5 : decode cX2_init 5 = .ok (.iconst 4, 1) := by decide +kernel
theorem dX2_init_6 : decode cX2_init 6 = .ok (.anewarray 9, 3) := by decide +kernel
theorem dX2_init_9 : decode cX2_init 9 = .ok (.putfield 11, 3) := by decide +kernel
theorem dX2_init_12 : decode cX2_init 12 = .ok (.iconst 0, 1) := by decide +kernel
theorem dX2_init_13 : decode cX2_init 13 = .ok (.istore_n 1, 1) := by decide +kernel
theorem dX2_init_14 : decode cX2_init 14 = .ok (.iload_n 1, 1) := by decide +kernel
theorem dX2_init_15 : decode cX2_init 15 = .ok (.iconst 4, 1) := by decide +kernel
theorem dX2_init_16 : decode cX2_init 16 = .ok (.if_icmp .ge 22, 3) := by decide +kernel
theorem dX2_init_19 : decode cX2_init 19 = .ok (.aload_n 0, 1) := by decide +kernel
theorem dX2_init_20 : decode cX2_init 20 = .ok (.getfield 11, 3) := by decide +kernel
theorem dX2_init_23 : decode cX2_init 23 = .ok (.iload_n 1, 1) := by decide +kernel
theorem dX2_init_24 : decode cX2_init 24 = .ok (.new 9, 3) := by decide +kernel
theorem dX2_init_27 : decode cX2_init 27 = .ok (.dup, 1) := by decide +kernel
theorem dX2_init_28 : decode cX2_init 28 = .ok (.invokespecial 17, 3) := by decide +kernel
theorem dX2_init_31 : decode cX2_init 31 = .ok (.aastore, 1) := by decide +kernel
theorem dX2_init_32 : decode cX2_init 32 = .ok (.iinc 1 1, 3) := by decide +kernel
theorem dX2_init_35 : decode cX2_init 35 = .ok (.goto (-21), 3) := by decide +kernel
theorem dX2_init_38 : decode cX2_init 38 = .ok (.return_, 1) := by decide +kernel
theorem dX2_record_0 : decode cX2_record 0 = .ok (.aload_n 0, 1) := by decide +kernel
theorem dX2_record_1 : decode cX2_record 1 = .ok (.getfield 18, 3) := by decide +kernel
theorem dX2_record_4 : decode cX2_record 4 = .ok (.iconst 4, 1) := by decide +kernel
theorem dX2_record_5 : decode cX2_record 5 = .ok (.if_icmp .lt 7, 3) := by decide +kernel
theorem dX2_record_8 : decode cX2_record 8 = .ok (.aload_n 0, 1) := by decide +kernel
theorem dX2_record_9 : decode cX2_record 9 = .ok (.invokevirtual 22, 3) := by decide +kernel
theorem dX2_record_12 : decode cX2_record 12 = .ok (.aload_n 0, 1) := by decide +kernel
theorem dX2_record_13 : decode cX2_record 13 = .ok (.getfield 11, 3) := by decide +kernel
theorem dX2_record_16 : decode cX2_record 16 = .ok (.aload_n 0, 1) := by decide +kernel
theorem dX2_record_17 : decode cX2_record 17 = .ok (.getfield 18, 3) := by decide +kernel
theorem dX2_record_20 : decode cX2_record 20 = .ok (.aaload, 1) := by decide +kernel
theorem dX2_record_21 : decode cX2_record 21 = .ok (.aload_n 1, 1) := by decide +kernel
theorem dX2_record_22 : decode cX2_record 22 = .ok (.invokevirtual 25, 3) := by decide +kernel
theorem dX2_record_25 : decode cX2_record 25 = .ok (.aload_n 0, 1) := by decide +kernel
theorem dX2_record_26 : decode cX2_record 26 = .ok (.dup, 1) := by decide +kernel
theorem dX2_record_27 : decode cX2_record 27 = .ok (.getfield 18, 3) := by decide +kernel
theorem dX2_record_30 : decode cX2_record 30 = .ok (.iconst 1, 1) := by decide +kernel
theorem dX2_record_31 : decode cX2_record 31 = .ok (.iadd, 1) := by decide +kernel
theorem dX2_record_32 : decode cX2_record 32 = .ok (.putfield 18, 3) := by decide +kernel
theorem dX2_record_35 : decode cX2_record 35 = .ok (.return_, 1) := by decide +kernel
theorem dX2_dropOldest_0 : decode cX2_dropOldest 0 = .ok (.aload_n 0, 1) := by decide +kernel
theorem dX2_dropOldest_1 : decode cX2_dropOldest 1 = .ok (.getfield 11, 3) := by decide +kernel
theorem dX2_dropOldest_4 : decode cX2_dropOldest 4 = .ok (.iconst 0, 1) := by decide +kernel
theorem dX2_dropOldest_5 : decode cX2_dropOldest 5 = .ok (.aaload, 1) := by decide +kernel
theorem dX2_dropOldest_6 : decode cX2_dropOldest 6 = .ok (.astore_n 1, 1) := by decide +kernel
theorem dX2_dropOldest_7 : decode cX2_dropOldest 7 = .ok (.iconst 1, 1) := by decide +kernel
theorem dX2_dropOldest_8 : decode cX2_dropOldest 8 = .ok (.istore_n 2, 1) := by decide +kernel
theorem dX2_dropOldest_9 : decode cX2_dropOldest 9 = .ok (.iload_n 2, 1) := by decide +kernel
theorem dX2_dropOldest_10 : decode cX2_dropOldest 10 = .ok (.iconst 4, 1) := by decide +kernel
theorem dX2_dropOldest_11 : decode cX2_dropOldest 11 = .ok (.if_icmp .ge 23, 3) := by decide +kernel
theorem dX2_dropOldest_14 : decode cX2_dropOldest 14 = .ok (.aload_n 0, 1) := by decide +kernel
theorem dX2_dropOldest_15 : decode cX2_dropOldest 15 = .ok (.getfield 11, 3) := by decide +kernel
theorem dX2_dropOldest_18 : decode cX2_dropOldest 18 = .ok (.iload_n 2, 1) := by decide +kernel
theorem dX2_dropOldest_19 : decode cX2_dropOldest 19 = .ok (.iconst 1, 1) := by decide +kernel
theorem dX2_dropOldest_20 : decode cX2_dropOldest 20 = .ok (.isub, 1) := by decide +kernel
theorem dX2_dropOldest_21 : decode cX2_dropOldest 21 = .ok (.aload_n 0, 1) := by decide +kernel
theorem dX2_dropOldest_22 : decode cX2_dropOldest 22 = .ok (.getfield 11, 3) := by decide +kernel
theorem dX2_dropOldest_25 : decode cX2_dropOldest 25 = .ok (.iload_n 2, 1) := by decide +kernel
theorem dX2_dropOldest_26 : decode cX2_dropOldest 26 = .ok (.aaload, 1) := by decide +kernel
theorem dX2_dropOldest_27 : decode cX2_dropOldest 27 = .ok (.aastore, 1) := by decide +kernel
theorem dX2_dropOldest_28 : decode cX2_dropOldest 28 = .ok (.iinc 2 1, 3) := by decide +kernel
theorem dX2_dropOldest_31 : decode cX2_dropOldest 31 = .ok (.goto (-22), 3) := by decide +kernel
theorem dX2_dropOldest_34 : decode cX2_dropOldest 34 = .ok (.aload_n 0, 1) := by decide +kernel
theorem dX2_dropOldest_35 : decode cX2_dropOldest 35 = .ok (.getfield 11, 3) := by decide +kernel
theorem dX2_dropOldest_38 : decode cX2_dropOldest 38 = .ok (.iconst 3, 1) := by decide +kernel
theorem dX2_dropOldest_39 : decode cX2_dropOldest 39 = .ok (.aload_n 1, 1) := by decide +kernel
theorem dX2_dropOldest_40 : decode cX2_dropOldest 40 = .ok (.aastore, 1) := by decide +kernel
theorem dX2_dropOldest_41 : decode cX2_dropOldest 41 = .ok (.aload_n 0, 1) := by decide +kernel
theorem dX2_dropOldest_42 : decode cX2_dropOldest 42 = .ok (.iconst 3, 1) := by decide +kernel
theorem dX2_dropOldest_43 : decode cX2_dropOldest 43 = .ok (.putfield 18, 3) := by decide +kernel
theorem dX2_dropOldest_46 : decode cX2_dropOldest 46 = .ok (.return_, 1) := by decide +kernel
theorem dX2_restoreLatestTo_0 : decode cX2_restoreLatestTo 0 = .ok (.aload_n 0, 1) := by decide +kernel
theorem dX2_restoreLatestTo_1 : decode cX2_restoreLatestTo 1 = .ok (.getfield 18, 3) := by decide +kernel
theorem dX2_restoreLatestTo_4 : decode cX2_restoreLatestTo 4 = .ok (.ifCond .le 26, 3) := by decide +kernel
theorem dX2_restoreLatestTo_7 : decode cX2_restoreLatestTo 7 = .ok (.aload_n 0, 1) := by decide +kernel
theorem dX2_restoreLatestTo_8 : decode cX2_restoreLatestTo 8 = .ok (.dup, 1) := by decide +kernel
theorem dX2_restoreLatestTo_9 : decode cX2_restoreLatestTo 9 = .ok (.getfield 18, 3) := by decide +kernel
theorem dX2_restoreLatestTo_12 : decode cX2_restoreLatestTo 12 = .ok (.iconst 1, 1) := by decide +kernel
theorem dX2_restoreLatestTo_13 : decode cX2_restoreLatestTo 13 = .ok (.isub, 1) := by decide +kernel
theorem dX2_restoreLatestTo_14 : decode cX2_restoreLatestTo 14 = .ok (.putfield 18, 3) := by decide +kernel
theorem dX2_restoreLatestTo_17 : decode cX2_restoreLatestTo 17 = .ok (.aload_n 1, 1) := by decide +kernel
theorem dX2_restoreLatestTo_18 : decode cX2_restoreLatestTo 18 = .ok (.aload_n 0, 1) := by decide +kernel
theorem dX2_restoreLatestTo_19 : decode cX2_restoreLatestTo 19 = .ok (.getfield 11, 3) := by decide +kernel
theorem dX2_restoreLatestTo_22 : decode cX2_restoreLatestTo 22 = .ok (.aload_n 0, 1) := by decide +kernel
theorem dX2_restoreLatestTo_23 : decode cX2_restoreLatestTo 23 = .ok (.getfield 18, 3) := by decide +kernel
theorem dX2_restoreLatestTo_26 : decode cX2_restoreLatestTo 26 = .ok (.aaload, 1) := by decide +kernel
theorem dX2_restoreLatestTo_27 : decode cX2_restoreLatestTo 27 = .ok (.invokevirtual 25, 3) := by decide +kernel
theorem dX2_restoreLatestTo_30 : decode cX2_restoreLatestTo 30 = .ok (.return_, 1) := by decide +kernel
theorem dX3_init_0 : decode cX3_init 0 = .ok (.aload_n 0, 1) := by decide +kernel
theorem dX3_init_1 : decode cX3_init 1 = .ok (.invokespecial 3, 3) := by decide +kernel
theorem dX3_init_4 : decode cX3_init 4 = .ok (.aload_n 0, 1) := by decide +kernel
theorem dX3_init_5 : decode cX3_init 5 = .ok (.bipush 10, 2) := by decide +kernel
theorem dX3_init_7 : decode cX3_init 7 = .ok (.anewarray 9, 3) := by decide +kernel
theorem dX3_init_10 : decode cX3_init 10 = .ok (.putfield 11, 3) := by decide +kernel
theorem dX3_init_13 : decode cX3_init 13 = .ok (.aload_n 0, 1) := by decide +kernel
theorem dX3_init_14 : decode cX3_init 14 = .ok (.bipush 10, 2) := by decide +kernel
theorem dX3_init_16 : decode cX3_init 16 = .ok (.putfield 17, 3) := by decide +kernel
theorem dX3_init_19 : decode cX3_init 19 = .ok (.iconst 0, 1) := by decide +kernel
theorem dX3_init_20 : decode cX3_init 20 = .ok (.istore_n 1, 1) := by decide +kernel
theorem dX3_init_21 : decode cX3_init 21 = .ok (.iload_n 1, 1) := by decide +kernel
theorem dX3_init_22 : decode cX3_init 22 = .ok (.bipush 10, 2) := by decide +kernel
theorem dX3_init_24 : decode cX3_init 24 = .ok (.if_icmp .ge 22, 3) := by decide +kernel
theorem dX3_init_27 : decode cX3_init 27 = .ok (.aload_n 0, 1) := by decide +kernel
theorem dX3_init_28 : decode cX3_init 28 = .ok (.getfield 11, 3) := by decide +kernel
theorem dX3_init_31 : decode cX3_init 31 = .ok (.iload_n 1, 1) := by decide +kernel
theorem dX3_init_32 : decode cX3_init 32 = .ok (.new 9, 3) := by decide +kernel
theorem dX3_init_35 : decode cX3_init 35 = .ok (.dup, 1) := by decide +kernel
theorem dX3_init_36 : decode cX3_init 36 = .ok (.invokespecial 21, 3) := by decide +kernel
theorem dX3_init_39 : decode cX3_init 39 = .ok (.aastore, 1) := by decide +kernel
theorem dX3_init_40 : decode cX3_init 40 = .ok (.iinc 1 1, 3) := by decide +kernel
theorem dX3_init_43 : decode cX3_init 43 = .ok (.goto (-22), 3) := by decide +kernel
theorem dX3_init_46 : decode cX3_init 46 = .ok (.return_, 1) := by decide +kernel
theorem dX3_copy_0 : decode cX3_copy 0 = .ok (.iconst 0, 1) := by decide +kernel
theorem dX3_copy_1 : decode cX3_copy 1 = .ok (.istore_n 2, 1) := by decide +kernel
theorem dX3_copy_2 : decode cX3_copy 2 = .ok (.iload_n 2, 1) := by decide +kernel
theorem dX3_copy_3 : decode cX3_copy 3 = .ok (.bipush 10, 2) := by decide +kernel
theorem dX3_copy_5 : decode cX3_copy 5 = .ok (.if_icmp .ge 24, 3) := by decide +kernel
theorem dX3_copy_8 : decode cX3_copy 8 = .ok (.aload_n 0, 1) := by decide +kernel
theorem dX3_copy_9 : decode cX3_copy 9 = .ok (.getfield 11, 3) := by decide +kernel
theorem dX3_copy_12 : decode cX3_copy 12 = .ok (.iload_n 2, 1) := by decide +kernel
theorem dX3_copy_13 : decode cX3_copy 13 = .ok (.aaload, 1) := by decide +kernel
theorem dX3_copy_14 : decode cX3_copy 14 = .ok (.aload_n 1, 1) := by decide +kernel
theorem dX3_copy_15 : decode cX3_copy 15 = .ok (.getfield 11, 3) := by decide +kernel
theorem dX3_copy_18 : decode cX3_copy 18 = .ok (.iload_n 2, 1) := by decide +kernel
theorem dX3_copy_19 : decode cX3_copy 19 = .ok (.aaload, 1) := by decide +kernel
theorem dX3_copy_20 : decode cX3_copy 20 = .ok (.invokevirtual 22, 3) := by decide +kernel
theorem dX3_copy_23 : decode cX3_copy 23 = .ok (.iinc 2 1, 3) := by decide +kernel
theorem dX3_copy_26 : decode cX3_copy 26 = .ok (.goto (-24), 3) := by decide +kernel
theorem dX3_copy_29 : decode cX3_copy 29 = .ok (.aload_n 0, 1) := by decide +kernel
theorem dX3_copy_30 : decode cX3_copy 30 = .ok (.aload_n 1, 1) := by decide +kernel
theorem dX3_copy_31 : decode cX3_copy 31 = .ok (.getfield 26, 3) := by decide +kernel
theorem dX3_copy_34 : decode cX3_copy 34 = .ok (.putfield 26, 3) := by decide +kernel
theorem dX3_copy_37 : decode cX3_copy 37 = .ok (.aload_n 0, 1) := by decide +kernel
theorem dX3_copy_38 : decode cX3_copy 38 = .ok (.aload_n 1, 1) := by decide +kernel
theorem dX3_copy_39 : decode cX3_copy 39 = .ok (.getfield 17, 3) := by decide +kernel
theorem dX3_copy_42 : decode cX3_copy 42 = .ok (.putfield 17, 3) := by decide +kernel
theorem dX3_copy_45 : decode cX3_copy 45 = .ok (.aload_n 0, 1) := by decide +kernel
theorem dX3_copy_46 : decode cX3_copy 46 = .ok (.aload_n 1, 1) := by decide +kernel
theorem dX3_copy_47 : decode cX3_copy 47 = .ok (.getfield 29, 3) := by decide +kernel
theorem dX3_copy_50 : decode cX3_copy 50 = .ok (.putfield 29, 3) := by decide +kernel
theorem dX3_copy_53 : decode cX3_copy 53 = .ok (.aload_n 0, 1) := by decide +kernel
theorem dX3_copy_54 : decode cX3_copy 54 = .ok (.aload_n 1, 1) := by decide +kernel
theorem dX3_copy_55 : decode cX3_copy 55 = .ok (.getfield 32, 3) := by decide +kernel
theorem dX3_copy_58 : decode cX3_copy 58 = .ok (.putfield 32, 3) := by decide +kernel
theorem dX3_copy_61 : decode cX3_copy 61 = .ok (.aload_n 0, 1) := by decide +kernel
theorem dX3_copy_62 : decode cX3_copy 62 = .ok (.aload_n 1, 1) := by decide +kernel
theorem dX3_copy_63 : decode cX3_copy 63 = .ok (.getfield 35, 3) := by decide +kernel
theorem dX3_copy_66 : decode cX3_copy 66 = .ok (.putfield 35, 3) := by decide +kernel
theorem dX3_copy_69 : decode cX3_copy 69 = .ok (.aload_n 0, 1) := by decide +kernel
theorem dX3_copy_70 : decode cX3_copy 70 = .ok (.aload_n 1, 1) := by decide +kernel
theorem dX3_copy_71 : decode cX3_copy 71 = .ok (.getfield 38, 3) := by decide +kernel
theorem dX3_copy_74 : decode cX3_copy 74 = .ok (.putfield 38, 3) := by decide +kernel
theorem dX3_copy_77 : decode cX3_copy 77 = .ok (.aload_n 0, 1) := by decide +kernel
theorem dX3_copy_78 : decode cX3_copy 78 = .ok (.aload_n 1, 1) := by decide +kernel
theorem dX3_copy_79 : decode cX3_copy 79 = .ok (.getfield 41, 3) := by decide +kernel
theorem dX3_copy_82 : decode cX3_copy 82 = .ok (.putfield 41, 3) := by decide +kernel
theorem dX3_copy_85 : decode cX3_copy 85 = .ok (.aload_n 0, 1) := by decide +kernel
theorem dX3_copy_86 : decode cX3_copy 86 = .ok (.aload_n 1, 1) := by decide +kernel
theorem dX3_copy_87 : decode cX3_copy 87 = .ok (.getfield 44, 3) := by decide +kernel
theorem dX3_copy_90 : decode cX3_copy 90 = .ok (.putfield 44, 3) := by decide +kernel
theorem dX3_copy_93 : decode cX3_copy 93 = .ok (.aload_n 0, 1) := by decide +kernel
theorem dX3_copy_94 : decode cX3_copy 94 = .ok (.iconst 0, 1) := by decide +kernel
theorem dX3_copy_95 : decode cX3_copy 95 = .ok (.putfield 47, 3) := by decide +kernel
theorem dX3_copy_98 : decode cX3_copy 98 = .ok (.return_, 1) := by decide +kernel
theorem dX3_redefine_0 : decode cX3_redefine 0 = .ok (.aload_n 0, 1) := by decide +kernel
theorem dX3_redefine_1 : decode cX3_redefine 1 = .ok (.getfield 11, 3) := by decide +kernel
theorem dX3_redefine_4 : decode cX3_redefine 4 = .ok (.iload_n 1, 1) := by decide +kernel
theorem dX3_redefine_5 : decode cX3_redefine 5 = .ok (.aaload, 1) := by decide +kernel
theorem dX3_redefine_6 : decode cX3_redefine 6 = .ok (.astore_n 3, 1) := by decide +kernel
theorem dX3_redefine_7 : decode cX3_redefine 7 = .ok (.aload_n 3, 1) := by decide +kernel
theorem dX3_redefine_8 : decode cX3_redefine 8 = .ok (.getfield 50, 3) := by decide +kernel
theorem dX3_redefine_11 : decode cX3_redefine 11 = .ok (.aload_n 2, 1) := by decide +kernel
theorem dX3_redefine_12 : decode cX3_redefine 12 = .ok (.invokevirtual 54, 3) := by decide +kernel
theorem dX3_redefine_15 : decode cX3_redefine 15 = .ok (.ifCond .eq 4, 3) := by decide +kernel
theorem dX3_redefine_18 : decode cX3_redefine 18 = .ok (.return_, 1) := by decide +kernel
theorem dX3_redefine_19 : decode cX3_redefine 19 = .ok (.aload_n 0, 1) := by decide +kernel
theorem dX3_redefine_20 : decode cX3_redefine 20 = .ok (.dup, 1) := by decide +kernel
theorem dX3_redefine_21 : decode cX3_redefine 21 = .ok (.getfield 26, 3) := by decide +kernel
theorem dX3_redefine_24 : decode cX3_redefine 24 = .ok (.iconst 1, 1) := by decide +kernel
theorem dX3_redefine_25 : decode cX3_redefine 25 = .ok (.iadd, 1) := by decide +kernel
theorem dX3_redefine_26 : decode cX3_redefine 26 = .ok (.putfield 26, 3) := by decide +kernel
theorem dX3_redefine_29 : decode cX3_redefine 29 = .ok (.aload_n 3, 1) := by decide +kernel
theorem dX3_redefine_30 : decode cX3_redefine 30 = .ok (.getfield 50, 3) := by decide +kernel
theorem dX3_redefine_33 : decode cX3_redefine 33 = .ok (.aload_n 2, 1) := by decide +kernel
theorem dX3_redefine_34 : decode cX3_redefine 34 = .ok (.invokevirtual 60, 3) := by decide +kernel
theorem dX3_redefine_37 : decode cX3_redefine 37 = .ok (.aload_n 3, 1) := by decide +kernel
theorem dX3_redefine_38 : decode cX3_redefine 38 = .ok (.aload_n 0, 1) := by decide +kernel
theorem dX3_redefine_39 : decode cX3_redefine 39 = .ok (.getfield 26, 3) := by decide +kernel
theorem dX3_redefine_42 : decode cX3_redefine 42 = .ok (.putfield 63, 3) := by decide +kernel
theorem dX3_redefine_45 : decode cX3_redefine 45 = .ok (.aload_n 3, 1) := by decide +kernel
theorem dX3_redefine_46 : decode cX3_redefine 46 = .ok (.iconst 0, 1) := by decide +kernel
theorem dX3_redefine_47 : decode cX3_redefine 47 = .ok (.putfield 66, 3) := by decide +kernel
theorem dX3_redefine_50 : decode cX3_redefine 50 = .ok (.return_, 1) := by decide +kernel
theorem dX3_rememberedAnswers_0 : decode cX3_rememberedAnswers 0 = .ok (.iconst 0, 1) := by decide +kernel
theorem dX3_rememberedAnswers_1 : decode cX3_rememberedAnswers 1 = .ok (.istore_n 1, 1) := by decide +kernel
theorem dX3_rememberedAnswers_2 : decode cX3_rememberedAnswers 2 = .ok (.iconst 0, 1) := by decide +kernel
theorem dX3_rememberedAnswers_3 : decode cX3_rememberedAnswers 3 = .ok (.istore_n 2, 1) := by decide +kernel
theorem dX3_rememberedAnswers_4 : decode cX3_rememberedAnswers 4 = .ok (.iload_n 2, 1) := by decide +kernel
theorem dX3_rememberedAnswers_5 : decode cX3_rememberedAnswers 5 = .ok (.bipush 10, 2) := by decide +kernel
theorem dX3_rememberedAnswers_7 : decode cX3_rememberedAnswers 7 = .ok (.if_icmp .ge 24, 3) := by decide +kernel
theorem dX3_rememberedAnswers_10 : decode cX3_rememberedAnswers 10 = .ok (.aload_n 0, 1) := by decide +kernel
theorem dX3_rememberedAnswers_11 : decode cX3_rememberedAnswers 11 = .ok (.getfield 11, 3) := by decide +kernel
theorem dX3_rememberedAnswers_14 : decode cX3_rememberedAnswers 14 = .ok (.iload_n 2, 1) := by decide +kernel
theorem dX3_rememberedAnswers_15 : decode cX3_rememberedAnswers 15 = .ok (.aaload, 1) := by decide +kernel
theorem dX3_rememberedAnswers_16 : decode cX3_rememberedAnswers 16 = .ok (.getfield 66, 3) := by decide +kernel
theorem dX3_rememberedAnswers_19 : decode cX3_rememberedAnswers 19 = .ok (.ifCond .eq 6, 3) := by decide +kernel
theorem dX3_rememberedAnswers_22 : decode cX3_rememberedAnswers 22 = .ok (.iinc 1 1, 3) := by decide +kernel
theorem dX3_rememberedAnswers_25 : decode cX3_rememberedAnswers 25 = .ok (.iinc 2 1, 3) := by decide +kernel
theorem dX3_rememberedAnswers_28 : decode cX3_rememberedAnswers 28 = .ok (.goto (-24), 3) := by decide +kernel
theorem dX3_rememberedAnswers_31 : decode cX3_rememberedAnswers 31 = .ok (.iload_n 1, 1) := by decide +kernel
theorem dX3_rememberedAnswers_32 : decode cX3_rememberedAnswers 32 = .ok (.ireturn, 1) := by decide +kernel
theorem dX3_placeOf_0 : decode cX3_placeOf 0 = .ok (.iconst 0, 1) := by decide +kernel
theorem dX3_placeOf_1 : decode cX3_placeOf 1 = .ok (.istore_n 2, 1) := by decide +kernel
theorem dX3_placeOf_2 : decode cX3_placeOf 2 = .ok (.iconst 0, 1) := by decide +kernel
theorem dX3_placeOf_3 : decode cX3_placeOf 3 = .ok (.istore_n 3, 1) := by decide +kernel
theorem dX3_placeOf_4 : decode cX3_placeOf 4 = .ok (.iload_n 3, 1) := by decide +kernel
theorem dX3_placeOf_5 : decode cX3_placeOf 5 = .ok (.bipush 10, 2) := by decide +kernel
theorem dX3_placeOf_7 : decode cX3_placeOf 7 = .ok (.if_icmp .ge 45, 3) := by decide +kernel
theorem dX3_placeOf_10 : decode cX3_placeOf 10 = .ok (.aload_n 0, 1) := by decide +kernel
theorem dX3_placeOf_11 : decode cX3_placeOf 11 = .ok (.getfield 11, 3) := by decide +kernel
theorem dX3_placeOf_14 : decode cX3_placeOf 14 = .ok (.iload_n 3, 1) := by decide +kernel
theorem dX3_placeOf_15 : decode cX3_placeOf 15 = .ok (.aaload, 1) := by decide +kernel
theorem dX3_placeOf_16 : decode cX3_placeOf 16 = .ok (.getfield 66, 3) := by decide +kernel
theorem dX3_placeOf_19 : decode cX3_placeOf 19 = .ok (.ifCond .eq 27, 3) := by decide +kernel
theorem dX3_placeOf_22 : decode cX3_placeOf 22 = .ok (.aload_n 0, 1) := by decide +kernel
theorem dX3_placeOf_23 : decode cX3_placeOf 23 = .ok (.getfield 11, 3) := by decide +kernel
theorem dX3_placeOf_26 : decode cX3_placeOf 26 = .ok (.iload_n 3, 1) := by decide +kernel
theorem dX3_placeOf_27 : decode cX3_placeOf 27 = .ok (.aaload, 1) := by decide +kernel
theorem dX3_placeOf_28 : decode cX3_placeOf 28 = .ok (.getfield 70, 3) := by decide +kernel
theorem dX3_placeOf_31 : decode cX3_placeOf 31 = .ok (.aload_n 0, 1) := by decide +kernel
theorem dX3_placeOf_32 : decode cX3_placeOf 32 = .ok (.getfield 11, 3) := by decide +kernel
theorem dX3_placeOf_35 : decode cX3_placeOf 35 = .ok (.iload_n 1, 1) := by decide +kernel
theorem dX3_placeOf_36 : decode cX3_placeOf 36 = .ok (.aaload, 1) := by decide +kernel
theorem dX3_placeOf_37 : decode cX3_placeOf 37 = .ok (.getfield 70, 3) := by decide +kernel
theorem dX3_placeOf_40 : decode cX3_placeOf 40 = .ok (.if_icmp .ge 6, 3) := by decide +kernel
theorem dX3_placeOf_43 : decode cX3_placeOf 43 = .ok (.iinc 2 1, 3) := by decide +kernel
theorem dX3_placeOf_46 : decode cX3_placeOf 46 = .ok (.iinc 3 1, 3) := by decide +kernel
theorem dX3_placeOf_49 : decode cX3_placeOf 49 = .ok (.goto (-45), 3) := by decide +kernel
theorem dX3_placeOf_52 : decode cX3_placeOf 52 = .ok (.iload_n 2, 1) := by decide +kernel
theorem dX3_placeOf_53 : decode cX3_placeOf 53 = .ok (.ireturn, 1) := by decide +kernel
theorem dX3_forgetAnswer_0 : decode cX3_forgetAnswer 0 = .ok (.aload_n 0, 1) := by decide +kernel
theorem dX3_forgetAnswer_1 : decode cX3_forgetAnswer 1 = .ok (.getfield 11, 3) := by decide +kernel
theorem dX3_forgetAnswer_4 : decode cX3_forgetAnswer 4 = .ok (.iload_n 1, 1) := by decide +kernel
theorem dX3_forgetAnswer_5 : decode cX3_forgetAnswer 5 = .ok (.aaload, 1) := by decide +kernel
theorem dX3_forgetAnswer_6 : decode cX3_forgetAnswer 6 = .ok (.iconst 0, 1) := by decide +kernel
theorem dX3_forgetAnswer_7 : decode cX3_forgetAnswer 7 = .ok (.putfield 66, 3) := by decide +kernel
theorem dX3_forgetAnswer_10 : decode cX3_forgetAnswer 10 = .ok (.aload_n 0, 1) := by decide +kernel
theorem dX3_forgetAnswer_11 : decode cX3_forgetAnswer 11 = .ok (.dup, 1) := by decide +kernel
theorem dX3_forgetAnswer_12 : decode cX3_forgetAnswer 12 = .ok (.getfield 38, 3) := by decide +kernel
theorem dX3_forgetAnswer_15 : decode cX3_forgetAnswer 15 = .ok (.iconst 1, 1) := by decide +kernel
theorem dX3_forgetAnswer_16 : decode cX3_forgetAnswer 16 = .ok (.iadd, 1) := by decide +kernel
theorem dX3_forgetAnswer_17 : decode cX3_forgetAnswer 17 = .ok (.putfield 38, 3) := by decide +kernel
theorem dX3_forgetAnswer_20 : decode cX3_forgetAnswer 20 = .ok (.return_, 1) := by decide +kernel
theorem dX3_forgetBeyondBound_0 : decode cX3_forgetBeyondBound 0 = .ok (.aload_n 0, 1) := by decide +kernel
theorem dX3_forgetBeyondBound_1 : decode cX3_forgetBeyondBound 1 = .ok (.invokevirtual 73, 3) := by decide +kernel
theorem dX3_forgetBeyondBound_4 : decode cX3_forgetBeyondBound 4 = .ok (.aload_n 0, 1) := by decide +kernel
theorem dX3_forgetBeyondBound_5 : decode cX3_forgetBeyondBound 5 = .ok (.getfield 17, 3) := by decide +kernel
theorem dX3_forgetBeyondBound_8 : decode cX3_forgetBeyondBound 8 = .ok (.isub, 1) := by decide +kernel
theorem dX3_forgetBeyondBound_9 : decode cX3_forgetBeyondBound 9 = .ok (.istore_n 1, 1) := by decide +kernel
theorem dX3_forgetBeyondBound_10 : decode cX3_forgetBeyondBound 10 = .ok (.iconst 0, 1) := by decide +kernel
theorem dX3_forgetBeyondBound_11 : decode cX3_forgetBeyondBound 11 = .ok (.istore_n 2, 1) := by decide +kernel
theorem dX3_forgetBeyondBound_12 : decode cX3_forgetBeyondBound 12 = .ok (.iload_n 2, 1) := by decide +kernel
theorem dX3_forgetBeyondBound_13 : decode cX3_forgetBeyondBound 13 = .ok (.iload_n 1, 1) := by decide +kernel
theorem dX3_forgetBeyondBound_14 : decode cX3_forgetBeyondBound 14 = .ok (.if_icmp .ge 13, 3) := by decide +kernel
theorem dX3_forgetBeyondBound_17 : decode cX3_forgetBeyondBound 17 = .ok (.aload_n 0, 1) := by decide +kernel
theorem dX3_forgetBeyondBound_18 : decode cX3_forgetBeyondBound 18 = .ok (.invokevirtual 77, 3) := by decide +kernel
theorem dX3_forgetBeyondBound_21 : decode cX3_forgetBeyondBound 21 = .ok (.iinc 2 1, 3) := by decide +kernel
theorem dX3_forgetBeyondBound_24 : decode cX3_forgetBeyondBound 24 = .ok (.goto (-12), 3) := by decide +kernel
theorem dX3_forgetBeyondBound_27 : decode cX3_forgetBeyondBound 27 = .ok (.return_, 1) := by decide +kernel
theorem dX3_forgetOldest_0 : decode cX3_forgetOldest 0 = .ok (.iconst (-1), 1) := by decide +kernel
theorem dX3_forgetOldest_1 : decode cX3_forgetOldest 1 = .ok (.istore_n 1, 1) := by decide +kernel
theorem dX3_forgetOldest_2 : decode cX3_forgetOldest 2 = .ok (.iconst 0, 1) := by decide +kernel
theorem dX3_forgetOldest_3 : decode cX3_forgetOldest 3 = .ok (.istore_n 2, 1) := by decide +kernel
theorem dX3_forgetOldest_4 : decode cX3_forgetOldest 4 = .ok (.iload_n 2, 1) := by decide +kernel
theorem dX3_forgetOldest_5 : decode cX3_forgetOldest 5 = .ok (.bipush 10, 2) := by decide +kernel
theorem dX3_forgetOldest_7 : decode cX3_forgetOldest 7 = .ok (.if_icmp .ge 49, 3) := by decide +kernel
theorem dX3_forgetOldest_10 : decode cX3_forgetOldest 10 = .ok (.aload_n 0, 1) := by decide +kernel
theorem dX3_forgetOldest_11 : decode cX3_forgetOldest 11 = .ok (.getfield 11, 3) := by decide +kernel
theorem dX3_forgetOldest_14 : decode cX3_forgetOldest 14 = .ok (.iload_n 2, 1) := by decide +kernel
theorem dX3_forgetOldest_15 : decode cX3_forgetOldest 15 = .ok (.aaload, 1) := by decide +kernel
theorem dX3_forgetOldest_16 : decode cX3_forgetOldest 16 = .ok (.getfield 66, 3) := by decide +kernel
theorem dX3_forgetOldest_19 : decode cX3_forgetOldest 19 = .ok (.ifCond .eq 31, 3) := by decide +kernel
theorem dX3_forgetOldest_22 : decode cX3_forgetOldest 22 = .ok (.iload_n 1, 1) := by decide +kernel
theorem dX3_forgetOldest_23 : decode cX3_forgetOldest 23 = .ok (.iconst (-1), 1) := by decide +kernel
theorem dX3_forgetOldest_24 : decode cX3_forgetOldest 24 = .ok (.if_icmp .eq 24, 3) := by decide +kernel
theorem dX3_forgetOldest_27 : decode cX3_forgetOldest 27 = .ok (.aload_n 0, 1) := by decide +kernel
theorem dX3_forgetOldest_28 : decode cX3_forgetOldest 28 = .ok (.getfield 11, 3) := by decide +kernel
theorem dX3_forgetOldest_31 : decode cX3_forgetOldest 31 = .ok (.iload_n 2, 1) := by decide +kernel
theorem dX3_forgetOldest_32 : decode cX3_forgetOldest 32 = .ok (.aaload, 1) := by decide +kernel
theorem dX3_forgetOldest_33 : decode cX3_forgetOldest 33 = .ok (.getfield 70, 3) := by decide +kernel
theorem dX3_forgetOldest_36 : decode cX3_forgetOldest 36 = .ok (.aload_n 0, 1) := by decide +kernel
theorem dX3_forgetOldest_37 : decode cX3_forgetOldest 37 = .ok (.getfield 11, 3) := by decide +kernel
theorem dX3_forgetOldest_40 : decode cX3_forgetOldest 40 = .ok (.iload_n 1, 1) := by decide +kernel
theorem dX3_forgetOldest_41 : decode cX3_forgetOldest 41 = .ok (.aaload, 1) := by decide +kernel
theorem dX3_forgetOldest_42 : decode cX3_forgetOldest 42 = .ok (.getfield 70, 3) := by decide +kernel
theorem dX3_forgetOldest_45 : decode cX3_forgetOldest 45 = .ok (.if_icmp .ge 5, 3) := by decide +kernel
theorem dX3_forgetOldest_48 : decode cX3_forgetOldest 48 = .ok (.iload_n 2, 1) := by decide +kernel
theorem dX3_forgetOldest_49 : decode cX3_forgetOldest 49 = .ok (.istore_n 1, 1) := by decide +kernel
theorem dX3_forgetOldest_50 : decode cX3_forgetOldest 50 = .ok (.iinc 2 1, 3) := by decide +kernel
theorem dX3_forgetOldest_53 : decode cX3_forgetOldest 53 = .ok (.goto (-49), 3) := by decide +kernel
theorem dX3_forgetOldest_56 : decode cX3_forgetOldest 56 = .ok (.iload_n 1, 1) := by decide +kernel
theorem dX3_forgetOldest_57 : decode cX3_forgetOldest 57 = .ok (.iconst (-1), 1) := by decide +kernel
theorem dX3_forgetOldest_58 : decode cX3_forgetOldest 58 = .ok (.if_icmp .eq 8, 3) := by decide +kernel
theorem dX3_forgetOldest_61 : decode cX3_forgetOldest 61 = .ok (.aload_n 0, 1) := by decide +kernel
theorem dX3_forgetOldest_62 : decode cX3_forgetOldest 62 = .ok (.iload_n 1, 1) := by decide +kernel
theorem dX3_forgetOldest_63 : decode cX3_forgetOldest 63 = .ok (.invokevirtual 80, 3) := by decide +kernel
theorem dX3_forgetOldest_66 : decode cX3_forgetOldest 66 = .ok (.return_, 1) := by decide +kernel
theorem dX3_dropAnswers_0 : decode cX3_dropAnswers 0 = .ok (.iconst 0, 1) := by decide +kernel
theorem dX3_dropAnswers_1 : decode cX3_dropAnswers 1 = .ok (.istore_n 1, 1) := by decide +kernel
theorem dX3_dropAnswers_2 : decode cX3_dropAnswers 2 = .ok (.iload_n 1, 1) := by decide +kernel
theorem dX3_dropAnswers_3 : decode cX3_dropAnswers 3 = .ok (.bipush 10, 2) := by decide +kernel
theorem dX3_dropAnswers_5 : decode cX3_dropAnswers 5 = .ok (.if_icmp .ge 19, 3) := by decide +kernel
theorem dX3_dropAnswers_8 : decode cX3_dropAnswers 8 = .ok (.aload_n 0, 1) := by decide +kernel
theorem dX3_dropAnswers_9 : decode cX3_dropAnswers 9 = .ok (.getfield 11, 3) := by decide +kernel
theorem dX3_dropAnswers_12 : decode cX3_dropAnswers 12 = .ok (.iload_n 1, 1) := by decide +kernel
theorem dX3_dropAnswers_13 : decode cX3_dropAnswers 13 = .ok (.aaload, 1) := by decide +kernel
theorem dX3_dropAnswers_14 : decode cX3_dropAnswers 14 = .ok (.iconst 0, 1) := by decide +kernel
theorem dX3_dropAnswers_15 : decode cX3_dropAnswers 15 = .ok (.putfield 66, 3) := by decide +kernel
theorem dX3_dropAnswers_18 : decode cX3_dropAnswers 18 = .ok (.iinc 1 1, 3) := by decide +kernel
theorem dX3_dropAnswers_21 : decode cX3_dropAnswers 21 = .ok (.goto (-19), 3) := by decide +kernel
theorem dX3_dropAnswers_24 : decode cX3_dropAnswers 24 = .ok (.return_, 1) := by decide +kernel
theorem dX3_lookAt_0 : decode cX3_lookAt 0 = .ok (.aload_n 0, 1) := by decide +kernel
theorem dX3_lookAt_1 : decode cX3_lookAt 1 = .ok (.iload_n 1, 1) := by decide +kernel
theorem dX3_lookAt_2 : decode cX3_lookAt 2 = .ok (.iconst 0, 1) := by decide +kernel
theorem dX3_lookAt_3 : decode cX3_lookAt 3 = .ok (.invokevirtual 84, 3) := by decide +kernel
theorem dX3_lookAt_6 : decode cX3_lookAt 6 = .ok (.iconst (-1), 1) := by decide +kernel
theorem dX3_lookAt_7 : decode cX3_lookAt 7 = .ok (.if_icmp .eq 7, 3) := by decide +kernel
theorem dX3_lookAt_10 : decode cX3_lookAt 10 = .ok (.iconst 1, 1) := by decide +kernel
theorem dX3_lookAt_11 : decode cX3_lookAt 11 = .ok (.goto 4, 3) := by decide +kernel
theorem dX3_lookAt_14 : decode cX3_lookAt 14 = .ok (.iconst 0, 1) := by decide +kernel
theorem dX3_lookAt_15 : decode cX3_lookAt 15 = .ok (.ireturn, 1) := by decide +kernel
theorem dX3_look_0 : decode cX3_look 0 = .ok (.aload_n 0, 1) := by decide +kernel
theorem dX3_look_1 : decode cX3_look 1 = .ok (.getfield 11, 3) := by decide +kernel
theorem dX3_look_4 : decode cX3_look 4 = .ok (.iload_n 1, 1) := by decide +kernel
theorem dX3_look_5 : decode cX3_look 5 = .ok (.aaload, 1) := by decide +kernel
theorem dX3_look_6 : decode cX3_look 6 = .ok (.astore_n 3, 1) := by decide +kernel
theorem dX3_look_7 : decode cX3_look 7 = .ok (.aload_n 0, 1) := by decide +kernel
theorem dX3_look_8 : decode cX3_look 8 = .ok (.dup, 1) := by decide +kernel
theorem dX3_look_9 : decode cX3_look 9 = .ok (.getfield 47, 3) := by decide +kernel
theorem dX3_look_12 : decode cX3_look 12 = .ok (.iconst 1, 1) := by decide +kernel
theorem dX3_look_13 : decode cX3_look 13 = .ok (.iload_n 1, 1) := by decide +kernel
theorem dX3_look_14 : decode cX3_look 14 = .ok (.ishl, 1) := by decide +kernel
theorem dX3_look_15 : decode cX3_look 15 = .ok (.ior, 1) := by decide +kernel
theorem dX3_look_16 : decode cX3_look 16 = .ok (.putfield 47, 3) := by decide +kernel
theorem dX3_look_19 : decode cX3_look 19 = .ok (.aload_n 3, 1) := by decide +kernel
theorem dX3_look_20 : decode cX3_look 20 = .ok (.getfield 50, 3) := by decide +kernel
theorem dX3_look_23 : decode cX3_look 23 = .ok (.getfield 88, 3) := by decide +kernel
theorem dX3_look_26 : decode cX3_look 26 = .ok (.iconst (-1), 1) := by decide +kernel
theorem dX3_look_27 : decode cX3_look 27 = .ok (.if_icmp .ne 8, 3) := by decide +kernel
theorem dX3_look_30 : decode cX3_look 30 = .ok (.aload_n 3, 1) := by decide +kernel
theorem dX3_look_31 : decode cX3_look 31 = .ok (.getfield 63, 3) := by decide +kernel
theorem dX3_look_34 : decode cX3_look 34 = .ok (.ireturn, 1) := by decide +kernel
theorem dX3_look_35 : decode cX3_look 35 = .ok (.aload_n 3, 1) := by decide +kernel
theorem dX3_look_36 : decode cX3_look 36 = .ok (.getfield 91, 3) := by decide +kernel
theorem dX3_look_39 : decode cX3_look 39 = .ok (.ifCond .ne 9, 3) := by decide +kernel
theorem dX3_look_42 : decode cX3_look 42 = .ok (.iload_n 2, 1) := by decide +kernel
theorem dX3_look_43 : decode cX3_look 43 = .ok (.bipush 10, 2) := by decide +kernel
theorem dX3_look_45 : decode cX3_look 45 = .ok (.if_icmp .lt 5, 3) := by decide +kernel
theorem dX3_look_48 : decode cX3_look 48 = .ok (.iconst (-1), 1) := by decide +kernel
theorem dX3_look_49 : decode cX3_look 49 = .ok (.ireturn, 1) := by decide +kernel
theorem dX3_look_50 : decode cX3_look 50 = .ok (.aload_n 3, 1) := by decide +kernel
theorem dX3_look_51 : decode cX3_look 51 = .ok (.getfield 66, 3) := by decide +kernel
theorem dX3_look_54 : decode cX3_look 54 = .ok (.ifCond .eq 27, 3) := by decide +kernel
theorem dX3_look_57 : decode cX3_look 57 = .ok (.aload_n 3, 1) := by decide +kernel
theorem dX3_look_58 : decode cX3_look 58 = .ok (.getfield 94, 3) := by decide +kernel
theorem dX3_look_61 : decode cX3_look 61 = .ok (.aload_n 0, 1) := by decide +kernel
theorem dX3_look_62 : decode cX3_look 62 = .ok (.getfield 26, 3) := by decide +kernel
theorem dX3_look_65 : decode cX3_look 65 = .ok (.if_icmp .ne 16, 3) := by decide +kernel
theorem dX3_look_68 : decode cX3_look 68 = .ok (.aload_n 0, 1) := by decide +kernel
theorem dX3_look_69 : decode cX3_look 69 = .ok (.dup, 1) := by decide +kernel
theorem dX3_look_70 : decode cX3_look 70 = .ok (.getfield 35, 3) := by decide +kernel
theorem dX3_look_73 : decode cX3_look 73 = .ok (.iconst 1, 1) := by decide +kernel
theorem dX3_look_74 : decode cX3_look 74 = .ok (.iadd, 1) := by decide +kernel
theorem dX3_look_75 : decode cX3_look 75 = .ok (.putfield 35, 3) := by decide +kernel
theorem dX3_look_78 : decode cX3_look 78 = .ok (.goto 30, 3) := by decide +kernel
theorem dX3_look_81 : decode cX3_look 81 = .ok (.aload_n 3, 1) := by decide +kernel
theorem dX3_look_82 : decode cX3_look 82 = .ok (.iconst 1, 1) := by decide +kernel
theorem dX3_look_83 : decode cX3_look 83 = .ok (.putfield 91, 3) := by decide +kernel
theorem dX3_look_86 : decode cX3_look 86 = .ok (.aload_n 0, 1) := by decide +kernel
theorem dX3_look_87 : decode cX3_look 87 = .ok (.aload_n 3, 1) := by decide +kernel
theorem dX3_look_88 : decode cX3_look 88 = .ok (.iload_n 2, 1) := by decide +kernel
theorem dX3_look_89 : decode cX3_look 89 = .ok (.iconst 1, 1) := by decide +kernel
theorem dX3_look_90 : decode cX3_look 90 = .ok (.iadd, 1) := by decide +kernel
theorem dX3_look_91 : decode cX3_look 91 = .ok (.invokevirtual 97, 3) := by decide +kernel
theorem dX3_look_94 : decode cX3_look 94 = .ok (.istore 4, 2) := by decide +kernel
theorem dX3_look_96 : decode cX3_look 96 = .ok (.aload_n 3, 1) := by decide +kernel
theorem dX3_look_97 : decode cX3_look 97 = .ok (.iconst 0, 1) := by decide +kernel
theorem dX3_look_98 : decode cX3_look 98 = .ok (.putfield 91, 3) := by decide +kernel
theorem dX3_look_101 : decode cX3_look 101 = .ok (.iload 4, 2) := by decide +kernel
theorem dX3_look_103 : decode cX3_look 103 = .ok (.ifCond .ne 5, 3) := by decide +kernel
theorem dX3_look_106 : decode cX3_look 106 = .ok (.iconst (-1), 1) := by decide +kernel
theorem dX3_look_107 : decode cX3_look 107 = .ok (.ireturn, 1) := by decide +kernel
theorem dX3_look_108 : decode cX3_look 108 = .ok (.aload_n 0, 1) := by decide +kernel
theorem dX3_look_109 : decode cX3_look 109 = .ok (.dup, 1) := by decide +kernel
theorem dX3_look_110 : decode cX3_look 110 = .ok (.getfield 44, 3) := by decide +kernel
theorem dX3_look_113 : decode cX3_look 113 = .ok (.iconst 1, 1) := by decide +kernel
theorem dX3_look_114 : decode cX3_look 114 = .ok (.iadd, 1) := by decide +kernel
theorem dX3_look_115 : decode cX3_look 115 = .ok (.putfield 44, 3) := by decide +kernel
theorem dX3_look_118 : decode cX3_look 118 = .ok (.aload_n 3, 1) := by decide +kernel
theorem dX3_look_119 : decode cX3_look 119 = .ok (.aload_n 0, 1) := by decide +kernel
theorem dX3_look_120 : decode cX3_look 120 = .ok (.getfield 44, 3) := by decide +kernel
theorem dX3_look_123 : decode cX3_look 123 = .ok (.putfield 70, 3) := by decide +kernel
theorem dX3_look_126 : decode cX3_look 126 = .ok (.aload_n 3, 1) := by decide +kernel
theorem dX3_look_127 : decode cX3_look 127 = .ok (.getfield 63, 3) := by decide +kernel
theorem dX3_look_130 : decode cX3_look 130 = .ok (.ireturn, 1) := by decide +kernel
theorem dX3_bringUpToDate_0 : decode cX3_bringUpToDate 0 = .ok (.aload_n 1, 1) := by decide +kernel
theorem dX3_bringUpToDate_1 : decode cX3_bringUpToDate 1 = .ok (.getfield 66, 3) := by decide +kernel
theorem dX3_bringUpToDate_4 : decode cX3_bringUpToDate 4 = .ok (.ifCond .ne 10, 3) := by decide +kernel
theorem dX3_bringUpToDate_7 : decode cX3_bringUpToDate 7 = .ok (.aload_n 0, 1) := by decide +kernel
theorem dX3_bringUpToDate_8 : decode cX3_bringUpToDate 8 = .ok (.aload_n 1, 1) := by decide +kernel
theorem dX3_bringUpToDate_9 : decode cX3_bringUpToDate 9 = .ok (.iload_n 2, 1) := by decide +kernel
theorem dX3_bringUpToDate_10 : decode cX3_bringUpToDate 10 = .ok (.invokevirtual 101, 3) := by decide +kernel
theorem dX3_bringUpToDate_13 : decode cX3_bringUpToDate 13 = .ok (.ireturn, 1) := by decide +kernel
theorem dX3_bringUpToDate_14 : decode cX3_bringUpToDate 14 = .ok (.aload_n 0, 1) := by decide +kernel
theorem dX3_bringUpToDate_15 : decode cX3_bringUpToDate 15 = .ok (.aload_n 1, 1) := by decide +kernel
theorem dX3_bringUpToDate_16 : decode cX3_bringUpToDate 16 = .ok (.iload_n 2, 1) := by decide +kernel
theorem dX3_bringUpToDate_17 : decode cX3_bringUpToDate 17 = .ok (.invokevirtual 104, 3) := by decide +kernel
theorem dX3_bringUpToDate_20 : decode cX3_bringUpToDate 20 = .ok (.istore_n 3, 1) := by decide +kernel
theorem dX3_bringUpToDate_21 : decode cX3_bringUpToDate 21 = .ok (.iload_n 3, 1) := by decide +kernel
theorem dX3_bringUpToDate_22 : decode cX3_bringUpToDate 22 = .ok (.iconst (-1), 1) := by decide +kernel
theorem dX3_bringUpToDate_23 : decode cX3_bringUpToDate 23 = .ok (.if_icmp .ne 5, 3) := by decide +kernel
theorem dX3_bringUpToDate_26 : decode cX3_bringUpToDate 26 = .ok (.iconst 0, 1) := by decide +kernel
theorem dX3_bringUpToDate_27 : decode cX3_bringUpToDate 27 = .ok (.ireturn, 1) := by decide +kernel
theorem dX3_bringUpToDate_28 : decode cX3_bringUpToDate 28 = .ok (.iload_n 3, 1) := by decide +kernel
theorem dX3_bringUpToDate_29 : decode cX3_bringUpToDate 29 = .ok (.aload_n 1, 1) := by decide +kernel
theorem dX3_bringUpToDate_30 : decode cX3_bringUpToDate 30 = .ok (.getfield 94, 3) := by decide +kernel
theorem dX3_bringUpToDate_33 : decode cX3_bringUpToDate 33 = .ok (.if_icmp .le 10, 3) := by decide +kernel
theorem dX3_bringUpToDate_36 : decode cX3_bringUpToDate 36 = .ok (.aload_n 0, 1) := by decide +kernel
theorem dX3_bringUpToDate_37 : decode cX3_bringUpToDate 37 = .ok (.aload_n 1, 1) := by decide +kernel
theorem dX3_bringUpToDate_38 : decode cX3_bringUpToDate 38 = .ok (.iload_n 2, 1) := by decide +kernel
theorem dX3_bringUpToDate_39 : decode cX3_bringUpToDate 39 = .ok (.invokevirtual 101, 3) := by decide +kernel
theorem dX3_bringUpToDate_42 : decode cX3_bringUpToDate 42 = .ok (.ireturn, 1) := by decide +kernel
theorem dX3_bringUpToDate_43 : decode cX3_bringUpToDate 43 = .ok (.aload_n 0, 1) := by decide +kernel
theorem dX3_bringUpToDate_44 : decode cX3_bringUpToDate 44 = .ok (.dup, 1) := by decide +kernel
theorem dX3_bringUpToDate_45 : decode cX3_bringUpToDate 45 = .ok (.getfield 32, 3) := by decide +kernel
theorem dX3_bringUpToDate_48 : decode cX3_bringUpToDate 48 = .ok (.iconst 1, 1) := by decide +kernel
theorem dX3_bringUpToDate_49 : decode cX3_bringUpToDate 49 = .ok (.iadd, 1) := by decide +kernel
theorem dX3_bringUpToDate_50 : decode cX3_bringUpToDate 50 = .ok (.putfield 32, 3) := by decide +kernel
theorem dX3_bringUpToDate_53 : decode cX3_bringUpToDate 53 = .ok (.aload_n 1, 1) := by decide +kernel
theorem dX3_bringUpToDate_54 : decode cX3_bringUpToDate 54 = .ok (.aload_n 0, 1) := by decide +kernel
theorem dX3_bringUpToDate_55 : decode cX3_bringUpToDate 55 = .ok (.getfield 26, 3) := by decide +kernel
theorem dX3_bringUpToDate_58 : decode cX3_bringUpToDate 58 = .ok (.putfield 94, 3) := by decide +kernel
theorem dX3_bringUpToDate_61 : decode cX3_bringUpToDate 61 = .ok (.iconst 1, 1) := by decide +kernel
theorem dX3_bringUpToDate_62 : decode cX3_bringUpToDate 62 = .ok (.ireturn, 1) := by decide +kernel
theorem dX3_lookForChange_0 : decode cX3_lookForChange 0 = .ok (.aload_n 0, 1) := by decide +kernel
theorem dX3_lookForChange_1 : decode cX3_lookForChange 1 = .ok (.aload_n 1, 1) := by decide +kernel
theorem dX3_lookForChange_2 : decode cX3_lookForChange 2 = .ok (.getfield 50, 3) := by decide +kernel
theorem dX3_lookForChange_5 : decode cX3_lookForChange 5 = .ok (.getfield 108, 3) := by decide +kernel
theorem dX3_lookForChange_8 : decode cX3_lookForChange 8 = .ok (.iload_n 2, 1) := by decide +kernel
theorem dX3_lookForChange_9 : decode cX3_lookForChange 9 = .ok (.invokevirtual 84, 3) := by decide +kernel
theorem dX3_lookForChange_12 : decode cX3_lookForChange 12 = .ok (.istore_n 3, 1) := by decide +kernel
theorem dX3_lookForChange_13 : decode cX3_lookForChange 13 = .ok (.iload_n 3, 1) := by decide +kernel
theorem dX3_lookForChange_14 : decode cX3_lookForChange 14 = .ok (.iconst (-1), 1) := by decide +kernel
theorem dX3_lookForChange_15 : decode cX3_lookForChange 15 = .ok (.if_icmp .eq 19, 3) := by decide +kernel
theorem dX3_lookForChange_18 : decode cX3_lookForChange 18 = .ok (.iload_n 3, 1) := by decide +kernel
theorem dX3_lookForChange_19 : decode cX3_lookForChange 19 = .ok (.aload_n 1, 1) := by decide +kernel
theorem dX3_lookForChange_20 : decode cX3_lookForChange 20 = .ok (.getfield 94, 3) := by decide +kernel
theorem dX3_lookForChange_23 : decode cX3_lookForChange 23 = .ok (.if_icmp .gt 11, 3) := by decide +kernel
theorem dX3_lookForChange_26 : decode cX3_lookForChange 26 = .ok (.aload_n 1, 1) := by decide +kernel
theorem dX3_lookForChange_27 : decode cX3_lookForChange 27 = .ok (.getfield 111, 3) := by decide +kernel
theorem dX3_lookForChange_30 : decode cX3_lookForChange 30 = .ok (.iconst (-1), 1) := by decide +kernel
theorem dX3_lookForChange_31 : decode cX3_lookForChange 31 = .ok (.if_icmp .ne 5, 3) := by decide +kernel
theorem dX3_lookForChange_34 : decode cX3_lookForChange 34 = .ok (.iload_n 3, 1) := by decide +kernel
theorem dX3_lookForChange_35 : decode cX3_lookForChange 35 = .ok (.ireturn, 1) := by decide +kernel
theorem dX3_lookForChange_36 : decode cX3_lookForChange 36 = .ok (.aload_n 0, 1) := by decide +kernel
theorem dX3_lookForChange_37 : decode cX3_lookForChange 37 = .ok (.aload_n 1, 1) := by decide +kernel
theorem dX3_lookForChange_38 : decode cX3_lookForChange 38 = .ok (.getfield 111, 3) := by decide +kernel
theorem dX3_lookForChange_41 : decode cX3_lookForChange 41 = .ok (.iload_n 2, 1) := by decide +kernel
theorem dX3_lookForChange_42 : decode cX3_lookForChange 42 = .ok (.invokevirtual 84, 3) := by decide +kernel
theorem dX3_lookForChange_45 : decode cX3_lookForChange 45 = .ok (.ireturn, 1) := by decide +kernel
theorem dX3_workOut_0 : decode cX3_workOut 0 = .ok (.aload_n 1, 1) := by decide +kernel
theorem dX3_workOut_1 : decode cX3_workOut 1 = .ok (.getfield 50, 3) := by decide +kernel
theorem dX3_workOut_4 : decode cX3_workOut 4 = .ok (.astore_n 3, 1) := by decide +kernel
theorem dX3_workOut_5 : decode cX3_workOut 5 = .ok (.aload_n 0, 1) := by decide +kernel
theorem dX3_workOut_6 : decode cX3_workOut 6 = .ok (.aload_n 3, 1) := by decide +kernel
theorem dX3_workOut_7 : decode cX3_workOut 7 = .ok (.getfield 108, 3) := by decide +kernel
theorem dX3_workOut_10 : decode cX3_workOut 10 = .ok (.iload_n 2, 1) := by decide +kernel
theorem dX3_workOut_11 : decode cX3_workOut 11 = .ok (.invokevirtual 84, 3) := by decide +kernel
theorem dX3_workOut_14 : decode cX3_workOut 14 = .ok (.iconst (-1), 1) := by decide +kernel
theorem dX3_workOut_15 : decode cX3_workOut 15 = .ok (.if_icmp .ne 5, 3) := by decide +kernel
theorem dX3_workOut_18 : decode cX3_workOut 18 = .ok (.iconst 0, 1) := by decide +kernel
theorem dX3_workOut_19 : decode cX3_workOut 19 = .ok (.ireturn, 1) := by decide +kernel
theorem dX3_workOut_20 : decode cX3_workOut 20 = .ok (.aload_n 0, 1) := by decide +kernel
theorem dX3_workOut_21 : decode cX3_workOut 21 = .ok (.getfield 11, 3) := by decide +kernel
theorem dX3_workOut_24 : decode cX3_workOut 24 = .ok (.aload_n 3, 1) := by decide +kernel
theorem dX3_workOut_25 : decode cX3_workOut 25 = .ok (.getfield 108, 3) := by decide +kernel
theorem dX3_workOut_28 : decode cX3_workOut 28 = .ok (.aaload, 1) := by decide +kernel
theorem dX3_workOut_29 : decode cX3_workOut 29 = .ok (.invokevirtual 114, 3) := by decide +kernel
theorem dX3_workOut_32 : decode cX3_workOut 32 = .ok (.istore 4, 2) := by decide +kernel
theorem dX3_workOut_34 : decode cX3_workOut 34 = .ok (.aload_n 3, 1) := by decide +kernel
theorem dX3_workOut_35 : decode cX3_workOut 35 = .ok (.iload 4, 2) := by decide +kernel
theorem dX3_workOut_37 : decode cX3_workOut 37 = .ok (.invokevirtual 117, 3) := by decide +kernel
theorem dX3_workOut_40 : decode cX3_workOut 40 = .ok (.istore 5, 2) := by decide +kernel
theorem dX3_workOut_42 : decode cX3_workOut 42 = .ok (.iload 5, 2) := by decide +kernel
theorem dX3_workOut_44 : decode cX3_workOut 44 = .ok (.iconst (-1), 1) := by decide +kernel
theorem dX3_workOut_45 : decode cX3_workOut 45 = .ok (.if_icmp .ne 13, 3) := by decide +kernel
theorem dX3_workOut_48 : decode cX3_workOut 48 = .ok (.aload_n 0, 1) := by decide +kernel
theorem dX3_workOut_49 : decode cX3_workOut 49 = .ok (.aload_n 1, 1) := by decide +kernel
theorem dX3_workOut_50 : decode cX3_workOut 50 = .ok (.ldc 121, 2) := by decide +kernel
theorem dX3_workOut_52 : decode cX3_workOut 52 = .ok (.iconst (-1), 1) := by decide +kernel
theorem dX3_workOut_53 : decode cX3_workOut 53 = .ok (.invokevirtual 122, 3) := by decide +kernel
theorem dX3_workOut_56 : decode cX3_workOut 56 = .ok (.iconst 1, 1) := by decide +kernel
theorem dX3_workOut_57 : decode cX3_workOut 57 = .ok (.ireturn, 1) := by decide +kernel
theorem dX3_workOut_58 : decode cX3_workOut 58 = .ok (.aload_n 0, 1) := by decide +kernel
theorem dX3_workOut_59 : decode cX3_workOut 59 = .ok (.iload 5, 2) := by decide +kernel
theorem dX3_workOut_61 : decode cX3_workOut 61 = .ok (.iload_n 2, 1) := by decide +kernel
theorem dX3_workOut_62 : decode cX3_workOut 62 = .ok (.invokevirtual 84, 3) := by decide +kernel
theorem dX3_workOut_65 : decode cX3_workOut 65 = .ok (.iconst (-1), 1) := by decide +kernel
theorem dX3_workOut_66 : decode cX3_workOut 66 = .ok (.if_icmp .ne 5, 3) := by decide +kernel
theorem dX3_workOut_69 : decode cX3_workOut 69 = .ok (.iconst 0, 1) := by decide +kernel
theorem dX3_workOut_70 : decode cX3_workOut 70 = .ok (.ireturn, 1) := by decide +kernel
theorem dX3_workOut_71 : decode cX3_workOut 71 = .ok (.aload_n 0, 1) := by decide +kernel
theorem dX3_workOut_72 : decode cX3_workOut 72 = .ok (.aload_n 1, 1) := by decide +kernel
theorem dX3_workOut_73 : decode cX3_workOut 73 = .ok (.aload_n 3, 1) := by decide +kernel
theorem dX3_workOut_74 : decode cX3_workOut 74 = .ok (.iload 4, 2) := by decide +kernel
theorem dX3_workOut_76 : decode cX3_workOut 76 = .ok (.aload_n 0, 1) := by decide +kernel
theorem dX3_workOut_77 : decode cX3_workOut 77 = .ok (.getfield 11, 3) := by decide +kernel
theorem dX3_workOut_80 : decode cX3_workOut 80 = .ok (.iload 5, 2) := by decide +kernel
theorem dX3_workOut_82 : decode cX3_workOut 82 = .ok (.aaload, 1) := by decide +kernel
theorem dX3_workOut_83 : decode cX3_workOut 83 = .ok (.invokevirtual 114, 3) := by decide +kernel
theorem dX3_workOut_86 : decode cX3_workOut 86 = .ok (.invokevirtual 126, 3) := by decide +kernel
theorem dX3_workOut_89 : decode cX3_workOut 89 = .ok (.iload 5, 2) := by decide +kernel
theorem dX3_workOut_91 : decode cX3_workOut 91 = .ok (.invokevirtual 122, 3) := by decide +kernel
theorem dX3_workOut_94 : decode cX3_workOut 94 = .ok (.iconst 1, 1) := by decide +kernel
theorem dX3_workOut_95 : decode cX3_workOut 95 = .ok (.ireturn, 1) := by decide +kernel
theorem dX3_remember_0 : decode cX3_remember 0 = .ok (.aload_n 0, 1) := by decide +kernel
theorem dX3_remember_1 : decode cX3_remember 1 = .ok (.dup, 1) := by decide +kernel
theorem dX3_remember_2 : decode cX3_remember 2 = .ok (.getfield 29, 3) := by decide +kernel
theorem dX3_remember_5 : decode cX3_remember 5 = .ok (.iconst 1, 1) := by decide +kernel
theorem dX3_remember_6 : decode cX3_remember 6 = .ok (.iadd, 1) := by decide +kernel
theorem dX3_remember_7 : decode cX3_remember 7 = .ok (.putfield 29, 3) := by decide +kernel
theorem dX3_remember_10 : decode cX3_remember 10 = .ok (.aload_n 1, 1) := by decide +kernel
theorem dX3_remember_11 : decode cX3_remember 11 = .ok (.getfield 66, 3) := by decide +kernel
theorem dX3_remember_14 : decode cX3_remember 14 = .ok (.ifCond .eq 24, 3) := by decide +kernel
theorem dX3_remember_17 : decode cX3_remember 17 = .ok (.aload_n 1, 1) := by decide +kernel
theorem dX3_remember_18 : decode cX3_remember 18 = .ok (.getfield 129, 3) := by decide +kernel
theorem dX3_remember_21 : decode cX3_remember 21 = .ok (.iload_n 2, 1) := by decide +kernel
theorem dX3_remember_22 : decode cX3_remember 22 = .ok (.if_icmp .ne 16, 3) := by decide +kernel
theorem dX3_remember_25 : decode cX3_remember 25 = .ok (.aload_n 0, 1) := by decide +kernel
theorem dX3_remember_26 : decode cX3_remember 26 = .ok (.dup, 1) := by decide +kernel
theorem dX3_remember_27 : decode cX3_remember 27 = .ok (.getfield 41, 3) := by decide +kernel
theorem dX3_remember_30 : decode cX3_remember 30 = .ok (.iconst 1, 1) := by decide +kernel
theorem dX3_remember_31 : decode cX3_remember 31 = .ok (.iadd, 1) := by decide +kernel
theorem dX3_remember_32 : decode cX3_remember 32 = .ok (.putfield 41, 3) := by decide +kernel
theorem dX3_remember_35 : decode cX3_remember 35 = .ok (.goto 11, 3) := by decide +kernel
theorem dX3_remember_38 : decode cX3_remember 38 = .ok (.aload_n 1, 1) := by decide +kernel
theorem dX3_remember_39 : decode cX3_remember 39 = .ok (.aload_n 0, 1) := by decide +kernel
theorem dX3_remember_40 : decode cX3_remember 40 = .ok (.getfield 26, 3) := by decide +kernel
theorem dX3_remember_43 : decode cX3_remember 43 = .ok (.putfield 63, 3) := by decide +kernel
theorem dX3_remember_46 : decode cX3_remember 46 = .ok (.aload_n 1, 1) := by decide +kernel
theorem dX3_remember_47 : decode cX3_remember 47 = .ok (.iconst 1, 1) := by decide +kernel
theorem dX3_remember_48 : decode cX3_remember 48 = .ok (.putfield 66, 3) := by decide +kernel
theorem dX3_remember_51 : decode cX3_remember 51 = .ok (.aload_n 1, 1) := by decide +kernel
theorem dX3_remember_52 : decode cX3_remember 52 = .ok (.iload_n 2, 1) := by decide +kernel
theorem dX3_remember_53 : decode cX3_remember 53 = .ok (.putfield 129, 3) := by decide +kernel
theorem dX3_remember_56 : decode cX3_remember 56 = .ok (.aload_n 1, 1) := by decide +kernel
theorem dX3_remember_57 : decode cX3_remember 57 = .ok (.iload_n 3, 1) := by decide +kernel
theorem dX3_remember_58 : decode cX3_remember 58 = .ok (.putfield 111, 3) := by decide +kernel
theorem dX3_remember_61 : decode cX3_remember 61 = .ok (.aload_n 1, 1) := by decide +kernel
theorem dX3_remember_62 : decode cX3_remember 62 = .ok (.aload_n 0, 1) := by decide +kernel
theorem dX3_remember_63 : decode cX3_remember 63 = .ok (.getfield 26, 3) := by decide +kernel
theorem dX3_remember_66 : decode cX3_remember 66 = .ok (.putfield 94, 3) := by decide +kernel
theorem dX3_remember_69 : decode cX3_remember 69 = .ok (.return_, 1) := by decide +kernel
theorem dX4_init_0 : decode cX4_init 0 = .ok (.aload_n 0, 1) := by decide +kernel
theorem dX4_init_1 : decode cX4_init 1 = .ok (.invokespecial 3, 3) := by decide +kernel
theorem dX4_init_4 : decode cX4_init 4 = .ok (.aload_n 0, 1) := by decide +kernel
theorem dX4_init_5 : decode cX4_init 5 = .ok (.bipush 60, 2) := by decide +kernel
theorem dX4_init_7 : decode cX4_init 7 = .ok (.newarray .char, 2) := by decide +kernel
theorem dX4_init_9 : decode cX4_init 9 = .ok (.putfield 9, 3) := by decide +kernel
theorem dX4_init_12 : decode cX4_init 12 = .ok (.aload_n 0, 1) := by decide +kernel
theorem dX4_init_13 : decode cX4_init 13 = .ok (.new 15, 3) := by decide +kernel
theorem dX4_init_16 : decode cX4_init 16 = .ok (.dup, 1) := by decide +kernel
theorem dX4_init_17 : decode cX4_init 17 = .ok (.invokespecial 17, 3) := by decide +kernel
theorem dX4_init_20 : decode cX4_init 20 = .ok (.putfield 18, 3) := by decide +kernel
theorem dX4_init_23 : decode cX4_init 23 = .ok (.return_, 1) := by decide +kernel
theorem dX4_append_0 : decode cX4_append 0 = .ok (.aload_n 0, 1) := by decide +kernel
theorem dX4_append_1 : decode cX4_append 1 = .ok (.getfield 22, 3) := by decide +kernel
theorem dX4_append_4 : decode cX4_append 4 = .ok (.bipush 60, 2) := by decide +kernel
theorem dX4_append_6 : decode cX4_append 6 = .ok (.if_icmp .ge 23, 3) := by decide +kernel
theorem dX4_append_9 : decode cX4_append 9 = .ok (.aload_n 0, 1) := by decide +kernel
theorem dX4_append_10 : decode cX4_append 10 = .ok (.getfield 9, 3) := by decide +kernel
theorem dX4_append_13 : decode cX4_append 13 = .ok (.aload_n 0, 1) := by decide +kernel
theorem dX4_append_14 : decode cX4_append 14 = .ok (.getfield 22, 3) := by decide +kernel
theorem dX4_append_17 : decode cX4_append 17 = .ok (.iload_n 1, 1) := by decide +kernel
theorem dX4_append_18 : decode cX4_append 18 = .ok (.castore, 1) := by decide +kernel
theorem dX4_append_19 : decode cX4_append 19 = .ok (.aload_n 0, 1) := by decide +kernel
theorem dX4_append_20 : decode cX4_append 20 = .ok (.dup, 1) := by decide +kernel
theorem dX4_append_21 : decode cX4_append 21 = .ok (.getfield 22, 3) := by decide +kernel
theorem dX4_append_24 : decode cX4_append 24 = .ok (.iconst 1, 1) := by decide +kernel
theorem dX4_append_25 : decode cX4_append 25 = .ok (.iadd, 1) := by decide +kernel
theorem dX4_append_26 : decode cX4_append 26 = .ok (.putfield 22, 3) := by decide +kernel
theorem dX4_append_29 : decode cX4_append 29 = .ok (.return_, 1) := by decide +kernel
theorem dX4_empty_0 : decode cX4_empty 0 = .ok (.aload_n 0, 1) := by decide +kernel
theorem dX4_empty_1 : decode cX4_empty 1 = .ok (.iconst 0, 1) := by decide +kernel
theorem dX4_empty_2 : decode cX4_empty 2 = .ok (.putfield 22, 3) := by decide +kernel
theorem dX4_empty_5 : decode cX4_empty 5 = .ok (.return_, 1) := by decide +kernel
theorem dX4_rewind_0 : decode cX4_rewind 0 = .ok (.aload_n 0, 1) := by decide +kernel
theorem dX4_rewind_1 : decode cX4_rewind 1 = .ok (.iconst 0, 1) := by decide +kernel
theorem dX4_rewind_2 : decode cX4_rewind 2 = .ok (.putfield 26, 3) := by decide +kernel
theorem dX4_rewind_5 : decode cX4_rewind 5 = .ok (.return_, 1) := by decide +kernel
theorem dX4_hasMore_0 : decode cX4_hasMore 0 = .ok (.aload_n 0, 1) := by decide +kernel
theorem dX4_hasMore_1 : decode cX4_hasMore 1 = .ok (.getfield 26, 3) := by decide +kernel
theorem dX4_hasMore_4 : decode cX4_hasMore 4 = .ok (.aload_n 0, 1) := by decide +kernel
theorem dX4_hasMore_5 : decode cX4_hasMore 5 = .ok (.getfield 22, 3) := by decide +kernel
theorem dX4_hasMore_8 : decode cX4_hasMore 8 = .ok (.if_icmp .ge 7, 3) := by decide +kernel
theorem dX4_hasMore_11 : decode cX4_hasMore 11 = .ok (.iconst 1, 1) := by decide +kernel
theorem dX4_hasMore_12 : decode cX4_hasMore 12 = .ok (.goto 4, 3) := by decide +kernel
theorem dX4_hasMore_15 : decode cX4_hasMore 15 = .ok (.iconst 0, 1) := by decide +kernel
theorem dX4_hasMore_16 : decode cX4_hasMore 16 = .ok (.ireturn, 1) := by decide +kernel
theorem dX4_findFault_0 : decode cX4_findFault 0 = .ok (.aload_n 0, 1) := by decide +kernel
theorem dX4_findFault_1 : decode cX4_findFault 1 = .ok (.invokevirtual 29, 3) := by decide +kernel
theorem dX4_findFault_4 : decode cX4_findFault 4 = .ok (.iconst 0, 1) := by decide +kernel
theorem dX4_findFault_5 : decode cX4_findFault 5 = .ok (.istore_n 1, 1) := by decide +kernel
theorem dX4_findFault_6 : decode cX4_findFault 6 = .ok (.iload_n 1, 1) := by decide +kernel
theorem dX4_findFault_7 : decode cX4_findFault 7 = .ok (.bipush 60, 2) := by decide +kernel
theorem dX4_findFault_9 : decode cX4_findFault 9 = .ok (.if_icmp .ge 30, 3) := by decide +kernel
theorem dX4_findFault_12 : decode cX4_findFault 12 = .ok (.aload_n 0, 1) := by decide +kernel
theorem dX4_findFault_13 : decode cX4_findFault 13 = .ok (.invokevirtual 32, 3) := by decide +kernel
theorem dX4_findFault_16 : decode cX4_findFault 16 = .ok (.ifCond .eq 23, 3) := by decide +kernel
theorem dX4_findFault_19 : decode cX4_findFault 19 = .ok (.aload_n 0, 1) := by decide +kernel
theorem dX4_findFault_20 : decode cX4_findFault 20 = .ok (.getfield 26, 3) := by decide +kernel
theorem dX4_findFault_23 : decode cX4_findFault 23 = .ok (.istore_n 2, 1) := by decide +kernel
theorem dX4_findFault_24 : decode cX4_findFault 24 = .ok (.aload_n 0, 1) := by decide +kernel
theorem dX4_findFault_25 : decode cX4_findFault 25 = .ok (.invokevirtual 36, 3) := by decide +kernel
theorem dX4_findFault_28 : decode cX4_findFault 28 = .ok (.ifCond .ne 5, 3) := by decide +kernel
theorem dX4_findFault_31 : decode cX4_findFault 31 = .ok (.iload_n 2, 1) := by decide +kernel
theorem dX4_findFault_32 : decode cX4_findFault 32 = .ok (.ireturn, 1) := by decide +kernel
theorem dX4_findFault_33 : decode cX4_findFault 33 = .ok (.iinc 1 1, 3) := by decide +kernel
theorem dX4_findFault_36 : decode cX4_findFault 36 = .ok (.goto (-30), 3) := by decide +kernel
theorem dX4_findFault_39 : decode cX4_findFault 39 = .ok (.iconst (-1), 1) := by decide +kernel
theorem dX4_findFault_40 : decode cX4_findFault 40 = .ok (.ireturn, 1) := by decide +kernel
theorem dX4_readDefinition_0 : decode cX4_readDefinition 0 = .ok (.aload_n 0, 1) := by decide +kernel
theorem dX4_readDefinition_1 : decode cX4_readDefinition 1 = .ok (.aload_n 0, 1) := by decide +kernel
theorem dX4_readDefinition_2 : decode cX4_readDefinition 2 = .ok (.invokevirtual 39, 3) := by decide +kernel
theorem dX4_readDefinition_5 : decode cX4_readDefinition 5 = .ok (.putfield 43, 3) := by decide +kernel
theorem dX4_readDefinition_8 : decode cX4_readDefinition 8 = .ok (.aload_n 0, 1) := by decide +kernel
theorem dX4_readDefinition_9 : decode cX4_readDefinition 9 = .ok (.getfield 43, 3) := by decide +kernel
theorem dX4_readDefinition_12 : decode cX4_readDefinition 12 = .ok (.iconst (-1), 1) := by decide +kernel
theorem dX4_readDefinition_13 : decode cX4_readDefinition 13 = .ok (.if_icmp .eq 12, 3) := by decide +kernel
theorem dX4_readDefinition_16 : decode cX4_readDefinition 16 = .ok (.aload_n 0, 1) := by decide +kernel
theorem dX4_readDefinition_17 : decode cX4_readDefinition 17 = .ok (.bipush 61, 2) := by decide +kernel
theorem dX4_readDefinition_19 : decode cX4_readDefinition 19 = .ok (.invokevirtual 46, 3) := by decide +kernel
theorem dX4_readDefinition_22 : decode cX4_readDefinition 22 = .ok (.ifCond .ne 5, 3) := by decide +kernel
theorem dX4_readDefinition_25 : decode cX4_readDefinition 25 = .ok (.iconst 0, 1) := by decide +kernel
theorem dX4_readDefinition_26 : decode cX4_readDefinition 26 = .ok (.ireturn, 1) := by decide +kernel
theorem dX4_readDefinition_27 : decode cX4_readDefinition 27 = .ok (.aload_n 0, 1) := by decide +kernel
theorem dX4_readDefinition_28 : decode cX4_readDefinition 28 = .ok (.invokevirtual 39, 3) := by decide +kernel
theorem dX4_readDefinition_31 : decode cX4_readDefinition 31 = .ok (.istore_n 1, 1) := by decide +kernel
theorem dX4_readDefinition_32 : decode cX4_readDefinition 32 = .ok (.iload_n 1, 1) := by decide +kernel
theorem dX4_readDefinition_33 : decode cX4_readDefinition 33 = .ok (.iconst (-1), 1) := by decide +kernel
theorem dX4_readDefinition_34 : decode cX4_readDefinition 34 = .ok (.if_icmp .ne 10, 3) := by decide +kernel
theorem dX4_readDefinition_37 : decode cX4_readDefinition 37 = .ok (.aload_n 0, 1) := by decide +kernel
theorem dX4_readDefinition_38 : decode cX4_readDefinition 38 = .ok (.invokevirtual 50, 3) := by decide +kernel
theorem dX4_readDefinition_41 : decode cX4_readDefinition 41 = .ok (.goto 8, 3) := by decide +kernel
theorem dX4_readDefinition_44 : decode cX4_readDefinition 44 = .ok (.aload_n 0, 1) := by decide +kernel
theorem dX4_readDefinition_45 : decode cX4_readDefinition 45 = .ok (.iload_n 1, 1) := by decide +kernel
theorem dX4_readDefinition_46 : decode cX4_readDefinition 46 = .ok (.invokevirtual 53, 3) := by decide +kernel
theorem dX4_readDefinition_49 : decode cX4_readDefinition 49 = .ok (.istore_n 2, 1) := by decide +kernel
theorem dX4_readDefinition_50 : decode cX4_readDefinition 50 = .ok (.iload_n 2, 1) := by decide +kernel
theorem dX4_readDefinition_51 : decode cX4_readDefinition 51 = .ok (.ifCond .eq 16, 3) := by decide +kernel
theorem dX4_readDefinition_54 : decode cX4_readDefinition 54 = .ok (.aload_n 0, 1) := by decide +kernel
theorem dX4_readDefinition_55 : decode cX4_readDefinition 55 = .ok (.bipush 59, 2) := by decide +kernel
theorem dX4_readDefinition_57 : decode cX4_readDefinition 57 = .ok (.invokevirtual 46, 3) := by decide +kernel
theorem dX4_readDefinition_60 : decode cX4_readDefinition 60 = .ok (.ifCond .eq 7, 3) := by decide +kernel
theorem dX4_readDefinition_63 : decode cX4_readDefinition 63 = .ok (.iconst 1, 1) := by decide +kernel
theorem dX4_readDefinition_64 : decode cX4_readDefinition 64 = .ok (.goto 4, 3) := by decide +kernel
theorem dX4_readDefinition_67 : decode cX4_readDefinition 67 = .ok (.iconst 0, 1) := by decide +kernel
theorem dX4_readDefinition_68 : decode cX4_readDefinition 68 = .ok (.ireturn, 1) := by decide +kernel
theorem dX4_readFormula_0 : decode cX4_readFormula 0 = .ok (.aload_n 0, 1) := by decide +kernel
theorem dX4_readFormula_1 : decode cX4_readFormula 1 = .ok (.invokevirtual 57, 3) := by decide +kernel
theorem dX4_readFormula_4 : decode cX4_readFormula 4 = .ok (.istore_n 2, 1) := by decide +kernel
theorem dX4_readFormula_5 : decode cX4_readFormula 5 = .ok (.iload_n 2, 1) := by decide +kernel
theorem dX4_readFormula_6 : decode cX4_readFormula 6 = .ok (.iconst (-1), 1) := by decide +kernel
theorem dX4_readFormula_7 : decode cX4_readFormula 7 = .ok (.if_icmp .ne 5, 3) := by decide +kernel
theorem dX4_readFormula_10 : decode cX4_readFormula 10 = .ok (.iconst 0, 1) := by decide +kernel
theorem dX4_readFormula_11 : decode cX4_readFormula 11 = .ok (.ireturn, 1) := by decide +kernel
theorem dX4_readFormula_12 : decode cX4_readFormula 12 = .ok (.aload_n 0, 1) := by decide +kernel
theorem dX4_readFormula_13 : decode cX4_readFormula 13 = .ok (.invokevirtual 39, 3) := by decide +kernel
theorem dX4_readFormula_16 : decode cX4_readFormula 16 = .ok (.istore_n 3, 1) := by decide +kernel
theorem dX4_readFormula_17 : decode cX4_readFormula 17 = .ok (.iload_n 3, 1) := by decide +kernel
theorem dX4_readFormula_18 : decode cX4_readFormula 18 = .ok (.iconst (-1), 1) := by decide +kernel
theorem dX4_readFormula_19 : decode cX4_readFormula 19 = .ok (.if_icmp .ne 5, 3) := by decide +kernel
theorem dX4_readFormula_22 : decode cX4_readFormula 22 = .ok (.iconst 0, 1) := by decide +kernel
theorem dX4_readFormula_23 : decode cX4_readFormula 23 = .ok (.ireturn, 1) := by decide +kernel
theorem dX4_readFormula_24 : decode cX4_readFormula 24 = .ok (.iconst 0, 1) := by decide +kernel
theorem dX4_readFormula_25 : decode cX4_readFormula 25 = .ok (.istore 4, 2) := by decide +kernel
theorem dX4_readFormula_27 : decode cX4_readFormula 27 = .ok (.iload_n 2, 1) := by decide +kernel
theorem dX4_readFormula_28 : decode cX4_readFormula 28 = .ok (.iconst 4, 1) := by decide +kernel
theorem dX4_readFormula_29 : decode cX4_readFormula 29 = .ok (.if_icmp .ne 22, 3) := by decide +kernel
theorem dX4_readFormula_32 : decode cX4_readFormula 32 = .ok (.aload_n 0, 1) := by decide +kernel
theorem dX4_readFormula_33 : decode cX4_readFormula 33 = .ok (.bipush 58, 2) := by decide +kernel
theorem dX4_readFormula_35 : decode cX4_readFormula 35 = .ok (.invokevirtual 46, 3) := by decide +kernel
theorem dX4_readFormula_38 : decode cX4_readFormula 38 = .ok (.ifCond .eq 10, 3) := by decide +kernel
theorem dX4_readFormula_41 : decode cX4_readFormula 41 = .ok (.aload_n 0, 1) := by decide +kernel
theorem dX4_readFormula_42 : decode cX4_readFormula 42 = .ok (.invokevirtual 39, 3) := by decide +kernel
theorem dX4_readFormula_45 : decode cX4_readFormula 45 = .ok (.goto 4, 3) := by decide +kernel
theorem dX4_readFormula_48 : decode cX4_readFormula 48 = .ok (.iconst (-1), 1) := by decide +kernel
theorem dX4_readFormula_49 : decode cX4_readFormula 49 = .ok (.istore 4, 2) := by decide +kernel
theorem dX4_readFormula_51 : decode cX4_readFormula 51 = .ok (.iload 4, 2) := by decide +kernel
theorem dX4_readFormula_53 : decode cX4_readFormula 53 = .ok (.iconst (-1), 1) := by decide +kernel
theorem dX4_readFormula_54 : decode cX4_readFormula 54 = .ok (.if_icmp .ne 5, 3) := by decide +kernel
theorem dX4_readFormula_57 : decode cX4_readFormula 57 = .ok (.iconst 0, 1) := by decide +kernel
theorem dX4_readFormula_58 : decode cX4_readFormula 58 = .ok (.ireturn, 1) := by decide +kernel
theorem dX4_readFormula_59 : decode cX4_readFormula 59 = .ok (.aload_n 0, 1) := by decide +kernel
theorem dX4_readFormula_60 : decode cX4_readFormula 60 = .ok (.getfield 18, 3) := by decide +kernel
theorem dX4_readFormula_63 : decode cX4_readFormula 63 = .ok (.iload_n 2, 1) := by decide +kernel
theorem dX4_readFormula_64 : decode cX4_readFormula 64 = .ok (.iload_n 1, 1) := by decide +kernel
theorem dX4_readFormula_65 : decode cX4_readFormula 65 = .ok (.iload_n 3, 1) := by decide +kernel
theorem dX4_readFormula_66 : decode cX4_readFormula 66 = .ok (.iload 4, 2) := by decide +kernel
theorem dX4_readFormula_68 : decode cX4_readFormula 68 = .ok (.invokevirtual 60, 3) := by decide +kernel
theorem dX4_readFormula_71 : decode cX4_readFormula 71 = .ok (.iconst 1, 1) := by decide +kernel
theorem dX4_readFormula_72 : decode cX4_readFormula 72 = .ok (.ireturn, 1) := by decide +kernel
theorem dX4_readNumber_0 : decode cX4_readNumber 0 = .ok (.aload_n 0, 1) := by decide +kernel
theorem dX4_readNumber_1 : decode cX4_readNumber 1 = .ok (.bipush 45, 2) := by decide +kernel
theorem dX4_readNumber_3 : decode cX4_readNumber 3 = .ok (.invokevirtual 46, 3) := by decide +kernel
theorem dX4_readNumber_6 : decode cX4_readNumber 6 = .ok (.istore_n 1, 1) := by decide +kernel
theorem dX4_readNumber_7 : decode cX4_readNumber 7 = .ok (.iconst 0, 1) := by decide +kernel
theorem dX4_readNumber_8 : decode cX4_readNumber 8 = .ok (.istore_n 2, 1) := by decide +kernel
theorem dX4_readNumber_9 : decode cX4_readNumber 9 = .ok (.iconst 0, 1) := by decide +kernel
theorem dX4_readNumber_10 : decode cX4_readNumber 10 = .ok (.istore_n 3, 1) := by decide +kernel
theorem dX4_readNumber_11 : decode cX4_readNumber 11 = .ok (.iload_n 3, 1) := by decide +kernel
theorem dX4_readNumber_12 : decode cX4_readNumber 12 = .ok (.iconst 5, 1) := by decide +kernel
theorem dX4_readNumber_13 : decode cX4_readNumber 13 = .ok (.if_icmp .ge 46, 3) := by decide +kernel
theorem dX4_readNumber_16 : decode cX4_readNumber 16 = .ok (.aload_n 0, 1) := by decide +kernel
theorem dX4_readNumber_17 : decode cX4_readNumber 17 = .ok (.invokevirtual 64, 3) := by decide +kernel
theorem dX4_readNumber_20 : decode cX4_readNumber 20 = .ok (.bipush 48, 2) := by decide +kernel
theorem dX4_readNumber_22 : decode cX4_readNumber 22 = .ok (.bipush 57, 2) := by decide +kernel
theorem dX4_readNumber_24 : decode cX4_readNumber 24 = .ok (.invokestatic 67, 3) := by decide +kernel
theorem dX4_readNumber_27 : decode cX4_readNumber 27 = .ok (.ifCond .eq 32, 3) := by decide +kernel
theorem dX4_readNumber_30 : decode cX4_readNumber 30 = .ok (.iload_n 2, 1) := by decide +kernel
theorem dX4_readNumber_31 : decode cX4_readNumber 31 = .ok (.bipush 10, 2) := by decide +kernel
theorem dX4_readNumber_33 : decode cX4_readNumber 33 = .ok (.imul, 1) := by decide +kernel
theorem dX4_readNumber_34 : decode cX4_readNumber 34 = .ok (.aload_n 0, 1) := by decide +kernel
theorem dX4_readNumber_35 : decode cX4_readNumber 35 = .ok (.invokevirtual 64, 3) := by decide +kernel
theorem dX4_readNumber_38 : decode cX4_readNumber 38 = .ok (.iadd, 1) := by decide +kernel
theorem dX4_readNumber_39 : decode cX4_readNumber 39 = .ok (.bipush 48, 2) := by decide +kernel
theorem dX4_readNumber_41 : decode cX4_readNumber 41 = .ok (.isub, 1) := by decide +kernel
theorem dX4_readNumber_42 : decode cX4_readNumber 42 = .ok (.istore_n 2, 1) := by decide +kernel
theorem dX4_readNumber_43 : decode cX4_readNumber 43 = .ok (.aload_n 0, 1) := by decide +kernel
theorem dX4_readNumber_44 : decode cX4_readNumber 44 = .ok (.dup, 1) := by decide +kernel
theorem dX4_readNumber_45 : decode cX4_readNumber 45 = .ok (.getfield 26, 3) := by decide +kernel
theorem dX4_readNumber_48 : decode cX4_readNumber 48 = .ok (.iconst 1, 1) := by decide +kernel
theorem dX4_readNumber_49 : decode cX4_readNumber 49 = .ok (.iadd, 1) := by decide +kernel
theorem dX4_readNumber_50 : decode cX4_readNumber 50 = .ok (.putfield 26, 3) := by decide +kernel
theorem dX4_readNumber_53 : decode cX4_readNumber 53 = .ok (.iinc 3 1, 3) := by decide +kernel
theorem dX4_readNumber_56 : decode cX4_readNumber 56 = .ok (.goto (-45), 3) := by decide +kernel
theorem dX4_readNumber_59 : decode cX4_readNumber 59 = .ok (.aload_n 0, 1) := by decide +kernel
theorem dX4_readNumber_60 : decode cX4_readNumber 60 = .ok (.getfield 18, 3) := by decide +kernel
theorem dX4_readNumber_63 : decode cX4_readNumber 63 = .ok (.iload_n 1, 1) := by decide +kernel
theorem dX4_readNumber_64 : decode cX4_readNumber 64 = .ok (.ifCond .eq 8, 3) := by decide +kernel
theorem dX4_readNumber_67 : decode cX4_readNumber 67 = .ok (.iload_n 2, 1) := by decide +kernel
theorem dX4_readNumber_68 : decode cX4_readNumber 68 = .ok (.ineg, 1) := by decide +kernel
theorem dX4_readNumber_69 : decode cX4_readNumber 69 = .ok (.goto 4, 3) := by decide +kernel
theorem dX4_readNumber_72 : decode cX4_readNumber 72 = .ok (.iload_n 2, 1) := by decide +kernel
theorem dX4_readNumber_73 : decode cX4_readNumber 73 = .ok (.invokevirtual 71, 3) := by decide +kernel
theorem dX4_readNumber_76 : decode cX4_readNumber 76 = .ok (.iload_n 3, 1) := by decide +kernel
theorem dX4_readNumber_77 : decode cX4_readNumber 77 = .ok (.ifCond .le 7, 3) := by decide +kernel
theorem dX4_readNumber_80 : decode cX4_readNumber 80 = .ok (.iconst 1, 1) := by decide +kernel
theorem dX4_readNumber_81 : decode cX4_readNumber 81 = .ok (.goto 4, 3) := by decide +kernel
theorem dX4_readNumber_84 : decode cX4_readNumber 84 = .ok (.iconst 0, 1) := by decide +kernel
theorem dX4_readNumber_85 : decode cX4_readNumber 85 = .ok (.ireturn, 1) := by decide +kernel
theorem dX4_readOperator_0 : decode cX4_readOperator 0 = .ok (.aload_n 0, 1) := by decide +kernel
theorem dX4_readOperator_1 : decode cX4_readOperator 1 = .ok (.invokevirtual 64, 3) := by decide +kernel
theorem dX4_readOperator_4 : decode cX4_readOperator 4 = .ok (.invokestatic 75, 3) := by decide +kernel
theorem dX4_readOperator_7 : decode cX4_readOperator 7 = .ok (.istore_n 1, 1) := by decide +kernel
theorem dX4_readOperator_8 : decode cX4_readOperator 8 = .ok (.iload_n 1, 1) := by decide +kernel
theorem dX4_readOperator_9 : decode cX4_readOperator 9 = .ok (.iconst (-1), 1) := by decide +kernel
theorem dX4_readOperator_10 : decode cX4_readOperator 10 = .ok (.if_icmp .eq 13, 3) := by decide +kernel
theorem dX4_readOperator_13 : decode cX4_readOperator 13 = .ok (.aload_n 0, 1) := by decide +kernel
theorem dX4_readOperator_14 : decode cX4_readOperator 14 = .ok (.dup, 1) := by decide +kernel
theorem dX4_readOperator_15 : decode cX4_readOperator 15 = .ok (.getfield 26, 3) := by decide +kernel
theorem dX4_readOperator_18 : decode cX4_readOperator 18 = .ok (.iconst 1, 1) := by decide +kernel
theorem dX4_readOperator_19 : decode cX4_readOperator 19 = .ok (.iadd, 1) := by decide +kernel
theorem dX4_readOperator_20 : decode cX4_readOperator 20 = .ok (.putfield 26, 3) := by decide +kernel
theorem dX4_readOperator_23 : decode cX4_readOperator 23 = .ok (.iload_n 1, 1) := by decide +kernel
theorem dX4_readOperator_24 : decode cX4_readOperator 24 = .ok (.ireturn, 1) := by decide +kernel
theorem dX4_kindOf_0 : decode cX4_kindOf 0 = .ok (.iload_n 0, 1) := by decide +kernel
theorem dX4_kindOf_1 : decode cX4_kindOf 1 = .ok (.lookupswitch 61 #[(42, 55), (43, 51), (45, 53), (63, 59), (94, 57)], 51) := by decide +kernel
theorem dX4_kindOf_52 : decode cX4_kindOf 52 = .ok (.iconst 0, 1) := by decide +kernel
theorem dX4_kindOf_53 : decode cX4_kindOf 53 = .ok (.ireturn, 1) := by decide +kernel
theorem dX4_kindOf_54 : decode cX4_kindOf 54 = .ok (.iconst 1, 1) := by decide +kernel
theorem dX4_kindOf_55 : decode cX4_kindOf 55 = .ok (.ireturn, 1) := by decide +kernel
theorem dX4_kindOf_56 : decode cX4_kindOf 56 = .ok (.iconst 2, 1) := by decide +kernel
theorem dX4_kindOf_57 : decode cX4_kindOf 57 = .ok (.ireturn, 1) := by decide +kernel
theorem dX4_kindOf_58 : decode cX4_kindOf 58 = .ok (.iconst 3, 1) := by decide +kernel
theorem dX4_kindOf_59 : decode cX4_kindOf 59 = .ok (.ireturn, 1) := by decide +kernel
theorem dX4_kindOf_60 : decode cX4_kindOf 60 = .ok (.iconst 4, 1) := by decide +kernel
theorem dX4_kindOf_61 : decode cX4_kindOf 61 = .ok (.ireturn, 1) := by decide +kernel
theorem dX4_kindOf_62 : decode cX4_kindOf 62 = .ok (.iconst (-1), 1) := by decide +kernel
theorem dX4_kindOf_63 : decode cX4_kindOf 63 = .ok (.ireturn, 1) := by decide +kernel
theorem dX4_readLetter_0 : decode cX4_readLetter 0 = .ok (.aload_n 0, 1) := by decide +kernel
theorem dX4_readLetter_1 : decode cX4_readLetter 1 = .ok (.invokevirtual 64, 3) := by decide +kernel
theorem dX4_readLetter_4 : decode cX4_readLetter 4 = .ok (.bipush 97, 2) := by decide +kernel
theorem dX4_readLetter_6 : decode cX4_readLetter 6 = .ok (.isub, 1) := by decide +kernel
theorem dX4_readLetter_7 : decode cX4_readLetter 7 = .ok (.istore_n 1, 1) := by decide +kernel
theorem dX4_readLetter_8 : decode cX4_readLetter 8 = .ok (.iload_n 1, 1) := by decide +kernel
theorem dX4_readLetter_9 : decode cX4_readLetter 9 = .ok (.invokestatic 79, 3) := by decide +kernel
theorem dX4_readLetter_12 : decode cX4_readLetter 12 = .ok (.ifCond .ne 5, 3) := by decide +kernel
theorem dX4_readLetter_15 : decode cX4_readLetter 15 = .ok (.iconst (-1), 1) := by decide +kernel
theorem dX4_readLetter_16 : decode cX4_readLetter 16 = .ok (.ireturn, 1) := by decide +kernel
theorem dX4_readLetter_17 : decode cX4_readLetter 17 = .ok (.aload_n 0, 1) := by decide +kernel
theorem dX4_readLetter_18 : decode cX4_readLetter 18 = .ok (.dup, 1) := by decide +kernel
theorem dX4_readLetter_19 : decode cX4_readLetter 19 = .ok (.getfield 26, 3) := by decide +kernel
theorem dX4_readLetter_22 : decode cX4_readLetter 22 = .ok (.iconst 1, 1) := by decide +kernel
theorem dX4_readLetter_23 : decode cX4_readLetter 23 = .ok (.iadd, 1) := by decide +kernel
theorem dX4_readLetter_24 : decode cX4_readLetter 24 = .ok (.putfield 26, 3) := by decide +kernel
theorem dX4_readLetter_27 : decode cX4_readLetter 27 = .ok (.iload_n 1, 1) := by decide +kernel
theorem dX4_readLetter_28 : decode cX4_readLetter 28 = .ok (.ireturn, 1) := by decide +kernel
theorem dX4_readSign_0 : decode cX4_readSign 0 = .ok (.aload_n 0, 1) := by decide +kernel
theorem dX4_readSign_1 : decode cX4_readSign 1 = .ok (.invokevirtual 64, 3) := by decide +kernel
theorem dX4_readSign_4 : decode cX4_readSign 4 = .ok (.iload_n 1, 1) := by decide +kernel
theorem dX4_readSign_5 : decode cX4_readSign 5 = .ok (.if_icmp .eq 5, 3) := by decide +kernel
theorem dX4_readSign_8 : decode cX4_readSign 8 = .ok (.iconst 0, 1) := by decide +kernel
theorem dX4_readSign_9 : decode cX4_readSign 9 = .ok (.ireturn, 1) := by decide +kernel
theorem dX4_readSign_10 : decode cX4_readSign 10 = .ok (.aload_n 0, 1) := by decide +kernel
theorem dX4_readSign_11 : decode cX4_readSign 11 = .ok (.dup, 1) := by decide +kernel
theorem dX4_readSign_12 : decode cX4_readSign 12 = .ok (.getfield 26, 3) := by decide +kernel
theorem dX4_readSign_15 : decode cX4_readSign 15 = .ok (.iconst 1, 1) := by decide +kernel
theorem dX4_readSign_16 : decode cX4_readSign 16 = .ok (.iadd, 1) := by decide +kernel
theorem dX4_readSign_17 : decode cX4_readSign 17 = .ok (.putfield 26, 3) := by decide +kernel
theorem dX4_readSign_20 : decode cX4_readSign 20 = .ok (.iconst 1, 1) := by decide +kernel
theorem dX4_readSign_21 : decode cX4_readSign 21 = .ok (.ireturn, 1) := by decide +kernel
theorem dX4_character_0 : decode cX4_character 0 = .ok (.aload_n 0, 1) := by decide +kernel
theorem dX4_character_1 : decode cX4_character 1 = .ok (.getfield 26, 3) := by decide +kernel
theorem dX4_character_4 : decode cX4_character 4 = .ok (.ifCond .lt 35, 3) := by decide +kernel
theorem dX4_character_7 : decode cX4_character 7 = .ok (.aload_n 0, 1) := by decide +kernel
theorem dX4_character_8 : decode cX4_character 8 = .ok (.getfield 26, 3) := by decide +kernel
theorem dX4_character_11 : decode cX4_character 11 = .ok (.aload_n 0, 1) := by decide +kernel
theorem dX4_character_12 : decode cX4_character 12 = .ok (.getfield 22, 3) := by decide +kernel
theorem dX4_character_15 : decode cX4_character 15 = .ok (.if_icmp .ge 24, 3) := by decide +kernel
theorem dX4_character_18 : decode cX4_character 18 = .ok (.aload_n 0, 1) := by decide +kernel
theorem dX4_character_19 : decode cX4_character 19 = .ok (.getfield 26, 3) := by decide +kernel
theorem dX4_character_22 : decode cX4_character 22 = .ok (.bipush 60, 2) := by decide +kernel
theorem dX4_character_24 : decode cX4_character 24 = .ok (.if_icmp .ge 15, 3) := by decide +kernel
theorem dX4_character_27 : decode cX4_character 27 = .ok (.aload_n 0, 1) := by decide +kernel
theorem dX4_character_28 : decode cX4_character 28 = .ok (.getfield 9, 3) := by decide +kernel
theorem dX4_character_31 : decode cX4_character 31 = .ok (.aload_n 0, 1) := by decide +kernel
theorem dX4_character_32 : decode cX4_character 32 = .ok (.getfield 26, 3) := by decide +kernel
theorem dX4_character_35 : decode cX4_character 35 = .ok (.caload, 1) := by decide +kernel
theorem dX4_character_36 : decode cX4_character 36 = .ok (.goto 4, 3) := by decide +kernel
theorem dX4_character_39 : decode cX4_character 39 = .ok (.iconst (-1), 1) := by decide +kernel
theorem dX4_character_40 : decode cX4_character 40 = .ok (.ireturn, 1) := by decide +kernel
theorem dX5_init_0 : decode cX5_init 0 = .ok (.aload_n 0, 1) := by decide +kernel
theorem dX5_init_1 : decode cX5_init 1 = .ok (.invokespecial 1, 3) := by decide +kernel
theorem dX5_init_4 : decode cX5_init 4 = .ok (.aload_n 0, 1) := by decide +kernel
theorem dX5_init_5 : decode cX5_init 5 = .ok (.new 7, 3) := by decide +kernel
theorem dX5_init_8 : decode cX5_init 8 = .ok (.dup, 1) := by decide +kernel
theorem dX5_init_9 : decode cX5_init 9 = .ok (.invokespecial 9, 3) := by decide +kernel
theorem dX5_init_12 : decode cX5_init 12 = .ok (.putfield 10, 3) := by decide +kernel
theorem dX5_init_15 : decode cX5_init 15 = .ok (.aload_n 0, 1) := by decide +kernel
theorem dX5_init_16 : decode cX5_init 16 = .ok (.new 7, 3) := by decide +kernel
theorem dX5_init_19 : decode cX5_init 19 = .ok (.dup, 1) := by decide +kernel
theorem dX5_init_20 : decode cX5_init 20 = .ok (.invokespecial 9, 3) := by decide +kernel
theorem dX5_init_23 : decode cX5_init 23 = .ok (.putfield 16, 3) := by decide +kernel
theorem dX5_init_26 : decode cX5_init 26 = .ok (.aload_n 0, 1) := by decide +kernel
theorem dX5_init_27 : decode cX5_init 27 = .ok (.new 19, 3) := by decide +kernel
theorem dX5_init_30 : decode cX5_init 30 = .ok (.dup, 1) := by decide +kernel
theorem dX5_init_31 : decode cX5_init 31 = .ok (.invokespecial 21, 3) := by decide +kernel
theorem dX5_init_34 : decode cX5_init 34 = .ok (.putfield 22, 3) := by decide +kernel
theorem dX5_init_37 : decode cX5_init 37 = .ok (.aload_n 0, 1) := by decide +kernel
theorem dX5_init_38 : decode cX5_init 38 = .ok (.new 26, 3) := by decide +kernel
theorem dX5_init_41 : decode cX5_init 41 = .ok (.dup, 1) := by decide +kernel
theorem dX5_init_42 : decode cX5_init 42 = .ok (.invokespecial 28, 3) := by decide +kernel
theorem dX5_init_45 : decode cX5_init 45 = .ok (.putfield 29, 3) := by decide +kernel
theorem dX5_init_48 : decode cX5_init 48 = .ok (.aload_n 0, 1) := by decide +kernel
theorem dX5_init_49 : decode cX5_init 49 = .ok (.new 33, 3) := by decide +kernel
theorem dX5_init_52 : decode cX5_init 52 = .ok (.dup, 1) := by decide +kernel
theorem dX5_init_53 : decode cX5_init 53 = .ok (.invokespecial 35, 3) := by decide +kernel
theorem dX5_init_56 : decode cX5_init 56 = .ok (.putfield 36, 3) := by decide +kernel
theorem dX5_init_59 : decode cX5_init 59 = .ok (.return_, 1) := by decide +kernel
theorem dX5_define_0 : decode cX5_define 0 = .ok (.iload_n 1, 1) := by decide +kernel
theorem dX5_define_1 : decode cX5_define 1 = .ok (.invokestatic 40, 3) := by decide +kernel
theorem dX5_define_4 : decode cX5_define 4 = .ok (.ifCond .eq 10, 3) := by decide +kernel
theorem dX5_define_7 : decode cX5_define 7 = .ok (.iload_n 2, 1) := by decide +kernel
theorem dX5_define_8 : decode cX5_define 8 = .ok (.invokestatic 44, 3) := by decide +kernel
theorem dX5_define_11 : decode cX5_define 11 = .ok (.ifCond .ne 6, 3) := by decide +kernel
theorem dX5_define_14 : decode cX5_define 14 = .ok (.ldc 47, 2) := by decide +kernel
theorem dX5_define_16 : decode cX5_define 16 = .ok (.ireturn, 1) := by decide +kernel
theorem dX5_define_17 : decode cX5_define 17 = .ok (.aload_n 0, 1) := by decide +kernel
theorem dX5_define_18 : decode cX5_define 18 = .ok (.getfield 22, 3) := by decide +kernel
theorem dX5_define_21 : decode cX5_define 21 = .ok (.aload_n 0, 1) := by decide +kernel
theorem dX5_define_22 : decode cX5_define 22 = .ok (.getfield 10, 3) := by decide +kernel
theorem dX5_define_25 : decode cX5_define 25 = .ok (.invokevirtual 48, 3) := by decide +kernel
theorem dX5_define_28 : decode cX5_define 28 = .ok (.aload_n 0, 1) := by decide +kernel
theorem dX5_define_29 : decode cX5_define 29 = .ok (.getfield 36, 3) := by decide +kernel
theorem dX5_define_32 : decode cX5_define 32 = .ok (.iload_n 2, 1) := by decide +kernel
theorem dX5_define_33 : decode cX5_define 33 = .ok (.invokevirtual 52, 3) := by decide +kernel
theorem dX5_define_36 : decode cX5_define 36 = .ok (.aload_n 0, 1) := by decide +kernel
theorem dX5_define_37 : decode cX5_define 37 = .ok (.getfield 10, 3) := by decide +kernel
theorem dX5_define_40 : decode cX5_define 40 = .ok (.iload_n 1, 1) := by decide +kernel
theorem dX5_define_41 : decode cX5_define 41 = .ok (.aload_n 0, 1) := by decide +kernel
theorem dX5_define_42 : decode cX5_define 42 = .ok (.getfield 36, 3) := by decide +kernel
theorem dX5_define_45 : decode cX5_define 45 = .ok (.invokevirtual 56, 3) := by decide +kernel
theorem dX5_define_48 : decode cX5_define 48 = .ok (.aload_n 0, 1) := by decide +kernel
theorem dX5_define_49 : decode cX5_define 49 = .ok (.getfield 10, 3) := by decide +kernel
theorem dX5_define_52 : decode cX5_define 52 = .ok (.getfield 60, 3) := by decide +kernel
theorem dX5_define_55 : decode cX5_define 55 = .ok (.ireturn, 1) := by decide +kernel
theorem dX5_formula_0 : decode cX5_formula 0 = .ok (.iload_n 1, 1) := by decide +kernel
theorem dX5_formula_1 : decode cX5_formula 1 = .ok (.invokestatic 40, 3) := by decide +kernel
theorem dX5_formula_4 : decode cX5_formula 4 = .ok (.ifCond .eq 34, 3) := by decide +kernel
theorem dX5_formula_7 : decode cX5_formula 7 = .ok (.iload_n 2, 1) := by decide +kernel
theorem dX5_formula_8 : decode cX5_formula 8 = .ok (.invokestatic 64, 3) := by decide +kernel
theorem dX5_formula_11 : decode cX5_formula 11 = .ok (.ifCond .eq 27, 3) := by decide +kernel
theorem dX5_formula_14 : decode cX5_formula 14 = .ok (.iload_n 3, 1) := by decide +kernel
theorem dX5_formula_15 : decode cX5_formula 15 = .ok (.invokestatic 40, 3) := by decide +kernel
theorem dX5_formula_18 : decode cX5_formula 18 = .ok (.ifCond .eq 20, 3) := by decide +kernel
theorem dX5_formula_21 : decode cX5_formula 21 = .ok (.iload 4, 2) := by decide +kernel
theorem dX5_formula_23 : decode cX5_formula 23 = .ok (.invokestatic 40, 3) := by decide +kernel
theorem dX5_formula_26 : decode cX5_formula 26 = .ok (.ifCond .eq 12, 3) := by decide +kernel
theorem dX5_formula_29 : decode cX5_formula 29 = .ok (.iload_n 2, 1) := by decide +kernel
theorem dX5_formula_30 : decode cX5_formula 30 = .ok (.iload 5, 2) := by decide +kernel
theorem dX5_formula_32 : decode cX5_formula 32 = .ok (.invokestatic 67, 3) := by decide +kernel
theorem dX5_formula_35 : decode cX5_formula 35 = .ok (.ifCond .ne 6, 3) := by decide +kernel
theorem dX5_formula_38 : decode cX5_formula 38 = .ok (.ldc 47, 2) := by decide +kernel
theorem dX5_formula_40 : decode cX5_formula 40 = .ok (.ireturn, 1) := by decide +kernel
theorem dX5_formula_41 : decode cX5_formula 41 = .ok (.aload_n 0, 1) := by decide +kernel
theorem dX5_formula_42 : decode cX5_formula 42 = .ok (.getfield 22, 3) := by decide +kernel
theorem dX5_formula_45 : decode cX5_formula 45 = .ok (.aload_n 0, 1) := by decide +kernel
theorem dX5_formula_46 : decode cX5_formula 46 = .ok (.getfield 10, 3) := by decide +kernel
theorem dX5_formula_49 : decode cX5_formula 49 = .ok (.invokevirtual 48, 3) := by decide +kernel
theorem dX5_formula_52 : decode cX5_formula 52 = .ok (.aload_n 0, 1) := by decide +kernel
theorem dX5_formula_53 : decode cX5_formula 53 = .ok (.getfield 36, 3) := by decide +kernel
theorem dX5_formula_56 : decode cX5_formula 56 = .ok (.iload_n 2, 1) := by decide +kernel
theorem dX5_formula_57 : decode cX5_formula 57 = .ok (.iload_n 3, 1) := by decide +kernel
theorem dX5_formula_58 : decode cX5_formula 58 = .ok (.iload 4, 2) := by decide +kernel
theorem dX5_formula_60 : decode cX5_formula 60 = .ok (.iload 5, 2) := by decide +kernel
theorem dX5_formula_62 : decode cX5_formula 62 = .ok (.invokevirtual 71, 3) := by decide +kernel
theorem dX5_formula_65 : decode cX5_formula 65 = .ok (.aload_n 0, 1) := by decide +kernel
theorem dX5_formula_66 : decode cX5_formula 66 = .ok (.getfield 10, 3) := by decide +kernel
theorem dX5_formula_69 : decode cX5_formula 69 = .ok (.iload_n 1, 1) := by decide +kernel
theorem dX5_formula_70 : decode cX5_formula 70 = .ok (.aload_n 0, 1) := by decide +kernel
theorem dX5_formula_71 : decode cX5_formula 71 = .ok (.getfield 36, 3) := by decide +kernel
theorem dX5_formula_74 : decode cX5_formula 74 = .ok (.invokevirtual 56, 3) := by decide +kernel
theorem dX5_formula_77 : decode cX5_formula 77 = .ok (.aload_n 0, 1) := by decide +kernel
theorem dX5_formula_78 : decode cX5_formula 78 = .ok (.getfield 10, 3) := by decide +kernel
theorem dX5_formula_81 : decode cX5_formula 81 = .ok (.getfield 60, 3) := by decide +kernel
theorem dX5_formula_84 : decode cX5_formula 84 = .ok (.ireturn, 1) := by decide +kernel
theorem dX5_cellOf_0 : decode cX5_cellOf 0 = .ok (.iload_n 1, 1) := by decide +kernel
theorem dX5_cellOf_1 : decode cX5_cellOf 1 = .ok (.invokestatic 40, 3) := by decide +kernel
theorem dX5_cellOf_4 : decode cX5_cellOf 4 = .ok (.ifCond .eq 12, 3) := by decide +kernel
theorem dX5_cellOf_7 : decode cX5_cellOf 7 = .ok (.iload_n 2, 1) := by decide +kernel
theorem dX5_cellOf_8 : decode cX5_cellOf 8 = .ok (.iconst 0, 1) := by decide +kernel
theorem dX5_cellOf_9 : decode cX5_cellOf 9 = .ok (.iconst 4, 1) := by decide +kernel
theorem dX5_cellOf_10 : decode cX5_cellOf 10 = .ok (.invokestatic 75, 3) := by decide +kernel
theorem dX5_cellOf_13 : decode cX5_cellOf 13 = .ok (.ifCond .ne 6, 3) := by decide +kernel
theorem dX5_cellOf_16 : decode cX5_cellOf 16 = .ok (.ldc 47, 2) := by decide +kernel
theorem dX5_cellOf_18 : decode cX5_cellOf 18 = .ok (.ireturn, 1) := by decide +kernel
theorem dX5_cellOf_19 : decode cX5_cellOf 19 = .ok (.aload_n 0, 1) := by decide +kernel
theorem dX5_cellOf_20 : decode cX5_cellOf 20 = .ok (.getfield 10, 3) := by decide +kernel
theorem dX5_cellOf_23 : decode cX5_cellOf 23 = .ok (.getfield 79, 3) := by decide +kernel
theorem dX5_cellOf_26 : decode cX5_cellOf 26 = .ok (.iload_n 1, 1) := by decide +kernel
theorem dX5_cellOf_27 : decode cX5_cellOf 27 = .ok (.aaload, 1) := by decide +kernel
theorem dX5_cellOf_28 : decode cX5_cellOf 28 = .ok (.getfield 83, 3) := by decide +kernel
theorem dX5_cellOf_31 : decode cX5_cellOf 31 = .ok (.astore_n 3, 1) := by decide +kernel
theorem dX5_cellOf_32 : decode cX5_cellOf 32 = .ok (.aload_n 3, 1) := by decide +kernel
theorem dX5_cellOf_33 : decode cX5_cellOf 33 = .ok (.getfield 88, 3) := by decide +kernel
theorem dX5_cellOf_36 : decode cX5_cellOf 36 = .ok (.iconst (-1), 1) := by decide +kernel
theorem dX5_cellOf_37 : decode cX5_cellOf 37 = .ok (.if_icmp .eq 7, 3) := by decide +kernel
theorem dX5_cellOf_40 : decode cX5_cellOf 40 = .ok (.iconst 1, 1) := by decide +kernel
theorem dX5_cellOf_41 : decode cX5_cellOf 41 = .ok (.goto 4, 3) := by decide +kernel
theorem dX5_cellOf_44 : decode cX5_cellOf 44 = .ok (.iconst 0, 1) := by decide +kernel
theorem dX5_cellOf_45 : decode cX5_cellOf 45 = .ok (.istore 4, 2) := by decide +kernel
theorem dX5_cellOf_47 : decode cX5_cellOf 47 = .ok (.iload_n 2, 1) := by decide +kernel
theorem dX5_cellOf_48 : decode cX5_cellOf 48 = .ok (.tableswitch 84 0 3 #[32, 39, 54, 69], 32) := by decide +kernel
theorem dX5_cellOf_80 : decode cX5_cellOf 80 = .ok (.aload_n 3, 1) := by decide +kernel
theorem dX5_cellOf_81 : decode cX5_cellOf 81 = .ok (.getfield 88, 3) := by decide +kernel
theorem dX5_cellOf_84 : decode cX5_cellOf 84 = .ok (.iconst (-1), 1) := by decide +kernel
theorem dX5_cellOf_85 : decode cX5_cellOf 85 = .ok (.isub, 1) := by decide +kernel
theorem dX5_cellOf_86 : decode cX5_cellOf 86 = .ok (.ireturn, 1) := by decide +kernel
theorem dX5_cellOf_87 : decode cX5_cellOf 87 = .ok (.iload 4, 2) := by decide +kernel
theorem dX5_cellOf_89 : decode cX5_cellOf 89 = .ok (.ifCond .eq 8, 3) := by decide +kernel
theorem dX5_cellOf_92 : decode cX5_cellOf 92 = .ok (.ldc 91, 2) := by decide +kernel
theorem dX5_cellOf_94 : decode cX5_cellOf 94 = .ok (.goto 7, 3) := by decide +kernel
theorem dX5_cellOf_97 : decode cX5_cellOf 97 = .ok (.aload_n 3, 1) := by decide +kernel
theorem dX5_cellOf_98 : decode cX5_cellOf 98 = .ok (.getfield 92, 3) := by decide +kernel
theorem dX5_cellOf_101 : decode cX5_cellOf 101 = .ok (.ireturn, 1) := by decide +kernel
theorem dX5_cellOf_102 : decode cX5_cellOf 102 = .ok (.iload 4, 2) := by decide +kernel
theorem dX5_cellOf_104 : decode cX5_cellOf 104 = .ok (.ifCond .eq 10, 3) := by decide +kernel
theorem dX5_cellOf_107 : decode cX5_cellOf 107 = .ok (.aload_n 3, 1) := by decide +kernel
theorem dX5_cellOf_108 : decode cX5_cellOf 108 = .ok (.getfield 95, 3) := by decide +kernel
theorem dX5_cellOf_111 : decode cX5_cellOf 111 = .ok (.goto 5, 3) := by decide +kernel
theorem dX5_cellOf_114 : decode cX5_cellOf 114 = .ok (.ldc 91, 2) := by decide +kernel
theorem dX5_cellOf_116 : decode cX5_cellOf 116 = .ok (.ireturn, 1) := by decide +kernel
theorem dX5_cellOf_117 : decode cX5_cellOf 117 = .ok (.iload 4, 2) := by decide +kernel
theorem dX5_cellOf_119 : decode cX5_cellOf 119 = .ok (.ifCond .eq 10, 3) := by decide +kernel
theorem dX5_cellOf_122 : decode cX5_cellOf 122 = .ok (.aload_n 3, 1) := by decide +kernel
theorem dX5_cellOf_123 : decode cX5_cellOf 123 = .ok (.getfield 98, 3) := by decide +kernel
theorem dX5_cellOf_126 : decode cX5_cellOf 126 = .ok (.goto 5, 3) := by decide +kernel
theorem dX5_cellOf_129 : decode cX5_cellOf 129 = .ok (.ldc 91, 2) := by decide +kernel
theorem dX5_cellOf_131 : decode cX5_cellOf 131 = .ok (.ireturn, 1) := by decide +kernel
theorem dX5_cellOf_132 : decode cX5_cellOf 132 = .ok (.aload_n 3, 1) := by decide +kernel
theorem dX5_cellOf_133 : decode cX5_cellOf 133 = .ok (.getfield 88, 3) := by decide +kernel
theorem dX5_cellOf_136 : decode cX5_cellOf 136 = .ok (.iconst 4, 1) := by decide +kernel
theorem dX5_cellOf_137 : decode cX5_cellOf 137 = .ok (.if_icmp .ne 10, 3) := by decide +kernel
theorem dX5_cellOf_140 : decode cX5_cellOf 140 = .ok (.aload_n 3, 1) := by decide +kernel
theorem dX5_cellOf_141 : decode cX5_cellOf 141 = .ok (.getfield 101, 3) := by decide +kernel
theorem dX5_cellOf_144 : decode cX5_cellOf 144 = .ok (.goto 5, 3) := by decide +kernel
theorem dX5_cellOf_147 : decode cX5_cellOf 147 = .ok (.ldc 91, 2) := by decide +kernel
theorem dX5_cellOf_149 : decode cX5_cellOf 149 = .ok (.ireturn, 1) := by decide +kernel
theorem dX5_ask_0 : decode cX5_ask 0 = .ok (.iload_n 1, 1) := by decide +kernel
theorem dX5_ask_1 : decode cX5_ask 1 = .ok (.invokestatic 40, 3) := by decide +kernel
theorem dX5_ask_4 : decode cX5_ask 4 = .ok (.ifCond .ne 6, 3) := by decide +kernel
theorem dX5_ask_7 : decode cX5_ask 7 = .ok (.ldc 47, 2) := by decide +kernel
theorem dX5_ask_9 : decode cX5_ask 9 = .ok (.ireturn, 1) := by decide +kernel
theorem dX5_ask_10 : decode cX5_ask 10 = .ok (.aload_n 0, 1) := by decide +kernel
theorem dX5_ask_11 : decode cX5_ask 11 = .ok (.getfield 16, 3) := by decide +kernel
theorem dX5_ask_14 : decode cX5_ask 14 = .ok (.aload_n 0, 1) := by decide +kernel
theorem dX5_ask_15 : decode cX5_ask 15 = .ok (.getfield 10, 3) := by decide +kernel
theorem dX5_ask_18 : decode cX5_ask 18 = .ok (.invokevirtual 104, 3) := by decide +kernel
theorem dX5_ask_21 : decode cX5_ask 21 = .ok (.aload_n 0, 1) := by decide +kernel
theorem dX5_ask_22 : decode cX5_ask 22 = .ok (.getfield 16, 3) := by decide +kernel
theorem dX5_ask_25 : decode cX5_ask 25 = .ok (.iload_n 1, 1) := by decide +kernel
theorem dX5_ask_26 : decode cX5_ask 26 = .ok (.invokevirtual 107, 3) := by decide +kernel
theorem dX5_ask_29 : decode cX5_ask 29 = .ok (.ifCond .ne 6, 3) := by decide +kernel
theorem dX5_ask_32 : decode cX5_ask 32 = .ok (.ldc 110, 2) := by decide +kernel
theorem dX5_ask_34 : decode cX5_ask 34 = .ok (.ireturn, 1) := by decide +kernel
theorem dX5_ask_35 : decode cX5_ask 35 = .ok (.aload_n 0, 1) := by decide +kernel
theorem dX5_ask_36 : decode cX5_ask 36 = .ok (.getfield 16, 3) := by decide +kernel
theorem dX5_ask_39 : decode cX5_ask 39 = .ok (.getfield 79, 3) := by decide +kernel
theorem dX5_ask_42 : decode cX5_ask 42 = .ok (.iload_n 1, 1) := by decide +kernel
theorem dX5_ask_43 : decode cX5_ask 43 = .ok (.aaload, 1) := by decide +kernel
theorem dX5_ask_44 : decode cX5_ask 44 = .ok (.invokevirtual 111, 3) := by decide +kernel
theorem dX5_ask_47 : decode cX5_ask 47 = .ok (.istore_n 2, 1) := by decide +kernel
theorem dX5_ask_48 : decode cX5_ask 48 = .ok (.aload_n 0, 1) := by decide +kernel
theorem dX5_ask_49 : decode cX5_ask 49 = .ok (.getfield 16, 3) := by decide +kernel
theorem dX5_ask_52 : decode cX5_ask 52 = .ok (.invokevirtual 115, 3) := by decide +kernel
theorem dX5_ask_55 : decode cX5_ask 55 = .ok (.aload_n 0, 1) := by decide +kernel
theorem dX5_ask_56 : decode cX5_ask 56 = .ok (.getfield 22, 3) := by decide +kernel
theorem dX5_ask_59 : decode cX5_ask 59 = .ok (.aload_n 0, 1) := by decide +kernel
theorem dX5_ask_60 : decode cX5_ask 60 = .ok (.getfield 10, 3) := by decide +kernel
theorem dX5_ask_63 : decode cX5_ask 63 = .ok (.invokevirtual 48, 3) := by decide +kernel
theorem dX5_ask_66 : decode cX5_ask 66 = .ok (.aload_n 0, 1) := by decide +kernel
theorem dX5_ask_67 : decode cX5_ask 67 = .ok (.getfield 10, 3) := by decide +kernel
theorem dX5_ask_70 : decode cX5_ask 70 = .ok (.aload_n 0, 1) := by decide +kernel
theorem dX5_ask_71 : decode cX5_ask 71 = .ok (.getfield 16, 3) := by decide +kernel
theorem dX5_ask_74 : decode cX5_ask 74 = .ok (.invokevirtual 104, 3) := by decide +kernel
theorem dX5_ask_77 : decode cX5_ask 77 = .ok (.iload_n 2, 1) := by decide +kernel
theorem dX5_ask_78 : decode cX5_ask 78 = .ok (.ireturn, 1) := by decide +kernel
theorem dX5_fresh_0 : decode cX5_fresh 0 = .ok (.iload_n 1, 1) := by decide +kernel
theorem dX5_fresh_1 : decode cX5_fresh 1 = .ok (.invokestatic 40, 3) := by decide +kernel
theorem dX5_fresh_4 : decode cX5_fresh 4 = .ok (.ifCond .ne 6, 3) := by decide +kernel
theorem dX5_fresh_7 : decode cX5_fresh 7 = .ok (.ldc 47, 2) := by decide +kernel
theorem dX5_fresh_9 : decode cX5_fresh 9 = .ok (.ireturn, 1) := by decide +kernel
theorem dX5_fresh_10 : decode cX5_fresh 10 = .ok (.aload_n 0, 1) := by decide +kernel
theorem dX5_fresh_11 : decode cX5_fresh 11 = .ok (.getfield 16, 3) := by decide +kernel
theorem dX5_fresh_14 : decode cX5_fresh 14 = .ok (.aload_n 0, 1) := by decide +kernel
theorem dX5_fresh_15 : decode cX5_fresh 15 = .ok (.getfield 10, 3) := by decide +kernel
theorem dX5_fresh_18 : decode cX5_fresh 18 = .ok (.invokevirtual 104, 3) := by decide +kernel
theorem dX5_fresh_21 : decode cX5_fresh 21 = .ok (.aload_n 0, 1) := by decide +kernel
theorem dX5_fresh_22 : decode cX5_fresh 22 = .ok (.iload_n 1, 1) := by decide +kernel
theorem dX5_fresh_23 : decode cX5_fresh 23 = .ok (.invokevirtual 118, 3) := by decide +kernel
theorem dX5_fresh_26 : decode cX5_fresh 26 = .ok (.ireturn, 1) := by decide +kernel
theorem dX5_cost_0 : decode cX5_cost 0 = .ok (.iload_n 1, 1) := by decide +kernel
theorem dX5_cost_1 : decode cX5_cost 1 = .ok (.invokestatic 40, 3) := by decide +kernel
theorem dX5_cost_4 : decode cX5_cost 4 = .ok (.ifCond .eq 12, 3) := by decide +kernel
theorem dX5_cost_7 : decode cX5_cost 7 = .ok (.iload_n 2, 1) := by decide +kernel
theorem dX5_cost_8 : decode cX5_cost 8 = .ok (.iconst 0, 1) := by decide +kernel
theorem dX5_cost_9 : decode cX5_cost 9 = .ok (.iconst 2, 1) := by decide +kernel
theorem dX5_cost_10 : decode cX5_cost 10 = .ok (.invokestatic 75, 3) := by decide +kernel
theorem dX5_cost_13 : decode cX5_cost 13 = .ok (.ifCond .ne 6, 3) := by decide +kernel
theorem dX5_cost_16 : decode cX5_cost 16 = .ok (.ldc 47, 2) := by decide +kernel
theorem dX5_cost_18 : decode cX5_cost 18 = .ok (.ireturn, 1) := by decide +kernel
theorem dX5_cost_19 : decode cX5_cost 19 = .ok (.aload_n 0, 1) := by decide +kernel
theorem dX5_cost_20 : decode cX5_cost 20 = .ok (.getfield 16, 3) := by decide +kernel
theorem dX5_cost_23 : decode cX5_cost 23 = .ok (.aload_n 0, 1) := by decide +kernel
theorem dX5_cost_24 : decode cX5_cost 24 = .ok (.getfield 10, 3) := by decide +kernel
theorem dX5_cost_27 : decode cX5_cost 27 = .ok (.invokevirtual 104, 3) := by decide +kernel
theorem dX5_cost_30 : decode cX5_cost 30 = .ok (.aload_n 0, 1) := by decide +kernel
theorem dX5_cost_31 : decode cX5_cost 31 = .ok (.getfield 16, 3) := by decide +kernel
theorem dX5_cost_34 : decode cX5_cost 34 = .ok (.iload_n 1, 1) := by decide +kernel
theorem dX5_cost_35 : decode cX5_cost 35 = .ok (.invokevirtual 107, 3) := by decide +kernel
theorem dX5_cost_38 : decode cX5_cost 38 = .ok (.ifCond .ne 6, 3) := by decide +kernel
theorem dX5_cost_41 : decode cX5_cost 41 = .ok (.ldc 110, 2) := by decide +kernel
theorem dX5_cost_43 : decode cX5_cost 43 = .ok (.ireturn, 1) := by decide +kernel
theorem dX5_cost_44 : decode cX5_cost 44 = .ok (.iload_n 2, 1) := by decide +kernel
theorem dX5_cost_45 : decode cX5_cost 45 = .ok (.lookupswitch 59 #[(0, 27), (1, 43)], 27) := by decide +kernel
theorem dX5_cost_72 : decode cX5_cost 72 = .ok (.aload_n 0, 1) := by decide +kernel
theorem dX5_cost_73 : decode cX5_cost 73 = .ok (.getfield 16, 3) := by decide +kernel
theorem dX5_cost_76 : decode cX5_cost 76 = .ok (.getfield 122, 3) := by decide +kernel
theorem dX5_cost_79 : decode cX5_cost 79 = .ok (.aload_n 0, 1) := by decide +kernel
theorem dX5_cost_80 : decode cX5_cost 80 = .ok (.getfield 10, 3) := by decide +kernel
theorem dX5_cost_83 : decode cX5_cost 83 = .ok (.getfield 122, 3) := by decide +kernel
theorem dX5_cost_86 : decode cX5_cost 86 = .ok (.isub, 1) := by decide +kernel
theorem dX5_cost_87 : decode cX5_cost 87 = .ok (.ireturn, 1) := by decide +kernel
theorem dX5_cost_88 : decode cX5_cost 88 = .ok (.aload_n 0, 1) := by decide +kernel
theorem dX5_cost_89 : decode cX5_cost 89 = .ok (.getfield 16, 3) := by decide +kernel
theorem dX5_cost_92 : decode cX5_cost 92 = .ok (.getfield 125, 3) := by decide +kernel
theorem dX5_cost_95 : decode cX5_cost 95 = .ok (.aload_n 0, 1) := by decide +kernel
theorem dX5_cost_96 : decode cX5_cost 96 = .ok (.getfield 10, 3) := by decide +kernel
theorem dX5_cost_99 : decode cX5_cost 99 = .ok (.getfield 125, 3) := by decide +kernel
theorem dX5_cost_102 : decode cX5_cost 102 = .ok (.isub, 1) := by decide +kernel
theorem dX5_cost_103 : decode cX5_cost 103 = .ok (.ireturn, 1) := by decide +kernel
theorem dX5_cost_104 : decode cX5_cost 104 = .ok (.aload_n 0, 1) := by decide +kernel
theorem dX5_cost_105 : decode cX5_cost 105 = .ok (.getfield 16, 3) := by decide +kernel
theorem dX5_cost_108 : decode cX5_cost 108 = .ok (.getfield 128, 3) := by decide +kernel
theorem dX5_cost_111 : decode cX5_cost 111 = .ok (.aload_n 0, 1) := by decide +kernel
theorem dX5_cost_112 : decode cX5_cost 112 = .ok (.getfield 10, 3) := by decide +kernel
theorem dX5_cost_115 : decode cX5_cost 115 = .ok (.getfield 128, 3) := by decide +kernel
theorem dX5_cost_118 : decode cX5_cost 118 = .ok (.isub, 1) := by decide +kernel
theorem dX5_cost_119 : decode cX5_cost 119 = .ok (.ireturn, 1) := by decide +kernel
theorem dX5_forget_0 : decode cX5_forget 0 = .ok (.iload_n 1, 1) := by decide +kernel
theorem dX5_forget_1 : decode cX5_forget 1 = .ok (.invokestatic 40, 3) := by decide +kernel
theorem dX5_forget_4 : decode cX5_forget 4 = .ok (.ifCond .ne 6, 3) := by decide +kernel
theorem dX5_forget_7 : decode cX5_forget 7 = .ok (.ldc 47, 2) := by decide +kernel
theorem dX5_forget_9 : decode cX5_forget 9 = .ok (.ireturn, 1) := by decide +kernel
theorem dX5_forget_10 : decode cX5_forget 10 = .ok (.aload_n 0, 1) := by decide +kernel
theorem dX5_forget_11 : decode cX5_forget 11 = .ok (.getfield 10, 3) := by decide +kernel
theorem dX5_forget_14 : decode cX5_forget 14 = .ok (.getfield 79, 3) := by decide +kernel
theorem dX5_forget_17 : decode cX5_forget 17 = .ok (.iload_n 1, 1) := by decide +kernel
theorem dX5_forget_18 : decode cX5_forget 18 = .ok (.aaload, 1) := by decide +kernel
theorem dX5_forget_19 : decode cX5_forget 19 = .ok (.getfield 131, 3) := by decide +kernel
theorem dX5_forget_22 : decode cX5_forget 22 = .ok (.ifCond .ne 6, 3) := by decide +kernel
theorem dX5_forget_25 : decode cX5_forget 25 = .ok (.ldc 110, 2) := by decide +kernel
theorem dX5_forget_27 : decode cX5_forget 27 = .ok (.ireturn, 1) := by decide +kernel
theorem dX5_forget_28 : decode cX5_forget 28 = .ok (.aload_n 0, 1) := by decide +kernel
theorem dX5_forget_29 : decode cX5_forget 29 = .ok (.getfield 22, 3) := by decide +kernel
theorem dX5_forget_32 : decode cX5_forget 32 = .ok (.aload_n 0, 1) := by decide +kernel
theorem dX5_forget_33 : decode cX5_forget 33 = .ok (.getfield 10, 3) := by decide +kernel
theorem dX5_forget_36 : decode cX5_forget 36 = .ok (.invokevirtual 48, 3) := by decide +kernel
theorem dX5_forget_39 : decode cX5_forget 39 = .ok (.aload_n 0, 1) := by decide +kernel
theorem dX5_forget_40 : decode cX5_forget 40 = .ok (.getfield 10, 3) := by decide +kernel
theorem dX5_forget_43 : decode cX5_forget 43 = .ok (.iload_n 1, 1) := by decide +kernel
theorem dX5_forget_44 : decode cX5_forget 44 = .ok (.invokevirtual 135, 3) := by decide +kernel
theorem dX5_forget_47 : decode cX5_forget 47 = .ok (.aload_n 0, 1) := by decide +kernel
theorem dX5_forget_48 : decode cX5_forget 48 = .ok (.getfield 10, 3) := by decide +kernel
theorem dX5_forget_51 : decode cX5_forget 51 = .ok (.invokevirtual 138, 3) := by decide +kernel
theorem dX5_forget_54 : decode cX5_forget 54 = .ok (.ireturn, 1) := by decide +kernel
theorem dX5_bound_0 : decode cX5_bound 0 = .ok (.iload_n 1, 1) := by decide +kernel
theorem dX5_bound_1 : decode cX5_bound 1 = .ok (.iconst 0, 1) := by decide +kernel
theorem dX5_bound_2 : decode cX5_bound 2 = .ok (.bipush 10, 2) := by decide +kernel
theorem dX5_bound_4 : decode cX5_bound 4 = .ok (.invokestatic 75, 3) := by decide +kernel
theorem dX5_bound_7 : decode cX5_bound 7 = .ok (.ifCond .ne 6, 3) := by decide +kernel
theorem dX5_bound_10 : decode cX5_bound 10 = .ok (.ldc 47, 2) := by decide +kernel
theorem dX5_bound_12 : decode cX5_bound 12 = .ok (.ireturn, 1) := by decide +kernel
theorem dX5_bound_13 : decode cX5_bound 13 = .ok (.aload_n 0, 1) := by decide +kernel
theorem dX5_bound_14 : decode cX5_bound 14 = .ok (.getfield 22, 3) := by decide +kernel
theorem dX5_bound_17 : decode cX5_bound 17 = .ok (.aload_n 0, 1) := by decide +kernel
theorem dX5_bound_18 : decode cX5_bound 18 = .ok (.getfield 10, 3) := by decide +kernel
theorem dX5_bound_21 : decode cX5_bound 21 = .ok (.invokevirtual 48, 3) := by decide +kernel
theorem dX5_bound_24 : decode cX5_bound 24 = .ok (.aload_n 0, 1) := by decide +kernel
theorem dX5_bound_25 : decode cX5_bound 25 = .ok (.getfield 10, 3) := by decide +kernel
theorem dX5_bound_28 : decode cX5_bound 28 = .ok (.getfield 141, 3) := by decide +kernel
theorem dX5_bound_31 : decode cX5_bound 31 = .ok (.istore_n 2, 1) := by decide +kernel
theorem dX5_bound_32 : decode cX5_bound 32 = .ok (.aload_n 0, 1) := by decide +kernel
theorem dX5_bound_33 : decode cX5_bound 33 = .ok (.getfield 10, 3) := by decide +kernel
theorem dX5_bound_36 : decode cX5_bound 36 = .ok (.iload_n 1, 1) := by decide +kernel
theorem dX5_bound_37 : decode cX5_bound 37 = .ok (.putfield 141, 3) := by decide +kernel
theorem dX5_bound_40 : decode cX5_bound 40 = .ok (.iload_n 2, 1) := by decide +kernel
theorem dX5_bound_41 : decode cX5_bound 41 = .ok (.ireturn, 1) := by decide +kernel
theorem dX5_rememberedOf_0 : decode cX5_rememberedOf 0 = .ok (.iload_n 1, 1) := by decide +kernel
theorem dX5_rememberedOf_1 : decode cX5_rememberedOf 1 = .ok (.invokestatic 40, 3) := by decide +kernel
theorem dX5_rememberedOf_4 : decode cX5_rememberedOf 4 = .ok (.ifCond .eq 13, 3) := by decide +kernel
theorem dX5_rememberedOf_7 : decode cX5_rememberedOf 7 = .ok (.iload_n 2, 1) := by decide +kernel
theorem dX5_rememberedOf_8 : decode cX5_rememberedOf 8 = .ok (.iconst 0, 1) := by decide +kernel
theorem dX5_rememberedOf_9 : decode cX5_rememberedOf 9 = .ok (.bipush 6, 2) := by decide +kernel
theorem dX5_rememberedOf_11 : decode cX5_rememberedOf 11 = .ok (.invokestatic 75, 3) := by decide +kernel
theorem dX5_rememberedOf_14 : decode cX5_rememberedOf 14 = .ok (.ifCond .ne 6, 3) := by decide +kernel
theorem dX5_rememberedOf_17 : decode cX5_rememberedOf 17 = .ok (.ldc 47, 2) := by decide +kernel
theorem dX5_rememberedOf_19 : decode cX5_rememberedOf 19 = .ok (.ireturn, 1) := by decide +kernel
theorem dX5_rememberedOf_20 : decode cX5_rememberedOf 20 = .ok (.aload_n 0, 1) := by decide +kernel
theorem dX5_rememberedOf_21 : decode cX5_rememberedOf 21 = .ok (.getfield 10, 3) := by decide +kernel
theorem dX5_rememberedOf_24 : decode cX5_rememberedOf 24 = .ok (.getfield 79, 3) := by decide +kernel
theorem dX5_rememberedOf_27 : decode cX5_rememberedOf 27 = .ok (.iload_n 1, 1) := by decide +kernel
theorem dX5_rememberedOf_28 : decode cX5_rememberedOf 28 = .ok (.aaload, 1) := by decide +kernel
theorem dX5_rememberedOf_29 : decode cX5_rememberedOf 29 = .ok (.astore_n 3, 1) := by decide +kernel
theorem dX5_rememberedOf_30 : decode cX5_rememberedOf 30 = .ok (.aload_n 3, 1) := by decide +kernel
theorem dX5_rememberedOf_31 : decode cX5_rememberedOf 31 = .ok (.getfield 131, 3) := by decide +kernel
theorem dX5_rememberedOf_34 : decode cX5_rememberedOf 34 = .ok (.ifCond .ne 6, 3) := by decide +kernel
theorem dX5_rememberedOf_37 : decode cX5_rememberedOf 37 = .ok (.ldc 91, 2) := by decide +kernel
theorem dX5_rememberedOf_39 : decode cX5_rememberedOf 39 = .ok (.ireturn, 1) := by decide +kernel
theorem dX5_rememberedOf_40 : decode cX5_rememberedOf 40 = .ok (.iload_n 2, 1) := by decide +kernel
theorem dX5_rememberedOf_41 : decode cX5_rememberedOf 41 = .ok (.tableswitch 94 0 5 #[39, 44, 49, 54, 68, 76], 39) := by decide +kernel
theorem dX5_rememberedOf_80 : decode cX5_rememberedOf 80 = .ok (.aload_n 3, 1) := by decide +kernel
theorem dX5_rememberedOf_81 : decode cX5_rememberedOf 81 = .ok (.getfield 144, 3) := by decide +kernel
theorem dX5_rememberedOf_84 : decode cX5_rememberedOf 84 = .ok (.ireturn, 1) := by decide +kernel
theorem dX5_rememberedOf_85 : decode cX5_rememberedOf 85 = .ok (.aload_n 3, 1) := by decide +kernel
theorem dX5_rememberedOf_86 : decode cX5_rememberedOf 86 = .ok (.getfield 147, 3) := by decide +kernel
theorem dX5_rememberedOf_89 : decode cX5_rememberedOf 89 = .ok (.ireturn, 1) := by decide +kernel
theorem dX5_rememberedOf_90 : decode cX5_rememberedOf 90 = .ok (.aload_n 3, 1) := by decide +kernel
theorem dX5_rememberedOf_91 : decode cX5_rememberedOf 91 = .ok (.getfield 150, 3) := by decide +kernel
theorem dX5_rememberedOf_94 : decode cX5_rememberedOf 94 = .ok (.ireturn, 1) := by decide +kernel
theorem dX5_rememberedOf_95 : decode cX5_rememberedOf 95 = .ok (.aload_n 3, 1) := by decide +kernel
theorem dX5_rememberedOf_96 : decode cX5_rememberedOf 96 = .ok (.getfield 153, 3) := by decide +kernel
theorem dX5_rememberedOf_99 : decode cX5_rememberedOf 99 = .ok (.iconst (-1), 1) := by decide +kernel
theorem dX5_rememberedOf_100 : decode cX5_rememberedOf 100 = .ok (.if_icmp .ne 7, 3) := by decide +kernel
theorem dX5_rememberedOf_103 : decode cX5_rememberedOf 103 = .ok (.iconst 1, 1) := by decide +kernel
theorem dX5_rememberedOf_104 : decode cX5_rememberedOf 104 = .ok (.goto 4, 3) := by decide +kernel
theorem dX5_rememberedOf_107 : decode cX5_rememberedOf 107 = .ok (.iconst 2, 1) := by decide +kernel
theorem dX5_rememberedOf_108 : decode cX5_rememberedOf 108 = .ok (.ireturn, 1) := by decide +kernel
theorem dX5_rememberedOf_109 : decode cX5_rememberedOf 109 = .ok (.aload_n 3, 1) := by decide +kernel
theorem dX5_rememberedOf_110 : decode cX5_rememberedOf 110 = .ok (.getfield 83, 3) := by decide +kernel
theorem dX5_rememberedOf_113 : decode cX5_rememberedOf 113 = .ok (.getfield 95, 3) := by decide +kernel
theorem dX5_rememberedOf_116 : decode cX5_rememberedOf 116 = .ok (.ireturn, 1) := by decide +kernel
theorem dX5_rememberedOf_117 : decode cX5_rememberedOf 117 = .ok (.aload_n 3, 1) := by decide +kernel
theorem dX5_rememberedOf_118 : decode cX5_rememberedOf 118 = .ok (.getfield 153, 3) := by decide +kernel
theorem dX5_rememberedOf_121 : decode cX5_rememberedOf 121 = .ok (.iconst (-1), 1) := by decide +kernel
theorem dX5_rememberedOf_122 : decode cX5_rememberedOf 122 = .ok (.if_icmp .ne 8, 3) := by decide +kernel
theorem dX5_rememberedOf_125 : decode cX5_rememberedOf 125 = .ok (.ldc 91, 2) := by decide +kernel
theorem dX5_rememberedOf_127 : decode cX5_rememberedOf 127 = .ok (.goto 7, 3) := by decide +kernel
theorem dX5_rememberedOf_130 : decode cX5_rememberedOf 130 = .ok (.aload_n 3, 1) := by decide +kernel
theorem dX5_rememberedOf_131 : decode cX5_rememberedOf 131 = .ok (.getfield 153, 3) := by decide +kernel
theorem dX5_rememberedOf_134 : decode cX5_rememberedOf 134 = .ok (.ireturn, 1) := by decide +kernel
theorem dX5_rememberedOf_135 : decode cX5_rememberedOf 135 = .ok (.aload_n 0, 1) := by decide +kernel
theorem dX5_rememberedOf_136 : decode cX5_rememberedOf 136 = .ok (.getfield 10, 3) := by decide +kernel
theorem dX5_rememberedOf_139 : decode cX5_rememberedOf 139 = .ok (.iload_n 1, 1) := by decide +kernel
theorem dX5_rememberedOf_140 : decode cX5_rememberedOf 140 = .ok (.invokevirtual 156, 3) := by decide +kernel
theorem dX5_rememberedOf_143 : decode cX5_rememberedOf 143 = .ok (.ireturn, 1) := by decide +kernel
theorem dX5_which_0 : decode cX5_which 0 = .ok (.iload_n 1, 1) := by decide +kernel
theorem dX5_which_1 : decode cX5_which 1 = .ok (.iconst 0, 1) := by decide +kernel
theorem dX5_which_2 : decode cX5_which 2 = .ok (.iconst 4, 1) := by decide +kernel
theorem dX5_which_3 : decode cX5_which 3 = .ok (.invokestatic 75, 3) := by decide +kernel
theorem dX5_which_6 : decode cX5_which 6 = .ok (.ifCond .ne 6, 3) := by decide +kernel
theorem dX5_which_9 : decode cX5_which 9 = .ok (.ldc 47, 2) := by decide +kernel
theorem dX5_which_11 : decode cX5_which 11 = .ok (.ireturn, 1) := by decide +kernel
theorem dX5_which_12 : decode cX5_which 12 = .ok (.iconst 0, 1) := by decide +kernel
theorem dX5_which_13 : decode cX5_which 13 = .ok (.istore_n 2, 1) := by decide +kernel
theorem dX5_which_14 : decode cX5_which 14 = .ok (.iconst 0, 1) := by decide +kernel
theorem dX5_which_15 : decode cX5_which 15 = .ok (.istore_n 3, 1) := by decide +kernel
theorem dX5_which_16 : decode cX5_which 16 = .ok (.iload_n 3, 1) := by decide +kernel
theorem dX5_which_17 : decode cX5_which 17 = .ok (.bipush 10, 2) := by decide +kernel
theorem dX5_which_19 : decode cX5_which 19 = .ok (.if_icmp .ge 24, 3) := by decide +kernel
theorem dX5_which_22 : decode cX5_which 22 = .ok (.aload_n 0, 1) := by decide +kernel
theorem dX5_which_23 : decode cX5_which 23 = .ok (.iload_n 3, 1) := by decide +kernel
theorem dX5_which_24 : decode cX5_which 24 = .ok (.iload_n 1, 1) := by decide +kernel
theorem dX5_which_25 : decode cX5_which 25 = .ok (.invokevirtual 159, 3) := by decide +kernel
theorem dX5_which_28 : decode cX5_which 28 = .ok (.ifCond .eq 9, 3) := by decide +kernel
theorem dX5_which_31 : decode cX5_which 31 = .ok (.iload_n 2, 1) := by decide +kernel
theorem dX5_which_32 : decode cX5_which 32 = .ok (.iconst 1, 1) := by decide +kernel
theorem dX5_which_33 : decode cX5_which 33 = .ok (.iload_n 3, 1) := by decide +kernel
theorem dX5_which_34 : decode cX5_which 34 = .ok (.ishl, 1) := by decide +kernel
theorem dX5_which_35 : decode cX5_which 35 = .ok (.ior, 1) := by decide +kernel
theorem dX5_which_36 : decode cX5_which 36 = .ok (.istore_n 2, 1) := by decide +kernel
theorem dX5_which_37 : decode cX5_which 37 = .ok (.iinc 3 1, 3) := by decide +kernel
theorem dX5_which_40 : decode cX5_which 40 = .ok (.goto (-24), 3) := by decide +kernel
theorem dX5_which_43 : decode cX5_which 43 = .ok (.iload_n 2, 1) := by decide +kernel
theorem dX5_which_44 : decode cX5_which 44 = .ok (.ireturn, 1) := by decide +kernel
theorem dX5_used_0 : decode cX5_used 0 = .ok (.iload_n 1, 1) := by decide +kernel
theorem dX5_used_1 : decode cX5_used 1 = .ok (.invokestatic 40, 3) := by decide +kernel
theorem dX5_used_4 : decode cX5_used 4 = .ok (.ifCond .ne 6, 3) := by decide +kernel
theorem dX5_used_7 : decode cX5_used 7 = .ok (.ldc 47, 2) := by decide +kernel
theorem dX5_used_9 : decode cX5_used 9 = .ok (.ireturn, 1) := by decide +kernel
theorem dX5_used_10 : decode cX5_used 10 = .ok (.aload_n 0, 1) := by decide +kernel
theorem dX5_used_11 : decode cX5_used 11 = .ok (.iload_n 1, 1) := by decide +kernel
theorem dX5_used_12 : decode cX5_used 12 = .ok (.invokevirtual 162, 3) := by decide +kernel
theorem dX5_used_15 : decode cX5_used 15 = .ok (.ireturn, 1) := by decide +kernel
theorem dX5_usedBy_0 : decode cX5_usedBy 0 = .ok (.iload_n 1, 1) := by decide +kernel
theorem dX5_usedBy_1 : decode cX5_usedBy 1 = .ok (.invokestatic 40, 3) := by decide +kernel
theorem dX5_usedBy_4 : decode cX5_usedBy 4 = .ok (.ifCond .ne 6, 3) := by decide +kernel
theorem dX5_usedBy_7 : decode cX5_usedBy 7 = .ok (.ldc 47, 2) := by decide +kernel
theorem dX5_usedBy_9 : decode cX5_usedBy 9 = .ok (.ireturn, 1) := by decide +kernel
theorem dX5_usedBy_10 : decode cX5_usedBy 10 = .ok (.iconst 0, 1) := by decide +kernel
theorem dX5_usedBy_11 : decode cX5_usedBy 11 = .ok (.istore_n 2, 1) := by decide +kernel
theorem dX5_usedBy_12 : decode cX5_usedBy 12 = .ok (.iconst 0, 1) := by decide +kernel
theorem dX5_usedBy_13 : decode cX5_usedBy 13 = .ok (.istore_n 3, 1) := by decide +kernel
theorem dX5_usedBy_14 : decode cX5_usedBy 14 = .ok (.iload_n 3, 1) := by decide +kernel
theorem dX5_usedBy_15 : decode cX5_usedBy 15 = .ok (.bipush 10, 2) := by decide +kernel
theorem dX5_usedBy_17 : decode cX5_usedBy 17 = .ok (.if_icmp .ge 38, 3) := by decide +kernel
theorem dX5_usedBy_20 : decode cX5_usedBy 20 = .ok (.aload_n 0, 1) := by decide +kernel
theorem dX5_usedBy_21 : decode cX5_usedBy 21 = .ok (.iload_n 3, 1) := by decide +kernel
theorem dX5_usedBy_22 : decode cX5_usedBy 22 = .ok (.invokevirtual 162, 3) := by decide +kernel
theorem dX5_usedBy_25 : decode cX5_usedBy 25 = .ok (.istore 4, 2) := by decide +kernel
theorem dX5_usedBy_27 : decode cX5_usedBy 27 = .ok (.iload 4, 2) := by decide +kernel
theorem dX5_usedBy_29 : decode cX5_usedBy 29 = .ok (.ldc 110, 2) := by decide +kernel
theorem dX5_usedBy_31 : decode cX5_usedBy 31 = .ok (.if_icmp .eq 18, 3) := by decide +kernel
theorem dX5_usedBy_34 : decode cX5_usedBy 34 = .ok (.iload 4, 2) := by decide +kernel
theorem dX5_usedBy_36 : decode cX5_usedBy 36 = .ok (.iconst 1, 1) := by decide +kernel
theorem dX5_usedBy_37 : decode cX5_usedBy 37 = .ok (.iload_n 1, 1) := by decide +kernel
theorem dX5_usedBy_38 : decode cX5_usedBy 38 = .ok (.ishl, 1) := by decide +kernel
theorem dX5_usedBy_39 : decode cX5_usedBy 39 = .ok (.iand, 1) := by decide +kernel
theorem dX5_usedBy_40 : decode cX5_usedBy 40 = .ok (.ifCond .eq 9, 3) := by decide +kernel
theorem dX5_usedBy_43 : decode cX5_usedBy 43 = .ok (.iload_n 2, 1) := by decide +kernel
theorem dX5_usedBy_44 : decode cX5_usedBy 44 = .ok (.iconst 1, 1) := by decide +kernel
theorem dX5_usedBy_45 : decode cX5_usedBy 45 = .ok (.iload_n 3, 1) := by decide +kernel
theorem dX5_usedBy_46 : decode cX5_usedBy 46 = .ok (.ishl, 1) := by decide +kernel
theorem dX5_usedBy_47 : decode cX5_usedBy 47 = .ok (.ior, 1) := by decide +kernel
theorem dX5_usedBy_48 : decode cX5_usedBy 48 = .ok (.istore_n 2, 1) := by decide +kernel
theorem dX5_usedBy_49 : decode cX5_usedBy 49 = .ok (.iinc 3 1, 3) := by decide +kernel
theorem dX5_usedBy_52 : decode cX5_usedBy 52 = .ok (.goto (-38), 3) := by decide +kernel
theorem dX5_usedBy_55 : decode cX5_usedBy 55 = .ok (.iload_n 2, 1) := by decide +kernel
theorem dX5_usedBy_56 : decode cX5_usedBy 56 = .ok (.ireturn, 1) := by decide +kernel
theorem dX5_would_0 : decode cX5_would 0 = .ok (.iload_n 1, 1) := by decide +kernel
theorem dX5_would_1 : decode cX5_would 1 = .ok (.invokestatic 40, 3) := by decide +kernel
theorem dX5_would_4 : decode cX5_would 4 = .ok (.ifCond .eq 17, 3) := by decide +kernel
theorem dX5_would_7 : decode cX5_would 7 = .ok (.iload_n 2, 1) := by decide +kernel
theorem dX5_would_8 : decode cX5_would 8 = .ok (.invokestatic 44, 3) := by decide +kernel
theorem dX5_would_11 : decode cX5_would 11 = .ok (.ifCond .eq 10, 3) := by decide +kernel
theorem dX5_would_14 : decode cX5_would 14 = .ok (.iload_n 3, 1) := by decide +kernel
theorem dX5_would_15 : decode cX5_would 15 = .ok (.invokestatic 40, 3) := by decide +kernel
theorem dX5_would_18 : decode cX5_would 18 = .ok (.ifCond .ne 6, 3) := by decide +kernel
theorem dX5_would_21 : decode cX5_would 21 = .ok (.ldc 47, 2) := by decide +kernel
theorem dX5_would_23 : decode cX5_would 23 = .ok (.ireturn, 1) := by decide +kernel
theorem dX5_would_24 : decode cX5_would 24 = .ok (.aload_n 0, 1) := by decide +kernel
theorem dX5_would_25 : decode cX5_would 25 = .ok (.getfield 16, 3) := by decide +kernel
theorem dX5_would_28 : decode cX5_would 28 = .ok (.aload_n 0, 1) := by decide +kernel
theorem dX5_would_29 : decode cX5_would 29 = .ok (.getfield 10, 3) := by decide +kernel
theorem dX5_would_32 : decode cX5_would 32 = .ok (.invokevirtual 104, 3) := by decide +kernel
theorem dX5_would_35 : decode cX5_would 35 = .ok (.aload_n 0, 1) := by decide +kernel
theorem dX5_would_36 : decode cX5_would 36 = .ok (.getfield 36, 3) := by decide +kernel
theorem dX5_would_39 : decode cX5_would 39 = .ok (.iload_n 2, 1) := by decide +kernel
theorem dX5_would_40 : decode cX5_would 40 = .ok (.invokevirtual 52, 3) := by decide +kernel
theorem dX5_would_43 : decode cX5_would 43 = .ok (.aload_n 0, 1) := by decide +kernel
theorem dX5_would_44 : decode cX5_would 44 = .ok (.getfield 16, 3) := by decide +kernel
theorem dX5_would_47 : decode cX5_would 47 = .ok (.iload_n 1, 1) := by decide +kernel
theorem dX5_would_48 : decode cX5_would 48 = .ok (.aload_n 0, 1) := by decide +kernel
theorem dX5_would_49 : decode cX5_would 49 = .ok (.getfield 36, 3) := by decide +kernel
theorem dX5_would_52 : decode cX5_would 52 = .ok (.invokevirtual 56, 3) := by decide +kernel
theorem dX5_would_55 : decode cX5_would 55 = .ok (.aload_n 0, 1) := by decide +kernel
theorem dX5_would_56 : decode cX5_would 56 = .ok (.iload_n 3, 1) := by decide +kernel
theorem dX5_would_57 : decode cX5_would 57 = .ok (.invokevirtual 118, 3) := by decide +kernel
theorem dX5_would_60 : decode cX5_would 60 = .ok (.ireturn, 1) := by decide +kernel
theorem dX5_count_0 : decode cX5_count 0 = .ok (.iload_n 1, 1) := by decide +kernel
theorem dX5_count_1 : decode cX5_count 1 = .ok (.tableswitch 135 0 9 #[55, 63, 71, 79, 87, 95, 103, 111, 119, 127], 55) := by decide +kernel
theorem dX5_count_56 : decode cX5_count 56 = .ok (.aload_n 0, 1) := by decide +kernel
theorem dX5_count_57 : decode cX5_count 57 = .ok (.getfield 10, 3) := by decide +kernel
theorem dX5_count_60 : decode cX5_count 60 = .ok (.getfield 60, 3) := by decide +kernel
theorem dX5_count_63 : decode cX5_count 63 = .ok (.ireturn, 1) := by decide +kernel
theorem dX5_count_64 : decode cX5_count 64 = .ok (.aload_n 0, 1) := by decide +kernel
theorem dX5_count_65 : decode cX5_count 65 = .ok (.getfield 10, 3) := by decide +kernel
theorem dX5_count_68 : decode cX5_count 68 = .ok (.invokevirtual 138, 3) := by decide +kernel
theorem dX5_count_71 : decode cX5_count 71 = .ok (.ireturn, 1) := by decide +kernel
theorem dX5_count_72 : decode cX5_count 72 = .ok (.aload_n 0, 1) := by decide +kernel
theorem dX5_count_73 : decode cX5_count 73 = .ok (.getfield 10, 3) := by decide +kernel
theorem dX5_count_76 : decode cX5_count 76 = .ok (.getfield 122, 3) := by decide +kernel
theorem dX5_count_79 : decode cX5_count 79 = .ok (.ireturn, 1) := by decide +kernel
theorem dX5_count_80 : decode cX5_count 80 = .ok (.aload_n 0, 1) := by decide +kernel
theorem dX5_count_81 : decode cX5_count 81 = .ok (.getfield 10, 3) := by decide +kernel
theorem dX5_count_84 : decode cX5_count 84 = .ok (.getfield 125, 3) := by decide +kernel
theorem dX5_count_87 : decode cX5_count 87 = .ok (.ireturn, 1) := by decide +kernel
theorem dX5_count_88 : decode cX5_count 88 = .ok (.aload_n 0, 1) := by decide +kernel
theorem dX5_count_89 : decode cX5_count 89 = .ok (.getfield 10, 3) := by decide +kernel
theorem dX5_count_92 : decode cX5_count 92 = .ok (.getfield 128, 3) := by decide +kernel
theorem dX5_count_95 : decode cX5_count 95 = .ok (.ireturn, 1) := by decide +kernel
theorem dX5_count_96 : decode cX5_count 96 = .ok (.aload_n 0, 1) := by decide +kernel
theorem dX5_count_97 : decode cX5_count 97 = .ok (.getfield 10, 3) := by decide +kernel
theorem dX5_count_100 : decode cX5_count 100 = .ok (.getfield 165, 3) := by decide +kernel
theorem dX5_count_103 : decode cX5_count 103 = .ok (.ireturn, 1) := by decide +kernel
theorem dX5_count_104 : decode cX5_count 104 = .ok (.aload_n 0, 1) := by decide +kernel
theorem dX5_count_105 : decode cX5_count 105 = .ok (.getfield 10, 3) := by decide +kernel
theorem dX5_count_108 : decode cX5_count 108 = .ok (.getfield 141, 3) := by decide +kernel
theorem dX5_count_111 : decode cX5_count 111 = .ok (.ireturn, 1) := by decide +kernel
theorem dX5_count_112 : decode cX5_count 112 = .ok (.aload_n 0, 1) := by decide +kernel
theorem dX5_count_113 : decode cX5_count 113 = .ok (.getfield 10, 3) := by decide +kernel
theorem dX5_count_116 : decode cX5_count 116 = .ok (.getfield 168, 3) := by decide +kernel
theorem dX5_count_119 : decode cX5_count 119 = .ok (.ireturn, 1) := by decide +kernel
theorem dX5_count_120 : decode cX5_count 120 = .ok (.aload_n 0, 1) := by decide +kernel
theorem dX5_count_121 : decode cX5_count 121 = .ok (.getfield 22, 3) := by decide +kernel
theorem dX5_count_124 : decode cX5_count 124 = .ok (.getfield 171, 3) := by decide +kernel
theorem dX5_count_127 : decode cX5_count 127 = .ok (.ireturn, 1) := by decide +kernel
theorem dX5_count_128 : decode cX5_count 128 = .ok (.aload_n 0, 1) := by decide +kernel
theorem dX5_count_129 : decode cX5_count 129 = .ok (.getfield 29, 3) := by decide +kernel
theorem dX5_count_132 : decode cX5_count 132 = .ok (.getfield 174, 3) := by decide +kernel
theorem dX5_count_135 : decode cX5_count 135 = .ok (.ireturn, 1) := by decide +kernel
theorem dX5_count_136 : decode cX5_count 136 = .ok (.ldc 47, 2) := by decide +kernel
theorem dX5_count_138 : decode cX5_count 138 = .ok (.ireturn, 1) := by decide +kernel
theorem dX5_undo_0 : decode cX5_undo 0 = .ok (.aload_n 0, 1) := by decide +kernel
theorem dX5_undo_1 : decode cX5_undo 1 = .ok (.getfield 22, 3) := by decide +kernel
theorem dX5_undo_4 : decode cX5_undo 4 = .ok (.getfield 171, 3) := by decide +kernel
theorem dX5_undo_7 : decode cX5_undo 7 = .ok (.ifCond .ne 6, 3) := by decide +kernel
theorem dX5_undo_10 : decode cX5_undo 10 = .ok (.ldc 110, 2) := by decide +kernel
theorem dX5_undo_12 : decode cX5_undo 12 = .ok (.ireturn, 1) := by decide +kernel
theorem dX5_undo_13 : decode cX5_undo 13 = .ok (.aload_n 0, 1) := by decide +kernel
theorem dX5_undo_14 : decode cX5_undo 14 = .ok (.getfield 22, 3) := by decide +kernel
theorem dX5_undo_17 : decode cX5_undo 17 = .ok (.aload_n 0, 1) := by decide +kernel
theorem dX5_undo_18 : decode cX5_undo 18 = .ok (.getfield 10, 3) := by decide +kernel
theorem dX5_undo_21 : decode cX5_undo 21 = .ok (.invokevirtual 177, 3) := by decide +kernel
theorem dX5_undo_24 : decode cX5_undo 24 = .ok (.aload_n 0, 1) := by decide +kernel
theorem dX5_undo_25 : decode cX5_undo 25 = .ok (.getfield 22, 3) := by decide +kernel
theorem dX5_undo_28 : decode cX5_undo 28 = .ok (.getfield 171, 3) := by decide +kernel
theorem dX5_undo_31 : decode cX5_undo 31 = .ok (.ireturn, 1) := by decide +kernel
theorem dX5_type_0 : decode cX5_type 0 = .ok (.iload_n 1, 1) := by decide +kernel
theorem dX5_type_1 : decode cX5_type 1 = .ok (.bipush 32, 2) := by decide +kernel
theorem dX5_type_3 : decode cX5_type 3 = .ok (.bipush 126, 2) := by decide +kernel
theorem dX5_type_5 : decode cX5_type 5 = .ok (.invokestatic 75, 3) := by decide +kernel
theorem dX5_type_8 : decode cX5_type 8 = .ok (.ifCond .ne 6, 3) := by decide +kernel
theorem dX5_type_11 : decode cX5_type 11 = .ok (.ldc 47, 2) := by decide +kernel
theorem dX5_type_13 : decode cX5_type 13 = .ok (.ireturn, 1) := by decide +kernel
theorem dX5_type_14 : decode cX5_type 14 = .ok (.aload_n 0, 1) := by decide +kernel
theorem dX5_type_15 : decode cX5_type 15 = .ok (.getfield 29, 3) := by decide +kernel
theorem dX5_type_18 : decode cX5_type 18 = .ok (.getfield 174, 3) := by decide +kernel
theorem dX5_type_21 : decode cX5_type 21 = .ok (.bipush 60, 2) := by decide +kernel
theorem dX5_type_23 : decode cX5_type 23 = .ok (.if_icmp .lt 6, 3) := by decide +kernel
theorem dX5_type_26 : decode cX5_type 26 = .ok (.ldc 180, 2) := by decide +kernel
theorem dX5_type_28 : decode cX5_type 28 = .ok (.ireturn, 1) := by decide +kernel
theorem dX5_type_29 : decode cX5_type 29 = .ok (.aload_n 0, 1) := by decide +kernel
theorem dX5_type_30 : decode cX5_type 30 = .ok (.getfield 29, 3) := by decide +kernel
theorem dX5_type_33 : decode cX5_type 33 = .ok (.iload_n 1, 1) := by decide +kernel
theorem dX5_type_34 : decode cX5_type 34 = .ok (.i2c, 1) := by decide +kernel
theorem dX5_type_35 : decode cX5_type 35 = .ok (.invokevirtual 181, 3) := by decide +kernel
theorem dX5_type_38 : decode cX5_type 38 = .ok (.aload_n 0, 1) := by decide +kernel
theorem dX5_type_39 : decode cX5_type 39 = .ok (.getfield 29, 3) := by decide +kernel
theorem dX5_type_42 : decode cX5_type 42 = .ok (.getfield 174, 3) := by decide +kernel
theorem dX5_type_45 : decode cX5_type 45 = .ok (.ireturn, 1) := by decide +kernel
theorem dX5_clearText_0 : decode cX5_clearText 0 = .ok (.aload_n 0, 1) := by decide +kernel
theorem dX5_clearText_1 : decode cX5_clearText 1 = .ok (.getfield 29, 3) := by decide +kernel
theorem dX5_clearText_4 : decode cX5_clearText 4 = .ok (.getfield 174, 3) := by decide +kernel
theorem dX5_clearText_7 : decode cX5_clearText 7 = .ok (.istore_n 1, 1) := by decide +kernel
theorem dX5_clearText_8 : decode cX5_clearText 8 = .ok (.aload_n 0, 1) := by decide +kernel
theorem dX5_clearText_9 : decode cX5_clearText 9 = .ok (.getfield 29, 3) := by decide +kernel
theorem dX5_clearText_12 : decode cX5_clearText 12 = .ok (.invokevirtual 185, 3) := by decide +kernel
theorem dX5_clearText_15 : decode cX5_clearText 15 = .ok (.iload_n 1, 1) := by decide +kernel
theorem dX5_clearText_16 : decode cX5_clearText 16 = .ok (.ireturn, 1) := by decide +kernel
theorem dX5_fault_0 : decode cX5_fault 0 = .ok (.iload_n 1, 1) := by decide +kernel
theorem dX5_fault_1 : decode cX5_fault 1 = .ok (.iconst 0, 1) := by decide +kernel
theorem dX5_fault_2 : decode cX5_fault 2 = .ok (.iconst 1, 1) := by decide +kernel
theorem dX5_fault_3 : decode cX5_fault 3 = .ok (.invokestatic 75, 3) := by decide +kernel
theorem dX5_fault_6 : decode cX5_fault 6 = .ok (.ifCond .ne 6, 3) := by decide +kernel
theorem dX5_fault_9 : decode cX5_fault 9 = .ok (.ldc 47, 2) := by decide +kernel
theorem dX5_fault_11 : decode cX5_fault 11 = .ok (.ireturn, 1) := by decide +kernel
theorem dX5_fault_12 : decode cX5_fault 12 = .ok (.aload_n 0, 1) := by decide +kernel
theorem dX5_fault_13 : decode cX5_fault 13 = .ok (.getfield 29, 3) := by decide +kernel
theorem dX5_fault_16 : decode cX5_fault 16 = .ok (.invokevirtual 188, 3) := by decide +kernel
theorem dX5_fault_19 : decode cX5_fault 19 = .ok (.istore_n 2, 1) := by decide +kernel
theorem dX5_fault_20 : decode cX5_fault 20 = .ok (.iload_n 2, 1) := by decide +kernel
theorem dX5_fault_21 : decode cX5_fault 21 = .ok (.iconst (-1), 1) := by decide +kernel
theorem dX5_fault_22 : decode cX5_fault 22 = .ok (.if_icmp .ne 6, 3) := by decide +kernel
theorem dX5_fault_25 : decode cX5_fault 25 = .ok (.ldc 91, 2) := by decide +kernel
theorem dX5_fault_27 : decode cX5_fault 27 = .ok (.ireturn, 1) := by decide +kernel
theorem dX5_fault_28 : decode cX5_fault 28 = .ok (.iload_n 1, 1) := by decide +kernel
theorem dX5_fault_29 : decode cX5_fault 29 = .ok (.ifCond .ne 7, 3) := by decide +kernel
theorem dX5_fault_32 : decode cX5_fault 32 = .ok (.iload_n 2, 1) := by decide +kernel
theorem dX5_fault_33 : decode cX5_fault 33 = .ok (.goto 12, 3) := by decide +kernel
theorem dX5_fault_36 : decode cX5_fault 36 = .ok (.aload_n 0, 1) := by decide +kernel
theorem dX5_fault_37 : decode cX5_fault 37 = .ok (.getfield 29, 3) := by decide +kernel
theorem dX5_fault_40 : decode cX5_fault 40 = .ok (.getfield 191, 3) := by decide +kernel
theorem dX5_fault_43 : decode cX5_fault 43 = .ok (.iload_n 2, 1) := by decide +kernel
theorem dX5_fault_44 : decode cX5_fault 44 = .ok (.isub, 1) := by decide +kernel
theorem dX5_fault_45 : decode cX5_fault 45 = .ok (.ireturn, 1) := by decide +kernel
theorem dX5_play_0 : decode cX5_play 0 = .ok (.aload_n 0, 1) := by decide +kernel
theorem dX5_play_1 : decode cX5_play 1 = .ok (.getfield 29, 3) := by decide +kernel
theorem dX5_play_4 : decode cX5_play 4 = .ok (.invokevirtual 188, 3) := by decide +kernel
theorem dX5_play_7 : decode cX5_play 7 = .ok (.iconst (-1), 1) := by decide +kernel
theorem dX5_play_8 : decode cX5_play 8 = .ok (.if_icmp .eq 6, 3) := by decide +kernel
theorem dX5_play_11 : decode cX5_play 11 = .ok (.ldc 110, 2) := by decide +kernel
theorem dX5_play_13 : decode cX5_play 13 = .ok (.ireturn, 1) := by decide +kernel
theorem dX5_play_14 : decode cX5_play 14 = .ok (.aload_n 0, 1) := by decide +kernel
theorem dX5_play_15 : decode cX5_play 15 = .ok (.getfield 22, 3) := by decide +kernel
theorem dX5_play_18 : decode cX5_play 18 = .ok (.aload_n 0, 1) := by decide +kernel
theorem dX5_play_19 : decode cX5_play 19 = .ok (.getfield 10, 3) := by decide +kernel
theorem dX5_play_22 : decode cX5_play 22 = .ok (.invokevirtual 48, 3) := by decide +kernel
theorem dX5_play_25 : decode cX5_play 25 = .ok (.aload_n 0, 1) := by decide +kernel
theorem dX5_play_26 : decode cX5_play 26 = .ok (.getfield 29, 3) := by decide +kernel
theorem dX5_play_29 : decode cX5_play 29 = .ok (.invokevirtual 194, 3) := by decide +kernel
theorem dX5_play_32 : decode cX5_play 32 = .ok (.iconst 0, 1) := by decide +kernel
theorem dX5_play_33 : decode cX5_play 33 = .ok (.istore_n 1, 1) := by decide +kernel
theorem dX5_play_34 : decode cX5_play 34 = .ok (.iload_n 1, 1) := by decide +kernel
theorem dX5_play_35 : decode cX5_play 35 = .ok (.bipush 60, 2) := by decide +kernel
theorem dX5_play_37 : decode cX5_play 37 = .ok (.if_icmp .ge 50, 3) := by decide +kernel
theorem dX5_play_40 : decode cX5_play 40 = .ok (.aload_n 0, 1) := by decide +kernel
theorem dX5_play_41 : decode cX5_play 41 = .ok (.getfield 29, 3) := by decide +kernel
theorem dX5_play_44 : decode cX5_play 44 = .ok (.invokevirtual 197, 3) := by decide +kernel
theorem dX5_play_47 : decode cX5_play 47 = .ok (.ifCond .eq 40, 3) := by decide +kernel
theorem dX5_play_50 : decode cX5_play 50 = .ok (.aload_n 0, 1) := by decide +kernel
theorem dX5_play_51 : decode cX5_play 51 = .ok (.getfield 29, 3) := by decide +kernel
theorem dX5_play_54 : decode cX5_play 54 = .ok (.invokevirtual 201, 3) := by decide +kernel
theorem dX5_play_57 : decode cX5_play 57 = .ok (.ifCond .eq 24, 3) := by decide +kernel
theorem dX5_play_60 : decode cX5_play 60 = .ok (.aload_n 0, 1) := by decide +kernel
theorem dX5_play_61 : decode cX5_play 61 = .ok (.getfield 10, 3) := by decide +kernel
theorem dX5_play_64 : decode cX5_play 64 = .ok (.aload_n 0, 1) := by decide +kernel
theorem dX5_play_65 : decode cX5_play 65 = .ok (.getfield 29, 3) := by decide +kernel
theorem dX5_play_68 : decode cX5_play 68 = .ok (.getfield 204, 3) := by decide +kernel
theorem dX5_play_71 : decode cX5_play 71 = .ok (.aload_n 0, 1) := by decide +kernel
theorem dX5_play_72 : decode cX5_play 72 = .ok (.getfield 29, 3) := by decide +kernel
theorem dX5_play_75 : decode cX5_play 75 = .ok (.getfield 207, 3) := by decide +kernel
theorem dX5_play_78 : decode cX5_play 78 = .ok (.invokevirtual 56, 3) := by decide +kernel
theorem dX5_play_81 : decode cX5_play 81 = .ok (.iinc 1 1, 3) := by decide +kernel
theorem dX5_play_84 : decode cX5_play 84 = .ok (.goto (-50), 3) := by decide +kernel
theorem dX5_play_87 : decode cX5_play 87 = .ok (.aload_n 0, 1) := by decide +kernel
theorem dX5_play_88 : decode cX5_play 88 = .ok (.getfield 10, 3) := by decide +kernel
theorem dX5_play_91 : decode cX5_play 91 = .ok (.getfield 60, 3) := by decide +kernel
theorem dX5_play_94 : decode cX5_play 94 = .ok (.ireturn, 1) := by decide +kernel
theorem dX5_isWithin_0 : decode cX5_isWithin 0 = .ok (.iload_n 0, 1) := by decide +kernel
theorem dX5_isWithin_1 : decode cX5_isWithin 1 = .ok (.iload_n 1, 1) := by decide +kernel
theorem dX5_isWithin_2 : decode cX5_isWithin 2 = .ok (.if_icmp .lt 12, 3) := by decide +kernel
theorem dX5_isWithin_5 : decode cX5_isWithin 5 = .ok (.iload_n 0, 1) := by decide +kernel
theorem dX5_isWithin_6 : decode cX5_isWithin 6 = .ok (.iload_n 2, 1) := by decide +kernel
theorem dX5_isWithin_7 : decode cX5_isWithin 7 = .ok (.if_icmp .gt 7, 3) := by decide +kernel
theorem dX5_isWithin_10 : decode cX5_isWithin 10 = .ok (.iconst 1, 1) := by decide +kernel
theorem dX5_isWithin_11 : decode cX5_isWithin 11 = .ok (.goto 4, 3) := by decide +kernel
theorem dX5_isWithin_14 : decode cX5_isWithin 14 = .ok (.iconst 0, 1) := by decide +kernel
theorem dX5_isWithin_15 : decode cX5_isWithin 15 = .ok (.ireturn, 1) := by decide +kernel
theorem dX5_isCell_0 : decode cX5_isCell 0 = .ok (.iload_n 0, 1) := by decide +kernel
theorem dX5_isCell_1 : decode cX5_isCell 1 = .ok (.iconst 0, 1) := by decide +kernel
theorem dX5_isCell_2 : decode cX5_isCell 2 = .ok (.bipush 9, 2) := by decide +kernel
theorem dX5_isCell_4 : decode cX5_isCell 4 = .ok (.invokestatic 75, 3) := by decide +kernel
theorem dX5_isCell_7 : decode cX5_isCell 7 = .ok (.ireturn, 1) := by decide +kernel
theorem dX5_isValue_0 : decode cX5_isValue 0 = .ok (.iload_n 0, 1) := by decide +kernel
theorem dX5_isValue_1 : decode cX5_isValue 1 = .ok (.ldc 208, 2) := by decide +kernel
theorem dX5_isValue_3 : decode cX5_isValue 3 = .ok (.ldc 209, 2) := by decide +kernel
theorem dX5_isValue_5 : decode cX5_isValue 5 = .ok (.invokestatic 75, 3) := by decide +kernel
theorem dX5_isValue_8 : decode cX5_isValue 8 = .ok (.ireturn, 1) := by decide +kernel
theorem dX5_isKind_0 : decode cX5_isKind 0 = .ok (.iload_n 0, 1) := by decide +kernel
theorem dX5_isKind_1 : decode cX5_isKind 1 = .ok (.iconst 0, 1) := by decide +kernel
theorem dX5_isKind_2 : decode cX5_isKind 2 = .ok (.iconst 4, 1) := by decide +kernel
theorem dX5_isKind_3 : decode cX5_isKind 3 = .ok (.invokestatic 75, 3) := by decide +kernel
theorem dX5_isKind_6 : decode cX5_isKind 6 = .ok (.ireturn, 1) := by decide +kernel
theorem dX5_isThird_0 : decode cX5_isThird 0 = .ok (.iload_n 0, 1) := by decide +kernel
theorem dX5_isThird_1 : decode cX5_isThird 1 = .ok (.iconst 4, 1) := by decide +kernel
theorem dX5_isThird_2 : decode cX5_isThird 2 = .ok (.if_icmp .ne 10, 3) := by decide +kernel
theorem dX5_isThird_5 : decode cX5_isThird 5 = .ok (.iload_n 1, 1) := by decide +kernel
theorem dX5_isThird_6 : decode cX5_isThird 6 = .ok (.invokestatic 40, 3) := by decide +kernel
theorem dX5_isThird_9 : decode cX5_isThird 9 = .ok (.goto 12, 3) := by decide +kernel
theorem dX5_isThird_12 : decode cX5_isThird 12 = .ok (.iload_n 1, 1) := by decide +kernel
theorem dX5_isThird_13 : decode cX5_isThird 13 = .ok (.ifCond .ne 7, 3) := by decide +kernel
theorem dX5_isThird_16 : decode cX5_isThird 16 = .ok (.iconst 1, 1) := by decide +kernel
theorem dX5_isThird_17 : decode cX5_isThird 17 = .ok (.goto 4, 3) := by decide +kernel
theorem dX5_isThird_20 : decode cX5_isThird 20 = .ok (.iconst 0, 1) := by decide +kernel
theorem dX5_isThird_21 : decode cX5_isThird 21 = .ok (.ireturn, 1) := by decide +kernel
theorem dX5_answerAfresh_0 : decode cX5_answerAfresh 0 = .ok (.aload_n 0, 1) := by decide +kernel
theorem dX5_answerAfresh_1 : decode cX5_answerAfresh 1 = .ok (.getfield 16, 3) := by decide +kernel
theorem dX5_answerAfresh_4 : decode cX5_answerAfresh 4 = .ok (.invokevirtual 210, 3) := by decide +kernel
theorem dX5_answerAfresh_7 : decode cX5_answerAfresh 7 = .ok (.aload_n 0, 1) := by decide +kernel
theorem dX5_answerAfresh_8 : decode cX5_answerAfresh 8 = .ok (.getfield 16, 3) := by decide +kernel
theorem dX5_answerAfresh_11 : decode cX5_answerAfresh 11 = .ok (.iload_n 1, 1) := by decide +kernel
theorem dX5_answerAfresh_12 : decode cX5_answerAfresh 12 = .ok (.invokevirtual 107, 3) := by decide +kernel
theorem dX5_answerAfresh_15 : decode cX5_answerAfresh 15 = .ok (.ifCond .ne 6, 3) := by decide +kernel
theorem dX5_answerAfresh_18 : decode cX5_answerAfresh 18 = .ok (.ldc 110, 2) := by decide +kernel
theorem dX5_answerAfresh_20 : decode cX5_answerAfresh 20 = .ok (.ireturn, 1) := by decide +kernel
theorem dX5_answerAfresh_21 : decode cX5_answerAfresh 21 = .ok (.aload_n 0, 1) := by decide +kernel
theorem dX5_answerAfresh_22 : decode cX5_answerAfresh 22 = .ok (.getfield 16, 3) := by decide +kernel
theorem dX5_answerAfresh_25 : decode cX5_answerAfresh 25 = .ok (.getfield 79, 3) := by decide +kernel
theorem dX5_answerAfresh_28 : decode cX5_answerAfresh 28 = .ok (.iload_n 1, 1) := by decide +kernel
theorem dX5_answerAfresh_29 : decode cX5_answerAfresh 29 = .ok (.aaload, 1) := by decide +kernel
theorem dX5_answerAfresh_30 : decode cX5_answerAfresh 30 = .ok (.invokevirtual 111, 3) := by decide +kernel
theorem dX5_answerAfresh_33 : decode cX5_answerAfresh 33 = .ok (.istore_n 2, 1) := by decide +kernel
theorem dX5_answerAfresh_34 : decode cX5_answerAfresh 34 = .ok (.iload_n 2, 1) := by decide +kernel
theorem dX5_answerAfresh_35 : decode cX5_answerAfresh 35 = .ok (.ldc 213, 2) := by decide +kernel
theorem dX5_answerAfresh_37 : decode cX5_answerAfresh 37 = .ok (.if_icmp .ne 8, 3) := by decide +kernel
theorem dX5_answerAfresh_40 : decode cX5_answerAfresh 40 = .ok (.ldc 180, 2) := by decide +kernel
theorem dX5_answerAfresh_42 : decode cX5_answerAfresh 42 = .ok (.goto 4, 3) := by decide +kernel
theorem dX5_answerAfresh_45 : decode cX5_answerAfresh 45 = .ok (.iload_n 2, 1) := by decide +kernel
theorem dX5_answerAfresh_46 : decode cX5_answerAfresh 46 = .ok (.ireturn, 1) := by decide +kernel
theorem dX5_usedAfresh_0 : decode cX5_usedAfresh 0 = .ok (.aload_n 0, 1) := by decide +kernel
theorem dX5_usedAfresh_1 : decode cX5_usedAfresh 1 = .ok (.getfield 16, 3) := by decide +kernel
theorem dX5_usedAfresh_4 : decode cX5_usedAfresh 4 = .ok (.aload_n 0, 1) := by decide +kernel
theorem dX5_usedAfresh_5 : decode cX5_usedAfresh 5 = .ok (.getfield 10, 3) := by decide +kernel
theorem dX5_usedAfresh_8 : decode cX5_usedAfresh 8 = .ok (.invokevirtual 104, 3) := by decide +kernel
theorem dX5_usedAfresh_11 : decode cX5_usedAfresh 11 = .ok (.aload_n 0, 1) := by decide +kernel
theorem dX5_usedAfresh_12 : decode cX5_usedAfresh 12 = .ok (.getfield 16, 3) := by decide +kernel
theorem dX5_usedAfresh_15 : decode cX5_usedAfresh 15 = .ok (.invokevirtual 210, 3) := by decide +kernel
theorem dX5_usedAfresh_18 : decode cX5_usedAfresh 18 = .ok (.aload_n 0, 1) := by decide +kernel
theorem dX5_usedAfresh_19 : decode cX5_usedAfresh 19 = .ok (.getfield 16, 3) := by decide +kernel
theorem dX5_usedAfresh_22 : decode cX5_usedAfresh 22 = .ok (.iload_n 1, 1) := by decide +kernel
theorem dX5_usedAfresh_23 : decode cX5_usedAfresh 23 = .ok (.invokevirtual 107, 3) := by decide +kernel
theorem dX5_usedAfresh_26 : decode cX5_usedAfresh 26 = .ok (.ifCond .eq 19, 3) := by decide +kernel
theorem dX5_usedAfresh_29 : decode cX5_usedAfresh 29 = .ok (.aload_n 0, 1) := by decide +kernel
theorem dX5_usedAfresh_30 : decode cX5_usedAfresh 30 = .ok (.getfield 16, 3) := by decide +kernel
theorem dX5_usedAfresh_33 : decode cX5_usedAfresh 33 = .ok (.getfield 214, 3) := by decide +kernel
theorem dX5_usedAfresh_36 : decode cX5_usedAfresh 36 = .ok (.iconst 1, 1) := by decide +kernel
theorem dX5_usedAfresh_37 : decode cX5_usedAfresh 37 = .ok (.iload_n 1, 1) := by decide +kernel
theorem dX5_usedAfresh_38 : decode cX5_usedAfresh 38 = .ok (.ishl, 1) := by decide +kernel
theorem dX5_usedAfresh_39 : decode cX5_usedAfresh 39 = .ok (.iconst (-1), 1) := by decide +kernel
theorem dX5_usedAfresh_40 : decode cX5_usedAfresh 40 = .ok (.ixor, 1) := by decide +kernel
theorem dX5_usedAfresh_41 : decode cX5_usedAfresh 41 = .ok (.iand, 1) := by decide +kernel
theorem dX5_usedAfresh_42 : decode cX5_usedAfresh 42 = .ok (.goto 5, 3) := by decide +kernel
theorem dX5_usedAfresh_45 : decode cX5_usedAfresh 45 = .ok (.ldc 110, 2) := by decide +kernel
theorem dX5_usedAfresh_47 : decode cX5_usedAfresh 47 = .ok (.ireturn, 1) := by decide +kernel
theorem dX5_isOneOf_0 : decode cX5_isOneOf 0 = .ok (.aload_n 0, 1) := by decide +kernel
theorem dX5_isOneOf_1 : decode cX5_isOneOf 1 = .ok (.getfield 10, 3) := by decide +kernel
theorem dX5_isOneOf_4 : decode cX5_isOneOf 4 = .ok (.getfield 79, 3) := by decide +kernel
theorem dX5_isOneOf_7 : decode cX5_isOneOf 7 = .ok (.iload_n 1, 1) := by decide +kernel
theorem dX5_isOneOf_8 : decode cX5_isOneOf 8 = .ok (.aaload, 1) := by decide +kernel
theorem dX5_isOneOf_9 : decode cX5_isOneOf 9 = .ok (.astore_n 3, 1) := by decide +kernel
theorem dX5_isOneOf_10 : decode cX5_isOneOf 10 = .ok (.iload_n 2, 1) := by decide +kernel
theorem dX5_isOneOf_11 : decode cX5_isOneOf 11 = .ok (.tableswitch 105 0 3 #[29, 46, 51, 78], 29) := by decide +kernel
theorem dX5_isOneOf_40 : decode cX5_isOneOf 40 = .ok (.aload_n 3, 1) := by decide +kernel
theorem dX5_isOneOf_41 : decode cX5_isOneOf 41 = .ok (.getfield 83, 3) := by decide +kernel
theorem dX5_isOneOf_44 : decode cX5_isOneOf 44 = .ok (.getfield 88, 3) := by decide +kernel
theorem dX5_isOneOf_47 : decode cX5_isOneOf 47 = .ok (.iconst (-1), 1) := by decide +kernel
theorem dX5_isOneOf_48 : decode cX5_isOneOf 48 = .ok (.if_icmp .eq 7, 3) := by decide +kernel
theorem dX5_isOneOf_51 : decode cX5_isOneOf 51 = .ok (.iconst 1, 1) := by decide +kernel
theorem dX5_isOneOf_52 : decode cX5_isOneOf 52 = .ok (.goto 4, 3) := by decide +kernel
theorem dX5_isOneOf_55 : decode cX5_isOneOf 55 = .ok (.iconst 0, 1) := by decide +kernel
theorem dX5_isOneOf_56 : decode cX5_isOneOf 56 = .ok (.ireturn, 1) := by decide +kernel
theorem dX5_isOneOf_57 : decode cX5_isOneOf 57 = .ok (.aload_n 3, 1) := by decide +kernel
theorem dX5_isOneOf_58 : decode cX5_isOneOf 58 = .ok (.getfield 131, 3) := by decide +kernel
theorem dX5_isOneOf_61 : decode cX5_isOneOf 61 = .ok (.ireturn, 1) := by decide +kernel
theorem dX5_isOneOf_62 : decode cX5_isOneOf 62 = .ok (.aload_n 3, 1) := by decide +kernel
theorem dX5_isOneOf_63 : decode cX5_isOneOf 63 = .ok (.getfield 131, 3) := by decide +kernel
theorem dX5_isOneOf_66 : decode cX5_isOneOf 66 = .ok (.ifCond .eq 21, 3) := by decide +kernel
theorem dX5_isOneOf_69 : decode cX5_isOneOf 69 = .ok (.aload_n 3, 1) := by decide +kernel
theorem dX5_isOneOf_70 : decode cX5_isOneOf 70 = .ok (.getfield 150, 3) := by decide +kernel
theorem dX5_isOneOf_73 : decode cX5_isOneOf 73 = .ok (.aload_n 0, 1) := by decide +kernel
theorem dX5_isOneOf_74 : decode cX5_isOneOf 74 = .ok (.getfield 10, 3) := by decide +kernel
theorem dX5_isOneOf_77 : decode cX5_isOneOf 77 = .ok (.getfield 60, 3) := by decide +kernel
theorem dX5_isOneOf_80 : decode cX5_isOneOf 80 = .ok (.if_icmp .ne 7, 3) := by decide +kernel
theorem dX5_isOneOf_83 : decode cX5_isOneOf 83 = .ok (.iconst 1, 1) := by decide +kernel
theorem dX5_isOneOf_84 : decode cX5_isOneOf 84 = .ok (.goto 4, 3) := by decide +kernel
theorem dX5_isOneOf_87 : decode cX5_isOneOf 87 = .ok (.iconst 0, 1) := by decide +kernel
theorem dX5_isOneOf_88 : decode cX5_isOneOf 88 = .ok (.ireturn, 1) := by decide +kernel
theorem dX5_isOneOf_89 : decode cX5_isOneOf 89 = .ok (.aload_n 0, 1) := by decide +kernel
theorem dX5_isOneOf_90 : decode cX5_isOneOf 90 = .ok (.getfield 16, 3) := by decide +kernel
theorem dX5_isOneOf_93 : decode cX5_isOneOf 93 = .ok (.aload_n 0, 1) := by decide +kernel
theorem dX5_isOneOf_94 : decode cX5_isOneOf 94 = .ok (.getfield 10, 3) := by decide +kernel
theorem dX5_isOneOf_97 : decode cX5_isOneOf 97 = .ok (.invokevirtual 104, 3) := by decide +kernel
theorem dX5_isOneOf_100 : decode cX5_isOneOf 100 = .ok (.aload_n 0, 1) := by decide +kernel
theorem dX5_isOneOf_101 : decode cX5_isOneOf 101 = .ok (.iload_n 1, 1) := by decide +kernel
theorem dX5_isOneOf_102 : decode cX5_isOneOf 102 = .ok (.invokevirtual 118, 3) := by decide +kernel
theorem dX5_isOneOf_105 : decode cX5_isOneOf 105 = .ok (.ldc 110, 2) := by decide +kernel
theorem dX5_isOneOf_107 : decode cX5_isOneOf 107 = .ok (.if_icmp .ne 7, 3) := by decide +kernel
theorem dX5_isOneOf_110 : decode cX5_isOneOf 110 = .ok (.iconst 1, 1) := by decide +kernel
theorem dX5_isOneOf_111 : decode cX5_isOneOf 111 = .ok (.goto 4, 3) := by decide +kernel
theorem dX5_isOneOf_114 : decode cX5_isOneOf 114 = .ok (.iconst 0, 1) := by decide +kernel
theorem dX5_isOneOf_115 : decode cX5_isOneOf 115 = .ok (.ireturn, 1) := by decide +kernel
theorem dX5_isOneOf_116 : decode cX5_isOneOf 116 = .ok (.aload_n 0, 1) := by decide +kernel
theorem dX5_isOneOf_117 : decode cX5_isOneOf 117 = .ok (.getfield 16, 3) := by decide +kernel
theorem dX5_isOneOf_120 : decode cX5_isOneOf 120 = .ok (.aload_n 0, 1) := by decide +kernel
theorem dX5_isOneOf_121 : decode cX5_isOneOf 121 = .ok (.getfield 10, 3) := by decide +kernel
theorem dX5_isOneOf_124 : decode cX5_isOneOf 124 = .ok (.invokevirtual 104, 3) := by decide +kernel
theorem dX5_isOneOf_127 : decode cX5_isOneOf 127 = .ok (.aload_n 0, 1) := by decide +kernel
theorem dX5_isOneOf_128 : decode cX5_isOneOf 128 = .ok (.iload_n 1, 1) := by decide +kernel
theorem dX5_isOneOf_129 : decode cX5_isOneOf 129 = .ok (.invokevirtual 118, 3) := by decide +kernel
theorem dX5_isOneOf_132 : decode cX5_isOneOf 132 = .ok (.ldc 180, 2) := by decide +kernel
theorem dX5_isOneOf_134 : decode cX5_isOneOf 134 = .ok (.if_icmp .ne 7, 3) := by decide +kernel
theorem dX5_isOneOf_137 : decode cX5_isOneOf 137 = .ok (.iconst 1, 1) := by decide +kernel
theorem dX5_isOneOf_138 : decode cX5_isOneOf 138 = .ok (.goto 4, 3) := by decide +kernel
theorem dX5_isOneOf_141 : decode cX5_isOneOf 141 = .ok (.iconst 0, 1) := by decide +kernel
theorem dX5_isOneOf_142 : decode cX5_isOneOf 142 = .ok (.ireturn, 1) := by decide +kernel
theorem dJ9_max_7cf53_0 : decode cJ9_max_7cf53 0 = .ok (.iload_n 0, 1) := by decide +kernel
theorem dJ9_max_7cf53_1 : decode cJ9_max_7cf53 1 = .ok (.iload_n 1, 1) := by decide +kernel
theorem dJ9_max_7cf53_2 : decode cJ9_max_7cf53 2 = .ok (.if_icmp .lt 7, 3) := by decide +kernel
theorem dJ9_max_7cf53_5 : decode cJ9_max_7cf53 5 = .ok (.iload_n 0, 1) := by decide +kernel
theorem dJ9_max_7cf53_6 : decode cJ9_max_7cf53 6 = .ok (.goto 4, 3) := by decide +kernel
theorem dJ9_max_7cf53_9 : decode cJ9_max_7cf53 9 = .ok (.iload_n 1, 1) := by decide +kernel
theorem dJ9_max_7cf53_10 : decode cJ9_max_7cf53 10 = .ok (.ireturn, 1) := by decide +kernel
end
section
theorem dX6_init_0 : decode cX6_init 0 = .ok (.aload_n 0, 1) := by decide +kernel
theorem dX6_init_1 : decode cX6_init 1 = .ok (.invokespecial 1, 3) := by decide +kernel
theorem dX6_init_4 : decode cX6_init 4 = .ok (.aload_n 0, 1) := by decide +kernel
theorem dX6_init_5 : decode cX6_init 5 = .ok (.sipush 158, 3) := by decide +kernel
theorem dX6_init_8 : decode cX6_init 8 = .ok (.newarray .int, 2) := by decide +kernel
theorem dX6_init_10 : decode cX6_init 10 = .ok (.putfield 7, 3) := by decide +kernel
theorem dX6_init_13 : decode cX6_init 13 = .ok (.aload_n 0, 1) := by decide +kernel
theorem dX6_init_14 : decode cX6_init 14 = .ok (.sipush 158, 3) := by decide +kernel
theorem dX6_init_17 : decode cX6_init 17 = .ok (.newarray .int, 2) := by decide +kernel
theorem dX6_init_19 : decode cX6_init 19 = .ok (.putfield 13, 3) := by decide +kernel
theorem dX6_init_22 : decode cX6_init 22 = .ok (.aload_n 0, 1) := by decide +kernel
theorem dX6_init_23 : decode cX6_init 23 = .ok (.sipush 632, 3) := by decide +kernel
theorem dX6_init_26 : decode cX6_init 26 = .ok (.newarray .int, 2) := by decide +kernel
theorem dX6_init_28 : decode cX6_init 28 = .ok (.putfield 16, 3) := by decide +kernel
theorem dX6_init_31 : decode cX6_init 31 = .ok (.aload_n 0, 1) := by decide +kernel
theorem dX6_init_32 : decode cX6_init 32 = .ok (.bipush 60, 2) := by decide +kernel
theorem dX6_init_34 : decode cX6_init 34 = .ok (.newarray .int, 2) := by decide +kernel
theorem dX6_init_36 : decode cX6_init 36 = .ok (.putfield 19, 3) := by decide +kernel
theorem dX6_init_39 : decode cX6_init 39 = .ok (.aload_n 0, 1) := by decide +kernel
theorem dX6_init_40 : decode cX6_init 40 = .ok (.bipush 10, 2) := by decide +kernel
theorem dX6_init_42 : decode cX6_init 42 = .ok (.newarray .int, 2) := by decide +kernel
theorem dX6_init_44 : decode cX6_init 44 = .ok (.putfield 22, 3) := by decide +kernel
theorem dX6_init_47 : decode cX6_init 47 = .ok (.aload_n 0, 1) := by decide +kernel
theorem dX6_init_48 : decode cX6_init 48 = .ok (.bipush 10, 2) := by decide +kernel
theorem dX6_init_50 : decode cX6_init 50 = .ok (.newarray .int, 2) := by decide +kernel
theorem dX6_init_52 : decode cX6_init 52 = .ok (.putfield 25, 3) := by decide +kernel
theorem dX6_init_55 : decode cX6_init 55 = .ok (.aload_n 0, 1) := by decide +kernel
theorem dX6_init_56 : decode cX6_init 56 = .ok (.bipush 10, 2) := by decide +kernel
theorem dX6_init_58 : decode cX6_init 58 = .ok (.newarray .int, 2) := by decide +kernel
theorem dX6_init_60 : decode cX6_init 60 = .ok (.putfield 28, 3) := by decide +kernel
theorem dX6_init_63 : decode cX6_init 63 = .ok (.aload_n 0, 1) := by decide +kernel
theorem dX6_init_64 : decode cX6_init 64 = .ok (.bipush 10, 2) := by decide +kernel
theorem dX6_init_66 : decode cX6_init 66 = .ok (.newarray .int, 2) := by decide +kernel
theorem dX6_init_68 : decode cX6_init 68 = .ok (.putfield 31, 3) := by decide +kernel
theorem dX6_init_71 : decode cX6_init 71 = .ok (.aload_n 0, 1) := by decide +kernel
theorem dX6_init_72 : decode cX6_init 72 = .ok (.bipush 10, 2) := by decide +kernel
theorem dX6_init_74 : decode cX6_init 74 = .ok (.newarray .int, 2) := by decide +kernel
theorem dX6_init_76 : decode cX6_init 76 = .ok (.putfield 34, 3) := by decide +kernel
theorem dX6_init_79 : decode cX6_init 79 = .ok (.aload_n 0, 1) := by decide +kernel
theorem dX6_init_80 : decode cX6_init 80 = .ok (.bipush 10, 2) := by decide +kernel
theorem dX6_init_82 : decode cX6_init 82 = .ok (.newarray .int, 2) := by decide +kernel
theorem dX6_init_84 : decode cX6_init 84 = .ok (.putfield 37, 3) := by decide +kernel
theorem dX6_init_87 : decode cX6_init 87 = .ok (.aload_n 0, 1) := by decide +kernel
theorem dX6_init_88 : decode cX6_init 88 = .ok (.bipush 10, 2) := by decide +kernel
theorem dX6_init_90 : decode cX6_init 90 = .ok (.newarray .int, 2) := by decide +kernel
theorem dX6_init_92 : decode cX6_init 92 = .ok (.putfield 40, 3) := by decide +kernel
theorem dX6_init_95 : decode cX6_init 95 = .ok (.aload_n 0, 1) := by decide +kernel
theorem dX6_init_96 : decode cX6_init 96 = .ok (.bipush 6, 2) := by decide +kernel
theorem dX6_init_98 : decode cX6_init 98 = .ok (.newarray .int, 2) := by decide +kernel
theorem dX6_init_100 : decode cX6_init 100 = .ok (.putfield 43, 3) := by decide +kernel
theorem dX6_init_103 : decode cX6_init 103 = .ok (.aload_n 0, 1) := by decide +kernel
theorem dX6_init_104 : decode cX6_init 104 = .ok (.getfield 7, 3) := by decide +kernel
theorem dX6_init_107 : decode cX6_init 107 = .ok (.iconst 5, 1) := by decide +kernel
theorem dX6_init_108 : decode cX6_init 108 = .ok (.bipush 10, 2) := by decide +kernel
theorem dX6_init_110 : decode cX6_init 110 = .ok (.iastore, 1) := by decide +kernel
theorem dX6_init_111 : decode cX6_init 111 = .ok (.return_, 1) := by decide +kernel
theorem dX6_in_0 : decode cX6_in 0 = .ok (.iload_n 0, 1) := by decide +kernel
theorem dX6_in_1 : decode cX6_in 1 = .ok (.iload_n 1, 1) := by decide +kernel
theorem dX6_in_2 : decode cX6_in 2 = .ok (.if_icmp .lt 12, 3) := by decide +kernel
theorem dX6_in_5 : decode cX6_in 5 = .ok (.iload_n 0, 1) := by decide +kernel
theorem dX6_in_6 : decode cX6_in 6 = .ok (.iload_n 2, 1) := by decide +kernel
theorem dX6_in_7 : decode cX6_in 7 = .ok (.if_icmp .gt 7, 3) := by decide +kernel
theorem dX6_in_10 : decode cX6_in 10 = .ok (.iconst 1, 1) := by decide +kernel
theorem dX6_in_11 : decode cX6_in 11 = .ok (.goto 4, 3) := by decide +kernel
theorem dX6_in_14 : decode cX6_in 14 = .ok (.iconst 0, 1) := by decide +kernel
theorem dX6_in_15 : decode cX6_in 15 = .ok (.ireturn, 1) := by decide +kernel
theorem dX6_isCell_0 : decode cX6_isCell 0 = .ok (.iload_n 0, 1) := by decide +kernel
theorem dX6_isCell_1 : decode cX6_isCell 1 = .ok (.iconst 0, 1) := by decide +kernel
theorem dX6_isCell_2 : decode cX6_isCell 2 = .ok (.bipush 9, 2) := by decide +kernel
theorem dX6_isCell_4 : decode cX6_isCell 4 = .ok (.invokestatic 46, 3) := by decide +kernel
theorem dX6_isCell_7 : decode cX6_isCell 7 = .ok (.ireturn, 1) := by decide +kernel
theorem dX6_of_0 : decode cX6_of 0 = .ok (.aload_n 0, 1) := by decide +kernel
theorem dX6_of_1 : decode cX6_of 1 = .ok (.getfield 7, 3) := by decide +kernel
theorem dX6_of_4 : decode cX6_of 4 = .ok (.bipush 8, 2) := by decide +kernel
theorem dX6_of_6 : decode cX6_of 6 = .ok (.bipush 15, 2) := by decide +kernel
theorem dX6_of_8 : decode cX6_of 8 = .ok (.iload_n 1, 1) := by decide +kernel
theorem dX6_of_9 : decode cX6_of 9 = .ok (.imul, 1) := by decide +kernel
theorem dX6_of_10 : decode cX6_of 10 = .ok (.iadd, 1) := by decide +kernel
theorem dX6_of_11 : decode cX6_of 11 = .ok (.iload_n 2, 1) := by decide +kernel
theorem dX6_of_12 : decode cX6_of 12 = .ok (.iadd, 1) := by decide +kernel
theorem dX6_of_13 : decode cX6_of 13 = .ok (.iaload, 1) := by decide +kernel
theorem dX6_of_14 : decode cX6_of 14 = .ok (.ireturn, 1) := by decide +kernel
theorem dX6_puts_0 : decode cX6_puts 0 = .ok (.aload_n 0, 1) := by decide +kernel
theorem dX6_puts_1 : decode cX6_puts 1 = .ok (.getfield 7, 3) := by decide +kernel
theorem dX6_puts_4 : decode cX6_puts 4 = .ok (.bipush 8, 2) := by decide +kernel
theorem dX6_puts_6 : decode cX6_puts 6 = .ok (.bipush 15, 2) := by decide +kernel
theorem dX6_puts_8 : decode cX6_puts 8 = .ok (.iload_n 1, 1) := by decide +kernel
theorem dX6_puts_9 : decode cX6_puts 9 = .ok (.imul, 1) := by decide +kernel
theorem dX6_puts_10 : decode cX6_puts 10 = .ok (.iadd, 1) := by decide +kernel
theorem dX6_puts_11 : decode cX6_puts 11 = .ok (.iload_n 2, 1) := by decide +kernel
theorem dX6_puts_12 : decode cX6_puts 12 = .ok (.iadd, 1) := by decide +kernel
theorem dX6_puts_13 : decode cX6_puts 13 = .ok (.iload_n 3, 1) := by decide +kernel
theorem dX6_puts_14 : decode cX6_puts 14 = .ok (.iastore, 1) := by decide +kernel
theorem dX6_puts_15 : decode cX6_puts 15 = .ok (.return_, 1) := by decide +kernel
theorem dX6_begins_0 : decode cX6_begins 0 = .ok (.iconst 0, 1) := by decide +kernel
theorem dX6_begins_1 : decode cX6_begins 1 = .ok (.istore_n 1, 1) := by decide +kernel
theorem dX6_begins_2 : decode cX6_begins 2 = .ok (.iload_n 1, 1) := by decide +kernel
theorem dX6_begins_3 : decode cX6_begins 3 = .ok (.sipush 158, 3) := by decide +kernel
theorem dX6_begins_6 : decode cX6_begins 6 = .ok (.if_icmp .ge 21, 3) := by decide +kernel
theorem dX6_begins_9 : decode cX6_begins 9 = .ok (.aload_n 0, 1) := by decide +kernel
theorem dX6_begins_10 : decode cX6_begins 10 = .ok (.getfield 13, 3) := by decide +kernel
theorem dX6_begins_13 : decode cX6_begins 13 = .ok (.iload_n 1, 1) := by decide +kernel
theorem dX6_begins_14 : decode cX6_begins 14 = .ok (.aload_n 0, 1) := by decide +kernel
theorem dX6_begins_15 : decode cX6_begins 15 = .ok (.getfield 7, 3) := by decide +kernel
theorem dX6_begins_18 : decode cX6_begins 18 = .ok (.iload_n 1, 1) := by decide +kernel
theorem dX6_begins_19 : decode cX6_begins 19 = .ok (.iaload, 1) := by decide +kernel
theorem dX6_begins_20 : decode cX6_begins 20 = .ok (.iastore, 1) := by decide +kernel
theorem dX6_begins_21 : decode cX6_begins 21 = .ok (.iinc 1 1, 3) := by decide +kernel
theorem dX6_begins_24 : decode cX6_begins 24 = .ok (.goto (-22), 3) := by decide +kernel
theorem dX6_begins_27 : decode cX6_begins 27 = .ok (.return_, 1) := by decide +kernel
theorem dX6_returns_0 : decode cX6_returns 0 = .ok (.iconst 0, 1) := by decide +kernel
theorem dX6_returns_1 : decode cX6_returns 1 = .ok (.istore_n 1, 1) := by decide +kernel
theorem dX6_returns_2 : decode cX6_returns 2 = .ok (.iload_n 1, 1) := by decide +kernel
theorem dX6_returns_3 : decode cX6_returns 3 = .ok (.sipush 158, 3) := by decide +kernel
theorem dX6_returns_6 : decode cX6_returns 6 = .ok (.if_icmp .ge 21, 3) := by decide +kernel
theorem dX6_returns_9 : decode cX6_returns 9 = .ok (.aload_n 0, 1) := by decide +kernel
theorem dX6_returns_10 : decode cX6_returns 10 = .ok (.getfield 7, 3) := by decide +kernel
theorem dX6_returns_13 : decode cX6_returns 13 = .ok (.iload_n 1, 1) := by decide +kernel
theorem dX6_returns_14 : decode cX6_returns 14 = .ok (.aload_n 0, 1) := by decide +kernel
theorem dX6_returns_15 : decode cX6_returns 15 = .ok (.getfield 13, 3) := by decide +kernel
theorem dX6_returns_18 : decode cX6_returns 18 = .ok (.iload_n 1, 1) := by decide +kernel
theorem dX6_returns_19 : decode cX6_returns 19 = .ok (.iaload, 1) := by decide +kernel
theorem dX6_returns_20 : decode cX6_returns 20 = .ok (.iastore, 1) := by decide +kernel
theorem dX6_returns_21 : decode cX6_returns 21 = .ok (.iinc 1 1, 3) := by decide +kernel
theorem dX6_returns_24 : decode cX6_returns 24 = .ok (.goto (-22), 3) := by decide +kernel
theorem dX6_returns_27 : decode cX6_returns 27 = .ok (.return_, 1) := by decide +kernel
theorem dX6_acted_0 : decode cX6_acted 0 = .ok (.iload_n 1, 1) := by decide +kernel
theorem dX6_acted_1 : decode cX6_acted 1 = .ok (.ldc 50, 2) := by decide +kernel
theorem dX6_acted_3 : decode cX6_acted 3 = .ok (.if_icmp .gt 5, 3) := by decide +kernel
theorem dX6_acted_6 : decode cX6_acted 6 = .ok (.iload_n 1, 1) := by decide +kernel
theorem dX6_acted_7 : decode cX6_acted 7 = .ok (.ireturn, 1) := by decide +kernel
theorem dX6_acted_8 : decode cX6_acted 8 = .ok (.aload_n 0, 1) := by decide +kernel
theorem dX6_acted_9 : decode cX6_acted 9 = .ok (.getfield 51, 3) := by decide +kernel
theorem dX6_acted_12 : decode cX6_acted 12 = .ok (.iconst 4, 1) := by decide +kernel
theorem dX6_acted_13 : decode cX6_acted 13 = .ok (.if_icmp .ne 44, 3) := by decide +kernel
theorem dX6_acted_16 : decode cX6_acted 16 = .ok (.iconst 0, 1) := by decide +kernel
theorem dX6_acted_17 : decode cX6_acted 17 = .ok (.istore_n 2, 1) := by decide +kernel
theorem dX6_acted_18 : decode cX6_acted 18 = .ok (.iload_n 2, 1) := by decide +kernel
theorem dX6_acted_19 : decode cX6_acted 19 = .ok (.sipush 474, 3) := by decide +kernel
theorem dX6_acted_22 : decode cX6_acted 22 = .ok (.if_icmp .ge 25, 3) := by decide +kernel
theorem dX6_acted_25 : decode cX6_acted 25 = .ok (.aload_n 0, 1) := by decide +kernel
theorem dX6_acted_26 : decode cX6_acted 26 = .ok (.getfield 16, 3) := by decide +kernel
theorem dX6_acted_29 : decode cX6_acted 29 = .ok (.iload_n 2, 1) := by decide +kernel
theorem dX6_acted_30 : decode cX6_acted 30 = .ok (.aload_n 0, 1) := by decide +kernel
theorem dX6_acted_31 : decode cX6_acted 31 = .ok (.getfield 16, 3) := by decide +kernel
theorem dX6_acted_34 : decode cX6_acted 34 = .ok (.iload_n 2, 1) := by decide +kernel
theorem dX6_acted_35 : decode cX6_acted 35 = .ok (.sipush 158, 3) := by decide +kernel
theorem dX6_acted_38 : decode cX6_acted 38 = .ok (.iadd, 1) := by decide +kernel
theorem dX6_acted_39 : decode cX6_acted 39 = .ok (.iaload, 1) := by decide +kernel
theorem dX6_acted_40 : decode cX6_acted 40 = .ok (.iastore, 1) := by decide +kernel
theorem dX6_acted_41 : decode cX6_acted 41 = .ok (.iinc 2 1, 3) := by decide +kernel
theorem dX6_acted_44 : decode cX6_acted 44 = .ok (.goto (-26), 3) := by decide +kernel
theorem dX6_acted_47 : decode cX6_acted 47 = .ok (.aload_n 0, 1) := by decide +kernel
theorem dX6_acted_48 : decode cX6_acted 48 = .ok (.dup, 1) := by decide +kernel
theorem dX6_acted_49 : decode cX6_acted 49 = .ok (.getfield 51, 3) := by decide +kernel
theorem dX6_acted_52 : decode cX6_acted 52 = .ok (.iconst 1, 1) := by decide +kernel
theorem dX6_acted_53 : decode cX6_acted 53 = .ok (.isub, 1) := by decide +kernel
theorem dX6_acted_54 : decode cX6_acted 54 = .ok (.putfield 51, 3) := by decide +kernel
theorem dX6_acted_57 : decode cX6_acted 57 = .ok (.iconst 0, 1) := by decide +kernel
theorem dX6_acted_58 : decode cX6_acted 58 = .ok (.istore_n 2, 1) := by decide +kernel
theorem dX6_acted_59 : decode cX6_acted 59 = .ok (.iload_n 2, 1) := by decide +kernel
theorem dX6_acted_60 : decode cX6_acted 60 = .ok (.sipush 158, 3) := by decide +kernel
theorem dX6_acted_63 : decode cX6_acted 63 = .ok (.if_icmp .ge 30, 3) := by decide +kernel
theorem dX6_acted_66 : decode cX6_acted 66 = .ok (.aload_n 0, 1) := by decide +kernel
theorem dX6_acted_67 : decode cX6_acted 67 = .ok (.getfield 16, 3) := by decide +kernel
theorem dX6_acted_70 : decode cX6_acted 70 = .ok (.sipush 158, 3) := by decide +kernel
theorem dX6_acted_73 : decode cX6_acted 73 = .ok (.aload_n 0, 1) := by decide +kernel
theorem dX6_acted_74 : decode cX6_acted 74 = .ok (.getfield 51, 3) := by decide +kernel
theorem dX6_acted_77 : decode cX6_acted 77 = .ok (.imul, 1) := by decide +kernel
theorem dX6_acted_78 : decode cX6_acted 78 = .ok (.iload_n 2, 1) := by decide +kernel
theorem dX6_acted_79 : decode cX6_acted 79 = .ok (.iadd, 1) := by decide +kernel
theorem dX6_acted_80 : decode cX6_acted 80 = .ok (.aload_n 0, 1) := by decide +kernel
theorem dX6_acted_81 : decode cX6_acted 81 = .ok (.getfield 13, 3) := by decide +kernel
theorem dX6_acted_84 : decode cX6_acted 84 = .ok (.iload_n 2, 1) := by decide +kernel
theorem dX6_acted_85 : decode cX6_acted 85 = .ok (.iaload, 1) := by decide +kernel
theorem dX6_acted_86 : decode cX6_acted 86 = .ok (.iastore, 1) := by decide +kernel
theorem dX6_acted_87 : decode cX6_acted 87 = .ok (.iinc 2 1, 3) := by decide +kernel
theorem dX6_acted_90 : decode cX6_acted 90 = .ok (.goto (-31), 3) := by decide +kernel
theorem dX6_acted_93 : decode cX6_acted 93 = .ok (.aload_n 0, 1) := by decide +kernel
theorem dX6_acted_94 : decode cX6_acted 94 = .ok (.dup, 1) := by decide +kernel
theorem dX6_acted_95 : decode cX6_acted 95 = .ok (.getfield 51, 3) := by decide +kernel
theorem dX6_acted_98 : decode cX6_acted 98 = .ok (.iconst 1, 1) := by decide +kernel
theorem dX6_acted_99 : decode cX6_acted 99 = .ok (.iadd, 1) := by decide +kernel
theorem dX6_acted_100 : decode cX6_acted 100 = .ok (.putfield 51, 3) := by decide +kernel
theorem dX6_acted_103 : decode cX6_acted 103 = .ok (.iload_n 1, 1) := by decide +kernel
theorem dX6_acted_104 : decode cX6_acted 104 = .ok (.ireturn, 1) := by decide +kernel
theorem dX6_isSo_0 : decode cX6_isSo 0 = .ok (.aload_n 0, 1) := by decide +kernel
theorem dX6_isSo_1 : decode cX6_isSo 1 = .ok (.iload_n 1, 1) := by decide +kernel
theorem dX6_isSo_2 : decode cX6_isSo 2 = .ok (.iconst 0, 1) := by decide +kernel
theorem dX6_isSo_3 : decode cX6_isSo 3 = .ok (.invokevirtual 55, 3) := by decide +kernel
theorem dX6_isSo_6 : decode cX6_isSo 6 = .ok (.iload_n 2, 1) := by decide +kernel
theorem dX6_isSo_7 : decode cX6_isSo 7 = .ok (.if_icmp .ne 50, 3) := by decide +kernel
theorem dX6_isSo_10 : decode cX6_isSo 10 = .ok (.aload_n 0, 1) := by decide +kernel
theorem dX6_isSo_11 : decode cX6_isSo 11 = .ok (.iload_n 1, 1) := by decide +kernel
theorem dX6_isSo_12 : decode cX6_isSo 12 = .ok (.iconst 1, 1) := by decide +kernel
theorem dX6_isSo_13 : decode cX6_isSo 13 = .ok (.invokevirtual 55, 3) := by decide +kernel
theorem dX6_isSo_16 : decode cX6_isSo 16 = .ok (.iload_n 3, 1) := by decide +kernel
theorem dX6_isSo_17 : decode cX6_isSo 17 = .ok (.if_icmp .ne 40, 3) := by decide +kernel
theorem dX6_isSo_20 : decode cX6_isSo 20 = .ok (.aload_n 0, 1) := by decide +kernel
theorem dX6_isSo_21 : decode cX6_isSo 21 = .ok (.iload_n 1, 1) := by decide +kernel
theorem dX6_isSo_22 : decode cX6_isSo 22 = .ok (.iconst 2, 1) := by decide +kernel
theorem dX6_isSo_23 : decode cX6_isSo 23 = .ok (.invokevirtual 55, 3) := by decide +kernel
theorem dX6_isSo_26 : decode cX6_isSo 26 = .ok (.iload 4, 2) := by decide +kernel
theorem dX6_isSo_28 : decode cX6_isSo 28 = .ok (.if_icmp .ne 29, 3) := by decide +kernel
theorem dX6_isSo_31 : decode cX6_isSo 31 = .ok (.aload_n 0, 1) := by decide +kernel
theorem dX6_isSo_32 : decode cX6_isSo 32 = .ok (.iload_n 1, 1) := by decide +kernel
theorem dX6_isSo_33 : decode cX6_isSo 33 = .ok (.iconst 3, 1) := by decide +kernel
theorem dX6_isSo_34 : decode cX6_isSo 34 = .ok (.invokevirtual 55, 3) := by decide +kernel
theorem dX6_isSo_37 : decode cX6_isSo 37 = .ok (.iload 5, 2) := by decide +kernel
theorem dX6_isSo_39 : decode cX6_isSo 39 = .ok (.if_icmp .ne 18, 3) := by decide +kernel
theorem dX6_isSo_42 : decode cX6_isSo 42 = .ok (.aload_n 0, 1) := by decide +kernel
theorem dX6_isSo_43 : decode cX6_isSo 43 = .ok (.iload_n 1, 1) := by decide +kernel
theorem dX6_isSo_44 : decode cX6_isSo 44 = .ok (.iconst 4, 1) := by decide +kernel
theorem dX6_isSo_45 : decode cX6_isSo 45 = .ok (.invokevirtual 55, 3) := by decide +kernel
theorem dX6_isSo_48 : decode cX6_isSo 48 = .ok (.iload 6, 2) := by decide +kernel
theorem dX6_isSo_50 : decode cX6_isSo 50 = .ok (.if_icmp .ne 7, 3) := by decide +kernel
theorem dX6_isSo_53 : decode cX6_isSo 53 = .ok (.iconst 1, 1) := by decide +kernel
theorem dX6_isSo_54 : decode cX6_isSo 54 = .ok (.goto 4, 3) := by decide +kernel
theorem dX6_isSo_57 : decode cX6_isSo 57 = .ok (.iconst 0, 1) := by decide +kernel
theorem dX6_isSo_58 : decode cX6_isSo 58 = .ok (.ireturn, 1) := by decide +kernel
theorem dX6_defines_0 : decode cX6_defines 0 = .ok (.aload_n 0, 1) := by decide +kernel
theorem dX6_defines_1 : decode cX6_defines 1 = .ok (.iload_n 1, 1) := by decide +kernel
theorem dX6_defines_2 : decode cX6_defines 2 = .ok (.iload_n 2, 1) := by decide +kernel
theorem dX6_defines_3 : decode cX6_defines 3 = .ok (.iload_n 3, 1) := by decide +kernel
theorem dX6_defines_4 : decode cX6_defines 4 = .ok (.iload 4, 2) := by decide +kernel
theorem dX6_defines_6 : decode cX6_defines 6 = .ok (.iload 5, 2) := by decide +kernel
theorem dX6_defines_8 : decode cX6_defines 8 = .ok (.iload 6, 2) := by decide +kernel
theorem dX6_defines_10 : decode cX6_defines 10 = .ok (.invokevirtual 59, 3) := by decide +kernel
theorem dX6_defines_13 : decode cX6_defines 13 = .ok (.ifCond .ne 87, 3) := by decide +kernel
theorem dX6_defines_16 : decode cX6_defines 16 = .ok (.aload_n 0, 1) := by decide +kernel
theorem dX6_defines_17 : decode cX6_defines 17 = .ok (.getfield 7, 3) := by decide +kernel
theorem dX6_defines_20 : decode cX6_defines 20 = .ok (.iconst 0, 1) := by decide +kernel
theorem dX6_defines_21 : decode cX6_defines 21 = .ok (.dup2, 1) := by decide +kernel
theorem dX6_defines_22 : decode cX6_defines 22 = .ok (.iaload, 1) := by decide +kernel
theorem dX6_defines_23 : decode cX6_defines 23 = .ok (.iconst 1, 1) := by decide +kernel
theorem dX6_defines_24 : decode cX6_defines 24 = .ok (.iadd, 1) := by decide +kernel
theorem dX6_defines_25 : decode cX6_defines 25 = .ok (.iastore, 1) := by decide +kernel
theorem dX6_defines_26 : decode cX6_defines 26 = .ok (.iconst 0, 1) := by decide +kernel
theorem dX6_defines_27 : decode cX6_defines 27 = .ok (.istore 7, 2) := by decide +kernel
theorem dX6_defines_29 : decode cX6_defines 29 = .ok (.iload 7, 2) := by decide +kernel
theorem dX6_defines_31 : decode cX6_defines 31 = .ok (.bipush 15, 2) := by decide +kernel
theorem dX6_defines_33 : decode cX6_defines 33 = .ok (.if_icmp .ge 17, 3) := by decide +kernel
theorem dX6_defines_36 : decode cX6_defines 36 = .ok (.aload_n 0, 1) := by decide +kernel
theorem dX6_defines_37 : decode cX6_defines 37 = .ok (.iload_n 1, 1) := by decide +kernel
theorem dX6_defines_38 : decode cX6_defines 38 = .ok (.iload 7, 2) := by decide +kernel
theorem dX6_defines_40 : decode cX6_defines 40 = .ok (.iconst 0, 1) := by decide +kernel
theorem dX6_defines_41 : decode cX6_defines 41 = .ok (.invokevirtual 63, 3) := by decide +kernel
theorem dX6_defines_44 : decode cX6_defines 44 = .ok (.iinc 7 1, 3) := by decide +kernel
theorem dX6_defines_47 : decode cX6_defines 47 = .ok (.goto (-18), 3) := by decide +kernel
theorem dX6_defines_50 : decode cX6_defines 50 = .ok (.aload_n 0, 1) := by decide +kernel
theorem dX6_defines_51 : decode cX6_defines 51 = .ok (.iload_n 1, 1) := by decide +kernel
theorem dX6_defines_52 : decode cX6_defines 52 = .ok (.iconst 0, 1) := by decide +kernel
theorem dX6_defines_53 : decode cX6_defines 53 = .ok (.iload_n 2, 1) := by decide +kernel
theorem dX6_defines_54 : decode cX6_defines 54 = .ok (.invokevirtual 63, 3) := by decide +kernel
theorem dX6_defines_57 : decode cX6_defines 57 = .ok (.aload_n 0, 1) := by decide +kernel
theorem dX6_defines_58 : decode cX6_defines 58 = .ok (.iload_n 1, 1) := by decide +kernel
theorem dX6_defines_59 : decode cX6_defines 59 = .ok (.iconst 1, 1) := by decide +kernel
theorem dX6_defines_60 : decode cX6_defines 60 = .ok (.iload_n 3, 1) := by decide +kernel
theorem dX6_defines_61 : decode cX6_defines 61 = .ok (.invokevirtual 63, 3) := by decide +kernel
theorem dX6_defines_64 : decode cX6_defines 64 = .ok (.aload_n 0, 1) := by decide +kernel
theorem dX6_defines_65 : decode cX6_defines 65 = .ok (.iload_n 1, 1) := by decide +kernel
theorem dX6_defines_66 : decode cX6_defines 66 = .ok (.iconst 2, 1) := by decide +kernel
theorem dX6_defines_67 : decode cX6_defines 67 = .ok (.iload 4, 2) := by decide +kernel
theorem dX6_defines_69 : decode cX6_defines 69 = .ok (.invokevirtual 63, 3) := by decide +kernel
theorem dX6_defines_72 : decode cX6_defines 72 = .ok (.aload_n 0, 1) := by decide +kernel
theorem dX6_defines_73 : decode cX6_defines 73 = .ok (.iload_n 1, 1) := by decide +kernel
theorem dX6_defines_74 : decode cX6_defines 74 = .ok (.iconst 3, 1) := by decide +kernel
theorem dX6_defines_75 : decode cX6_defines 75 = .ok (.iload 5, 2) := by decide +kernel
theorem dX6_defines_77 : decode cX6_defines 77 = .ok (.invokevirtual 63, 3) := by decide +kernel
theorem dX6_defines_80 : decode cX6_defines 80 = .ok (.aload_n 0, 1) := by decide +kernel
theorem dX6_defines_81 : decode cX6_defines 81 = .ok (.iload_n 1, 1) := by decide +kernel
theorem dX6_defines_82 : decode cX6_defines 82 = .ok (.iconst 4, 1) := by decide +kernel
theorem dX6_defines_83 : decode cX6_defines 83 = .ok (.iload 6, 2) := by decide +kernel
theorem dX6_defines_85 : decode cX6_defines 85 = .ok (.invokevirtual 63, 3) := by decide +kernel
theorem dX6_defines_88 : decode cX6_defines 88 = .ok (.aload_n 0, 1) := by decide +kernel
theorem dX6_defines_89 : decode cX6_defines 89 = .ok (.iload_n 1, 1) := by decide +kernel
theorem dX6_defines_90 : decode cX6_defines 90 = .ok (.iconst 5, 1) := by decide +kernel
theorem dX6_defines_91 : decode cX6_defines 91 = .ok (.aload_n 0, 1) := by decide +kernel
theorem dX6_defines_92 : decode cX6_defines 92 = .ok (.getfield 7, 3) := by decide +kernel
theorem dX6_defines_95 : decode cX6_defines 95 = .ok (.iconst 0, 1) := by decide +kernel
theorem dX6_defines_96 : decode cX6_defines 96 = .ok (.iaload, 1) := by decide +kernel
theorem dX6_defines_97 : decode cX6_defines 97 = .ok (.invokevirtual 63, 3) := by decide +kernel
theorem dX6_defines_100 : decode cX6_defines 100 = .ok (.aload_n 0, 1) := by decide +kernel
theorem dX6_defines_101 : decode cX6_defines 101 = .ok (.getfield 7, 3) := by decide +kernel
theorem dX6_defines_104 : decode cX6_defines 104 = .ok (.iconst 0, 1) := by decide +kernel
theorem dX6_defines_105 : decode cX6_defines 105 = .ok (.iaload, 1) := by decide +kernel
theorem dX6_defines_106 : decode cX6_defines 106 = .ok (.ireturn, 1) := by decide +kernel
theorem dX6_isValue_0 : decode cX6_isValue 0 = .ok (.iload_n 0, 1) := by decide +kernel
theorem dX6_isValue_1 : decode cX6_isValue 1 = .ok (.ldc 67, 2) := by decide +kernel
theorem dX6_isValue_3 : decode cX6_isValue 3 = .ok (.ldc 68, 2) := by decide +kernel
theorem dX6_isValue_5 : decode cX6_isValue 5 = .ok (.invokestatic 46, 3) := by decide +kernel
theorem dX6_isValue_8 : decode cX6_isValue 8 = .ok (.ireturn, 1) := by decide +kernel
theorem dX6_define_0 : decode cX6_define 0 = .ok (.iload_n 1, 1) := by decide +kernel
theorem dX6_define_1 : decode cX6_define 1 = .ok (.invokestatic 69, 3) := by decide +kernel
theorem dX6_define_4 : decode cX6_define 4 = .ok (.ifCond .eq 10, 3) := by decide +kernel
theorem dX6_define_7 : decode cX6_define 7 = .ok (.iload_n 2, 1) := by decide +kernel
theorem dX6_define_8 : decode cX6_define 8 = .ok (.invokestatic 73, 3) := by decide +kernel
theorem dX6_define_11 : decode cX6_define 11 = .ok (.ifCond .ne 6, 3) := by decide +kernel
theorem dX6_define_14 : decode cX6_define 14 = .ok (.ldc 50, 2) := by decide +kernel
theorem dX6_define_16 : decode cX6_define 16 = .ok (.ireturn, 1) := by decide +kernel
theorem dX6_define_17 : decode cX6_define 17 = .ok (.aload_n 0, 1) := by decide +kernel
theorem dX6_define_18 : decode cX6_define 18 = .ok (.invokevirtual 76, 3) := by decide +kernel
theorem dX6_define_21 : decode cX6_define 21 = .ok (.aload_n 0, 1) := by decide +kernel
theorem dX6_define_22 : decode cX6_define 22 = .ok (.aload_n 0, 1) := by decide +kernel
theorem dX6_define_23 : decode cX6_define 23 = .ok (.iload_n 1, 1) := by decide +kernel
theorem dX6_define_24 : decode cX6_define 24 = .ok (.iconst 0, 1) := by decide +kernel
theorem dX6_define_25 : decode cX6_define 25 = .ok (.iload_n 2, 1) := by decide +kernel
theorem dX6_define_26 : decode cX6_define 26 = .ok (.iconst 0, 1) := by decide +kernel
theorem dX6_define_27 : decode cX6_define 27 = .ok (.iconst 0, 1) := by decide +kernel
theorem dX6_define_28 : decode cX6_define 28 = .ok (.iconst 0, 1) := by decide +kernel
theorem dX6_define_29 : decode cX6_define 29 = .ok (.invokevirtual 79, 3) := by decide +kernel
theorem dX6_define_32 : decode cX6_define 32 = .ok (.invokevirtual 83, 3) := by decide +kernel
theorem dX6_define_35 : decode cX6_define 35 = .ok (.ireturn, 1) := by decide +kernel
theorem dX6_formula_0 : decode cX6_formula 0 = .ok (.iload_n 1, 1) := by decide +kernel
theorem dX6_formula_1 : decode cX6_formula 1 = .ok (.invokestatic 69, 3) := by decide +kernel
theorem dX6_formula_4 : decode cX6_formula 4 = .ok (.ifCond .eq 47, 3) := by decide +kernel
theorem dX6_formula_7 : decode cX6_formula 7 = .ok (.iload_n 2, 1) := by decide +kernel
theorem dX6_formula_8 : decode cX6_formula 8 = .ok (.iconst 0, 1) := by decide +kernel
theorem dX6_formula_9 : decode cX6_formula 9 = .ok (.iconst 4, 1) := by decide +kernel
theorem dX6_formula_10 : decode cX6_formula 10 = .ok (.invokestatic 46, 3) := by decide +kernel
theorem dX6_formula_13 : decode cX6_formula 13 = .ok (.ifCond .eq 38, 3) := by decide +kernel
theorem dX6_formula_16 : decode cX6_formula 16 = .ok (.iload_n 3, 1) := by decide +kernel
theorem dX6_formula_17 : decode cX6_formula 17 = .ok (.invokestatic 69, 3) := by decide +kernel
theorem dX6_formula_20 : decode cX6_formula 20 = .ok (.ifCond .eq 31, 3) := by decide +kernel
theorem dX6_formula_23 : decode cX6_formula 23 = .ok (.iload 4, 2) := by decide +kernel
theorem dX6_formula_25 : decode cX6_formula 25 = .ok (.invokestatic 69, 3) := by decide +kernel
theorem dX6_formula_28 : decode cX6_formula 28 = .ok (.ifCond .eq 23, 3) := by decide +kernel
theorem dX6_formula_31 : decode cX6_formula 31 = .ok (.iload 5, 2) := by decide +kernel
theorem dX6_formula_33 : decode cX6_formula 33 = .ok (.iconst 0, 1) := by decide +kernel
theorem dX6_formula_34 : decode cX6_formula 34 = .ok (.iload_n 2, 1) := by decide +kernel
theorem dX6_formula_35 : decode cX6_formula 35 = .ok (.iconst 4, 1) := by decide +kernel
theorem dX6_formula_36 : decode cX6_formula 36 = .ok (.if_icmp .ne 8, 3) := by decide +kernel
theorem dX6_formula_39 : decode cX6_formula 39 = .ok (.bipush 9, 2) := by decide +kernel
theorem dX6_formula_41 : decode cX6_formula 41 = .ok (.goto 4, 3) := by decide +kernel
theorem dX6_formula_44 : decode cX6_formula 44 = .ok (.iconst 0, 1) := by decide +kernel
theorem dX6_formula_45 : decode cX6_formula 45 = .ok (.invokestatic 46, 3) := by decide +kernel
theorem dX6_formula_48 : decode cX6_formula 48 = .ok (.ifCond .ne 6, 3) := by decide +kernel
theorem dX6_formula_51 : decode cX6_formula 51 = .ok (.ldc 50, 2) := by decide +kernel
theorem dX6_formula_53 : decode cX6_formula 53 = .ok (.ireturn, 1) := by decide +kernel
theorem dX6_formula_54 : decode cX6_formula 54 = .ok (.aload_n 0, 1) := by decide +kernel
theorem dX6_formula_55 : decode cX6_formula 55 = .ok (.invokevirtual 76, 3) := by decide +kernel
theorem dX6_formula_58 : decode cX6_formula 58 = .ok (.aload_n 0, 1) := by decide +kernel
theorem dX6_formula_59 : decode cX6_formula 59 = .ok (.aload_n 0, 1) := by decide +kernel
theorem dX6_formula_60 : decode cX6_formula 60 = .ok (.iload_n 1, 1) := by decide +kernel
theorem dX6_formula_61 : decode cX6_formula 61 = .ok (.iload_n 2, 1) := by decide +kernel
theorem dX6_formula_62 : decode cX6_formula 62 = .ok (.iconst 1, 1) := by decide +kernel
theorem dX6_formula_63 : decode cX6_formula 63 = .ok (.iadd, 1) := by decide +kernel
theorem dX6_formula_64 : decode cX6_formula 64 = .ok (.iconst 0, 1) := by decide +kernel
theorem dX6_formula_65 : decode cX6_formula 65 = .ok (.iload_n 3, 1) := by decide +kernel
theorem dX6_formula_66 : decode cX6_formula 66 = .ok (.iload 4, 2) := by decide +kernel
theorem dX6_formula_68 : decode cX6_formula 68 = .ok (.iload 5, 2) := by decide +kernel
theorem dX6_formula_70 : decode cX6_formula 70 = .ok (.invokevirtual 79, 3) := by decide +kernel
theorem dX6_formula_73 : decode cX6_formula 73 = .ok (.invokevirtual 83, 3) := by decide +kernel
theorem dX6_formula_76 : decode cX6_formula 76 = .ok (.ireturn, 1) := by decide +kernel
theorem dX6_cellOf_0 : decode cX6_cellOf 0 = .ok (.iload_n 1, 1) := by decide +kernel
theorem dX6_cellOf_1 : decode cX6_cellOf 1 = .ok (.invokestatic 69, 3) := by decide +kernel
theorem dX6_cellOf_4 : decode cX6_cellOf 4 = .ok (.ifCond .eq 12, 3) := by decide +kernel
theorem dX6_cellOf_7 : decode cX6_cellOf 7 = .ok (.iload_n 2, 1) := by decide +kernel
theorem dX6_cellOf_8 : decode cX6_cellOf 8 = .ok (.iconst 0, 1) := by decide +kernel
theorem dX6_cellOf_9 : decode cX6_cellOf 9 = .ok (.iconst 4, 1) := by decide +kernel
theorem dX6_cellOf_10 : decode cX6_cellOf 10 = .ok (.invokestatic 46, 3) := by decide +kernel
theorem dX6_cellOf_13 : decode cX6_cellOf 13 = .ok (.ifCond .ne 6, 3) := by decide +kernel
theorem dX6_cellOf_16 : decode cX6_cellOf 16 = .ok (.ldc 50, 2) := by decide +kernel
theorem dX6_cellOf_18 : decode cX6_cellOf 18 = .ok (.ireturn, 1) := by decide +kernel
theorem dX6_cellOf_19 : decode cX6_cellOf 19 = .ok (.iload_n 2, 1) := by decide +kernel
theorem dX6_cellOf_20 : decode cX6_cellOf 20 = .ok (.ifCond .eq 45, 3) := by decide +kernel
theorem dX6_cellOf_23 : decode cX6_cellOf 23 = .ok (.iload_n 2, 1) := by decide +kernel
theorem dX6_cellOf_24 : decode cX6_cellOf 24 = .ok (.iconst 1, 1) := by decide +kernel
theorem dX6_cellOf_25 : decode cX6_cellOf 25 = .ok (.if_icmp .ne 7, 3) := by decide +kernel
theorem dX6_cellOf_28 : decode cX6_cellOf 28 = .ok (.iconst 1, 1) := by decide +kernel
theorem dX6_cellOf_29 : decode cX6_cellOf 29 = .ok (.goto 4, 3) := by decide +kernel
theorem dX6_cellOf_32 : decode cX6_cellOf 32 = .ok (.iconst 0, 1) := by decide +kernel
theorem dX6_cellOf_33 : decode cX6_cellOf 33 = .ok (.aload_n 0, 1) := by decide +kernel
theorem dX6_cellOf_34 : decode cX6_cellOf 34 = .ok (.iload_n 1, 1) := by decide +kernel
theorem dX6_cellOf_35 : decode cX6_cellOf 35 = .ok (.iconst 0, 1) := by decide +kernel
theorem dX6_cellOf_36 : decode cX6_cellOf 36 = .ok (.invokevirtual 55, 3) := by decide +kernel
theorem dX6_cellOf_39 : decode cX6_cellOf 39 = .ok (.ifCond .ne 7, 3) := by decide +kernel
theorem dX6_cellOf_42 : decode cX6_cellOf 42 = .ok (.iconst 1, 1) := by decide +kernel
theorem dX6_cellOf_43 : decode cX6_cellOf 43 = .ok (.goto 4, 3) := by decide +kernel
theorem dX6_cellOf_46 : decode cX6_cellOf 46 = .ok (.iconst 0, 1) := by decide +kernel
theorem dX6_cellOf_47 : decode cX6_cellOf 47 = .ok (.if_icmp .ne 22, 3) := by decide +kernel
theorem dX6_cellOf_50 : decode cX6_cellOf 50 = .ok (.iload_n 2, 1) := by decide +kernel
theorem dX6_cellOf_51 : decode cX6_cellOf 51 = .ok (.iconst 4, 1) := by decide +kernel
theorem dX6_cellOf_52 : decode cX6_cellOf 52 = .ok (.if_icmp .lt 13, 3) := by decide +kernel
theorem dX6_cellOf_55 : decode cX6_cellOf 55 = .ok (.aload_n 0, 1) := by decide +kernel
theorem dX6_cellOf_56 : decode cX6_cellOf 56 = .ok (.iload_n 1, 1) := by decide +kernel
theorem dX6_cellOf_57 : decode cX6_cellOf 57 = .ok (.iconst 0, 1) := by decide +kernel
theorem dX6_cellOf_58 : decode cX6_cellOf 58 = .ok (.invokevirtual 55, 3) := by decide +kernel
theorem dX6_cellOf_61 : decode cX6_cellOf 61 = .ok (.iconst 5, 1) := by decide +kernel
theorem dX6_cellOf_62 : decode cX6_cellOf 62 = .ok (.if_icmp .ne 7, 3) := by decide +kernel
theorem dX6_cellOf_65 : decode cX6_cellOf 65 = .ok (.iconst 1, 1) := by decide +kernel
theorem dX6_cellOf_66 : decode cX6_cellOf 66 = .ok (.goto 4, 3) := by decide +kernel
theorem dX6_cellOf_69 : decode cX6_cellOf 69 = .ok (.iconst 0, 1) := by decide +kernel
theorem dX6_cellOf_70 : decode cX6_cellOf 70 = .ok (.istore_n 3, 1) := by decide +kernel
theorem dX6_cellOf_71 : decode cX6_cellOf 71 = .ok (.iload_n 3, 1) := by decide +kernel
theorem dX6_cellOf_72 : decode cX6_cellOf 72 = .ok (.ifCond .eq 12, 3) := by decide +kernel
theorem dX6_cellOf_75 : decode cX6_cellOf 75 = .ok (.aload_n 0, 1) := by decide +kernel
theorem dX6_cellOf_76 : decode cX6_cellOf 76 = .ok (.iload_n 1, 1) := by decide +kernel
theorem dX6_cellOf_77 : decode cX6_cellOf 77 = .ok (.iload_n 2, 1) := by decide +kernel
theorem dX6_cellOf_78 : decode cX6_cellOf 78 = .ok (.invokevirtual 55, 3) := by decide +kernel
theorem dX6_cellOf_81 : decode cX6_cellOf 81 = .ok (.goto 5, 3) := by decide +kernel
theorem dX6_cellOf_84 : decode cX6_cellOf 84 = .ok (.ldc 87, 2) := by decide +kernel
theorem dX6_cellOf_86 : decode cX6_cellOf 86 = .ok (.ireturn, 1) := by decide +kernel
theorem dX6_uses_0 : decode cX6_uses 0 = .ok (.aload_n 0, 1) := by decide +kernel
theorem dX6_uses_1 : decode cX6_uses 1 = .ok (.getfield 7, 3) := by decide +kernel
theorem dX6_uses_4 : decode cX6_uses 4 = .ok (.bipush 7, 2) := by decide +kernel
theorem dX6_uses_6 : decode cX6_uses 6 = .ok (.dup2, 1) := by decide +kernel
theorem dX6_uses_7 : decode cX6_uses 7 = .ok (.iaload, 1) := by decide +kernel
theorem dX6_uses_8 : decode cX6_uses 8 = .ok (.iconst 1, 1) := by decide +kernel
theorem dX6_uses_9 : decode cX6_uses 9 = .ok (.iadd, 1) := by decide +kernel
theorem dX6_uses_10 : decode cX6_uses 10 = .ok (.iastore, 1) := by decide +kernel
theorem dX6_uses_11 : decode cX6_uses 11 = .ok (.aload_n 0, 1) := by decide +kernel
theorem dX6_uses_12 : decode cX6_uses 12 = .ok (.iload_n 1, 1) := by decide +kernel
theorem dX6_uses_13 : decode cX6_uses 13 = .ok (.bipush 13, 2) := by decide +kernel
theorem dX6_uses_15 : decode cX6_uses 15 = .ok (.aload_n 0, 1) := by decide +kernel
theorem dX6_uses_16 : decode cX6_uses 16 = .ok (.getfield 7, 3) := by decide +kernel
theorem dX6_uses_19 : decode cX6_uses 19 = .ok (.bipush 7, 2) := by decide +kernel
theorem dX6_uses_21 : decode cX6_uses 21 = .ok (.iaload, 1) := by decide +kernel
theorem dX6_uses_22 : decode cX6_uses 22 = .ok (.invokevirtual 63, 3) := by decide +kernel
theorem dX6_uses_25 : decode cX6_uses 25 = .ok (.return_, 1) := by decide +kernel
theorem dX6_isOpen_0 : decode cX6_isOpen 0 = .ok (.iconst 0, 1) := by decide +kernel
theorem dX6_isOpen_1 : decode cX6_isOpen 1 = .ok (.istore_n 2, 1) := by decide +kernel
theorem dX6_isOpen_2 : decode cX6_isOpen 2 = .ok (.iconst 0, 1) := by decide +kernel
theorem dX6_isOpen_3 : decode cX6_isOpen 3 = .ok (.istore_n 3, 1) := by decide +kernel
theorem dX6_isOpen_4 : decode cX6_isOpen 4 = .ok (.iload_n 3, 1) := by decide +kernel
theorem dX6_isOpen_5 : decode cX6_isOpen 5 = .ok (.aload_n 0, 1) := by decide +kernel
theorem dX6_isOpen_6 : decode cX6_isOpen 6 = .ok (.getfield 88, 3) := by decide +kernel
theorem dX6_isOpen_9 : decode cX6_isOpen 9 = .ok (.if_icmp .ge 29, 3) := by decide +kernel
theorem dX6_isOpen_12 : decode cX6_isOpen 12 = .ok (.iload_n 2, 1) := by decide +kernel
theorem dX6_isOpen_13 : decode cX6_isOpen 13 = .ok (.ifCond .ne 13, 3) := by decide +kernel
theorem dX6_isOpen_16 : decode cX6_isOpen 16 = .ok (.aload_n 0, 1) := by decide +kernel
theorem dX6_isOpen_17 : decode cX6_isOpen 17 = .ok (.getfield 22, 3) := by decide +kernel
theorem dX6_isOpen_20 : decode cX6_isOpen 20 = .ok (.iload_n 3, 1) := by decide +kernel
theorem dX6_isOpen_21 : decode cX6_isOpen 21 = .ok (.iaload, 1) := by decide +kernel
theorem dX6_isOpen_22 : decode cX6_isOpen 22 = .ok (.iload_n 1, 1) := by decide +kernel
theorem dX6_isOpen_23 : decode cX6_isOpen 23 = .ok (.if_icmp .ne 7, 3) := by decide +kernel
theorem dX6_isOpen_26 : decode cX6_isOpen 26 = .ok (.iconst 1, 1) := by decide +kernel
theorem dX6_isOpen_27 : decode cX6_isOpen 27 = .ok (.goto 4, 3) := by decide +kernel
theorem dX6_isOpen_30 : decode cX6_isOpen 30 = .ok (.iconst 0, 1) := by decide +kernel
theorem dX6_isOpen_31 : decode cX6_isOpen 31 = .ok (.istore_n 2, 1) := by decide +kernel
theorem dX6_isOpen_32 : decode cX6_isOpen 32 = .ok (.iinc 3 1, 3) := by decide +kernel
theorem dX6_isOpen_35 : decode cX6_isOpen 35 = .ok (.goto (-31), 3) := by decide +kernel
theorem dX6_isOpen_38 : decode cX6_isOpen 38 = .ok (.iload_n 2, 1) := by decide +kernel
theorem dX6_isOpen_39 : decode cX6_isOpen 39 = .ok (.ireturn, 1) := by decide +kernel
theorem dX6_enters_0 : decode cX6_enters 0 = .ok (.aload_n 0, 1) := by decide +kernel
theorem dX6_enters_1 : decode cX6_enters 1 = .ok (.iload_n 1, 1) := by decide +kernel
theorem dX6_enters_2 : decode cX6_enters 2 = .ok (.iconst 0, 1) := by decide +kernel
theorem dX6_enters_3 : decode cX6_enters 3 = .ok (.invokevirtual 55, 3) := by decide +kernel
theorem dX6_enters_6 : decode cX6_enters 6 = .ok (.ifCond .ne 4, 3) := by decide +kernel
theorem dX6_enters_9 : decode cX6_enters 9 = .ok (.return_, 1) := by decide +kernel
theorem dX6_enters_10 : decode cX6_enters 10 = .ok (.aload_n 0, 1) := by decide +kernel
theorem dX6_enters_11 : decode cX6_enters 11 = .ok (.iload_n 1, 1) := by decide +kernel
theorem dX6_enters_12 : decode cX6_enters 12 = .ok (.bipush 6, 2) := by decide +kernel
theorem dX6_enters_14 : decode cX6_enters 14 = .ok (.invokevirtual 55, 3) := by decide +kernel
theorem dX6_enters_17 : decode cX6_enters 17 = .ok (.iconst 1, 1) := by decide +kernel
theorem dX6_enters_18 : decode cX6_enters 18 = .ok (.if_icmp .ne 35, 3) := by decide +kernel
theorem dX6_enters_21 : decode cX6_enters 21 = .ok (.aload_n 0, 1) := by decide +kernel
theorem dX6_enters_22 : decode cX6_enters 22 = .ok (.iload_n 1, 1) := by decide +kernel
theorem dX6_enters_23 : decode cX6_enters 23 = .ok (.bipush 9, 2) := by decide +kernel
theorem dX6_enters_25 : decode cX6_enters 25 = .ok (.invokevirtual 55, 3) := by decide +kernel
theorem dX6_enters_28 : decode cX6_enters 28 = .ok (.aload_n 0, 1) := by decide +kernel
theorem dX6_enters_29 : decode cX6_enters 29 = .ok (.getfield 7, 3) := by decide +kernel
theorem dX6_enters_32 : decode cX6_enters 32 = .ok (.iconst 0, 1) := by decide +kernel
theorem dX6_enters_33 : decode cX6_enters 33 = .ok (.iaload, 1) := by decide +kernel
theorem dX6_enters_34 : decode cX6_enters 34 = .ok (.if_icmp .ne 19, 3) := by decide +kernel
theorem dX6_enters_37 : decode cX6_enters 37 = .ok (.aload_n 0, 1) := by decide +kernel
theorem dX6_enters_38 : decode cX6_enters 38 = .ok (.getfield 7, 3) := by decide +kernel
theorem dX6_enters_41 : decode cX6_enters 41 = .ok (.iconst 3, 1) := by decide +kernel
theorem dX6_enters_42 : decode cX6_enters 42 = .ok (.dup2, 1) := by decide +kernel
theorem dX6_enters_43 : decode cX6_enters 43 = .ok (.iaload, 1) := by decide +kernel
theorem dX6_enters_44 : decode cX6_enters 44 = .ok (.iconst 1, 1) := by decide +kernel
theorem dX6_enters_45 : decode cX6_enters 45 = .ok (.iadd, 1) := by decide +kernel
theorem dX6_enters_46 : decode cX6_enters 46 = .ok (.iastore, 1) := by decide +kernel
theorem dX6_enters_47 : decode cX6_enters 47 = .ok (.aload_n 0, 1) := by decide +kernel
theorem dX6_enters_48 : decode cX6_enters 48 = .ok (.iload_n 1, 1) := by decide +kernel
theorem dX6_enters_49 : decode cX6_enters 49 = .ok (.invokevirtual 91, 3) := by decide +kernel
theorem dX6_enters_52 : decode cX6_enters 52 = .ok (.return_, 1) := by decide +kernel
theorem dX6_enters_53 : decode cX6_enters 53 = .ok (.aload_n 0, 1) := by decide +kernel
theorem dX6_enters_54 : decode cX6_enters 54 = .ok (.iload_n 1, 1) := by decide +kernel
theorem dX6_enters_55 : decode cX6_enters 55 = .ok (.invokevirtual 95, 3) := by decide +kernel
theorem dX6_enters_58 : decode cX6_enters 58 = .ok (.ifCond .eq 9, 3) := by decide +kernel
theorem dX6_enters_61 : decode cX6_enters 61 = .ok (.aload_n 0, 1) := by decide +kernel
theorem dX6_enters_62 : decode cX6_enters 62 = .ok (.iconst 1, 1) := by decide +kernel
theorem dX6_enters_63 : decode cX6_enters 63 = .ok (.putfield 98, 3) := by decide +kernel
theorem dX6_enters_66 : decode cX6_enters 66 = .ok (.return_, 1) := by decide +kernel
theorem dX6_enters_67 : decode cX6_enters 67 = .ok (.aload_n 0, 1) := by decide +kernel
theorem dX6_enters_68 : decode cX6_enters 68 = .ok (.getfield 22, 3) := by decide +kernel
theorem dX6_enters_71 : decode cX6_enters 71 = .ok (.aload_n 0, 1) := by decide +kernel
theorem dX6_enters_72 : decode cX6_enters 72 = .ok (.getfield 88, 3) := by decide +kernel
theorem dX6_enters_75 : decode cX6_enters 75 = .ok (.iload_n 1, 1) := by decide +kernel
theorem dX6_enters_76 : decode cX6_enters 76 = .ok (.iastore, 1) := by decide +kernel
theorem dX6_enters_77 : decode cX6_enters 77 = .ok (.aload_n 0, 1) := by decide +kernel
theorem dX6_enters_78 : decode cX6_enters 78 = .ok (.getfield 25, 3) := by decide +kernel
theorem dX6_enters_81 : decode cX6_enters 81 = .ok (.aload_n 0, 1) := by decide +kernel
theorem dX6_enters_82 : decode cX6_enters 82 = .ok (.getfield 88, 3) := by decide +kernel
theorem dX6_enters_85 : decode cX6_enters 85 = .ok (.aload_n 0, 1) := by decide +kernel
theorem dX6_enters_86 : decode cX6_enters 86 = .ok (.iload_n 1, 1) := by decide +kernel
theorem dX6_enters_87 : decode cX6_enters 87 = .ok (.bipush 6, 2) := by decide +kernel
theorem dX6_enters_89 : decode cX6_enters 89 = .ok (.invokevirtual 55, 3) := by decide +kernel
theorem dX6_enters_92 : decode cX6_enters 92 = .ok (.iconst 1, 1) := by decide +kernel
theorem dX6_enters_93 : decode cX6_enters 93 = .ok (.if_icmp .ne 7, 3) := by decide +kernel
theorem dX6_enters_96 : decode cX6_enters 96 = .ok (.iconst 0, 1) := by decide +kernel
theorem dX6_enters_97 : decode cX6_enters 97 = .ok (.goto 4, 3) := by decide +kernel
theorem dX6_enters_100 : decode cX6_enters 100 = .ok (.iconst 1, 1) := by decide +kernel
theorem dX6_enters_101 : decode cX6_enters 101 = .ok (.iastore, 1) := by decide +kernel
theorem dX6_enters_102 : decode cX6_enters 102 = .ok (.aload_n 0, 1) := by decide +kernel
theorem dX6_enters_103 : decode cX6_enters 103 = .ok (.getfield 28, 3) := by decide +kernel
theorem dX6_enters_106 : decode cX6_enters 106 = .ok (.aload_n 0, 1) := by decide +kernel
theorem dX6_enters_107 : decode cX6_enters 107 = .ok (.getfield 88, 3) := by decide +kernel
theorem dX6_enters_110 : decode cX6_enters 110 = .ok (.iconst 0, 1) := by decide +kernel
theorem dX6_enters_111 : decode cX6_enters 111 = .ok (.iastore, 1) := by decide +kernel
theorem dX6_enters_112 : decode cX6_enters 112 = .ok (.aload_n 0, 1) := by decide +kernel
theorem dX6_enters_113 : decode cX6_enters 113 = .ok (.dup, 1) := by decide +kernel
theorem dX6_enters_114 : decode cX6_enters 114 = .ok (.getfield 88, 3) := by decide +kernel
theorem dX6_enters_117 : decode cX6_enters 117 = .ok (.iconst 1, 1) := by decide +kernel
theorem dX6_enters_118 : decode cX6_enters 118 = .ok (.iadd, 1) := by decide +kernel
theorem dX6_enters_119 : decode cX6_enters 119 = .ok (.putfield 88, 3) := by decide +kernel
theorem dX6_enters_122 : decode cX6_enters 122 = .ok (.return_, 1) := by decide +kernel
theorem dX6_changedAt_0 : decode cX6_changedAt 0 = .ok (.aload_n 0, 1) := by decide +kernel
theorem dX6_changedAt_1 : decode cX6_changedAt 1 = .ok (.iload_n 1, 1) := by decide +kernel
theorem dX6_changedAt_2 : decode cX6_changedAt 2 = .ok (.iconst 0, 1) := by decide +kernel
theorem dX6_changedAt_3 : decode cX6_changedAt 3 = .ok (.invokevirtual 55, 3) := by decide +kernel
theorem dX6_changedAt_6 : decode cX6_changedAt 6 = .ok (.ifCond .ne 12, 3) := by decide +kernel
theorem dX6_changedAt_9 : decode cX6_changedAt 9 = .ok (.aload_n 0, 1) := by decide +kernel
theorem dX6_changedAt_10 : decode cX6_changedAt 10 = .ok (.iload_n 1, 1) := by decide +kernel
theorem dX6_changedAt_11 : decode cX6_changedAt 11 = .ok (.iconst 5, 1) := by decide +kernel
theorem dX6_changedAt_12 : decode cX6_changedAt 12 = .ok (.invokevirtual 55, 3) := by decide +kernel
theorem dX6_changedAt_15 : decode cX6_changedAt 15 = .ok (.goto 10, 3) := by decide +kernel
theorem dX6_changedAt_18 : decode cX6_changedAt 18 = .ok (.aload_n 0, 1) := by decide +kernel
theorem dX6_changedAt_19 : decode cX6_changedAt 19 = .ok (.iload_n 1, 1) := by decide +kernel
theorem dX6_changedAt_20 : decode cX6_changedAt 20 = .ok (.bipush 8, 2) := by decide +kernel
theorem dX6_changedAt_22 : decode cX6_changedAt 22 = .ok (.invokevirtual 55, 3) := by decide +kernel
theorem dX6_changedAt_25 : decode cX6_changedAt 25 = .ok (.ireturn, 1) := by decide +kernel
theorem dX6_answerOf_0 : decode cX6_answerOf 0 = .ok (.aload_n 0, 1) := by decide +kernel
theorem dX6_answerOf_1 : decode cX6_answerOf 1 = .ok (.iload_n 1, 1) := by decide +kernel
theorem dX6_answerOf_2 : decode cX6_answerOf 2 = .ok (.iconst 0, 1) := by decide +kernel
theorem dX6_answerOf_3 : decode cX6_answerOf 3 = .ok (.invokevirtual 55, 3) := by decide +kernel
theorem dX6_answerOf_6 : decode cX6_answerOf 6 = .ok (.ifCond .ne 12, 3) := by decide +kernel
theorem dX6_answerOf_9 : decode cX6_answerOf 9 = .ok (.aload_n 0, 1) := by decide +kernel
theorem dX6_answerOf_10 : decode cX6_answerOf 10 = .ok (.iload_n 1, 1) := by decide +kernel
theorem dX6_answerOf_11 : decode cX6_answerOf 11 = .ok (.iconst 1, 1) := by decide +kernel
theorem dX6_answerOf_12 : decode cX6_answerOf 12 = .ok (.invokevirtual 55, 3) := by decide +kernel
theorem dX6_answerOf_15 : decode cX6_answerOf 15 = .ok (.goto 10, 3) := by decide +kernel
theorem dX6_answerOf_18 : decode cX6_answerOf 18 = .ok (.aload_n 0, 1) := by decide +kernel
theorem dX6_answerOf_19 : decode cX6_answerOf 19 = .ok (.iload_n 1, 1) := by decide +kernel
theorem dX6_answerOf_20 : decode cX6_answerOf 20 = .ok (.bipush 7, 2) := by decide +kernel
theorem dX6_answerOf_22 : decode cX6_answerOf 22 = .ok (.invokevirtual 55, 3) := by decide +kernel
theorem dX6_answerOf_25 : decode cX6_answerOf 25 = .ok (.ireturn, 1) := by decide +kernel
theorem dX6_bounded_0 : decode cX6_bounded 0 = .ok (.lload_n 0, 1) := by decide +kernel
theorem dX6_bounded_1 : decode cX6_bounded 1 = .ok (.ldc2_w 102, 3) := by decide +kernel
theorem dX6_bounded_4 : decode cX6_bounded 4 = .ok (.lcmp, 1) := by decide +kernel
theorem dX6_bounded_5 : decode cX6_bounded 5 = .ok (.ifCond .lt 11, 3) := by decide +kernel
theorem dX6_bounded_8 : decode cX6_bounded 8 = .ok (.lload_n 0, 1) := by decide +kernel
theorem dX6_bounded_9 : decode cX6_bounded 9 = .ok (.ldc2_w 104, 3) := by decide +kernel
theorem dX6_bounded_12 : decode cX6_bounded 12 = .ok (.lcmp, 1) := by decide +kernel
theorem dX6_bounded_13 : decode cX6_bounded 13 = .ok (.ifCond .le 8, 3) := by decide +kernel
theorem dX6_bounded_16 : decode cX6_bounded 16 = .ok (.ldc 106, 2) := by decide +kernel
theorem dX6_bounded_18 : decode cX6_bounded 18 = .ok (.goto 5, 3) := by decide +kernel
theorem dX6_bounded_21 : decode cX6_bounded 21 = .ok (.lload_n 0, 1) := by decide +kernel
theorem dX6_bounded_22 : decode cX6_bounded 22 = .ok (.l2i, 1) := by decide +kernel
theorem dX6_bounded_23 : decode cX6_bounded 23 = .ok (.ireturn, 1) := by decide +kernel
theorem dX6_made_0 : decode cX6_made 0 = .ok (.iload_n 1, 1) := by decide +kernel
theorem dX6_made_1 : decode cX6_made 1 = .ok (.ldc 106, 2) := by decide +kernel
theorem dX6_made_3 : decode cX6_made 3 = .ok (.if_icmp .eq 9, 3) := by decide +kernel
theorem dX6_made_6 : decode cX6_made 6 = .ok (.iload_n 2, 1) := by decide +kernel
theorem dX6_made_7 : decode cX6_made 7 = .ok (.ldc 106, 2) := by decide +kernel
theorem dX6_made_9 : decode cX6_made 9 = .ok (.if_icmp .ne 6, 3) := by decide +kernel
theorem dX6_made_12 : decode cX6_made 12 = .ok (.ldc 106, 2) := by decide +kernel
theorem dX6_made_14 : decode cX6_made 14 = .ok (.ireturn, 1) := by decide +kernel
theorem dX6_made_15 : decode cX6_made 15 = .ok (.iload_n 0, 1) := by decide +kernel
theorem dX6_made_16 : decode cX6_made 16 = .ok (.tableswitch 70 1 4 #[32, 41, 50, 59], 32) := by decide +kernel
theorem dX6_made_48 : decode cX6_made 48 = .ok (.iload_n 1, 1) := by decide +kernel
theorem dX6_made_49 : decode cX6_made 49 = .ok (.i2l, 1) := by decide +kernel
theorem dX6_made_50 : decode cX6_made 50 = .ok (.iload_n 2, 1) := by decide +kernel
theorem dX6_made_51 : decode cX6_made 51 = .ok (.i2l, 1) := by decide +kernel
theorem dX6_made_52 : decode cX6_made 52 = .ok (.ladd, 1) := by decide +kernel
theorem dX6_made_53 : decode cX6_made 53 = .ok (.invokestatic 107, 3) := by decide +kernel
theorem dX6_made_56 : decode cX6_made 56 = .ok (.ireturn, 1) := by decide +kernel
theorem dX6_made_57 : decode cX6_made 57 = .ok (.iload_n 1, 1) := by decide +kernel
theorem dX6_made_58 : decode cX6_made 58 = .ok (.i2l, 1) := by decide +kernel
theorem dX6_made_59 : decode cX6_made 59 = .ok (.iload_n 2, 1) := by decide +kernel
theorem dX6_made_60 : decode cX6_made 60 = .ok (.i2l, 1) := by decide +kernel
theorem dX6_made_61 : decode cX6_made 61 = .ok (.lsub, 1) := by decide +kernel
theorem dX6_made_62 : decode cX6_made 62 = .ok (.invokestatic 107, 3) := by decide +kernel
theorem dX6_made_65 : decode cX6_made 65 = .ok (.ireturn, 1) := by decide +kernel
theorem dX6_made_66 : decode cX6_made 66 = .ok (.iload_n 1, 1) := by decide +kernel
theorem dX6_made_67 : decode cX6_made 67 = .ok (.i2l, 1) := by decide +kernel
theorem dX6_made_68 : decode cX6_made 68 = .ok (.iload_n 2, 1) := by decide +kernel
theorem dX6_made_69 : decode cX6_made 69 = .ok (.i2l, 1) := by decide +kernel
theorem dX6_made_70 : decode cX6_made 70 = .ok (.lmul, 1) := by decide +kernel
theorem dX6_made_71 : decode cX6_made 71 = .ok (.invokestatic 107, 3) := by decide +kernel
theorem dX6_made_74 : decode cX6_made 74 = .ok (.ireturn, 1) := by decide +kernel
theorem dX6_made_75 : decode cX6_made 75 = .ok (.iload_n 1, 1) := by decide +kernel
theorem dX6_made_76 : decode cX6_made 76 = .ok (.iload_n 2, 1) := by decide +kernel
theorem dX6_made_77 : decode cX6_made 77 = .ok (.if_icmp .le 7, 3) := by decide +kernel
theorem dX6_made_80 : decode cX6_made 80 = .ok (.iload_n 1, 1) := by decide +kernel
theorem dX6_made_81 : decode cX6_made 81 = .ok (.goto 4, 3) := by decide +kernel
theorem dX6_made_84 : decode cX6_made 84 = .ok (.iload_n 2, 1) := by decide +kernel
theorem dX6_made_85 : decode cX6_made 85 = .ok (.ireturn, 1) := by decide +kernel
theorem dX6_made_86 : decode cX6_made 86 = .ok (.iload_n 2, 1) := by decide +kernel
theorem dX6_made_87 : decode cX6_made 87 = .ok (.ireturn, 1) := by decide +kernel
theorem dX6_checks_0 : decode cX6_checks 0 = .ok (.aload_n 0, 1) := by decide +kernel
theorem dX6_checks_1 : decode cX6_checks 1 = .ok (.getfield 22, 3) := by decide +kernel
theorem dX6_checks_4 : decode cX6_checks 4 = .ok (.iload_n 1, 1) := by decide +kernel
theorem dX6_checks_5 : decode cX6_checks 5 = .ok (.iaload, 1) := by decide +kernel
theorem dX6_checks_6 : decode cX6_checks 6 = .ok (.istore_n 2, 1) := by decide +kernel
theorem dX6_checks_7 : decode cX6_checks 7 = .ok (.aload_n 0, 1) := by decide +kernel
theorem dX6_checks_8 : decode cX6_checks 8 = .ok (.getfield 28, 3) := by decide +kernel
theorem dX6_checks_11 : decode cX6_checks 11 = .ok (.iload_n 1, 1) := by decide +kernel
theorem dX6_checks_12 : decode cX6_checks 12 = .ok (.iaload, 1) := by decide +kernel
theorem dX6_checks_13 : decode cX6_checks 13 = .ok (.istore_n 3, 1) := by decide +kernel
theorem dX6_checks_14 : decode cX6_checks 14 = .ok (.iload_n 3, 1) := by decide +kernel
theorem dX6_checks_15 : decode cX6_checks 15 = .ok (.ifCond .le 45, 3) := by decide +kernel
theorem dX6_checks_18 : decode cX6_checks 18 = .ok (.aload_n 0, 1) := by decide +kernel
theorem dX6_checks_19 : decode cX6_checks 19 = .ok (.aload_n 0, 1) := by decide +kernel
theorem dX6_checks_20 : decode cX6_checks 20 = .ok (.iload_n 2, 1) := by decide +kernel
theorem dX6_checks_21 : decode cX6_checks 21 = .ok (.bipush 11, 2) := by decide +kernel
theorem dX6_checks_23 : decode cX6_checks 23 = .ok (.iload_n 3, 1) := by decide +kernel
theorem dX6_checks_24 : decode cX6_checks 24 = .ok (.iadd, 1) := by decide +kernel
theorem dX6_checks_25 : decode cX6_checks 25 = .ok (.iconst 1, 1) := by decide +kernel
theorem dX6_checks_26 : decode cX6_checks 26 = .ok (.isub, 1) := by decide +kernel
theorem dX6_checks_27 : decode cX6_checks 27 = .ok (.invokevirtual 55, 3) := by decide +kernel
theorem dX6_checks_30 : decode cX6_checks 30 = .ok (.invokevirtual 111, 3) := by decide +kernel
theorem dX6_checks_33 : decode cX6_checks 33 = .ok (.aload_n 0, 1) := by decide +kernel
theorem dX6_checks_34 : decode cX6_checks 34 = .ok (.iload_n 2, 1) := by decide +kernel
theorem dX6_checks_35 : decode cX6_checks 35 = .ok (.bipush 9, 2) := by decide +kernel
theorem dX6_checks_37 : decode cX6_checks 37 = .ok (.invokevirtual 55, 3) := by decide +kernel
theorem dX6_checks_40 : decode cX6_checks 40 = .ok (.if_icmp .le 20, 3) := by decide +kernel
theorem dX6_checks_43 : decode cX6_checks 43 = .ok (.aload_n 0, 1) := by decide +kernel
theorem dX6_checks_44 : decode cX6_checks 44 = .ok (.getfield 25, 3) := by decide +kernel
theorem dX6_checks_47 : decode cX6_checks 47 = .ok (.iload_n 1, 1) := by decide +kernel
theorem dX6_checks_48 : decode cX6_checks 48 = .ok (.iconst 1, 1) := by decide +kernel
theorem dX6_checks_49 : decode cX6_checks 49 = .ok (.iastore, 1) := by decide +kernel
theorem dX6_checks_50 : decode cX6_checks 50 = .ok (.aload_n 0, 1) := by decide +kernel
theorem dX6_checks_51 : decode cX6_checks 51 = .ok (.getfield 28, 3) := by decide +kernel
theorem dX6_checks_54 : decode cX6_checks 54 = .ok (.iload_n 1, 1) := by decide +kernel
theorem dX6_checks_55 : decode cX6_checks 55 = .ok (.iconst 0, 1) := by decide +kernel
theorem dX6_checks_56 : decode cX6_checks 56 = .ok (.iastore, 1) := by decide +kernel
theorem dX6_checks_57 : decode cX6_checks 57 = .ok (.goto 78, 3) := by decide +kernel
theorem dX6_checks_60 : decode cX6_checks 60 = .ok (.iload_n 3, 1) := by decide +kernel
theorem dX6_checks_61 : decode cX6_checks 61 = .ok (.aload_n 0, 1) := by decide +kernel
theorem dX6_checks_62 : decode cX6_checks 62 = .ok (.iload_n 2, 1) := by decide +kernel
theorem dX6_checks_63 : decode cX6_checks 63 = .ok (.bipush 10, 2) := by decide +kernel
theorem dX6_checks_65 : decode cX6_checks 65 = .ok (.invokevirtual 55, 3) := by decide +kernel
theorem dX6_checks_68 : decode cX6_checks 68 = .ok (.if_icmp .ne 44, 3) := by decide +kernel
theorem dX6_checks_71 : decode cX6_checks 71 = .ok (.aload_n 0, 1) := by decide +kernel
theorem dX6_checks_72 : decode cX6_checks 72 = .ok (.iload_n 2, 1) := by decide +kernel
theorem dX6_checks_73 : decode cX6_checks 73 = .ok (.bipush 9, 2) := by decide +kernel
theorem dX6_checks_75 : decode cX6_checks 75 = .ok (.aload_n 0, 1) := by decide +kernel
theorem dX6_checks_76 : decode cX6_checks 76 = .ok (.getfield 7, 3) := by decide +kernel
theorem dX6_checks_79 : decode cX6_checks 79 = .ok (.iconst 0, 1) := by decide +kernel
theorem dX6_checks_80 : decode cX6_checks 80 = .ok (.iaload, 1) := by decide +kernel
theorem dX6_checks_81 : decode cX6_checks 81 = .ok (.invokevirtual 63, 3) := by decide +kernel
theorem dX6_checks_84 : decode cX6_checks 84 = .ok (.aload_n 0, 1) := by decide +kernel
theorem dX6_checks_85 : decode cX6_checks 85 = .ok (.getfield 7, 3) := by decide +kernel
theorem dX6_checks_88 : decode cX6_checks 88 = .ok (.iconst 2, 1) := by decide +kernel
theorem dX6_checks_89 : decode cX6_checks 89 = .ok (.dup2, 1) := by decide +kernel
theorem dX6_checks_90 : decode cX6_checks 90 = .ok (.iaload, 1) := by decide +kernel
theorem dX6_checks_91 : decode cX6_checks 91 = .ok (.iconst 1, 1) := by decide +kernel
theorem dX6_checks_92 : decode cX6_checks 92 = .ok (.iadd, 1) := by decide +kernel
theorem dX6_checks_93 : decode cX6_checks 93 = .ok (.iastore, 1) := by decide +kernel
theorem dX6_checks_94 : decode cX6_checks 94 = .ok (.aload_n 0, 1) := by decide +kernel
theorem dX6_checks_95 : decode cX6_checks 95 = .ok (.iload_n 2, 1) := by decide +kernel
theorem dX6_checks_96 : decode cX6_checks 96 = .ok (.invokevirtual 91, 3) := by decide +kernel
theorem dX6_checks_99 : decode cX6_checks 99 = .ok (.aload_n 0, 1) := by decide +kernel
theorem dX6_checks_100 : decode cX6_checks 100 = .ok (.dup, 1) := by decide +kernel
theorem dX6_checks_101 : decode cX6_checks 101 = .ok (.getfield 88, 3) := by decide +kernel
theorem dX6_checks_104 : decode cX6_checks 104 = .ok (.iconst 1, 1) := by decide +kernel
theorem dX6_checks_105 : decode cX6_checks 105 = .ok (.isub, 1) := by decide +kernel
theorem dX6_checks_106 : decode cX6_checks 106 = .ok (.putfield 88, 3) := by decide +kernel
theorem dX6_checks_109 : decode cX6_checks 109 = .ok (.goto 26, 3) := by decide +kernel
theorem dX6_checks_112 : decode cX6_checks 112 = .ok (.aload_n 0, 1) := by decide +kernel
theorem dX6_checks_113 : decode cX6_checks 113 = .ok (.getfield 28, 3) := by decide +kernel
theorem dX6_checks_116 : decode cX6_checks 116 = .ok (.iload_n 1, 1) := by decide +kernel
theorem dX6_checks_117 : decode cX6_checks 117 = .ok (.dup2, 1) := by decide +kernel
theorem dX6_checks_118 : decode cX6_checks 118 = .ok (.iaload, 1) := by decide +kernel
theorem dX6_checks_119 : decode cX6_checks 119 = .ok (.iconst 1, 1) := by decide +kernel
theorem dX6_checks_120 : decode cX6_checks 120 = .ok (.iadd, 1) := by decide +kernel
theorem dX6_checks_121 : decode cX6_checks 121 = .ok (.iastore, 1) := by decide +kernel
theorem dX6_checks_122 : decode cX6_checks 122 = .ok (.aload_n 0, 1) := by decide +kernel
theorem dX6_checks_123 : decode cX6_checks 123 = .ok (.aload_n 0, 1) := by decide +kernel
theorem dX6_checks_124 : decode cX6_checks 124 = .ok (.iload_n 2, 1) := by decide +kernel
theorem dX6_checks_125 : decode cX6_checks 125 = .ok (.bipush 11, 2) := by decide +kernel
theorem dX6_checks_127 : decode cX6_checks 127 = .ok (.iload_n 3, 1) := by decide +kernel
theorem dX6_checks_128 : decode cX6_checks 128 = .ok (.iadd, 1) := by decide +kernel
theorem dX6_checks_129 : decode cX6_checks 129 = .ok (.invokevirtual 55, 3) := by decide +kernel
theorem dX6_checks_132 : decode cX6_checks 132 = .ok (.invokevirtual 114, 3) := by decide +kernel
theorem dX6_checks_135 : decode cX6_checks 135 = .ok (.return_, 1) := by decide +kernel
theorem dX6_ends_0 : decode cX6_ends 0 = .ok (.aload_n 0, 1) := by decide +kernel
theorem dX6_ends_1 : decode cX6_ends 1 = .ok (.aload_n 0, 1) := by decide +kernel
theorem dX6_ends_2 : decode cX6_ends 2 = .ok (.iload_n 1, 1) := by decide +kernel
theorem dX6_ends_3 : decode cX6_ends 3 = .ok (.iconst 2, 1) := by decide +kernel
theorem dX6_ends_4 : decode cX6_ends 4 = .ok (.invokevirtual 55, 3) := by decide +kernel
theorem dX6_ends_7 : decode cX6_ends 7 = .ok (.invokevirtual 117, 3) := by decide +kernel
theorem dX6_ends_10 : decode cX6_ends 10 = .ok (.istore 4, 2) := by decide +kernel
theorem dX6_ends_12 : decode cX6_ends 12 = .ok (.iload_n 2, 1) := by decide +kernel
theorem dX6_ends_13 : decode cX6_ends 13 = .ok (.iconst 1, 1) := by decide +kernel
theorem dX6_ends_14 : decode cX6_ends 14 = .ok (.if_icmp .ne 8, 3) := by decide +kernel
theorem dX6_ends_17 : decode cX6_ends 17 = .ok (.ldc 106, 2) := by decide +kernel
theorem dX6_ends_19 : decode cX6_ends 19 = .ok (.goto 19, 3) := by decide +kernel
theorem dX6_ends_22 : decode cX6_ends 22 = .ok (.aload_n 0, 1) := by decide +kernel
theorem dX6_ends_23 : decode cX6_ends 23 = .ok (.iload_n 1, 1) := by decide +kernel
theorem dX6_ends_24 : decode cX6_ends 24 = .ok (.iconst 0, 1) := by decide +kernel
theorem dX6_ends_25 : decode cX6_ends 25 = .ok (.invokevirtual 55, 3) := by decide +kernel
theorem dX6_ends_28 : decode cX6_ends 28 = .ok (.iload 4, 2) := by decide +kernel
theorem dX6_ends_30 : decode cX6_ends 30 = .ok (.aload_n 0, 1) := by decide +kernel
theorem dX6_ends_31 : decode cX6_ends 31 = .ok (.iload_n 3, 1) := by decide +kernel
theorem dX6_ends_32 : decode cX6_ends 32 = .ok (.invokevirtual 117, 3) := by decide +kernel
theorem dX6_ends_35 : decode cX6_ends 35 = .ok (.invokestatic 120, 3) := by decide +kernel
theorem dX6_ends_38 : decode cX6_ends 38 = .ok (.istore 5, 2) := by decide +kernel
theorem dX6_ends_40 : decode cX6_ends 40 = .ok (.aload_n 0, 1) := by decide +kernel
theorem dX6_ends_41 : decode cX6_ends 41 = .ok (.iload_n 1, 1) := by decide +kernel
theorem dX6_ends_42 : decode cX6_ends 42 = .ok (.bipush 6, 2) := by decide +kernel
theorem dX6_ends_44 : decode cX6_ends 44 = .ok (.invokevirtual 55, 3) := by decide +kernel
theorem dX6_ends_47 : decode cX6_ends 47 = .ok (.iconst 1, 1) := by decide +kernel
theorem dX6_ends_48 : decode cX6_ends 48 = .ok (.if_icmp .ne 19, 3) := by decide +kernel
theorem dX6_ends_51 : decode cX6_ends 51 = .ok (.aload_n 0, 1) := by decide +kernel
theorem dX6_ends_52 : decode cX6_ends 52 = .ok (.iload_n 1, 1) := by decide +kernel
theorem dX6_ends_53 : decode cX6_ends 53 = .ok (.bipush 7, 2) := by decide +kernel
theorem dX6_ends_55 : decode cX6_ends 55 = .ok (.invokevirtual 55, 3) := by decide +kernel
theorem dX6_ends_58 : decode cX6_ends 58 = .ok (.iload 5, 2) := by decide +kernel
theorem dX6_ends_60 : decode cX6_ends 60 = .ok (.if_icmp .ne 7, 3) := by decide +kernel
theorem dX6_ends_63 : decode cX6_ends 63 = .ok (.iconst 1, 1) := by decide +kernel
theorem dX6_ends_64 : decode cX6_ends 64 = .ok (.goto 4, 3) := by decide +kernel
theorem dX6_ends_67 : decode cX6_ends 67 = .ok (.iconst 0, 1) := by decide +kernel
theorem dX6_ends_68 : decode cX6_ends 68 = .ok (.istore 6, 2) := by decide +kernel
theorem dX6_ends_70 : decode cX6_ends 70 = .ok (.aload_n 0, 1) := by decide +kernel
theorem dX6_ends_71 : decode cX6_ends 71 = .ok (.getfield 7, 3) := by decide +kernel
theorem dX6_ends_74 : decode cX6_ends 74 = .ok (.bipush 6, 2) := by decide +kernel
theorem dX6_ends_76 : decode cX6_ends 76 = .ok (.dup2, 1) := by decide +kernel
theorem dX6_ends_77 : decode cX6_ends 77 = .ok (.iaload, 1) := by decide +kernel
theorem dX6_ends_78 : decode cX6_ends 78 = .ok (.iload 6, 2) := by decide +kernel
theorem dX6_ends_80 : decode cX6_ends 80 = .ok (.ifCond .eq 7, 3) := by decide +kernel
theorem dX6_ends_83 : decode cX6_ends 83 = .ok (.iconst 1, 1) := by decide +kernel
theorem dX6_ends_84 : decode cX6_ends 84 = .ok (.goto 4, 3) := by decide +kernel
theorem dX6_ends_87 : decode cX6_ends 87 = .ok (.iconst 0, 1) := by decide +kernel
theorem dX6_ends_88 : decode cX6_ends 88 = .ok (.iadd, 1) := by decide +kernel
theorem dX6_ends_89 : decode cX6_ends 89 = .ok (.iastore, 1) := by decide +kernel
theorem dX6_ends_90 : decode cX6_ends 90 = .ok (.aload_n 0, 1) := by decide +kernel
theorem dX6_ends_91 : decode cX6_ends 91 = .ok (.iload_n 1, 1) := by decide +kernel
theorem dX6_ends_92 : decode cX6_ends 92 = .ok (.bipush 8, 2) := by decide +kernel
theorem dX6_ends_94 : decode cX6_ends 94 = .ok (.iload 6, 2) := by decide +kernel
theorem dX6_ends_96 : decode cX6_ends 96 = .ok (.ifCond .eq 13, 3) := by decide +kernel
theorem dX6_ends_99 : decode cX6_ends 99 = .ok (.aload_n 0, 1) := by decide +kernel
theorem dX6_ends_100 : decode cX6_ends 100 = .ok (.iload_n 1, 1) := by decide +kernel
theorem dX6_ends_101 : decode cX6_ends 101 = .ok (.bipush 8, 2) := by decide +kernel
theorem dX6_ends_103 : decode cX6_ends 103 = .ok (.invokevirtual 55, 3) := by decide +kernel
theorem dX6_ends_106 : decode cX6_ends 106 = .ok (.goto 9, 3) := by decide +kernel
theorem dX6_ends_109 : decode cX6_ends 109 = .ok (.aload_n 0, 1) := by decide +kernel
theorem dX6_ends_110 : decode cX6_ends 110 = .ok (.getfield 7, 3) := by decide +kernel
theorem dX6_ends_113 : decode cX6_ends 113 = .ok (.iconst 0, 1) := by decide +kernel
theorem dX6_ends_114 : decode cX6_ends 114 = .ok (.iaload, 1) := by decide +kernel
theorem dX6_ends_115 : decode cX6_ends 115 = .ok (.invokevirtual 63, 3) := by decide +kernel
theorem dX6_ends_118 : decode cX6_ends 118 = .ok (.aload_n 0, 1) := by decide +kernel
theorem dX6_ends_119 : decode cX6_ends 119 = .ok (.iload_n 1, 1) := by decide +kernel
theorem dX6_ends_120 : decode cX6_ends 120 = .ok (.bipush 6, 2) := by decide +kernel
theorem dX6_ends_122 : decode cX6_ends 122 = .ok (.iconst 1, 1) := by decide +kernel
theorem dX6_ends_123 : decode cX6_ends 123 = .ok (.invokevirtual 63, 3) := by decide +kernel
theorem dX6_ends_126 : decode cX6_ends 126 = .ok (.aload_n 0, 1) := by decide +kernel
theorem dX6_ends_127 : decode cX6_ends 127 = .ok (.iload_n 1, 1) := by decide +kernel
theorem dX6_ends_128 : decode cX6_ends 128 = .ok (.bipush 7, 2) := by decide +kernel
theorem dX6_ends_130 : decode cX6_ends 130 = .ok (.iload 5, 2) := by decide +kernel
theorem dX6_ends_132 : decode cX6_ends 132 = .ok (.invokevirtual 63, 3) := by decide +kernel
theorem dX6_ends_135 : decode cX6_ends 135 = .ok (.aload_n 0, 1) := by decide +kernel
theorem dX6_ends_136 : decode cX6_ends 136 = .ok (.iload_n 1, 1) := by decide +kernel
theorem dX6_ends_137 : decode cX6_ends 137 = .ok (.bipush 9, 2) := by decide +kernel
theorem dX6_ends_139 : decode cX6_ends 139 = .ok (.aload_n 0, 1) := by decide +kernel
theorem dX6_ends_140 : decode cX6_ends 140 = .ok (.getfield 7, 3) := by decide +kernel
theorem dX6_ends_143 : decode cX6_ends 143 = .ok (.iconst 0, 1) := by decide +kernel
theorem dX6_ends_144 : decode cX6_ends 144 = .ok (.iaload, 1) := by decide +kernel
theorem dX6_ends_145 : decode cX6_ends 145 = .ok (.invokevirtual 63, 3) := by decide +kernel
theorem dX6_ends_148 : decode cX6_ends 148 = .ok (.aload_n 0, 1) := by decide +kernel
theorem dX6_ends_149 : decode cX6_ends 149 = .ok (.iload_n 1, 1) := by decide +kernel
theorem dX6_ends_150 : decode cX6_ends 150 = .ok (.bipush 10, 2) := by decide +kernel
theorem dX6_ends_152 : decode cX6_ends 152 = .ok (.iload_n 2, 1) := by decide +kernel
theorem dX6_ends_153 : decode cX6_ends 153 = .ok (.invokevirtual 63, 3) := by decide +kernel
theorem dX6_ends_156 : decode cX6_ends 156 = .ok (.aload_n 0, 1) := by decide +kernel
theorem dX6_ends_157 : decode cX6_ends 157 = .ok (.iload_n 1, 1) := by decide +kernel
theorem dX6_ends_158 : decode cX6_ends 158 = .ok (.bipush 11, 2) := by decide +kernel
theorem dX6_ends_160 : decode cX6_ends 160 = .ok (.aload_n 0, 1) := by decide +kernel
theorem dX6_ends_161 : decode cX6_ends 161 = .ok (.iload_n 1, 1) := by decide +kernel
theorem dX6_ends_162 : decode cX6_ends 162 = .ok (.iconst 2, 1) := by decide +kernel
theorem dX6_ends_163 : decode cX6_ends 163 = .ok (.invokevirtual 55, 3) := by decide +kernel
theorem dX6_ends_166 : decode cX6_ends 166 = .ok (.invokevirtual 63, 3) := by decide +kernel
theorem dX6_ends_169 : decode cX6_ends 169 = .ok (.aload_n 0, 1) := by decide +kernel
theorem dX6_ends_170 : decode cX6_ends 170 = .ok (.iload_n 1, 1) := by decide +kernel
theorem dX6_ends_171 : decode cX6_ends 171 = .ok (.bipush 12, 2) := by decide +kernel
theorem dX6_ends_173 : decode cX6_ends 173 = .ok (.iload_n 2, 1) := by decide +kernel
theorem dX6_ends_174 : decode cX6_ends 174 = .ok (.iconst 1, 1) := by decide +kernel
theorem dX6_ends_175 : decode cX6_ends 175 = .ok (.if_icmp .ne 7, 3) := by decide +kernel
theorem dX6_ends_178 : decode cX6_ends 178 = .ok (.iconst 0, 1) := by decide +kernel
theorem dX6_ends_179 : decode cX6_ends 179 = .ok (.goto 4, 3) := by decide +kernel
theorem dX6_ends_182 : decode cX6_ends 182 = .ok (.iload_n 3, 1) := by decide +kernel
theorem dX6_ends_183 : decode cX6_ends 183 = .ok (.invokevirtual 63, 3) := by decide +kernel
theorem dX6_ends_186 : decode cX6_ends 186 = .ok (.aload_n 0, 1) := by decide +kernel
theorem dX6_ends_187 : decode cX6_ends 187 = .ok (.getfield 7, 3) := by decide +kernel
theorem dX6_ends_190 : decode cX6_ends 190 = .ok (.iconst 1, 1) := by decide +kernel
theorem dX6_ends_191 : decode cX6_ends 191 = .ok (.dup2, 1) := by decide +kernel
theorem dX6_ends_192 : decode cX6_ends 192 = .ok (.iaload, 1) := by decide +kernel
theorem dX6_ends_193 : decode cX6_ends 193 = .ok (.iconst 1, 1) := by decide +kernel
theorem dX6_ends_194 : decode cX6_ends 194 = .ok (.iadd, 1) := by decide +kernel
theorem dX6_ends_195 : decode cX6_ends 195 = .ok (.iastore, 1) := by decide +kernel
theorem dX6_ends_196 : decode cX6_ends 196 = .ok (.aload_n 0, 1) := by decide +kernel
theorem dX6_ends_197 : decode cX6_ends 197 = .ok (.iload_n 1, 1) := by decide +kernel
theorem dX6_ends_198 : decode cX6_ends 198 = .ok (.invokevirtual 91, 3) := by decide +kernel
theorem dX6_ends_201 : decode cX6_ends 201 = .ok (.aload_n 0, 1) := by decide +kernel
theorem dX6_ends_202 : decode cX6_ends 202 = .ok (.dup, 1) := by decide +kernel
theorem dX6_ends_203 : decode cX6_ends 203 = .ok (.getfield 88, 3) := by decide +kernel
theorem dX6_ends_206 : decode cX6_ends 206 = .ok (.iconst 1, 1) := by decide +kernel
theorem dX6_ends_207 : decode cX6_ends 207 = .ok (.isub, 1) := by decide +kernel
theorem dX6_ends_208 : decode cX6_ends 208 = .ok (.putfield 88, 3) := by decide +kernel
theorem dX6_ends_211 : decode cX6_ends 211 = .ok (.return_, 1) := by decide +kernel
theorem dX6_works_0 : decode cX6_works 0 = .ok (.aload_n 0, 1) := by decide +kernel
theorem dX6_works_1 : decode cX6_works 1 = .ok (.getfield 22, 3) := by decide +kernel
theorem dX6_works_4 : decode cX6_works 4 = .ok (.iload_n 1, 1) := by decide +kernel
theorem dX6_works_5 : decode cX6_works 5 = .ok (.iaload, 1) := by decide +kernel
theorem dX6_works_6 : decode cX6_works 6 = .ok (.istore_n 2, 1) := by decide +kernel
theorem dX6_works_7 : decode cX6_works 7 = .ok (.aload_n 0, 1) := by decide +kernel
theorem dX6_works_8 : decode cX6_works 8 = .ok (.getfield 28, 3) := by decide +kernel
theorem dX6_works_11 : decode cX6_works 11 = .ok (.iload_n 1, 1) := by decide +kernel
theorem dX6_works_12 : decode cX6_works 12 = .ok (.dup2, 1) := by decide +kernel
theorem dX6_works_13 : decode cX6_works 13 = .ok (.iaload, 1) := by decide +kernel
theorem dX6_works_14 : decode cX6_works 14 = .ok (.iconst 1, 1) := by decide +kernel
theorem dX6_works_15 : decode cX6_works 15 = .ok (.iadd, 1) := by decide +kernel
theorem dX6_works_16 : decode cX6_works 16 = .ok (.iastore, 1) := by decide +kernel
theorem dX6_works_17 : decode cX6_works 17 = .ok (.aload_n 0, 1) := by decide +kernel
theorem dX6_works_18 : decode cX6_works 18 = .ok (.getfield 28, 3) := by decide +kernel
theorem dX6_works_21 : decode cX6_works 21 = .ok (.iload_n 1, 1) := by decide +kernel
theorem dX6_works_22 : decode cX6_works 22 = .ok (.iaload, 1) := by decide +kernel
theorem dX6_works_23 : decode cX6_works 23 = .ok (.iconst 1, 1) := by decide +kernel
theorem dX6_works_24 : decode cX6_works 24 = .ok (.if_icmp .ne 16, 3) := by decide +kernel
theorem dX6_works_27 : decode cX6_works 27 = .ok (.aload_n 0, 1) := by decide +kernel
theorem dX6_works_28 : decode cX6_works 28 = .ok (.aload_n 0, 1) := by decide +kernel
theorem dX6_works_29 : decode cX6_works 29 = .ok (.iload_n 2, 1) := by decide +kernel
theorem dX6_works_30 : decode cX6_works 30 = .ok (.iconst 2, 1) := by decide +kernel
theorem dX6_works_31 : decode cX6_works 31 = .ok (.invokevirtual 55, 3) := by decide +kernel
theorem dX6_works_34 : decode cX6_works 34 = .ok (.invokevirtual 114, 3) := by decide +kernel
theorem dX6_works_37 : decode cX6_works 37 = .ok (.goto 117, 3) := by decide +kernel
theorem dX6_works_40 : decode cX6_works 40 = .ok (.aload_n 0, 1) := by decide +kernel
theorem dX6_works_41 : decode cX6_works 41 = .ok (.getfield 28, 3) := by decide +kernel
theorem dX6_works_44 : decode cX6_works 44 = .ok (.iload_n 1, 1) := by decide +kernel
theorem dX6_works_45 : decode cX6_works 45 = .ok (.iaload, 1) := by decide +kernel
theorem dX6_works_46 : decode cX6_works 46 = .ok (.iconst 2, 1) := by decide +kernel
theorem dX6_works_47 : decode cX6_works 47 = .ok (.if_icmp .ne 95, 3) := by decide +kernel
theorem dX6_works_50 : decode cX6_works 50 = .ok (.aload_n 0, 1) := by decide +kernel
theorem dX6_works_51 : decode cX6_works 51 = .ok (.aload_n 0, 1) := by decide +kernel
theorem dX6_works_52 : decode cX6_works 52 = .ok (.iload_n 2, 1) := by decide +kernel
theorem dX6_works_53 : decode cX6_works 53 = .ok (.iconst 2, 1) := by decide +kernel
theorem dX6_works_54 : decode cX6_works 54 = .ok (.invokevirtual 55, 3) := by decide +kernel
theorem dX6_works_57 : decode cX6_works 57 = .ok (.invokevirtual 117, 3) := by decide +kernel
theorem dX6_works_60 : decode cX6_works 60 = .ok (.istore_n 3, 1) := by decide +kernel
theorem dX6_works_61 : decode cX6_works 61 = .ok (.aload_n 0, 1) := by decide +kernel
theorem dX6_works_62 : decode cX6_works 62 = .ok (.iload_n 2, 1) := by decide +kernel
theorem dX6_works_63 : decode cX6_works 63 = .ok (.iconst 0, 1) := by decide +kernel
theorem dX6_works_64 : decode cX6_works 64 = .ok (.invokevirtual 55, 3) := by decide +kernel
theorem dX6_works_67 : decode cX6_works 67 = .ok (.iconst 5, 1) := by decide +kernel
theorem dX6_works_68 : decode cX6_works 68 = .ok (.if_icmp .ne 7, 3) := by decide +kernel
theorem dX6_works_71 : decode cX6_works 71 = .ok (.iconst 1, 1) := by decide +kernel
theorem dX6_works_72 : decode cX6_works 72 = .ok (.goto 4, 3) := by decide +kernel
theorem dX6_works_75 : decode cX6_works 75 = .ok (.iconst 0, 1) := by decide +kernel
theorem dX6_works_76 : decode cX6_works 76 = .ok (.istore 4, 2) := by decide +kernel
theorem dX6_works_78 : decode cX6_works 78 = .ok (.aload_n 0, 1) := by decide +kernel
theorem dX6_works_79 : decode cX6_works 79 = .ok (.getfield 31, 3) := by decide +kernel
theorem dX6_works_82 : decode cX6_works 82 = .ok (.iload_n 1, 1) := by decide +kernel
theorem dX6_works_83 : decode cX6_works 83 = .ok (.iload 4, 2) := by decide +kernel
theorem dX6_works_85 : decode cX6_works 85 = .ok (.ifCond .eq 16, 3) := by decide +kernel
theorem dX6_works_88 : decode cX6_works 88 = .ok (.iload_n 3, 1) := by decide +kernel
theorem dX6_works_89 : decode cX6_works 89 = .ok (.ifCond .gt 12, 3) := by decide +kernel
theorem dX6_works_92 : decode cX6_works 92 = .ok (.aload_n 0, 1) := by decide +kernel
theorem dX6_works_93 : decode cX6_works 93 = .ok (.iload_n 2, 1) := by decide +kernel
theorem dX6_works_94 : decode cX6_works 94 = .ok (.iconst 4, 1) := by decide +kernel
theorem dX6_works_95 : decode cX6_works 95 = .ok (.invokevirtual 55, 3) := by decide +kernel
theorem dX6_works_98 : decode cX6_works 98 = .ok (.goto 9, 3) := by decide +kernel
theorem dX6_works_101 : decode cX6_works 101 = .ok (.aload_n 0, 1) := by decide +kernel
theorem dX6_works_102 : decode cX6_works 102 = .ok (.iload_n 2, 1) := by decide +kernel
theorem dX6_works_103 : decode cX6_works 103 = .ok (.iconst 3, 1) := by decide +kernel
theorem dX6_works_104 : decode cX6_works 104 = .ok (.invokevirtual 55, 3) := by decide +kernel
theorem dX6_works_107 : decode cX6_works 107 = .ok (.iastore, 1) := by decide +kernel
theorem dX6_works_108 : decode cX6_works 108 = .ok (.iload 4, 2) := by decide +kernel
theorem dX6_works_110 : decode cX6_works 110 = .ok (.ifCond .eq 19, 3) := by decide +kernel
theorem dX6_works_113 : decode cX6_works 113 = .ok (.iload_n 3, 1) := by decide +kernel
theorem dX6_works_114 : decode cX6_works 114 = .ok (.ldc 106, 2) := by decide +kernel
theorem dX6_works_116 : decode cX6_works 116 = .ok (.if_icmp .ne 13, 3) := by decide +kernel
theorem dX6_works_119 : decode cX6_works 119 = .ok (.aload_n 0, 1) := by decide +kernel
theorem dX6_works_120 : decode cX6_works 120 = .ok (.iload_n 2, 1) := by decide +kernel
theorem dX6_works_121 : decode cX6_works 121 = .ok (.iconst 1, 1) := by decide +kernel
theorem dX6_works_122 : decode cX6_works 122 = .ok (.iconst (-1), 1) := by decide +kernel
theorem dX6_works_123 : decode cX6_works 123 = .ok (.invokevirtual 124, 3) := by decide +kernel
theorem dX6_works_126 : decode cX6_works 126 = .ok (.goto 13, 3) := by decide +kernel
theorem dX6_works_129 : decode cX6_works 129 = .ok (.aload_n 0, 1) := by decide +kernel
theorem dX6_works_130 : decode cX6_works 130 = .ok (.aload_n 0, 1) := by decide +kernel
theorem dX6_works_131 : decode cX6_works 131 = .ok (.getfield 31, 3) := by decide +kernel
theorem dX6_works_134 : decode cX6_works 134 = .ok (.iload_n 1, 1) := by decide +kernel
theorem dX6_works_135 : decode cX6_works 135 = .ok (.iaload, 1) := by decide +kernel
theorem dX6_works_136 : decode cX6_works 136 = .ok (.invokevirtual 114, 3) := by decide +kernel
theorem dX6_works_139 : decode cX6_works 139 = .ok (.goto 15, 3) := by decide +kernel
theorem dX6_works_142 : decode cX6_works 142 = .ok (.aload_n 0, 1) := by decide +kernel
theorem dX6_works_143 : decode cX6_works 143 = .ok (.iload_n 2, 1) := by decide +kernel
theorem dX6_works_144 : decode cX6_works 144 = .ok (.iconst 2, 1) := by decide +kernel
theorem dX6_works_145 : decode cX6_works 145 = .ok (.aload_n 0, 1) := by decide +kernel
theorem dX6_works_146 : decode cX6_works 146 = .ok (.getfield 31, 3) := by decide +kernel
theorem dX6_works_149 : decode cX6_works 149 = .ok (.iload_n 1, 1) := by decide +kernel
theorem dX6_works_150 : decode cX6_works 150 = .ok (.iaload, 1) := by decide +kernel
theorem dX6_works_151 : decode cX6_works 151 = .ok (.invokevirtual 124, 3) := by decide +kernel
theorem dX6_works_154 : decode cX6_works 154 = .ok (.return_, 1) := by decide +kernel
theorem dX6_looks_0 : decode cX6_looks 0 = .ok (.aload_n 0, 1) := by decide +kernel
theorem dX6_looks_1 : decode cX6_looks 1 = .ok (.iconst 0, 1) := by decide +kernel
theorem dX6_looks_2 : decode cX6_looks 2 = .ok (.putfield 88, 3) := by decide +kernel
theorem dX6_looks_5 : decode cX6_looks 5 = .ok (.aload_n 0, 1) := by decide +kernel
theorem dX6_looks_6 : decode cX6_looks 6 = .ok (.iconst 0, 1) := by decide +kernel
theorem dX6_looks_7 : decode cX6_looks 7 = .ok (.putfield 98, 3) := by decide +kernel
theorem dX6_looks_10 : decode cX6_looks 10 = .ok (.aload_n 0, 1) := by decide +kernel
theorem dX6_looks_11 : decode cX6_looks 11 = .ok (.iload_n 1, 1) := by decide +kernel
theorem dX6_looks_12 : decode cX6_looks 12 = .ok (.invokevirtual 114, 3) := by decide +kernel
theorem dX6_looks_15 : decode cX6_looks 15 = .ok (.aload_n 0, 1) := by decide +kernel
theorem dX6_looks_16 : decode cX6_looks 16 = .ok (.getfield 88, 3) := by decide +kernel
theorem dX6_looks_19 : decode cX6_looks 19 = .ok (.ifCond .le 50, 3) := by decide +kernel
theorem dX6_looks_22 : decode cX6_looks 22 = .ok (.aload_n 0, 1) := by decide +kernel
theorem dX6_looks_23 : decode cX6_looks 23 = .ok (.getfield 98, 3) := by decide +kernel
theorem dX6_looks_26 : decode cX6_looks 26 = .ok (.ifCond .ne 43, 3) := by decide +kernel
theorem dX6_looks_29 : decode cX6_looks 29 = .ok (.aload_n 0, 1) := by decide +kernel
theorem dX6_looks_30 : decode cX6_looks 30 = .ok (.getfield 25, 3) := by decide +kernel
theorem dX6_looks_33 : decode cX6_looks 33 = .ok (.aload_n 0, 1) := by decide +kernel
theorem dX6_looks_34 : decode cX6_looks 34 = .ok (.getfield 88, 3) := by decide +kernel
theorem dX6_looks_37 : decode cX6_looks 37 = .ok (.iconst 1, 1) := by decide +kernel
theorem dX6_looks_38 : decode cX6_looks 38 = .ok (.isub, 1) := by decide +kernel
theorem dX6_looks_39 : decode cX6_looks 39 = .ok (.iaload, 1) := by decide +kernel
theorem dX6_looks_40 : decode cX6_looks 40 = .ok (.ifCond .ne 16, 3) := by decide +kernel
theorem dX6_looks_43 : decode cX6_looks 43 = .ok (.aload_n 0, 1) := by decide +kernel
theorem dX6_looks_44 : decode cX6_looks 44 = .ok (.aload_n 0, 1) := by decide +kernel
theorem dX6_looks_45 : decode cX6_looks 45 = .ok (.getfield 88, 3) := by decide +kernel
theorem dX6_looks_48 : decode cX6_looks 48 = .ok (.iconst 1, 1) := by decide +kernel
theorem dX6_looks_49 : decode cX6_looks 49 = .ok (.isub, 1) := by decide +kernel
theorem dX6_looks_50 : decode cX6_looks 50 = .ok (.invokevirtual 127, 3) := by decide +kernel
theorem dX6_looks_53 : decode cX6_looks 53 = .ok (.goto (-38), 3) := by decide +kernel
theorem dX6_looks_56 : decode cX6_looks 56 = .ok (.aload_n 0, 1) := by decide +kernel
theorem dX6_looks_57 : decode cX6_looks 57 = .ok (.aload_n 0, 1) := by decide +kernel
theorem dX6_looks_58 : decode cX6_looks 58 = .ok (.getfield 88, 3) := by decide +kernel
theorem dX6_looks_61 : decode cX6_looks 61 = .ok (.iconst 1, 1) := by decide +kernel
theorem dX6_looks_62 : decode cX6_looks 62 = .ok (.isub, 1) := by decide +kernel
theorem dX6_looks_63 : decode cX6_looks 63 = .ok (.invokevirtual 130, 3) := by decide +kernel
theorem dX6_looks_66 : decode cX6_looks 66 = .ok (.goto (-51), 3) := by decide +kernel
theorem dX6_looks_69 : decode cX6_looks 69 = .ok (.aload_n 0, 1) := by decide +kernel
theorem dX6_looks_70 : decode cX6_looks 70 = .ok (.getfield 98, 3) := by decide +kernel
theorem dX6_looks_73 : decode cX6_looks 73 = .ok (.ifCond .ne 7, 3) := by decide +kernel
theorem dX6_looks_76 : decode cX6_looks 76 = .ok (.iconst 1, 1) := by decide +kernel
theorem dX6_looks_77 : decode cX6_looks 77 = .ok (.goto 4, 3) := by decide +kernel
theorem dX6_looks_80 : decode cX6_looks 80 = .ok (.iconst 0, 1) := by decide +kernel
theorem dX6_looks_81 : decode cX6_looks 81 = .ok (.ireturn, 1) := by decide +kernel
theorem dX6_remembered_0 : decode cX6_remembered 0 = .ok (.iconst 0, 1) := by decide +kernel
theorem dX6_remembered_1 : decode cX6_remembered 1 = .ok (.istore_n 1, 1) := by decide +kernel
theorem dX6_remembered_2 : decode cX6_remembered 2 = .ok (.iconst 0, 1) := by decide +kernel
theorem dX6_remembered_3 : decode cX6_remembered 3 = .ok (.istore_n 2, 1) := by decide +kernel
theorem dX6_remembered_4 : decode cX6_remembered 4 = .ok (.iload_n 2, 1) := by decide +kernel
theorem dX6_remembered_5 : decode cX6_remembered 5 = .ok (.bipush 10, 2) := by decide +kernel
theorem dX6_remembered_7 : decode cX6_remembered 7 = .ok (.if_icmp .ge 19, 3) := by decide +kernel
theorem dX6_remembered_10 : decode cX6_remembered 10 = .ok (.iload_n 1, 1) := by decide +kernel
theorem dX6_remembered_11 : decode cX6_remembered 11 = .ok (.aload_n 0, 1) := by decide +kernel
theorem dX6_remembered_12 : decode cX6_remembered 12 = .ok (.iload_n 2, 1) := by decide +kernel
theorem dX6_remembered_13 : decode cX6_remembered 13 = .ok (.bipush 6, 2) := by decide +kernel
theorem dX6_remembered_15 : decode cX6_remembered 15 = .ok (.invokevirtual 55, 3) := by decide +kernel
theorem dX6_remembered_18 : decode cX6_remembered 18 = .ok (.iadd, 1) := by decide +kernel
theorem dX6_remembered_19 : decode cX6_remembered 19 = .ok (.istore_n 1, 1) := by decide +kernel
theorem dX6_remembered_20 : decode cX6_remembered 20 = .ok (.iinc 2 1, 3) := by decide +kernel
theorem dX6_remembered_23 : decode cX6_remembered 23 = .ok (.goto (-19), 3) := by decide +kernel
theorem dX6_remembered_26 : decode cX6_remembered 26 = .ok (.iload_n 1, 1) := by decide +kernel
theorem dX6_remembered_27 : decode cX6_remembered 27 = .ok (.ireturn, 1) := by decide +kernel
theorem dX6_drops_0 : decode cX6_drops 0 = .ok (.bipush 6, 2) := by decide +kernel
theorem dX6_drops_2 : decode cX6_drops 2 = .ok (.istore_n 2, 1) := by decide +kernel
theorem dX6_drops_3 : decode cX6_drops 3 = .ok (.iload_n 2, 1) := by decide +kernel
theorem dX6_drops_4 : decode cX6_drops 4 = .ok (.bipush 15, 2) := by decide +kernel
theorem dX6_drops_6 : decode cX6_drops 6 = .ok (.if_icmp .ge 16, 3) := by decide +kernel
theorem dX6_drops_9 : decode cX6_drops 9 = .ok (.aload_n 0, 1) := by decide +kernel
theorem dX6_drops_10 : decode cX6_drops 10 = .ok (.iload_n 1, 1) := by decide +kernel
theorem dX6_drops_11 : decode cX6_drops 11 = .ok (.iload_n 2, 1) := by decide +kernel
theorem dX6_drops_12 : decode cX6_drops 12 = .ok (.iconst 0, 1) := by decide +kernel
theorem dX6_drops_13 : decode cX6_drops 13 = .ok (.invokevirtual 63, 3) := by decide +kernel
theorem dX6_drops_16 : decode cX6_drops 16 = .ok (.iinc 2 1, 3) := by decide +kernel
theorem dX6_drops_19 : decode cX6_drops 19 = .ok (.goto (-16), 3) := by decide +kernel
theorem dX6_drops_22 : decode cX6_drops 22 = .ok (.aload_n 0, 1) := by decide +kernel
theorem dX6_drops_23 : decode cX6_drops 23 = .ok (.getfield 7, 3) := by decide +kernel
theorem dX6_drops_26 : decode cX6_drops 26 = .ok (.iconst 4, 1) := by decide +kernel
theorem dX6_drops_27 : decode cX6_drops 27 = .ok (.dup2, 1) := by decide +kernel
theorem dX6_drops_28 : decode cX6_drops 28 = .ok (.iaload, 1) := by decide +kernel
theorem dX6_drops_29 : decode cX6_drops 29 = .ok (.iconst 1, 1) := by decide +kernel
theorem dX6_drops_30 : decode cX6_drops 30 = .ok (.iadd, 1) := by decide +kernel
theorem dX6_drops_31 : decode cX6_drops 31 = .ok (.iastore, 1) := by decide +kernel
theorem dX6_drops_32 : decode cX6_drops 32 = .ok (.return_, 1) := by decide +kernel
theorem dX6_trims_0 : decode cX6_trims 0 = .ok (.aload_n 0, 1) := by decide +kernel
theorem dX6_trims_1 : decode cX6_trims 1 = .ok (.invokevirtual 133, 3) := by decide +kernel
theorem dX6_trims_4 : decode cX6_trims 4 = .ok (.aload_n 0, 1) := by decide +kernel
theorem dX6_trims_5 : decode cX6_trims 5 = .ok (.getfield 7, 3) := by decide +kernel
theorem dX6_trims_8 : decode cX6_trims 8 = .ok (.iconst 5, 1) := by decide +kernel
theorem dX6_trims_9 : decode cX6_trims 9 = .ok (.iaload, 1) := by decide +kernel
theorem dX6_trims_10 : decode cX6_trims 10 = .ok (.if_icmp .le 65, 3) := by decide +kernel
theorem dX6_trims_13 : decode cX6_trims 13 = .ok (.iconst (-1), 1) := by decide +kernel
theorem dX6_trims_14 : decode cX6_trims 14 = .ok (.istore_n 1, 1) := by decide +kernel
theorem dX6_trims_15 : decode cX6_trims 15 = .ok (.iconst 0, 1) := by decide +kernel
theorem dX6_trims_16 : decode cX6_trims 16 = .ok (.istore_n 2, 1) := by decide +kernel
theorem dX6_trims_17 : decode cX6_trims 17 = .ok (.iload_n 2, 1) := by decide +kernel
theorem dX6_trims_18 : decode cX6_trims 18 = .ok (.bipush 10, 2) := by decide +kernel
theorem dX6_trims_20 : decode cX6_trims 20 = .ok (.if_icmp .ge 47, 3) := by decide +kernel
theorem dX6_trims_23 : decode cX6_trims 23 = .ok (.aload_n 0, 1) := by decide +kernel
theorem dX6_trims_24 : decode cX6_trims 24 = .ok (.iload_n 2, 1) := by decide +kernel
theorem dX6_trims_25 : decode cX6_trims 25 = .ok (.bipush 6, 2) := by decide +kernel
theorem dX6_trims_27 : decode cX6_trims 27 = .ok (.invokevirtual 55, 3) := by decide +kernel
theorem dX6_trims_30 : decode cX6_trims 30 = .ok (.iconst 1, 1) := by decide +kernel
theorem dX6_trims_31 : decode cX6_trims 31 = .ok (.if_icmp .ne 28, 3) := by decide +kernel
theorem dX6_trims_34 : decode cX6_trims 34 = .ok (.iload_n 1, 1) := by decide +kernel
theorem dX6_trims_35 : decode cX6_trims 35 = .ok (.ifCond .lt 20, 3) := by decide +kernel
theorem dX6_trims_38 : decode cX6_trims 38 = .ok (.aload_n 0, 1) := by decide +kernel
theorem dX6_trims_39 : decode cX6_trims 39 = .ok (.iload_n 2, 1) := by decide +kernel
theorem dX6_trims_40 : decode cX6_trims 40 = .ok (.bipush 13, 2) := by decide +kernel
theorem dX6_trims_42 : decode cX6_trims 42 = .ok (.invokevirtual 55, 3) := by decide +kernel
theorem dX6_trims_45 : decode cX6_trims 45 = .ok (.aload_n 0, 1) := by decide +kernel
theorem dX6_trims_46 : decode cX6_trims 46 = .ok (.iload_n 1, 1) := by decide +kernel
theorem dX6_trims_47 : decode cX6_trims 47 = .ok (.bipush 13, 2) := by decide +kernel
theorem dX6_trims_49 : decode cX6_trims 49 = .ok (.invokevirtual 55, 3) := by decide +kernel
theorem dX6_trims_52 : decode cX6_trims 52 = .ok (.if_icmp .ge 7, 3) := by decide +kernel
theorem dX6_trims_55 : decode cX6_trims 55 = .ok (.iload_n 2, 1) := by decide +kernel
theorem dX6_trims_56 : decode cX6_trims 56 = .ok (.goto 4, 3) := by decide +kernel
theorem dX6_trims_59 : decode cX6_trims 59 = .ok (.iload_n 1, 1) := by decide +kernel
theorem dX6_trims_60 : decode cX6_trims 60 = .ok (.istore_n 1, 1) := by decide +kernel
theorem dX6_trims_61 : decode cX6_trims 61 = .ok (.iinc 2 1, 3) := by decide +kernel
theorem dX6_trims_64 : decode cX6_trims 64 = .ok (.goto (-47), 3) := by decide +kernel
theorem dX6_trims_67 : decode cX6_trims 67 = .ok (.aload_n 0, 1) := by decide +kernel
theorem dX6_trims_68 : decode cX6_trims 68 = .ok (.iload_n 1, 1) := by decide +kernel
theorem dX6_trims_69 : decode cX6_trims 69 = .ok (.invokevirtual 137, 3) := by decide +kernel
theorem dX6_trims_72 : decode cX6_trims 72 = .ok (.goto (-72), 3) := by decide +kernel
theorem dX6_trims_75 : decode cX6_trims 75 = .ok (.return_, 1) := by decide +kernel
theorem dX6_ask_0 : decode cX6_ask 0 = .ok (.iload_n 1, 1) := by decide +kernel
theorem dX6_ask_1 : decode cX6_ask 1 = .ok (.invokestatic 69, 3) := by decide +kernel
theorem dX6_ask_4 : decode cX6_ask 4 = .ok (.ifCond .ne 6, 3) := by decide +kernel
theorem dX6_ask_7 : decode cX6_ask 7 = .ok (.ldc 50, 2) := by decide +kernel
theorem dX6_ask_9 : decode cX6_ask 9 = .ok (.ireturn, 1) := by decide +kernel
theorem dX6_ask_10 : decode cX6_ask 10 = .ok (.aload_n 0, 1) := by decide +kernel
theorem dX6_ask_11 : decode cX6_ask 11 = .ok (.invokevirtual 76, 3) := by decide +kernel
theorem dX6_ask_14 : decode cX6_ask 14 = .ok (.aload_n 0, 1) := by decide +kernel
theorem dX6_ask_15 : decode cX6_ask 15 = .ok (.iload_n 1, 1) := by decide +kernel
theorem dX6_ask_16 : decode cX6_ask 16 = .ok (.invokevirtual 140, 3) := by decide +kernel
theorem dX6_ask_19 : decode cX6_ask 19 = .ok (.ifCond .ne 10, 3) := by decide +kernel
theorem dX6_ask_22 : decode cX6_ask 22 = .ok (.aload_n 0, 1) := by decide +kernel
theorem dX6_ask_23 : decode cX6_ask 23 = .ok (.invokevirtual 143, 3) := by decide +kernel
theorem dX6_ask_26 : decode cX6_ask 26 = .ok (.ldc 146, 2) := by decide +kernel
theorem dX6_ask_28 : decode cX6_ask 28 = .ok (.ireturn, 1) := by decide +kernel
theorem dX6_ask_29 : decode cX6_ask 29 = .ok (.aload_n 0, 1) := by decide +kernel
theorem dX6_ask_30 : decode cX6_ask 30 = .ok (.iload_n 1, 1) := by decide +kernel
theorem dX6_ask_31 : decode cX6_ask 31 = .ok (.invokevirtual 117, 3) := by decide +kernel
theorem dX6_ask_34 : decode cX6_ask 34 = .ok (.istore_n 2, 1) := by decide +kernel
theorem dX6_ask_35 : decode cX6_ask 35 = .ok (.aload_n 0, 1) := by decide +kernel
theorem dX6_ask_36 : decode cX6_ask 36 = .ok (.invokevirtual 147, 3) := by decide +kernel
theorem dX6_ask_39 : decode cX6_ask 39 = .ok (.aload_n 0, 1) := by decide +kernel
theorem dX6_ask_40 : decode cX6_ask 40 = .ok (.iload_n 2, 1) := by decide +kernel
theorem dX6_ask_41 : decode cX6_ask 41 = .ok (.invokevirtual 83, 3) := by decide +kernel
theorem dX6_ask_44 : decode cX6_ask 44 = .ok (.ireturn, 1) := by decide +kernel
theorem dX6_cost_0 : decode cX6_cost 0 = .ok (.iload_n 1, 1) := by decide +kernel
theorem dX6_cost_1 : decode cX6_cost 1 = .ok (.invokestatic 69, 3) := by decide +kernel
theorem dX6_cost_4 : decode cX6_cost 4 = .ok (.ifCond .eq 12, 3) := by decide +kernel
theorem dX6_cost_7 : decode cX6_cost 7 = .ok (.iload_n 2, 1) := by decide +kernel
theorem dX6_cost_8 : decode cX6_cost 8 = .ok (.iconst 0, 1) := by decide +kernel
theorem dX6_cost_9 : decode cX6_cost 9 = .ok (.iconst 2, 1) := by decide +kernel
theorem dX6_cost_10 : decode cX6_cost 10 = .ok (.invokestatic 46, 3) := by decide +kernel
theorem dX6_cost_13 : decode cX6_cost 13 = .ok (.ifCond .ne 6, 3) := by decide +kernel
theorem dX6_cost_16 : decode cX6_cost 16 = .ok (.ldc 50, 2) := by decide +kernel
theorem dX6_cost_18 : decode cX6_cost 18 = .ok (.ireturn, 1) := by decide +kernel
theorem dX6_cost_19 : decode cX6_cost 19 = .ok (.aload_n 0, 1) := by decide +kernel
theorem dX6_cost_20 : decode cX6_cost 20 = .ok (.invokevirtual 76, 3) := by decide +kernel
theorem dX6_cost_23 : decode cX6_cost 23 = .ok (.aload_n 0, 1) := by decide +kernel
theorem dX6_cost_24 : decode cX6_cost 24 = .ok (.iload_n 1, 1) := by decide +kernel
theorem dX6_cost_25 : decode cX6_cost 25 = .ok (.invokevirtual 140, 3) := by decide +kernel
theorem dX6_cost_28 : decode cX6_cost 28 = .ok (.istore_n 3, 1) := by decide +kernel
theorem dX6_cost_29 : decode cX6_cost 29 = .ok (.aload_n 0, 1) := by decide +kernel
theorem dX6_cost_30 : decode cX6_cost 30 = .ok (.getfield 7, 3) := by decide +kernel
theorem dX6_cost_33 : decode cX6_cost 33 = .ok (.iconst 1, 1) := by decide +kernel
theorem dX6_cost_34 : decode cX6_cost 34 = .ok (.iload_n 2, 1) := by decide +kernel
theorem dX6_cost_35 : decode cX6_cost 35 = .ok (.iadd, 1) := by decide +kernel
theorem dX6_cost_36 : decode cX6_cost 36 = .ok (.iaload, 1) := by decide +kernel
theorem dX6_cost_37 : decode cX6_cost 37 = .ok (.aload_n 0, 1) := by decide +kernel
theorem dX6_cost_38 : decode cX6_cost 38 = .ok (.getfield 13, 3) := by decide +kernel
theorem dX6_cost_41 : decode cX6_cost 41 = .ok (.iconst 1, 1) := by decide +kernel
theorem dX6_cost_42 : decode cX6_cost 42 = .ok (.iload_n 2, 1) := by decide +kernel
theorem dX6_cost_43 : decode cX6_cost 43 = .ok (.iadd, 1) := by decide +kernel
theorem dX6_cost_44 : decode cX6_cost 44 = .ok (.iaload, 1) := by decide +kernel
theorem dX6_cost_45 : decode cX6_cost 45 = .ok (.isub, 1) := by decide +kernel
theorem dX6_cost_46 : decode cX6_cost 46 = .ok (.istore 4, 2) := by decide +kernel
theorem dX6_cost_48 : decode cX6_cost 48 = .ok (.aload_n 0, 1) := by decide +kernel
theorem dX6_cost_49 : decode cX6_cost 49 = .ok (.invokevirtual 143, 3) := by decide +kernel
theorem dX6_cost_52 : decode cX6_cost 52 = .ok (.iload_n 3, 1) := by decide +kernel
theorem dX6_cost_53 : decode cX6_cost 53 = .ok (.ifCond .eq 8, 3) := by decide +kernel
theorem dX6_cost_56 : decode cX6_cost 56 = .ok (.iload 4, 2) := by decide +kernel
theorem dX6_cost_58 : decode cX6_cost 58 = .ok (.goto 5, 3) := by decide +kernel
theorem dX6_cost_61 : decode cX6_cost 61 = .ok (.ldc 146, 2) := by decide +kernel
theorem dX6_cost_63 : decode cX6_cost 63 = .ok (.ireturn, 1) := by decide +kernel
theorem dX6_forget_0 : decode cX6_forget 0 = .ok (.iload_n 1, 1) := by decide +kernel
theorem dX6_forget_1 : decode cX6_forget 1 = .ok (.invokestatic 69, 3) := by decide +kernel
theorem dX6_forget_4 : decode cX6_forget 4 = .ok (.ifCond .ne 6, 3) := by decide +kernel
theorem dX6_forget_7 : decode cX6_forget 7 = .ok (.ldc 50, 2) := by decide +kernel
theorem dX6_forget_9 : decode cX6_forget 9 = .ok (.ireturn, 1) := by decide +kernel
theorem dX6_forget_10 : decode cX6_forget 10 = .ok (.aload_n 0, 1) := by decide +kernel
theorem dX6_forget_11 : decode cX6_forget 11 = .ok (.iload_n 1, 1) := by decide +kernel
theorem dX6_forget_12 : decode cX6_forget 12 = .ok (.bipush 6, 2) := by decide +kernel
theorem dX6_forget_14 : decode cX6_forget 14 = .ok (.invokevirtual 55, 3) := by decide +kernel
theorem dX6_forget_17 : decode cX6_forget 17 = .ok (.ifCond .ne 6, 3) := by decide +kernel
theorem dX6_forget_20 : decode cX6_forget 20 = .ok (.ldc 146, 2) := by decide +kernel
theorem dX6_forget_22 : decode cX6_forget 22 = .ok (.ireturn, 1) := by decide +kernel
theorem dX6_forget_23 : decode cX6_forget 23 = .ok (.aload_n 0, 1) := by decide +kernel
theorem dX6_forget_24 : decode cX6_forget 24 = .ok (.invokevirtual 76, 3) := by decide +kernel
theorem dX6_forget_27 : decode cX6_forget 27 = .ok (.aload_n 0, 1) := by decide +kernel
theorem dX6_forget_28 : decode cX6_forget 28 = .ok (.iload_n 1, 1) := by decide +kernel
theorem dX6_forget_29 : decode cX6_forget 29 = .ok (.invokevirtual 137, 3) := by decide +kernel
theorem dX6_forget_32 : decode cX6_forget 32 = .ok (.aload_n 0, 1) := by decide +kernel
theorem dX6_forget_33 : decode cX6_forget 33 = .ok (.aload_n 0, 1) := by decide +kernel
theorem dX6_forget_34 : decode cX6_forget 34 = .ok (.invokevirtual 133, 3) := by decide +kernel
theorem dX6_forget_37 : decode cX6_forget 37 = .ok (.invokevirtual 83, 3) := by decide +kernel
theorem dX6_forget_40 : decode cX6_forget 40 = .ok (.ireturn, 1) := by decide +kernel
theorem dX6_bound_0 : decode cX6_bound 0 = .ok (.iload_n 1, 1) := by decide +kernel
theorem dX6_bound_1 : decode cX6_bound 1 = .ok (.iconst 0, 1) := by decide +kernel
theorem dX6_bound_2 : decode cX6_bound 2 = .ok (.bipush 10, 2) := by decide +kernel
theorem dX6_bound_4 : decode cX6_bound 4 = .ok (.invokestatic 46, 3) := by decide +kernel
theorem dX6_bound_7 : decode cX6_bound 7 = .ok (.ifCond .ne 6, 3) := by decide +kernel
theorem dX6_bound_10 : decode cX6_bound 10 = .ok (.ldc 50, 2) := by decide +kernel
theorem dX6_bound_12 : decode cX6_bound 12 = .ok (.ireturn, 1) := by decide +kernel
theorem dX6_bound_13 : decode cX6_bound 13 = .ok (.aload_n 0, 1) := by decide +kernel
theorem dX6_bound_14 : decode cX6_bound 14 = .ok (.invokevirtual 76, 3) := by decide +kernel
theorem dX6_bound_17 : decode cX6_bound 17 = .ok (.aload_n 0, 1) := by decide +kernel
theorem dX6_bound_18 : decode cX6_bound 18 = .ok (.getfield 7, 3) := by decide +kernel
theorem dX6_bound_21 : decode cX6_bound 21 = .ok (.iconst 5, 1) := by decide +kernel
theorem dX6_bound_22 : decode cX6_bound 22 = .ok (.iaload, 1) := by decide +kernel
theorem dX6_bound_23 : decode cX6_bound 23 = .ok (.istore_n 2, 1) := by decide +kernel
theorem dX6_bound_24 : decode cX6_bound 24 = .ok (.aload_n 0, 1) := by decide +kernel
theorem dX6_bound_25 : decode cX6_bound 25 = .ok (.getfield 7, 3) := by decide +kernel
theorem dX6_bound_28 : decode cX6_bound 28 = .ok (.iconst 5, 1) := by decide +kernel
theorem dX6_bound_29 : decode cX6_bound 29 = .ok (.iload_n 1, 1) := by decide +kernel
theorem dX6_bound_30 : decode cX6_bound 30 = .ok (.iastore, 1) := by decide +kernel
theorem dX6_bound_31 : decode cX6_bound 31 = .ok (.aload_n 0, 1) := by decide +kernel
theorem dX6_bound_32 : decode cX6_bound 32 = .ok (.iload_n 2, 1) := by decide +kernel
theorem dX6_bound_33 : decode cX6_bound 33 = .ok (.invokevirtual 83, 3) := by decide +kernel
theorem dX6_bound_36 : decode cX6_bound 36 = .ok (.ireturn, 1) := by decide +kernel
theorem dX6_placeOf_0 : decode cX6_placeOf 0 = .ok (.iconst 0, 1) := by decide +kernel
theorem dX6_placeOf_1 : decode cX6_placeOf 1 = .ok (.istore_n 2, 1) := by decide +kernel
theorem dX6_placeOf_2 : decode cX6_placeOf 2 = .ok (.iconst 0, 1) := by decide +kernel
theorem dX6_placeOf_3 : decode cX6_placeOf 3 = .ok (.istore_n 3, 1) := by decide +kernel
theorem dX6_placeOf_4 : decode cX6_placeOf 4 = .ok (.iload_n 3, 1) := by decide +kernel
theorem dX6_placeOf_5 : decode cX6_placeOf 5 = .ok (.bipush 10, 2) := by decide +kernel
theorem dX6_placeOf_7 : decode cX6_placeOf 7 = .ok (.if_icmp .ge 45, 3) := by decide +kernel
theorem dX6_placeOf_10 : decode cX6_placeOf 10 = .ok (.iload_n 2, 1) := by decide +kernel
theorem dX6_placeOf_11 : decode cX6_placeOf 11 = .ok (.aload_n 0, 1) := by decide +kernel
theorem dX6_placeOf_12 : decode cX6_placeOf 12 = .ok (.iload_n 3, 1) := by decide +kernel
theorem dX6_placeOf_13 : decode cX6_placeOf 13 = .ok (.bipush 6, 2) := by decide +kernel
theorem dX6_placeOf_15 : decode cX6_placeOf 15 = .ok (.invokevirtual 55, 3) := by decide +kernel
theorem dX6_placeOf_18 : decode cX6_placeOf 18 = .ok (.iconst 1, 1) := by decide +kernel
theorem dX6_placeOf_19 : decode cX6_placeOf 19 = .ok (.if_icmp .ne 24, 3) := by decide +kernel
theorem dX6_placeOf_22 : decode cX6_placeOf 22 = .ok (.aload_n 0, 1) := by decide +kernel
theorem dX6_placeOf_23 : decode cX6_placeOf 23 = .ok (.iload_n 3, 1) := by decide +kernel
theorem dX6_placeOf_24 : decode cX6_placeOf 24 = .ok (.bipush 13, 2) := by decide +kernel
theorem dX6_placeOf_26 : decode cX6_placeOf 26 = .ok (.invokevirtual 55, 3) := by decide +kernel
theorem dX6_placeOf_29 : decode cX6_placeOf 29 = .ok (.aload_n 0, 1) := by decide +kernel
theorem dX6_placeOf_30 : decode cX6_placeOf 30 = .ok (.iload_n 1, 1) := by decide +kernel
theorem dX6_placeOf_31 : decode cX6_placeOf 31 = .ok (.bipush 13, 2) := by decide +kernel
theorem dX6_placeOf_33 : decode cX6_placeOf 33 = .ok (.invokevirtual 55, 3) := by decide +kernel
theorem dX6_placeOf_36 : decode cX6_placeOf 36 = .ok (.if_icmp .ge 7, 3) := by decide +kernel
theorem dX6_placeOf_39 : decode cX6_placeOf 39 = .ok (.iconst 1, 1) := by decide +kernel
theorem dX6_placeOf_40 : decode cX6_placeOf 40 = .ok (.goto 4, 3) := by decide +kernel
theorem dX6_placeOf_43 : decode cX6_placeOf 43 = .ok (.iconst 0, 1) := by decide +kernel
theorem dX6_placeOf_44 : decode cX6_placeOf 44 = .ok (.iadd, 1) := by decide +kernel
theorem dX6_placeOf_45 : decode cX6_placeOf 45 = .ok (.istore_n 2, 1) := by decide +kernel
theorem dX6_placeOf_46 : decode cX6_placeOf 46 = .ok (.iinc 3 1, 3) := by decide +kernel
theorem dX6_placeOf_49 : decode cX6_placeOf 49 = .ok (.goto (-45), 3) := by decide +kernel
theorem dX6_placeOf_52 : decode cX6_placeOf 52 = .ok (.iload_n 2, 1) := by decide +kernel
theorem dX6_placeOf_53 : decode cX6_placeOf 53 = .ok (.ireturn, 1) := by decide +kernel
theorem dX6_rememberedOf_0 : decode cX6_rememberedOf 0 = .ok (.iload_n 1, 1) := by decide +kernel
theorem dX6_rememberedOf_1 : decode cX6_rememberedOf 1 = .ok (.invokestatic 69, 3) := by decide +kernel
theorem dX6_rememberedOf_4 : decode cX6_rememberedOf 4 = .ok (.ifCond .eq 13, 3) := by decide +kernel
theorem dX6_rememberedOf_7 : decode cX6_rememberedOf 7 = .ok (.iload_n 2, 1) := by decide +kernel
theorem dX6_rememberedOf_8 : decode cX6_rememberedOf 8 = .ok (.iconst 0, 1) := by decide +kernel
theorem dX6_rememberedOf_9 : decode cX6_rememberedOf 9 = .ok (.bipush 6, 2) := by decide +kernel
theorem dX6_rememberedOf_11 : decode cX6_rememberedOf 11 = .ok (.invokestatic 46, 3) := by decide +kernel
theorem dX6_rememberedOf_14 : decode cX6_rememberedOf 14 = .ok (.ifCond .ne 6, 3) := by decide +kernel
theorem dX6_rememberedOf_17 : decode cX6_rememberedOf 17 = .ok (.ldc 50, 2) := by decide +kernel
theorem dX6_rememberedOf_19 : decode cX6_rememberedOf 19 = .ok (.ireturn, 1) := by decide +kernel
theorem dX6_rememberedOf_20 : decode cX6_rememberedOf 20 = .ok (.aload_n 0, 1) := by decide +kernel
theorem dX6_rememberedOf_21 : decode cX6_rememberedOf 21 = .ok (.iload_n 1, 1) := by decide +kernel
theorem dX6_rememberedOf_22 : decode cX6_rememberedOf 22 = .ok (.bipush 6, 2) := by decide +kernel
theorem dX6_rememberedOf_24 : decode cX6_rememberedOf 24 = .ok (.invokevirtual 55, 3) := by decide +kernel
theorem dX6_rememberedOf_27 : decode cX6_rememberedOf 27 = .ok (.ifCond .eq 25, 3) := by decide +kernel
theorem dX6_rememberedOf_30 : decode cX6_rememberedOf 30 = .ok (.iload_n 2, 1) := by decide +kernel
theorem dX6_rememberedOf_31 : decode cX6_rememberedOf 31 = .ok (.iconst 4, 1) := by decide +kernel
theorem dX6_rememberedOf_32 : decode cX6_rememberedOf 32 = .ok (.iconst 5, 1) := by decide +kernel
theorem dX6_rememberedOf_33 : decode cX6_rememberedOf 33 = .ok (.invokestatic 46, 3) := by decide +kernel
theorem dX6_rememberedOf_36 : decode cX6_rememberedOf 36 = .ok (.ifCond .eq 19, 3) := by decide +kernel
theorem dX6_rememberedOf_39 : decode cX6_rememberedOf 39 = .ok (.iload_n 2, 1) := by decide +kernel
theorem dX6_rememberedOf_40 : decode cX6_rememberedOf 40 = .ok (.iconst 4, 1) := by decide +kernel
theorem dX6_rememberedOf_41 : decode cX6_rememberedOf 41 = .ok (.isub, 1) := by decide +kernel
theorem dX6_rememberedOf_42 : decode cX6_rememberedOf 42 = .ok (.aload_n 0, 1) := by decide +kernel
theorem dX6_rememberedOf_43 : decode cX6_rememberedOf 43 = .ok (.iload_n 1, 1) := by decide +kernel
theorem dX6_rememberedOf_44 : decode cX6_rememberedOf 44 = .ok (.bipush 10, 2) := by decide +kernel
theorem dX6_rememberedOf_46 : decode cX6_rememberedOf 46 = .ok (.invokevirtual 55, 3) := by decide +kernel
theorem dX6_rememberedOf_49 : decode cX6_rememberedOf 49 = .ok (.if_icmp .lt 6, 3) := by decide +kernel
theorem dX6_rememberedOf_52 : decode cX6_rememberedOf 52 = .ok (.ldc 87, 2) := by decide +kernel
theorem dX6_rememberedOf_54 : decode cX6_rememberedOf 54 = .ok (.ireturn, 1) := by decide +kernel
theorem dX6_rememberedOf_55 : decode cX6_rememberedOf 55 = .ok (.iload_n 2, 1) := by decide +kernel
theorem dX6_rememberedOf_56 : decode cX6_rememberedOf 56 = .ok (.bipush 6, 2) := by decide +kernel
theorem dX6_rememberedOf_58 : decode cX6_rememberedOf 58 = .ok (.if_icmp .ne 11, 3) := by decide +kernel
theorem dX6_rememberedOf_61 : decode cX6_rememberedOf 61 = .ok (.aload_n 0, 1) := by decide +kernel
theorem dX6_rememberedOf_62 : decode cX6_rememberedOf 62 = .ok (.iload_n 1, 1) := by decide +kernel
theorem dX6_rememberedOf_63 : decode cX6_rememberedOf 63 = .ok (.invokevirtual 150, 3) := by decide +kernel
theorem dX6_rememberedOf_66 : decode cX6_rememberedOf 66 = .ok (.goto 12, 3) := by decide +kernel
theorem dX6_rememberedOf_69 : decode cX6_rememberedOf 69 = .ok (.aload_n 0, 1) := by decide +kernel
theorem dX6_rememberedOf_70 : decode cX6_rememberedOf 70 = .ok (.iload_n 1, 1) := by decide +kernel
theorem dX6_rememberedOf_71 : decode cX6_rememberedOf 71 = .ok (.bipush 7, 2) := by decide +kernel
theorem dX6_rememberedOf_73 : decode cX6_rememberedOf 73 = .ok (.iload_n 2, 1) := by decide +kernel
theorem dX6_rememberedOf_74 : decode cX6_rememberedOf 74 = .ok (.iadd, 1) := by decide +kernel
theorem dX6_rememberedOf_75 : decode cX6_rememberedOf 75 = .ok (.invokevirtual 55, 3) := by decide +kernel
theorem dX6_rememberedOf_78 : decode cX6_rememberedOf 78 = .ok (.ireturn, 1) := by decide +kernel
theorem dX6_wantedBy_0 : decode cX6_wantedBy 0 = .ok (.aload_n 0, 1) := by decide +kernel
theorem dX6_wantedBy_1 : decode cX6_wantedBy 1 = .ok (.iload_n 1, 1) := by decide +kernel
theorem dX6_wantedBy_2 : decode cX6_wantedBy 2 = .ok (.iconst 2, 1) := by decide +kernel
theorem dX6_wantedBy_3 : decode cX6_wantedBy 3 = .ok (.invokevirtual 55, 3) := by decide +kernel
theorem dX6_wantedBy_6 : decode cX6_wantedBy 6 = .ok (.istore_n 2, 1) := by decide +kernel
theorem dX6_wantedBy_7 : decode cX6_wantedBy 7 = .ok (.aload_n 0, 1) := by decide +kernel
theorem dX6_wantedBy_8 : decode cX6_wantedBy 8 = .ok (.getfield 34, 3) := by decide +kernel
theorem dX6_wantedBy_11 : decode cX6_wantedBy 11 = .ok (.iload_n 2, 1) := by decide +kernel
theorem dX6_wantedBy_12 : decode cX6_wantedBy 12 = .ok (.iaload, 1) := by decide +kernel
theorem dX6_wantedBy_13 : decode cX6_wantedBy 13 = .ok (.iconst 2, 1) := by decide +kernel
theorem dX6_wantedBy_14 : decode cX6_wantedBy 14 = .ok (.if_icmp .ge 5, 3) := by decide +kernel
theorem dX6_wantedBy_17 : decode cX6_wantedBy 17 = .ok (.iload_n 2, 1) := by decide +kernel
theorem dX6_wantedBy_18 : decode cX6_wantedBy 18 = .ok (.ireturn, 1) := by decide +kernel
theorem dX6_wantedBy_19 : decode cX6_wantedBy 19 = .ok (.aload_n 0, 1) := by decide +kernel
theorem dX6_wantedBy_20 : decode cX6_wantedBy 20 = .ok (.iload_n 1, 1) := by decide +kernel
theorem dX6_wantedBy_21 : decode cX6_wantedBy 21 = .ok (.iconst 0, 1) := by decide +kernel
theorem dX6_wantedBy_22 : decode cX6_wantedBy 22 = .ok (.invokevirtual 55, 3) := by decide +kernel
theorem dX6_wantedBy_25 : decode cX6_wantedBy 25 = .ok (.iconst 5, 1) := by decide +kernel
theorem dX6_wantedBy_26 : decode cX6_wantedBy 26 = .ok (.if_icmp .ne 7, 3) := by decide +kernel
theorem dX6_wantedBy_29 : decode cX6_wantedBy 29 = .ok (.iconst 1, 1) := by decide +kernel
theorem dX6_wantedBy_30 : decode cX6_wantedBy 30 = .ok (.goto 4, 3) := by decide +kernel
theorem dX6_wantedBy_33 : decode cX6_wantedBy 33 = .ok (.iconst 0, 1) := by decide +kernel
theorem dX6_wantedBy_34 : decode cX6_wantedBy 34 = .ok (.istore_n 3, 1) := by decide +kernel
theorem dX6_wantedBy_35 : decode cX6_wantedBy 35 = .ok (.iload_n 3, 1) := by decide +kernel
theorem dX6_wantedBy_36 : decode cX6_wantedBy 36 = .ok (.ifCond .eq 16, 3) := by decide +kernel
theorem dX6_wantedBy_39 : decode cX6_wantedBy 39 = .ok (.aload_n 0, 1) := by decide +kernel
theorem dX6_wantedBy_40 : decode cX6_wantedBy 40 = .ok (.getfield 37, 3) := by decide +kernel
theorem dX6_wantedBy_43 : decode cX6_wantedBy 43 = .ok (.iload_n 2, 1) := by decide +kernel
theorem dX6_wantedBy_44 : decode cX6_wantedBy 44 = .ok (.iaload, 1) := by decide +kernel
theorem dX6_wantedBy_45 : decode cX6_wantedBy 45 = .ok (.ldc 106, 2) := by decide +kernel
theorem dX6_wantedBy_47 : decode cX6_wantedBy 47 = .ok (.if_icmp .ne 5, 3) := by decide +kernel
theorem dX6_wantedBy_50 : decode cX6_wantedBy 50 = .ok (.iconst (-1), 1) := by decide +kernel
theorem dX6_wantedBy_51 : decode cX6_wantedBy 51 = .ok (.ireturn, 1) := by decide +kernel
theorem dX6_wantedBy_52 : decode cX6_wantedBy 52 = .ok (.iload_n 3, 1) := by decide +kernel
theorem dX6_wantedBy_53 : decode cX6_wantedBy 53 = .ok (.ifCond .eq 21, 3) := by decide +kernel
theorem dX6_wantedBy_56 : decode cX6_wantedBy 56 = .ok (.aload_n 0, 1) := by decide +kernel
theorem dX6_wantedBy_57 : decode cX6_wantedBy 57 = .ok (.getfield 37, 3) := by decide +kernel
theorem dX6_wantedBy_60 : decode cX6_wantedBy 60 = .ok (.iload_n 2, 1) := by decide +kernel
theorem dX6_wantedBy_61 : decode cX6_wantedBy 61 = .ok (.iaload, 1) := by decide +kernel
theorem dX6_wantedBy_62 : decode cX6_wantedBy 62 = .ok (.ifCond .gt 12, 3) := by decide +kernel
theorem dX6_wantedBy_65 : decode cX6_wantedBy 65 = .ok (.aload_n 0, 1) := by decide +kernel
theorem dX6_wantedBy_66 : decode cX6_wantedBy 66 = .ok (.iload_n 1, 1) := by decide +kernel
theorem dX6_wantedBy_67 : decode cX6_wantedBy 67 = .ok (.iconst 4, 1) := by decide +kernel
theorem dX6_wantedBy_68 : decode cX6_wantedBy 68 = .ok (.invokevirtual 55, 3) := by decide +kernel
theorem dX6_wantedBy_71 : decode cX6_wantedBy 71 = .ok (.goto 9, 3) := by decide +kernel
theorem dX6_wantedBy_74 : decode cX6_wantedBy 74 = .ok (.aload_n 0, 1) := by decide +kernel
theorem dX6_wantedBy_75 : decode cX6_wantedBy 75 = .ok (.iload_n 1, 1) := by decide +kernel
theorem dX6_wantedBy_76 : decode cX6_wantedBy 76 = .ok (.iconst 3, 1) := by decide +kernel
theorem dX6_wantedBy_77 : decode cX6_wantedBy 77 = .ok (.invokevirtual 55, 3) := by decide +kernel
theorem dX6_wantedBy_80 : decode cX6_wantedBy 80 = .ok (.istore 4, 2) := by decide +kernel
theorem dX6_wantedBy_82 : decode cX6_wantedBy 82 = .ok (.aload_n 0, 1) := by decide +kernel
theorem dX6_wantedBy_83 : decode cX6_wantedBy 83 = .ok (.getfield 34, 3) := by decide +kernel
theorem dX6_wantedBy_86 : decode cX6_wantedBy 86 = .ok (.iload 4, 2) := by decide +kernel
theorem dX6_wantedBy_88 : decode cX6_wantedBy 88 = .ok (.iaload, 1) := by decide +kernel
theorem dX6_wantedBy_89 : decode cX6_wantedBy 89 = .ok (.iconst 2, 1) := by decide +kernel
theorem dX6_wantedBy_90 : decode cX6_wantedBy 90 = .ok (.if_icmp .ge 8, 3) := by decide +kernel
theorem dX6_wantedBy_93 : decode cX6_wantedBy 93 = .ok (.iload 4, 2) := by decide +kernel
theorem dX6_wantedBy_95 : decode cX6_wantedBy 95 = .ok (.goto 4, 3) := by decide +kernel
theorem dX6_wantedBy_98 : decode cX6_wantedBy 98 = .ok (.iconst (-1), 1) := by decide +kernel
theorem dX6_wantedBy_99 : decode cX6_wantedBy 99 = .ok (.ireturn, 1) := by decide +kernel
theorem dX6_settles_0 : decode cX6_settles 0 = .ok (.aload_n 0, 1) := by decide +kernel
theorem dX6_settles_1 : decode cX6_settles 1 = .ok (.getfield 34, 3) := by decide +kernel
theorem dX6_settles_4 : decode cX6_settles 4 = .ok (.iload_n 1, 1) := by decide +kernel
theorem dX6_settles_5 : decode cX6_settles 5 = .ok (.iconst 2, 1) := by decide +kernel
theorem dX6_settles_6 : decode cX6_settles 6 = .ok (.iastore, 1) := by decide +kernel
theorem dX6_settles_7 : decode cX6_settles 7 = .ok (.aload_n 0, 1) := by decide +kernel
theorem dX6_settles_8 : decode cX6_settles 8 = .ok (.getfield 40, 3) := by decide +kernel
theorem dX6_settles_11 : decode cX6_settles 11 = .ok (.iload_n 1, 1) := by decide +kernel
theorem dX6_settles_12 : decode cX6_settles 12 = .ok (.iconst 0, 1) := by decide +kernel
theorem dX6_settles_13 : decode cX6_settles 13 = .ok (.iastore, 1) := by decide +kernel
theorem dX6_settles_14 : decode cX6_settles 14 = .ok (.aload_n 0, 1) := by decide +kernel
theorem dX6_settles_15 : decode cX6_settles 15 = .ok (.getfield 37, 3) := by decide +kernel
theorem dX6_settles_18 : decode cX6_settles 18 = .ok (.iload_n 1, 1) := by decide +kernel
theorem dX6_settles_19 : decode cX6_settles 19 = .ok (.aload_n 0, 1) := by decide +kernel
theorem dX6_settles_20 : decode cX6_settles 20 = .ok (.iload_n 1, 1) := by decide +kernel
theorem dX6_settles_21 : decode cX6_settles 21 = .ok (.iconst 1, 1) := by decide +kernel
theorem dX6_settles_22 : decode cX6_settles 22 = .ok (.invokevirtual 55, 3) := by decide +kernel
theorem dX6_settles_25 : decode cX6_settles 25 = .ok (.iastore, 1) := by decide +kernel
theorem dX6_settles_26 : decode cX6_settles 26 = .ok (.aload_n 0, 1) := by decide +kernel
theorem dX6_settles_27 : decode cX6_settles 27 = .ok (.iload_n 1, 1) := by decide +kernel
theorem dX6_settles_28 : decode cX6_settles 28 = .ok (.iconst 0, 1) := by decide +kernel
theorem dX6_settles_29 : decode cX6_settles 29 = .ok (.invokevirtual 55, 3) := by decide +kernel
theorem dX6_settles_32 : decode cX6_settles 32 = .ok (.ifCond .le 132, 3) := by decide +kernel
theorem dX6_settles_35 : decode cX6_settles 35 = .ok (.aload_n 0, 1) := by decide +kernel
theorem dX6_settles_36 : decode cX6_settles 36 = .ok (.iload_n 1, 1) := by decide +kernel
theorem dX6_settles_37 : decode cX6_settles 37 = .ok (.iconst 2, 1) := by decide +kernel
theorem dX6_settles_38 : decode cX6_settles 38 = .ok (.invokevirtual 55, 3) := by decide +kernel
theorem dX6_settles_41 : decode cX6_settles 41 = .ok (.istore_n 2, 1) := by decide +kernel
theorem dX6_settles_42 : decode cX6_settles 42 = .ok (.aload_n 0, 1) := by decide +kernel
theorem dX6_settles_43 : decode cX6_settles 43 = .ok (.iload_n 1, 1) := by decide +kernel
theorem dX6_settles_44 : decode cX6_settles 44 = .ok (.iconst 0, 1) := by decide +kernel
theorem dX6_settles_45 : decode cX6_settles 45 = .ok (.invokevirtual 55, 3) := by decide +kernel
theorem dX6_settles_48 : decode cX6_settles 48 = .ok (.iconst 5, 1) := by decide +kernel
theorem dX6_settles_49 : decode cX6_settles 49 = .ok (.if_icmp .ne 7, 3) := by decide +kernel
theorem dX6_settles_52 : decode cX6_settles 52 = .ok (.iconst 1, 1) := by decide +kernel
theorem dX6_settles_53 : decode cX6_settles 53 = .ok (.goto 4, 3) := by decide +kernel
theorem dX6_settles_56 : decode cX6_settles 56 = .ok (.iconst 0, 1) := by decide +kernel
theorem dX6_settles_57 : decode cX6_settles 57 = .ok (.istore_n 3, 1) := by decide +kernel
theorem dX6_settles_58 : decode cX6_settles 58 = .ok (.iload_n 3, 1) := by decide +kernel
theorem dX6_settles_59 : decode cX6_settles 59 = .ok (.ifCond .eq 18, 3) := by decide +kernel
theorem dX6_settles_62 : decode cX6_settles 62 = .ok (.aload_n 0, 1) := by decide +kernel
theorem dX6_settles_63 : decode cX6_settles 63 = .ok (.getfield 37, 3) := by decide +kernel
theorem dX6_settles_66 : decode cX6_settles 66 = .ok (.iload_n 2, 1) := by decide +kernel
theorem dX6_settles_67 : decode cX6_settles 67 = .ok (.iaload, 1) := by decide +kernel
theorem dX6_settles_68 : decode cX6_settles 68 = .ok (.ldc 106, 2) := by decide +kernel
theorem dX6_settles_70 : decode cX6_settles 70 = .ok (.if_icmp .ne 7, 3) := by decide +kernel
theorem dX6_settles_73 : decode cX6_settles 73 = .ok (.iload_n 2, 1) := by decide +kernel
theorem dX6_settles_74 : decode cX6_settles 74 = .ok (.goto 31, 3) := by decide +kernel
theorem dX6_settles_77 : decode cX6_settles 77 = .ok (.iload_n 3, 1) := by decide +kernel
theorem dX6_settles_78 : decode cX6_settles 78 = .ok (.ifCond .eq 21, 3) := by decide +kernel
theorem dX6_settles_81 : decode cX6_settles 81 = .ok (.aload_n 0, 1) := by decide +kernel
theorem dX6_settles_82 : decode cX6_settles 82 = .ok (.getfield 37, 3) := by decide +kernel
theorem dX6_settles_85 : decode cX6_settles 85 = .ok (.iload_n 2, 1) := by decide +kernel
theorem dX6_settles_86 : decode cX6_settles 86 = .ok (.iaload, 1) := by decide +kernel
theorem dX6_settles_87 : decode cX6_settles 87 = .ok (.ifCond .gt 12, 3) := by decide +kernel
theorem dX6_settles_90 : decode cX6_settles 90 = .ok (.aload_n 0, 1) := by decide +kernel
theorem dX6_settles_91 : decode cX6_settles 91 = .ok (.iload_n 1, 1) := by decide +kernel
theorem dX6_settles_92 : decode cX6_settles 92 = .ok (.iconst 4, 1) := by decide +kernel
theorem dX6_settles_93 : decode cX6_settles 93 = .ok (.invokevirtual 55, 3) := by decide +kernel
theorem dX6_settles_96 : decode cX6_settles 96 = .ok (.goto 9, 3) := by decide +kernel
theorem dX6_settles_99 : decode cX6_settles 99 = .ok (.aload_n 0, 1) := by decide +kernel
theorem dX6_settles_100 : decode cX6_settles 100 = .ok (.iload_n 1, 1) := by decide +kernel
theorem dX6_settles_101 : decode cX6_settles 101 = .ok (.iconst 3, 1) := by decide +kernel
theorem dX6_settles_102 : decode cX6_settles 102 = .ok (.invokevirtual 55, 3) := by decide +kernel
theorem dX6_settles_105 : decode cX6_settles 105 = .ok (.istore 4, 2) := by decide +kernel
theorem dX6_settles_107 : decode cX6_settles 107 = .ok (.aload_n 0, 1) := by decide +kernel
theorem dX6_settles_108 : decode cX6_settles 108 = .ok (.getfield 37, 3) := by decide +kernel
theorem dX6_settles_111 : decode cX6_settles 111 = .ok (.iload_n 1, 1) := by decide +kernel
theorem dX6_settles_112 : decode cX6_settles 112 = .ok (.aload_n 0, 1) := by decide +kernel
theorem dX6_settles_113 : decode cX6_settles 113 = .ok (.iload_n 1, 1) := by decide +kernel
theorem dX6_settles_114 : decode cX6_settles 114 = .ok (.iconst 0, 1) := by decide +kernel
theorem dX6_settles_115 : decode cX6_settles 115 = .ok (.invokevirtual 55, 3) := by decide +kernel
theorem dX6_settles_118 : decode cX6_settles 118 = .ok (.aload_n 0, 1) := by decide +kernel
theorem dX6_settles_119 : decode cX6_settles 119 = .ok (.getfield 37, 3) := by decide +kernel
theorem dX6_settles_122 : decode cX6_settles 122 = .ok (.iload_n 2, 1) := by decide +kernel
theorem dX6_settles_123 : decode cX6_settles 123 = .ok (.iaload, 1) := by decide +kernel
theorem dX6_settles_124 : decode cX6_settles 124 = .ok (.aload_n 0, 1) := by decide +kernel
theorem dX6_settles_125 : decode cX6_settles 125 = .ok (.getfield 37, 3) := by decide +kernel
theorem dX6_settles_128 : decode cX6_settles 128 = .ok (.iload 4, 2) := by decide +kernel
theorem dX6_settles_130 : decode cX6_settles 130 = .ok (.iaload, 1) := by decide +kernel
theorem dX6_settles_131 : decode cX6_settles 131 = .ok (.invokestatic 120, 3) := by decide +kernel
theorem dX6_settles_134 : decode cX6_settles 134 = .ok (.iastore, 1) := by decide +kernel
theorem dX6_settles_135 : decode cX6_settles 135 = .ok (.aload_n 0, 1) := by decide +kernel
theorem dX6_settles_136 : decode cX6_settles 136 = .ok (.getfield 40, 3) := by decide +kernel
theorem dX6_settles_139 : decode cX6_settles 139 = .ok (.iload_n 1, 1) := by decide +kernel
theorem dX6_settles_140 : decode cX6_settles 140 = .ok (.aload_n 0, 1) := by decide +kernel
theorem dX6_settles_141 : decode cX6_settles 141 = .ok (.getfield 40, 3) := by decide +kernel
theorem dX6_settles_144 : decode cX6_settles 144 = .ok (.iload_n 2, 1) := by decide +kernel
theorem dX6_settles_145 : decode cX6_settles 145 = .ok (.iaload, 1) := by decide +kernel
theorem dX6_settles_146 : decode cX6_settles 146 = .ok (.aload_n 0, 1) := by decide +kernel
theorem dX6_settles_147 : decode cX6_settles 147 = .ok (.getfield 40, 3) := by decide +kernel
theorem dX6_settles_150 : decode cX6_settles 150 = .ok (.iload 4, 2) := by decide +kernel
theorem dX6_settles_152 : decode cX6_settles 152 = .ok (.iaload, 1) := by decide +kernel
theorem dX6_settles_153 : decode cX6_settles 153 = .ok (.ior, 1) := by decide +kernel
theorem dX6_settles_154 : decode cX6_settles 154 = .ok (.iconst 1, 1) := by decide +kernel
theorem dX6_settles_155 : decode cX6_settles 155 = .ok (.iload_n 2, 1) := by decide +kernel
theorem dX6_settles_156 : decode cX6_settles 156 = .ok (.ishl, 1) := by decide +kernel
theorem dX6_settles_157 : decode cX6_settles 157 = .ok (.ior, 1) := by decide +kernel
theorem dX6_settles_158 : decode cX6_settles 158 = .ok (.iconst 1, 1) := by decide +kernel
theorem dX6_settles_159 : decode cX6_settles 159 = .ok (.iload 4, 2) := by decide +kernel
theorem dX6_settles_161 : decode cX6_settles 161 = .ok (.ishl, 1) := by decide +kernel
theorem dX6_settles_162 : decode cX6_settles 162 = .ok (.ior, 1) := by decide +kernel
theorem dX6_settles_163 : decode cX6_settles 163 = .ok (.iastore, 1) := by decide +kernel
theorem dX6_settles_164 : decode cX6_settles 164 = .ok (.return_, 1) := by decide +kernel
theorem dX6_afresh_0 : decode cX6_afresh 0 = .ok (.iconst 0, 1) := by decide +kernel
theorem dX6_afresh_1 : decode cX6_afresh 1 = .ok (.istore_n 2, 1) := by decide +kernel
theorem dX6_afresh_2 : decode cX6_afresh 2 = .ok (.iload_n 2, 1) := by decide +kernel
theorem dX6_afresh_3 : decode cX6_afresh 3 = .ok (.bipush 10, 2) := by decide +kernel
theorem dX6_afresh_5 : decode cX6_afresh 5 = .ok (.if_icmp .ge 16, 3) := by decide +kernel
theorem dX6_afresh_8 : decode cX6_afresh 8 = .ok (.aload_n 0, 1) := by decide +kernel
theorem dX6_afresh_9 : decode cX6_afresh 9 = .ok (.getfield 34, 3) := by decide +kernel
theorem dX6_afresh_12 : decode cX6_afresh 12 = .ok (.iload_n 2, 1) := by decide +kernel
theorem dX6_afresh_13 : decode cX6_afresh 13 = .ok (.iconst 0, 1) := by decide +kernel
theorem dX6_afresh_14 : decode cX6_afresh 14 = .ok (.iastore, 1) := by decide +kernel
theorem dX6_afresh_15 : decode cX6_afresh 15 = .ok (.iinc 2 1, 3) := by decide +kernel
theorem dX6_afresh_18 : decode cX6_afresh 18 = .ok (.goto (-16), 3) := by decide +kernel
theorem dX6_afresh_21 : decode cX6_afresh 21 = .ok (.aload_n 0, 1) := by decide +kernel
theorem dX6_afresh_22 : decode cX6_afresh 22 = .ok (.iconst 1, 1) := by decide +kernel
theorem dX6_afresh_23 : decode cX6_afresh 23 = .ok (.putfield 88, 3) := by decide +kernel
theorem dX6_afresh_26 : decode cX6_afresh 26 = .ok (.aload_n 0, 1) := by decide +kernel
theorem dX6_afresh_27 : decode cX6_afresh 27 = .ok (.getfield 22, 3) := by decide +kernel
theorem dX6_afresh_30 : decode cX6_afresh 30 = .ok (.iconst 0, 1) := by decide +kernel
theorem dX6_afresh_31 : decode cX6_afresh 31 = .ok (.iload_n 1, 1) := by decide +kernel
theorem dX6_afresh_32 : decode cX6_afresh 32 = .ok (.iastore, 1) := by decide +kernel
theorem dX6_afresh_33 : decode cX6_afresh 33 = .ok (.aload_n 0, 1) := by decide +kernel
theorem dX6_afresh_34 : decode cX6_afresh 34 = .ok (.getfield 34, 3) := by decide +kernel
theorem dX6_afresh_37 : decode cX6_afresh 37 = .ok (.iload_n 1, 1) := by decide +kernel
theorem dX6_afresh_38 : decode cX6_afresh 38 = .ok (.iconst 1, 1) := by decide +kernel
theorem dX6_afresh_39 : decode cX6_afresh 39 = .ok (.iastore, 1) := by decide +kernel
theorem dX6_afresh_40 : decode cX6_afresh 40 = .ok (.aload_n 0, 1) := by decide +kernel
theorem dX6_afresh_41 : decode cX6_afresh 41 = .ok (.getfield 88, 3) := by decide +kernel
theorem dX6_afresh_44 : decode cX6_afresh 44 = .ok (.ifCond .le 98, 3) := by decide +kernel
theorem dX6_afresh_47 : decode cX6_afresh 47 = .ok (.aload_n 0, 1) := by decide +kernel
theorem dX6_afresh_48 : decode cX6_afresh 48 = .ok (.getfield 22, 3) := by decide +kernel
theorem dX6_afresh_51 : decode cX6_afresh 51 = .ok (.aload_n 0, 1) := by decide +kernel
theorem dX6_afresh_52 : decode cX6_afresh 52 = .ok (.getfield 88, 3) := by decide +kernel
theorem dX6_afresh_55 : decode cX6_afresh 55 = .ok (.iconst 1, 1) := by decide +kernel
theorem dX6_afresh_56 : decode cX6_afresh 56 = .ok (.isub, 1) := by decide +kernel
theorem dX6_afresh_57 : decode cX6_afresh 57 = .ok (.iaload, 1) := by decide +kernel
theorem dX6_afresh_58 : decode cX6_afresh 58 = .ok (.istore_n 2, 1) := by decide +kernel
theorem dX6_afresh_59 : decode cX6_afresh 59 = .ok (.aload_n 0, 1) := by decide +kernel
theorem dX6_afresh_60 : decode cX6_afresh 60 = .ok (.iload_n 2, 1) := by decide +kernel
theorem dX6_afresh_61 : decode cX6_afresh 61 = .ok (.iconst 0, 1) := by decide +kernel
theorem dX6_afresh_62 : decode cX6_afresh 62 = .ok (.invokevirtual 55, 3) := by decide +kernel
theorem dX6_afresh_65 : decode cX6_afresh 65 = .ok (.ifCond .ne 7, 3) := by decide +kernel
theorem dX6_afresh_68 : decode cX6_afresh 68 = .ok (.iconst (-1), 1) := by decide +kernel
theorem dX6_afresh_69 : decode cX6_afresh 69 = .ok (.goto 8, 3) := by decide +kernel
theorem dX6_afresh_72 : decode cX6_afresh 72 = .ok (.aload_n 0, 1) := by decide +kernel
theorem dX6_afresh_73 : decode cX6_afresh 73 = .ok (.iload_n 2, 1) := by decide +kernel
theorem dX6_afresh_74 : decode cX6_afresh 74 = .ok (.invokevirtual 153, 3) := by decide +kernel
theorem dX6_afresh_77 : decode cX6_afresh 77 = .ok (.istore_n 3, 1) := by decide +kernel
theorem dX6_afresh_78 : decode cX6_afresh 78 = .ok (.iload_n 3, 1) := by decide +kernel
theorem dX6_afresh_79 : decode cX6_afresh 79 = .ok (.ifCond .ge 21, 3) := by decide +kernel
theorem dX6_afresh_82 : decode cX6_afresh 82 = .ok (.aload_n 0, 1) := by decide +kernel
theorem dX6_afresh_83 : decode cX6_afresh 83 = .ok (.iload_n 2, 1) := by decide +kernel
theorem dX6_afresh_84 : decode cX6_afresh 84 = .ok (.invokevirtual 156, 3) := by decide +kernel
theorem dX6_afresh_87 : decode cX6_afresh 87 = .ok (.aload_n 0, 1) := by decide +kernel
theorem dX6_afresh_88 : decode cX6_afresh 88 = .ok (.dup, 1) := by decide +kernel
theorem dX6_afresh_89 : decode cX6_afresh 89 = .ok (.getfield 88, 3) := by decide +kernel
theorem dX6_afresh_92 : decode cX6_afresh 92 = .ok (.iconst 1, 1) := by decide +kernel
theorem dX6_afresh_93 : decode cX6_afresh 93 = .ok (.isub, 1) := by decide +kernel
theorem dX6_afresh_94 : decode cX6_afresh 94 = .ok (.putfield 88, 3) := by decide +kernel
theorem dX6_afresh_97 : decode cX6_afresh 97 = .ok (.goto 42, 3) := by decide +kernel
theorem dX6_afresh_100 : decode cX6_afresh 100 = .ok (.aload_n 0, 1) := by decide +kernel
theorem dX6_afresh_101 : decode cX6_afresh 101 = .ok (.getfield 34, 3) := by decide +kernel
theorem dX6_afresh_104 : decode cX6_afresh 104 = .ok (.iload_n 3, 1) := by decide +kernel
theorem dX6_afresh_105 : decode cX6_afresh 105 = .ok (.iaload, 1) := by decide +kernel
theorem dX6_afresh_106 : decode cX6_afresh 106 = .ok (.iconst 1, 1) := by decide +kernel
theorem dX6_afresh_107 : decode cX6_afresh 107 = .ok (.if_icmp .ne 5, 3) := by decide +kernel
theorem dX6_afresh_110 : decode cX6_afresh 110 = .ok (.iconst 0, 1) := by decide +kernel
theorem dX6_afresh_111 : decode cX6_afresh 111 = .ok (.ireturn, 1) := by decide +kernel
theorem dX6_afresh_112 : decode cX6_afresh 112 = .ok (.aload_n 0, 1) := by decide +kernel
theorem dX6_afresh_113 : decode cX6_afresh 113 = .ok (.getfield 34, 3) := by decide +kernel
theorem dX6_afresh_116 : decode cX6_afresh 116 = .ok (.iload_n 3, 1) := by decide +kernel
theorem dX6_afresh_117 : decode cX6_afresh 117 = .ok (.iconst 1, 1) := by decide +kernel
theorem dX6_afresh_118 : decode cX6_afresh 118 = .ok (.iastore, 1) := by decide +kernel
theorem dX6_afresh_119 : decode cX6_afresh 119 = .ok (.aload_n 0, 1) := by decide +kernel
theorem dX6_afresh_120 : decode cX6_afresh 120 = .ok (.getfield 22, 3) := by decide +kernel
theorem dX6_afresh_123 : decode cX6_afresh 123 = .ok (.aload_n 0, 1) := by decide +kernel
theorem dX6_afresh_124 : decode cX6_afresh 124 = .ok (.getfield 88, 3) := by decide +kernel
theorem dX6_afresh_127 : decode cX6_afresh 127 = .ok (.iload_n 3, 1) := by decide +kernel
theorem dX6_afresh_128 : decode cX6_afresh 128 = .ok (.iastore, 1) := by decide +kernel
theorem dX6_afresh_129 : decode cX6_afresh 129 = .ok (.aload_n 0, 1) := by decide +kernel
theorem dX6_afresh_130 : decode cX6_afresh 130 = .ok (.dup, 1) := by decide +kernel
theorem dX6_afresh_131 : decode cX6_afresh 131 = .ok (.getfield 88, 3) := by decide +kernel
theorem dX6_afresh_134 : decode cX6_afresh 134 = .ok (.iconst 1, 1) := by decide +kernel
theorem dX6_afresh_135 : decode cX6_afresh 135 = .ok (.iadd, 1) := by decide +kernel
theorem dX6_afresh_136 : decode cX6_afresh 136 = .ok (.putfield 88, 3) := by decide +kernel
theorem dX6_afresh_139 : decode cX6_afresh 139 = .ok (.goto (-99), 3) := by decide +kernel
theorem dX6_afresh_142 : decode cX6_afresh 142 = .ok (.iconst 1, 1) := by decide +kernel
theorem dX6_afresh_143 : decode cX6_afresh 143 = .ok (.ireturn, 1) := by decide +kernel
theorem dX6_told_0 : decode cX6_told 0 = .ok (.aload_n 0, 1) := by decide +kernel
theorem dX6_told_1 : decode cX6_told 1 = .ok (.iload_n 1, 1) := by decide +kernel
theorem dX6_told_2 : decode cX6_told 2 = .ok (.invokevirtual 159, 3) := by decide +kernel
theorem dX6_told_5 : decode cX6_told 5 = .ok (.ifCond .ne 8, 3) := by decide +kernel
theorem dX6_told_8 : decode cX6_told 8 = .ok (.ldc 146, 2) := by decide +kernel
theorem dX6_told_10 : decode cX6_told 10 = .ok (.goto 25, 3) := by decide +kernel
theorem dX6_told_13 : decode cX6_told 13 = .ok (.aload_n 0, 1) := by decide +kernel
theorem dX6_told_14 : decode cX6_told 14 = .ok (.getfield 37, 3) := by decide +kernel
theorem dX6_told_17 : decode cX6_told 17 = .ok (.iload_n 1, 1) := by decide +kernel
theorem dX6_told_18 : decode cX6_told 18 = .ok (.iaload, 1) := by decide +kernel
theorem dX6_told_19 : decode cX6_told 19 = .ok (.ldc 106, 2) := by decide +kernel
theorem dX6_told_21 : decode cX6_told 21 = .ok (.if_icmp .ne 8, 3) := by decide +kernel
theorem dX6_told_24 : decode cX6_told 24 = .ok (.ldc 162, 2) := by decide +kernel
theorem dX6_told_26 : decode cX6_told 26 = .ok (.goto 9, 3) := by decide +kernel
theorem dX6_told_29 : decode cX6_told 29 = .ok (.aload_n 0, 1) := by decide +kernel
theorem dX6_told_30 : decode cX6_told 30 = .ok (.getfield 37, 3) := by decide +kernel
theorem dX6_told_33 : decode cX6_told 33 = .ok (.iload_n 1, 1) := by decide +kernel
theorem dX6_told_34 : decode cX6_told 34 = .ok (.iaload, 1) := by decide +kernel
theorem dX6_told_35 : decode cX6_told 35 = .ok (.ireturn, 1) := by decide +kernel
theorem dX6_fresh_0 : decode cX6_fresh 0 = .ok (.iload_n 1, 1) := by decide +kernel
theorem dX6_fresh_1 : decode cX6_fresh 1 = .ok (.invokestatic 69, 3) := by decide +kernel
theorem dX6_fresh_4 : decode cX6_fresh 4 = .ok (.ifCond .eq 11, 3) := by decide +kernel
theorem dX6_fresh_7 : decode cX6_fresh 7 = .ok (.aload_n 0, 1) := by decide +kernel
theorem dX6_fresh_8 : decode cX6_fresh 8 = .ok (.iload_n 1, 1) := by decide +kernel
theorem dX6_fresh_9 : decode cX6_fresh 9 = .ok (.invokevirtual 163, 3) := by decide +kernel
theorem dX6_fresh_12 : decode cX6_fresh 12 = .ok (.goto 5, 3) := by decide +kernel
theorem dX6_fresh_15 : decode cX6_fresh 15 = .ok (.ldc 50, 2) := by decide +kernel
theorem dX6_fresh_17 : decode cX6_fresh 17 = .ok (.ireturn, 1) := by decide +kernel
theorem dX6_isOne_0 : decode cX6_isOne 0 = .ok (.iload_n 2, 1) := by decide +kernel
theorem dX6_isOne_1 : decode cX6_isOne 1 = .ok (.tableswitch 110 0 3 #[31, 46, 63, 96], 31) := by decide +kernel
theorem dX6_isOne_32 : decode cX6_isOne 32 = .ok (.aload_n 0, 1) := by decide +kernel
theorem dX6_isOne_33 : decode cX6_isOne 33 = .ok (.iload_n 1, 1) := by decide +kernel
theorem dX6_isOne_34 : decode cX6_isOne 34 = .ok (.iconst 0, 1) := by decide +kernel
theorem dX6_isOne_35 : decode cX6_isOne 35 = .ok (.invokevirtual 55, 3) := by decide +kernel
theorem dX6_isOne_38 : decode cX6_isOne 38 = .ok (.ifCond .le 7, 3) := by decide +kernel
theorem dX6_isOne_41 : decode cX6_isOne 41 = .ok (.iconst 1, 1) := by decide +kernel
theorem dX6_isOne_42 : decode cX6_isOne 42 = .ok (.goto 4, 3) := by decide +kernel
theorem dX6_isOne_45 : decode cX6_isOne 45 = .ok (.iconst 0, 1) := by decide +kernel
theorem dX6_isOne_46 : decode cX6_isOne 46 = .ok (.ireturn, 1) := by decide +kernel
theorem dX6_isOne_47 : decode cX6_isOne 47 = .ok (.aload_n 0, 1) := by decide +kernel
theorem dX6_isOne_48 : decode cX6_isOne 48 = .ok (.iload_n 1, 1) := by decide +kernel
theorem dX6_isOne_49 : decode cX6_isOne 49 = .ok (.bipush 6, 2) := by decide +kernel
theorem dX6_isOne_51 : decode cX6_isOne 51 = .ok (.invokevirtual 55, 3) := by decide +kernel
theorem dX6_isOne_54 : decode cX6_isOne 54 = .ok (.iconst 1, 1) := by decide +kernel
theorem dX6_isOne_55 : decode cX6_isOne 55 = .ok (.if_icmp .ne 7, 3) := by decide +kernel
theorem dX6_isOne_58 : decode cX6_isOne 58 = .ok (.iconst 1, 1) := by decide +kernel
theorem dX6_isOne_59 : decode cX6_isOne 59 = .ok (.goto 4, 3) := by decide +kernel
theorem dX6_isOne_62 : decode cX6_isOne 62 = .ok (.iconst 0, 1) := by decide +kernel
theorem dX6_isOne_63 : decode cX6_isOne 63 = .ok (.ireturn, 1) := by decide +kernel
theorem dX6_isOne_64 : decode cX6_isOne 64 = .ok (.aload_n 0, 1) := by decide +kernel
theorem dX6_isOne_65 : decode cX6_isOne 65 = .ok (.iload_n 1, 1) := by decide +kernel
theorem dX6_isOne_66 : decode cX6_isOne 66 = .ok (.bipush 6, 2) := by decide +kernel
theorem dX6_isOne_68 : decode cX6_isOne 68 = .ok (.invokevirtual 55, 3) := by decide +kernel
theorem dX6_isOne_71 : decode cX6_isOne 71 = .ok (.iconst 1, 1) := by decide +kernel
theorem dX6_isOne_72 : decode cX6_isOne 72 = .ok (.if_icmp .ne 23, 3) := by decide +kernel
theorem dX6_isOne_75 : decode cX6_isOne 75 = .ok (.aload_n 0, 1) := by decide +kernel
theorem dX6_isOne_76 : decode cX6_isOne 76 = .ok (.iload_n 1, 1) := by decide +kernel
theorem dX6_isOne_77 : decode cX6_isOne 77 = .ok (.bipush 9, 2) := by decide +kernel
theorem dX6_isOne_79 : decode cX6_isOne 79 = .ok (.invokevirtual 55, 3) := by decide +kernel
theorem dX6_isOne_82 : decode cX6_isOne 82 = .ok (.aload_n 0, 1) := by decide +kernel
theorem dX6_isOne_83 : decode cX6_isOne 83 = .ok (.getfield 7, 3) := by decide +kernel
theorem dX6_isOne_86 : decode cX6_isOne 86 = .ok (.iconst 0, 1) := by decide +kernel
theorem dX6_isOne_87 : decode cX6_isOne 87 = .ok (.iaload, 1) := by decide +kernel
theorem dX6_isOne_88 : decode cX6_isOne 88 = .ok (.if_icmp .ne 7, 3) := by decide +kernel
theorem dX6_isOne_91 : decode cX6_isOne 91 = .ok (.iconst 1, 1) := by decide +kernel
theorem dX6_isOne_92 : decode cX6_isOne 92 = .ok (.goto 4, 3) := by decide +kernel
theorem dX6_isOne_95 : decode cX6_isOne 95 = .ok (.iconst 0, 1) := by decide +kernel
theorem dX6_isOne_96 : decode cX6_isOne 96 = .ok (.ireturn, 1) := by decide +kernel
theorem dX6_isOne_97 : decode cX6_isOne 97 = .ok (.aload_n 0, 1) := by decide +kernel
theorem dX6_isOne_98 : decode cX6_isOne 98 = .ok (.iload_n 1, 1) := by decide +kernel
theorem dX6_isOne_99 : decode cX6_isOne 99 = .ok (.invokevirtual 159, 3) := by decide +kernel
theorem dX6_isOne_102 : decode cX6_isOne 102 = .ok (.ifCond .ne 7, 3) := by decide +kernel
theorem dX6_isOne_105 : decode cX6_isOne 105 = .ok (.iconst 1, 1) := by decide +kernel
theorem dX6_isOne_106 : decode cX6_isOne 106 = .ok (.goto 4, 3) := by decide +kernel
theorem dX6_isOne_109 : decode cX6_isOne 109 = .ok (.iconst 0, 1) := by decide +kernel
theorem dX6_isOne_110 : decode cX6_isOne 110 = .ok (.ireturn, 1) := by decide +kernel
theorem dX6_isOne_111 : decode cX6_isOne 111 = .ok (.aload_n 0, 1) := by decide +kernel
theorem dX6_isOne_112 : decode cX6_isOne 112 = .ok (.iload_n 1, 1) := by decide +kernel
theorem dX6_isOne_113 : decode cX6_isOne 113 = .ok (.invokevirtual 159, 3) := by decide +kernel
theorem dX6_isOne_116 : decode cX6_isOne 116 = .ok (.ifCond .eq 18, 3) := by decide +kernel
theorem dX6_isOne_119 : decode cX6_isOne 119 = .ok (.aload_n 0, 1) := by decide +kernel
theorem dX6_isOne_120 : decode cX6_isOne 120 = .ok (.getfield 37, 3) := by decide +kernel
theorem dX6_isOne_123 : decode cX6_isOne 123 = .ok (.iload_n 1, 1) := by decide +kernel
theorem dX6_isOne_124 : decode cX6_isOne 124 = .ok (.iaload, 1) := by decide +kernel
theorem dX6_isOne_125 : decode cX6_isOne 125 = .ok (.ldc 106, 2) := by decide +kernel
theorem dX6_isOne_127 : decode cX6_isOne 127 = .ok (.if_icmp .ne 7, 3) := by decide +kernel
theorem dX6_isOne_130 : decode cX6_isOne 130 = .ok (.iconst 1, 1) := by decide +kernel
theorem dX6_isOne_131 : decode cX6_isOne 131 = .ok (.goto 4, 3) := by decide +kernel
theorem dX6_isOne_134 : decode cX6_isOne 134 = .ok (.iconst 0, 1) := by decide +kernel
theorem dX6_isOne_135 : decode cX6_isOne 135 = .ok (.ireturn, 1) := by decide +kernel
theorem dX6_which_0 : decode cX6_which 0 = .ok (.iload_n 1, 1) := by decide +kernel
theorem dX6_which_1 : decode cX6_which 1 = .ok (.iconst 0, 1) := by decide +kernel
theorem dX6_which_2 : decode cX6_which 2 = .ok (.iconst 4, 1) := by decide +kernel
theorem dX6_which_3 : decode cX6_which 3 = .ok (.invokestatic 46, 3) := by decide +kernel
theorem dX6_which_6 : decode cX6_which 6 = .ok (.ifCond .ne 6, 3) := by decide +kernel
theorem dX6_which_9 : decode cX6_which 9 = .ok (.ldc 50, 2) := by decide +kernel
theorem dX6_which_11 : decode cX6_which 11 = .ok (.ireturn, 1) := by decide +kernel
theorem dX6_which_12 : decode cX6_which 12 = .ok (.iconst 0, 1) := by decide +kernel
theorem dX6_which_13 : decode cX6_which 13 = .ok (.istore_n 2, 1) := by decide +kernel
theorem dX6_which_14 : decode cX6_which 14 = .ok (.iconst 0, 1) := by decide +kernel
theorem dX6_which_15 : decode cX6_which 15 = .ok (.istore_n 3, 1) := by decide +kernel
theorem dX6_which_16 : decode cX6_which 16 = .ok (.iload_n 3, 1) := by decide +kernel
theorem dX6_which_17 : decode cX6_which 17 = .ok (.bipush 10, 2) := by decide +kernel
theorem dX6_which_19 : decode cX6_which 19 = .ok (.if_icmp .ge 28, 3) := by decide +kernel
theorem dX6_which_22 : decode cX6_which 22 = .ok (.iload_n 2, 1) := by decide +kernel
theorem dX6_which_23 : decode cX6_which 23 = .ok (.aload_n 0, 1) := by decide +kernel
theorem dX6_which_24 : decode cX6_which 24 = .ok (.iload_n 3, 1) := by decide +kernel
theorem dX6_which_25 : decode cX6_which 25 = .ok (.iload_n 1, 1) := by decide +kernel
theorem dX6_which_26 : decode cX6_which 26 = .ok (.invokevirtual 166, 3) := by decide +kernel
theorem dX6_which_29 : decode cX6_which 29 = .ok (.ifCond .eq 9, 3) := by decide +kernel
theorem dX6_which_32 : decode cX6_which 32 = .ok (.iconst 1, 1) := by decide +kernel
theorem dX6_which_33 : decode cX6_which 33 = .ok (.iload_n 3, 1) := by decide +kernel
theorem dX6_which_34 : decode cX6_which 34 = .ok (.ishl, 1) := by decide +kernel
theorem dX6_which_35 : decode cX6_which 35 = .ok (.goto 4, 3) := by decide +kernel
theorem dX6_which_38 : decode cX6_which 38 = .ok (.iconst 0, 1) := by decide +kernel
theorem dX6_which_39 : decode cX6_which 39 = .ok (.ior, 1) := by decide +kernel
theorem dX6_which_40 : decode cX6_which 40 = .ok (.istore_n 2, 1) := by decide +kernel
theorem dX6_which_41 : decode cX6_which 41 = .ok (.iinc 3 1, 3) := by decide +kernel
theorem dX6_which_44 : decode cX6_which 44 = .ok (.goto (-28), 3) := by decide +kernel
theorem dX6_which_47 : decode cX6_which 47 = .ok (.iload_n 2, 1) := by decide +kernel
theorem dX6_which_48 : decode cX6_which 48 = .ok (.ireturn, 1) := by decide +kernel
theorem dX6_used_0 : decode cX6_used 0 = .ok (.iload_n 1, 1) := by decide +kernel
theorem dX6_used_1 : decode cX6_used 1 = .ok (.invokestatic 69, 3) := by decide +kernel
theorem dX6_used_4 : decode cX6_used 4 = .ok (.ifCond .ne 6, 3) := by decide +kernel
theorem dX6_used_7 : decode cX6_used 7 = .ok (.ldc 50, 2) := by decide +kernel
theorem dX6_used_9 : decode cX6_used 9 = .ok (.ireturn, 1) := by decide +kernel
theorem dX6_used_10 : decode cX6_used 10 = .ok (.aload_n 0, 1) := by decide +kernel
theorem dX6_used_11 : decode cX6_used 11 = .ok (.iload_n 1, 1) := by decide +kernel
theorem dX6_used_12 : decode cX6_used 12 = .ok (.invokevirtual 159, 3) := by decide +kernel
theorem dX6_used_15 : decode cX6_used 15 = .ok (.ifCond .eq 12, 3) := by decide +kernel
theorem dX6_used_18 : decode cX6_used 18 = .ok (.aload_n 0, 1) := by decide +kernel
theorem dX6_used_19 : decode cX6_used 19 = .ok (.getfield 40, 3) := by decide +kernel
theorem dX6_used_22 : decode cX6_used 22 = .ok (.iload_n 1, 1) := by decide +kernel
theorem dX6_used_23 : decode cX6_used 23 = .ok (.iaload, 1) := by decide +kernel
theorem dX6_used_24 : decode cX6_used 24 = .ok (.goto 5, 3) := by decide +kernel
theorem dX6_used_27 : decode cX6_used 27 = .ok (.ldc 146, 2) := by decide +kernel
theorem dX6_used_29 : decode cX6_used 29 = .ok (.ireturn, 1) := by decide +kernel
theorem dX6_usedBy_0 : decode cX6_usedBy 0 = .ok (.iload_n 1, 1) := by decide +kernel
theorem dX6_usedBy_1 : decode cX6_usedBy 1 = .ok (.invokestatic 69, 3) := by decide +kernel
theorem dX6_usedBy_4 : decode cX6_usedBy 4 = .ok (.ifCond .ne 6, 3) := by decide +kernel
theorem dX6_usedBy_7 : decode cX6_usedBy 7 = .ok (.ldc 50, 2) := by decide +kernel
theorem dX6_usedBy_9 : decode cX6_usedBy 9 = .ok (.ireturn, 1) := by decide +kernel
theorem dX6_usedBy_10 : decode cX6_usedBy 10 = .ok (.iconst 0, 1) := by decide +kernel
theorem dX6_usedBy_11 : decode cX6_usedBy 11 = .ok (.istore_n 2, 1) := by decide +kernel
theorem dX6_usedBy_12 : decode cX6_usedBy 12 = .ok (.iconst 0, 1) := by decide +kernel
theorem dX6_usedBy_13 : decode cX6_usedBy 13 = .ok (.istore_n 3, 1) := by decide +kernel
theorem dX6_usedBy_14 : decode cX6_usedBy 14 = .ok (.iload_n 3, 1) := by decide +kernel
theorem dX6_usedBy_15 : decode cX6_usedBy 15 = .ok (.bipush 10, 2) := by decide +kernel
theorem dX6_usedBy_17 : decode cX6_usedBy 17 = .ok (.if_icmp .ge 41, 3) := by decide +kernel
theorem dX6_usedBy_20 : decode cX6_usedBy 20 = .ok (.iload_n 2, 1) := by decide +kernel
theorem dX6_usedBy_21 : decode cX6_usedBy 21 = .ok (.aload_n 0, 1) := by decide +kernel
theorem dX6_usedBy_22 : decode cX6_usedBy 22 = .ok (.iload_n 3, 1) := by decide +kernel
theorem dX6_usedBy_23 : decode cX6_usedBy 23 = .ok (.invokevirtual 159, 3) := by decide +kernel
theorem dX6_usedBy_26 : decode cX6_usedBy 26 = .ok (.ifCond .eq 23, 3) := by decide +kernel
theorem dX6_usedBy_29 : decode cX6_usedBy 29 = .ok (.aload_n 0, 1) := by decide +kernel
theorem dX6_usedBy_30 : decode cX6_usedBy 30 = .ok (.getfield 40, 3) := by decide +kernel
theorem dX6_usedBy_33 : decode cX6_usedBy 33 = .ok (.iload_n 3, 1) := by decide +kernel
theorem dX6_usedBy_34 : decode cX6_usedBy 34 = .ok (.iaload, 1) := by decide +kernel
theorem dX6_usedBy_35 : decode cX6_usedBy 35 = .ok (.iload_n 1, 1) := by decide +kernel
theorem dX6_usedBy_36 : decode cX6_usedBy 36 = .ok (.ishr, 1) := by decide +kernel
theorem dX6_usedBy_37 : decode cX6_usedBy 37 = .ok (.iconst 1, 1) := by decide +kernel
theorem dX6_usedBy_38 : decode cX6_usedBy 38 = .ok (.iand, 1) := by decide +kernel
theorem dX6_usedBy_39 : decode cX6_usedBy 39 = .ok (.iconst 1, 1) := by decide +kernel
theorem dX6_usedBy_40 : decode cX6_usedBy 40 = .ok (.if_icmp .ne 9, 3) := by decide +kernel
theorem dX6_usedBy_43 : decode cX6_usedBy 43 = .ok (.iconst 1, 1) := by decide +kernel
theorem dX6_usedBy_44 : decode cX6_usedBy 44 = .ok (.iload_n 3, 1) := by decide +kernel
theorem dX6_usedBy_45 : decode cX6_usedBy 45 = .ok (.ishl, 1) := by decide +kernel
theorem dX6_usedBy_46 : decode cX6_usedBy 46 = .ok (.goto 4, 3) := by decide +kernel
theorem dX6_usedBy_49 : decode cX6_usedBy 49 = .ok (.iconst 0, 1) := by decide +kernel
theorem dX6_usedBy_50 : decode cX6_usedBy 50 = .ok (.ior, 1) := by decide +kernel
theorem dX6_usedBy_51 : decode cX6_usedBy 51 = .ok (.istore_n 2, 1) := by decide +kernel
theorem dX6_usedBy_52 : decode cX6_usedBy 52 = .ok (.iinc 3 1, 3) := by decide +kernel
theorem dX6_usedBy_55 : decode cX6_usedBy 55 = .ok (.goto (-41), 3) := by decide +kernel
theorem dX6_usedBy_58 : decode cX6_usedBy 58 = .ok (.iload_n 2, 1) := by decide +kernel
theorem dX6_usedBy_59 : decode cX6_usedBy 59 = .ok (.ireturn, 1) := by decide +kernel
theorem dX6_would_0 : decode cX6_would 0 = .ok (.iload_n 1, 1) := by decide +kernel
theorem dX6_would_1 : decode cX6_would 1 = .ok (.invokestatic 69, 3) := by decide +kernel
theorem dX6_would_4 : decode cX6_would 4 = .ok (.ifCond .eq 17, 3) := by decide +kernel
theorem dX6_would_7 : decode cX6_would 7 = .ok (.iload_n 2, 1) := by decide +kernel
theorem dX6_would_8 : decode cX6_would 8 = .ok (.invokestatic 73, 3) := by decide +kernel
theorem dX6_would_11 : decode cX6_would 11 = .ok (.ifCond .eq 10, 3) := by decide +kernel
theorem dX6_would_14 : decode cX6_would 14 = .ok (.iload_n 3, 1) := by decide +kernel
theorem dX6_would_15 : decode cX6_would 15 = .ok (.invokestatic 69, 3) := by decide +kernel
theorem dX6_would_18 : decode cX6_would 18 = .ok (.ifCond .ne 6, 3) := by decide +kernel
theorem dX6_would_21 : decode cX6_would 21 = .ok (.ldc 50, 2) := by decide +kernel
theorem dX6_would_23 : decode cX6_would 23 = .ok (.ireturn, 1) := by decide +kernel
theorem dX6_would_24 : decode cX6_would 24 = .ok (.aload_n 0, 1) := by decide +kernel
theorem dX6_would_25 : decode cX6_would 25 = .ok (.invokevirtual 76, 3) := by decide +kernel
theorem dX6_would_28 : decode cX6_would 28 = .ok (.aload_n 0, 1) := by decide +kernel
theorem dX6_would_29 : decode cX6_would 29 = .ok (.iload_n 1, 1) := by decide +kernel
theorem dX6_would_30 : decode cX6_would 30 = .ok (.iconst 0, 1) := by decide +kernel
theorem dX6_would_31 : decode cX6_would 31 = .ok (.iconst 0, 1) := by decide +kernel
theorem dX6_would_32 : decode cX6_would 32 = .ok (.invokevirtual 63, 3) := by decide +kernel
theorem dX6_would_35 : decode cX6_would 35 = .ok (.aload_n 0, 1) := by decide +kernel
theorem dX6_would_36 : decode cX6_would 36 = .ok (.iload_n 1, 1) := by decide +kernel
theorem dX6_would_37 : decode cX6_would 37 = .ok (.iconst 1, 1) := by decide +kernel
theorem dX6_would_38 : decode cX6_would 38 = .ok (.iload_n 2, 1) := by decide +kernel
theorem dX6_would_39 : decode cX6_would 39 = .ok (.invokevirtual 63, 3) := by decide +kernel
theorem dX6_would_42 : decode cX6_would 42 = .ok (.aload_n 0, 1) := by decide +kernel
theorem dX6_would_43 : decode cX6_would 43 = .ok (.iload_n 3, 1) := by decide +kernel
theorem dX6_would_44 : decode cX6_would 44 = .ok (.invokevirtual 163, 3) := by decide +kernel
theorem dX6_would_47 : decode cX6_would 47 = .ok (.istore 4, 2) := by decide +kernel
theorem dX6_would_49 : decode cX6_would 49 = .ok (.aload_n 0, 1) := by decide +kernel
theorem dX6_would_50 : decode cX6_would 50 = .ok (.invokevirtual 143, 3) := by decide +kernel
theorem dX6_would_53 : decode cX6_would 53 = .ok (.iload 4, 2) := by decide +kernel
theorem dX6_would_55 : decode cX6_would 55 = .ok (.ireturn, 1) := by decide +kernel
theorem dX6_count_0 : decode cX6_count 0 = .ok (.iload_n 1, 1) := by decide +kernel
theorem dX6_count_1 : decode cX6_count 1 = .ok (.tableswitch 88 0 9 #[55, 62, 67, 67, 67, 67, 67, 67, 78, 83], 55) := by decide +kernel
theorem dX6_count_56 : decode cX6_count 56 = .ok (.aload_n 0, 1) := by decide +kernel
theorem dX6_count_57 : decode cX6_count 57 = .ok (.getfield 7, 3) := by decide +kernel
theorem dX6_count_60 : decode cX6_count 60 = .ok (.iconst 0, 1) := by decide +kernel
theorem dX6_count_61 : decode cX6_count 61 = .ok (.iaload, 1) := by decide +kernel
theorem dX6_count_62 : decode cX6_count 62 = .ok (.ireturn, 1) := by decide +kernel
theorem dX6_count_63 : decode cX6_count 63 = .ok (.aload_n 0, 1) := by decide +kernel
theorem dX6_count_64 : decode cX6_count 64 = .ok (.invokevirtual 133, 3) := by decide +kernel
theorem dX6_count_67 : decode cX6_count 67 = .ok (.ireturn, 1) := by decide +kernel
theorem dX6_count_68 : decode cX6_count 68 = .ok (.aload_n 0, 1) := by decide +kernel
theorem dX6_count_69 : decode cX6_count 69 = .ok (.getfield 7, 3) := by decide +kernel
theorem dX6_count_72 : decode cX6_count 72 = .ok (.iconst 1, 1) := by decide +kernel
theorem dX6_count_73 : decode cX6_count 73 = .ok (.iload_n 1, 1) := by decide +kernel
theorem dX6_count_74 : decode cX6_count 74 = .ok (.iadd, 1) := by decide +kernel
theorem dX6_count_75 : decode cX6_count 75 = .ok (.iconst 2, 1) := by decide +kernel
theorem dX6_count_76 : decode cX6_count 76 = .ok (.isub, 1) := by decide +kernel
theorem dX6_count_77 : decode cX6_count 77 = .ok (.iaload, 1) := by decide +kernel
theorem dX6_count_78 : decode cX6_count 78 = .ok (.ireturn, 1) := by decide +kernel
theorem dX6_count_79 : decode cX6_count 79 = .ok (.aload_n 0, 1) := by decide +kernel
theorem dX6_count_80 : decode cX6_count 80 = .ok (.getfield 51, 3) := by decide +kernel
theorem dX6_count_83 : decode cX6_count 83 = .ok (.ireturn, 1) := by decide +kernel
theorem dX6_count_84 : decode cX6_count 84 = .ok (.aload_n 0, 1) := by decide +kernel
theorem dX6_count_85 : decode cX6_count 85 = .ok (.getfield 170, 3) := by decide +kernel
theorem dX6_count_88 : decode cX6_count 88 = .ok (.ireturn, 1) := by decide +kernel
theorem dX6_count_89 : decode cX6_count 89 = .ok (.ldc 50, 2) := by decide +kernel
theorem dX6_count_91 : decode cX6_count 91 = .ok (.ireturn, 1) := by decide +kernel
theorem dX6_undo_0 : decode cX6_undo 0 = .ok (.aload_n 0, 1) := by decide +kernel
theorem dX6_undo_1 : decode cX6_undo 1 = .ok (.getfield 51, 3) := by decide +kernel
theorem dX6_undo_4 : decode cX6_undo 4 = .ok (.ifCond .ne 6, 3) := by decide +kernel
theorem dX6_undo_7 : decode cX6_undo 7 = .ok (.ldc 146, 2) := by decide +kernel
theorem dX6_undo_9 : decode cX6_undo 9 = .ok (.ireturn, 1) := by decide +kernel
theorem dX6_undo_10 : decode cX6_undo 10 = .ok (.aload_n 0, 1) := by decide +kernel
theorem dX6_undo_11 : decode cX6_undo 11 = .ok (.dup, 1) := by decide +kernel
theorem dX6_undo_12 : decode cX6_undo 12 = .ok (.getfield 51, 3) := by decide +kernel
theorem dX6_undo_15 : decode cX6_undo 15 = .ok (.iconst 1, 1) := by decide +kernel
theorem dX6_undo_16 : decode cX6_undo 16 = .ok (.isub, 1) := by decide +kernel
theorem dX6_undo_17 : decode cX6_undo 17 = .ok (.putfield 51, 3) := by decide +kernel
theorem dX6_undo_20 : decode cX6_undo 20 = .ok (.iconst 0, 1) := by decide +kernel
theorem dX6_undo_21 : decode cX6_undo 21 = .ok (.istore_n 1, 1) := by decide +kernel
theorem dX6_undo_22 : decode cX6_undo 22 = .ok (.iload_n 1, 1) := by decide +kernel
theorem dX6_undo_23 : decode cX6_undo 23 = .ok (.sipush 158, 3) := by decide +kernel
theorem dX6_undo_26 : decode cX6_undo 26 = .ok (.if_icmp .ge 30, 3) := by decide +kernel
theorem dX6_undo_29 : decode cX6_undo 29 = .ok (.aload_n 0, 1) := by decide +kernel
theorem dX6_undo_30 : decode cX6_undo 30 = .ok (.getfield 7, 3) := by decide +kernel
theorem dX6_undo_33 : decode cX6_undo 33 = .ok (.iload_n 1, 1) := by decide +kernel
theorem dX6_undo_34 : decode cX6_undo 34 = .ok (.aload_n 0, 1) := by decide +kernel
theorem dX6_undo_35 : decode cX6_undo 35 = .ok (.getfield 16, 3) := by decide +kernel
theorem dX6_undo_38 : decode cX6_undo 38 = .ok (.sipush 158, 3) := by decide +kernel
theorem dX6_undo_41 : decode cX6_undo 41 = .ok (.aload_n 0, 1) := by decide +kernel
theorem dX6_undo_42 : decode cX6_undo 42 = .ok (.getfield 51, 3) := by decide +kernel
theorem dX6_undo_45 : decode cX6_undo 45 = .ok (.imul, 1) := by decide +kernel
theorem dX6_undo_46 : decode cX6_undo 46 = .ok (.iload_n 1, 1) := by decide +kernel
theorem dX6_undo_47 : decode cX6_undo 47 = .ok (.iadd, 1) := by decide +kernel
theorem dX6_undo_48 : decode cX6_undo 48 = .ok (.iaload, 1) := by decide +kernel
theorem dX6_undo_49 : decode cX6_undo 49 = .ok (.iastore, 1) := by decide +kernel
theorem dX6_undo_50 : decode cX6_undo 50 = .ok (.iinc 1 1, 3) := by decide +kernel
theorem dX6_undo_53 : decode cX6_undo 53 = .ok (.goto (-31), 3) := by decide +kernel
theorem dX6_undo_56 : decode cX6_undo 56 = .ok (.aload_n 0, 1) := by decide +kernel
theorem dX6_undo_57 : decode cX6_undo 57 = .ok (.getfield 51, 3) := by decide +kernel
theorem dX6_undo_60 : decode cX6_undo 60 = .ok (.ireturn, 1) := by decide +kernel
theorem dX6_type_0 : decode cX6_type 0 = .ok (.iload_n 1, 1) := by decide +kernel
theorem dX6_type_1 : decode cX6_type 1 = .ok (.bipush 32, 2) := by decide +kernel
theorem dX6_type_3 : decode cX6_type 3 = .ok (.bipush 126, 2) := by decide +kernel
theorem dX6_type_5 : decode cX6_type 5 = .ok (.invokestatic 46, 3) := by decide +kernel
theorem dX6_type_8 : decode cX6_type 8 = .ok (.ifCond .ne 6, 3) := by decide +kernel
theorem dX6_type_11 : decode cX6_type 11 = .ok (.ldc 50, 2) := by decide +kernel
theorem dX6_type_13 : decode cX6_type 13 = .ok (.ireturn, 1) := by decide +kernel
theorem dX6_type_14 : decode cX6_type 14 = .ok (.aload_n 0, 1) := by decide +kernel
theorem dX6_type_15 : decode cX6_type 15 = .ok (.getfield 170, 3) := by decide +kernel
theorem dX6_type_18 : decode cX6_type 18 = .ok (.bipush 60, 2) := by decide +kernel
theorem dX6_type_20 : decode cX6_type 20 = .ok (.if_icmp .ne 6, 3) := by decide +kernel
theorem dX6_type_23 : decode cX6_type 23 = .ok (.ldc 162, 2) := by decide +kernel
theorem dX6_type_25 : decode cX6_type 25 = .ok (.ireturn, 1) := by decide +kernel
theorem dX6_type_26 : decode cX6_type 26 = .ok (.aload_n 0, 1) := by decide +kernel
theorem dX6_type_27 : decode cX6_type 27 = .ok (.getfield 19, 3) := by decide +kernel
theorem dX6_type_30 : decode cX6_type 30 = .ok (.aload_n 0, 1) := by decide +kernel
theorem dX6_type_31 : decode cX6_type 31 = .ok (.getfield 170, 3) := by decide +kernel
theorem dX6_type_34 : decode cX6_type 34 = .ok (.iload_n 1, 1) := by decide +kernel
theorem dX6_type_35 : decode cX6_type 35 = .ok (.iastore, 1) := by decide +kernel
theorem dX6_type_36 : decode cX6_type 36 = .ok (.aload_n 0, 1) := by decide +kernel
theorem dX6_type_37 : decode cX6_type 37 = .ok (.dup, 1) := by decide +kernel
theorem dX6_type_38 : decode cX6_type 38 = .ok (.getfield 170, 3) := by decide +kernel
theorem dX6_type_41 : decode cX6_type 41 = .ok (.iconst 1, 1) := by decide +kernel
theorem dX6_type_42 : decode cX6_type 42 = .ok (.iadd, 1) := by decide +kernel
theorem dX6_type_43 : decode cX6_type 43 = .ok (.putfield 170, 3) := by decide +kernel
theorem dX6_type_46 : decode cX6_type 46 = .ok (.aload_n 0, 1) := by decide +kernel
theorem dX6_type_47 : decode cX6_type 47 = .ok (.getfield 170, 3) := by decide +kernel
theorem dX6_type_50 : decode cX6_type 50 = .ok (.ireturn, 1) := by decide +kernel
theorem dX6_clearText_0 : decode cX6_clearText 0 = .ok (.aload_n 0, 1) := by decide +kernel
theorem dX6_clearText_1 : decode cX6_clearText 1 = .ok (.getfield 170, 3) := by decide +kernel
theorem dX6_clearText_4 : decode cX6_clearText 4 = .ok (.istore_n 1, 1) := by decide +kernel
theorem dX6_clearText_5 : decode cX6_clearText 5 = .ok (.aload_n 0, 1) := by decide +kernel
theorem dX6_clearText_6 : decode cX6_clearText 6 = .ok (.iconst 0, 1) := by decide +kernel
theorem dX6_clearText_7 : decode cX6_clearText 7 = .ok (.putfield 170, 3) := by decide +kernel
theorem dX6_clearText_10 : decode cX6_clearText 10 = .ok (.iload_n 1, 1) := by decide +kernel
theorem dX6_clearText_11 : decode cX6_clearText 11 = .ok (.ireturn, 1) := by decide +kernel
theorem dX6_here_0 : decode cX6_here 0 = .ok (.aload_n 0, 1) := by decide +kernel
theorem dX6_here_1 : decode cX6_here 1 = .ok (.getfield 173, 3) := by decide +kernel
theorem dX6_here_4 : decode cX6_here 4 = .ok (.aload_n 0, 1) := by decide +kernel
theorem dX6_here_5 : decode cX6_here 5 = .ok (.getfield 170, 3) := by decide +kernel
theorem dX6_here_8 : decode cX6_here 8 = .ok (.if_icmp .ge 15, 3) := by decide +kernel
theorem dX6_here_11 : decode cX6_here 11 = .ok (.aload_n 0, 1) := by decide +kernel
theorem dX6_here_12 : decode cX6_here 12 = .ok (.getfield 19, 3) := by decide +kernel
theorem dX6_here_15 : decode cX6_here 15 = .ok (.aload_n 0, 1) := by decide +kernel
theorem dX6_here_16 : decode cX6_here 16 = .ok (.getfield 173, 3) := by decide +kernel
theorem dX6_here_19 : decode cX6_here 19 = .ok (.iaload, 1) := by decide +kernel
theorem dX6_here_20 : decode cX6_here 20 = .ok (.goto 4, 3) := by decide +kernel
theorem dX6_here_23 : decode cX6_here 23 = .ok (.iconst (-1), 1) := by decide +kernel
theorem dX6_here_24 : decode cX6_here 24 = .ok (.ireturn, 1) := by decide +kernel
theorem dX6_takes_0 : decode cX6_takes 0 = .ok (.aload_n 0, 1) := by decide +kernel
theorem dX6_takes_1 : decode cX6_takes 1 = .ok (.aload_n 0, 1) := by decide +kernel
theorem dX6_takes_2 : decode cX6_takes 2 = .ok (.getfield 176, 3) := by decide +kernel
theorem dX6_takes_5 : decode cX6_takes 5 = .ok (.ifCond .eq 11, 3) := by decide +kernel
theorem dX6_takes_8 : decode cX6_takes 8 = .ok (.iload_n 1, 1) := by decide +kernel
theorem dX6_takes_9 : decode cX6_takes 9 = .ok (.ifCond .eq 7, 3) := by decide +kernel
theorem dX6_takes_12 : decode cX6_takes 12 = .ok (.iconst 1, 1) := by decide +kernel
theorem dX6_takes_13 : decode cX6_takes 13 = .ok (.goto 4, 3) := by decide +kernel
theorem dX6_takes_16 : decode cX6_takes 16 = .ok (.iconst 0, 1) := by decide +kernel
theorem dX6_takes_17 : decode cX6_takes 17 = .ok (.putfield 176, 3) := by decide +kernel
theorem dX6_takes_20 : decode cX6_takes 20 = .ok (.aload_n 0, 1) := by decide +kernel
theorem dX6_takes_21 : decode cX6_takes 21 = .ok (.dup, 1) := by decide +kernel
theorem dX6_takes_22 : decode cX6_takes 22 = .ok (.getfield 173, 3) := by decide +kernel
theorem dX6_takes_25 : decode cX6_takes 25 = .ok (.aload_n 0, 1) := by decide +kernel
theorem dX6_takes_26 : decode cX6_takes 26 = .ok (.getfield 176, 3) := by decide +kernel
theorem dX6_takes_29 : decode cX6_takes 29 = .ok (.ifCond .eq 7, 3) := by decide +kernel
theorem dX6_takes_32 : decode cX6_takes 32 = .ok (.iconst 1, 1) := by decide +kernel
theorem dX6_takes_33 : decode cX6_takes 33 = .ok (.goto 4, 3) := by decide +kernel
theorem dX6_takes_36 : decode cX6_takes 36 = .ok (.iconst 0, 1) := by decide +kernel
theorem dX6_takes_37 : decode cX6_takes 37 = .ok (.iadd, 1) := by decide +kernel
theorem dX6_takes_38 : decode cX6_takes 38 = .ok (.putfield 173, 3) := by decide +kernel
theorem dX6_takes_41 : decode cX6_takes 41 = .ok (.return_, 1) := by decide +kernel
theorem dX6_readLetter_0 : decode cX6_readLetter 0 = .ok (.aload_n 0, 1) := by decide +kernel
theorem dX6_readLetter_1 : decode cX6_readLetter 1 = .ok (.invokevirtual 179, 3) := by decide +kernel
theorem dX6_readLetter_4 : decode cX6_readLetter 4 = .ok (.istore_n 1, 1) := by decide +kernel
theorem dX6_readLetter_5 : decode cX6_readLetter 5 = .ok (.aload_n 0, 1) := by decide +kernel
theorem dX6_readLetter_6 : decode cX6_readLetter 6 = .ok (.iload_n 1, 1) := by decide +kernel
theorem dX6_readLetter_7 : decode cX6_readLetter 7 = .ok (.bipush 97, 2) := by decide +kernel
theorem dX6_readLetter_9 : decode cX6_readLetter 9 = .ok (.bipush 106, 2) := by decide +kernel
theorem dX6_readLetter_11 : decode cX6_readLetter 11 = .ok (.invokestatic 46, 3) := by decide +kernel
theorem dX6_readLetter_14 : decode cX6_readLetter 14 = .ok (.invokevirtual 182, 3) := by decide +kernel
theorem dX6_readLetter_17 : decode cX6_readLetter 17 = .ok (.iload_n 1, 1) := by decide +kernel
theorem dX6_readLetter_18 : decode cX6_readLetter 18 = .ok (.bipush 97, 2) := by decide +kernel
theorem dX6_readLetter_20 : decode cX6_readLetter 20 = .ok (.isub, 1) := by decide +kernel
theorem dX6_readLetter_21 : decode cX6_readLetter 21 = .ok (.ireturn, 1) := by decide +kernel
theorem dX6_readNumber_0 : decode cX6_readNumber 0 = .ok (.aload_n 0, 1) := by decide +kernel
theorem dX6_readNumber_1 : decode cX6_readNumber 1 = .ok (.invokevirtual 179, 3) := by decide +kernel
theorem dX6_readNumber_4 : decode cX6_readNumber 4 = .ok (.bipush 45, 2) := by decide +kernel
theorem dX6_readNumber_6 : decode cX6_readNumber 6 = .ok (.if_icmp .ne 7, 3) := by decide +kernel
theorem dX6_readNumber_9 : decode cX6_readNumber 9 = .ok (.iconst 1, 1) := by decide +kernel
theorem dX6_readNumber_10 : decode cX6_readNumber 10 = .ok (.goto 4, 3) := by decide +kernel
theorem dX6_readNumber_13 : decode cX6_readNumber 13 = .ok (.iconst 0, 1) := by decide +kernel
theorem dX6_readNumber_14 : decode cX6_readNumber 14 = .ok (.istore_n 1, 1) := by decide +kernel
theorem dX6_readNumber_15 : decode cX6_readNumber 15 = .ok (.aload_n 0, 1) := by decide +kernel
theorem dX6_readNumber_16 : decode cX6_readNumber 16 = .ok (.iconst 1, 1) := by decide +kernel
theorem dX6_readNumber_17 : decode cX6_readNumber 17 = .ok (.invokevirtual 182, 3) := by decide +kernel
theorem dX6_readNumber_20 : decode cX6_readNumber 20 = .ok (.iload_n 1, 1) := by decide +kernel
theorem dX6_readNumber_21 : decode cX6_readNumber 21 = .ok (.ifCond .eq 7, 3) := by decide +kernel
theorem dX6_readNumber_24 : decode cX6_readNumber 24 = .ok (.iconst 0, 1) := by decide +kernel
theorem dX6_readNumber_25 : decode cX6_readNumber 25 = .ok (.goto 17, 3) := by decide +kernel
theorem dX6_readNumber_28 : decode cX6_readNumber 28 = .ok (.aload_n 0, 1) := by decide +kernel
theorem dX6_readNumber_29 : decode cX6_readNumber 29 = .ok (.getfield 19, 3) := by decide +kernel
theorem dX6_readNumber_32 : decode cX6_readNumber 32 = .ok (.aload_n 0, 1) := by decide +kernel
theorem dX6_readNumber_33 : decode cX6_readNumber 33 = .ok (.getfield 173, 3) := by decide +kernel
theorem dX6_readNumber_36 : decode cX6_readNumber 36 = .ok (.iconst 1, 1) := by decide +kernel
theorem dX6_readNumber_37 : decode cX6_readNumber 37 = .ok (.isub, 1) := by decide +kernel
theorem dX6_readNumber_38 : decode cX6_readNumber 38 = .ok (.iaload, 1) := by decide +kernel
theorem dX6_readNumber_39 : decode cX6_readNumber 39 = .ok (.bipush 48, 2) := by decide +kernel
theorem dX6_readNumber_41 : decode cX6_readNumber 41 = .ok (.isub, 1) := by decide +kernel
theorem dX6_readNumber_42 : decode cX6_readNumber 42 = .ok (.istore_n 2, 1) := by decide +kernel
theorem dX6_readNumber_43 : decode cX6_readNumber 43 = .ok (.iload_n 1, 1) := by decide +kernel
theorem dX6_readNumber_44 : decode cX6_readNumber 44 = .ok (.ifCond .eq 7, 3) := by decide +kernel
theorem dX6_readNumber_47 : decode cX6_readNumber 47 = .ok (.iconst 0, 1) := by decide +kernel
theorem dX6_readNumber_48 : decode cX6_readNumber 48 = .ok (.goto 4, 3) := by decide +kernel
theorem dX6_readNumber_51 : decode cX6_readNumber 51 = .ok (.iconst 1, 1) := by decide +kernel
theorem dX6_readNumber_52 : decode cX6_readNumber 52 = .ok (.istore_n 3, 1) := by decide +kernel
theorem dX6_readNumber_53 : decode cX6_readNumber 53 = .ok (.iload_n 3, 1) := by decide +kernel
theorem dX6_readNumber_54 : decode cX6_readNumber 54 = .ok (.iconst 5, 1) := by decide +kernel
theorem dX6_readNumber_55 : decode cX6_readNumber 55 = .ok (.if_icmp .ge 46, 3) := by decide +kernel
theorem dX6_readNumber_58 : decode cX6_readNumber 58 = .ok (.aload_n 0, 1) := by decide +kernel
theorem dX6_readNumber_59 : decode cX6_readNumber 59 = .ok (.invokevirtual 179, 3) := by decide +kernel
theorem dX6_readNumber_62 : decode cX6_readNumber 62 = .ok (.bipush 48, 2) := by decide +kernel
theorem dX6_readNumber_64 : decode cX6_readNumber 64 = .ok (.bipush 57, 2) := by decide +kernel
theorem dX6_readNumber_66 : decode cX6_readNumber 66 = .ok (.invokestatic 46, 3) := by decide +kernel
theorem dX6_readNumber_69 : decode cX6_readNumber 69 = .ok (.ifCond .eq 32, 3) := by decide +kernel
theorem dX6_readNumber_72 : decode cX6_readNumber 72 = .ok (.bipush 10, 2) := by decide +kernel
theorem dX6_readNumber_74 : decode cX6_readNumber 74 = .ok (.iload_n 2, 1) := by decide +kernel
theorem dX6_readNumber_75 : decode cX6_readNumber 75 = .ok (.imul, 1) := by decide +kernel
theorem dX6_readNumber_76 : decode cX6_readNumber 76 = .ok (.aload_n 0, 1) := by decide +kernel
theorem dX6_readNumber_77 : decode cX6_readNumber 77 = .ok (.invokevirtual 179, 3) := by decide +kernel
theorem dX6_readNumber_80 : decode cX6_readNumber 80 = .ok (.iadd, 1) := by decide +kernel
theorem dX6_readNumber_81 : decode cX6_readNumber 81 = .ok (.bipush 48, 2) := by decide +kernel
theorem dX6_readNumber_83 : decode cX6_readNumber 83 = .ok (.isub, 1) := by decide +kernel
theorem dX6_readNumber_84 : decode cX6_readNumber 84 = .ok (.istore_n 2, 1) := by decide +kernel
theorem dX6_readNumber_85 : decode cX6_readNumber 85 = .ok (.iinc 3 1, 3) := by decide +kernel
theorem dX6_readNumber_88 : decode cX6_readNumber 88 = .ok (.aload_n 0, 1) := by decide +kernel
theorem dX6_readNumber_89 : decode cX6_readNumber 89 = .ok (.dup, 1) := by decide +kernel
theorem dX6_readNumber_90 : decode cX6_readNumber 90 = .ok (.getfield 173, 3) := by decide +kernel
theorem dX6_readNumber_93 : decode cX6_readNumber 93 = .ok (.iconst 1, 1) := by decide +kernel
theorem dX6_readNumber_94 : decode cX6_readNumber 94 = .ok (.iadd, 1) := by decide +kernel
theorem dX6_readNumber_95 : decode cX6_readNumber 95 = .ok (.putfield 173, 3) := by decide +kernel
theorem dX6_readNumber_98 : decode cX6_readNumber 98 = .ok (.goto (-45), 3) := by decide +kernel
theorem dX6_readNumber_101 : decode cX6_readNumber 101 = .ok (.aload_n 0, 1) := by decide +kernel
theorem dX6_readNumber_102 : decode cX6_readNumber 102 = .ok (.aload_n 0, 1) := by decide +kernel
theorem dX6_readNumber_103 : decode cX6_readNumber 103 = .ok (.getfield 176, 3) := by decide +kernel
theorem dX6_readNumber_106 : decode cX6_readNumber 106 = .ok (.ifCond .eq 11, 3) := by decide +kernel
theorem dX6_readNumber_109 : decode cX6_readNumber 109 = .ok (.iload_n 3, 1) := by decide +kernel
theorem dX6_readNumber_110 : decode cX6_readNumber 110 = .ok (.ifCond .le 7, 3) := by decide +kernel
theorem dX6_readNumber_113 : decode cX6_readNumber 113 = .ok (.iconst 1, 1) := by decide +kernel
theorem dX6_readNumber_114 : decode cX6_readNumber 114 = .ok (.goto 4, 3) := by decide +kernel
theorem dX6_readNumber_117 : decode cX6_readNumber 117 = .ok (.iconst 0, 1) := by decide +kernel
theorem dX6_readNumber_118 : decode cX6_readNumber 118 = .ok (.putfield 176, 3) := by decide +kernel
theorem dX6_readNumber_121 : decode cX6_readNumber 121 = .ok (.aload_n 0, 1) := by decide +kernel
theorem dX6_readNumber_122 : decode cX6_readNumber 122 = .ok (.getfield 43, 3) := by decide +kernel
theorem dX6_readNumber_125 : decode cX6_readNumber 125 = .ok (.iconst 2, 1) := by decide +kernel
theorem dX6_readNumber_126 : decode cX6_readNumber 126 = .ok (.iload_n 1, 1) := by decide +kernel
theorem dX6_readNumber_127 : decode cX6_readNumber 127 = .ok (.ifCond .eq 8, 3) := by decide +kernel
theorem dX6_readNumber_130 : decode cX6_readNumber 130 = .ok (.iload_n 2, 1) := by decide +kernel
theorem dX6_readNumber_131 : decode cX6_readNumber 131 = .ok (.ineg, 1) := by decide +kernel
theorem dX6_readNumber_132 : decode cX6_readNumber 132 = .ok (.goto 4, 3) := by decide +kernel
theorem dX6_readNumber_135 : decode cX6_readNumber 135 = .ok (.iload_n 2, 1) := by decide +kernel
theorem dX6_readNumber_136 : decode cX6_readNumber 136 = .ok (.iastore, 1) := by decide +kernel
theorem dX6_readNumber_137 : decode cX6_readNumber 137 = .ok (.return_, 1) := by decide +kernel
theorem dX6_kindOf_0 : decode cX6_kindOf 0 = .ok (.iload_n 0, 1) := by decide +kernel
theorem dX6_kindOf_1 : decode cX6_kindOf 1 = .ok (.bipush 43, 2) := by decide +kernel
theorem dX6_kindOf_3 : decode cX6_kindOf 3 = .ok (.if_icmp .ne 7, 3) := by decide +kernel
theorem dX6_kindOf_6 : decode cX6_kindOf 6 = .ok (.iconst 1, 1) := by decide +kernel
theorem dX6_kindOf_7 : decode cX6_kindOf 7 = .ok (.goto 44, 3) := by decide +kernel
theorem dX6_kindOf_10 : decode cX6_kindOf 10 = .ok (.iload_n 0, 1) := by decide +kernel
theorem dX6_kindOf_11 : decode cX6_kindOf 11 = .ok (.bipush 45, 2) := by decide +kernel
theorem dX6_kindOf_13 : decode cX6_kindOf 13 = .ok (.if_icmp .ne 7, 3) := by decide +kernel
theorem dX6_kindOf_16 : decode cX6_kindOf 16 = .ok (.iconst 2, 1) := by decide +kernel
theorem dX6_kindOf_17 : decode cX6_kindOf 17 = .ok (.goto 34, 3) := by decide +kernel
theorem dX6_kindOf_20 : decode cX6_kindOf 20 = .ok (.iload_n 0, 1) := by decide +kernel
theorem dX6_kindOf_21 : decode cX6_kindOf 21 = .ok (.bipush 42, 2) := by decide +kernel
theorem dX6_kindOf_23 : decode cX6_kindOf 23 = .ok (.if_icmp .ne 7, 3) := by decide +kernel
theorem dX6_kindOf_26 : decode cX6_kindOf 26 = .ok (.iconst 3, 1) := by decide +kernel
theorem dX6_kindOf_27 : decode cX6_kindOf 27 = .ok (.goto 24, 3) := by decide +kernel
theorem dX6_kindOf_30 : decode cX6_kindOf 30 = .ok (.iload_n 0, 1) := by decide +kernel
theorem dX6_kindOf_31 : decode cX6_kindOf 31 = .ok (.bipush 94, 2) := by decide +kernel
theorem dX6_kindOf_33 : decode cX6_kindOf 33 = .ok (.if_icmp .ne 7, 3) := by decide +kernel
theorem dX6_kindOf_36 : decode cX6_kindOf 36 = .ok (.iconst 4, 1) := by decide +kernel
theorem dX6_kindOf_37 : decode cX6_kindOf 37 = .ok (.goto 14, 3) := by decide +kernel
theorem dX6_kindOf_40 : decode cX6_kindOf 40 = .ok (.iload_n 0, 1) := by decide +kernel
theorem dX6_kindOf_41 : decode cX6_kindOf 41 = .ok (.bipush 63, 2) := by decide +kernel
theorem dX6_kindOf_43 : decode cX6_kindOf 43 = .ok (.if_icmp .ne 7, 3) := by decide +kernel
theorem dX6_kindOf_46 : decode cX6_kindOf 46 = .ok (.iconst 5, 1) := by decide +kernel
theorem dX6_kindOf_47 : decode cX6_kindOf 47 = .ok (.goto 4, 3) := by decide +kernel
theorem dX6_kindOf_50 : decode cX6_kindOf 50 = .ok (.iconst 0, 1) := by decide +kernel
theorem dX6_kindOf_51 : decode cX6_kindOf 51 = .ok (.ireturn, 1) := by decide +kernel
theorem dX6_readFormula_0 : decode cX6_readFormula 0 = .ok (.aload_n 0, 1) := by decide +kernel
theorem dX6_readFormula_1 : decode cX6_readFormula 1 = .ok (.getfield 43, 3) := by decide +kernel
theorem dX6_readFormula_4 : decode cX6_readFormula 4 = .ok (.iconst 3, 1) := by decide +kernel
theorem dX6_readFormula_5 : decode cX6_readFormula 5 = .ok (.aload_n 0, 1) := by decide +kernel
theorem dX6_readFormula_6 : decode cX6_readFormula 6 = .ok (.invokevirtual 186, 3) := by decide +kernel
theorem dX6_readFormula_9 : decode cX6_readFormula 9 = .ok (.iastore, 1) := by decide +kernel
theorem dX6_readFormula_10 : decode cX6_readFormula 10 = .ok (.aload_n 0, 1) := by decide +kernel
theorem dX6_readFormula_11 : decode cX6_readFormula 11 = .ok (.invokevirtual 179, 3) := by decide +kernel
theorem dX6_readFormula_14 : decode cX6_readFormula 14 = .ok (.invokestatic 189, 3) := by decide +kernel
theorem dX6_readFormula_17 : decode cX6_readFormula 17 = .ok (.istore_n 1, 1) := by decide +kernel
theorem dX6_readFormula_18 : decode cX6_readFormula 18 = .ok (.aload_n 0, 1) := by decide +kernel
theorem dX6_readFormula_19 : decode cX6_readFormula 19 = .ok (.iload_n 1, 1) := by decide +kernel
theorem dX6_readFormula_20 : decode cX6_readFormula 20 = .ok (.ifCond .le 7, 3) := by decide +kernel
theorem dX6_readFormula_23 : decode cX6_readFormula 23 = .ok (.iconst 1, 1) := by decide +kernel
theorem dX6_readFormula_24 : decode cX6_readFormula 24 = .ok (.goto 4, 3) := by decide +kernel
theorem dX6_readFormula_27 : decode cX6_readFormula 27 = .ok (.iconst 0, 1) := by decide +kernel
theorem dX6_readFormula_28 : decode cX6_readFormula 28 = .ok (.invokevirtual 182, 3) := by decide +kernel
theorem dX6_readFormula_31 : decode cX6_readFormula 31 = .ok (.aload_n 0, 1) := by decide +kernel
theorem dX6_readFormula_32 : decode cX6_readFormula 32 = .ok (.getfield 43, 3) := by decide +kernel
theorem dX6_readFormula_35 : decode cX6_readFormula 35 = .ok (.iconst 1, 1) := by decide +kernel
theorem dX6_readFormula_36 : decode cX6_readFormula 36 = .ok (.iload_n 1, 1) := by decide +kernel
theorem dX6_readFormula_37 : decode cX6_readFormula 37 = .ok (.iastore, 1) := by decide +kernel
theorem dX6_readFormula_38 : decode cX6_readFormula 38 = .ok (.aload_n 0, 1) := by decide +kernel
theorem dX6_readFormula_39 : decode cX6_readFormula 39 = .ok (.getfield 43, 3) := by decide +kernel
theorem dX6_readFormula_42 : decode cX6_readFormula 42 = .ok (.iconst 4, 1) := by decide +kernel
theorem dX6_readFormula_43 : decode cX6_readFormula 43 = .ok (.aload_n 0, 1) := by decide +kernel
theorem dX6_readFormula_44 : decode cX6_readFormula 44 = .ok (.invokevirtual 186, 3) := by decide +kernel
theorem dX6_readFormula_47 : decode cX6_readFormula 47 = .ok (.iastore, 1) := by decide +kernel
theorem dX6_readFormula_48 : decode cX6_readFormula 48 = .ok (.iload_n 1, 1) := by decide +kernel
theorem dX6_readFormula_49 : decode cX6_readFormula 49 = .ok (.iconst 5, 1) := by decide +kernel
theorem dX6_readFormula_50 : decode cX6_readFormula 50 = .ok (.if_icmp .ne 31, 3) := by decide +kernel
theorem dX6_readFormula_53 : decode cX6_readFormula 53 = .ok (.aload_n 0, 1) := by decide +kernel
theorem dX6_readFormula_54 : decode cX6_readFormula 54 = .ok (.aload_n 0, 1) := by decide +kernel
theorem dX6_readFormula_55 : decode cX6_readFormula 55 = .ok (.invokevirtual 179, 3) := by decide +kernel
theorem dX6_readFormula_58 : decode cX6_readFormula 58 = .ok (.bipush 58, 2) := by decide +kernel
theorem dX6_readFormula_60 : decode cX6_readFormula 60 = .ok (.if_icmp .ne 7, 3) := by decide +kernel
theorem dX6_readFormula_63 : decode cX6_readFormula 63 = .ok (.iconst 1, 1) := by decide +kernel
theorem dX6_readFormula_64 : decode cX6_readFormula 64 = .ok (.goto 4, 3) := by decide +kernel
theorem dX6_readFormula_67 : decode cX6_readFormula 67 = .ok (.iconst 0, 1) := by decide +kernel
theorem dX6_readFormula_68 : decode cX6_readFormula 68 = .ok (.invokevirtual 182, 3) := by decide +kernel
theorem dX6_readFormula_71 : decode cX6_readFormula 71 = .ok (.aload_n 0, 1) := by decide +kernel
theorem dX6_readFormula_72 : decode cX6_readFormula 72 = .ok (.getfield 43, 3) := by decide +kernel
theorem dX6_readFormula_75 : decode cX6_readFormula 75 = .ok (.iconst 5, 1) := by decide +kernel
theorem dX6_readFormula_76 : decode cX6_readFormula 76 = .ok (.aload_n 0, 1) := by decide +kernel
theorem dX6_readFormula_77 : decode cX6_readFormula 77 = .ok (.invokevirtual 186, 3) := by decide +kernel
theorem dX6_readFormula_80 : decode cX6_readFormula 80 = .ok (.iastore, 1) := by decide +kernel
theorem dX6_readFormula_81 : decode cX6_readFormula 81 = .ok (.return_, 1) := by decide +kernel
theorem dX6_reads_0 : decode cX6_reads 0 = .ok (.aload_n 0, 1) := by decide +kernel
theorem dX6_reads_1 : decode cX6_reads 1 = .ok (.iconst 1, 1) := by decide +kernel
theorem dX6_reads_2 : decode cX6_reads 2 = .ok (.putfield 176, 3) := by decide +kernel
theorem dX6_reads_5 : decode cX6_reads 5 = .ok (.iconst 1, 1) := by decide +kernel
theorem dX6_reads_6 : decode cX6_reads 6 = .ok (.istore_n 1, 1) := by decide +kernel
theorem dX6_reads_7 : decode cX6_reads 7 = .ok (.iload_n 1, 1) := by decide +kernel
theorem dX6_reads_8 : decode cX6_reads 8 = .ok (.bipush 6, 2) := by decide +kernel
theorem dX6_reads_10 : decode cX6_reads 10 = .ok (.if_icmp .ge 16, 3) := by decide +kernel
theorem dX6_reads_13 : decode cX6_reads 13 = .ok (.aload_n 0, 1) := by decide +kernel
theorem dX6_reads_14 : decode cX6_reads 14 = .ok (.getfield 43, 3) := by decide +kernel
theorem dX6_reads_17 : decode cX6_reads 17 = .ok (.iload_n 1, 1) := by decide +kernel
theorem dX6_reads_18 : decode cX6_reads 18 = .ok (.iconst 0, 1) := by decide +kernel
theorem dX6_reads_19 : decode cX6_reads 19 = .ok (.iastore, 1) := by decide +kernel
theorem dX6_reads_20 : decode cX6_reads 20 = .ok (.iinc 1 1, 3) := by decide +kernel
theorem dX6_reads_23 : decode cX6_reads 23 = .ok (.goto (-16), 3) := by decide +kernel
theorem dX6_reads_26 : decode cX6_reads 26 = .ok (.aload_n 0, 1) := by decide +kernel
theorem dX6_reads_27 : decode cX6_reads 27 = .ok (.getfield 43, 3) := by decide +kernel
theorem dX6_reads_30 : decode cX6_reads 30 = .ok (.iconst 0, 1) := by decide +kernel
theorem dX6_reads_31 : decode cX6_reads 31 = .ok (.aload_n 0, 1) := by decide +kernel
theorem dX6_reads_32 : decode cX6_reads 32 = .ok (.invokevirtual 186, 3) := by decide +kernel
theorem dX6_reads_35 : decode cX6_reads 35 = .ok (.iastore, 1) := by decide +kernel
theorem dX6_reads_36 : decode cX6_reads 36 = .ok (.aload_n 0, 1) := by decide +kernel
theorem dX6_reads_37 : decode cX6_reads 37 = .ok (.aload_n 0, 1) := by decide +kernel
theorem dX6_reads_38 : decode cX6_reads 38 = .ok (.invokevirtual 179, 3) := by decide +kernel
theorem dX6_reads_41 : decode cX6_reads 41 = .ok (.bipush 61, 2) := by decide +kernel
theorem dX6_reads_43 : decode cX6_reads 43 = .ok (.if_icmp .ne 7, 3) := by decide +kernel
theorem dX6_reads_46 : decode cX6_reads 46 = .ok (.iconst 1, 1) := by decide +kernel
theorem dX6_reads_47 : decode cX6_reads 47 = .ok (.goto 4, 3) := by decide +kernel
theorem dX6_reads_50 : decode cX6_reads 50 = .ok (.iconst 0, 1) := by decide +kernel
theorem dX6_reads_51 : decode cX6_reads 51 = .ok (.invokevirtual 182, 3) := by decide +kernel
theorem dX6_reads_54 : decode cX6_reads 54 = .ok (.aload_n 0, 1) := by decide +kernel
theorem dX6_reads_55 : decode cX6_reads 55 = .ok (.getfield 176, 3) := by decide +kernel
theorem dX6_reads_58 : decode cX6_reads 58 = .ok (.ifCond .eq 33, 3) := by decide +kernel
theorem dX6_reads_61 : decode cX6_reads 61 = .ok (.aload_n 0, 1) := by decide +kernel
theorem dX6_reads_62 : decode cX6_reads 62 = .ok (.invokevirtual 179, 3) := by decide +kernel
theorem dX6_reads_65 : decode cX6_reads 65 = .ok (.bipush 45, 2) := by decide +kernel
theorem dX6_reads_67 : decode cX6_reads 67 = .ok (.if_icmp .eq 17, 3) := by decide +kernel
theorem dX6_reads_70 : decode cX6_reads 70 = .ok (.aload_n 0, 1) := by decide +kernel
theorem dX6_reads_71 : decode cX6_reads 71 = .ok (.invokevirtual 179, 3) := by decide +kernel
theorem dX6_reads_74 : decode cX6_reads 74 = .ok (.bipush 48, 2) := by decide +kernel
theorem dX6_reads_76 : decode cX6_reads 76 = .ok (.bipush 57, 2) := by decide +kernel
theorem dX6_reads_78 : decode cX6_reads 78 = .ok (.invokestatic 46, 3) := by decide +kernel
theorem dX6_reads_81 : decode cX6_reads 81 = .ok (.ifCond .eq 10, 3) := by decide +kernel
theorem dX6_reads_84 : decode cX6_reads 84 = .ok (.aload_n 0, 1) := by decide +kernel
theorem dX6_reads_85 : decode cX6_reads 85 = .ok (.invokevirtual 192, 3) := by decide +kernel
theorem dX6_reads_88 : decode cX6_reads 88 = .ok (.goto 7, 3) := by decide +kernel
theorem dX6_reads_91 : decode cX6_reads 91 = .ok (.aload_n 0, 1) := by decide +kernel
theorem dX6_reads_92 : decode cX6_reads 92 = .ok (.invokevirtual 195, 3) := by decide +kernel
theorem dX6_reads_95 : decode cX6_reads 95 = .ok (.aload_n 0, 1) := by decide +kernel
theorem dX6_reads_96 : decode cX6_reads 96 = .ok (.aload_n 0, 1) := by decide +kernel
theorem dX6_reads_97 : decode cX6_reads 97 = .ok (.invokevirtual 179, 3) := by decide +kernel
theorem dX6_reads_100 : decode cX6_reads 100 = .ok (.bipush 59, 2) := by decide +kernel
theorem dX6_reads_102 : decode cX6_reads 102 = .ok (.if_icmp .ne 7, 3) := by decide +kernel
theorem dX6_reads_105 : decode cX6_reads 105 = .ok (.iconst 1, 1) := by decide +kernel
theorem dX6_reads_106 : decode cX6_reads 106 = .ok (.goto 4, 3) := by decide +kernel
theorem dX6_reads_109 : decode cX6_reads 109 = .ok (.iconst 0, 1) := by decide +kernel
theorem dX6_reads_110 : decode cX6_reads 110 = .ok (.invokevirtual 182, 3) := by decide +kernel
theorem dX6_reads_113 : decode cX6_reads 113 = .ok (.aload_n 0, 1) := by decide +kernel
theorem dX6_reads_114 : decode cX6_reads 114 = .ok (.getfield 176, 3) := by decide +kernel
theorem dX6_reads_117 : decode cX6_reads 117 = .ok (.ireturn, 1) := by decide +kernel
theorem dX6_brokenAt_0 : decode cX6_brokenAt 0 = .ok (.aload_n 0, 1) := by decide +kernel
theorem dX6_brokenAt_1 : decode cX6_brokenAt 1 = .ok (.iconst 0, 1) := by decide +kernel
theorem dX6_brokenAt_2 : decode cX6_brokenAt 2 = .ok (.putfield 173, 3) := by decide +kernel
theorem dX6_brokenAt_5 : decode cX6_brokenAt 5 = .ok (.aload_n 0, 1) := by decide +kernel
theorem dX6_brokenAt_6 : decode cX6_brokenAt 6 = .ok (.getfield 173, 3) := by decide +kernel
theorem dX6_brokenAt_9 : decode cX6_brokenAt 9 = .ok (.aload_n 0, 1) := by decide +kernel
theorem dX6_brokenAt_10 : decode cX6_brokenAt 10 = .ok (.getfield 170, 3) := by decide +kernel
theorem dX6_brokenAt_13 : decode cX6_brokenAt 13 = .ok (.if_icmp .ge 20, 3) := by decide +kernel
theorem dX6_brokenAt_16 : decode cX6_brokenAt 16 = .ok (.aload_n 0, 1) := by decide +kernel
theorem dX6_brokenAt_17 : decode cX6_brokenAt 17 = .ok (.getfield 173, 3) := by decide +kernel
theorem dX6_brokenAt_20 : decode cX6_brokenAt 20 = .ok (.istore_n 1, 1) := by decide +kernel
theorem dX6_brokenAt_21 : decode cX6_brokenAt 21 = .ok (.aload_n 0, 1) := by decide +kernel
theorem dX6_brokenAt_22 : decode cX6_brokenAt 22 = .ok (.invokevirtual 198, 3) := by decide +kernel
theorem dX6_brokenAt_25 : decode cX6_brokenAt 25 = .ok (.ifCond .ne 5, 3) := by decide +kernel
theorem dX6_brokenAt_28 : decode cX6_brokenAt 28 = .ok (.iload_n 1, 1) := by decide +kernel
theorem dX6_brokenAt_29 : decode cX6_brokenAt 29 = .ok (.ireturn, 1) := by decide +kernel
theorem dX6_brokenAt_30 : decode cX6_brokenAt 30 = .ok (.goto (-25), 3) := by decide +kernel
theorem dX6_brokenAt_33 : decode cX6_brokenAt 33 = .ok (.iconst (-1), 1) := by decide +kernel
theorem dX6_brokenAt_34 : decode cX6_brokenAt 34 = .ok (.ireturn, 1) := by decide +kernel
theorem dX6_fault_0 : decode cX6_fault 0 = .ok (.iload_n 1, 1) := by decide +kernel
theorem dX6_fault_1 : decode cX6_fault 1 = .ok (.iconst 0, 1) := by decide +kernel
theorem dX6_fault_2 : decode cX6_fault 2 = .ok (.iconst 1, 1) := by decide +kernel
theorem dX6_fault_3 : decode cX6_fault 3 = .ok (.invokestatic 46, 3) := by decide +kernel
theorem dX6_fault_6 : decode cX6_fault 6 = .ok (.ifCond .ne 6, 3) := by decide +kernel
theorem dX6_fault_9 : decode cX6_fault 9 = .ok (.ldc 50, 2) := by decide +kernel
theorem dX6_fault_11 : decode cX6_fault 11 = .ok (.ireturn, 1) := by decide +kernel
theorem dX6_fault_12 : decode cX6_fault 12 = .ok (.aload_n 0, 1) := by decide +kernel
theorem dX6_fault_13 : decode cX6_fault 13 = .ok (.invokevirtual 202, 3) := by decide +kernel
theorem dX6_fault_16 : decode cX6_fault 16 = .ok (.istore_n 2, 1) := by decide +kernel
theorem dX6_fault_17 : decode cX6_fault 17 = .ok (.iload_n 2, 1) := by decide +kernel
theorem dX6_fault_18 : decode cX6_fault 18 = .ok (.ifCond .ge 8, 3) := by decide +kernel
theorem dX6_fault_21 : decode cX6_fault 21 = .ok (.ldc 87, 2) := by decide +kernel
theorem dX6_fault_23 : decode cX6_fault 23 = .ok (.goto 17, 3) := by decide +kernel
theorem dX6_fault_26 : decode cX6_fault 26 = .ok (.iload_n 1, 1) := by decide +kernel
theorem dX6_fault_27 : decode cX6_fault 27 = .ok (.ifCond .ne 7, 3) := by decide +kernel
theorem dX6_fault_30 : decode cX6_fault 30 = .ok (.iload_n 2, 1) := by decide +kernel
theorem dX6_fault_31 : decode cX6_fault 31 = .ok (.goto 9, 3) := by decide +kernel
theorem dX6_fault_34 : decode cX6_fault 34 = .ok (.aload_n 0, 1) := by decide +kernel
theorem dX6_fault_35 : decode cX6_fault 35 = .ok (.getfield 173, 3) := by decide +kernel
theorem dX6_fault_38 : decode cX6_fault 38 = .ok (.iload_n 2, 1) := by decide +kernel
theorem dX6_fault_39 : decode cX6_fault 39 = .ok (.isub, 1) := by decide +kernel
theorem dX6_fault_40 : decode cX6_fault 40 = .ok (.ireturn, 1) := by decide +kernel
theorem dX6_play_0 : decode cX6_play 0 = .ok (.aload_n 0, 1) := by decide +kernel
theorem dX6_play_1 : decode cX6_play 1 = .ok (.invokevirtual 202, 3) := by decide +kernel
theorem dX6_play_4 : decode cX6_play 4 = .ok (.ifCond .lt 6, 3) := by decide +kernel
theorem dX6_play_7 : decode cX6_play 7 = .ok (.ldc 146, 2) := by decide +kernel
theorem dX6_play_9 : decode cX6_play 9 = .ok (.ireturn, 1) := by decide +kernel
theorem dX6_play_10 : decode cX6_play 10 = .ok (.aload_n 0, 1) := by decide +kernel
theorem dX6_play_11 : decode cX6_play 11 = .ok (.invokevirtual 76, 3) := by decide +kernel
theorem dX6_play_14 : decode cX6_play 14 = .ok (.aload_n 0, 1) := by decide +kernel
theorem dX6_play_15 : decode cX6_play 15 = .ok (.iconst 0, 1) := by decide +kernel
theorem dX6_play_16 : decode cX6_play 16 = .ok (.putfield 173, 3) := by decide +kernel
theorem dX6_play_19 : decode cX6_play 19 = .ok (.aload_n 0, 1) := by decide +kernel
theorem dX6_play_20 : decode cX6_play 20 = .ok (.getfield 7, 3) := by decide +kernel
theorem dX6_play_23 : decode cX6_play 23 = .ok (.iconst 0, 1) := by decide +kernel
theorem dX6_play_24 : decode cX6_play 24 = .ok (.iaload, 1) := by decide +kernel
theorem dX6_play_25 : decode cX6_play 25 = .ok (.istore_n 1, 1) := by decide +kernel
theorem dX6_play_26 : decode cX6_play 26 = .ok (.aload_n 0, 1) := by decide +kernel
theorem dX6_play_27 : decode cX6_play 27 = .ok (.getfield 173, 3) := by decide +kernel
theorem dX6_play_30 : decode cX6_play 30 = .ok (.aload_n 0, 1) := by decide +kernel
theorem dX6_play_31 : decode cX6_play 31 = .ok (.getfield 170, 3) := by decide +kernel
theorem dX6_play_34 : decode cX6_play 34 = .ok (.if_icmp .ge 58, 3) := by decide +kernel
theorem dX6_play_37 : decode cX6_play 37 = .ok (.aload_n 0, 1) := by decide +kernel
theorem dX6_play_38 : decode cX6_play 38 = .ok (.invokevirtual 198, 3) := by decide +kernel
theorem dX6_play_41 : decode cX6_play 41 = .ok (.ifCond .eq 46, 3) := by decide +kernel
theorem dX6_play_44 : decode cX6_play 44 = .ok (.aload_n 0, 1) := by decide +kernel
theorem dX6_play_45 : decode cX6_play 45 = .ok (.aload_n 0, 1) := by decide +kernel
theorem dX6_play_46 : decode cX6_play 46 = .ok (.getfield 43, 3) := by decide +kernel
theorem dX6_play_49 : decode cX6_play 49 = .ok (.iconst 0, 1) := by decide +kernel
theorem dX6_play_50 : decode cX6_play 50 = .ok (.iaload, 1) := by decide +kernel
theorem dX6_play_51 : decode cX6_play 51 = .ok (.aload_n 0, 1) := by decide +kernel
theorem dX6_play_52 : decode cX6_play 52 = .ok (.getfield 43, 3) := by decide +kernel
theorem dX6_play_55 : decode cX6_play 55 = .ok (.iconst 1, 1) := by decide +kernel
theorem dX6_play_56 : decode cX6_play 56 = .ok (.iaload, 1) := by decide +kernel
theorem dX6_play_57 : decode cX6_play 57 = .ok (.aload_n 0, 1) := by decide +kernel
theorem dX6_play_58 : decode cX6_play 58 = .ok (.getfield 43, 3) := by decide +kernel
theorem dX6_play_61 : decode cX6_play 61 = .ok (.iconst 2, 1) := by decide +kernel
theorem dX6_play_62 : decode cX6_play 62 = .ok (.iaload, 1) := by decide +kernel
theorem dX6_play_63 : decode cX6_play 63 = .ok (.aload_n 0, 1) := by decide +kernel
theorem dX6_play_64 : decode cX6_play 64 = .ok (.getfield 43, 3) := by decide +kernel
theorem dX6_play_67 : decode cX6_play 67 = .ok (.iconst 3, 1) := by decide +kernel
theorem dX6_play_68 : decode cX6_play 68 = .ok (.iaload, 1) := by decide +kernel
theorem dX6_play_69 : decode cX6_play 69 = .ok (.aload_n 0, 1) := by decide +kernel
theorem dX6_play_70 : decode cX6_play 70 = .ok (.getfield 43, 3) := by decide +kernel
theorem dX6_play_73 : decode cX6_play 73 = .ok (.iconst 4, 1) := by decide +kernel
theorem dX6_play_74 : decode cX6_play 74 = .ok (.iaload, 1) := by decide +kernel
theorem dX6_play_75 : decode cX6_play 75 = .ok (.aload_n 0, 1) := by decide +kernel
theorem dX6_play_76 : decode cX6_play 76 = .ok (.getfield 43, 3) := by decide +kernel
theorem dX6_play_79 : decode cX6_play 79 = .ok (.iconst 5, 1) := by decide +kernel
theorem dX6_play_80 : decode cX6_play 80 = .ok (.iaload, 1) := by decide +kernel
theorem dX6_play_81 : decode cX6_play 81 = .ok (.invokevirtual 79, 3) := by decide +kernel
theorem dX6_play_84 : decode cX6_play 84 = .ok (.goto 4, 3) := by decide +kernel
theorem dX6_play_87 : decode cX6_play 87 = .ok (.iload_n 1, 1) := by decide +kernel
theorem dX6_play_88 : decode cX6_play 88 = .ok (.istore_n 1, 1) := by decide +kernel
theorem dX6_play_89 : decode cX6_play 89 = .ok (.goto (-63), 3) := by decide +kernel
theorem dX6_play_92 : decode cX6_play 92 = .ok (.aload_n 0, 1) := by decide +kernel
theorem dX6_play_93 : decode cX6_play 93 = .ok (.iload_n 1, 1) := by decide +kernel
theorem dX6_play_94 : decode cX6_play 94 = .ok (.invokevirtual 83, 3) := by decide +kernel
theorem dX6_play_97 : decode cX6_play 97 = .ok (.ireturn, 1) := by decide +kernel
end
section
theorem dL_law_0 : decode cL_law 0 = .ok (.new 7, 3) := by decide +kernel
theorem dL_law_3 : decode cL_law 3 = .ok (.dup, 1) := by decide +kernel
theorem dL_law_4 : decode cL_law 4 = .ok (.invokespecial 9, 3) := by decide +kernel
theorem dL_law_7 : decode cL_law 7 = .ok (.astore_n 1, 1) := by decide +kernel
theorem dL_law_8 : decode cL_law 8 = .ok (.new 10, 3) := by decide +kernel
theorem dL_law_11 : decode cL_law 11 = .ok (.dup, 1) := by decide +kernel
theorem dL_law_12 : decode cL_law 12 = .ok (.invokespecial 12, 3) := by decide +kernel
theorem dL_law_15 : decode cL_law 15 = .ok (.astore_n 2, 1) := by decide +kernel
theorem dL_law_16 : decode cL_law 16 = .ok (.iconst 0, 1) := by decide +kernel
theorem dL_law_17 : decode cL_law 17 = .ok (.istore_n 3, 1) := by decide +kernel
theorem dL_law_18 : decode cL_law 18 = .ok (.iload_n 3, 1) := by decide +kernel
theorem dL_law_19 : decode cL_law 19 = .ok (.aload_n 0, 1) := by decide +kernel
theorem dL_law_20 : decode cL_law 20 = .ok (.arraylength, 1) := by decide +kernel
theorem dL_law_21 : decode cL_law 21 = .ok (.bipush 6, 2) := by decide +kernel
theorem dL_law_23 : decode cL_law 23 = .ok (.isub, 1) := by decide +kernel
theorem dL_law_24 : decode cL_law 24 = .ok (.if_icmp .gt 613, 3) := by decide +kernel
theorem dL_law_27 : decode cL_law 27 = .ok (.aload_n 0, 1) := by decide +kernel
theorem dL_law_28 : decode cL_law 28 = .ok (.iload_n 3, 1) := by decide +kernel
theorem dL_law_29 : decode cL_law 29 = .ok (.iaload, 1) := by decide +kernel
theorem dL_law_30 : decode cL_law 30 = .ok (.bipush 31, 2) := by decide +kernel
theorem dL_law_32 : decode cL_law 32 = .ok (.iand, 1) := by decide +kernel
theorem dL_law_33 : decode cL_law 33 = .ok (.tableswitch 598 0 18 #[91, 124, 187, 220, 243, 266, 299, 322, 345, 378, 401, 424, 447, 490, 513, 526, 549, 562, 585], 91) := by decide +kernel
theorem dL_law_124 : decode cL_law 124 = .ok (.aload_n 1, 1) := by decide +kernel
theorem dL_law_125 : decode cL_law 125 = .ok (.aload_n 0, 1) := by decide +kernel
theorem dL_law_126 : decode cL_law 126 = .ok (.iload_n 3, 1) := by decide +kernel
theorem dL_law_127 : decode cL_law 127 = .ok (.iconst 1, 1) := by decide +kernel
theorem dL_law_128 : decode cL_law 128 = .ok (.iadd, 1) := by decide +kernel
theorem dL_law_129 : decode cL_law 129 = .ok (.iaload, 1) := by decide +kernel
theorem dL_law_130 : decode cL_law 130 = .ok (.aload_n 0, 1) := by decide +kernel
theorem dL_law_131 : decode cL_law 131 = .ok (.iload_n 3, 1) := by decide +kernel
theorem dL_law_132 : decode cL_law 132 = .ok (.iconst 2, 1) := by decide +kernel
theorem dL_law_133 : decode cL_law 133 = .ok (.iadd, 1) := by decide +kernel
theorem dL_law_134 : decode cL_law 134 = .ok (.iaload, 1) := by decide +kernel
theorem dL_law_135 : decode cL_law 135 = .ok (.invokevirtual 13, 3) := by decide +kernel
theorem dL_law_138 : decode cL_law 138 = .ok (.aload_n 2, 1) := by decide +kernel
theorem dL_law_139 : decode cL_law 139 = .ok (.aload_n 0, 1) := by decide +kernel
theorem dL_law_140 : decode cL_law 140 = .ok (.iload_n 3, 1) := by decide +kernel
theorem dL_law_141 : decode cL_law 141 = .ok (.iconst 1, 1) := by decide +kernel
theorem dL_law_142 : decode cL_law 142 = .ok (.iadd, 1) := by decide +kernel
theorem dL_law_143 : decode cL_law 143 = .ok (.iaload, 1) := by decide +kernel
theorem dL_law_144 : decode cL_law 144 = .ok (.aload_n 0, 1) := by decide +kernel
theorem dL_law_145 : decode cL_law 145 = .ok (.iload_n 3, 1) := by decide +kernel
theorem dL_law_146 : decode cL_law 146 = .ok (.iconst 2, 1) := by decide +kernel
theorem dL_law_147 : decode cL_law 147 = .ok (.iadd, 1) := by decide +kernel
theorem dL_law_148 : decode cL_law 148 = .ok (.iaload, 1) := by decide +kernel
theorem dL_law_149 : decode cL_law 149 = .ok (.invokevirtual 17, 3) := by decide +kernel
theorem dL_law_152 : decode cL_law 152 = .ok (.if_icmp .eq 479, 3) := by decide +kernel
theorem dL_law_155 : decode cL_law 155 = .ok (.iconst 0, 1) := by decide +kernel
theorem dL_law_156 : decode cL_law 156 = .ok (.ireturn, 1) := by decide +kernel
theorem dL_law_157 : decode cL_law 157 = .ok (.aload_n 1, 1) := by decide +kernel
theorem dL_law_158 : decode cL_law 158 = .ok (.aload_n 0, 1) := by decide +kernel
theorem dL_law_159 : decode cL_law 159 = .ok (.iload_n 3, 1) := by decide +kernel
theorem dL_law_160 : decode cL_law 160 = .ok (.iconst 1, 1) := by decide +kernel
theorem dL_law_161 : decode cL_law 161 = .ok (.iadd, 1) := by decide +kernel
theorem dL_law_162 : decode cL_law 162 = .ok (.iaload, 1) := by decide +kernel
theorem dL_law_163 : decode cL_law 163 = .ok (.aload_n 0, 1) := by decide +kernel
theorem dL_law_164 : decode cL_law 164 = .ok (.iload_n 3, 1) := by decide +kernel
theorem dL_law_165 : decode cL_law 165 = .ok (.iconst 2, 1) := by decide +kernel
theorem dL_law_166 : decode cL_law 166 = .ok (.iadd, 1) := by decide +kernel
theorem dL_law_167 : decode cL_law 167 = .ok (.iaload, 1) := by decide +kernel
theorem dL_law_168 : decode cL_law 168 = .ok (.aload_n 0, 1) := by decide +kernel
theorem dL_law_169 : decode cL_law 169 = .ok (.iload_n 3, 1) := by decide +kernel
theorem dL_law_170 : decode cL_law 170 = .ok (.iconst 3, 1) := by decide +kernel
theorem dL_law_171 : decode cL_law 171 = .ok (.iadd, 1) := by decide +kernel
theorem dL_law_172 : decode cL_law 172 = .ok (.iaload, 1) := by decide +kernel
theorem dL_law_173 : decode cL_law 173 = .ok (.aload_n 0, 1) := by decide +kernel
theorem dL_law_174 : decode cL_law 174 = .ok (.iload_n 3, 1) := by decide +kernel
theorem dL_law_175 : decode cL_law 175 = .ok (.iconst 4, 1) := by decide +kernel
theorem dL_law_176 : decode cL_law 176 = .ok (.iadd, 1) := by decide +kernel
theorem dL_law_177 : decode cL_law 177 = .ok (.iaload, 1) := by decide +kernel
theorem dL_law_178 : decode cL_law 178 = .ok (.aload_n 0, 1) := by decide +kernel
theorem dL_law_179 : decode cL_law 179 = .ok (.iload_n 3, 1) := by decide +kernel
theorem dL_law_180 : decode cL_law 180 = .ok (.iconst 5, 1) := by decide +kernel
theorem dL_law_181 : decode cL_law 181 = .ok (.iadd, 1) := by decide +kernel
theorem dL_law_182 : decode cL_law 182 = .ok (.iaload, 1) := by decide +kernel
theorem dL_law_183 : decode cL_law 183 = .ok (.invokevirtual 18, 3) := by decide +kernel
theorem dL_law_186 : decode cL_law 186 = .ok (.aload_n 2, 1) := by decide +kernel
theorem dL_law_187 : decode cL_law 187 = .ok (.aload_n 0, 1) := by decide +kernel
theorem dL_law_188 : decode cL_law 188 = .ok (.iload_n 3, 1) := by decide +kernel
theorem dL_law_189 : decode cL_law 189 = .ok (.iconst 1, 1) := by decide +kernel
theorem dL_law_190 : decode cL_law 190 = .ok (.iadd, 1) := by decide +kernel
theorem dL_law_191 : decode cL_law 191 = .ok (.iaload, 1) := by decide +kernel
theorem dL_law_192 : decode cL_law 192 = .ok (.aload_n 0, 1) := by decide +kernel
theorem dL_law_193 : decode cL_law 193 = .ok (.iload_n 3, 1) := by decide +kernel
theorem dL_law_194 : decode cL_law 194 = .ok (.iconst 2, 1) := by decide +kernel
theorem dL_law_195 : decode cL_law 195 = .ok (.iadd, 1) := by decide +kernel
theorem dL_law_196 : decode cL_law 196 = .ok (.iaload, 1) := by decide +kernel
theorem dL_law_197 : decode cL_law 197 = .ok (.aload_n 0, 1) := by decide +kernel
theorem dL_law_198 : decode cL_law 198 = .ok (.iload_n 3, 1) := by decide +kernel
theorem dL_law_199 : decode cL_law 199 = .ok (.iconst 3, 1) := by decide +kernel
theorem dL_law_200 : decode cL_law 200 = .ok (.iadd, 1) := by decide +kernel
theorem dL_law_201 : decode cL_law 201 = .ok (.iaload, 1) := by decide +kernel
theorem dL_law_202 : decode cL_law 202 = .ok (.aload_n 0, 1) := by decide +kernel
theorem dL_law_203 : decode cL_law 203 = .ok (.iload_n 3, 1) := by decide +kernel
theorem dL_law_204 : decode cL_law 204 = .ok (.iconst 4, 1) := by decide +kernel
theorem dL_law_205 : decode cL_law 205 = .ok (.iadd, 1) := by decide +kernel
theorem dL_law_206 : decode cL_law 206 = .ok (.iaload, 1) := by decide +kernel
theorem dL_law_207 : decode cL_law 207 = .ok (.aload_n 0, 1) := by decide +kernel
theorem dL_law_208 : decode cL_law 208 = .ok (.iload_n 3, 1) := by decide +kernel
theorem dL_law_209 : decode cL_law 209 = .ok (.iconst 5, 1) := by decide +kernel
theorem dL_law_210 : decode cL_law 210 = .ok (.iadd, 1) := by decide +kernel
theorem dL_law_211 : decode cL_law 211 = .ok (.iaload, 1) := by decide +kernel
theorem dL_law_212 : decode cL_law 212 = .ok (.invokevirtual 22, 3) := by decide +kernel
theorem dL_law_215 : decode cL_law 215 = .ok (.if_icmp .eq 416, 3) := by decide +kernel
theorem dL_law_218 : decode cL_law 218 = .ok (.iconst 0, 1) := by decide +kernel
theorem dL_law_219 : decode cL_law 219 = .ok (.ireturn, 1) := by decide +kernel
theorem dL_law_220 : decode cL_law 220 = .ok (.aload_n 1, 1) := by decide +kernel
theorem dL_law_221 : decode cL_law 221 = .ok (.aload_n 0, 1) := by decide +kernel
theorem dL_law_222 : decode cL_law 222 = .ok (.iload_n 3, 1) := by decide +kernel
theorem dL_law_223 : decode cL_law 223 = .ok (.iconst 1, 1) := by decide +kernel
theorem dL_law_224 : decode cL_law 224 = .ok (.iadd, 1) := by decide +kernel
theorem dL_law_225 : decode cL_law 225 = .ok (.iaload, 1) := by decide +kernel
theorem dL_law_226 : decode cL_law 226 = .ok (.aload_n 0, 1) := by decide +kernel
theorem dL_law_227 : decode cL_law 227 = .ok (.iload_n 3, 1) := by decide +kernel
theorem dL_law_228 : decode cL_law 228 = .ok (.iconst 2, 1) := by decide +kernel
theorem dL_law_229 : decode cL_law 229 = .ok (.iadd, 1) := by decide +kernel
theorem dL_law_230 : decode cL_law 230 = .ok (.iaload, 1) := by decide +kernel
theorem dL_law_231 : decode cL_law 231 = .ok (.invokevirtual 23, 3) := by decide +kernel
theorem dL_law_234 : decode cL_law 234 = .ok (.aload_n 2, 1) := by decide +kernel
theorem dL_law_235 : decode cL_law 235 = .ok (.aload_n 0, 1) := by decide +kernel
theorem dL_law_236 : decode cL_law 236 = .ok (.iload_n 3, 1) := by decide +kernel
theorem dL_law_237 : decode cL_law 237 = .ok (.iconst 1, 1) := by decide +kernel
theorem dL_law_238 : decode cL_law 238 = .ok (.iadd, 1) := by decide +kernel
theorem dL_law_239 : decode cL_law 239 = .ok (.iaload, 1) := by decide +kernel
theorem dL_law_240 : decode cL_law 240 = .ok (.aload_n 0, 1) := by decide +kernel
theorem dL_law_241 : decode cL_law 241 = .ok (.iload_n 3, 1) := by decide +kernel
theorem dL_law_242 : decode cL_law 242 = .ok (.iconst 2, 1) := by decide +kernel
theorem dL_law_243 : decode cL_law 243 = .ok (.iadd, 1) := by decide +kernel
theorem dL_law_244 : decode cL_law 244 = .ok (.iaload, 1) := by decide +kernel
theorem dL_law_245 : decode cL_law 245 = .ok (.invokevirtual 26, 3) := by decide +kernel
theorem dL_law_248 : decode cL_law 248 = .ok (.if_icmp .eq 383, 3) := by decide +kernel
theorem dL_law_251 : decode cL_law 251 = .ok (.iconst 0, 1) := by decide +kernel
theorem dL_law_252 : decode cL_law 252 = .ok (.ireturn, 1) := by decide +kernel
theorem dL_law_253 : decode cL_law 253 = .ok (.aload_n 1, 1) := by decide +kernel
theorem dL_law_254 : decode cL_law 254 = .ok (.aload_n 0, 1) := by decide +kernel
theorem dL_law_255 : decode cL_law 255 = .ok (.iload_n 3, 1) := by decide +kernel
theorem dL_law_256 : decode cL_law 256 = .ok (.iconst 1, 1) := by decide +kernel
theorem dL_law_257 : decode cL_law 257 = .ok (.iadd, 1) := by decide +kernel
theorem dL_law_258 : decode cL_law 258 = .ok (.iaload, 1) := by decide +kernel
theorem dL_law_259 : decode cL_law 259 = .ok (.invokevirtual 27, 3) := by decide +kernel
theorem dL_law_262 : decode cL_law 262 = .ok (.aload_n 2, 1) := by decide +kernel
theorem dL_law_263 : decode cL_law 263 = .ok (.aload_n 0, 1) := by decide +kernel
theorem dL_law_264 : decode cL_law 264 = .ok (.iload_n 3, 1) := by decide +kernel
theorem dL_law_265 : decode cL_law 265 = .ok (.iconst 1, 1) := by decide +kernel
theorem dL_law_266 : decode cL_law 266 = .ok (.iadd, 1) := by decide +kernel
theorem dL_law_267 : decode cL_law 267 = .ok (.iaload, 1) := by decide +kernel
theorem dL_law_268 : decode cL_law 268 = .ok (.invokevirtual 31, 3) := by decide +kernel
theorem dL_law_271 : decode cL_law 271 = .ok (.if_icmp .eq 360, 3) := by decide +kernel
theorem dL_law_274 : decode cL_law 274 = .ok (.iconst 0, 1) := by decide +kernel
theorem dL_law_275 : decode cL_law 275 = .ok (.ireturn, 1) := by decide +kernel
theorem dL_law_276 : decode cL_law 276 = .ok (.aload_n 1, 1) := by decide +kernel
theorem dL_law_277 : decode cL_law 277 = .ok (.aload_n 0, 1) := by decide +kernel
theorem dL_law_278 : decode cL_law 278 = .ok (.iload_n 3, 1) := by decide +kernel
theorem dL_law_279 : decode cL_law 279 = .ok (.iconst 1, 1) := by decide +kernel
theorem dL_law_280 : decode cL_law 280 = .ok (.iadd, 1) := by decide +kernel
theorem dL_law_281 : decode cL_law 281 = .ok (.iaload, 1) := by decide +kernel
theorem dL_law_282 : decode cL_law 282 = .ok (.invokevirtual 32, 3) := by decide +kernel
theorem dL_law_285 : decode cL_law 285 = .ok (.aload_n 2, 1) := by decide +kernel
theorem dL_law_286 : decode cL_law 286 = .ok (.aload_n 0, 1) := by decide +kernel
theorem dL_law_287 : decode cL_law 287 = .ok (.iload_n 3, 1) := by decide +kernel
theorem dL_law_288 : decode cL_law 288 = .ok (.iconst 1, 1) := by decide +kernel
theorem dL_law_289 : decode cL_law 289 = .ok (.iadd, 1) := by decide +kernel
theorem dL_law_290 : decode cL_law 290 = .ok (.iaload, 1) := by decide +kernel
theorem dL_law_291 : decode cL_law 291 = .ok (.invokevirtual 35, 3) := by decide +kernel
theorem dL_law_294 : decode cL_law 294 = .ok (.if_icmp .eq 337, 3) := by decide +kernel
theorem dL_law_297 : decode cL_law 297 = .ok (.iconst 0, 1) := by decide +kernel
theorem dL_law_298 : decode cL_law 298 = .ok (.ireturn, 1) := by decide +kernel
theorem dL_law_299 : decode cL_law 299 = .ok (.aload_n 1, 1) := by decide +kernel
theorem dL_law_300 : decode cL_law 300 = .ok (.aload_n 0, 1) := by decide +kernel
theorem dL_law_301 : decode cL_law 301 = .ok (.iload_n 3, 1) := by decide +kernel
theorem dL_law_302 : decode cL_law 302 = .ok (.iconst 1, 1) := by decide +kernel
theorem dL_law_303 : decode cL_law 303 = .ok (.iadd, 1) := by decide +kernel
theorem dL_law_304 : decode cL_law 304 = .ok (.iaload, 1) := by decide +kernel
theorem dL_law_305 : decode cL_law 305 = .ok (.aload_n 0, 1) := by decide +kernel
theorem dL_law_306 : decode cL_law 306 = .ok (.iload_n 3, 1) := by decide +kernel
theorem dL_law_307 : decode cL_law 307 = .ok (.iconst 2, 1) := by decide +kernel
theorem dL_law_308 : decode cL_law 308 = .ok (.iadd, 1) := by decide +kernel
theorem dL_law_309 : decode cL_law 309 = .ok (.iaload, 1) := by decide +kernel
theorem dL_law_310 : decode cL_law 310 = .ok (.invokevirtual 36, 3) := by decide +kernel
theorem dL_law_313 : decode cL_law 313 = .ok (.aload_n 2, 1) := by decide +kernel
theorem dL_law_314 : decode cL_law 314 = .ok (.aload_n 0, 1) := by decide +kernel
theorem dL_law_315 : decode cL_law 315 = .ok (.iload_n 3, 1) := by decide +kernel
theorem dL_law_316 : decode cL_law 316 = .ok (.iconst 1, 1) := by decide +kernel
theorem dL_law_317 : decode cL_law 317 = .ok (.iadd, 1) := by decide +kernel
theorem dL_law_318 : decode cL_law 318 = .ok (.iaload, 1) := by decide +kernel
theorem dL_law_319 : decode cL_law 319 = .ok (.aload_n 0, 1) := by decide +kernel
theorem dL_law_320 : decode cL_law 320 = .ok (.iload_n 3, 1) := by decide +kernel
theorem dL_law_321 : decode cL_law 321 = .ok (.iconst 2, 1) := by decide +kernel
theorem dL_law_322 : decode cL_law 322 = .ok (.iadd, 1) := by decide +kernel
theorem dL_law_323 : decode cL_law 323 = .ok (.iaload, 1) := by decide +kernel
theorem dL_law_324 : decode cL_law 324 = .ok (.invokevirtual 39, 3) := by decide +kernel
theorem dL_law_327 : decode cL_law 327 = .ok (.if_icmp .eq 304, 3) := by decide +kernel
theorem dL_law_330 : decode cL_law 330 = .ok (.iconst 0, 1) := by decide +kernel
theorem dL_law_331 : decode cL_law 331 = .ok (.ireturn, 1) := by decide +kernel
theorem dL_law_332 : decode cL_law 332 = .ok (.aload_n 1, 1) := by decide +kernel
theorem dL_law_333 : decode cL_law 333 = .ok (.aload_n 0, 1) := by decide +kernel
theorem dL_law_334 : decode cL_law 334 = .ok (.iload_n 3, 1) := by decide +kernel
theorem dL_law_335 : decode cL_law 335 = .ok (.iconst 1, 1) := by decide +kernel
theorem dL_law_336 : decode cL_law 336 = .ok (.iadd, 1) := by decide +kernel
theorem dL_law_337 : decode cL_law 337 = .ok (.iaload, 1) := by decide +kernel
theorem dL_law_338 : decode cL_law 338 = .ok (.invokevirtual 40, 3) := by decide +kernel
theorem dL_law_341 : decode cL_law 341 = .ok (.aload_n 2, 1) := by decide +kernel
theorem dL_law_342 : decode cL_law 342 = .ok (.aload_n 0, 1) := by decide +kernel
theorem dL_law_343 : decode cL_law 343 = .ok (.iload_n 3, 1) := by decide +kernel
theorem dL_law_344 : decode cL_law 344 = .ok (.iconst 1, 1) := by decide +kernel
theorem dL_law_345 : decode cL_law 345 = .ok (.iadd, 1) := by decide +kernel
theorem dL_law_346 : decode cL_law 346 = .ok (.iaload, 1) := by decide +kernel
theorem dL_law_347 : decode cL_law 347 = .ok (.invokevirtual 43, 3) := by decide +kernel
theorem dL_law_350 : decode cL_law 350 = .ok (.if_icmp .eq 281, 3) := by decide +kernel
theorem dL_law_353 : decode cL_law 353 = .ok (.iconst 0, 1) := by decide +kernel
theorem dL_law_354 : decode cL_law 354 = .ok (.ireturn, 1) := by decide +kernel
theorem dL_law_355 : decode cL_law 355 = .ok (.aload_n 1, 1) := by decide +kernel
theorem dL_law_356 : decode cL_law 356 = .ok (.aload_n 0, 1) := by decide +kernel
theorem dL_law_357 : decode cL_law 357 = .ok (.iload_n 3, 1) := by decide +kernel
theorem dL_law_358 : decode cL_law 358 = .ok (.iconst 1, 1) := by decide +kernel
theorem dL_law_359 : decode cL_law 359 = .ok (.iadd, 1) := by decide +kernel
theorem dL_law_360 : decode cL_law 360 = .ok (.iaload, 1) := by decide +kernel
theorem dL_law_361 : decode cL_law 361 = .ok (.invokevirtual 44, 3) := by decide +kernel
theorem dL_law_364 : decode cL_law 364 = .ok (.aload_n 2, 1) := by decide +kernel
theorem dL_law_365 : decode cL_law 365 = .ok (.aload_n 0, 1) := by decide +kernel
theorem dL_law_366 : decode cL_law 366 = .ok (.iload_n 3, 1) := by decide +kernel
theorem dL_law_367 : decode cL_law 367 = .ok (.iconst 1, 1) := by decide +kernel
theorem dL_law_368 : decode cL_law 368 = .ok (.iadd, 1) := by decide +kernel
theorem dL_law_369 : decode cL_law 369 = .ok (.iaload, 1) := by decide +kernel
theorem dL_law_370 : decode cL_law 370 = .ok (.invokevirtual 47, 3) := by decide +kernel
theorem dL_law_373 : decode cL_law 373 = .ok (.if_icmp .eq 258, 3) := by decide +kernel
theorem dL_law_376 : decode cL_law 376 = .ok (.iconst 0, 1) := by decide +kernel
theorem dL_law_377 : decode cL_law 377 = .ok (.ireturn, 1) := by decide +kernel
theorem dL_law_378 : decode cL_law 378 = .ok (.aload_n 1, 1) := by decide +kernel
theorem dL_law_379 : decode cL_law 379 = .ok (.aload_n 0, 1) := by decide +kernel
theorem dL_law_380 : decode cL_law 380 = .ok (.iload_n 3, 1) := by decide +kernel
theorem dL_law_381 : decode cL_law 381 = .ok (.iconst 1, 1) := by decide +kernel
theorem dL_law_382 : decode cL_law 382 = .ok (.iadd, 1) := by decide +kernel
theorem dL_law_383 : decode cL_law 383 = .ok (.iaload, 1) := by decide +kernel
theorem dL_law_384 : decode cL_law 384 = .ok (.aload_n 0, 1) := by decide +kernel
theorem dL_law_385 : decode cL_law 385 = .ok (.iload_n 3, 1) := by decide +kernel
theorem dL_law_386 : decode cL_law 386 = .ok (.iconst 2, 1) := by decide +kernel
theorem dL_law_387 : decode cL_law 387 = .ok (.iadd, 1) := by decide +kernel
theorem dL_law_388 : decode cL_law 388 = .ok (.iaload, 1) := by decide +kernel
theorem dL_law_389 : decode cL_law 389 = .ok (.invokevirtual 48, 3) := by decide +kernel
theorem dL_law_392 : decode cL_law 392 = .ok (.aload_n 2, 1) := by decide +kernel
theorem dL_law_393 : decode cL_law 393 = .ok (.aload_n 0, 1) := by decide +kernel
theorem dL_law_394 : decode cL_law 394 = .ok (.iload_n 3, 1) := by decide +kernel
theorem dL_law_395 : decode cL_law 395 = .ok (.iconst 1, 1) := by decide +kernel
theorem dL_law_396 : decode cL_law 396 = .ok (.iadd, 1) := by decide +kernel
theorem dL_law_397 : decode cL_law 397 = .ok (.iaload, 1) := by decide +kernel
theorem dL_law_398 : decode cL_law 398 = .ok (.aload_n 0, 1) := by decide +kernel
theorem dL_law_399 : decode cL_law 399 = .ok (.iload_n 3, 1) := by decide +kernel
theorem dL_law_400 : decode cL_law 400 = .ok (.iconst 2, 1) := by decide +kernel
theorem dL_law_401 : decode cL_law 401 = .ok (.iadd, 1) := by decide +kernel
theorem dL_law_402 : decode cL_law 402 = .ok (.iaload, 1) := by decide +kernel
theorem dL_law_403 : decode cL_law 403 = .ok (.invokevirtual 51, 3) := by decide +kernel
theorem dL_law_406 : decode cL_law 406 = .ok (.if_icmp .eq 225, 3) := by decide +kernel
theorem dL_law_409 : decode cL_law 409 = .ok (.iconst 0, 1) := by decide +kernel
theorem dL_law_410 : decode cL_law 410 = .ok (.ireturn, 1) := by decide +kernel
theorem dL_law_411 : decode cL_law 411 = .ok (.aload_n 1, 1) := by decide +kernel
theorem dL_law_412 : decode cL_law 412 = .ok (.aload_n 0, 1) := by decide +kernel
theorem dL_law_413 : decode cL_law 413 = .ok (.iload_n 3, 1) := by decide +kernel
theorem dL_law_414 : decode cL_law 414 = .ok (.iconst 1, 1) := by decide +kernel
theorem dL_law_415 : decode cL_law 415 = .ok (.iadd, 1) := by decide +kernel
theorem dL_law_416 : decode cL_law 416 = .ok (.iaload, 1) := by decide +kernel
theorem dL_law_417 : decode cL_law 417 = .ok (.invokevirtual 52, 3) := by decide +kernel
theorem dL_law_420 : decode cL_law 420 = .ok (.aload_n 2, 1) := by decide +kernel
theorem dL_law_421 : decode cL_law 421 = .ok (.aload_n 0, 1) := by decide +kernel
theorem dL_law_422 : decode cL_law 422 = .ok (.iload_n 3, 1) := by decide +kernel
theorem dL_law_423 : decode cL_law 423 = .ok (.iconst 1, 1) := by decide +kernel
theorem dL_law_424 : decode cL_law 424 = .ok (.iadd, 1) := by decide +kernel
theorem dL_law_425 : decode cL_law 425 = .ok (.iaload, 1) := by decide +kernel
theorem dL_law_426 : decode cL_law 426 = .ok (.invokevirtual 55, 3) := by decide +kernel
theorem dL_law_429 : decode cL_law 429 = .ok (.if_icmp .eq 202, 3) := by decide +kernel
theorem dL_law_432 : decode cL_law 432 = .ok (.iconst 0, 1) := by decide +kernel
theorem dL_law_433 : decode cL_law 433 = .ok (.ireturn, 1) := by decide +kernel
theorem dL_law_434 : decode cL_law 434 = .ok (.aload_n 1, 1) := by decide +kernel
theorem dL_law_435 : decode cL_law 435 = .ok (.aload_n 0, 1) := by decide +kernel
theorem dL_law_436 : decode cL_law 436 = .ok (.iload_n 3, 1) := by decide +kernel
theorem dL_law_437 : decode cL_law 437 = .ok (.iconst 1, 1) := by decide +kernel
theorem dL_law_438 : decode cL_law 438 = .ok (.iadd, 1) := by decide +kernel
theorem dL_law_439 : decode cL_law 439 = .ok (.iaload, 1) := by decide +kernel
theorem dL_law_440 : decode cL_law 440 = .ok (.invokevirtual 56, 3) := by decide +kernel
theorem dL_law_443 : decode cL_law 443 = .ok (.aload_n 2, 1) := by decide +kernel
theorem dL_law_444 : decode cL_law 444 = .ok (.aload_n 0, 1) := by decide +kernel
theorem dL_law_445 : decode cL_law 445 = .ok (.iload_n 3, 1) := by decide +kernel
theorem dL_law_446 : decode cL_law 446 = .ok (.iconst 1, 1) := by decide +kernel
theorem dL_law_447 : decode cL_law 447 = .ok (.iadd, 1) := by decide +kernel
theorem dL_law_448 : decode cL_law 448 = .ok (.iaload, 1) := by decide +kernel
theorem dL_law_449 : decode cL_law 449 = .ok (.invokevirtual 59, 3) := by decide +kernel
theorem dL_law_452 : decode cL_law 452 = .ok (.if_icmp .eq 179, 3) := by decide +kernel
theorem dL_law_455 : decode cL_law 455 = .ok (.iconst 0, 1) := by decide +kernel
theorem dL_law_456 : decode cL_law 456 = .ok (.ireturn, 1) := by decide +kernel
theorem dL_law_457 : decode cL_law 457 = .ok (.aload_n 1, 1) := by decide +kernel
theorem dL_law_458 : decode cL_law 458 = .ok (.aload_n 0, 1) := by decide +kernel
theorem dL_law_459 : decode cL_law 459 = .ok (.iload_n 3, 1) := by decide +kernel
theorem dL_law_460 : decode cL_law 460 = .ok (.iconst 1, 1) := by decide +kernel
theorem dL_law_461 : decode cL_law 461 = .ok (.iadd, 1) := by decide +kernel
theorem dL_law_462 : decode cL_law 462 = .ok (.iaload, 1) := by decide +kernel
theorem dL_law_463 : decode cL_law 463 = .ok (.invokevirtual 60, 3) := by decide +kernel
theorem dL_law_466 : decode cL_law 466 = .ok (.aload_n 2, 1) := by decide +kernel
theorem dL_law_467 : decode cL_law 467 = .ok (.aload_n 0, 1) := by decide +kernel
theorem dL_law_468 : decode cL_law 468 = .ok (.iload_n 3, 1) := by decide +kernel
theorem dL_law_469 : decode cL_law 469 = .ok (.iconst 1, 1) := by decide +kernel
theorem dL_law_470 : decode cL_law 470 = .ok (.iadd, 1) := by decide +kernel
theorem dL_law_471 : decode cL_law 471 = .ok (.iaload, 1) := by decide +kernel
theorem dL_law_472 : decode cL_law 472 = .ok (.invokevirtual 63, 3) := by decide +kernel
theorem dL_law_475 : decode cL_law 475 = .ok (.if_icmp .eq 156, 3) := by decide +kernel
theorem dL_law_478 : decode cL_law 478 = .ok (.iconst 0, 1) := by decide +kernel
theorem dL_law_479 : decode cL_law 479 = .ok (.ireturn, 1) := by decide +kernel
theorem dL_law_480 : decode cL_law 480 = .ok (.aload_n 1, 1) := by decide +kernel
theorem dL_law_481 : decode cL_law 481 = .ok (.aload_n 0, 1) := by decide +kernel
theorem dL_law_482 : decode cL_law 482 = .ok (.iload_n 3, 1) := by decide +kernel
theorem dL_law_483 : decode cL_law 483 = .ok (.iconst 1, 1) := by decide +kernel
theorem dL_law_484 : decode cL_law 484 = .ok (.iadd, 1) := by decide +kernel
theorem dL_law_485 : decode cL_law 485 = .ok (.iaload, 1) := by decide +kernel
theorem dL_law_486 : decode cL_law 486 = .ok (.aload_n 0, 1) := by decide +kernel
theorem dL_law_487 : decode cL_law 487 = .ok (.iload_n 3, 1) := by decide +kernel
theorem dL_law_488 : decode cL_law 488 = .ok (.iconst 2, 1) := by decide +kernel
theorem dL_law_489 : decode cL_law 489 = .ok (.iadd, 1) := by decide +kernel
theorem dL_law_490 : decode cL_law 490 = .ok (.iaload, 1) := by decide +kernel
theorem dL_law_491 : decode cL_law 491 = .ok (.aload_n 0, 1) := by decide +kernel
theorem dL_law_492 : decode cL_law 492 = .ok (.iload_n 3, 1) := by decide +kernel
theorem dL_law_493 : decode cL_law 493 = .ok (.iconst 3, 1) := by decide +kernel
theorem dL_law_494 : decode cL_law 494 = .ok (.iadd, 1) := by decide +kernel
theorem dL_law_495 : decode cL_law 495 = .ok (.iaload, 1) := by decide +kernel
theorem dL_law_496 : decode cL_law 496 = .ok (.invokevirtual 64, 3) := by decide +kernel
theorem dL_law_499 : decode cL_law 499 = .ok (.aload_n 2, 1) := by decide +kernel
theorem dL_law_500 : decode cL_law 500 = .ok (.aload_n 0, 1) := by decide +kernel
theorem dL_law_501 : decode cL_law 501 = .ok (.iload_n 3, 1) := by decide +kernel
theorem dL_law_502 : decode cL_law 502 = .ok (.iconst 1, 1) := by decide +kernel
theorem dL_law_503 : decode cL_law 503 = .ok (.iadd, 1) := by decide +kernel
theorem dL_law_504 : decode cL_law 504 = .ok (.iaload, 1) := by decide +kernel
theorem dL_law_505 : decode cL_law 505 = .ok (.aload_n 0, 1) := by decide +kernel
theorem dL_law_506 : decode cL_law 506 = .ok (.iload_n 3, 1) := by decide +kernel
theorem dL_law_507 : decode cL_law 507 = .ok (.iconst 2, 1) := by decide +kernel
theorem dL_law_508 : decode cL_law 508 = .ok (.iadd, 1) := by decide +kernel
theorem dL_law_509 : decode cL_law 509 = .ok (.iaload, 1) := by decide +kernel
theorem dL_law_510 : decode cL_law 510 = .ok (.aload_n 0, 1) := by decide +kernel
theorem dL_law_511 : decode cL_law 511 = .ok (.iload_n 3, 1) := by decide +kernel
theorem dL_law_512 : decode cL_law 512 = .ok (.iconst 3, 1) := by decide +kernel
theorem dL_law_513 : decode cL_law 513 = .ok (.iadd, 1) := by decide +kernel
theorem dL_law_514 : decode cL_law 514 = .ok (.iaload, 1) := by decide +kernel
theorem dL_law_515 : decode cL_law 515 = .ok (.invokevirtual 68, 3) := by decide +kernel
theorem dL_law_518 : decode cL_law 518 = .ok (.if_icmp .eq 113, 3) := by decide +kernel
theorem dL_law_521 : decode cL_law 521 = .ok (.iconst 0, 1) := by decide +kernel
theorem dL_law_522 : decode cL_law 522 = .ok (.ireturn, 1) := by decide +kernel
theorem dL_law_523 : decode cL_law 523 = .ok (.aload_n 1, 1) := by decide +kernel
theorem dL_law_524 : decode cL_law 524 = .ok (.aload_n 0, 1) := by decide +kernel
theorem dL_law_525 : decode cL_law 525 = .ok (.iload_n 3, 1) := by decide +kernel
theorem dL_law_526 : decode cL_law 526 = .ok (.iconst 1, 1) := by decide +kernel
theorem dL_law_527 : decode cL_law 527 = .ok (.iadd, 1) := by decide +kernel
theorem dL_law_528 : decode cL_law 528 = .ok (.iaload, 1) := by decide +kernel
theorem dL_law_529 : decode cL_law 529 = .ok (.invokevirtual 69, 3) := by decide +kernel
theorem dL_law_532 : decode cL_law 532 = .ok (.aload_n 2, 1) := by decide +kernel
theorem dL_law_533 : decode cL_law 533 = .ok (.aload_n 0, 1) := by decide +kernel
theorem dL_law_534 : decode cL_law 534 = .ok (.iload_n 3, 1) := by decide +kernel
theorem dL_law_535 : decode cL_law 535 = .ok (.iconst 1, 1) := by decide +kernel
theorem dL_law_536 : decode cL_law 536 = .ok (.iadd, 1) := by decide +kernel
theorem dL_law_537 : decode cL_law 537 = .ok (.iaload, 1) := by decide +kernel
theorem dL_law_538 : decode cL_law 538 = .ok (.invokevirtual 72, 3) := by decide +kernel
theorem dL_law_541 : decode cL_law 541 = .ok (.if_icmp .eq 90, 3) := by decide +kernel
theorem dL_law_544 : decode cL_law 544 = .ok (.iconst 0, 1) := by decide +kernel
theorem dL_law_545 : decode cL_law 545 = .ok (.ireturn, 1) := by decide +kernel
theorem dL_law_546 : decode cL_law 546 = .ok (.aload_n 1, 1) := by decide +kernel
theorem dL_law_547 : decode cL_law 547 = .ok (.invokevirtual 73, 3) := by decide +kernel
theorem dL_law_550 : decode cL_law 550 = .ok (.aload_n 2, 1) := by decide +kernel
theorem dL_law_551 : decode cL_law 551 = .ok (.invokevirtual 77, 3) := by decide +kernel
theorem dL_law_554 : decode cL_law 554 = .ok (.if_icmp .eq 77, 3) := by decide +kernel
theorem dL_law_557 : decode cL_law 557 = .ok (.iconst 0, 1) := by decide +kernel
theorem dL_law_558 : decode cL_law 558 = .ok (.ireturn, 1) := by decide +kernel
theorem dL_law_559 : decode cL_law 559 = .ok (.aload_n 1, 1) := by decide +kernel
theorem dL_law_560 : decode cL_law 560 = .ok (.aload_n 0, 1) := by decide +kernel
theorem dL_law_561 : decode cL_law 561 = .ok (.iload_n 3, 1) := by decide +kernel
theorem dL_law_562 : decode cL_law 562 = .ok (.iconst 1, 1) := by decide +kernel
theorem dL_law_563 : decode cL_law 563 = .ok (.iadd, 1) := by decide +kernel
theorem dL_law_564 : decode cL_law 564 = .ok (.iaload, 1) := by decide +kernel
theorem dL_law_565 : decode cL_law 565 = .ok (.invokevirtual 78, 3) := by decide +kernel
theorem dL_law_568 : decode cL_law 568 = .ok (.aload_n 2, 1) := by decide +kernel
theorem dL_law_569 : decode cL_law 569 = .ok (.aload_n 0, 1) := by decide +kernel
theorem dL_law_570 : decode cL_law 570 = .ok (.iload_n 3, 1) := by decide +kernel
theorem dL_law_571 : decode cL_law 571 = .ok (.iconst 1, 1) := by decide +kernel
theorem dL_law_572 : decode cL_law 572 = .ok (.iadd, 1) := by decide +kernel
theorem dL_law_573 : decode cL_law 573 = .ok (.iaload, 1) := by decide +kernel
theorem dL_law_574 : decode cL_law 574 = .ok (.invokevirtual 81, 3) := by decide +kernel
theorem dL_law_577 : decode cL_law 577 = .ok (.if_icmp .eq 54, 3) := by decide +kernel
theorem dL_law_580 : decode cL_law 580 = .ok (.iconst 0, 1) := by decide +kernel
theorem dL_law_581 : decode cL_law 581 = .ok (.ireturn, 1) := by decide +kernel
theorem dL_law_582 : decode cL_law 582 = .ok (.aload_n 1, 1) := by decide +kernel
theorem dL_law_583 : decode cL_law 583 = .ok (.invokevirtual 82, 3) := by decide +kernel
theorem dL_law_586 : decode cL_law 586 = .ok (.aload_n 2, 1) := by decide +kernel
theorem dL_law_587 : decode cL_law 587 = .ok (.invokevirtual 85, 3) := by decide +kernel
theorem dL_law_590 : decode cL_law 590 = .ok (.if_icmp .eq 41, 3) := by decide +kernel
theorem dL_law_593 : decode cL_law 593 = .ok (.iconst 0, 1) := by decide +kernel
theorem dL_law_594 : decode cL_law 594 = .ok (.ireturn, 1) := by decide +kernel
theorem dL_law_595 : decode cL_law 595 = .ok (.aload_n 1, 1) := by decide +kernel
theorem dL_law_596 : decode cL_law 596 = .ok (.aload_n 0, 1) := by decide +kernel
theorem dL_law_597 : decode cL_law 597 = .ok (.iload_n 3, 1) := by decide +kernel
theorem dL_law_598 : decode cL_law 598 = .ok (.iconst 1, 1) := by decide +kernel
theorem dL_law_599 : decode cL_law 599 = .ok (.iadd, 1) := by decide +kernel
theorem dL_law_600 : decode cL_law 600 = .ok (.iaload, 1) := by decide +kernel
theorem dL_law_601 : decode cL_law 601 = .ok (.invokevirtual 86, 3) := by decide +kernel
theorem dL_law_604 : decode cL_law 604 = .ok (.aload_n 2, 1) := by decide +kernel
theorem dL_law_605 : decode cL_law 605 = .ok (.aload_n 0, 1) := by decide +kernel
theorem dL_law_606 : decode cL_law 606 = .ok (.iload_n 3, 1) := by decide +kernel
theorem dL_law_607 : decode cL_law 607 = .ok (.iconst 1, 1) := by decide +kernel
theorem dL_law_608 : decode cL_law 608 = .ok (.iadd, 1) := by decide +kernel
theorem dL_law_609 : decode cL_law 609 = .ok (.iaload, 1) := by decide +kernel
theorem dL_law_610 : decode cL_law 610 = .ok (.invokevirtual 89, 3) := by decide +kernel
theorem dL_law_613 : decode cL_law 613 = .ok (.if_icmp .eq 18, 3) := by decide +kernel
theorem dL_law_616 : decode cL_law 616 = .ok (.iconst 0, 1) := by decide +kernel
theorem dL_law_617 : decode cL_law 617 = .ok (.ireturn, 1) := by decide +kernel
theorem dL_law_618 : decode cL_law 618 = .ok (.aload_n 1, 1) := by decide +kernel
theorem dL_law_619 : decode cL_law 619 = .ok (.invokevirtual 90, 3) := by decide +kernel
theorem dL_law_622 : decode cL_law 622 = .ok (.aload_n 2, 1) := by decide +kernel
theorem dL_law_623 : decode cL_law 623 = .ok (.invokevirtual 93, 3) := by decide +kernel
theorem dL_law_626 : decode cL_law 626 = .ok (.if_icmp .eq 5, 3) := by decide +kernel
theorem dL_law_629 : decode cL_law 629 = .ok (.iconst 0, 1) := by decide +kernel
theorem dL_law_630 : decode cL_law 630 = .ok (.ireturn, 1) := by decide +kernel
theorem dL_law_631 : decode cL_law 631 = .ok (.iinc 3 6, 3) := by decide +kernel
theorem dL_law_634 : decode cL_law 634 = .ok (.goto (-616), 3) := by decide +kernel
theorem dL_law_637 : decode cL_law 637 = .ok (.iconst 1, 1) := by decide +kernel
theorem dL_law_638 : decode cL_law 638 = .ok (.ireturn, 1) := by decide +kernel
end
section
/-! The judgement of the walks: a world of fixed shape whose cells stand at ids; its numbers are one function of id and place. -/
abbrev rcM : Type := Nat → Nat → Int32
abbrev rcH : Type := Nat → (Nat × List Nat) ⊕ (Nat × Nat)
abbrev rcY : Type := (Nat → ClassId) × (Nat → Nat) × va_G
/-- a number at one place -/
def rcu (v : rcM) (a k : Nat) (x : Int32) : rcM := fun b j => if b = a ∧ j = k then x else v b j
def rcb (x : Int32) : Int32 := if x = 0 then 0 else 1
def rcv (Y : rcY) (v : rcM) (id k kd : Nat) : Value := match kd with
  | 0 => .int (v id k)
  | 1 => .int (rcb (v id k))
  | j + 2 => .ref (Y.2.1 j)
def rcty (t : Nat) : FieldType := match t with
  | 0 => .int
  | 1 => .char
  | 2 => .object RX3
  | _ => .object RX0
def rca (Y : rcY) (v : rcM) (id t : Nat) : (Nat → Int32) ⊕ (Nat → Int64) ⊕ (Nat → UInt32) ⊕ (Nat → UInt64) ⊕ (Nat → Option Nat) := match t with
  | 0 => .inl (v id)
  | 1 => .inl (v id)
  | 2 => .inr (.inr (.inr (.inr (fun j => some (Y.2.1 (v id j).toNatClampNeg)))))
  | _ => .inr (.inr (.inr (.inr (fun j => some (Y.2.1 (j + (id + 1)))))))
def rce (sh : rcH) (Y : rcY) (v : rcM) (id : Nat) : va_E := match sh id with
  | .inl (ci, ks) => .inr (ci, ks.mapIdx (fun k kd => rcv Y v id k kd))
  | .inr (t, n) => .inl (Y.1 id, n, rca Y v id t)
def rcw (sh : rcH) (N : Nat) (Y : rcY) (v : rcM) : va_W := (List.range N).map (fun id => (Y.2.1 id, rce sh Y v id))
def rcW (sh : rcH) (N : Nat) (Y : rcY) (v : rcM) (H : Heap) : Prop := va_P Y.2.2 vwCl (rcw sh N Y v) H
def rcA (N : Nat) (Y : rcY) : Nat → Prop := fun q => ∃ id, id < N ∧ q = Y.2.1 id
/-- what stays of a system: its addresses are apart; its classes; its arrays' classes; the words of nest mates -/
def rcK (sh : rcH) (N : Nat) (Y : rcY) (U : State) : Prop :=
  (∀ i j, i < N → j < N → Y.2.1 i = Y.2.1 j → i = j) ∧ va_K Y.2.2 vwCl [] U ∧
  (∀ id t n, id < N → sh id = .inr (t, n) → ArrOfT U (Y.1 id) (rcty t) ∧ va_RA U (Y.1 id) (rcty t)) ∧ ∀ w ∈ lw_n, va_Nw w U
theorem rcw_at {sh : rcH} {N : Nat} {Y : rcY} {v : rcM} {id : Nat} (h : id < N) : (rcw sh N Y v)[id]? = some (Y.2.1 id, rce sh Y v id) := by
  simp [rcw, h]
theorem rcw_lt {sh : rcH} {N : Nat} {Y : rcY} {v : rcM} {id : Nat} {q : Nat × va_E} (h : (rcw sh N Y v)[id]? = some q) : id < N ∧ q = (Y.2.1 id, rce sh Y v id) := by
  by_cases hi : id < N
  · rw [rcw_at hi] at h
    exact ⟨hi, (Option.some.inj h).symm⟩
  · simp [rcw, hi] at h
theorem rcw_D {sh : rcH} {N : Nat} {Y : rcY} {v : rcM} (h : ∀ i j, i < N → j < N → Y.2.1 i = Y.2.1 j → i = j) : va_D (rcA N Y) (rcw sh N Y v) := by
  refine ⟨fun i j p q hp hq hpq => ?_, fun k q hk => ?_⟩
  · obtain ⟨h1, rfl⟩ := rcw_lt hp
    obtain ⟨h2, rfl⟩ := rcw_lt hq
    exact h i j h1 h2 hpq
  · obtain ⟨h1, rfl⟩ := rcw_lt hk
    exact ⟨k, h1, rfl⟩
theorem rcu_ne {v : rcM} {a k b : Nat} {x : Int32} (h : b ≠ a) : rcu v a k x b = v b := by
  funext j
  simp [rcu, h]
theorem rcu_self {v : rcM} {a k : Nat} {x : Int32} : rcu v a k x a k = x := by simp [rcu]
theorem rcu_k {v : rcM} {a k j : Nat} {x : Int32} (h : j ≠ k) : rcu v a k x a j = v a j := by simp [rcu, h]
theorem rcu_row {v : rcM} {a k : Nat} {x : Int32} : rcu v a k x a = upd (v a) k x := by
  funext j
  simp [rcu, upd]
theorem rce_ne {sh : rcH} {Y : rcY} {v v' : rcM} {id : Nat} (h : v' id = v id) : rce sh Y v' id = rce sh Y v id := by
  unfold rce
  cases sh id with
  | inl q =>
    obtain ⟨ci, ks⟩ := q
    have e : (fun (k kd : Nat) => rcv Y v' id k kd) = fun (k kd : Nat) => rcv Y v id k kd := by
      funext k kd
      match kd with
      | 0 => simp [rcv, h]
      | 1 => simp [rcv, h]
      | j + 2 => rfl
    show Sum.inr (ci, ks.mapIdx (fun k kd => rcv Y v' id k kd)) = Sum.inr (ci, ks.mapIdx (fun k kd => rcv Y v id k kd))
    rw [e]
  | inr q =>
    obtain ⟨t, n⟩ := q
    show Sum.inl (Y.1 id, n, rca Y v' id t) = Sum.inl (Y.1 id, n, rca Y v id t)
    have e : rca Y v' id t = rca Y v id t := by
      unfold rca
      rw [h]
    rw [e]
theorem rcw_set {sh : rcH} {N : Nat} {Y : rcY} {v v' : rcM} {id : Nat} {e : va_E} (hN : id < N) (he : e = rce sh Y v' id) (h : ∀ j, j ≠ id → v' j = v j) :
    (rcw sh N Y v).set id (Y.2.1 id, e) = rcw sh N Y v' := by
  subst he
  apply List.ext_getElem?
  intro i
  by_cases hi : i < N
  · by_cases hid : id = i
    · subst hid
      rw [rcw_at hi, List.getElem?_set_self (by simpa [rcw] using hi)]
    · rw [List.getElem?_set_ne hid, rcw_at hi, rcw_at hi, rce_ne (h i (fun q => hid q.symm))]
  · rw [List.getElem?_eq_none (by simp [rcw]; omega), List.getElem?_eq_none (by simp [rcw]; omega)]
theorem rcb_01 (x : Int32) : rcb x = 0 ∨ rcb x = 1 := by unfold rcb; split <;> simp
theorem rcb_b (x : Int32) : rcb (rcb x) = rcb x := by unfold rcb; split <;> simp_all
theorem rcb_of {x : Int32} (h : x = 0 ∨ x = 1) : rcb x = x := by rcases h with rfl | rfl <;> rfl
theorem rce_obj {sh : rcH} {Y : rcY} {v : rcM} {id ci : Nat} {ks : List Nat} (hs : sh id = .inl (ci, ks)) : rce sh Y v id = .inr (ci, ks.mapIdx (fun k kd => rcv Y v id k kd)) := by
  unfold rce
  rw [hs]
theorem rce_arr {sh : rcH} {Y : rcY} {v : rcM} {id t n : Nat} (hs : sh id = .inr (t, n)) : rce sh Y v id = .inl (Y.1 id, n, rca Y v id t) := by
  unfold rce
  rw [hs]
theorem rce_put {sh : rcH} {Y : rcY} {v : rcM} {id ci k kd : Nat} {ks : List Nat} {x : Int32} (hs : sh id = .inl (ci, ks)) (hk : ks[k]? = some kd) (hx : kd = 0 ∨ (kd = 1 ∧ rcb x = x)) :
    (Sum.inr (ci, (ks.mapIdx (fun k kd => rcv Y v id k kd)).set k (.int x)) : va_E) = rce sh Y (rcu v id k x) id := by
  rw [rce_obj hs]
  congr 2
  apply List.ext_getElem?
  intro i
  by_cases hi : k = i
  · subst hi
    have hlt : k < ks.length := (List.getElem?_eq_some_iff.mp hk).1
    rw [List.getElem?_set_self (by simpa using hlt), List.getElem?_mapIdx, hk]
    rcases hx with rfl | ⟨rfl, hb⟩
    · simp [rcv, rcu]
    · simp [rcv, rcu, hb]
  · rw [List.getElem?_set_ne hi, List.getElem?_mapIdx, List.getElem?_mapIdx]
    cases hki : ks[i]? with
    | none => rfl
    | some kd' =>
      have hik : i ≠ k := fun q => hi q.symm
      match kd' with
      | 0 => simp [rcv, rcu, hik]
      | 1 => simp [rcv, rcu, hik]
      | j + 2 => rfl
/-- a walk's fixed things: program, launch, environment, room, start, method, arguments, below, method, code, locals, cells, slots -/
abbrev rcX : Type := Program × Launch × Env × Room × State × MethodId × Array Value × List Frame × Method × Code × Nat × Nat × Nat
abbrev xp (X : rcX) : Program := X.1
abbrev xl (X : rcX) : Launch := X.2.1
abbrev xe (X : rcX) : Env := X.2.2.1
abbrev xR (X : rcX) : Room := X.2.2.2.1
abbrev xs (X : rcX) : State := X.2.2.2.2.1
abbrev xm (X : rcX) : MethodId := X.2.2.2.2.2.1
abbrev xa (X : rcX) : Array Value := X.2.2.2.2.2.2.1
abbrev xb (X : rcX) : List Frame := X.2.2.2.2.2.2.2.1
abbrev xh (X : rcX) : Method := X.2.2.2.2.2.2.2.2.1
abbrev xc (X : rcX) : Code := X.2.2.2.2.2.2.2.2.2.1
abbrev xn (X : rcX) : Nat := X.2.2.2.2.2.2.2.2.2.2.1
abbrev xk (X : rcX) : Nat := X.2.2.2.2.2.2.2.2.2.2.2.1
abbrev xo (X : rcX) : Nat := X.2.2.2.2.2.2.2.2.2.2.2.2
/-- from here on the walk comes to Q, whatever the heap is that holds the world -/
def rcG {σ : Type} (X : rcX) (Wd : σ → Heap → Prop) (A : Nat → Prop) (Q : State → Prop) (pc : Nat) (l : List (Nat × Value)) (st : List Value) (v : σ) : Prop :=
  ∀ (H : Heap) (locs : List Loc) (ls : Array Slot), lv_has ls (xn X) l → Wd v H → va_S A (xs X).heap H locs →
    W (xp X) (xl X) (xe X) (xR X) (xs X) (xm X) (xa X) (xb X) (xh X) (xc X) H locs (xk X) (xo X) Q (F0 (xm X) pc ls st)
abbrev rcE (X : rcX) (cc : ByteArray) : Prop := (xp X).tables.exec = Jvm.exec ∧ (xc X).code = cc
/-- a local's value -/
def rcl (l : List (Nat × Value)) (i : Nat) : Option Value := (l.find? (fun q => q.1 == i)).map (fun q => q.2)
theorem rcl_mem {l : List (Nat × Value)} {i : Nat} {w : Value} (h : rcl l i = some w) : (i, w) ∈ l := by
  unfold rcl at h
  cases hf : l.find? (fun q => q.1 == i) with
  | none => rw [hf] at h; cases h
  | some q =>
    rw [hf] at h
    have h1 : q.2 = w := Option.some.inj h
    have h2 : q.1 = i := by simpa using List.find?_some hf
    subst h1; subst h2
    exact List.mem_of_find?_eq_some hf
theorem rcl_at {ls : Array Slot} {n : Nat} {l : List (Nat × Value)} {i : Nat} {w : Value} (h : lv_has ls n l) (hi : rcl l i = some w) : ls[i]? = some (.val w) := h.2.2 (i, w) (rcl_mem hi)
/-- locals behind a store of one slot -/
def rcs (l : List (Nat × Value)) (i : Nat) (w : Value) : List (Nat × Value) := (i, w) :: l.filter (fun q => !(q.1 == i) && !(q.1 + 1 == i && q.2.category == 2))
def rcs2 (l : List (Nat × Value)) (i : Nat) (w : Value) : List (Nat × Value) := (i, w) :: l.filter (fun q => !(q.1 == i) && (!(q.1 == i + 1) && !(q.1 + 1 == i && q.2.category == 2)))
section ROWS
variable {σ : Type} {X : rcX} {Wd : σ → Heap → Prop} {A : Nat → Prop} {Q : State → Prop} {pc : Nat} {l : List (Nat × Value)} {st : List Value} {v : σ} {cc : ByteArray}
theorem j_loc (l' : List (Nat × Value)) (h : l'.map (fun q => rcl l q.1) = l'.map (fun q => some q.2)) (k : rcG X Wd A Q pc l' st v) : rcG X Wd A Q pc l st v := by
  intro H locs ls hl hw hS
  refine k H locs ls ⟨hl.1, hl.2.1, fun q hq => ?_⟩ hw hS
  have h1 : rcl l q.1 = some q.2 := by
    obtain ⟨i, hi⟩ := List.getElem?_of_mem hq
    have h2 := congrArg (fun z => z[i]?) h
    simp only [List.getElem?_map, hi, Option.map_some] at h2
    exact Option.some.inj h2
  exact rcl_at hl h1
theorem j_top {x y : Int32} (h : x = y) (k : rcG X Wd A Q pc l (.int y :: st) v) : rcG X Wd A Q pc l (.int x :: st) v := h ▸ k
theorem j_iconst (F : rcE X cc) {n : Int} (x : Int32) (hdg : decode cc pc = .ok (.iconst n, 1)) (hv : Int32.ofInt n = x) (k : rcG X Wd A Q (pc + 1) l (.int x :: st) v) : rcG X Wd A Q pc l st v := fun H locs ls hl hw hS => lv_iconst F.1 F.2 hdg hv (k H locs ls hl hw hS)
theorem j_bipush (F : rcE X cc) {n : Int} (x : Int32) (hdg : decode cc pc = .ok (.bipush n, 2)) (hv : (Int8.ofInt n).toInt32 = x) (k : rcG X Wd A Q (pc + 2) l (.int x :: st) v) : rcG X Wd A Q pc l st v := fun H locs ls hl hw hS => lv_bipush F.1 F.2 hdg hv (k H locs ls hl hw hS)
theorem j_sipush (F : rcE X cc) {n : Int} (x : Int32) (hdg : decode cc pc = .ok (.sipush n, 3)) (hv : (Int16.ofInt n).toInt32 = x) (k : rcG X Wd A Q (pc + 3) l (.int x :: st) v) : rcG X Wd A Q pc l st v := fun H locs ls hl hw hS => lv_sipush F.1 F.2 hdg hv (k H locs ls hl hw hS)
theorem j_iload_n (F : rcE X cc) {i : Fin 4} {x : Int32} (hdg : decode cc pc = .ok (.iload_n i, 1)) (hx : rcl l i = some (.int x)) (k : rcG X Wd A Q (pc + 1) l (.int x :: st) v) : rcG X Wd A Q pc l st v := fun H locs ls hl hw hS => lv_iload_n F.1 F.2 hdg rfl (rcl_at hl hx) (k H locs ls hl hw hS)
theorem j_iload (F : rcE X cc) {i : Nat} {x : Int32} (hdg : decode cc pc = .ok (.iload i, 2)) (hx : rcl l i = some (.int x)) (k : rcG X Wd A Q (pc + 2) l (.int x :: st) v) : rcG X Wd A Q pc l st v := fun H locs ls hl hw hS => lv_iload F.1 F.2 hdg (rcl_at hl hx) (k H locs ls hl hw hS)
theorem j_lload_n (F : rcE X cc) {i : Fin 4} {x : Int64} (hdg : decode cc pc = .ok (.lload_n i, 1)) (hx : rcl l i = some (.long x)) (k : rcG X Wd A Q (pc + 1) l (.long x :: st) v) : rcG X Wd A Q pc l st v := fun H locs ls hl hw hS => lv_lload_n F.1 F.2 hdg rfl (rcl_at hl hx) (k H locs ls hl hw hS)
theorem j_aload_n (F : rcE X cc) {i : Fin 4} {x : Nat} (hdg : decode cc pc = .ok (.aload_n i, 1)) (hx : rcl l i = some (.ref x)) (k : rcG X Wd A Q (pc + 1) l (.ref x :: st) v) : rcG X Wd A Q pc l st v := fun H locs ls hl hw hS => lv_aload_n F.1 F.2 hdg rfl (rcl_at hl hx) (k H locs ls hl hw hS)
theorem j_istore_n (F : rcE X cc) {i : Fin 4} {x : Int32} (hdg : decode cc pc = .ok (.istore_n i, 1)) (hn : (i : Nat) < xn X) (k : rcG X Wd A Q (pc + 1) (rcs l i (.int x)) st v) : rcG X Wd A Q pc l (.int x :: st) v := fun H locs ls hl hw hS => lv_istore_n F.1 F.2 hdg rfl hl hn rfl (fun ls' hl' => k H locs ls' hl' hw hS)
theorem j_istore (F : rcE X cc) {i : Nat} {x : Int32} (hdg : decode cc pc = .ok (.istore i, 2)) (hn : i < xn X) (k : rcG X Wd A Q (pc + 2) (rcs l i (.int x)) st v) : rcG X Wd A Q pc l (.int x :: st) v := fun H locs ls hl hw hS => lv_istore F.1 F.2 hdg hl hn rfl (fun ls' hl' => k H locs ls' hl' hw hS)
theorem j_lstore_n (F : rcE X cc) {i : Fin 4} {x : Int64} (hdg : decode cc pc = .ok (.lstore_n i, 1)) (hn : (i : Nat) + 1 < xn X) (k : rcG X Wd A Q (pc + 1) (rcs2 l i (.long x)) st v) : rcG X Wd A Q pc l (.long x :: st) v := fun H locs ls hl hw hS => lv_lstore_n F.1 F.2 hdg rfl hl hn rfl (fun ls' hl' => k H locs ls' hl' hw hS)
theorem j_astore_n (F : rcE X cc) {i : Fin 4} {x : Nat} (hdg : decode cc pc = .ok (.astore_n i, 1)) (hn : (i : Nat) < xn X) (k : rcG X Wd A Q (pc + 1) (rcs l i (.ref x)) st v) : rcG X Wd A Q pc l (.ref x :: st) v := fun H locs ls hl hw hS => lv_astore_n F.1 F.2 hdg rfl hl hn rfl (fun ls' hl' => k H locs ls' hl' hw hS)
theorem j_iinc (F : rcE X cc) {i : Nat} {n : Int} {x : Int32} (d : Int32) (hdg : decode cc pc = .ok (.iinc i n, 3)) (hd : Int32.ofInt n = d) (hx : rcl l i = some (.int x)) (hn : i < xn X) (k : rcG X Wd A Q (pc + 3) (rcs l i (.int (x + d))) st v) : rcG X Wd A Q pc l st v := by
  intro H locs ls hl hw hS
  subst hd
  obtain ⟨j, hj⟩ := List.getElem?_of_mem (rcl_mem hx)
  exact lv_iinc F.1 F.2 hdg hl hj rfl hn rfl (fun ls' hl' => k H locs ls' hl' hw hS)
theorem j_iadd (F : rcE X cc) {x y : Int32} (hdg : decode cc pc = .ok (.iadd, 1)) (k : rcG X Wd A Q (pc + 1) l (.int (x + y) :: st) v) : rcG X Wd A Q pc l (.int y :: .int x :: st) v := fun H locs ls hl hw hS => lv_iadd F.1 F.2 hdg (k H locs ls hl hw hS)
theorem j_isub (F : rcE X cc) {x y : Int32} (hdg : decode cc pc = .ok (.isub, 1)) (k : rcG X Wd A Q (pc + 1) l (.int (x - y) :: st) v) : rcG X Wd A Q pc l (.int y :: .int x :: st) v := fun H locs ls hl hw hS => lv_isub F.1 F.2 hdg (k H locs ls hl hw hS)
theorem j_imul (F : rcE X cc) {x y : Int32} (hdg : decode cc pc = .ok (.imul, 1)) (k : rcG X Wd A Q (pc + 1) l (.int (x * y) :: st) v) : rcG X Wd A Q pc l (.int y :: .int x :: st) v := fun H locs ls hl hw hS => lv_imul F.1 F.2 hdg (k H locs ls hl hw hS)
theorem j_iand (F : rcE X cc) {x y : Int32} (hdg : decode cc pc = .ok (.iand, 1)) (k : rcG X Wd A Q (pc + 1) l (.int (x &&& y) :: st) v) : rcG X Wd A Q pc l (.int y :: .int x :: st) v := fun H locs ls hl hw hS => lv_iand F.1 F.2 hdg (k H locs ls hl hw hS)
theorem j_ior (F : rcE X cc) {x y : Int32} (hdg : decode cc pc = .ok (.ior, 1)) (k : rcG X Wd A Q (pc + 1) l (.int (x ||| y) :: st) v) : rcG X Wd A Q pc l (.int y :: .int x :: st) v := fun H locs ls hl hw hS => lv_ior F.1 F.2 hdg (k H locs ls hl hw hS)
theorem j_ixor (F : rcE X cc) {x y : Int32} (hdg : decode cc pc = .ok (.ixor, 1)) (k : rcG X Wd A Q (pc + 1) l (.int (x ^^^ y) :: st) v) : rcG X Wd A Q pc l (.int y :: .int x :: st) v := fun H locs ls hl hw hS => lv_ixor F.1 F.2 hdg (k H locs ls hl hw hS)
theorem j_ishl (F : rcE X cc) {x y : Int32} (hdg : decode cc pc = .ok (.ishl, 1)) (k : rcG X Wd A Q (pc + 1) l (.int (x <<< (y &&& 31)) :: st) v) : rcG X Wd A Q pc l (.int y :: .int x :: st) v := fun H locs ls hl hw hS => lv_ishl F.1 F.2 hdg (k H locs ls hl hw hS)
theorem j_ishr (F : rcE X cc) {x y : Int32} (hdg : decode cc pc = .ok (.ishr, 1)) (k : rcG X Wd A Q (pc + 1) l (.int (x >>> (y &&& 31)) :: st) v) : rcG X Wd A Q pc l (.int y :: .int x :: st) v := fun H locs ls hl hw hS => lv_ishr F.1 F.2 hdg (k H locs ls hl hw hS)
theorem j_ineg (F : rcE X cc) {x : Int32} (hdg : decode cc pc = .ok (.ineg, 1)) (k : rcG X Wd A Q (pc + 1) l (.int (-x) :: st) v) : rcG X Wd A Q pc l (.int x :: st) v := fun H locs ls hl hw hS => lv_ineg F.1 F.2 hdg (k H locs ls hl hw hS)
theorem j_ladd (F : rcE X cc) {x y : Int64} (hdg : decode cc pc = .ok (.ladd, 1)) (k : rcG X Wd A Q (pc + 1) l (.long (x + y) :: st) v) : rcG X Wd A Q pc l (.long y :: .long x :: st) v := fun H locs ls hl hw hS => lv_ladd F.1 F.2 hdg (k H locs ls hl hw hS)
theorem j_lsub (F : rcE X cc) {x y : Int64} (hdg : decode cc pc = .ok (.lsub, 1)) (k : rcG X Wd A Q (pc + 1) l (.long (x - y) :: st) v) : rcG X Wd A Q pc l (.long y :: .long x :: st) v := fun H locs ls hl hw hS => lv_lsub F.1 F.2 hdg (k H locs ls hl hw hS)
theorem j_lmul (F : rcE X cc) {x y : Int64} (hdg : decode cc pc = .ok (.lmul, 1)) (k : rcG X Wd A Q (pc + 1) l (.long (x * y) :: st) v) : rcG X Wd A Q pc l (.long y :: .long x :: st) v := fun H locs ls hl hw hS => lv_lmul F.1 F.2 hdg (k H locs ls hl hw hS)
theorem j_i2l (F : rcE X cc) {x : Int32} (hdg : decode cc pc = .ok (.i2l, 1)) (k : rcG X Wd A Q (pc + 1) l (.long x.toInt64 :: st) v) : rcG X Wd A Q pc l (.int x :: st) v := fun H locs ls hl hw hS => lv_i2l F.1 F.2 hdg rfl (k H locs ls hl hw hS)
theorem j_l2i (F : rcE X cc) {x : Int64} (hdg : decode cc pc = .ok (.l2i, 1)) (k : rcG X Wd A Q (pc + 1) l (.int x.toInt32 :: st) v) : rcG X Wd A Q pc l (.long x :: st) v := fun H locs ls hl hw hS => lv_l2i F.1 F.2 hdg rfl (k H locs ls hl hw hS)
theorem j_i2c (F : rcE X cc) {x : Int32} (hdg : decode cc pc = .ok (.i2c, 1)) (k : rcG X Wd A Q (pc + 1) l (.int (x.toUInt32 % 65536).toInt32 :: st) v) : rcG X Wd A Q pc l (.int x :: st) v := fun H locs ls hl hw hS => lv_i2c F.1 F.2 hdg rfl (k H locs ls hl hw hS)
theorem j_lcmp (F : rcE X cc) {x y : Int64} (hdg : decode cc pc = .ok (.lcmp, 1)) (k : rcG X Wd A Q (pc + 1) l (.int (lg_cmp x y) :: st) v) : rcG X Wd A Q pc l (.long y :: .long x :: st) v := fun H locs ls hl hw hS => W.lcmp F.1 F.2 hdg (k H locs ls hl hw hS)
theorem j_dup (F : rcE X cc) {w : Value} (hdg : decode cc pc = .ok (.dup, 1)) (hc : w.category = 1) (k : rcG X Wd A Q (pc + 1) l (w :: w :: st) v) : rcG X Wd A Q pc l (w :: st) v := fun H locs ls hl hw hS => lv_dup F.1 F.2 hdg hc (k H locs ls hl hw hS)
theorem j_dup2 (F : rcE X cc) {w z : Value} (hdg : decode cc pc = .ok (.dup2, 1)) (hc : w.category = 1) (hz : z.category = 1) (k : rcG X Wd A Q (pc + 1) l (w :: z :: w :: z :: st) v) : rcG X Wd A Q pc l (w :: z :: st) v := fun H locs ls hl hw hS => lv_dup2_11 F.1 F.2 hdg hc hz (k H locs ls hl hw hS)
theorem j_goto (F : rcE X cc) {off : Int} (tgt : Nat) (hdg : decode cc pc = .ok (.goto off, 3)) (ht : (pc : Int) + off = (tgt : Int)) (k : rcG X Wd A Q tgt l st v) : rcG X Wd A Q pc l st v := fun H locs ls hl hw hS => lv_goto F.1 F.2 hdg ht (k H locs ls hl hw hS)
theorem j_if_eq (F : rcE X cc) {x : Int32} {off : Int} (tgt : Nat) (hdg : decode cc pc = .ok (.ifCond .eq off, 3)) (ht : (pc : Int) + off = (tgt : Int)) (kt : x = 0 → rcG X Wd A Q tgt l st v) (kf : ¬ x = 0 → rcG X Wd A Q (pc + 3) l st v) : rcG X Wd A Q pc l (.int x :: st) v := fun H locs ls hl hw hS => lv_if_eq F.1 F.2 hdg ht (fun h => kt h H locs ls hl hw hS) (fun h => kf h H locs ls hl hw hS)
theorem j_icmp_eq (F : rcE X cc) {x y : Int32} {off : Int} (tgt : Nat) (hdg : decode cc pc = .ok (.if_icmp .eq off, 3)) (ht : (pc : Int) + off = (tgt : Int)) (kt : x = y → rcG X Wd A Q tgt l st v) (kf : ¬ x = y → rcG X Wd A Q (pc + 3) l st v) : rcG X Wd A Q pc l (.int y :: .int x :: st) v := fun H locs ls hl hw hS => lv_icmp_eq F.1 F.2 hdg ht (fun h => kt h H locs ls hl hw hS) (fun h => kf h H locs ls hl hw hS)
theorem j_if_ne (F : rcE X cc) {x : Int32} {off : Int} (tgt : Nat) (hdg : decode cc pc = .ok (.ifCond .ne off, 3)) (ht : (pc : Int) + off = (tgt : Int)) (kt : ¬ x = 0 → rcG X Wd A Q tgt l st v) (kf : x = 0 → rcG X Wd A Q (pc + 3) l st v) : rcG X Wd A Q pc l (.int x :: st) v := fun H locs ls hl hw hS => lv_if_ne F.1 F.2 hdg ht (fun h => kt h H locs ls hl hw hS) (fun h => kf h H locs ls hl hw hS)
theorem j_icmp_ne (F : rcE X cc) {x y : Int32} {off : Int} (tgt : Nat) (hdg : decode cc pc = .ok (.if_icmp .ne off, 3)) (ht : (pc : Int) + off = (tgt : Int)) (kt : ¬ x = y → rcG X Wd A Q tgt l st v) (kf : x = y → rcG X Wd A Q (pc + 3) l st v) : rcG X Wd A Q pc l (.int y :: .int x :: st) v := fun H locs ls hl hw hS => lv_icmp_ne F.1 F.2 hdg ht (fun h => kt h H locs ls hl hw hS) (fun h => kf h H locs ls hl hw hS)
theorem j_if_lt (F : rcE X cc) {x : Int32} {off : Int} (tgt : Nat) (hdg : decode cc pc = .ok (.ifCond .lt off, 3)) (ht : (pc : Int) + off = (tgt : Int)) (kt : x < 0 → rcG X Wd A Q tgt l st v) (kf : ¬ x < 0 → rcG X Wd A Q (pc + 3) l st v) : rcG X Wd A Q pc l (.int x :: st) v := fun H locs ls hl hw hS => lv_if_lt F.1 F.2 hdg ht (fun h => kt h H locs ls hl hw hS) (fun h => kf h H locs ls hl hw hS)
theorem j_icmp_lt (F : rcE X cc) {x y : Int32} {off : Int} (tgt : Nat) (hdg : decode cc pc = .ok (.if_icmp .lt off, 3)) (ht : (pc : Int) + off = (tgt : Int)) (kt : x < y → rcG X Wd A Q tgt l st v) (kf : ¬ x < y → rcG X Wd A Q (pc + 3) l st v) : rcG X Wd A Q pc l (.int y :: .int x :: st) v := fun H locs ls hl hw hS => lv_icmp_lt F.1 F.2 hdg ht (fun h => kt h H locs ls hl hw hS) (fun h => kf h H locs ls hl hw hS)
theorem j_if_ge (F : rcE X cc) {x : Int32} {off : Int} (tgt : Nat) (hdg : decode cc pc = .ok (.ifCond .ge off, 3)) (ht : (pc : Int) + off = (tgt : Int)) (kt : 0 ≤ x → rcG X Wd A Q tgt l st v) (kf : ¬ 0 ≤ x → rcG X Wd A Q (pc + 3) l st v) : rcG X Wd A Q pc l (.int x :: st) v := fun H locs ls hl hw hS => lv_if_ge F.1 F.2 hdg ht (fun h => kt h H locs ls hl hw hS) (fun h => kf h H locs ls hl hw hS)
theorem j_icmp_ge (F : rcE X cc) {x y : Int32} {off : Int} (tgt : Nat) (hdg : decode cc pc = .ok (.if_icmp .ge off, 3)) (ht : (pc : Int) + off = (tgt : Int)) (kt : y ≤ x → rcG X Wd A Q tgt l st v) (kf : ¬ y ≤ x → rcG X Wd A Q (pc + 3) l st v) : rcG X Wd A Q pc l (.int y :: .int x :: st) v := fun H locs ls hl hw hS => lv_icmp_ge F.1 F.2 hdg ht (fun h => kt h H locs ls hl hw hS) (fun h => kf h H locs ls hl hw hS)
theorem j_if_gt (F : rcE X cc) {x : Int32} {off : Int} (tgt : Nat) (hdg : decode cc pc = .ok (.ifCond .gt off, 3)) (ht : (pc : Int) + off = (tgt : Int)) (kt : 0 < x → rcG X Wd A Q tgt l st v) (kf : ¬ 0 < x → rcG X Wd A Q (pc + 3) l st v) : rcG X Wd A Q pc l (.int x :: st) v := fun H locs ls hl hw hS => lv_if_gt F.1 F.2 hdg ht (fun h => kt h H locs ls hl hw hS) (fun h => kf h H locs ls hl hw hS)
theorem j_icmp_gt (F : rcE X cc) {x y : Int32} {off : Int} (tgt : Nat) (hdg : decode cc pc = .ok (.if_icmp .gt off, 3)) (ht : (pc : Int) + off = (tgt : Int)) (kt : y < x → rcG X Wd A Q tgt l st v) (kf : ¬ y < x → rcG X Wd A Q (pc + 3) l st v) : rcG X Wd A Q pc l (.int y :: .int x :: st) v := fun H locs ls hl hw hS => lv_icmp_gt F.1 F.2 hdg ht (fun h => kt h H locs ls hl hw hS) (fun h => kf h H locs ls hl hw hS)
theorem j_if_le (F : rcE X cc) {x : Int32} {off : Int} (tgt : Nat) (hdg : decode cc pc = .ok (.ifCond .le off, 3)) (ht : (pc : Int) + off = (tgt : Int)) (kt : x ≤ 0 → rcG X Wd A Q tgt l st v) (kf : ¬ x ≤ 0 → rcG X Wd A Q (pc + 3) l st v) : rcG X Wd A Q pc l (.int x :: st) v := fun H locs ls hl hw hS => lv_if_le F.1 F.2 hdg ht (fun h => kt h H locs ls hl hw hS) (fun h => kf h H locs ls hl hw hS)
theorem j_icmp_le (F : rcE X cc) {x y : Int32} {off : Int} (tgt : Nat) (hdg : decode cc pc = .ok (.if_icmp .le off, 3)) (ht : (pc : Int) + off = (tgt : Int)) (kt : x ≤ y → rcG X Wd A Q tgt l st v) (kf : ¬ x ≤ y → rcG X Wd A Q (pc + 3) l st v) : rcG X Wd A Q pc l (.int y :: .int x :: st) v := fun H locs ls hl hw hS => lv_icmp_le F.1 F.2 hdg ht (fun h => kt h H locs ls hl hw hS) (fun h => kf h H locs ls hl hw hS)
theorem j_tableOut (F : rcE X cc) {dflt lo hi : Int} {offs : Array Int} {len : Nat} {x : Int32} (tgt : Nat) (hdg : decode cc pc = .ok (.tableswitch dflt lo hi offs, len)) (h : x.toInt < lo ∨ hi < x.toInt) (ht : (pc : Int) + dflt = (tgt : Int)) (k : rcG X Wd A Q tgt l st v) : rcG X Wd A Q pc l (.int x :: st) v := fun H locs ls hl hw hS => lv_tableOut F.1 F.2 hdg h ht (k H locs ls hl hw hS)
theorem j_tableIn (F : rcE X cc) {dflt lo hi off : Int} {offs : Array Int} {len : Nat} {x : Int32} (tgt : Nat) (hdg : decode cc pc = .ok (.tableswitch dflt lo hi offs, len)) (h1 : ¬ x.toInt < lo) (h2 : ¬ hi < x.toInt) (ho : offs[(x.toInt - lo).toNat]? = some off) (ht : (pc : Int) + off = (tgt : Int)) (k : rcG X Wd A Q tgt l st v) : rcG X Wd A Q pc l (.int x :: st) v := fun H locs ls hl hw hS => lv_tableIn F.1 F.2 hdg h1 h2 ho ht (k H locs ls hl hw hS)
theorem j_lookup (F : rcE X cc) {dflt off : Int} {ps : Array (Int × Int)} {len : Nat} {x : Int32} (tgt : Nat) (hdg : decode cc pc = .ok (.lookupswitch dflt ps, len)) (hp : (ps.toList.zip (ps.toList.drop 1)).all (fun (a, next) => a.1 < next.1) = true) (ho : Op.lookupswitch.offset ps.toList dflt x.toInt = off) (ht : (pc : Int) + off = (tgt : Int)) (k : rcG X Wd A Q tgt l st v) : rcG X Wd A Q pc l (.int x :: st) v := fun H locs ls hl hw hS => lv_lookup F.1 F.2 hdg hp ho ht (k H locs ls hl hw hS)
end ROWS
end
section
/-! Contracts over a world of fixed shape, and the rows of fields, arrays, calls and returns. -/
/-- a method: its name, code, locals, what it returns -/
abbrev rcD : Type := MethodName × ByteArray × Nat × Option FieldType
def rcR (d : Nat) : Room := { frames := d, cells := 0, slots := 0, locals := 40 * d }
def rcQ (sh : rcH) (N : Nat) (Y : rcY) (K : Option Value → rcM → Prop) : Array Value → State → Outcome → State → Prop := fun _ st oc t => (∃ (r : Option Value) (u : rcM), oc = .returned r ∧ K r u ∧ rcW sh N Y u t.heap) ∧ va_F (rcA N Y) st t
/-- the contract: called with 'as' over the world v, the method returns, and K holds of its answer and the new world -/
def rcT (sh : rcH) (N : Nat) (Y : rcY) (la : Launch) (d : Nat) (M : rcD) (as : List Value) (v : rcM) (K : Option Value → rcM → Prop) : Prop :=
  Met la M.1 (Cond.code M.1 M.2.1 M.2.2.1 M.2.2.2 :: lw_g) (rcR d) (va_Pc as (fun U => rcW sh N Y v U.heap ∧ rcK sh N Y U)) (rcQ sh N Y K) 0 0 (rcA N Y)
abbrev rI (x : Int32) (u : rcM) : Option Value → rcM → Prop := fun r w => r = some (.int x) ∧ w = u
abbrev rV (u : rcM) : Option Value → rcM → Prop := fun r w => r = none ∧ w = u
/-- the facts of a walk -/
def rcF (sh : rcH) (N : Nat) (Y : rcY) (X : rcX) (cc : ByteArray) (own : String) (rt : Option FieldType) (d : Nat) : Prop :=
  rcE X cc ∧ (∀ w ∈ lw_g, w.before (xa X) (xs X) = true) ∧ (xs X).vm.findClass own = some (xm X).cls ∧ (xc X).maxLocals = xn X ∧ (xh X).sig.returnType = rt ∧ (xh X).locks = false ∧ rcK sh N Y (xs X) ∧ d ≤ (xR X).frames ∧ 40 * d ≤ (xR X).locals ∧ xk X ≤ (xR X).cells ∧ xo X ≤ (xR X).slots
/-- a walk of a method -/
abbrev rcJ (sh : rcH) (N : Nat) (Y : rcY) (X : rcX) (K : Option Value → rcM → Prop) (pc : Nat) (l : List (Nat × Value)) (st : List Value) (v : rcM) : Prop :=
  rcG X (rcW sh N Y) (rcA N Y) (MQ (xb X) (rcQ sh N Y K) (xa X) (xs X) (xk X) (xo X) (rcA N Y)) pc l st v
theorem rcK_moved {sh : rcH} {N : Nat} {Y : rcY} {s U : State} (hW : s.WarmedH U.vm) (h : rcK sh N Y s) : rcK sh N Y U := by
  obtain ⟨h1, h2, h3, h4⟩ := h
  refine ⟨h1, va_K.moved hW.alike h2, fun id t n hid hs => ⟨arrOfT_moved hW.alike (h3 id t n hid hs).1, (h3 id t n hid hs).2.moved hW.alike⟩, fun w hw => ?_⟩
  have hx : ∃ a i x b, w = .methodLinkNest a i x b := by
    have hk : lw_nest w = true := (List.mem_filter.mp hw).2
    cases w <;> first | exact ⟨_, _, _, _, rfl⟩ | (simp [lw_nest] at hk; done)
  obtain ⟨a, i, x, b, rfl⟩ := hx
  exact va_Nw.warmM hW (h4 _ hw)
theorem rcK_calling {sh : rcH} {N : Nat} {Y : rcY} {U : State} {g : JFrame} {mk : MethodId} {a : Array Value} (h : rcK sh N Y U) : rcK sh N Y (U.calling g mk a) := by
  obtain ⟨h1, h2, h3, h4⟩ := h
  refine ⟨h1, va_K.moved (u := U) (U := U.calling g mk a) (Vm.Alike.refl U.vm) h2, fun id t n hid hs => ⟨arrOfT_moved (u := U) (E := U.calling g mk a) (Vm.Alike.refl U.vm) (h3 id t n hid hs).1, (h3 id t n hid hs).2.moved (u := U) (U := U.calling g mk a) (Vm.Alike.refl U.vm)⟩, fun w hw => ?_⟩
  have hx : ∃ a i x b, w = .methodLinkNest a i x b := by
    have hk : lw_nest w = true := (List.mem_filter.mp hw).2
    cases w <;> first | exact ⟨_, _, _, _, rfl⟩ | (simp [lw_nest] at hk; done)
  obtain ⟨a', i, x, b, rfl⟩ := hx
  exact va_Nw.same rfl (u := U) (U := U.calling g mk a) rfl (h4 _ hw)
theorem rcT.of {sh : rcH} {N : Nat} {Y : rcY} {la : Launch} {d : Nat} {y : MethodName} {cc : ByteArray} {maxL : Nat} {ret : Option FieldType} {as : List Value} {v : rcM} {K : Option Value → rcM → Prop}
    (hy : plainName y.cls = true) (hlen : (lg_sl as).length ≤ maxL)
    (body : ∀ X : rcX, rcF sh N Y X cc y.cls ret d → xn X = maxL → rcJ sh N Y X K 0 (lv_args 0 as) [] v) : rcT sh N Y la d (y, cc, maxL, ret) as v K := by
  refine Met.ofW (cc := cc) (maxL := maxL) (ret := ret) hy rfl ?_
  intro p e s m args below meth c s₁ B hml hv
  obtain ⟨rfl, hW, hK⟩ := hv
  have hts : ∀ w ∈ (Cond.code y cc maxL ret :: lw_g), w.before as.toArray s = true := atoms_spec (ws := Cond.code y cc maxL ret :: lw_g) B.pre
  have hown : s.vm.findClass y.cls = some m.cls := findClass_of_methodNamed B.named
  have F : rcF sh N Y (p, la, e, rcR d, s, m, as.toArray, below, meth, c, maxL, 0, 0) cc y.cls ret d :=
    ⟨⟨B.exec, B.bytes⟩, fun w hw => hts w (List.mem_cons_of_mem _ hw), hown, hml, B.returns, B.notSynchronized, hK, Nat.le_refl _, Nat.le_refl _, Nat.le_refl _, Nat.le_refl _⟩
  have J := body (p, la, e, rcR d, s, m, as.toArray, below, meth, c, maxL, 0, 0) F rfl
  rw [lg_entry_eq]
  exact J s.heap [] _ (lv_entry as hlen) hW va_S.rf
section FR
variable {sh : rcH} {N : Nat} {Y : rcY} {X : rcX} {cc : ByteArray} {own : String} {rt : Option FieldType} {d : Nat} {K : Option Value → rcM → Prop} {pc : Nat} {l : List (Nat × Value)} {st : List Value} {v : rcM}
theorem j_iret (F : rcF sh N Y X cc own (some .int) d) {x : Int32} (hdg : decode cc pc = .ok (.ireturn, 1)) (hK : K (some (.int x)) v) : rcJ sh N Y X K pc l [.int x] v := by
  intro H locs ls hl hw hS
  obtain ⟨E, hts, hown, hml, hr, hlk, hKK, -⟩ := F
  exact W.iret (v := x) E.1 E.2 hr (fun t ht hW => ⟨⟨_, v, rfl, hK, by rw [ht]; exact hw⟩, hS.F ht⟩) hS.2.2 hdg hlk
theorem j_zret (F : rcF sh N Y X cc own (some .boolean) d) {x : Int32} (hx : x = 0 ∨ x = 1) (hdg : decode cc pc = .ok (.ireturn, 1)) (hK : K (some (.int x)) v) : rcJ sh N Y X K pc l [.int x] v := by
  intro H locs ls hl hw hS
  obtain ⟨E, hts, hown, hml, hr, hlk, hKK, -⟩ := F
  exact W.zret (v := x) (ty := .boolean) E.1 E.2 hr (by rcases hx with rfl | rfl <;> rfl) (fun t ht hW => ⟨⟨_, v, rfl, hK, by rw [ht]; exact hw⟩, hS.F ht⟩) hS.2.2 hdg hlk
theorem j_vret (F : rcF sh N Y X cc own none d) (hdg : decode cc pc = .ok (.return_, 1)) (hK : K none v) : rcJ sh N Y X K pc l [] v := by
  intro H locs ls hl hw hS
  obtain ⟨E, hts, hown, hml, hr, hlk, hKK, -⟩ := F
  exact W.vret E.1 E.2 hr (fun t ht hW => ⟨⟨_, v, rfl, hK, by rw [ht]; exact hw⟩, hS.F ht⟩) hS.2.2 hdg hlk
theorem j_get (F : rcF sh N Y X cc own rt d) {ci k index id kd Nf : Nat} {ks : List Nat} {C : String} {T : u_T} {x : Value} (hin : ∀ w ∈ u_ws C T Nf, w ∈ lw_g) (hc : vwCl[ci]? = some (C, T, Nf)) (hk : k < Nf)
    (hl : Cond.fieldLink own index (T k).1 (T k).2.1 (T k).2.2.1 ∈ lw_g) (hs : id < N ∧ sh id = .inl (ci, ks)) (hkd : ks[k]? = some kd) (hx : rcv Y v id k kd = x) (hdg : decode cc pc = .ok (.getfield index, 3))
    (kk : rcJ sh N Y X K (pc + 3) l (x :: st) v) : rcJ sh N Y X K pc l (.ref (Y.2.1 id) :: st) v := by
  intro H locs ls hl' hw hS
  obtain ⟨E, hts, hown, hml, hr, hlk, hKK, -⟩ := F
  have he : (rcw sh N Y v)[id]? = some (Y.2.1 id, .inr (ci, ks.mapIdx (fun k kd => rcv Y v id k kd))) := by rw [rcw_at hs.1, rce_obj hs.2]
  exact va_get (D := Y.2.2) (ci := ci) (v := x) (C := C) (T := T) (N := Nf) E.1 E.2 hts hin hown hKK.2.1 hw id he hc k hk (hts _ hl) (fun _ h9 => h9) (by rw [List.getElem?_mapIdx, hkd]; exact congrArg some hx) hdg (kk H locs ls hl' hw hS)
theorem j_puti (F : rcF sh N Y X cc own rt d) {ci k index id Nf : Nat} {ks : List Nat} {C : String} {T : u_T} {x : Int32} {ty0 : Nat → FieldType} (hin : ∀ w ∈ u_ws C T Nf, w ∈ lw_g) (hty : ∀ k, k < Nf → parseFieldDescriptor (T k).2.2.1 = some (ty0 k)) (hnm : ∀ a, a < Nf → ∀ b, b < Nf → a ≠ b → (T a).2.1 ≠ (T b).2.1) (hc : vwCl[ci]? = some (C, T, Nf)) (hk : k < Nf)
    (hl : Cond.fieldLink own index (T k).1 (T k).2.1 (T k).2.2.1 ∈ lw_g) (hfin : (T k).2.2.2 = false) (ht : ty0 k = .int) (hs : id < N ∧ sh id = .inl (ci, ks)) (hkd : ks[k]? = some 0) (hdg : decode cc pc = .ok (.putfield index, 3))
    (kk : rcJ sh N Y X K (pc + 3) l st (rcu v id k x)) : rcJ sh N Y X K pc l (.int x :: .ref (Y.2.1 id) :: st) v := by
  intro H locs ls hl' hw hS
  obtain ⟨E, hts, hown, hml, hr, hlk, hKK, -⟩ := F
  have he : (rcw sh N Y v)[id]? = some (Y.2.1 id, .inr (ci, ks.mapIdx (fun k kd => rcv Y v id k kd))) := by rw [rcw_at hs.1, rce_obj hs.2]
  refine va_put (D := Y.2.2) (ci := ci) (v := .int x) (ty := .int) (C := C) (T := T) (N := Nf) E.1 E.2 hts hin ty0 hty hnm hown hKK.2.1 hw (rcw_D hKK.1) hS id he hc k hk (hts _ hl) (fun _ h9 => h9) hfin (by rw [hty k hk, ht]) rfl rfl (by simpa using (List.getElem?_eq_some_iff.mp hkd).1) hdg (fun H1 locs1 hP hD hS1 => ?_)
  rw [rcw_set hs.1 (rce_put hs.2 hkd (Or.inl rfl)) (fun j hj => rcu_ne hj)] at hP
  exact kk H1 locs1 ls hl' hP hS1
theorem j_putz (F : rcF sh N Y X cc own rt d) {ci k index id Nf : Nat} {ks : List Nat} {C : String} {T : u_T} {x : Int32} {ty0 : Nat → FieldType} (hin : ∀ w ∈ u_ws C T Nf, w ∈ lw_g) (hty : ∀ k, k < Nf → parseFieldDescriptor (T k).2.2.1 = some (ty0 k)) (hnm : ∀ a, a < Nf → ∀ b, b < Nf → a ≠ b → (T a).2.1 ≠ (T b).2.1) (hc : vwCl[ci]? = some (C, T, Nf)) (hk : k < Nf)
    (hl : Cond.fieldLink own index (T k).1 (T k).2.1 (T k).2.2.1 ∈ lw_g) (hfin : (T k).2.2.2 = false) (ht : ty0 k = .boolean) (hs : id < N ∧ sh id = .inl (ci, ks)) (hkd : ks[k]? = some 1) (hx : x = 0 ∨ x = 1) (hdg : decode cc pc = .ok (.putfield index, 3))
    (kk : rcJ sh N Y X K (pc + 3) l st (rcu v id k x)) : rcJ sh N Y X K pc l (.int x :: .ref (Y.2.1 id) :: st) v := by
  intro H locs ls hl' hw hS
  obtain ⟨E, hts, hown, hml, hr, hlk, hKK, -⟩ := F
  have he : (rcw sh N Y v)[id]? = some (Y.2.1 id, .inr (ci, ks.mapIdx (fun k kd => rcv Y v id k kd))) := by rw [rcw_at hs.1, rce_obj hs.2]
  refine va_put (D := Y.2.2) (ci := ci) (v := .int x) (ty := .boolean) (C := C) (T := T) (N := Nf) E.1 E.2 hts hin ty0 hty hnm hown hKK.2.1 hw (rcw_D hKK.1) hS id he hc k hk (hts _ hl) (fun _ h9 => h9) hfin (by rw [hty k hk, ht]) (by rcases hx with rfl | rfl <;> rfl) (by rcases hx with rfl | rfl <;> rfl) (by simpa using (List.getElem?_eq_some_iff.mp hkd).1) hdg (fun H1 locs1 hP hD hS1 => ?_)
  rw [rcw_set hs.1 (rce_put hs.2 hkd (Or.inr ⟨rfl, rcb_of hx⟩)) (fun j hj => rcu_ne hj)] at hP
  exact kk H1 locs1 ls hl' hP hS1
theorem rcK_arr (h : rcK sh N Y (xs X)) {id t n : Nat} (hs : id < N ∧ sh id = .inr (t, n)) : va_K Y.2.2 vwCl [(Y.1 id, rcty t)] (xs X) := by
  refine ⟨h.2.1.1, fun k q hq => ?_⟩
  match k, hq with
  | 0, hq => cases hq; exact h.2.2.1 id t n hs.1 hs.2
  | k + 1, hq => simp at hq
/-- an array's place: an index that is a number below its length -/
theorem j_iald (F : rcF sh N Y X cc own rt d) {id n j : Nat} {i : Int32} (hs : id < N ∧ sh id = .inr (0, n)) (hi : i = nI j) (hj : j < n) (hn : n < 2 ^ 31) (hdg : decode cc pc = .ok (.iaload, 1))
    (kk : rcJ sh N Y X K (pc + 1) l (.int (v id j) :: st) v) : rcJ sh N Y X K pc l (.int i :: .ref (Y.2.1 id) :: st) v := by
  intro H locs ls hl' hw hS
  subst hi
  obtain ⟨E, hts, hown, hml, hr, hlk, hKK, -⟩ := F
  have he : (rcw sh N Y v)[id]? = some (Y.2.1 id, .inl (Y.1 id, n, .inl (v id))) := by rw [rcw_at hs.1, rce_arr hs.2]; rfl
  refine va_iald (D := Y.2.2) E.1 E.2 (rcK_arr hKK hs) hw id 0 he rfl (vp_in_nI hj hn) hdg ?_
  rw [nI_clamp (Nat.lt_trans hj hn)]
  exact kk H locs ls hl' hw hS
theorem j_iast (F : rcF sh N Y X cc own rt d) {id n j : Nat} {i x : Int32} (hs : id < N ∧ sh id = .inr (0, n)) (hi : i = nI j) (hj : j < n) (hn : n < 2 ^ 31) (hdg : decode cc pc = .ok (.iastore, 1))
    (kk : rcJ sh N Y X K (pc + 1) l st (rcu v id j x)) : rcJ sh N Y X K pc l (.int x :: .int i :: .ref (Y.2.1 id) :: st) v := by
  intro H locs ls hl' hw hS
  subst hi
  obtain ⟨E, hts, hown, hml, hr, hlk, hKK, -⟩ := F
  have he : (rcw sh N Y v)[id]? = some (Y.2.1 id, .inl (Y.1 id, n, .inl (v id))) := by rw [rcw_at hs.1, rce_arr hs.2]; rfl
  refine va_iast (D := Y.2.2) E.1 E.2 (rcK_arr hKK hs) hw (rcw_D hKK.1) hS id 0 he rfl (vp_in_nI hj hn) hdg (fun H1 locs1 hP hD hS1 => ?_)
  rw [nI_clamp (Nat.lt_trans hj hn), rcw_set (v' := rcu v id j x) hs.1 (by rw [rce_arr hs.2]; show _ = Sum.inl (Y.1 id, n, Sum.inl (rcu v id j x id)); rw [rcu_row]) (fun j hj => rcu_ne hj)] at hP
  exact kk H1 locs1 ls hl' hP hS1
theorem j_cald (F : rcF sh N Y X cc own rt d) {id n j : Nat} {i : Int32} (hs : id < N ∧ sh id = .inr (1, n)) (hi : i = nI j) (hj : j < n) (hn : n < 2 ^ 31) (hdg : decode cc pc = .ok (.caload, 1))
    (kk : rcJ sh N Y X K (pc + 1) l (.int (v id j) :: st) v) : rcJ sh N Y X K pc l (.int i :: .ref (Y.2.1 id) :: st) v := by
  intro H locs ls hl' hw hS
  subst hi
  obtain ⟨E, hts, hown, hml, hr, hlk, hKK, -⟩ := F
  have he : (rcw sh N Y v)[id]? = some (Y.2.1 id, .inl (Y.1 id, n, .inl (v id))) := by rw [rcw_at hs.1, rce_arr hs.2]; rfl
  refine va_cald (D := Y.2.2) E.1 E.2 (rcK_arr hKK hs) hw id 0 he rfl (vp_in_nI hj hn) hdg ?_
  rw [nI_clamp (Nat.lt_trans hj hn)]
  exact kk H locs ls hl' hw hS
theorem j_cast (F : rcF sh N Y X cc own rt d) {id n j : Nat} {i x : Int32} (hs : id < N ∧ sh id = .inr (1, n)) (hi : i = nI j) (hj : j < n) (hn : n < 2 ^ 31) (hx : vp_nar .char x = x) (hdg : decode cc pc = .ok (.castore, 1))
    (kk : rcJ sh N Y X K (pc + 1) l st (rcu v id j x)) : rcJ sh N Y X K pc l (.int x :: .int i :: .ref (Y.2.1 id) :: st) v := by
  intro H locs ls hl' hw hS
  subst hi
  obtain ⟨E, hts, hown, hml, hr, hlk, hKK, -⟩ := F
  have he : (rcw sh N Y v)[id]? = some (Y.2.1 id, .inl (Y.1 id, n, .inl (v id))) := by rw [rcw_at hs.1, rce_arr hs.2]; rfl
  refine va_cast (D := Y.2.2) E.1 E.2 (rcK_arr hKK hs) hw (rcw_D hKK.1) hS id 0 he rfl (vp_in_nI hj hn) hdg (fun H1 locs1 hP hD hS1 => ?_)
  rw [hx, nI_clamp (Nat.lt_trans hj hn), rcw_set (v' := rcu v id j x) hs.1 (by rw [rce_arr hs.2]; show _ = Sum.inl (Y.1 id, n, Sum.inl (rcu v id j x id)); rw [rcu_row]) (fun j hj => rcu_ne hj)] at hP
  exact kk H1 locs1 ls hl' hP hS1
/-- a cell of a State's row -/
theorem j_aald3 (F : rcF sh N Y X cc own rt d) {id n j : Nat} {i : Int32} (hs : id < N ∧ sh id = .inr (3, n)) (hi : i = nI j) (hj : j < n) (hn : n < 2 ^ 31) (hdg : decode cc pc = .ok (.aaload, 1))
    (kk : rcJ sh N Y X K (pc + 1) l (.ref (Y.2.1 (j + (id + 1))) :: st) v) : rcJ sh N Y X K pc l (.int i :: .ref (Y.2.1 id) :: st) v := by
  intro H locs ls hl' hw hS
  subst hi
  obtain ⟨E, hts, hown, hml, hr, hlk, hKK, -⟩ := F
  have he : (rcw sh N Y v)[id]? = some (Y.2.1 id, .inl (Y.1 id, n, .inr (.inr (.inr (.inr (fun j => some (Y.2.1 (j + (id + 1))))))))) := by rw [rcw_at hs.1, rce_arr hs.2]; rfl
  refine va_aldq (D := Y.2.2) E.1 E.2 (rcK_arr hKK hs) hw id 0 he rfl (vp_in_nI hj hn) hdg ?_
  rw [nI_clamp (Nat.lt_trans hj hn)]
  exact kk H locs ls hl' hw hS
/-- a State of the history's row -/
theorem j_aald2 (F : rcF sh N Y X cc own rt d) {id n j : Nat} {i : Int32} (hs : id < N ∧ sh id = .inr (2, n)) (hi : i = nI j) (hj : j < n) (hn : n < 2 ^ 31) (hdg : decode cc pc = .ok (.aaload, 1))
    (kk : rcJ sh N Y X K (pc + 1) l (.ref (Y.2.1 (v id j).toNatClampNeg) :: st) v) : rcJ sh N Y X K pc l (.int i :: .ref (Y.2.1 id) :: st) v := by
  intro H locs ls hl' hw hS
  subst hi
  obtain ⟨E, hts, hown, hml, hr, hlk, hKK, -⟩ := F
  have he : (rcw sh N Y v)[id]? = some (Y.2.1 id, .inl (Y.1 id, n, .inr (.inr (.inr (.inr (fun j => some (Y.2.1 (v id j).toNatClampNeg))))))) := by rw [rcw_at hs.1, rce_arr hs.2]; rfl
  refine va_aldq (D := Y.2.2) E.1 E.2 (rcK_arr hKK hs) hw id 0 he rfl (vp_in_nI hj hn) hdg ?_
  rw [nI_clamp (Nat.lt_trans hj hn)]
  exact kk H locs ls hl' hw hS
theorem j_aast2 (F : rcF sh N Y X cc own rt d) {id n j b : Nat} {i : Int32} {ks : List Nat} (hs : id < N ∧ sh id = .inr (2, n)) (hb : b < N ∧ sh b = .inl (3, ks)) (hi : i = nI j) (hj : j < n) (hn : n < 2 ^ 31) (hb2 : b < 2 ^ 31) (hdg : decode cc pc = .ok (.aastore, 1))
    (kk : rcJ sh N Y X K (pc + 1) l st (rcu v id j (nI b))) : rcJ sh N Y X K pc l (.ref (Y.2.1 b) :: .int i :: .ref (Y.2.1 id) :: st) v := by
  intro H locs ls hl' hw hS
  subst hi
  obtain ⟨E, hts, hown, hml, hr, hlk, hKK, -⟩ := F
  have he : (rcw sh N Y v)[id]? = some (Y.2.1 id, .inl (Y.1 id, n, .inr (.inr (.inr (.inr (fun j => some (Y.2.1 (v id j).toNatClampNeg))))))) := by rw [rcw_at hs.1, rce_arr hs.2]; rfl
  have heb : (rcw sh N Y v)[b]? = some (Y.2.1 b, .inr (3, ks.mapIdx (fun k kd => rcv Y v b k kd))) := by rw [rcw_at hb.1, rce_obj hb.2]
  refine va_astq (D := Y.2.2) (r := (RX3, TX3, 10)) E.1 E.2 (rcK_arr hKK hs) hw (rcw_D hKK.1) hS id 0 b 3 he rfl heb rfl (vp_in_nI hj hn) hdg (fun H1 locs1 hP hD hS1 => ?_)
  rw [nI_clamp (Nat.lt_trans hj hn), rcw_set (v' := rcu v id j (nI b)) hs.1 (by
    rw [rce_arr hs.2]
    have : (fun i => some (Y.2.1 (rcu v id j (nI b) id i).toNatClampNeg)) = va_up (fun j => some (Y.2.1 (v id j).toNatClampNeg)) j (some (Y.2.1 b)) := by
      funext i
      by_cases h : i = j
      · subst h
        rw [rcu_self, nI_clamp hb2]
        simp [va_up]
      · rw [rcu_k h]
        simp [va_up, h]
    show _ = Sum.inl (Y.1 id, n, Sum.inr (Sum.inr (Sum.inr (Sum.inr (fun i => some (Y.2.1 (rcu v id j (nI b) id i).toNatClampNeg))))))
    rw [this]) (fun j hj => rcu_ne hj)] at hP
  exact kk H1 locs1 ls hl' hP hS1
theorem j_ldc (F : rcF sh N Y X cc own rt d) {index : Nat} {x : Int32} (hl : Cond.constant own index x ∈ lw_g) (hdg : decode cc pc = .ok (.ldc index, 2)) (kk : rcJ sh N Y X K (pc + 2) l (.int x :: st) v) : rcJ sh N Y X K pc l st v := fun H locs ls hl' hw hS => lv_ldc F.1.1 F.1.2 F.2.2.1 (F.2.1 _ hl) hdg (kk H locs ls hl' hw hS)
theorem j_ldc2 (F : rcF sh N Y X cc own rt d) {index : Nat} {x : Int64} (hl : Cond.constantLong own index x ∈ lw_g) (hdg : decode cc pc = .ok (.ldc2_w index, 3)) (kk : rcJ sh N Y X K (pc + 3) l (.long x :: st) v) : rcJ sh N Y X K pc l st v := fun H locs ls hl' hw hS => lv_ldc2 F.1.1 F.1.2 F.2.2.1 (F.2.1 _ hl) hdg (kk H locs ls hl' hw hS)
end FR
end
section
/-! Calls: a contract at a call. -/
section CALLS
variable {σ : Type} {sh : rcH} {N : Nat} {Y : rcY} {X : rcX} {cc : ByteArray} {own : String} {rt : Option FieldType} {d : Nat} {Wd : σ → Heap → Prop} {A : Nat → Prop} {Q : State → Prop} {pc : Nat} {l : List (Nat × Value)} {st stk : List Value} {v : σ}
/-- how a callee's world is a part of the caller's -/
def rcP (sh : rcH) (N : Nat) (Y : rcY) (Wd : σ → Heap → Prop) (v : σ) (vs : rcM) (pt : rcM → σ) : Prop :=
  (∀ H, Wd v H → rcW sh N Y vs H) ∧ ∀ (u : rcM) (H H1 : Heap), Wd v H → rcW sh N Y u H1 → H.size ≤ H1.size → (∀ q : Nat, q < H.size → ¬ rcA N Y q → H1[q]? = H[q]?) → Wd (pt u) H1
theorem rcP.self {v : rcM} : rcP sh N Y (rcW sh N Y) v v (fun u => u) := ⟨fun _ h => h, fun _ _ _ _ h _ _ => h⟩
theorem g_run {K : Option Value → rcM → Prop} {H : Heap} {locs : List Loc} {ls : Array Slot} {st0 : List Value} {a : Array Value} (hAf : ∀ q, rcA N Y q → A q)
    (hr : va_Run (xp X) (xl X) (xe X) (xR X) (xs X) (xm X) (xa X) (xb X) (xh X) (xc X) H locs (xk X) (xo X) 0 0 (F0 (xm X) pc ls st0) st (rcQ sh N Y K a) (rcA N Y)) (hS : va_S A (xs X).heap H locs)
    (kk : ∀ (r : Option Value) (u : rcM) (H1 : Heap) (locs1 : List Loc), K r u → rcW sh N Y u H1 → H.size ≤ H1.size → (∀ q : Nat, q < H.size → ¬ rcA N Y q → H1[q]? = H[q]?) → va_S A (xs X).heap H1 locs1 → W (xp X) (xl X) (xe X) (xR X) (xs X) (xm X) (xa X) (xb X) (xh X) (xc X) H1 locs1 (xk X) (xo X) Q (F0 (xm X) (pc + 3) ls (r.toList ++ st))) :
    W (xp X) (xl X) (xe X) (xR X) (xs X) (xm X) (xa X) (xb X) (xh X) (xc X) H locs (xk X) (xo X) Q (F0 (xm X) pc ls st0) := by
  intro T hT X0
  obtain ⟨w, st₀, t, T', L, h0, X', hL, e1, e2, ⟨⟨r, u, hv, hp, hb⟩, hz, hk⟩, hst⟩ := hr T hT X0
  cases hv
  rw [h0] at hz hk
  obtain ⟨t2, a1, b1⟩ := kk w u T'.heap (locs ++ L) hp (by rw [e1]; exact hb) (by rw [e1]; exact hz) (fun q h1 h2 => by rw [e1]; exact hk q h1 h2)
    ⟨Nat.le_trans hS.1 (by rw [e1]; exact hz), fun q h1 h2 => by rw [e1, hk q (Nat.lt_of_lt_of_le h1 hS.1) (fun z => h2 (hAf q z))]; exact hS.2.1 q h1 h2, fun q hq => by
      rcases List.mem_append.mp hq with h | h
      · exact hS.2.2 q h
      · exact hAf _ (hL q h)⟩ T' rfl X'
  exact ⟨t2, hst t2 a1, b1⟩
/-- what a call needs of a callee's words -/
abbrev rcC (y : MethodName) (n : Nat) : Prop := y.cls ≠ "java/lang/invoke/MethodHandle" ∧ y.cls ≠ "java/lang/invoke/VarHandle" ∧ (parseMethodDescriptor y.desc).map (fun d => d.parameters.length) = some n
theorem rc_good {c : Cond} (h : c ∈ lw_g) : GoodIn lw_g (c :: lw_g) := by
  intro w hw
  rcases List.mem_cons.mp hw with rfl | hw
  · exact ⟨h, good_of_word (List.mem_filter.mp h).2⟩
  · exact ⟨hw, good_of_word (List.mem_filter.mp hw).2⟩
theorem rc_blind {as : List Value} {vs : rcM} : FrameBlind (va_Pc as (fun U => rcW sh N Y vs U.heap ∧ rcK sh N Y U)) := fun a U g mk q => ⟨q.1, q.2.1, rcK_calling q.2.2⟩
theorem rc_callB (F : rcF sh N Y X cc own rt d) {y : MethodName} {cb : ByteArray} {mL d' n index : Nat} {re : Option FieldType} (hco : Cond.code y cb mL re ∈ lw_g) (hml : Cond.methodLink own index y ∈ lw_g) (hini : Cond.initialized y.cls ∈ lw_g) (hd : rcC y n) (hdd : d' < d) (hmL : mL ≤ 21) :
    CallB (xR X) (xs X) (xa X) own index y cb mL re (Cond.code y cb mL re :: lw_g) (rcR d') 0 0 n := by
  obtain ⟨E, hts, hown, hml', hr, hlk, hKK, hf, hlo, -⟩ := F
  exact callB_of n hts (rc_good hco) rfl rfl rfl (hts _ hini) (hts _ hml) hd ⟨by show d' + 1 ≤ _; omega, by show 8 + (mL + 11) + 40 * d' ≤ _; omega⟩
theorem g_callV (F : rcF sh N Y X cc own rt d) (hAf : ∀ q, rcA N Y q → A q) {K : Option Value → rcM → Prop} {vs : rcM} {pt : rcM → σ} (hP : rcP sh N Y Wd v vs pt) {y : MethodName} {cb : ByteArray} {mL d' n index b ci Nf : Nat} {re : Option FieldType} {as : List Value} {ks : List Nat} {T : u_T}
    (hM : rcT sh N Y (xl X) d' (y, cb, mL, re) (.ref (Y.2.1 b) :: as) vs K) (hco : Cond.code y cb mL re ∈ lw_g) (hml : Cond.methodLink own index y ∈ lw_g) (him : Cond.instanceMethod y ∈ lw_g) (hse : Cond.selects y.cls y y ∈ lw_g) (hini : Cond.initialized y.cls ∈ lw_g) (hd : rcC y n) (hn : as.length = n) (hdd : d' < d) (hmL : mL ≤ 21)
    (hs : b < N ∧ sh b = .inl (ci, ks)) (hc : vwCl[ci]? = some (y.cls, T, Nf)) (hst : stk = as.reverse ++ .ref (Y.2.1 b) :: st) (hro : (st.map fun w => w.category).sum ≤ 8) (hdg : decode cc pc = .ok (.invokevirtual index, 3))
    (kk : ∀ (r : Option Value) (u : rcM), K r u → rcG X Wd A Q (pc + 3) l (r.toList ++ st) (pt u)) : rcG X Wd A Q pc l stk v := by
  intro H locs ls hl hw hS
  have cb' := rc_callB F hco hml hini hd hdd hmL
  obtain ⟨E, hts, hown, hml', hr, hlk, hKK, hf, hlo, hce, hsl⟩ := F
  have hw' := hP.1 H hw
  have he : (rcw sh N Y vs)[b]? = some (Y.2.1 b, .inr (ci, ks.mapIdx (fun k kd => rcv Y vs b k kd))) := by rw [rcw_at hs.1, rce_obj hs.2]
  refine g_run (K := K) (st := st) (a := (Value.ref (Y.2.1 b) :: as).toArray) hAf (va_runV (Ts := lw_g) (C := y.cls) (own := own) (cc := cc) (nL := xn X) ⟨E.1, E.2, hml', hown, hts⟩ hM ⟨cb', hts _ him, hts _ hse⟩ ⟨rc_blind, va_recv hKK.2.1 hw' hc he, fun U hU hWU => ⟨rfl, by rw [hU]; exact hw', rcK_moved hWU hKK⟩⟩ rfl hn hl.1 hst (lv_room hro) hdg ⟨hce, hsl⟩) hS (fun r u H1 locs1 hK hw1 hz hk1 hS1 => ?_)
  exact kk r u hK H1 locs1 ls hl (hP.2 u H H1 hw hw1 hz hk1) hS1
theorem g_callS (F : rcF sh N Y X cc own rt d) (hAf : ∀ q, rcA N Y q → A q) {K : Option Value → rcM → Prop} {vs : rcM} {pt : rcM → σ} (hP : rcP sh N Y Wd v vs pt) {y : MethodName} {cb : ByteArray} {mL d' n index : Nat} {re : Option FieldType} {as : List Value}
    (hM : rcT sh N Y (xl X) d' (y, cb, mL, re) as vs K) (hco : Cond.code y cb mL re ∈ lw_g) (hml : Cond.methodLink own index y ∈ lw_g) (hsm : Cond.static y ∈ lw_g) (hini : Cond.initialized y.cls ∈ lw_g) (hd : rcC y n) (hn : as.length = n) (hdd : d' < d) (hmL : mL ≤ 21)
    (hst : stk = as.reverse ++ st) (hro : (st.map fun w => w.category).sum ≤ 8) (hdg : decode cc pc = .ok (.invokestatic index, 3))
    (kk : ∀ (r : Option Value) (u : rcM), K r u → rcG X Wd A Q (pc + 3) l (r.toList ++ st) (pt u)) : rcG X Wd A Q pc l stk v := by
  intro H locs ls hl hw hS
  have cb' := rc_callB F hco hml hini hd hdd hmL
  obtain ⟨E, hts, hown, hml', hr, hlk, hKK, hf, hlo, hce, hsl⟩ := F
  have hw' := hP.1 H hw
  refine g_run (K := K) (st := st) (a := as.toArray) hAf (va_runS (Ts := lw_g) (own := own) (cc := cc) (nL := xn X) ⟨E.1, E.2, hml', hown, hts⟩ hM ⟨cb', hts _ hsm⟩ ⟨rc_blind, fun U hU hWU => ⟨rfl, by rw [hU]; exact hw', rcK_moved hWU hKK⟩⟩ rfl hn hl.1 hst (lv_room hro) hdg ⟨hce, hsl⟩) hS (fun r u H1 locs1 hK hw1 hz hk1 hS1 => ?_)
  exact kk r u hK H1 locs1 ls hl (hP.2 u H H1 hw hw1 hz hk1) hS1
/-- a nest mate's static method -/
theorem g_callSN (F : rcF sh N Y X cc own rt d) (hAf : ∀ q, rcA N Y q → A q) {K : Option Value → rcM → Prop} {vs : rcM} {pt : rcM → σ} (hP : rcP sh N Y Wd v vs pt) {y : MethodName} {cb : ByteArray} {mL d' n index : Nat} {re : Option FieldType} {as : List Value} {host : String}
    (hM : rcT sh N Y (xl X) d' (y, cb, mL, re) as vs K) (hco : Cond.code y cb mL re ∈ lw_g) (hml : Cond.methodLinkNest own index y host ∈ lw_n) (hsm : Cond.static y ∈ lw_g) (hini : Cond.initialized y.cls ∈ lw_g) (hd : rcC y n) (hn : as.length = n) (hdd : d' < d) (hmL : mL ≤ 21)
    (hst : stk = as.reverse ++ st) (hro : (st.map fun w => w.category).sum ≤ 8) (hdg : decode cc pc = .ok (.invokestatic index, 3))
    (kk : ∀ (r : Option Value) (u : rcM), K r u → rcG X Wd A Q (pc + 3) l (r.toList ++ st) (pt u)) : rcG X Wd A Q pc l stk v := by
  intro H locs ls hl hw hS
  obtain ⟨E, hts, hown, hml', hr, hlk, hKK, hf, hlo, hce, hsl⟩ := F
  have cb' : va_CN (xR X) (xs X) (xa X) own index y host cb mL re (Cond.code y cb mL re :: lw_g) (rcR d') 0 0 n := va_cnB n hts (rc_good hco) rfl rfl rfl (hKK.2.2.2 _ hml) (hts _ hini) hd ⟨by show d' + 1 ≤ _; omega, by show 8 + (mL + 11) + 40 * d' ≤ _; omega⟩
  have hw' := hP.1 H hw
  refine g_run (K := K) (st := st) (a := as.toArray) hAf (va_runSN (Ts := lw_g) (own := own) (cc := cc) (nL := xn X) ⟨E.1, E.2, hml', hown, hts⟩ hM ⟨cb', hts _ hsm, trivial⟩ ⟨rc_blind, fun U hU hWU => ⟨rfl, by rw [hU]; exact hw', rcK_moved hWU hKK⟩⟩ rfl hn hl.1 hst (lv_room hro) hdg ⟨hce, hsl⟩) hS (fun r u H1 locs1 hK hw1 hz hk1 hS1 => ?_)
  exact kk r u hK H1 locs1 ls hl (hP.2 u H H1 hw hw1 hz hk1) hS1
end CALLS
section JCALLS
variable {sh : rcH} {N : Nat} {Y : rcY} {X : rcX} {cc : ByteArray} {own : String} {rt : Option FieldType} {d : Nat} {K : Option Value → rcM → Prop} {pc : Nat} {l : List (Nat × Value)} {st stk : List Value} {v : rcM}
theorem j_callV (F : rcF sh N Y X cc own rt d) {K' : Option Value → rcM → Prop} {y : MethodName} {cb : ByteArray} {mL d' n index b ci Nf : Nat} {re : Option FieldType} {as : List Value} {ks : List Nat} {T : u_T}
    (hM : rcT sh N Y (xl X) d' (y, cb, mL, re) (.ref (Y.2.1 b) :: as) v K') (hco : Cond.code y cb mL re ∈ lw_g) (hml : Cond.methodLink own index y ∈ lw_g) (him : Cond.instanceMethod y ∈ lw_g) (hse : Cond.selects y.cls y y ∈ lw_g) (hini : Cond.initialized y.cls ∈ lw_g) (hd : rcC y n) (hn : as.length = n) (hdd : d' < d) (hmL : mL ≤ 21)
    (hs : b < N ∧ sh b = .inl (ci, ks)) (hc : vwCl[ci]? = some (y.cls, T, Nf)) (hst : stk = as.reverse ++ .ref (Y.2.1 b) :: st) (hro : (st.map fun w => w.category).sum ≤ 8) (hdg : decode cc pc = .ok (.invokevirtual index, 3))
    (kk : ∀ (r : Option Value) (u : rcM), K' r u → rcJ sh N Y X K (pc + 3) l (r.toList ++ st) u) : rcJ sh N Y X K pc l stk v :=
  g_callV (pt := fun u => u) F (fun _ h => h) rcP.self hM hco hml him hse hini hd hn hdd hmL hs hc hst hro hdg kk
theorem j_callVi (F : rcF sh N Y X cc own rt d) {x : Int32} {u : rcM} {y : MethodName} {cb : ByteArray} {mL d' n index b ci Nf : Nat} {re : Option FieldType} {as : List Value} {ks : List Nat} {T : u_T}
    (hM : rcT sh N Y (xl X) d' (y, cb, mL, re) (.ref (Y.2.1 b) :: as) v (rI x u)) (hco : Cond.code y cb mL re ∈ lw_g) (hml : Cond.methodLink own index y ∈ lw_g) (him : Cond.instanceMethod y ∈ lw_g) (hse : Cond.selects y.cls y y ∈ lw_g) (hini : Cond.initialized y.cls ∈ lw_g) (hd : rcC y n) (hn : as.length = n) (hdd : d' < d) (hmL : mL ≤ 21)
    (hs : b < N ∧ sh b = .inl (ci, ks)) (hc : vwCl[ci]? = some (y.cls, T, Nf)) (hst : stk = as.reverse ++ .ref (Y.2.1 b) :: st) (hro : (st.map fun w => w.category).sum ≤ 8) (hdg : decode cc pc = .ok (.invokevirtual index, 3))
    (kk : rcJ sh N Y X K (pc + 3) l (.int x :: st) u) : rcJ sh N Y X K pc l stk v :=
  j_callV F hM hco hml him hse hini hd hn hdd hmL hs hc hst hro hdg (fun r u' h => by obtain ⟨rfl, rfl⟩ := h; exact kk)
theorem j_callVv (F : rcF sh N Y X cc own rt d) {u : rcM} {y : MethodName} {cb : ByteArray} {mL d' n index b ci Nf : Nat} {re : Option FieldType} {as : List Value} {ks : List Nat} {T : u_T}
    (hM : rcT sh N Y (xl X) d' (y, cb, mL, re) (.ref (Y.2.1 b) :: as) v (rV u)) (hco : Cond.code y cb mL re ∈ lw_g) (hml : Cond.methodLink own index y ∈ lw_g) (him : Cond.instanceMethod y ∈ lw_g) (hse : Cond.selects y.cls y y ∈ lw_g) (hini : Cond.initialized y.cls ∈ lw_g) (hd : rcC y n) (hn : as.length = n) (hdd : d' < d) (hmL : mL ≤ 21)
    (hs : b < N ∧ sh b = .inl (ci, ks)) (hc : vwCl[ci]? = some (y.cls, T, Nf)) (hst : stk = as.reverse ++ .ref (Y.2.1 b) :: st) (hro : (st.map fun w => w.category).sum ≤ 8) (hdg : decode cc pc = .ok (.invokevirtual index, 3))
    (kk : rcJ sh N Y X K (pc + 3) l st u) : rcJ sh N Y X K pc l stk v :=
  j_callV F hM hco hml him hse hini hd hn hdd hmL hs hc hst hro hdg (fun r u' h => by obtain ⟨rfl, rfl⟩ := h; exact kk)
theorem j_callSi (F : rcF sh N Y X cc own rt d) {x : Int32} {u : rcM} {y : MethodName} {cb : ByteArray} {mL d' n index : Nat} {re : Option FieldType} {as : List Value}
    (hM : rcT sh N Y (xl X) d' (y, cb, mL, re) as v (rI x u)) (hco : Cond.code y cb mL re ∈ lw_g) (hml : Cond.methodLink own index y ∈ lw_g) (hsm : Cond.static y ∈ lw_g) (hini : Cond.initialized y.cls ∈ lw_g) (hd : rcC y n) (hn : as.length = n) (hdd : d' < d) (hmL : mL ≤ 21)
    (hst : stk = as.reverse ++ st) (hro : (st.map fun w => w.category).sum ≤ 8) (hdg : decode cc pc = .ok (.invokestatic index, 3))
    (kk : rcJ sh N Y X K (pc + 3) l (.int x :: st) u) : rcJ sh N Y X K pc l stk v :=
  g_callS (pt := fun u => u) F (fun _ h => h) rcP.self hM hco hml hsm hini hd hn hdd hmL hst hro hdg (fun r u' h => by obtain ⟨rfl, rfl⟩ := h; exact kk)
theorem j_callSNi (F : rcF sh N Y X cc own rt d) {x : Int32} {u : rcM} {y : MethodName} {cb : ByteArray} {mL d' n index : Nat} {re : Option FieldType} {as : List Value} {host : String}
    (hM : rcT sh N Y (xl X) d' (y, cb, mL, re) as v (rI x u)) (hco : Cond.code y cb mL re ∈ lw_g) (hml : Cond.methodLinkNest own index y host ∈ lw_n) (hsm : Cond.static y ∈ lw_g) (hini : Cond.initialized y.cls ∈ lw_g) (hd : rcC y n) (hn : as.length = n) (hdd : d' < d) (hmL : mL ≤ 21)
    (hst : stk = as.reverse ++ st) (hro : (st.map fun w => w.category).sum ≤ 8) (hdg : decode cc pc = .ok (.invokestatic index, 3))
    (kk : rcJ sh N Y X K (pc + 3) l (.int x :: st) u) : rcJ sh N Y X K pc l stk v :=
  g_callSN (pt := fun u => u) F (fun _ h => h) rcP.self hM hco hml hsm hini hd hn hdd hmL hst hro hdg (fun r u' h => by obtain ⟨rfl, rfl⟩ := h; exact kk)
/-- Math.max of two ints -/
theorem j_max (F : rcF sh N Y X cc own rt d) {x y : Int32} {index : Nat} (hml : Cond.methodLink own index Lib.Math.max.name ∈ lw_g) (hsm : Cond.static Lib.Math.max.name ∈ lw_g) (hini : Cond.initialized "java/lang/Math" ∈ lw_g) (hco : Cond.code Lib.Math.max.name Lib.Math.max.code 2 (some .int) ∈ lw_g) (hdd : 0 < d) (hro : (st.map fun w => w.category).sum ≤ 8) (hdg : decode cc pc = .ok (.invokestatic index, 3))
    (kk : rcJ sh N Y X K (pc + 3) l (.int (if x < y then y else x) :: st) v) : rcJ sh N Y X K pc l (.int y :: .int x :: st) v := by
  intro H locs ls hl hw hS
  obtain ⟨E, hts, hown, hml', hr, hlk, hKK, hf, hlo, hce, hsl⟩ := F
  exact va_mmax E.1 E.2 (hml'.trans hl.1.symm) hown (hts _ hml) (hts _ hsm) (hts _ hini) (hts _ hco) (by omega) (by omega) hce hsl hdg (kk H locs ls hl hw hS)
end JCALLS
end
section
/-! The two systems' shapes, and rows over them. -/
def shM : rcH := fun id => match id with
  | 0 => .inl (6, [3, 4, 5, 0, 6, 0, 7, 8, 9, 10, 0, 1, 11, 12, 13, 0, 1, 14])
  | 1 => .inr (0, 158)
  | 2 => .inr (0, 158)
  | 3 => .inr (0, 632)
  | 4 => .inr (0, 60)
  | 12 => .inr (0, 6)
  | _ => .inr (0, 10)
def shC : rcH := fun id => match id with
  | 0 => .inl (5, [9, 31, 3, 5, 8])
  | 1 => .inl (2, [4, 0])
  | 2 => .inr (2, 4)
  | 3 => .inl (4, [6, 0, 0, 0, 7])
  | 4 => .inr (1, 60)
  | 5 => .inl (1, [0, 0, 0, 0, 0])
  | 6 => .inl (1, [0, 0, 0, 0, 0])
  | n + 7 => if n % 22 = 0 then .inl (3, [n + 10, 0, 0, 0, 0, 0, 0, 0, 0, 0]) else if n % 22 = 1 then .inr (3, 10) else if n % 22 < 12 then .inl (0, [n + 19, 0, 1, 0, 0, 0, 0, 1]) else .inl (1, [0, 0, 0, 0, 0])
/-- the ids of a State's parts -/
abbrev sid (k : Nat) : Nat := 22 * k + 7
abbrev aid (k : Nat) : Nat := 22 * k + 8
abbrev cid (k i : Nat) : Nat := i + (22 * k + 9)
abbrev did (k i : Nat) : Nat := i + (22 * k + 9) + 10
theorem sh_st {k : Nat} (hk : k < 6) : sid k < 139 ∧ shC (sid k) = .inl (3, [(22 * k + 8) + 2, 0, 0, 0, 0, 0, 0, 0, 0, 0]) := by
  refine ⟨by show 22 * k + 7 < 139; omega, ?_⟩
  show (if (22 * k) % 22 = 0 then _ else _) = _
  rw [if_pos (by omega)]
theorem sh_arr {k : Nat} (hk : k < 6) : aid k < 139 ∧ shC (aid k) = .inr (3, 10) := by
  refine ⟨by show 22 * k + 8 < 139; omega, ?_⟩
  show (if (22 * k + 1) % 22 = 0 then _ else if (22 * k + 1) % 22 = 1 then _ else _) = _
  rw [if_neg (by omega), if_pos (by omega)]
theorem sh_cell {k i : Nat} (hk : k < 6) (hi : i < 10) : cid k i < 139 ∧ shC (cid k i) = .inl (0, [(cid k i + 10) + 2, 0, 1, 0, 0, 0, 0, 1]) := by
  refine ⟨by show i + (22 * k + 9) < 139; omega, ?_⟩
  show (if (i + (22 * k + 2)) % 22 = 0 then _ else if (i + (22 * k + 2)) % 22 = 1 then _ else if (i + (22 * k + 2)) % 22 < 12 then _ else _) = _
  rw [if_neg (by omega), if_neg (by omega), if_pos (by omega)]
  have e : i + (22 * k + 2) + 19 = cid k i + 10 + 2 := by show _ = i + (22 * k + 9) + 10 + 2; omega
  exact congrArg (fun z => Sum.inl (0, [z, 0, 1, 0, 0, 0, 0, 1])) e
theorem sh_def {k i : Nat} (hk : k < 6) (hi : i < 10) : did k i < 139 ∧ shC (did k i) = .inl (1, [0, 0, 0, 0, 0]) := by
  refine ⟨by show i + (22 * k + 9) + 10 < 139; omega, ?_⟩
  show (if (i + (22 * k + 2) + 10) % 22 = 0 then _ else if (i + (22 * k + 2) + 10) % 22 = 1 then _ else if (i + (22 * k + 2) + 10) % 22 < 12 then _ else _) = _
  rw [if_neg (by omega), if_neg (by omega), if_neg (by omega)]
section FG
variable {sh : rcH} {N : Nat} {Y : rcY} {X : rcX} {cc : ByteArray} {own : String} {rt : Option FieldType} {d : Nat} {K : Option Value → rcM → Prop} {pc : Nat} {l : List (Nat × Value)} {st : List Value} {v : rcM}
theorem j_geti (F : rcF sh N Y X cc own rt d) {ci k index id Nf : Nat} {ks : List Nat} {C : String} {T : u_T} (hin : ∀ w ∈ u_ws C T Nf, w ∈ lw_g) (hc : vwCl[ci]? = some (C, T, Nf)) (hk : k < Nf)
    (hl : Cond.fieldLink own index (T k).1 (T k).2.1 (T k).2.2.1 ∈ lw_g) (hs : id < N ∧ sh id = .inl (ci, ks)) (hkd : ks[k]? = some 0) (hdg : decode cc pc = .ok (.getfield index, 3))
    (kk : rcJ sh N Y X K (pc + 3) l (.int (v id k) :: st) v) : rcJ sh N Y X K pc l (.ref (Y.2.1 id) :: st) v := j_get F hin hc hk hl hs hkd rfl hdg kk
theorem j_getz (F : rcF sh N Y X cc own rt d) {ci k index id Nf : Nat} {ks : List Nat} {C : String} {T : u_T} (hin : ∀ w ∈ u_ws C T Nf, w ∈ lw_g) (hc : vwCl[ci]? = some (C, T, Nf)) (hk : k < Nf)
    (hl : Cond.fieldLink own index (T k).1 (T k).2.1 (T k).2.2.1 ∈ lw_g) (hs : id < N ∧ sh id = .inl (ci, ks)) (hkd : ks[k]? = some 1) (hdg : decode cc pc = .ok (.getfield index, 3))
    (kk : rcJ sh N Y X K (pc + 3) l (.int (rcb (v id k)) :: st) v) : rcJ sh N Y X K pc l (.ref (Y.2.1 id) :: st) v := j_get F hin hc hk hl hs hkd rfl hdg kk
theorem j_getr (F : rcF sh N Y X cc own rt d) {ci k index id j Nf : Nat} {ks : List Nat} {C : String} {T : u_T} (hin : ∀ w ∈ u_ws C T Nf, w ∈ lw_g) (hc : vwCl[ci]? = some (C, T, Nf)) (hk : k < Nf)
    (hl : Cond.fieldLink own index (T k).1 (T k).2.1 (T k).2.2.1 ∈ lw_g) (hs : id < N ∧ sh id = .inl (ci, ks)) (hkd : ks[k]? = some (j + 2)) (hdg : decode cc pc = .ok (.getfield index, 3))
    (kk : rcJ sh N Y X K (pc + 3) l (.ref (Y.2.1 j) :: st) v) : rcJ sh N Y X K pc l (.ref (Y.2.1 id) :: st) v := j_get F hin hc hk hl hs hkd rfl hdg kk
end FG
/-- a truth value as the machine has it -/
def b2 (p : Prop) [Decidable p] : Int32 := if p then 1 else 0
theorem b2_01 (p : Prop) [Decidable p] : b2 p = 0 ∨ b2 p = 1 := by unfold b2; split <;> simp
theorem b2_t {p : Prop} [Decidable p] (h : p) : b2 p = 1 := if_pos h
theorem b2_f {p : Prop} [Decidable p] (h : ¬ p) : b2 p = 0 := if_neg h
theorem b2_0 {p : Prop} [Decidable p] : b2 p = 0 ↔ ¬ p := by unfold b2; split <;> simp_all
theorem b2_1 {p : Prop} [Decidable p] : b2 p = 1 ↔ p := by unfold b2; split <;> simp_all
/-- a whole row -/
def rcr (v : rcM) (a : Nat) (f : Nat → Int32) : rcM := fun b => if b = a then f else v b
theorem rcr_s {v : rcM} {a : Nat} {f : Nat → Int32} : rcr v a f a = f := by simp [rcr]
theorem rcr_n {v : rcM} {a b : Nat} {f : Nat → Int32} (h : b ≠ a) : rcr v a f b = v b := by simp [rcr, h]
theorem rcr_rcr {v : rcM} {a : Nat} {f g : Nat → Int32} : rcr (rcr v a f) a g = rcr v a g := by funext b; by_cases h : b = a <;> simp [rcr, h]
theorem rcu_r {v : rcM} {a k : Nat} {x : Int32} : rcu v a k x = rcr v a (upd (v a) k x) := by
  funext b
  by_cases h : b = a
  · subst h; rw [rcr_s, rcu_row]
  · rw [rcr_n h, rcu_ne h]
theorem rcr_self {v : rcM} {a : Nat} : rcr v a (v a) = v := by funext b; by_cases h : b = a <;> simp [rcr, h]
/-- a cell's number -/
theorem cell_of {c : Int32} (h : 0 ≤ c ∧ c ≤ 9) : ∃ i : Nat, i < 10 ∧ c = nI i := by
  obtain ⟨j, hj, he⟩ := nI_of2 (n := 9) (M := 9) rfl (Int32.not_lt.mpr h.1) h.2
  exact ⟨j, by omega, he⟩
theorem nI_lit (n : Nat) : (OfNat.ofNat n : Int32) = nI n := rfl
theorem nI_in9 {i : Nat} (h : i < 10) : 0 ≤ nI i ∧ nI i ≤ 9 := ⟨nI_pos' (by omega), nI_le (a := i) (b := 9) (by omega) (by decide)⟩
theorem rc_X5_init : rcC yX5_init 0 := ⟨by decide +kernel, by decide +kernel, by decide +kernel⟩
theorem rc_X3_init : rcC yX3_init 0 := ⟨by decide +kernel, by decide +kernel, by decide +kernel⟩
theorem rc_X0_init : rcC yX0_init 0 := ⟨by decide +kernel, by decide +kernel, by decide +kernel⟩
theorem rc_X1_init : rcC yX1_init 0 := ⟨by decide +kernel, by decide +kernel, by decide +kernel⟩
theorem rc_X2_init : rcC yX2_init 0 := ⟨by decide +kernel, by decide +kernel, by decide +kernel⟩
theorem rc_X4_init : rcC yX4_init 0 := ⟨by decide +kernel, by decide +kernel, by decide +kernel⟩
theorem rc_X5_define : rcC yX5_define 2 := ⟨by decide +kernel, by decide +kernel, by decide +kernel⟩
theorem rc_X5_isCell : rcC yX5_isCell 1 := ⟨by decide +kernel, by decide +kernel, by decide +kernel⟩
theorem rc_X5_isWithin : rcC yX5_isWithin 3 := ⟨by decide +kernel, by decide +kernel, by decide +kernel⟩
theorem rc_X5_isValue : rcC yX5_isValue 1 := ⟨by decide +kernel, by decide +kernel, by decide +kernel⟩
theorem rc_X2_record : rcC yX2_record 1 := ⟨by decide +kernel, by decide +kernel, by decide +kernel⟩
theorem rc_X2_dropOldest : rcC yX2_dropOldest 0 := ⟨by decide +kernel, by decide +kernel, by decide +kernel⟩
theorem rc_X3_copy : rcC yX3_copy 1 := ⟨by decide +kernel, by decide +kernel, by decide +kernel⟩
theorem rc_X0_copy : rcC yX0_copy 1 := ⟨by decide +kernel, by decide +kernel, by decide +kernel⟩
theorem rc_X1_copy : rcC yX1_copy 1 := ⟨by decide +kernel, by decide +kernel, by decide +kernel⟩
theorem rc_X1_setValue : rcC yX1_setValue 1 := ⟨by decide +kernel, by decide +kernel, by decide +kernel⟩
theorem rc_X3_redefine : rcC yX3_redefine 2 := ⟨by decide +kernel, by decide +kernel, by decide +kernel⟩
theorem rc_X1_isLike : rcC yX1_isLike 1 := ⟨by decide +kernel, by decide +kernel, by decide +kernel⟩
theorem rc_X5_formula : rcC yX5_formula 5 := ⟨by decide +kernel, by decide +kernel, by decide +kernel⟩
theorem rc_X5_isKind : rcC yX5_isKind 1 := ⟨by decide +kernel, by decide +kernel, by decide +kernel⟩
theorem rc_X5_isThird : rcC yX5_isThird 2 := ⟨by decide +kernel, by decide +kernel, by decide +kernel⟩
theorem rc_X1_setFormula : rcC yX1_setFormula 4 := ⟨by decide +kernel, by decide +kernel, by decide +kernel⟩
theorem rc_X5_cellOf : rcC yX5_cellOf 2 := ⟨by decide +kernel, by decide +kernel, by decide +kernel⟩
theorem rc_X5_ask : rcC yX5_ask 1 := ⟨by decide +kernel, by decide +kernel, by decide +kernel⟩
theorem rc_X3_lookAt : rcC yX3_lookAt 1 := ⟨by decide +kernel, by decide +kernel, by decide +kernel⟩
theorem rc_X3_look : rcC yX3_look 2 := ⟨by decide +kernel, by decide +kernel, by decide +kernel⟩
theorem rc_X3_bringUpToDate : rcC yX3_bringUpToDate 2 := ⟨by decide +kernel, by decide +kernel, by decide +kernel⟩
theorem rc_X3_workOut : rcC yX3_workOut 2 := ⟨by decide +kernel, by decide +kernel, by decide +kernel⟩
theorem rc_X0_told : rcC yX0_told 0 := ⟨by decide +kernel, by decide +kernel, by decide +kernel⟩
theorem rc_X1_secondFor : rcC yX1_secondFor 1 := ⟨by decide +kernel, by decide +kernel, by decide +kernel⟩
theorem rc_X3_remember : rcC yX3_remember 3 := ⟨by decide +kernel, by decide +kernel, by decide +kernel⟩
theorem rc_X1_give : rcC yX1_give 2 := ⟨by decide +kernel, by decide +kernel, by decide +kernel⟩
theorem rc_X3_lookForChange : rcC yX3_lookForChange 2 := ⟨by decide +kernel, by decide +kernel, by decide +kernel⟩
theorem rc_X3_forgetBeyondBound : rcC yX3_forgetBeyondBound 0 := ⟨by decide +kernel, by decide +kernel, by decide +kernel⟩
theorem rc_X3_rememberedAnswers : rcC yX3_rememberedAnswers 0 := ⟨by decide +kernel, by decide +kernel, by decide +kernel⟩
theorem rc_X3_forgetOldest : rcC yX3_forgetOldest 0 := ⟨by decide +kernel, by decide +kernel, by decide +kernel⟩
theorem rc_X3_forgetAnswer : rcC yX3_forgetAnswer 1 := ⟨by decide +kernel, by decide +kernel, by decide +kernel⟩
theorem rc_X5_fresh : rcC yX5_fresh 1 := ⟨by decide +kernel, by decide +kernel, by decide +kernel⟩
theorem rc_X5_answerAfresh : rcC yX5_answerAfresh 1 := ⟨by decide +kernel, by decide +kernel, by decide +kernel⟩
theorem rc_X3_dropAnswers : rcC yX3_dropAnswers 0 := ⟨by decide +kernel, by decide +kernel, by decide +kernel⟩
theorem rc_X5_cost : rcC yX5_cost 2 := ⟨by decide +kernel, by decide +kernel, by decide +kernel⟩
theorem rc_X5_forget : rcC yX5_forget 1 := ⟨by decide +kernel, by decide +kernel, by decide +kernel⟩
theorem rc_X5_bound : rcC yX5_bound 1 := ⟨by decide +kernel, by decide +kernel, by decide +kernel⟩
theorem rc_X5_rememberedOf : rcC yX5_rememberedOf 2 := ⟨by decide +kernel, by decide +kernel, by decide +kernel⟩
theorem rc_X3_placeOf : rcC yX3_placeOf 1 := ⟨by decide +kernel, by decide +kernel, by decide +kernel⟩
theorem rc_X5_which : rcC yX5_which 1 := ⟨by decide +kernel, by decide +kernel, by decide +kernel⟩
theorem rc_X5_isOneOf : rcC yX5_isOneOf 2 := ⟨by decide +kernel, by decide +kernel, by decide +kernel⟩
theorem rc_X5_used : rcC yX5_used 1 := ⟨by decide +kernel, by decide +kernel, by decide +kernel⟩
theorem rc_X5_usedAfresh : rcC yX5_usedAfresh 1 := ⟨by decide +kernel, by decide +kernel, by decide +kernel⟩
theorem rc_X5_usedBy : rcC yX5_usedBy 1 := ⟨by decide +kernel, by decide +kernel, by decide +kernel⟩
theorem rc_X5_would : rcC yX5_would 3 := ⟨by decide +kernel, by decide +kernel, by decide +kernel⟩
theorem rc_X5_count : rcC yX5_count 1 := ⟨by decide +kernel, by decide +kernel, by decide +kernel⟩
theorem rc_X5_undo : rcC yX5_undo 0 := ⟨by decide +kernel, by decide +kernel, by decide +kernel⟩
theorem rc_X2_restoreLatestTo : rcC yX2_restoreLatestTo 1 := ⟨by decide +kernel, by decide +kernel, by decide +kernel⟩
theorem rc_X5_type : rcC yX5_type 1 := ⟨by decide +kernel, by decide +kernel, by decide +kernel⟩
theorem rc_X4_append : rcC yX4_append 1 := ⟨by decide +kernel, by decide +kernel, by decide +kernel⟩
theorem rc_X5_clearText : rcC yX5_clearText 0 := ⟨by decide +kernel, by decide +kernel, by decide +kernel⟩
theorem rc_X4_empty : rcC yX4_empty 0 := ⟨by decide +kernel, by decide +kernel, by decide +kernel⟩
theorem rc_X5_fault : rcC yX5_fault 1 := ⟨by decide +kernel, by decide +kernel, by decide +kernel⟩
theorem rc_X4_findFault : rcC yX4_findFault 0 := ⟨by decide +kernel, by decide +kernel, by decide +kernel⟩
theorem rc_X4_rewind : rcC yX4_rewind 0 := ⟨by decide +kernel, by decide +kernel, by decide +kernel⟩
theorem rc_X4_hasMore : rcC yX4_hasMore 0 := ⟨by decide +kernel, by decide +kernel, by decide +kernel⟩
theorem rc_X4_readDefinition : rcC yX4_readDefinition 0 := ⟨by decide +kernel, by decide +kernel, by decide +kernel⟩
theorem rc_X4_readLetter : rcC yX4_readLetter 0 := ⟨by decide +kernel, by decide +kernel, by decide +kernel⟩
theorem rc_X4_character : rcC yX4_character 0 := ⟨by decide +kernel, by decide +kernel, by decide +kernel⟩
theorem rc_X4_readSign : rcC yX4_readSign 1 := ⟨by decide +kernel, by decide +kernel, by decide +kernel⟩
theorem rc_X4_readNumber : rcC yX4_readNumber 0 := ⟨by decide +kernel, by decide +kernel, by decide +kernel⟩
theorem rc_X4_readFormula : rcC yX4_readFormula 1 := ⟨by decide +kernel, by decide +kernel, by decide +kernel⟩
theorem rc_X4_readOperator : rcC yX4_readOperator 0 := ⟨by decide +kernel, by decide +kernel, by decide +kernel⟩
theorem rc_X4_kindOf : rcC yX4_kindOf 1 := ⟨by decide +kernel, by decide +kernel, by decide +kernel⟩
theorem rc_X5_play : rcC yX5_play 0 := ⟨by decide +kernel, by decide +kernel, by decide +kernel⟩
theorem rc_X6_init : rcC yX6_init 0 := ⟨by decide +kernel, by decide +kernel, by decide +kernel⟩
theorem rc_X6_define : rcC yX6_define 2 := ⟨by decide +kernel, by decide +kernel, by decide +kernel⟩
theorem rc_X6_isCell : rcC yX6_isCell 1 := ⟨by decide +kernel, by decide +kernel, by decide +kernel⟩
theorem rc_X6_in : rcC yX6_in 3 := ⟨by decide +kernel, by decide +kernel, by decide +kernel⟩
theorem rc_X6_isValue : rcC yX6_isValue 1 := ⟨by decide +kernel, by decide +kernel, by decide +kernel⟩
theorem rc_X6_begins : rcC yX6_begins 0 := ⟨by decide +kernel, by decide +kernel, by decide +kernel⟩
theorem rc_X6_defines : rcC yX6_defines 6 := ⟨by decide +kernel, by decide +kernel, by decide +kernel⟩
theorem rc_X6_isSo : rcC yX6_isSo 6 := ⟨by decide +kernel, by decide +kernel, by decide +kernel⟩
theorem rc_X6_of : rcC yX6_of 2 := ⟨by decide +kernel, by decide +kernel, by decide +kernel⟩
theorem rc_X6_puts : rcC yX6_puts 3 := ⟨by decide +kernel, by decide +kernel, by decide +kernel⟩
theorem rc_X6_acted : rcC yX6_acted 1 := ⟨by decide +kernel, by decide +kernel, by decide +kernel⟩
theorem rc_X6_formula : rcC yX6_formula 5 := ⟨by decide +kernel, by decide +kernel, by decide +kernel⟩
theorem rc_X6_cellOf : rcC yX6_cellOf 2 := ⟨by decide +kernel, by decide +kernel, by decide +kernel⟩
theorem rc_X6_ask : rcC yX6_ask 1 := ⟨by decide +kernel, by decide +kernel, by decide +kernel⟩
theorem rc_X6_looks : rcC yX6_looks 1 := ⟨by decide +kernel, by decide +kernel, by decide +kernel⟩
theorem rc_X6_enters : rcC yX6_enters 1 := ⟨by decide +kernel, by decide +kernel, by decide +kernel⟩
theorem rc_X6_uses : rcC yX6_uses 1 := ⟨by decide +kernel, by decide +kernel, by decide +kernel⟩
theorem rc_X6_isOpen : rcC yX6_isOpen 1 := ⟨by decide +kernel, by decide +kernel, by decide +kernel⟩
theorem rc_X6_checks : rcC yX6_checks 1 := ⟨by decide +kernel, by decide +kernel, by decide +kernel⟩
theorem rc_X6_changedAt : rcC yX6_changedAt 1 := ⟨by decide +kernel, by decide +kernel, by decide +kernel⟩
theorem rc_X6_works : rcC yX6_works 1 := ⟨by decide +kernel, by decide +kernel, by decide +kernel⟩
theorem rc_X6_answerOf : rcC yX6_answerOf 1 := ⟨by decide +kernel, by decide +kernel, by decide +kernel⟩
theorem rc_X6_ends : rcC yX6_ends 3 := ⟨by decide +kernel, by decide +kernel, by decide +kernel⟩
theorem rc_X6_made : rcC yX6_made 3 := ⟨by decide +kernel, by decide +kernel, by decide +kernel⟩
theorem rc_X6_bounded : rcC yX6_bounded 1 := ⟨by decide +kernel, by decide +kernel, by decide +kernel⟩
theorem rc_X6_returns : rcC yX6_returns 0 := ⟨by decide +kernel, by decide +kernel, by decide +kernel⟩
theorem rc_X6_trims : rcC yX6_trims 0 := ⟨by decide +kernel, by decide +kernel, by decide +kernel⟩
theorem rc_X6_remembered : rcC yX6_remembered 0 := ⟨by decide +kernel, by decide +kernel, by decide +kernel⟩
theorem rc_X6_drops : rcC yX6_drops 1 := ⟨by decide +kernel, by decide +kernel, by decide +kernel⟩
theorem rc_X6_cost : rcC yX6_cost 2 := ⟨by decide +kernel, by decide +kernel, by decide +kernel⟩
theorem rc_X6_forget : rcC yX6_forget 1 := ⟨by decide +kernel, by decide +kernel, by decide +kernel⟩
theorem rc_X6_bound : rcC yX6_bound 1 := ⟨by decide +kernel, by decide +kernel, by decide +kernel⟩
theorem rc_X6_rememberedOf : rcC yX6_rememberedOf 2 := ⟨by decide +kernel, by decide +kernel, by decide +kernel⟩
theorem rc_X6_placeOf : rcC yX6_placeOf 1 := ⟨by decide +kernel, by decide +kernel, by decide +kernel⟩
theorem rc_X6_fresh : rcC yX6_fresh 1 := ⟨by decide +kernel, by decide +kernel, by decide +kernel⟩
theorem rc_X6_told : rcC yX6_told 1 := ⟨by decide +kernel, by decide +kernel, by decide +kernel⟩
theorem rc_X6_afresh : rcC yX6_afresh 1 := ⟨by decide +kernel, by decide +kernel, by decide +kernel⟩
theorem rc_X6_wantedBy : rcC yX6_wantedBy 1 := ⟨by decide +kernel, by decide +kernel, by decide +kernel⟩
theorem rc_X6_settles : rcC yX6_settles 1 := ⟨by decide +kernel, by decide +kernel, by decide +kernel⟩
theorem rc_X6_which : rcC yX6_which 1 := ⟨by decide +kernel, by decide +kernel, by decide +kernel⟩
theorem rc_X6_isOne : rcC yX6_isOne 2 := ⟨by decide +kernel, by decide +kernel, by decide +kernel⟩
theorem rc_X6_used : rcC yX6_used 1 := ⟨by decide +kernel, by decide +kernel, by decide +kernel⟩
theorem rc_X6_usedBy : rcC yX6_usedBy 1 := ⟨by decide +kernel, by decide +kernel, by decide +kernel⟩
theorem rc_X6_would : rcC yX6_would 3 := ⟨by decide +kernel, by decide +kernel, by decide +kernel⟩
theorem rc_X6_count : rcC yX6_count 1 := ⟨by decide +kernel, by decide +kernel, by decide +kernel⟩
theorem rc_X6_undo : rcC yX6_undo 0 := ⟨by decide +kernel, by decide +kernel, by decide +kernel⟩
theorem rc_X6_type : rcC yX6_type 1 := ⟨by decide +kernel, by decide +kernel, by decide +kernel⟩
theorem rc_X6_clearText : rcC yX6_clearText 0 := ⟨by decide +kernel, by decide +kernel, by decide +kernel⟩
theorem rc_X6_fault : rcC yX6_fault 1 := ⟨by decide +kernel, by decide +kernel, by decide +kernel⟩
theorem rc_X6_brokenAt : rcC yX6_brokenAt 0 := ⟨by decide +kernel, by decide +kernel, by decide +kernel⟩
theorem rc_X6_reads : rcC yX6_reads 0 := ⟨by decide +kernel, by decide +kernel, by decide +kernel⟩
theorem rc_X6_readLetter : rcC yX6_readLetter 0 := ⟨by decide +kernel, by decide +kernel, by decide +kernel⟩
theorem rc_X6_here : rcC yX6_here 0 := ⟨by decide +kernel, by decide +kernel, by decide +kernel⟩
theorem rc_X6_takes : rcC yX6_takes 1 := ⟨by decide +kernel, by decide +kernel, by decide +kernel⟩
theorem rc_X6_readNumber : rcC yX6_readNumber 0 := ⟨by decide +kernel, by decide +kernel, by decide +kernel⟩
theorem rc_X6_readFormula : rcC yX6_readFormula 0 := ⟨by decide +kernel, by decide +kernel, by decide +kernel⟩
theorem rc_X6_kindOf : rcC yX6_kindOf 1 := ⟨by decide +kernel, by decide +kernel, by decide +kernel⟩
theorem rc_X6_play : rcC yX6_play 0 := ⟨by decide +kernel, by decide +kernel, by decide +kernel⟩
end
section
/-! The reference: its small methods, each tied to a function of its rows. -/
def ix (i w : Nat) : Nat := 8 + 15 * i + w
theorem rIe {x y : Int32} {u w : rcM} (h1 : x = y) (h2 : u = w) : rI y w (some (.int x)) u := ⟨by rw [h1], h2⟩
theorem rVe {u w : rcM} (h2 : u = w) : rV w none u := ⟨rfl, h2⟩
theorem ix_e (i j : Nat) : (8 : Int32) + 15 * nI i + nI j = nI (ix i j) := by
  show nI 8 + nI 15 * nI i + nI j = _
  rw [pk_mul, nI_add, nI_add]
  rfl
theorem in_t {x a b : Int32} (h1 : ¬ x < a) (h2 : ¬ b < x) : 1 = b2 (a ≤ x ∧ x ≤ b) := (b2_t ⟨Int32.not_lt.mp h1, Int32.not_lt.mp h2⟩).symm
theorem in_f1 {x a b : Int32} (h1 : x < a) : 0 = b2 (a ≤ x ∧ x ≤ b) := (b2_f (fun h => Int32.not_lt.mpr h.1 h1)).symm
theorem in_f2 {x a b : Int32} (h1 : b < x) : 0 = b2 (a ≤ x ∧ x ≤ b) := (b2_f (fun h => Int32.not_lt.mpr h.2 h1)).symm
/-- the first n places of f, the others of g -/
def cp (n : Nat) (f g : Nat → Int32) : Nat → Int32 := fun k => if k < n then f k else g k
theorem cp_0 {f g : Nat → Int32} : cp 0 f g = g := by funext k; simp [cp]
theorem cp_s {n : Nat} {f g : Nat → Int32} : upd (cp n f g) n (f n) = cp (n + 1) f g := by
  funext k
  by_cases h : k = n
  · subst h; simp [cp, upd]
  · by_cases h2 : k < n
    · simp [cp, upd, h, h2, Nat.lt_succ_of_lt h2]
    · have h3 : ¬ k < n + 1 := by omega
      simp [cp, upd, h, h2, h3]
set_option maxHeartbeats 4000000 in
set_option maxRecDepth 100000 in
theorem k_in {Y : rcY} {la : Launch} {v : rcM} {x a b : Int32} : rcT shM 13 Y la 0 (yX6_in, cX6_in, 3, (some .boolean)) [.int x, .int a, .int b] (v) (rI (b2 (a ≤ x ∧ x ≤ b)) v) := by
  refine rcT.of (by decide +kernel) (Nat.le_of_ble_eq_true rfl) (fun X F hn => ?_)
  refine j_iload_n F.1 dX6_in_0 rfl ?_
  refine j_iload_n F.1 dX6_in_1 rfl ?_
  refine j_icmp_lt F.1 14 dX6_in_2 (by decide) (fun h2 => ?_) (fun h2 => ?_)
  · refine j_iconst F.1 (0) dX6_in_14 (by decide) ?_
    exact j_zret F (by first | exact Or.inl rfl | exact Or.inr rfl | exact b2_01 _) dX6_in_15 ((rIe (by first | exact in_t ‹_› ‹_› | exact in_f1 ‹_› | exact in_f2 ‹_›) rfl))
  · refine j_iload_n F.1 dX6_in_5 rfl ?_
    refine j_iload_n F.1 dX6_in_6 rfl ?_
    refine j_icmp_gt F.1 14 dX6_in_7 (by decide) (fun h7 => ?_) (fun h7 => ?_)
    · refine j_iconst F.1 (0) dX6_in_14 (by decide) ?_
      exact j_zret F (by first | exact Or.inl rfl | exact Or.inr rfl | exact b2_01 _) dX6_in_15 ((rIe (by first | exact in_t ‹_› ‹_› | exact in_f1 ‹_› | exact in_f2 ‹_›) rfl))
    · refine j_iconst F.1 (1) dX6_in_10 (by decide) ?_
      refine j_goto F.1 15 dX6_in_11 (by decide) ?_
      exact j_zret F (by first | exact Or.inl rfl | exact Or.inr rfl | exact b2_01 _) dX6_in_15 ((rIe (by first | exact in_t ‹_› ‹_› | exact in_f1 ‹_› | exact in_f2 ‹_›) rfl))
set_option maxHeartbeats 4000000 in
set_option maxRecDepth 100000 in
theorem k_isCell {Y : rcY} {la : Launch} {v : rcM} {x : Int32} : rcT shM 13 Y la 1 (yX6_isCell, cX6_isCell, 1, (some .boolean)) [.int x] (v) (rI (b2 (0 ≤ x ∧ x ≤ 9)) v) := by
  refine rcT.of (by decide +kernel) (Nat.le_of_ble_eq_true rfl) (fun X F hn => ?_)
  refine j_iload_n F.1 dX6_isCell_0 rfl ?_
  refine j_iconst F.1 (0) dX6_isCell_1 (by decide) ?_
  refine j_bipush F.1 (9) dX6_isCell_2 (by decide) ?_
  refine j_callSi F (k_in) co_X6_in ml_X6_46 st_X6_in in_X6 rc_X6_in rfl (by decide) (by decide) rfl (Nat.le_of_ble_eq_true rfl) dX6_isCell_4 ?_
  exact j_zret F (by first | exact Or.inl rfl | exact Or.inr rfl | exact b2_01 _) dX6_isCell_7 ⟨rfl, rfl⟩
set_option maxHeartbeats 4000000 in
set_option maxRecDepth 100000 in
theorem k_isValue {Y : rcY} {la : Launch} {v : rcM} {x : Int32} : rcT shM 13 Y la 1 (yX6_isValue, cX6_isValue, 1, (some .boolean)) [.int x] (v) (rI (b2 (-99999 ≤ x ∧ x ≤ 99999)) v) := by
  refine rcT.of (by decide +kernel) (Nat.le_of_ble_eq_true rfl) (fun X F hn => ?_)
  refine j_iload_n F.1 dX6_isValue_0 rfl ?_
  refine j_ldc F cn_X6_67 dX6_isValue_1 ?_
  refine j_ldc F cn_X6_68 dX6_isValue_3 ?_
  refine j_callSi F (k_in) co_X6_in ml_X6_46 st_X6_in in_X6 rc_X6_in rfl (by decide) (by decide) rfl (Nat.le_of_ble_eq_true rfl) dX6_isValue_5 ?_
  exact j_zret F (by first | exact Or.inl rfl | exact Or.inr rfl | exact b2_01 _) dX6_isValue_8 ⟨rfl, rfl⟩
set_option maxHeartbeats 4000000 in
set_option maxRecDepth 100000 in
theorem k_of {Y : rcY} {la : Launch} {v : rcM} {i j : Nat} (hi : i < 10) (hj : j < 15) : rcT shM 13 Y la 0 (yX6_of, cX6_of, 3, (some .int)) [.ref (Y.2.1 0), .int (nI i), .int (nI j)] (v) (rI (v 1 (ix i j)) v) := by
  refine rcT.of (by decide +kernel) (Nat.le_of_ble_eq_true rfl) (fun X F hn => ?_)
  refine j_aload_n F.1 dX6_of_0 rfl ?_
  refine j_getr F (k := 0) inX6 rfl (by decide) fl_X6_7 ⟨by decide, rfl⟩ rfl dX6_of_1 ?_
  refine j_bipush F.1 (8) dX6_of_4 (by decide) ?_
  refine j_bipush F.1 (15) dX6_of_6 (by decide) ?_
  refine j_iload_n F.1 dX6_of_8 rfl ?_
  refine j_imul F.1 dX6_of_9 ?_
  refine j_iadd F.1 dX6_of_10 ?_
  refine j_iload_n F.1 dX6_of_11 rfl ?_
  refine j_iadd F.1 dX6_of_12 ?_
  refine j_iald F ⟨by decide, rfl⟩ (ix_e i j) (by unfold ix; omega) (by decide) dX6_of_13 ?_
  exact j_iret F dX6_of_14 ⟨rfl, rfl⟩
set_option maxHeartbeats 4000000 in
set_option maxRecDepth 100000 in
theorem k_puts {Y : rcY} {la : Launch} {v : rcM} {i j : Nat} {x : Int32} (hi : i < 10) (hj : j < 15) : rcT shM 13 Y la 0 (yX6_puts, cX6_puts, 4, none) [.ref (Y.2.1 0), .int (nI i), .int (nI j), .int x] (v) (rV (rcr v 1 (upd (v 1) (ix i j) x))) := by
  refine rcT.of (by decide +kernel) (Nat.le_of_ble_eq_true rfl) (fun X F hn => ?_)
  refine j_aload_n F.1 dX6_puts_0 rfl ?_
  refine j_getr F (k := 0) inX6 rfl (by decide) fl_X6_7 ⟨by decide, rfl⟩ rfl dX6_puts_1 ?_
  refine j_bipush F.1 (8) dX6_puts_4 (by decide) ?_
  refine j_bipush F.1 (15) dX6_puts_6 (by decide) ?_
  refine j_iload_n F.1 dX6_puts_8 rfl ?_
  refine j_imul F.1 dX6_puts_9 ?_
  refine j_iadd F.1 dX6_puts_10 ?_
  refine j_iload_n F.1 dX6_puts_11 rfl ?_
  refine j_iadd F.1 dX6_puts_12 ?_
  refine j_iload_n F.1 dX6_puts_13 rfl ?_
  refine j_iast F ⟨by decide, rfl⟩ (ix_e i j) (by unfold ix; omega) (by decide) dX6_puts_14 ?_
  exact j_vret F dX6_puts_15 ((rVe rcu_r))
set_option maxHeartbeats 4000000 in
set_option maxRecDepth 100000 in
theorem k_begins {Y : rcY} {la : Launch} {v : rcM}  : rcT shM 13 Y la 0 (yX6_begins, cX6_begins, 2, none) [.ref (Y.2.1 0)] (v) (rV (rcr v 2 (cp 158 (v 1) (v 2)))) := by
  refine rcT.of (by decide +kernel) (Nat.le_of_ble_eq_true rfl) (fun X F hn => ?_)
  have loop : ∀ r t : Nat, t ≤ 158 → 158 < t + r → rcJ shM 13 Y X (rV (rcr v 2 (cp 158 (v 1) (v 2)))) 2 [(0, .ref (Y.2.1 0)), (1, .int (nI (t)))] [] (rcr v 2 (cp (t) (v 1) (v 2))) := by
    intro r
    induction r with
    | zero => intro t ht hr; omega
    | succ r ih =>
      intro t ht hr
      refine j_iload_n F.1 dX6_begins_2 rfl ?_
      refine j_sipush F.1 (158) dX6_begins_3 (by decide) ?_
      refine j_icmp_ge F.1 27 dX6_begins_6 (by decide) (fun h6 => ?_) (fun h6 => ?_)
      · have q6 : 158 ≤ t := (nI_leI (a := 158) (b := t) (by omega) (by omega)).mp h6
        exact j_vret F dX6_begins_27 ((rVe (by rw [Nat.le_antisymm ht q6])))
      · have q6 : t < 158 := Nat.lt_of_not_le (fun z => h6 ((nI_leI (a := 158) (b := t) (by omega) (by omega)).mpr z))
        refine j_aload_n F.1 dX6_begins_9 rfl ?_
        refine j_getr F (k := 1) inX6 rfl (by decide) fl_X6_13 ⟨by decide, rfl⟩ rfl dX6_begins_10 ?_
        refine j_iload_n F.1 dX6_begins_13 rfl ?_
        refine j_aload_n F.1 dX6_begins_14 rfl ?_
        refine j_getr F (k := 0) inX6 rfl (by decide) fl_X6_7 ⟨by decide, rfl⟩ rfl dX6_begins_15 ?_
        refine j_iload_n F.1 dX6_begins_18 rfl ?_
        refine j_iald F ⟨by decide, rfl⟩ rfl (by omega) (by decide) dX6_begins_19 ?_
        refine j_iast F ⟨by decide, rfl⟩ rfl (by omega) (by decide) dX6_begins_20 ?_
        refine j_iinc F.1 (1) dX6_begins_21 (by decide) rfl (by rw [hn]; decide) ?_
        refine j_goto F.1 2 dX6_begins_24 (by decide) ?_
        refine j_loc [(0, .ref (Y.2.1 0)), (1, .int (nI (t + 1)))] (by rw [← nI_1]; rfl) ?_
        rw [rcu_r, rcr_rcr, rcr_s, rcr_n (a := 2) (b := 1) (by decide), cp_s]
        exact ih (t + 1) (by omega) (by omega)
  refine j_iconst F.1 (0) dX6_begins_0 (by decide) ?_
  refine j_istore_n F.1 dX6_begins_1 (by rw [hn]; decide) ?_
  refine j_loc [(0, .ref (Y.2.1 0)), (1, .int (nI 0))] rfl ?_
  have e := loop 159 0 (by omega) (by omega)
  rw [cp_0, rcr_self] at e
  exact e
set_option maxHeartbeats 4000000 in
set_option maxRecDepth 100000 in
theorem k_returns {Y : rcY} {la : Launch} {v : rcM}  : rcT shM 13 Y la 0 (yX6_returns, cX6_returns, 2, none) [.ref (Y.2.1 0)] (v) (rV (rcr v 1 (cp 158 (v 2) (v 1)))) := by
  refine rcT.of (by decide +kernel) (Nat.le_of_ble_eq_true rfl) (fun X F hn => ?_)
  have loop : ∀ r t : Nat, t ≤ 158 → 158 < t + r → rcJ shM 13 Y X (rV (rcr v 1 (cp 158 (v 2) (v 1)))) 2 [(0, .ref (Y.2.1 0)), (1, .int (nI (t)))] [] (rcr v 1 (cp (t) (v 2) (v 1))) := by
    intro r
    induction r with
    | zero => intro t ht hr; omega
    | succ r ih =>
      intro t ht hr
      refine j_iload_n F.1 dX6_returns_2 rfl ?_
      refine j_sipush F.1 (158) dX6_returns_3 (by decide) ?_
      refine j_icmp_ge F.1 27 dX6_returns_6 (by decide) (fun h6 => ?_) (fun h6 => ?_)
      · have q6 : 158 ≤ t := (nI_leI (a := 158) (b := t) (by omega) (by omega)).mp h6
        exact j_vret F dX6_returns_27 ((rVe (by rw [Nat.le_antisymm ht q6])))
      · have q6 : t < 158 := Nat.lt_of_not_le (fun z => h6 ((nI_leI (a := 158) (b := t) (by omega) (by omega)).mpr z))
        refine j_aload_n F.1 dX6_returns_9 rfl ?_
        refine j_getr F (k := 0) inX6 rfl (by decide) fl_X6_7 ⟨by decide, rfl⟩ rfl dX6_returns_10 ?_
        refine j_iload_n F.1 dX6_returns_13 rfl ?_
        refine j_aload_n F.1 dX6_returns_14 rfl ?_
        refine j_getr F (k := 1) inX6 rfl (by decide) fl_X6_13 ⟨by decide, rfl⟩ rfl dX6_returns_15 ?_
        refine j_iload_n F.1 dX6_returns_18 rfl ?_
        refine j_iald F ⟨by decide, rfl⟩ rfl (by omega) (by decide) dX6_returns_19 ?_
        refine j_iast F ⟨by decide, rfl⟩ rfl (by omega) (by decide) dX6_returns_20 ?_
        refine j_iinc F.1 (1) dX6_returns_21 (by decide) rfl (by rw [hn]; decide) ?_
        refine j_goto F.1 2 dX6_returns_24 (by decide) ?_
        refine j_loc [(0, .ref (Y.2.1 0)), (1, .int (nI (t + 1)))] (by rw [← nI_1]; rfl) ?_
        rw [rcu_r, rcr_rcr, rcr_s, rcr_n (a := 1) (b := 2) (by decide), cp_s]
        exact ih (t + 1) (by omega) (by omega)
  refine j_iconst F.1 (0) dX6_returns_0 (by decide) ?_
  refine j_istore_n F.1 dX6_returns_1 (by rw [hn]; decide) ?_
  refine j_loc [(0, .ref (Y.2.1 0)), (1, .int (nI 0))] rfl ?_
  have e := loop 159 0 (by omega) (by omega)
  rw [cp_0, rcr_self] at e
  exact e
end
section
/-! The reference: what is recorded, definitions, answers looked up. -/
abbrev rP (q : Int32 × rcM) : Option Value → rcM → Prop := rI q.1 q.2
/-- the history's row shifted by one state, as far as t -/
def sh4 (t : Nat) (p : Nat → Int32) : Nat → Int32 := fun k => if k < t then p (k + 158) else p k
/-- the state numbered m put into the history's row, as far as t -/
def put4 (t m : Nat) (b p : Nat → Int32) : Nat → Int32 := fun k => if 158 * m ≤ k ∧ k < 158 * m + t then b (k - 158 * m) else p k
theorem sh4_0 {p : Nat → Int32} : sh4 0 p = p := by funext k; simp [sh4]
theorem sh4_s {t : Nat} {p : Nat → Int32} : upd (sh4 t p) t (sh4 t p (t + 158)) = sh4 (t + 1) p := by
  funext k
  by_cases h : k = t
  · subst h; have q : ¬ k + 158 < k := by omega
    simp [sh4, upd, q]
  · by_cases h2 : k < t
    · simp [sh4, upd, h, h2, Nat.lt_succ_of_lt h2]
    · have h3 : ¬ k < t + 1 := by omega
      simp [sh4, upd, h, h2, h3]
theorem put4_0 {m : Nat} {b p : Nat → Int32} : put4 0 m b p = p := by
  funext k
  unfold put4
  rw [if_neg (by omega)]
theorem put4_s {t m : Nat} {b p : Nat → Int32} : upd (put4 t m b p) (158 * m + t) (b t) = put4 (t + 1) m b p := by
  funext k
  unfold upd put4
  by_cases h : k = 158 * m + t
  · subst h
    rw [if_pos rfl, if_pos ⟨by omega, by omega⟩]
    congr 1
    omega
  · rw [if_neg h]
    by_cases h2 : 158 * m ≤ k ∧ k < 158 * m + t
    · rw [if_pos h2, if_pos ⟨h2.1, by omega⟩]
    · rw [if_neg h2, if_neg (by omega)]
def M_act0 (v : rcM) : rcM := rcu (rcr v 3 (sh4 474 (v 3))) 0 3 (nI 3)
def M_act1 (n : Nat) (w : rcM) : rcM := rcu (rcr w 3 (put4 158 n (w 2) (w 3))) 0 3 (nI (n + 1))
def M_act (n : Nat) (v : rcM) : rcM := if n = 4 then M_act1 3 (M_act0 v) else M_act1 n v
def M_acted (n : Nat) (x : Int32) (v : rcM) : rcM := if x ≤ -2000000001 then v else M_act n v
set_option maxHeartbeats 4000000 in
set_option maxRecDepth 100000 in
theorem k_acted {Y : rcY} {la : Launch} {v : rcM} {x : Int32} {n : Nat} (hn4 : n ≤ 4) (hn3 : v 0 3 = nI n) : rcT shM 13 Y la 0 (yX6_acted, cX6_acted, 3, (some .int)) [.ref (Y.2.1 0), .int x] (v) (rI x (M_acted n x v)) := by
  refine rcT.of (by decide +kernel) (Nat.le_of_ble_eq_true rfl) (fun X F hn => ?_)
  have tail : ∀ (K : Option Value → rcM → Prop) (w : rcM) (m : Nat), m ≤ 3 → w 0 3 = nI m → K = rI x (M_act1 m w) → rcJ shM 13 Y X K 57 [(0, .ref (Y.2.1 0)), (1, .int x)] [] w := by
    intro K w m hm3 hm hK
    subst hK
    have loop : ∀ r t : Nat, t ≤ 158 → 158 < t + r → rcJ shM 13 Y X (rI x (M_act1 m w)) 59 [(0, .ref (Y.2.1 0)), (1, .int x), (2, .int (nI t))] [] (rcr w 3 (put4 t m (w 2) (w 3))) := by
      intro r
      induction r with
      | zero => intro t ht hr; omega
      | succ r ih =>
        intro t ht hr
        refine j_iload_n F.1 dX6_acted_59 rfl ?_
        refine j_sipush F.1 (158) dX6_acted_60 (by decide) ?_
        refine j_icmp_ge F.1 93 dX6_acted_63 (by decide) (fun h63 => ?_) (fun h63 => ?_)
        · have q63 : 158 ≤ t := (nI_leI (a := 158) (b := t) (by omega) (by omega)).mp h63
          refine j_aload_n F.1 dX6_acted_93 rfl ?_
          refine j_dup F.1 dX6_acted_94 rfl ?_
          refine j_geti F (k := 3) inX6 rfl (by decide) fl_X6_51 ⟨by decide, rfl⟩ rfl dX6_acted_95 ?_
          refine j_iconst F.1 (1) dX6_acted_98 (by decide) ?_
          refine j_iadd F.1 dX6_acted_99 ?_
          refine j_puti F (k := 3) inX6 tyX6_ok nmX6 rfl (by decide) fl_X6_51 rfl rfl ⟨by decide, rfl⟩ rfl dX6_acted_100 ?_
          refine j_iload_n F.1 dX6_acted_103 rfl ?_
          exact j_iret F dX6_acted_104 ((rIe rfl (by rw [Nat.le_antisymm ht q63]; show rcu _ 0 3 (rcr w 3 _ 0 3 + 1) = _; rw [rcr_n (a := 3) (b := 0) (by decide), hm, nI_1]; rfl)))
        · have q63 : t < 158 := Nat.lt_of_not_le (fun z => h63 ((nI_leI (a := 158) (b := t) (by omega) (by omega)).mpr z))
          refine j_aload_n F.1 dX6_acted_66 rfl ?_
          refine j_getr F (k := 2) inX6 rfl (by decide) fl_X6_16 ⟨by decide, rfl⟩ rfl dX6_acted_67 ?_
          refine j_sipush F.1 (158) dX6_acted_70 (by decide) ?_
          refine j_aload_n F.1 dX6_acted_73 rfl ?_
          refine j_geti F (k := 3) inX6 rfl (by decide) fl_X6_51 ⟨by decide, rfl⟩ rfl dX6_acted_74 ?_
          refine j_imul F.1 dX6_acted_77 ?_
          refine j_iload_n F.1 dX6_acted_78 rfl ?_
          refine j_iadd F.1 dX6_acted_79 ?_
          refine j_aload_n F.1 dX6_acted_80 rfl ?_
          refine j_getr F (k := 1) inX6 rfl (by decide) fl_X6_13 ⟨by decide, rfl⟩ rfl dX6_acted_81 ?_
          refine j_iload_n F.1 dX6_acted_84 rfl ?_
          refine j_iald F ⟨by decide, rfl⟩ rfl (by omega) (by decide) dX6_acted_85 ?_
          refine j_iast F ⟨by decide, rfl⟩ (by rw [show (158 : Int32) = nI 158 from rfl, rcr_n (b := 0) (a := 3) (by decide), hm, pk_mul, nI_add]) (by omega) (by decide) dX6_acted_86 ?_
          refine j_iinc F.1 (1) dX6_acted_87 (by decide) rfl (by rw [hn]; decide) ?_
          refine j_goto F.1 59 dX6_acted_90 (by decide) ?_
          refine j_loc [(0, .ref (Y.2.1 0)), (1, .int x), (2, .int (nI (t + 1)))] (by rw [← nI_1]; rfl) ?_
          rw [rcu_r, rcr_rcr, rcr_s, rcr_n (a := 3) (b := 2) (by decide), put4_s]
          exact ih (t + 1) (by omega) (by omega)
    refine j_iconst F.1 (0) dX6_acted_57 (by decide) ?_
    refine j_istore_n F.1 dX6_acted_58 (by rw [hn]; decide) ?_
    refine j_loc [(0, .ref (Y.2.1 0)), (1, .int x), (2, .int (nI 0))] rfl ?_
    have e := loop 159 0 (by omega) (by omega)
    rw [put4_0, rcr_self] at e
    exact e
  have loop : ∀ r t : Nat, t ≤ 474 → 474 < t + r → v 0 3 = nI 4 → rcJ shM 13 Y X (rI x (M_act1 3 (M_act0 v))) 18 [(0, .ref (Y.2.1 0)), (1, .int x), (2, .int (nI t))] [] (rcr v 3 (sh4 t (v 3))) := by
    intro r
    induction r with
    | zero => intro t ht hr; omega
    | succ r ih =>
      intro t ht hr h4
      refine j_iload_n F.1 dX6_acted_18 rfl ?_
      refine j_sipush F.1 (474) dX6_acted_19 (by decide) ?_
      refine j_icmp_ge F.1 47 dX6_acted_22 (by decide) (fun h22 => ?_) (fun h22 => ?_)
      · have q22 : 474 ≤ t := (nI_leI (a := 474) (b := t) (by omega) (by omega)).mp h22
        refine j_aload_n F.1 dX6_acted_47 rfl ?_
        refine j_dup F.1 dX6_acted_48 rfl ?_
        refine j_geti F (k := 3) inX6 rfl (by decide) fl_X6_51 ⟨by decide, rfl⟩ rfl dX6_acted_49 ?_
        refine j_iconst F.1 (1) dX6_acted_52 (by decide) ?_
        refine j_isub F.1 dX6_acted_53 ?_
        refine j_puti F (k := 3) inX6 tyX6_ok nmX6 rfl (by decide) fl_X6_51 rfl rfl ⟨by decide, rfl⟩ rfl dX6_acted_54 ?_
        refine j_loc [(0, .ref (Y.2.1 0)), (1, .int x)] rfl ?_
        refine tail _ _ 3 (by omega) ?_ ?_
        · rw [rcu_self, rcr_n (a := 3) (b := 0) (by decide), h4]; decide
        · rw [Nat.le_antisymm ht q22, rcr_n (a := 3) (b := 0) (by decide), h4]; rfl
      · have q22 : t < 474 := Nat.lt_of_not_le (fun z => h22 ((nI_leI (a := 474) (b := t) (by omega) (by omega)).mpr z))
        refine j_aload_n F.1 dX6_acted_25 rfl ?_
        refine j_getr F (k := 2) inX6 rfl (by decide) fl_X6_16 ⟨by decide, rfl⟩ rfl dX6_acted_26 ?_
        refine j_iload_n F.1 dX6_acted_29 rfl ?_
        refine j_aload_n F.1 dX6_acted_30 rfl ?_
        refine j_getr F (k := 2) inX6 rfl (by decide) fl_X6_16 ⟨by decide, rfl⟩ rfl dX6_acted_31 ?_
        refine j_iload_n F.1 dX6_acted_34 rfl ?_
        refine j_sipush F.1 (158) dX6_acted_35 (by decide) ?_
        refine j_iadd F.1 dX6_acted_38 ?_
        refine j_iald F ⟨by decide, rfl⟩ (by rw [show (158 : Int32) = nI 158 from rfl, nI_add]) (by omega) (by decide) dX6_acted_39 ?_
        refine j_iast F ⟨by decide, rfl⟩ rfl (by omega) (by decide) dX6_acted_40 ?_
        refine j_iinc F.1 (1) dX6_acted_41 (by decide) rfl (by rw [hn]; decide) ?_
        refine j_goto F.1 18 dX6_acted_44 (by decide) ?_
        refine j_loc [(0, .ref (Y.2.1 0)), (1, .int x), (2, .int (nI (t + 1)))] (by rw [← nI_1]; rfl) ?_
        rw [rcu_r, rcr_rcr, rcr_s, sh4_s]
        exact ih (t + 1) (by omega) (by omega) h4
  refine j_iload_n F.1 dX6_acted_0 rfl ?_
  refine j_ldc F cn_X6_50 dX6_acted_1 ?_
  refine j_icmp_gt F.1 8 dX6_acted_3 (by decide) (fun h3 => ?_) (fun h3 => ?_)
  · have h3n : ¬ x ≤ -2000000001 := Int32.not_le.mpr h3
    refine j_aload_n F.1 dX6_acted_8 rfl ?_
    refine j_geti F (k := 3) inX6 rfl (by decide) fl_X6_51 ⟨by decide, rfl⟩ rfl dX6_acted_9 ?_
    refine j_iconst F.1 (4) dX6_acted_12 (by decide) ?_
    refine j_icmp_ne F.1 57 dX6_acted_13 (by decide) (fun h13 => ?_) (fun h13 => ?_)
    · have n4 : ¬ n = 4 := fun z => h13 (by rw [hn3, z]; rfl)
      unfold M_acted M_act
      rw [if_neg h3n, if_neg n4]
      exact tail _ v n (by omega) hn3 rfl
    · have n4 : n = 4 := (nI_eq (by omega) (by decide)).mp (hn3.symm.trans h13)
      have h4 : v 0 3 = nI 4 := h13
      refine j_iconst F.1 (0) dX6_acted_16 (by decide) ?_
      refine j_istore_n F.1 dX6_acted_17 (by rw [hn]; decide) ?_
      refine j_loc [(0, .ref (Y.2.1 0)), (1, .int x), (2, .int (nI 0))] rfl ?_
      have e := loop 475 0 (by omega) (by omega) h4
      rw [sh4_0, rcr_self] at e
      unfold M_acted M_act
      rw [if_neg h3n, if_pos n4]
      exact e
  · have h3 := Int32.not_lt.mp h3
    refine j_iload_n F.1 dX6_acted_6 rfl ?_
    exact j_iret F dX6_acted_7 ((rIe rfl (if_pos h3).symm))
set_option maxHeartbeats 4000000 in
set_option maxRecDepth 100000 in
theorem k_isSo {Y : rcY} {la : Launch} {v : rcM} {i : Nat} {a b c d e : Int32} (hi : i < 10) : rcT shM 13 Y la 1 (yX6_isSo, cX6_isSo, 7, (some .boolean)) [.ref (Y.2.1 0), .int (nI i), .int a, .int b, .int c, .int d, .int e] (v) (rI (b2 (v 1 (ix i 0) = a ∧ v 1 (ix i 1) = b ∧ v 1 (ix i 2) = c ∧ v 1 (ix i 3) = d ∧ v 1 (ix i 4) = e)) v) := by
  refine rcT.of (by decide +kernel) (Nat.le_of_ble_eq_true rfl) (fun X F hn => ?_)
  refine j_aload_n F.1 dX6_isSo_0 rfl ?_
  refine j_iload_n F.1 dX6_isSo_1 rfl ?_
  refine j_iconst F.1 (0) dX6_isSo_2 (by decide) ?_
  refine j_callVi F (k_of (by assumption) (by decide)) co_X6_of ml_X6_55 im_X6_of se_X6_of in_X6 rc_X6_of rfl (by decide) (by decide) ⟨by decide, rfl⟩ rfl rfl (Nat.le_of_ble_eq_true rfl) dX6_isSo_3 ?_
  refine j_iload_n F.1 dX6_isSo_6 rfl ?_
  refine j_icmp_ne F.1 57 dX6_isSo_7 (by decide) (fun h7 => ?_) (fun h7 => ?_)
  · refine j_iconst F.1 (0) dX6_isSo_57 (by decide) ?_
    exact j_zret F (by first | exact Or.inl rfl | exact Or.inr rfl | exact b2_01 _) dX6_isSo_58 ((rIe (by simp [b2, *]) rfl))
  · refine j_aload_n F.1 dX6_isSo_10 rfl ?_
    refine j_iload_n F.1 dX6_isSo_11 rfl ?_
    refine j_iconst F.1 (1) dX6_isSo_12 (by decide) ?_
    refine j_callVi F (k_of (by assumption) (by decide)) co_X6_of ml_X6_55 im_X6_of se_X6_of in_X6 rc_X6_of rfl (by decide) (by decide) ⟨by decide, rfl⟩ rfl rfl (Nat.le_of_ble_eq_true rfl) dX6_isSo_13 ?_
    refine j_iload_n F.1 dX6_isSo_16 rfl ?_
    refine j_icmp_ne F.1 57 dX6_isSo_17 (by decide) (fun h17 => ?_) (fun h17 => ?_)
    · refine j_iconst F.1 (0) dX6_isSo_57 (by decide) ?_
      exact j_zret F (by first | exact Or.inl rfl | exact Or.inr rfl | exact b2_01 _) dX6_isSo_58 ((rIe (by simp [b2, *]) rfl))
    · refine j_aload_n F.1 dX6_isSo_20 rfl ?_
      refine j_iload_n F.1 dX6_isSo_21 rfl ?_
      refine j_iconst F.1 (2) dX6_isSo_22 (by decide) ?_
      refine j_callVi F (k_of (by assumption) (by decide)) co_X6_of ml_X6_55 im_X6_of se_X6_of in_X6 rc_X6_of rfl (by decide) (by decide) ⟨by decide, rfl⟩ rfl rfl (Nat.le_of_ble_eq_true rfl) dX6_isSo_23 ?_
      refine j_iload F.1 dX6_isSo_26 rfl ?_
      refine j_icmp_ne F.1 57 dX6_isSo_28 (by decide) (fun h28 => ?_) (fun h28 => ?_)
      · refine j_iconst F.1 (0) dX6_isSo_57 (by decide) ?_
        exact j_zret F (by first | exact Or.inl rfl | exact Or.inr rfl | exact b2_01 _) dX6_isSo_58 ((rIe (by simp [b2, *]) rfl))
      · refine j_aload_n F.1 dX6_isSo_31 rfl ?_
        refine j_iload_n F.1 dX6_isSo_32 rfl ?_
        refine j_iconst F.1 (3) dX6_isSo_33 (by decide) ?_
        refine j_callVi F (k_of (by assumption) (by decide)) co_X6_of ml_X6_55 im_X6_of se_X6_of in_X6 rc_X6_of rfl (by decide) (by decide) ⟨by decide, rfl⟩ rfl rfl (Nat.le_of_ble_eq_true rfl) dX6_isSo_34 ?_
        refine j_iload F.1 dX6_isSo_37 rfl ?_
        refine j_icmp_ne F.1 57 dX6_isSo_39 (by decide) (fun h39 => ?_) (fun h39 => ?_)
        · refine j_iconst F.1 (0) dX6_isSo_57 (by decide) ?_
          exact j_zret F (by first | exact Or.inl rfl | exact Or.inr rfl | exact b2_01 _) dX6_isSo_58 ((rIe (by simp [b2, *]) rfl))
        · refine j_aload_n F.1 dX6_isSo_42 rfl ?_
          refine j_iload_n F.1 dX6_isSo_43 rfl ?_
          refine j_iconst F.1 (4) dX6_isSo_44 (by decide) ?_
          refine j_callVi F (k_of (by assumption) (by decide)) co_X6_of ml_X6_55 im_X6_of se_X6_of in_X6 rc_X6_of rfl (by decide) (by decide) ⟨by decide, rfl⟩ rfl rfl (Nat.le_of_ble_eq_true rfl) dX6_isSo_45 ?_
          refine j_iload F.1 dX6_isSo_48 rfl ?_
          refine j_icmp_ne F.1 57 dX6_isSo_50 (by decide) (fun h50 => ?_) (fun h50 => ?_)
          · refine j_iconst F.1 (0) dX6_isSo_57 (by decide) ?_
            exact j_zret F (by first | exact Or.inl rfl | exact Or.inr rfl | exact b2_01 _) dX6_isSo_58 ((rIe (by simp [b2, *]) rfl))
          · refine j_iconst F.1 (1) dX6_isSo_53 (by decide) ?_
            refine j_goto F.1 58 dX6_isSo_54 (by decide) ?_
            exact j_zret F (by first | exact Or.inl rfl | exact Or.inr rfl | exact b2_01 _) dX6_isSo_58 ((rIe (by simp [b2, *]) rfl))
/-- fifteen places of a cell are laid to 0, as far as n -/
def zr (n i : Nat) (f : Nat → Int32) : Nat → Int32 := fun k => if ix i 0 ≤ k ∧ k < ix i n then 0 else f k
theorem zr_0 {i : Nat} {f : Nat → Int32} : zr 0 i f = f := by
  funext k
  unfold zr
  rw [if_neg (by omega)]
theorem zr_s {n i : Nat} {f : Nat → Int32} : upd (zr n i f) (ix i n) 0 = zr (n + 1) i f := by
  funext k
  unfold upd zr ix
  by_cases h : k = 8 + 15 * i + n
  · rw [if_pos h, if_pos (by omega)]
  · rw [if_neg h]
    by_cases h2 : 8 + 15 * i + 0 ≤ k ∧ k < 8 + 15 * i + n
    · rw [if_pos h2, if_pos (by omega)]
    · rw [if_neg h2, if_neg (by omega)]
/-- a cell is laid down as something else -/
def A_def1 (f : Nat → Int32) (i : Nat) (a b c d e : Int32) : Nat → Int32 :=
  upd (upd (upd (upd (upd (upd (zr 15 i (upd f 0 (f 0 + 1))) (ix i 0) a) (ix i 1) b) (ix i 2) c) (ix i 3) d) (ix i 4) e) (ix i 5) (f 0 + 1)
def A_so (f : Nat → Int32) (i : Nat) (a b c d e : Int32) : Prop := f (ix i 0) = a ∧ f (ix i 1) = b ∧ f (ix i 2) = c ∧ f (ix i 3) = d ∧ f (ix i 4) = e
def A_def (f : Nat → Int32) (i : Nat) (a b c d e : Int32) : Nat → Int32 := if f (ix i 0) = a ∧ f (ix i 1) = b ∧ f (ix i 2) = c ∧ f (ix i 3) = d ∧ f (ix i 4) = e then f else A_def1 f i a b c d e
set_option maxHeartbeats 4000000 in
set_option maxRecDepth 100000 in
theorem k_defines {Y : rcY} {la : Launch} {v : rcM} {i : Nat} {a b c d e : Int32} (hi : i < 10) : rcT shM 13 Y la 2 (yX6_defines, cX6_defines, 8, (some .int)) [.ref (Y.2.1 0), .int (nI i), .int a, .int b, .int c, .int d, .int e] (v) (rI (A_def (v 1) i a b c d e 0) (rcr v 1 (A_def (v 1) i a b c d e))) := by
  refine rcT.of (by decide +kernel) (Nat.le_of_ble_eq_true rfl) (fun X F hn => ?_)
  have last : ∀ w : rcM, w = rcr v 1 (A_def (v 1) i a b c d e) → rcJ shM 13 Y X (rI (A_def (v 1) i a b c d e 0) (rcr v 1 (A_def (v 1) i a b c d e))) 100 [(0, .ref (Y.2.1 0)), (1, .int (nI i)), (2, .int a), (3, .int b), (4, .int c), (5, .int d), (6, .int e)] [] w := by
    intro w hw
    subst hw
    refine j_aload_n F.1 dX6_defines_100 rfl ?_
    refine j_getr F (k := 0) inX6 rfl (by decide) fl_X6_7 ⟨by decide, rfl⟩ rfl dX6_defines_101 ?_
    refine j_iconst F.1 (0) dX6_defines_104 (by decide) ?_
    refine j_iald F ⟨by decide, rfl⟩ rfl (by decide) (by decide) dX6_defines_105 ?_
    exact j_iret F dX6_defines_106 ((rIe (by rw [rcr_s]) rfl))
  have loop : ∀ r t : Nat, t ≤ 15 → 15 < t + r → ¬ (v 1 (ix i 0) = a ∧ v 1 (ix i 1) = b ∧ v 1 (ix i 2) = c ∧ v 1 (ix i 3) = d ∧ v 1 (ix i 4) = e) → rcJ shM 13 Y X (rI (A_def (v 1) i a b c d e 0) (rcr v 1 (A_def (v 1) i a b c d e))) 29 [(7, .int (nI t)), (0, .ref (Y.2.1 0)), (1, .int (nI i)), (2, .int a), (3, .int b), (4, .int c), (5, .int d), (6, .int e)] [] (rcr v 1 (zr t i (upd (v 1) 0 (v 1 0 + 1)))) := by
    intro r
    induction r with
    | zero => intro t ht hr; omega
    | succ r ih =>
      intro t ht hr hso
      refine j_iload F.1 dX6_defines_29 rfl ?_
      refine j_bipush F.1 (15) dX6_defines_31 (by decide) ?_
      refine j_icmp_ge F.1 50 dX6_defines_33 (by decide) (fun h33 => ?_) (fun h33 => ?_)
      · have q33 : 15 ≤ t := (nI_leI (a := 15) (b := t) (by omega) (by omega)).mp h33
        refine j_aload_n F.1 dX6_defines_50 rfl ?_
        refine j_iload_n F.1 dX6_defines_51 rfl ?_
        refine j_iconst F.1 (0) dX6_defines_52 (by decide) ?_
        refine j_iload_n F.1 dX6_defines_53 rfl ?_
        refine j_callVv F (k_puts (by assumption) (by decide)) co_X6_puts ml_X6_63 im_X6_puts se_X6_puts in_X6 rc_X6_puts rfl (by decide) (by decide) ⟨by decide, rfl⟩ rfl rfl (Nat.le_of_ble_eq_true rfl) dX6_defines_54 ?_
        rw [rcr_rcr, rcr_s]
        refine j_aload_n F.1 dX6_defines_57 rfl ?_
        refine j_iload_n F.1 dX6_defines_58 rfl ?_
        refine j_iconst F.1 (1) dX6_defines_59 (by decide) ?_
        refine j_iload_n F.1 dX6_defines_60 rfl ?_
        refine j_callVv F (k_puts (by assumption) (by decide)) co_X6_puts ml_X6_63 im_X6_puts se_X6_puts in_X6 rc_X6_puts rfl (by decide) (by decide) ⟨by decide, rfl⟩ rfl rfl (Nat.le_of_ble_eq_true rfl) dX6_defines_61 ?_
        rw [rcr_rcr, rcr_s]
        refine j_aload_n F.1 dX6_defines_64 rfl ?_
        refine j_iload_n F.1 dX6_defines_65 rfl ?_
        refine j_iconst F.1 (2) dX6_defines_66 (by decide) ?_
        refine j_iload F.1 dX6_defines_67 rfl ?_
        refine j_callVv F (k_puts (by assumption) (by decide)) co_X6_puts ml_X6_63 im_X6_puts se_X6_puts in_X6 rc_X6_puts rfl (by decide) (by decide) ⟨by decide, rfl⟩ rfl rfl (Nat.le_of_ble_eq_true rfl) dX6_defines_69 ?_
        rw [rcr_rcr, rcr_s]
        refine j_aload_n F.1 dX6_defines_72 rfl ?_
        refine j_iload_n F.1 dX6_defines_73 rfl ?_
        refine j_iconst F.1 (3) dX6_defines_74 (by decide) ?_
        refine j_iload F.1 dX6_defines_75 rfl ?_
        refine j_callVv F (k_puts (by assumption) (by decide)) co_X6_puts ml_X6_63 im_X6_puts se_X6_puts in_X6 rc_X6_puts rfl (by decide) (by decide) ⟨by decide, rfl⟩ rfl rfl (Nat.le_of_ble_eq_true rfl) dX6_defines_77 ?_
        rw [rcr_rcr, rcr_s]
        refine j_aload_n F.1 dX6_defines_80 rfl ?_
        refine j_iload_n F.1 dX6_defines_81 rfl ?_
        refine j_iconst F.1 (4) dX6_defines_82 (by decide) ?_
        refine j_iload F.1 dX6_defines_83 rfl ?_
        refine j_callVv F (k_puts (by assumption) (by decide)) co_X6_puts ml_X6_63 im_X6_puts se_X6_puts in_X6 rc_X6_puts rfl (by decide) (by decide) ⟨by decide, rfl⟩ rfl rfl (Nat.le_of_ble_eq_true rfl) dX6_defines_85 ?_
        rw [rcr_rcr, rcr_s]
        refine j_aload_n F.1 dX6_defines_88 rfl ?_
        refine j_iload_n F.1 dX6_defines_89 rfl ?_
        refine j_iconst F.1 (5) dX6_defines_90 (by decide) ?_
        refine j_aload_n F.1 dX6_defines_91 rfl ?_
        refine j_getr F (k := 0) inX6 rfl (by decide) fl_X6_7 ⟨by decide, rfl⟩ rfl dX6_defines_92 ?_
        refine j_iconst F.1 (0) dX6_defines_95 (by decide) ?_
        refine j_iald F ⟨by decide, rfl⟩ rfl (by decide) (by decide) dX6_defines_96 ?_
        refine j_callVv F (k_puts (by assumption) (by decide)) co_X6_puts ml_X6_63 im_X6_puts se_X6_puts in_X6 rc_X6_puts rfl (by decide) (by decide) ⟨by decide, rfl⟩ rfl rfl (Nat.le_of_ble_eq_true rfl) dX6_defines_97 ?_
        rw [rcr_rcr, rcr_s]
        refine j_loc [(0, .ref (Y.2.1 0)), (1, .int (nI i)), (2, .int a), (3, .int b), (4, .int c), (5, .int d), (6, .int e)] rfl ?_
        refine last _ ?_
        rw [Nat.le_antisymm ht q33]
        unfold A_def
        rw [if_neg hso]
        unfold A_def1
        have z0 : zr 15 i (upd (v 1) 0 (v 1 0 + 1)) 0 = v 1 0 + 1 := by
          unfold zr ix
          rw [if_neg (by omega)]
          simp [upd]
        simp only [rcr_s, rcr_rcr]
        refine congrArg (fun z => rcr v 1 (upd _ (ix i 5) z)) ?_
        repeat rw [pk_un (by unfold ix; omega)]
        exact z0
      · have q33 : t < 15 := Nat.lt_of_not_le (fun z => h33 ((nI_leI (a := 15) (b := t) (by omega) (by omega)).mpr z))
        refine j_aload_n F.1 dX6_defines_36 rfl ?_
        refine j_iload_n F.1 dX6_defines_37 rfl ?_
        refine j_iload F.1 dX6_defines_38 rfl ?_
        refine j_iconst F.1 (0) dX6_defines_40 (by decide) ?_
        refine j_callVv F (k_puts (by assumption) (by omega)) co_X6_puts ml_X6_63 im_X6_puts se_X6_puts in_X6 rc_X6_puts rfl (by decide) (by decide) ⟨by decide, rfl⟩ rfl rfl (Nat.le_of_ble_eq_true rfl) dX6_defines_41 ?_
        rw [rcr_rcr, rcr_s]
        refine j_iinc F.1 (1) dX6_defines_44 (by decide) rfl (by rw [hn]; decide) ?_
        refine j_goto F.1 29 dX6_defines_47 (by decide) ?_
        refine j_loc [(7, .int (nI (t + 1))), (0, .ref (Y.2.1 0)), (1, .int (nI i)), (2, .int a), (3, .int b), (4, .int c), (5, .int d), (6, .int e)] (by rw [← nI_1]; rfl) ?_
        rw [zr_s]
        exact ih (t + 1) (by omega) (by omega) hso
  refine j_aload_n F.1 dX6_defines_0 rfl ?_
  refine j_iload_n F.1 dX6_defines_1 rfl ?_
  refine j_iload_n F.1 dX6_defines_2 rfl ?_
  refine j_iload_n F.1 dX6_defines_3 rfl ?_
  refine j_iload F.1 dX6_defines_4 rfl ?_
  refine j_iload F.1 dX6_defines_6 rfl ?_
  refine j_iload F.1 dX6_defines_8 rfl ?_
  refine j_callVi F (k_isSo (by assumption)) co_X6_isSo ml_X6_59 im_X6_isSo se_X6_isSo in_X6 rc_X6_isSo rfl (by decide) (by decide) ⟨by decide, rfl⟩ rfl rfl (Nat.le_of_ble_eq_true rfl) dX6_defines_10 ?_
  refine j_if_ne F.1 100 dX6_defines_13 (by decide) (fun h13 => ?_) (fun h13 => ?_)
  · rw [b2_0, Classical.not_not] at h13
    exact last v (by unfold A_def; rw [if_pos h13, rcr_self])
  · rw [b2_0] at h13
    refine j_aload_n F.1 dX6_defines_16 rfl ?_
    refine j_getr F (k := 0) inX6 rfl (by decide) fl_X6_7 ⟨by decide, rfl⟩ rfl dX6_defines_17 ?_
    refine j_iconst F.1 (0) dX6_defines_20 (by decide) ?_
    refine j_dup2 F.1 dX6_defines_21 rfl rfl ?_
    refine j_iald F ⟨by decide, rfl⟩ rfl (by decide) (by decide) dX6_defines_22 ?_
    refine j_iconst F.1 (1) dX6_defines_23 (by decide) ?_
    refine j_iadd F.1 dX6_defines_24 ?_
    refine j_iast F ⟨by decide, rfl⟩ rfl (by decide) (by decide) dX6_defines_25 ?_
    refine j_iconst F.1 (0) dX6_defines_26 (by decide) ?_
    refine j_istore F.1 dX6_defines_27 (by rw [hn]; decide) ?_
    refine j_loc [(7, .int (nI 0)), (0, .ref (Y.2.1 0)), (1, .int (nI i)), (2, .int a), (3, .int b), (4, .int c), (5, .int d), (6, .int e)] rfl ?_
    have e1 := loop 16 0 (by omega) (by omega) h13
    rw [zr_0] at e1
    rw [rcu_r]
    exact e1
end
section
/-! The reference: define, formula, cellOf, and what a look is made of. -/
theorem rPe {q : Int32 × rcM} {x : Int32} {u : rcM} (h : q = (x, u)) : rP q (some (.int x)) u := by subst h; exact ⟨rfl, rfl⟩
def M_beg (v : rcM) : rcM := rcr v 2 (cp 158 (v 1) (v 2))
def M_ret (v : rcM) : rcM := rcr v 1 (cp 158 (v 2) (v 1))
def M_defN (v : rcM) (n i : Nat) (a b c d e : Int32) : Int32 × rcM := (A_def (v 1) i a b c d e 0, M_acted n (A_def (v 1) i a b c d e 0) (rcr (M_beg v) 1 (A_def (v 1) i a b c d e)))
def isV (x : Int32) : Prop := -99999 ≤ x ∧ x ≤ 99999
def isC (x : Int32) : Prop := 0 ≤ x ∧ x ≤ 9
def M_define (v : rcM) (n : Nat) (c x : Int32) : Int32 × rcM := if (0 ≤ c ∧ c ≤ 9) ∧ (-99999 ≤ x ∧ x ≤ 99999) then M_defN v n c.toNatClampNeg 0 x 0 0 0 else (-2000000001, v)
theorem M_define_ok {v : rcM} {n i : Nat} {x : Int32} (hi : i < 10) (hx : -99999 ≤ x ∧ x ≤ 99999) : M_define v n (nI i) x = M_defN v n i 0 x 0 0 0 := by
  unfold M_define
  rw [if_pos ⟨nI_in9 hi, hx⟩, nI_clamp (by omega)]
/-- what the third of a formula's cells may be -/
def thirdOk (k e : Int32) : Prop := 0 ≤ e ∧ e ≤ (if k = 4 then 9 else 0)
def M_formula (v : rcM) (n : Nat) (c k x y z : Int32) : Int32 × rcM := if (0 ≤ c ∧ c ≤ 9) ∧ (0 ≤ k ∧ k ≤ 4) ∧ (0 ≤ x ∧ x ≤ 9) ∧ (0 ≤ y ∧ y ≤ 9) ∧ (0 ≤ z ∧ z ≤ (if k = 4 then (9 : Int32) else 0)) then M_defN v n c.toNatClampNeg (k + 1) 0 x y z else (-2000000001, v)
theorem M_formula_ok {v : rcM} {n i : Nat} {k x y z : Int32} (hi : i < 10) (h : (0 ≤ k ∧ k ≤ 4) ∧ (0 ≤ x ∧ x ≤ 9) ∧ (0 ≤ y ∧ y ≤ 9) ∧ (0 ≤ z ∧ z ≤ (if k = 4 then (9 : Int32) else 0))) : M_formula v n (nI i) k x y z = M_defN v n i (k + 1) 0 x y z := by
  unfold M_formula
  rw [if_pos ⟨nI_in9 hi, h⟩, nI_clamp (by omega)]
set_option maxHeartbeats 4000000 in
set_option maxRecDepth 100000 in
theorem k_define {Y : rcY} {la : Launch} {v : rcM} {c x : Int32} {n : Nat} (hn4 : n ≤ 4) (hn3 : v 0 3 = nI n) : rcT shM 13 Y la 3 (yX6_define, cX6_define, 3, (some .int)) [.ref (Y.2.1 0), .int c, .int x] (v) (rP (M_define v n c x)) := by
  refine rcT.of (by decide +kernel) (Nat.le_of_ble_eq_true rfl) (fun X F hn => ?_)
  refine j_iload_n F.1 dX6_define_0 rfl ?_
  refine j_callSi F (k_isCell) co_X6_isCell ml_X6_69 st_X6_isCell in_X6 rc_X6_isCell rfl (by decide) (by decide) rfl (Nat.le_of_ble_eq_true rfl) dX6_define_1 ?_
  refine j_if_eq F.1 14 dX6_define_4 (by decide) (fun h4 => ?_) (fun h4 => ?_)
  · rw [b2_0] at h4
    refine j_ldc F cn_X6_50 dX6_define_14 ?_
    exact j_iret F dX6_define_16 ((rPe (if_neg (fun z => by first | exact h4 z.1 | exact h11 z.2))))
  · rw [b2_0, Classical.not_not] at h4
    obtain ⟨i, hi, rfl⟩ := cell_of h4
    refine j_iload_n F.1 dX6_define_7 rfl ?_
    refine j_callSi F (k_isValue) co_X6_isValue ml_X6_73 st_X6_isValue in_X6 rc_X6_isValue rfl (by decide) (by decide) rfl (Nat.le_of_ble_eq_true rfl) dX6_define_8 ?_
    refine j_if_ne F.1 17 dX6_define_11 (by decide) (fun h11 => ?_) (fun h11 => ?_)
    · rw [b2_0, Classical.not_not] at h11
      refine j_aload_n F.1 dX6_define_17 rfl ?_
      refine j_callVv F (k_begins) co_X6_begins ml_X6_76 im_X6_begins se_X6_begins in_X6 rc_X6_begins rfl (by decide) (by decide) ⟨by decide, rfl⟩ rfl rfl (Nat.le_of_ble_eq_true rfl) dX6_define_18 ?_
      refine j_aload_n F.1 dX6_define_21 rfl ?_
      refine j_aload_n F.1 dX6_define_22 rfl ?_
      refine j_iload_n F.1 dX6_define_23 rfl ?_
      refine j_iconst F.1 (0) dX6_define_24 (by decide) ?_
      refine j_iload_n F.1 dX6_define_25 rfl ?_
      refine j_iconst F.1 (0) dX6_define_26 (by decide) ?_
      refine j_iconst F.1 (0) dX6_define_27 (by decide) ?_
      refine j_iconst F.1 (0) dX6_define_28 (by decide) ?_
      refine j_callVi F (k_defines (by assumption)) co_X6_defines ml_X6_79 im_X6_defines se_X6_defines in_X6 rc_X6_defines rfl (by decide) (by decide) ⟨by decide, rfl⟩ rfl rfl (Nat.le_of_ble_eq_true rfl) dX6_define_29 ?_
      refine j_callVi F (k_acted hn4 (by rw [rcr_n (by decide), rcr_n (by decide)]; exact hn3)) co_X6_acted ml_X6_83 im_X6_acted se_X6_acted in_X6 rc_X6_acted rfl (by decide) (by decide) ⟨by decide, rfl⟩ rfl rfl (Nat.le_of_ble_eq_true rfl) dX6_define_32 ?_
      exact j_iret F dX6_define_35 ((rPe (by rw [M_define_ok hi h11]; unfold M_defN M_beg; rw [rcr_n (a := 2) (b := 1) (by decide)])))
    · rw [b2_0] at h11
      refine j_ldc F cn_X6_50 dX6_define_14 ?_
      exact j_iret F dX6_define_16 ((rPe (if_neg (fun z => by first | exact h4 z.1 | exact h11 z.2))))
set_option maxHeartbeats 4000000 in
set_option maxRecDepth 100000 in
theorem k_formula {Y : rcY} {la : Launch} {v : rcM} {c k x y z : Int32} {n : Nat} (hn4 : n ≤ 4) (hn3 : v 0 3 = nI n) : rcT shM 13 Y la 3 (yX6_formula, cX6_formula, 6, (some .int)) [.ref (Y.2.1 0), .int c, .int k, .int x, .int y, .int z] (v) (rP (M_formula v n c k x y z)) := by
  refine rcT.of (by decide +kernel) (Nat.le_of_ble_eq_true rfl) (fun X F hn => ?_)
  refine j_iload_n F.1 dX6_formula_0 rfl ?_
  refine j_callSi F (k_isCell) co_X6_isCell ml_X6_69 st_X6_isCell in_X6 rc_X6_isCell rfl (by decide) (by decide) rfl (Nat.le_of_ble_eq_true rfl) dX6_formula_1 ?_
  refine j_if_eq F.1 51 dX6_formula_4 (by decide) (fun h4 => ?_) (fun h4 => ?_)
  · rw [b2_0] at h4
    refine j_ldc F cn_X6_50 dX6_formula_51 ?_
    exact j_iret F dX6_formula_53 ((rPe (if_neg (fun z => by first | exact h4 z.1 | exact h13 z.2.1 | exact h20 z.2.2.1 | exact h28 z.2.2.2.1 | exact h48 (by have q := z.2.2.2.2; first | rwa [if_pos h36] at q | rwa [if_neg h36] at q)))))
  · rw [b2_0, Classical.not_not] at h4
    obtain ⟨i, hi, rfl⟩ := cell_of h4
    refine j_iload_n F.1 dX6_formula_7 rfl ?_
    refine j_iconst F.1 (0) dX6_formula_8 (by decide) ?_
    refine j_iconst F.1 (4) dX6_formula_9 (by decide) ?_
    refine j_callSi F (k_in) co_X6_in ml_X6_46 st_X6_in in_X6 rc_X6_in rfl (by decide) (by decide) rfl (Nat.le_of_ble_eq_true rfl) dX6_formula_10 ?_
    refine j_if_eq F.1 51 dX6_formula_13 (by decide) (fun h13 => ?_) (fun h13 => ?_)
    · rw [b2_0] at h13
      refine j_ldc F cn_X6_50 dX6_formula_51 ?_
      exact j_iret F dX6_formula_53 ((rPe (if_neg (fun z => by first | exact h4 z.1 | exact h13 z.2.1 | exact h20 z.2.2.1 | exact h28 z.2.2.2.1 | exact h48 (by have q := z.2.2.2.2; first | rwa [if_pos h36] at q | rwa [if_neg h36] at q)))))
    · rw [b2_0, Classical.not_not] at h13
      refine j_iload_n F.1 dX6_formula_16 rfl ?_
      refine j_callSi F (k_isCell) co_X6_isCell ml_X6_69 st_X6_isCell in_X6 rc_X6_isCell rfl (by decide) (by decide) rfl (Nat.le_of_ble_eq_true rfl) dX6_formula_17 ?_
      refine j_if_eq F.1 51 dX6_formula_20 (by decide) (fun h20 => ?_) (fun h20 => ?_)
      · rw [b2_0] at h20
        refine j_ldc F cn_X6_50 dX6_formula_51 ?_
        exact j_iret F dX6_formula_53 ((rPe (if_neg (fun z => by first | exact h4 z.1 | exact h13 z.2.1 | exact h20 z.2.2.1 | exact h28 z.2.2.2.1 | exact h48 (by have q := z.2.2.2.2; first | rwa [if_pos h36] at q | rwa [if_neg h36] at q)))))
      · rw [b2_0, Classical.not_not] at h20
        refine j_iload F.1 dX6_formula_23 rfl ?_
        refine j_callSi F (k_isCell) co_X6_isCell ml_X6_69 st_X6_isCell in_X6 rc_X6_isCell rfl (by decide) (by decide) rfl (Nat.le_of_ble_eq_true rfl) dX6_formula_25 ?_
        refine j_if_eq F.1 51 dX6_formula_28 (by decide) (fun h28 => ?_) (fun h28 => ?_)
        · rw [b2_0] at h28
          refine j_ldc F cn_X6_50 dX6_formula_51 ?_
          exact j_iret F dX6_formula_53 ((rPe (if_neg (fun z => by first | exact h4 z.1 | exact h13 z.2.1 | exact h20 z.2.2.1 | exact h28 z.2.2.2.1 | exact h48 (by have q := z.2.2.2.2; first | rwa [if_pos h36] at q | rwa [if_neg h36] at q)))))
        · rw [b2_0, Classical.not_not] at h28
          refine j_iload F.1 dX6_formula_31 rfl ?_
          refine j_iconst F.1 (0) dX6_formula_33 (by decide) ?_
          refine j_iload_n F.1 dX6_formula_34 rfl ?_
          refine j_iconst F.1 (4) dX6_formula_35 (by decide) ?_
          refine j_icmp_ne F.1 44 dX6_formula_36 (by decide) (fun h36 => ?_) (fun h36 => ?_)
          · refine j_iconst F.1 (0) dX6_formula_44 (by decide) ?_
            refine j_callSi F (k_in) co_X6_in ml_X6_46 st_X6_in in_X6 rc_X6_in rfl (by decide) (by decide) rfl (Nat.le_of_ble_eq_true rfl) dX6_formula_45 ?_
            refine j_if_ne F.1 54 dX6_formula_48 (by decide) (fun h48 => ?_) (fun h48 => ?_)
            · rw [b2_0, Classical.not_not] at h48
              refine j_aload_n F.1 dX6_formula_54 rfl ?_
              refine j_callVv F (k_begins) co_X6_begins ml_X6_76 im_X6_begins se_X6_begins in_X6 rc_X6_begins rfl (by decide) (by decide) ⟨by decide, rfl⟩ rfl rfl (Nat.le_of_ble_eq_true rfl) dX6_formula_55 ?_
              refine j_aload_n F.1 dX6_formula_58 rfl ?_
              refine j_aload_n F.1 dX6_formula_59 rfl ?_
              refine j_iload_n F.1 dX6_formula_60 rfl ?_
              refine j_iload_n F.1 dX6_formula_61 rfl ?_
              refine j_iconst F.1 (1) dX6_formula_62 (by decide) ?_
              refine j_iadd F.1 dX6_formula_63 ?_
              refine j_iconst F.1 (0) dX6_formula_64 (by decide) ?_
              refine j_iload_n F.1 dX6_formula_65 rfl ?_
              refine j_iload F.1 dX6_formula_66 rfl ?_
              refine j_iload F.1 dX6_formula_68 rfl ?_
              refine j_callVi F (k_defines (by assumption)) co_X6_defines ml_X6_79 im_X6_defines se_X6_defines in_X6 rc_X6_defines rfl (by decide) (by decide) ⟨by decide, rfl⟩ rfl rfl (Nat.le_of_ble_eq_true rfl) dX6_formula_70 ?_
              refine j_callVi F (k_acted hn4 (by rw [rcr_n (by decide), rcr_n (by decide)]; exact hn3)) co_X6_acted ml_X6_83 im_X6_acted se_X6_acted in_X6 rc_X6_acted rfl (by decide) (by decide) ⟨by decide, rfl⟩ rfl rfl (Nat.le_of_ble_eq_true rfl) dX6_formula_73 ?_
              exact j_iret F dX6_formula_76 ((rPe (by rw [M_formula_ok hi ⟨h13, h20, h28, by first | rwa [if_pos h36] | rwa [if_neg h36]⟩]; unfold M_defN M_beg; rw [rcr_n (a := 2) (b := 1) (by decide)])))
            · rw [b2_0] at h48
              refine j_ldc F cn_X6_50 dX6_formula_51 ?_
              exact j_iret F dX6_formula_53 ((rPe (if_neg (fun z => by first | exact h4 z.1 | exact h13 z.2.1 | exact h20 z.2.2.1 | exact h28 z.2.2.2.1 | exact h48 (by have q := z.2.2.2.2; first | rwa [if_pos h36] at q | rwa [if_neg h36] at q)))))
          · refine j_bipush F.1 (9) dX6_formula_39 (by decide) ?_
            refine j_goto F.1 45 dX6_formula_41 (by decide) ?_
            refine j_callSi F (k_in) co_X6_in ml_X6_46 st_X6_in in_X6 rc_X6_in rfl (by decide) (by decide) rfl (Nat.le_of_ble_eq_true rfl) dX6_formula_45 ?_
            refine j_if_ne F.1 54 dX6_formula_48 (by decide) (fun h48 => ?_) (fun h48 => ?_)
            · rw [b2_0, Classical.not_not] at h48
              refine j_aload_n F.1 dX6_formula_54 rfl ?_
              refine j_callVv F (k_begins) co_X6_begins ml_X6_76 im_X6_begins se_X6_begins in_X6 rc_X6_begins rfl (by decide) (by decide) ⟨by decide, rfl⟩ rfl rfl (Nat.le_of_ble_eq_true rfl) dX6_formula_55 ?_
              refine j_aload_n F.1 dX6_formula_58 rfl ?_
              refine j_aload_n F.1 dX6_formula_59 rfl ?_
              refine j_iload_n F.1 dX6_formula_60 rfl ?_
              refine j_iload_n F.1 dX6_formula_61 rfl ?_
              refine j_iconst F.1 (1) dX6_formula_62 (by decide) ?_
              refine j_iadd F.1 dX6_formula_63 ?_
              refine j_iconst F.1 (0) dX6_formula_64 (by decide) ?_
              refine j_iload_n F.1 dX6_formula_65 rfl ?_
              refine j_iload F.1 dX6_formula_66 rfl ?_
              refine j_iload F.1 dX6_formula_68 rfl ?_
              refine j_callVi F (k_defines (by assumption)) co_X6_defines ml_X6_79 im_X6_defines se_X6_defines in_X6 rc_X6_defines rfl (by decide) (by decide) ⟨by decide, rfl⟩ rfl rfl (Nat.le_of_ble_eq_true rfl) dX6_formula_70 ?_
              refine j_callVi F (k_acted hn4 (by rw [rcr_n (by decide), rcr_n (by decide)]; exact hn3)) co_X6_acted ml_X6_83 im_X6_acted se_X6_acted in_X6 rc_X6_acted rfl (by decide) (by decide) ⟨by decide, rfl⟩ rfl rfl (Nat.le_of_ble_eq_true rfl) dX6_formula_73 ?_
              exact j_iret F dX6_formula_76 ((rPe (by rw [M_formula_ok hi ⟨h13, h20, h28, by first | rwa [if_pos h36] | rwa [if_neg h36]⟩]; unfold M_defN M_beg; rw [rcr_n (a := 2) (b := 1) (by decide)])))
            · rw [b2_0] at h48
              refine j_ldc F cn_X6_50 dX6_formula_51 ?_
              exact j_iret F dX6_formula_53 ((rPe (if_neg (fun z => by first | exact h4 z.1 | exact h13 z.2.1 | exact h20 z.2.2.1 | exact h28 z.2.2.2.1 | exact h48 (by have q := z.2.2.2.2; first | rwa [if_pos h36] at q | rwa [if_neg h36] at q)))))
/-- is there such a thing: of a cell's row, what 0 to 4 -/
def M_cellIs (f : Nat → Int32) (i : Nat) (w : Int32) : Prop := w = 0 ∨ ((w = 1 ↔ f (ix i 0) = 0) ∧ (w < 4 ∨ f (ix i 0) = 5))
def M_cellOf (v : rcM) (c w : Int32) : Int32 := if (0 ≤ c ∧ c ≤ 9) ∧ (0 ≤ w ∧ w ≤ 4) then (if w = 0 ∨ ((w = 1 ↔ v 1 (ix c.toNatClampNeg 0) = 0) ∧ (w < 4 ∨ v 1 (ix c.toNatClampNeg 0) = 5)) then v 1 (ix c.toNatClampNeg w.toNatClampNeg) else -2000000004) else -2000000001
theorem M_cellOf_t {v : rcM} {i j : Nat} (hi : i < 10) (hj : j < 5) (h : nI j = 0 ∨ ((nI j = 1 ↔ v 1 (ix i 0) = 0) ∧ (nI j < 4 ∨ v 1 (ix i 0) = 5))) : M_cellOf v (nI i) (nI j) = v 1 (ix i j) := by
  unfold M_cellOf
  rw [if_pos ⟨nI_in9 hi, nI_pos' (by omega), nI_le (a := j) (b := 4) (by omega) (by decide)⟩, nI_clamp (by omega), nI_clamp (by omega), if_pos h]
theorem M_cellOf_f {v : rcM} {i j : Nat} (hi : i < 10) (hj : j < 5) (h : ¬ (nI j = 0 ∨ ((nI j = 1 ↔ v 1 (ix i 0) = 0) ∧ (nI j < 4 ∨ v 1 (ix i 0) = 5)))) : M_cellOf v (nI i) (nI j) = -2000000004 := by
  unfold M_cellOf
  rw [if_pos ⟨nI_in9 hi, nI_pos' (by omega), nI_le (a := j) (b := 4) (by omega) (by decide)⟩, nI_clamp (by omega), if_neg h]
theorem what_of {w M : Int32} {n : Nat} (hM : M.toInt = n) (h : 0 ≤ w ∧ w ≤ M) : ∃ j : Nat, j ≤ n ∧ w = nI j := nI_of2 hM (Int32.not_lt.mpr h.1) h.2
set_option maxHeartbeats 4000000 in
set_option maxRecDepth 100000 in
theorem k_cellOf {Y : rcY} {la : Launch} {v : rcM} {c w : Int32} : rcT shM 13 Y la 2 (yX6_cellOf, cX6_cellOf, 4, (some .int)) [.ref (Y.2.1 0), .int c, .int w] (v) (rI (M_cellOf v c w) v) := by
  refine rcT.of (by decide +kernel) (Nat.le_of_ble_eq_true rfl) (fun X F hn => ?_)
  refine j_iload_n F.1 dX6_cellOf_0 rfl ?_
  refine j_callSi F (k_isCell) co_X6_isCell ml_X6_69 st_X6_isCell in_X6 rc_X6_isCell rfl (by decide) (by decide) rfl (Nat.le_of_ble_eq_true rfl) dX6_cellOf_1 ?_
  refine j_if_eq F.1 16 dX6_cellOf_4 (by decide) (fun h4 => ?_) (fun h4 => ?_)
  · rw [b2_0] at h4
    refine j_ldc F cn_X6_50 dX6_cellOf_16 ?_
    exact j_iret F dX6_cellOf_18 ((rIe (if_neg (fun z => by first | exact h4 z.1 | exact h13 z.2)).symm rfl))
  · rw [b2_0, Classical.not_not] at h4
    obtain ⟨i, hi, rfl⟩ := cell_of h4
    refine j_iload_n F.1 dX6_cellOf_7 rfl ?_
    refine j_iconst F.1 (0) dX6_cellOf_8 (by decide) ?_
    refine j_iconst F.1 (4) dX6_cellOf_9 (by decide) ?_
    refine j_callSi F (k_in) co_X6_in ml_X6_46 st_X6_in in_X6 rc_X6_in rfl (by decide) (by decide) rfl (Nat.le_of_ble_eq_true rfl) dX6_cellOf_10 ?_
    refine j_if_ne F.1 19 dX6_cellOf_13 (by decide) (fun h13 => ?_) (fun h13 => ?_)
    · rw [b2_0, Classical.not_not] at h13
      obtain ⟨j, hj, rfl⟩ := what_of (n := 4) rfl h13
      refine j_iload_n F.1 dX6_cellOf_19 rfl ?_
      refine j_if_eq F.1 65 dX6_cellOf_20 (by decide) (fun h20 => ?_) (fun h20 => ?_)
      · refine j_iconst F.1 (1) dX6_cellOf_65 (by decide) ?_
        refine j_goto F.1 70 dX6_cellOf_66 (by decide) ?_
        refine j_istore_n F.1 dX6_cellOf_70 (by rw [hn]; decide) ?_
        refine j_iload_n F.1 dX6_cellOf_71 rfl ?_
        refine j_if_eq F.1 84 dX6_cellOf_72 (by decide) (fun h72 => False.elim (by revert h72; decide)) (fun _ => ?_)
        refine j_aload_n F.1 dX6_cellOf_75 rfl ?_
        refine j_iload_n F.1 dX6_cellOf_76 rfl ?_
        refine j_iload_n F.1 dX6_cellOf_77 rfl ?_
        refine j_callVi F (k_of hi (by omega)) co_X6_of ml_X6_55 im_X6_of se_X6_of in_X6 rc_X6_of rfl (by decide) (by decide) ⟨by decide, rfl⟩ rfl rfl (Nat.le_of_ble_eq_true rfl) dX6_cellOf_78 ?_
        refine j_goto F.1 86 dX6_cellOf_81 (by decide) ?_
        exact j_iret F dX6_cellOf_86 ((rIe (by first | exact absurd h72 (by decide) | exact absurd rfl h72 | exact absurd h47 (by decide) | exact absurd rfl h47 | exact (M_cellOf_t hi (by omega) (by first | exact Or.inl h20 | exact Or.inr ⟨by simp only [h25, h39], Or.inl h52⟩ | exact Or.inr ⟨by simp only [h25, h39], Or.inr h62⟩)).symm | exact (M_cellOf_f hi (by omega) (fun z => by rcases z with z | ⟨z1, z2⟩ <;> first | exact h20 z | (rcases z2 with z2 | z2; exact h52 z2; exact h62 z2) | exact absurd z1 (by simp [h25, h39]; done))).symm) rfl))
      · refine j_iload_n F.1 dX6_cellOf_23 rfl ?_
        refine j_iconst F.1 (1) dX6_cellOf_24 (by decide) ?_
        refine j_icmp_ne F.1 32 dX6_cellOf_25 (by decide) (fun h25 => ?_) (fun h25 => ?_)
        · refine j_iconst F.1 (0) dX6_cellOf_32 (by decide) ?_
          refine j_aload_n F.1 dX6_cellOf_33 rfl ?_
          refine j_iload_n F.1 dX6_cellOf_34 rfl ?_
          refine j_iconst F.1 (0) dX6_cellOf_35 (by decide) ?_
          refine j_callVi F (k_of (by assumption) (by decide)) co_X6_of ml_X6_55 im_X6_of se_X6_of in_X6 rc_X6_of rfl (by decide) (by decide) ⟨by decide, rfl⟩ rfl rfl (Nat.le_of_ble_eq_true rfl) dX6_cellOf_36 ?_
          refine j_if_ne F.1 46 dX6_cellOf_39 (by decide) (fun h39 => ?_) (fun h39 => ?_)
          · refine j_iconst F.1 (0) dX6_cellOf_46 (by decide) ?_
            refine j_icmp_ne F.1 69 dX6_cellOf_47 (by decide) (fun h47 => False.elim (by revert h47; decide)) (fun _ => ?_)
            refine j_iload_n F.1 dX6_cellOf_50 rfl ?_
            refine j_iconst F.1 (4) dX6_cellOf_51 (by decide) ?_
            refine j_icmp_lt F.1 65 dX6_cellOf_52 (by decide) (fun h52 => ?_) (fun h52 => ?_)
            · refine j_iconst F.1 (1) dX6_cellOf_65 (by decide) ?_
              refine j_goto F.1 70 dX6_cellOf_66 (by decide) ?_
              refine j_istore_n F.1 dX6_cellOf_70 (by rw [hn]; decide) ?_
              refine j_iload_n F.1 dX6_cellOf_71 rfl ?_
              refine j_if_eq F.1 84 dX6_cellOf_72 (by decide) (fun h72 => False.elim (by revert h72; decide)) (fun _ => ?_)
              refine j_aload_n F.1 dX6_cellOf_75 rfl ?_
              refine j_iload_n F.1 dX6_cellOf_76 rfl ?_
              refine j_iload_n F.1 dX6_cellOf_77 rfl ?_
              refine j_callVi F (k_of hi (by omega)) co_X6_of ml_X6_55 im_X6_of se_X6_of in_X6 rc_X6_of rfl (by decide) (by decide) ⟨by decide, rfl⟩ rfl rfl (Nat.le_of_ble_eq_true rfl) dX6_cellOf_78 ?_
              refine j_goto F.1 86 dX6_cellOf_81 (by decide) ?_
              exact j_iret F dX6_cellOf_86 ((rIe (by first | exact absurd h72 (by decide) | exact absurd rfl h72 | exact absurd h47 (by decide) | exact absurd rfl h47 | exact (M_cellOf_t hi (by omega) (by first | exact Or.inl h20 | exact Or.inr ⟨by simp only [h25, h39], Or.inl h52⟩ | exact Or.inr ⟨by simp only [h25, h39], Or.inr h62⟩)).symm | exact (M_cellOf_f hi (by omega) (fun z => by rcases z with z | ⟨z1, z2⟩ <;> first | exact h20 z | (rcases z2 with z2 | z2; exact h52 z2; exact h62 z2) | exact absurd z1 (by simp [h25, h39]; done))).symm) rfl))
            · refine j_aload_n F.1 dX6_cellOf_55 rfl ?_
              refine j_iload_n F.1 dX6_cellOf_56 rfl ?_
              refine j_iconst F.1 (0) dX6_cellOf_57 (by decide) ?_
              refine j_callVi F (k_of (by assumption) (by decide)) co_X6_of ml_X6_55 im_X6_of se_X6_of in_X6 rc_X6_of rfl (by decide) (by decide) ⟨by decide, rfl⟩ rfl rfl (Nat.le_of_ble_eq_true rfl) dX6_cellOf_58 ?_
              refine j_iconst F.1 (5) dX6_cellOf_61 (by decide) ?_
              refine j_icmp_ne F.1 69 dX6_cellOf_62 (by decide) (fun h62 => ?_) (fun h62 => ?_)
              · refine j_iconst F.1 (0) dX6_cellOf_69 (by decide) ?_
                refine j_istore_n F.1 dX6_cellOf_70 (by rw [hn]; decide) ?_
                refine j_iload_n F.1 dX6_cellOf_71 rfl ?_
                refine j_if_eq F.1 84 dX6_cellOf_72 (by decide) (fun _ => ?_) (fun h72 => False.elim (by revert h72; decide))
                refine j_ldc F cn_X6_87 dX6_cellOf_84 ?_
                exact j_iret F dX6_cellOf_86 ((rIe (by first | exact absurd h72 (by decide) | exact absurd rfl h72 | exact absurd h47 (by decide) | exact absurd rfl h47 | exact (M_cellOf_t hi (by omega) (by first | exact Or.inl h20 | exact Or.inr ⟨by simp only [h25, h39], Or.inl h52⟩ | exact Or.inr ⟨by simp only [h25, h39], Or.inr h62⟩)).symm | exact (M_cellOf_f hi (by omega) (fun z => by rcases z with z | ⟨z1, z2⟩ <;> first | exact h20 z | (rcases z2 with z2 | z2; exact h52 z2; exact h62 z2) | exact absurd z1 (by simp [h25, h39]; done))).symm) rfl))
              · refine j_iconst F.1 (1) dX6_cellOf_65 (by decide) ?_
                refine j_goto F.1 70 dX6_cellOf_66 (by decide) ?_
                refine j_istore_n F.1 dX6_cellOf_70 (by rw [hn]; decide) ?_
                refine j_iload_n F.1 dX6_cellOf_71 rfl ?_
                refine j_if_eq F.1 84 dX6_cellOf_72 (by decide) (fun h72 => False.elim (by revert h72; decide)) (fun _ => ?_)
                refine j_aload_n F.1 dX6_cellOf_75 rfl ?_
                refine j_iload_n F.1 dX6_cellOf_76 rfl ?_
                refine j_iload_n F.1 dX6_cellOf_77 rfl ?_
                refine j_callVi F (k_of hi (by omega)) co_X6_of ml_X6_55 im_X6_of se_X6_of in_X6 rc_X6_of rfl (by decide) (by decide) ⟨by decide, rfl⟩ rfl rfl (Nat.le_of_ble_eq_true rfl) dX6_cellOf_78 ?_
                refine j_goto F.1 86 dX6_cellOf_81 (by decide) ?_
                exact j_iret F dX6_cellOf_86 ((rIe (by first | exact absurd h72 (by decide) | exact absurd rfl h72 | exact absurd h47 (by decide) | exact absurd rfl h47 | exact (M_cellOf_t hi (by omega) (by first | exact Or.inl h20 | exact Or.inr ⟨by simp only [h25, h39], Or.inl h52⟩ | exact Or.inr ⟨by simp only [h25, h39], Or.inr h62⟩)).symm | exact (M_cellOf_f hi (by omega) (fun z => by rcases z with z | ⟨z1, z2⟩ <;> first | exact h20 z | (rcases z2 with z2 | z2; exact h52 z2; exact h62 z2) | exact absurd z1 (by simp [h25, h39]; done))).symm) rfl))
          · refine j_iconst F.1 (1) dX6_cellOf_42 (by decide) ?_
            refine j_goto F.1 47 dX6_cellOf_43 (by decide) ?_
            refine j_icmp_ne F.1 69 dX6_cellOf_47 (by decide) (fun _ => ?_) (fun h47 => False.elim (by revert h47; decide))
            refine j_iconst F.1 (0) dX6_cellOf_69 (by decide) ?_
            refine j_istore_n F.1 dX6_cellOf_70 (by rw [hn]; decide) ?_
            refine j_iload_n F.1 dX6_cellOf_71 rfl ?_
            refine j_if_eq F.1 84 dX6_cellOf_72 (by decide) (fun _ => ?_) (fun h72 => False.elim (by revert h72; decide))
            refine j_ldc F cn_X6_87 dX6_cellOf_84 ?_
            exact j_iret F dX6_cellOf_86 ((rIe (by first | exact absurd h72 (by decide) | exact absurd rfl h72 | exact absurd h47 (by decide) | exact absurd rfl h47 | exact (M_cellOf_t hi (by omega) (by first | exact Or.inl h20 | exact Or.inr ⟨by simp only [h25, h39], Or.inl h52⟩ | exact Or.inr ⟨by simp only [h25, h39], Or.inr h62⟩)).symm | exact (M_cellOf_f hi (by omega) (fun z => by rcases z with z | ⟨z1, z2⟩ <;> first | exact h20 z | (rcases z2 with z2 | z2; exact h52 z2; exact h62 z2) | exact absurd z1 (by simp [h25, h39]; done))).symm) rfl))
        · refine j_iconst F.1 (1) dX6_cellOf_28 (by decide) ?_
          refine j_goto F.1 33 dX6_cellOf_29 (by decide) ?_
          refine j_aload_n F.1 dX6_cellOf_33 rfl ?_
          refine j_iload_n F.1 dX6_cellOf_34 rfl ?_
          refine j_iconst F.1 (0) dX6_cellOf_35 (by decide) ?_
          refine j_callVi F (k_of (by assumption) (by decide)) co_X6_of ml_X6_55 im_X6_of se_X6_of in_X6 rc_X6_of rfl (by decide) (by decide) ⟨by decide, rfl⟩ rfl rfl (Nat.le_of_ble_eq_true rfl) dX6_cellOf_36 ?_
          refine j_if_ne F.1 46 dX6_cellOf_39 (by decide) (fun h39 => ?_) (fun h39 => ?_)
          · refine j_iconst F.1 (0) dX6_cellOf_46 (by decide) ?_
            refine j_icmp_ne F.1 69 dX6_cellOf_47 (by decide) (fun _ => ?_) (fun h47 => False.elim (by revert h47; decide))
            refine j_iconst F.1 (0) dX6_cellOf_69 (by decide) ?_
            refine j_istore_n F.1 dX6_cellOf_70 (by rw [hn]; decide) ?_
            refine j_iload_n F.1 dX6_cellOf_71 rfl ?_
            refine j_if_eq F.1 84 dX6_cellOf_72 (by decide) (fun _ => ?_) (fun h72 => False.elim (by revert h72; decide))
            refine j_ldc F cn_X6_87 dX6_cellOf_84 ?_
            exact j_iret F dX6_cellOf_86 ((rIe (by first | exact absurd h72 (by decide) | exact absurd rfl h72 | exact absurd h47 (by decide) | exact absurd rfl h47 | exact (M_cellOf_t hi (by omega) (by first | exact Or.inl h20 | exact Or.inr ⟨by simp only [h25, h39], Or.inl h52⟩ | exact Or.inr ⟨by simp only [h25, h39], Or.inr h62⟩)).symm | exact (M_cellOf_f hi (by omega) (fun z => by rcases z with z | ⟨z1, z2⟩ <;> first | exact h20 z | (rcases z2 with z2 | z2; exact h52 z2; exact h62 z2) | exact absurd z1 (by simp [h25, h39]; done))).symm) rfl))
          · refine j_iconst F.1 (1) dX6_cellOf_42 (by decide) ?_
            refine j_goto F.1 47 dX6_cellOf_43 (by decide) ?_
            refine j_icmp_ne F.1 69 dX6_cellOf_47 (by decide) (fun h47 => False.elim (by revert h47; decide)) (fun _ => ?_)
            refine j_iload_n F.1 dX6_cellOf_50 rfl ?_
            refine j_iconst F.1 (4) dX6_cellOf_51 (by decide) ?_
            refine j_icmp_lt F.1 65 dX6_cellOf_52 (by decide) (fun h52 => ?_) (fun h52 => ?_)
            · refine j_iconst F.1 (1) dX6_cellOf_65 (by decide) ?_
              refine j_goto F.1 70 dX6_cellOf_66 (by decide) ?_
              refine j_istore_n F.1 dX6_cellOf_70 (by rw [hn]; decide) ?_
              refine j_iload_n F.1 dX6_cellOf_71 rfl ?_
              refine j_if_eq F.1 84 dX6_cellOf_72 (by decide) (fun h72 => False.elim (by revert h72; decide)) (fun _ => ?_)
              refine j_aload_n F.1 dX6_cellOf_75 rfl ?_
              refine j_iload_n F.1 dX6_cellOf_76 rfl ?_
              refine j_iload_n F.1 dX6_cellOf_77 rfl ?_
              refine j_callVi F (k_of hi (by omega)) co_X6_of ml_X6_55 im_X6_of se_X6_of in_X6 rc_X6_of rfl (by decide) (by decide) ⟨by decide, rfl⟩ rfl rfl (Nat.le_of_ble_eq_true rfl) dX6_cellOf_78 ?_
              refine j_goto F.1 86 dX6_cellOf_81 (by decide) ?_
              exact j_iret F dX6_cellOf_86 ((rIe (by first | exact absurd h72 (by decide) | exact absurd rfl h72 | exact absurd h47 (by decide) | exact absurd rfl h47 | exact (M_cellOf_t hi (by omega) (by first | exact Or.inl h20 | exact Or.inr ⟨by simp only [h25, h39], Or.inl h52⟩ | exact Or.inr ⟨by simp only [h25, h39], Or.inr h62⟩)).symm | exact (M_cellOf_f hi (by omega) (fun z => by rcases z with z | ⟨z1, z2⟩ <;> first | exact h20 z | (rcases z2 with z2 | z2; exact h52 z2; exact h62 z2) | exact absurd z1 (by simp [h25, h39]; done))).symm) rfl))
            · refine j_aload_n F.1 dX6_cellOf_55 rfl ?_
              refine j_iload_n F.1 dX6_cellOf_56 rfl ?_
              refine j_iconst F.1 (0) dX6_cellOf_57 (by decide) ?_
              refine j_callVi F (k_of (by assumption) (by decide)) co_X6_of ml_X6_55 im_X6_of se_X6_of in_X6 rc_X6_of rfl (by decide) (by decide) ⟨by decide, rfl⟩ rfl rfl (Nat.le_of_ble_eq_true rfl) dX6_cellOf_58 ?_
              refine j_iconst F.1 (5) dX6_cellOf_61 (by decide) ?_
              refine j_icmp_ne F.1 69 dX6_cellOf_62 (by decide) (fun h62 => ?_) (fun h62 => ?_)
              · refine j_iconst F.1 (0) dX6_cellOf_69 (by decide) ?_
                refine j_istore_n F.1 dX6_cellOf_70 (by rw [hn]; decide) ?_
                refine j_iload_n F.1 dX6_cellOf_71 rfl ?_
                refine j_if_eq F.1 84 dX6_cellOf_72 (by decide) (fun _ => ?_) (fun h72 => False.elim (by revert h72; decide))
                refine j_ldc F cn_X6_87 dX6_cellOf_84 ?_
                exact j_iret F dX6_cellOf_86 ((rIe (by first | exact absurd h72 (by decide) | exact absurd rfl h72 | exact absurd h47 (by decide) | exact absurd rfl h47 | exact (M_cellOf_t hi (by omega) (by first | exact Or.inl h20 | exact Or.inr ⟨by simp only [h25, h39], Or.inl h52⟩ | exact Or.inr ⟨by simp only [h25, h39], Or.inr h62⟩)).symm | exact (M_cellOf_f hi (by omega) (fun z => by rcases z with z | ⟨z1, z2⟩ <;> first | exact h20 z | (rcases z2 with z2 | z2; exact h52 z2; exact h62 z2) | exact absurd z1 (by simp [h25, h39]; done))).symm) rfl))
              · refine j_iconst F.1 (1) dX6_cellOf_65 (by decide) ?_
                refine j_goto F.1 70 dX6_cellOf_66 (by decide) ?_
                refine j_istore_n F.1 dX6_cellOf_70 (by rw [hn]; decide) ?_
                refine j_iload_n F.1 dX6_cellOf_71 rfl ?_
                refine j_if_eq F.1 84 dX6_cellOf_72 (by decide) (fun h72 => False.elim (by revert h72; decide)) (fun _ => ?_)
                refine j_aload_n F.1 dX6_cellOf_75 rfl ?_
                refine j_iload_n F.1 dX6_cellOf_76 rfl ?_
                refine j_iload_n F.1 dX6_cellOf_77 rfl ?_
                refine j_callVi F (k_of hi (by omega)) co_X6_of ml_X6_55 im_X6_of se_X6_of in_X6 rc_X6_of rfl (by decide) (by decide) ⟨by decide, rfl⟩ rfl rfl (Nat.le_of_ble_eq_true rfl) dX6_cellOf_78 ?_
                refine j_goto F.1 86 dX6_cellOf_81 (by decide) ?_
                exact j_iret F dX6_cellOf_86 ((rIe (by first | exact absurd h72 (by decide) | exact absurd rfl h72 | exact absurd h47 (by decide) | exact absurd rfl h47 | exact (M_cellOf_t hi (by omega) (by first | exact Or.inl h20 | exact Or.inr ⟨by simp only [h25, h39], Or.inl h52⟩ | exact Or.inr ⟨by simp only [h25, h39], Or.inr h62⟩)).symm | exact (M_cellOf_f hi (by omega) (fun z => by rcases z with z | ⟨z1, z2⟩ <;> first | exact h20 z | (rcases z2 with z2 | z2; exact h52 z2; exact h62 z2) | exact absurd z1 (by simp [h25, h39]; done))).symm) rfl))
    · rw [b2_0] at h13
      refine j_ldc F cn_X6_50 dX6_cellOf_16 ?_
      exact j_iret F dX6_cellOf_18 ((rIe (if_neg (fun z => by first | exact h4 z.1 | exact h13 z.2)).symm rfl))
/-- a use: numbered by the turn -/
def A_uses (f : Nat → Int32) (i : Nat) : Nat → Int32 := upd (upd f 7 (f 7 + 1)) (ix i 13) (f 7 + 1)
set_option maxHeartbeats 4000000 in
set_option maxRecDepth 100000 in
theorem k_uses {Y : rcY} {la : Launch} {v : rcM} {i : Nat} (hi : i < 10) : rcT shM 13 Y la 1 (yX6_uses, cX6_uses, 2, none) [.ref (Y.2.1 0), .int (nI i)] (v) (rV (rcr v 1 (A_uses (v 1) i))) := by
  refine rcT.of (by decide +kernel) (Nat.le_of_ble_eq_true rfl) (fun X F hn => ?_)
  refine j_aload_n F.1 dX6_uses_0 rfl ?_
  refine j_getr F (k := 0) inX6 rfl (by decide) fl_X6_7 ⟨by decide, rfl⟩ rfl dX6_uses_1 ?_
  refine j_bipush F.1 (7) dX6_uses_4 (by decide) ?_
  refine j_dup2 F.1 dX6_uses_6 rfl rfl ?_
  refine j_iald F ⟨by decide, rfl⟩ rfl (by decide) (by decide) dX6_uses_7 ?_
  refine j_iconst F.1 (1) dX6_uses_8 (by decide) ?_
  refine j_iadd F.1 dX6_uses_9 ?_
  refine j_iast F ⟨by decide, rfl⟩ rfl (by decide) (by decide) dX6_uses_10 ?_
  refine j_aload_n F.1 dX6_uses_11 rfl ?_
  refine j_iload_n F.1 dX6_uses_12 rfl ?_
  refine j_bipush F.1 (13) dX6_uses_13 (by decide) ?_
  refine j_aload_n F.1 dX6_uses_15 rfl ?_
  refine j_getr F (k := 0) inX6 rfl (by decide) fl_X6_7 ⟨by decide, rfl⟩ rfl dX6_uses_16 ?_
  refine j_bipush F.1 (7) dX6_uses_19 (by decide) ?_
  refine j_iald F ⟨by decide, rfl⟩ rfl (by decide) (by decide) dX6_uses_21 ?_
  refine j_callVv F (k_puts (by assumption) (by decide)) co_X6_puts ml_X6_63 im_X6_puts se_X6_puts in_X6 rc_X6_puts rfl (by decide) (by decide) ⟨by decide, rfl⟩ rfl rfl (Nat.le_of_ble_eq_true rfl) dX6_uses_22 ?_
  exact j_vret F dX6_uses_25 ((rVe (by rw [rcu_r, rcr_rcr, rcr_s, pk_us]; rfl)))
/-- one of the first n open ones -/
def opn (g : Nat → Int32) (c : Int32) : Nat → Bool
  | 0 => false
  | n + 1 => opn g c n || g n == c
set_option maxHeartbeats 4000000 in
set_option maxRecDepth 100000 in
theorem k_isOpen {Y : rcY} {la : Launch} {v : rcM} {c : Int32} {dp : Nat} (hd : v 0 10 = nI dp) (hdp : dp ≤ 10) : rcT shM 13 Y la 0 (yX6_isOpen, cX6_isOpen, 4, (some .boolean)) [.ref (Y.2.1 0), .int c] (v) (rI (b2 (opn (v 5) c dp = true)) v) := by
  refine rcT.of (by decide +kernel) (Nat.le_of_ble_eq_true rfl) (fun X F hn => ?_)
  have loop : ∀ r t : Nat, t ≤ dp → dp < t + r → rcJ shM 13 Y X (rI (b2 (opn (v 5) c dp = true)) v) 4 [(3, .int (nI t)), (2, .int (b2 (opn (v 5) c t = true))), (0, .ref (Y.2.1 0)), (1, .int c)] [] v := by
    intro r
    induction r with
    | zero => intro t ht hr; omega
    | succ r ih =>
      intro t ht hr
      refine j_iload_n F.1 dX6_isOpen_4 rfl ?_
      refine j_aload_n F.1 dX6_isOpen_5 rfl ?_
      refine j_geti F (k := 10) inX6 rfl (by decide) fl_X6_88 ⟨by decide, rfl⟩ rfl dX6_isOpen_6 ?_
      refine j_top hd ?_
      refine j_icmp_ge F.1 38 dX6_isOpen_9 (by decide) (fun h9 => ?_) (fun h9 => ?_)
      · have q9 : dp ≤ t := (nI_leI (a := dp) (b := t) (by omega) (by omega)).mp h9
        refine j_iload_n F.1 dX6_isOpen_38 rfl ?_
        exact j_zret F (by first | exact Or.inl rfl | exact Or.inr rfl | exact b2_01 _) dX6_isOpen_39 ((rIe (by rw [Nat.le_antisymm ht q9]) rfl))
      · have q9 : t < dp := Nat.lt_of_not_le (fun z => h9 ((nI_leI (a := dp) (b := t) (by omega) (by omega)).mpr z))
        refine j_iload_n F.1 dX6_isOpen_12 rfl ?_
        refine j_if_ne F.1 26 dX6_isOpen_13 (by decide) (fun h13 => ?_) (fun h13 => ?_)
        · refine j_iconst F.1 (1) dX6_isOpen_26 (by decide) ?_
          refine j_goto F.1 31 dX6_isOpen_27 (by decide) ?_
          refine j_top (y := b2 (opn (v 5) c (t + 1) = true)) (by first | (rw [b2_t]; clear F hn ih; simp_all [opn, b2_0]; done) | (rw [b2_f]; clear F hn ih; simp_all [opn, b2_0]; done)) ?_
          refine j_istore_n F.1 dX6_isOpen_31 (by rw [hn]; decide) ?_
          refine j_iinc F.1 (1) dX6_isOpen_32 (by decide) rfl (by rw [hn]; decide) ?_
          refine j_goto F.1 4 dX6_isOpen_35 (by decide) ?_
          refine j_loc [(3, .int (nI (t + 1))), (2, .int (b2 (opn (v 5) c (t + 1) = true))), (0, .ref (Y.2.1 0)), (1, .int c)] (by rw [← nI_1]; rfl) ?_
          exact ih (t + 1) (by omega) (by omega)
        · refine j_aload_n F.1 dX6_isOpen_16 rfl ?_
          refine j_getr F (k := 6) inX6 rfl (by decide) fl_X6_22 ⟨by decide, rfl⟩ rfl dX6_isOpen_17 ?_
          refine j_iload_n F.1 dX6_isOpen_20 rfl ?_
          refine j_iald F ⟨by decide, rfl⟩ rfl (by omega) (by decide) dX6_isOpen_21 ?_
          refine j_iload_n F.1 dX6_isOpen_22 rfl ?_
          refine j_icmp_ne F.1 30 dX6_isOpen_23 (by decide) (fun h23 => ?_) (fun h23 => ?_)
          · refine j_iconst F.1 (0) dX6_isOpen_30 (by decide) ?_
            refine j_top (y := b2 (opn (v 5) c (t + 1) = true)) (by first | (rw [b2_t]; clear F hn ih; simp_all [opn, b2_0]; done) | (rw [b2_f]; clear F hn ih; simp_all [opn, b2_0]; done)) ?_
            refine j_istore_n F.1 dX6_isOpen_31 (by rw [hn]; decide) ?_
            refine j_iinc F.1 (1) dX6_isOpen_32 (by decide) rfl (by rw [hn]; decide) ?_
            refine j_goto F.1 4 dX6_isOpen_35 (by decide) ?_
            refine j_loc [(3, .int (nI (t + 1))), (2, .int (b2 (opn (v 5) c (t + 1) = true))), (0, .ref (Y.2.1 0)), (1, .int c)] (by rw [← nI_1]; rfl) ?_
            exact ih (t + 1) (by omega) (by omega)
          · refine j_iconst F.1 (1) dX6_isOpen_26 (by decide) ?_
            refine j_goto F.1 31 dX6_isOpen_27 (by decide) ?_
            refine j_top (y := b2 (opn (v 5) c (t + 1) = true)) (by first | (rw [b2_t]; clear F hn ih; simp_all [opn, b2_0]; done) | (rw [b2_f]; clear F hn ih; simp_all [opn, b2_0]; done)) ?_
            refine j_istore_n F.1 dX6_isOpen_31 (by rw [hn]; decide) ?_
            refine j_iinc F.1 (1) dX6_isOpen_32 (by decide) rfl (by rw [hn]; decide) ?_
            refine j_goto F.1 4 dX6_isOpen_35 (by decide) ?_
            refine j_loc [(3, .int (nI (t + 1))), (2, .int (b2 (opn (v 5) c (t + 1) = true))), (0, .ref (Y.2.1 0)), (1, .int c)] (by rw [← nI_1]; rfl) ?_
            exact ih (t + 1) (by omega) (by omega)
  refine j_iconst F.1 (0) dX6_isOpen_0 (by decide) ?_
  refine j_istore_n F.1 dX6_isOpen_1 (by rw [hn]; decide) ?_
  refine j_iconst F.1 (0) dX6_isOpen_2 (by decide) ?_
  refine j_istore_n F.1 dX6_isOpen_3 (by rw [hn]; decide) ?_
  refine j_loc [(3, .int (nI 0)), (2, .int (b2 (opn (v 5) c 0 = true))), (0, .ref (Y.2.1 0)), (1, .int c)] rfl ?_
  exact loop (dp + 1) 0 (by omega) (by omega)
end
section
/-! The reference: the steps of a look. -/
def A_chg (f : Nat → Int32) (i : Nat) : Int32 := if f (ix i 0) = 0 then f (ix i 5) else f (ix i 8)
def A_ans (f : Nat → Int32) (i : Nat) : Int32 := if f (ix i 0) = 0 then f (ix i 1) else f (ix i 7)
def bnd (x : Int64) : Int32 := if x < -1000000000 ∨ 1000000000 < x then 2000000000 else x.toInt32
def A_made (a x y : Int32) : Int32 := if x = 2000000000 ∨ y = 2000000000 then 2000000000 else if a = 1 then bnd (x.toInt64 + y.toInt64) else if a = 2 then bnd (x.toInt64 - y.toInt64) else if a = 3 then bnd (x.toInt64 * y.toInt64) else if a = 4 then (if y < x then x else y) else y
def A_take (f : Nat → Int32) (i : Nat) : Nat → Int32 := A_uses (upd f 3 (f 3 + 1)) i
def A_keep (f : Nat → Int32) (i : Nat) : Nat → Int32 := A_uses (upd (upd f (ix i 9) (f 0)) 2 (upd f (ix i 9) (f 0) 2 + 1)) i
/-- what a worked-out cell is laid down with: ds is 1 if its answer is the same as before, ch the revision of its change -/
def A_end1 (f : Nat → Int32) (i : Nat) (ds ch its many o2 : Int32) : Nat → Int32 :=
  let f2 := upd (upd f 6 (f 6 + ds)) (ix i 8) ch
  let f4 := upd (upd f2 (ix i 6) 1) (ix i 7) its
  let f5 := upd f4 (ix i 9) (f4 0)
  let f6 := upd f5 (ix i 10) many
  let f8 := upd (upd f6 (ix i 11) (f6 (ix i 2))) (ix i 12) o2
  A_uses (upd f8 1 (f8 1 + 1)) i
def A_end (f : Nat → Int32) (i : Nat) (its many o2 : Int32) : Nat → Int32 :=
  if f (ix i 6) = 1 ∧ f (ix i 7) = its then A_end1 f i 1 (f (ix i 8)) its many o2 else A_end1 f i 0 (f 0) its many o2
def M_end (v : rcM) (i dp : Nat) (its many o2 : Int32) : rcM := rcu (rcr v 1 (A_end (v 1) i its many o2)) 0 10 (nI dp)
def M_push (v : rcM) (i dp : Nat) : rcM := rcu (rcu (rcu (rcu v 5 dp (nI i)) 6 dp (if v 1 (ix i 6) = 1 then 0 else 1)) 7 dp 0) 0 10 (nI (dp + 1))
def M_enters (v : rcM) (i dp : Nat) : rcM := if v 1 (ix i 0) = 0 then v else if v 1 (ix i 6) = 1 ∧ v 1 (ix i 9) = v 1 0 then rcr v 1 (A_take (v 1) i) else if opn (v 5) (nI i) dp = true then rcu v 0 11 1 else M_push v i dp
/-- a cell that is to be begun finds room -/
def mayPush (v : rcM) (i dp : Nat) : Prop := ¬ v 1 (ix i 0) = 0 → ¬ (v 1 (ix i 6) = 1 ∧ v 1 (ix i 9) = v 1 0) → ¬ opn (v 5) (nI i) dp = true → dp < 10
set_option maxHeartbeats 4000000 in
set_option maxRecDepth 100000 in
theorem k_changedAt {Y : rcY} {la : Launch} {v : rcM} {i : Nat} (hi : i < 10) : rcT shM 13 Y la 1 (yX6_changedAt, cX6_changedAt, 2, (some .int)) [.ref (Y.2.1 0), .int (nI i)] (v) (rI (A_chg (v 1) i) v) := by
  refine rcT.of (by decide +kernel) (Nat.le_of_ble_eq_true rfl) (fun X F hn => ?_)
  refine j_aload_n F.1 dX6_changedAt_0 rfl ?_
  refine j_iload_n F.1 dX6_changedAt_1 rfl ?_
  refine j_iconst F.1 (0) dX6_changedAt_2 (by decide) ?_
  refine j_callVi F (k_of (by assumption) (by decide)) co_X6_of ml_X6_55 im_X6_of se_X6_of in_X6 rc_X6_of rfl (by decide) (by decide) ⟨by decide, rfl⟩ rfl rfl (Nat.le_of_ble_eq_true rfl) dX6_changedAt_3 ?_
  refine j_if_ne F.1 18 dX6_changedAt_6 (by decide) (fun h6 => ?_) (fun h6 => ?_)
  · refine j_aload_n F.1 dX6_changedAt_18 rfl ?_
    refine j_iload_n F.1 dX6_changedAt_19 rfl ?_
    refine j_bipush F.1 (8) dX6_changedAt_20 (by decide) ?_
    refine j_callVi F (k_of (by assumption) (by decide)) co_X6_of ml_X6_55 im_X6_of se_X6_of in_X6 rc_X6_of rfl (by decide) (by decide) ⟨by decide, rfl⟩ rfl rfl (Nat.le_of_ble_eq_true rfl) dX6_changedAt_22 ?_
    exact j_iret F dX6_changedAt_25 ((rIe (by unfold A_chg; first | rw [if_pos h6] | rw [if_neg h6]) rfl))
  · refine j_aload_n F.1 dX6_changedAt_9 rfl ?_
    refine j_iload_n F.1 dX6_changedAt_10 rfl ?_
    refine j_iconst F.1 (5) dX6_changedAt_11 (by decide) ?_
    refine j_callVi F (k_of (by assumption) (by decide)) co_X6_of ml_X6_55 im_X6_of se_X6_of in_X6 rc_X6_of rfl (by decide) (by decide) ⟨by decide, rfl⟩ rfl rfl (Nat.le_of_ble_eq_true rfl) dX6_changedAt_12 ?_
    refine j_goto F.1 25 dX6_changedAt_15 (by decide) ?_
    exact j_iret F dX6_changedAt_25 ((rIe (by unfold A_chg; first | rw [if_pos h6] | rw [if_neg h6]) rfl))
set_option maxHeartbeats 4000000 in
set_option maxRecDepth 100000 in
theorem k_answerOf {Y : rcY} {la : Launch} {v : rcM} {i : Nat} (hi : i < 10) : rcT shM 13 Y la 1 (yX6_answerOf, cX6_answerOf, 2, (some .int)) [.ref (Y.2.1 0), .int (nI i)] (v) (rI (A_ans (v 1) i) v) := by
  refine rcT.of (by decide +kernel) (Nat.le_of_ble_eq_true rfl) (fun X F hn => ?_)
  refine j_aload_n F.1 dX6_answerOf_0 rfl ?_
  refine j_iload_n F.1 dX6_answerOf_1 rfl ?_
  refine j_iconst F.1 (0) dX6_answerOf_2 (by decide) ?_
  refine j_callVi F (k_of (by assumption) (by decide)) co_X6_of ml_X6_55 im_X6_of se_X6_of in_X6 rc_X6_of rfl (by decide) (by decide) ⟨by decide, rfl⟩ rfl rfl (Nat.le_of_ble_eq_true rfl) dX6_answerOf_3 ?_
  refine j_if_ne F.1 18 dX6_answerOf_6 (by decide) (fun h6 => ?_) (fun h6 => ?_)
  · refine j_aload_n F.1 dX6_answerOf_18 rfl ?_
    refine j_iload_n F.1 dX6_answerOf_19 rfl ?_
    refine j_bipush F.1 (7) dX6_answerOf_20 (by decide) ?_
    refine j_callVi F (k_of (by assumption) (by decide)) co_X6_of ml_X6_55 im_X6_of se_X6_of in_X6 rc_X6_of rfl (by decide) (by decide) ⟨by decide, rfl⟩ rfl rfl (Nat.le_of_ble_eq_true rfl) dX6_answerOf_22 ?_
    exact j_iret F dX6_answerOf_25 ((rIe (by unfold A_ans; first | rw [if_pos h6] | rw [if_neg h6]) rfl))
  · refine j_aload_n F.1 dX6_answerOf_9 rfl ?_
    refine j_iload_n F.1 dX6_answerOf_10 rfl ?_
    refine j_iconst F.1 (1) dX6_answerOf_11 (by decide) ?_
    refine j_callVi F (k_of (by assumption) (by decide)) co_X6_of ml_X6_55 im_X6_of se_X6_of in_X6 rc_X6_of rfl (by decide) (by decide) ⟨by decide, rfl⟩ rfl rfl (Nat.le_of_ble_eq_true rfl) dX6_answerOf_12 ?_
    refine j_goto F.1 25 dX6_answerOf_15 (by decide) ?_
    exact j_iret F dX6_answerOf_25 ((rIe (by unfold A_ans; first | rw [if_pos h6] | rw [if_neg h6]) rfl))
set_option maxHeartbeats 4000000 in
set_option maxRecDepth 100000 in
theorem k_bounded {Y : rcY} {la : Launch} {v : rcM} {x : Int64} : rcT shM 13 Y la 0 (yX6_bounded, cX6_bounded, 2, (some .int)) [.long x] (v) (rI (bnd x) v) := by
  refine rcT.of (by decide +kernel) (Nat.le_of_ble_eq_true rfl) (fun X F hn => ?_)
  refine j_lload_n F.1 dX6_bounded_0 rfl ?_
  refine j_ldc2 F cl_X6_102 dX6_bounded_1 ?_
  refine j_lcmp F.1 dX6_bounded_4 ?_
  refine j_if_lt F.1 16 dX6_bounded_5 (by decide) (fun h5 => ?_) (fun h5 => ?_)
  · rw [lg_cmp_lt] at h5
    refine j_ldc F cn_X6_106 dX6_bounded_16 ?_
    refine j_goto F.1 23 dX6_bounded_18 (by decide) ?_
    exact j_iret F dX6_bounded_23 ((rIe (by unfold bnd; first | rw [if_pos (Or.inl h5)] | rw [if_pos (Or.inr (Int64.not_le.mp h13))] | rw [if_neg (fun z => z.elim h5 (Int64.not_lt.mpr h13))]) rfl))
  · rw [lg_cmp_lt] at h5
    refine j_lload_n F.1 dX6_bounded_8 rfl ?_
    refine j_ldc2 F cl_X6_104 dX6_bounded_9 ?_
    refine j_lcmp F.1 dX6_bounded_12 ?_
    refine j_if_le F.1 21 dX6_bounded_13 (by decide) (fun h13 => ?_) (fun h13 => ?_)
    · rw [lg_cmp_le] at h13
      refine j_lload_n F.1 dX6_bounded_21 rfl ?_
      refine j_l2i F.1 dX6_bounded_22 ?_
      exact j_iret F dX6_bounded_23 ((rIe (by unfold bnd; first | rw [if_pos (Or.inl h5)] | rw [if_pos (Or.inr (Int64.not_le.mp h13))] | rw [if_neg (fun z => z.elim h5 (Int64.not_lt.mpr h13))]) rfl))
    · rw [lg_cmp_le] at h13
      refine j_ldc F cn_X6_106 dX6_bounded_16 ?_
      refine j_goto F.1 23 dX6_bounded_18 (by decide) ?_
      exact j_iret F dX6_bounded_23 ((rIe (by unfold bnd; first | rw [if_pos (Or.inl h5)] | rw [if_pos (Or.inr (Int64.not_le.mp h13))] | rw [if_neg (fun z => z.elim h5 (Int64.not_lt.mpr h13))]) rfl))
set_option maxHeartbeats 4000000 in
set_option maxRecDepth 100000 in
theorem k_made {Y : rcY} {la : Launch} {v : rcM} {a x y : Int32} : rcT shM 13 Y la 1 (yX6_made, cX6_made, 3, (some .int)) [.int a, .int x, .int y] (v) (rI (A_made a x y) v) := by
  refine rcT.of (by decide +kernel) (Nat.le_of_ble_eq_true rfl) (fun X F hn => ?_)
  refine j_iload_n F.1 dX6_made_0 rfl ?_
  refine j_ldc F cn_X6_106 dX6_made_1 ?_
  refine j_icmp_eq F.1 12 dX6_made_3 (by decide) (fun h3 => ?_) (fun h3 => ?_)
  · refine j_ldc F cn_X6_106 dX6_made_12 ?_
    exact j_iret F dX6_made_14 ((rIe (by unfold A_made; rw [if_pos (by first | exact Or.inl h3 | exact Or.inr h9)]) rfl))
  · refine j_iload_n F.1 dX6_made_6 rfl ?_
    refine j_ldc F cn_X6_106 dX6_made_7 ?_
    refine j_icmp_ne F.1 15 dX6_made_9 (by decide) (fun h9 => ?_) (fun h9 => ?_)
    · refine j_iload_n F.1 dX6_made_15 rfl ?_
      by_cases h16_1 : a = 1
      · refine j_tableIn F.1 48 dX6_made_16 (by rw [h16_1]; decide) (by rw [h16_1]; decide) (by rw [h16_1]; rfl) (by decide) ?_
        refine j_iload_n F.1 dX6_made_48 rfl ?_
        refine j_i2l F.1 dX6_made_49 ?_
        refine j_iload_n F.1 dX6_made_50 rfl ?_
        refine j_i2l F.1 dX6_made_51 ?_
        refine j_ladd F.1 dX6_made_52 ?_
        refine j_callSi F (k_bounded) co_X6_bounded ml_X6_107 st_X6_bounded in_X6 rc_X6_bounded rfl (by decide) (by decide) rfl (Nat.le_of_ble_eq_true rfl) dX6_made_53 ?_
        exact j_iret F dX6_made_56 ((rIe (by unfold A_made; rw [if_neg (fun z => z.elim h3 h9), if_pos h16_1]) rfl))
      by_cases h16_2 : a = 2
      · refine j_tableIn F.1 57 dX6_made_16 (by rw [h16_2]; decide) (by rw [h16_2]; decide) (by rw [h16_2]; rfl) (by decide) ?_
        refine j_iload_n F.1 dX6_made_57 rfl ?_
        refine j_i2l F.1 dX6_made_58 ?_
        refine j_iload_n F.1 dX6_made_59 rfl ?_
        refine j_i2l F.1 dX6_made_60 ?_
        refine j_lsub F.1 dX6_made_61 ?_
        refine j_callSi F (k_bounded) co_X6_bounded ml_X6_107 st_X6_bounded in_X6 rc_X6_bounded rfl (by decide) (by decide) rfl (Nat.le_of_ble_eq_true rfl) dX6_made_62 ?_
        exact j_iret F dX6_made_65 ((rIe (by unfold A_made; rw [if_neg (fun z => z.elim h3 h9), if_neg h16_1, if_pos h16_2]) rfl))
      by_cases h16_3 : a = 3
      · refine j_tableIn F.1 66 dX6_made_16 (by rw [h16_3]; decide) (by rw [h16_3]; decide) (by rw [h16_3]; rfl) (by decide) ?_
        refine j_iload_n F.1 dX6_made_66 rfl ?_
        refine j_i2l F.1 dX6_made_67 ?_
        refine j_iload_n F.1 dX6_made_68 rfl ?_
        refine j_i2l F.1 dX6_made_69 ?_
        refine j_lmul F.1 dX6_made_70 ?_
        refine j_callSi F (k_bounded) co_X6_bounded ml_X6_107 st_X6_bounded in_X6 rc_X6_bounded rfl (by decide) (by decide) rfl (Nat.le_of_ble_eq_true rfl) dX6_made_71 ?_
        exact j_iret F dX6_made_74 ((rIe (by unfold A_made; rw [if_neg (fun z => z.elim h3 h9), if_neg h16_1, if_neg h16_2, if_pos h16_3]) rfl))
      by_cases h16_4 : a = 4
      · refine j_tableIn F.1 75 dX6_made_16 (by rw [h16_4]; decide) (by rw [h16_4]; decide) (by rw [h16_4]; rfl) (by decide) ?_
        refine j_iload_n F.1 dX6_made_75 rfl ?_
        refine j_iload_n F.1 dX6_made_76 rfl ?_
        refine j_icmp_le F.1 84 dX6_made_77 (by decide) (fun h77 => ?_) (fun h77 => ?_)
        · refine j_iload_n F.1 dX6_made_84 rfl ?_
          exact j_iret F dX6_made_85 ((rIe (by unfold A_made; rw [if_neg (fun z => z.elim h3 h9), if_neg h16_1, if_neg h16_2, if_neg h16_3, if_pos h16_4]; first | rw [if_neg (Int32.not_lt.mpr h77)] | rw [if_pos (Int32.not_le.mp h77)]) rfl))
        · refine j_iload_n F.1 dX6_made_80 rfl ?_
          refine j_goto F.1 85 dX6_made_81 (by decide) ?_
          exact j_iret F dX6_made_85 ((rIe (by unfold A_made; rw [if_neg (fun z => z.elim h3 h9), if_neg h16_1, if_neg h16_2, if_neg h16_3, if_pos h16_4]; first | rw [if_neg (Int32.not_lt.mpr h77)] | rw [if_pos (Int32.not_le.mp h77)]) rfl))
      refine j_tableOut F.1 86 dX6_made_16 (by have a0 : (a).toInt ≠ 1 := fun z => h16_1 (Int32.toInt_inj.mp (by rw [z]; rfl)); have a1 : (a).toInt ≠ 2 := fun z => h16_2 (Int32.toInt_inj.mp (by rw [z]; rfl)); have a2 : (a).toInt ≠ 3 := fun z => h16_3 (Int32.toInt_inj.mp (by rw [z]; rfl)); have a3 : (a).toInt ≠ 4 := fun z => h16_4 (Int32.toInt_inj.mp (by rw [z]; rfl)); omega) (by decide) ?_
      refine j_iload_n F.1 dX6_made_86 rfl ?_
      exact j_iret F dX6_made_87 ((rIe (by unfold A_made; rw [if_neg (fun z => z.elim h3 h9), if_neg h16_1, if_neg h16_2, if_neg h16_3, if_neg h16_4]) rfl))
    · refine j_ldc F cn_X6_106 dX6_made_12 ?_
      exact j_iret F dX6_made_14 ((rIe (by unfold A_made; rw [if_pos (by first | exact Or.inl h3 | exact Or.inr h9)]) rfl))
set_option maxHeartbeats 4000000 in
set_option maxRecDepth 100000 in
theorem k_enters {Y : rcY} {la : Launch} {v : rcM} {i dp : Nat} (hi : i < 10) (hd : v 0 10 = nI dp) (hdp : dp ≤ 10) (hp : mayPush v i dp) : rcT shM 13 Y la 2 (yX6_enters, cX6_enters, 2, none) [.ref (Y.2.1 0), .int (nI i)] (v) (rV (M_enters v i dp)) := by
  refine rcT.of (by decide +kernel) (Nat.le_of_ble_eq_true rfl) (fun X F hn => ?_)
  refine j_aload_n F.1 dX6_enters_0 rfl ?_
  refine j_iload_n F.1 dX6_enters_1 rfl ?_
  refine j_iconst F.1 (0) dX6_enters_2 (by decide) ?_
  refine j_callVi F (k_of (by assumption) (by decide)) co_X6_of ml_X6_55 im_X6_of se_X6_of in_X6 rc_X6_of rfl (by decide) (by decide) ⟨by decide, rfl⟩ rfl rfl (Nat.le_of_ble_eq_true rfl) dX6_enters_3 ?_
  refine j_if_ne F.1 10 dX6_enters_6 (by decide) (fun h6 => ?_) (fun h6 => ?_)
  · refine j_aload_n F.1 dX6_enters_10 rfl ?_
    refine j_iload_n F.1 dX6_enters_11 rfl ?_
    refine j_bipush F.1 (6) dX6_enters_12 (by decide) ?_
    refine j_callVi F (k_of (by assumption) (by decide)) co_X6_of ml_X6_55 im_X6_of se_X6_of in_X6 rc_X6_of rfl (by decide) (by decide) ⟨by decide, rfl⟩ rfl rfl (Nat.le_of_ble_eq_true rfl) dX6_enters_14 ?_
    refine j_iconst F.1 (1) dX6_enters_17 (by decide) ?_
    refine j_icmp_ne F.1 53 dX6_enters_18 (by decide) (fun h18 => ?_) (fun h18 => ?_)
    · refine j_aload_n F.1 dX6_enters_53 rfl ?_
      refine j_iload_n F.1 dX6_enters_54 rfl ?_
      refine j_callVi F (k_isOpen hd hdp) co_X6_isOpen ml_X6_95 im_X6_isOpen se_X6_isOpen in_X6 rc_X6_isOpen rfl (by decide) (by decide) ⟨by decide, rfl⟩ rfl rfl (Nat.le_of_ble_eq_true rfl) dX6_enters_55 ?_
      refine j_if_eq F.1 67 dX6_enters_58 (by decide) (fun h58 => ?_) (fun h58 => ?_)
      · rw [b2_0] at h58
        refine j_aload_n F.1 dX6_enters_67 rfl ?_
        refine j_getr F (k := 6) inX6 rfl (by decide) fl_X6_22 ⟨by decide, rfl⟩ rfl dX6_enters_68 ?_
        refine j_aload_n F.1 dX6_enters_71 rfl ?_
        refine j_geti F (k := 10) inX6 rfl (by decide) fl_X6_88 ⟨by decide, rfl⟩ rfl dX6_enters_72 ?_
        refine j_iload_n F.1 dX6_enters_75 rfl ?_
        refine j_iast F ⟨by decide, rfl⟩ hd (hp h6 (fun z => by first | exact h18 z.1 | exact h34 z.2) h58) (by decide) dX6_enters_76 ?_
        refine j_aload_n F.1 dX6_enters_77 rfl ?_
        refine j_getr F (k := 7) inX6 rfl (by decide) fl_X6_25 ⟨by decide, rfl⟩ rfl dX6_enters_78 ?_
        refine j_aload_n F.1 dX6_enters_81 rfl ?_
        refine j_geti F (k := 10) inX6 rfl (by decide) fl_X6_88 ⟨by decide, rfl⟩ rfl dX6_enters_82 ?_
        refine j_aload_n F.1 dX6_enters_85 rfl ?_
        refine j_iload_n F.1 dX6_enters_86 rfl ?_
        refine j_bipush F.1 (6) dX6_enters_87 (by decide) ?_
        refine j_callVi F (k_of (by assumption) (by decide)) co_X6_of ml_X6_55 im_X6_of se_X6_of in_X6 rc_X6_of rfl (by decide) (by decide) ⟨by decide, rfl⟩ rfl rfl (Nat.le_of_ble_eq_true rfl) dX6_enters_89 ?_
        refine j_top (y := v 1 (ix i 6)) (by rw [rcu_ne (by decide)]) ?_
        refine j_iconst F.1 (1) dX6_enters_92 (by decide) ?_
        refine j_icmp_ne F.1 100 dX6_enters_93 (by decide) (fun h93 => ?_) (fun h93 => ?_)
        · refine j_iconst F.1 (1) dX6_enters_100 (by decide) ?_
          refine j_top (y := if v 1 (ix i 6) = 1 then 0 else 1) (by first | rw [if_pos h93] | rw [if_neg h93]) ?_
          refine j_iast F ⟨by decide, rfl⟩ (by rw [rcu_ne (by decide)]; exact hd) (hp h6 (fun z => by first | exact h18 z.1 | exact h34 z.2) h58) (by decide) dX6_enters_101 ?_
          refine j_aload_n F.1 dX6_enters_102 rfl ?_
          refine j_getr F (k := 8) inX6 rfl (by decide) fl_X6_28 ⟨by decide, rfl⟩ rfl dX6_enters_103 ?_
          refine j_aload_n F.1 dX6_enters_106 rfl ?_
          refine j_geti F (k := 10) inX6 rfl (by decide) fl_X6_88 ⟨by decide, rfl⟩ rfl dX6_enters_107 ?_
          refine j_iconst F.1 (0) dX6_enters_110 (by decide) ?_
          refine j_iast F ⟨by decide, rfl⟩ (by rw [rcu_ne (by decide), rcu_ne (by decide)]; exact hd) (hp h6 (fun z => by first | exact h18 z.1 | exact h34 z.2) h58) (by decide) dX6_enters_111 ?_
          refine j_aload_n F.1 dX6_enters_112 rfl ?_
          refine j_dup F.1 dX6_enters_113 rfl ?_
          refine j_geti F (k := 10) inX6 rfl (by decide) fl_X6_88 ⟨by decide, rfl⟩ rfl dX6_enters_114 ?_
          refine j_iconst F.1 (1) dX6_enters_117 (by decide) ?_
          refine j_iadd F.1 dX6_enters_118 ?_
          refine j_top (y := nI (dp + 1)) (by rw [rcu_ne (by decide), rcu_ne (by decide), rcu_ne (by decide), hd, nI_1]) ?_
          refine j_puti F (k := 10) inX6 tyX6_ok nmX6 rfl (by decide) fl_X6_88 rfl rfl ⟨by decide, rfl⟩ rfl dX6_enters_119 ?_
          exact j_vret F dX6_enters_122 ((rVe (by unfold M_enters; rw [if_neg h6, if_neg (show ¬ (v 1 (ix i 6) = 1 ∧ v 1 (ix i 9) = v 1 0) from (fun z => by first | exact h18 z.1 | exact h34 z.2)), if_neg h58]; rfl)))
        · refine j_iconst F.1 (0) dX6_enters_96 (by decide) ?_
          refine j_goto F.1 101 dX6_enters_97 (by decide) ?_
          refine j_top (y := if v 1 (ix i 6) = 1 then 0 else 1) (by first | rw [if_pos h93] | rw [if_neg h93]) ?_
          refine j_iast F ⟨by decide, rfl⟩ (by rw [rcu_ne (by decide)]; exact hd) (hp h6 (fun z => by first | exact h18 z.1 | exact h34 z.2) h58) (by decide) dX6_enters_101 ?_
          refine j_aload_n F.1 dX6_enters_102 rfl ?_
          refine j_getr F (k := 8) inX6 rfl (by decide) fl_X6_28 ⟨by decide, rfl⟩ rfl dX6_enters_103 ?_
          refine j_aload_n F.1 dX6_enters_106 rfl ?_
          refine j_geti F (k := 10) inX6 rfl (by decide) fl_X6_88 ⟨by decide, rfl⟩ rfl dX6_enters_107 ?_
          refine j_iconst F.1 (0) dX6_enters_110 (by decide) ?_
          refine j_iast F ⟨by decide, rfl⟩ (by rw [rcu_ne (by decide), rcu_ne (by decide)]; exact hd) (hp h6 (fun z => by first | exact h18 z.1 | exact h34 z.2) h58) (by decide) dX6_enters_111 ?_
          refine j_aload_n F.1 dX6_enters_112 rfl ?_
          refine j_dup F.1 dX6_enters_113 rfl ?_
          refine j_geti F (k := 10) inX6 rfl (by decide) fl_X6_88 ⟨by decide, rfl⟩ rfl dX6_enters_114 ?_
          refine j_iconst F.1 (1) dX6_enters_117 (by decide) ?_
          refine j_iadd F.1 dX6_enters_118 ?_
          refine j_top (y := nI (dp + 1)) (by rw [rcu_ne (by decide), rcu_ne (by decide), rcu_ne (by decide), hd, nI_1]) ?_
          refine j_puti F (k := 10) inX6 tyX6_ok nmX6 rfl (by decide) fl_X6_88 rfl rfl ⟨by decide, rfl⟩ rfl dX6_enters_119 ?_
          exact j_vret F dX6_enters_122 ((rVe (by unfold M_enters; rw [if_neg h6, if_neg (show ¬ (v 1 (ix i 6) = 1 ∧ v 1 (ix i 9) = v 1 0) from (fun z => by first | exact h18 z.1 | exact h34 z.2)), if_neg h58]; rfl)))
      · rw [b2_0, Classical.not_not] at h58
        refine j_aload_n F.1 dX6_enters_61 rfl ?_
        refine j_iconst F.1 (1) dX6_enters_62 (by decide) ?_
        refine j_putz F (k := 11) inX6 tyX6_ok nmX6 rfl (by decide) fl_X6_98 rfl rfl ⟨by decide, rfl⟩ rfl (by first | exact Or.inl rfl | exact Or.inr rfl | exact rcb_01 _) dX6_enters_63 ?_
        exact j_vret F dX6_enters_66 ((rVe (by unfold M_enters; rw [if_neg h6, if_neg (show ¬ (v 1 (ix i 6) = 1 ∧ v 1 (ix i 9) = v 1 0) from (fun z => by first | exact h18 z.1 | exact h34 z.2)), if_pos h58])))
    · refine j_aload_n F.1 dX6_enters_21 rfl ?_
      refine j_iload_n F.1 dX6_enters_22 rfl ?_
      refine j_bipush F.1 (9) dX6_enters_23 (by decide) ?_
      refine j_callVi F (k_of (by assumption) (by decide)) co_X6_of ml_X6_55 im_X6_of se_X6_of in_X6 rc_X6_of rfl (by decide) (by decide) ⟨by decide, rfl⟩ rfl rfl (Nat.le_of_ble_eq_true rfl) dX6_enters_25 ?_
      refine j_aload_n F.1 dX6_enters_28 rfl ?_
      refine j_getr F (k := 0) inX6 rfl (by decide) fl_X6_7 ⟨by decide, rfl⟩ rfl dX6_enters_29 ?_
      refine j_iconst F.1 (0) dX6_enters_32 (by decide) ?_
      refine j_iald F ⟨by decide, rfl⟩ rfl (by decide) (by decide) dX6_enters_33 ?_
      refine j_icmp_ne F.1 53 dX6_enters_34 (by decide) (fun h34 => ?_) (fun h34 => ?_)
      · refine j_aload_n F.1 dX6_enters_53 rfl ?_
        refine j_iload_n F.1 dX6_enters_54 rfl ?_
        refine j_callVi F (k_isOpen hd hdp) co_X6_isOpen ml_X6_95 im_X6_isOpen se_X6_isOpen in_X6 rc_X6_isOpen rfl (by decide) (by decide) ⟨by decide, rfl⟩ rfl rfl (Nat.le_of_ble_eq_true rfl) dX6_enters_55 ?_
        refine j_if_eq F.1 67 dX6_enters_58 (by decide) (fun h58 => ?_) (fun h58 => ?_)
        · rw [b2_0] at h58
          refine j_aload_n F.1 dX6_enters_67 rfl ?_
          refine j_getr F (k := 6) inX6 rfl (by decide) fl_X6_22 ⟨by decide, rfl⟩ rfl dX6_enters_68 ?_
          refine j_aload_n F.1 dX6_enters_71 rfl ?_
          refine j_geti F (k := 10) inX6 rfl (by decide) fl_X6_88 ⟨by decide, rfl⟩ rfl dX6_enters_72 ?_
          refine j_iload_n F.1 dX6_enters_75 rfl ?_
          refine j_iast F ⟨by decide, rfl⟩ hd (hp h6 (fun z => by first | exact h18 z.1 | exact h34 z.2) h58) (by decide) dX6_enters_76 ?_
          refine j_aload_n F.1 dX6_enters_77 rfl ?_
          refine j_getr F (k := 7) inX6 rfl (by decide) fl_X6_25 ⟨by decide, rfl⟩ rfl dX6_enters_78 ?_
          refine j_aload_n F.1 dX6_enters_81 rfl ?_
          refine j_geti F (k := 10) inX6 rfl (by decide) fl_X6_88 ⟨by decide, rfl⟩ rfl dX6_enters_82 ?_
          refine j_aload_n F.1 dX6_enters_85 rfl ?_
          refine j_iload_n F.1 dX6_enters_86 rfl ?_
          refine j_bipush F.1 (6) dX6_enters_87 (by decide) ?_
          refine j_callVi F (k_of (by assumption) (by decide)) co_X6_of ml_X6_55 im_X6_of se_X6_of in_X6 rc_X6_of rfl (by decide) (by decide) ⟨by decide, rfl⟩ rfl rfl (Nat.le_of_ble_eq_true rfl) dX6_enters_89 ?_
          refine j_top (y := v 1 (ix i 6)) (by rw [rcu_ne (by decide)]) ?_
          refine j_iconst F.1 (1) dX6_enters_92 (by decide) ?_
          refine j_icmp_ne F.1 100 dX6_enters_93 (by decide) (fun h93 => ?_) (fun h93 => ?_)
          · refine j_iconst F.1 (1) dX6_enters_100 (by decide) ?_
            refine j_top (y := if v 1 (ix i 6) = 1 then 0 else 1) (by first | rw [if_pos h93] | rw [if_neg h93]) ?_
            refine j_iast F ⟨by decide, rfl⟩ (by rw [rcu_ne (by decide)]; exact hd) (hp h6 (fun z => by first | exact h18 z.1 | exact h34 z.2) h58) (by decide) dX6_enters_101 ?_
            refine j_aload_n F.1 dX6_enters_102 rfl ?_
            refine j_getr F (k := 8) inX6 rfl (by decide) fl_X6_28 ⟨by decide, rfl⟩ rfl dX6_enters_103 ?_
            refine j_aload_n F.1 dX6_enters_106 rfl ?_
            refine j_geti F (k := 10) inX6 rfl (by decide) fl_X6_88 ⟨by decide, rfl⟩ rfl dX6_enters_107 ?_
            refine j_iconst F.1 (0) dX6_enters_110 (by decide) ?_
            refine j_iast F ⟨by decide, rfl⟩ (by rw [rcu_ne (by decide), rcu_ne (by decide)]; exact hd) (hp h6 (fun z => by first | exact h18 z.1 | exact h34 z.2) h58) (by decide) dX6_enters_111 ?_
            refine j_aload_n F.1 dX6_enters_112 rfl ?_
            refine j_dup F.1 dX6_enters_113 rfl ?_
            refine j_geti F (k := 10) inX6 rfl (by decide) fl_X6_88 ⟨by decide, rfl⟩ rfl dX6_enters_114 ?_
            refine j_iconst F.1 (1) dX6_enters_117 (by decide) ?_
            refine j_iadd F.1 dX6_enters_118 ?_
            refine j_top (y := nI (dp + 1)) (by rw [rcu_ne (by decide), rcu_ne (by decide), rcu_ne (by decide), hd, nI_1]) ?_
            refine j_puti F (k := 10) inX6 tyX6_ok nmX6 rfl (by decide) fl_X6_88 rfl rfl ⟨by decide, rfl⟩ rfl dX6_enters_119 ?_
            exact j_vret F dX6_enters_122 ((rVe (by unfold M_enters; rw [if_neg h6, if_neg (show ¬ (v 1 (ix i 6) = 1 ∧ v 1 (ix i 9) = v 1 0) from (fun z => by first | exact h18 z.1 | exact h34 z.2)), if_neg h58]; rfl)))
          · refine j_iconst F.1 (0) dX6_enters_96 (by decide) ?_
            refine j_goto F.1 101 dX6_enters_97 (by decide) ?_
            refine j_top (y := if v 1 (ix i 6) = 1 then 0 else 1) (by first | rw [if_pos h93] | rw [if_neg h93]) ?_
            refine j_iast F ⟨by decide, rfl⟩ (by rw [rcu_ne (by decide)]; exact hd) (hp h6 (fun z => by first | exact h18 z.1 | exact h34 z.2) h58) (by decide) dX6_enters_101 ?_
            refine j_aload_n F.1 dX6_enters_102 rfl ?_
            refine j_getr F (k := 8) inX6 rfl (by decide) fl_X6_28 ⟨by decide, rfl⟩ rfl dX6_enters_103 ?_
            refine j_aload_n F.1 dX6_enters_106 rfl ?_
            refine j_geti F (k := 10) inX6 rfl (by decide) fl_X6_88 ⟨by decide, rfl⟩ rfl dX6_enters_107 ?_
            refine j_iconst F.1 (0) dX6_enters_110 (by decide) ?_
            refine j_iast F ⟨by decide, rfl⟩ (by rw [rcu_ne (by decide), rcu_ne (by decide)]; exact hd) (hp h6 (fun z => by first | exact h18 z.1 | exact h34 z.2) h58) (by decide) dX6_enters_111 ?_
            refine j_aload_n F.1 dX6_enters_112 rfl ?_
            refine j_dup F.1 dX6_enters_113 rfl ?_
            refine j_geti F (k := 10) inX6 rfl (by decide) fl_X6_88 ⟨by decide, rfl⟩ rfl dX6_enters_114 ?_
            refine j_iconst F.1 (1) dX6_enters_117 (by decide) ?_
            refine j_iadd F.1 dX6_enters_118 ?_
            refine j_top (y := nI (dp + 1)) (by rw [rcu_ne (by decide), rcu_ne (by decide), rcu_ne (by decide), hd, nI_1]) ?_
            refine j_puti F (k := 10) inX6 tyX6_ok nmX6 rfl (by decide) fl_X6_88 rfl rfl ⟨by decide, rfl⟩ rfl dX6_enters_119 ?_
            exact j_vret F dX6_enters_122 ((rVe (by unfold M_enters; rw [if_neg h6, if_neg (show ¬ (v 1 (ix i 6) = 1 ∧ v 1 (ix i 9) = v 1 0) from (fun z => by first | exact h18 z.1 | exact h34 z.2)), if_neg h58]; rfl)))
        · rw [b2_0, Classical.not_not] at h58
          refine j_aload_n F.1 dX6_enters_61 rfl ?_
          refine j_iconst F.1 (1) dX6_enters_62 (by decide) ?_
          refine j_putz F (k := 11) inX6 tyX6_ok nmX6 rfl (by decide) fl_X6_98 rfl rfl ⟨by decide, rfl⟩ rfl (by first | exact Or.inl rfl | exact Or.inr rfl | exact rcb_01 _) dX6_enters_63 ?_
          exact j_vret F dX6_enters_66 ((rVe (by unfold M_enters; rw [if_neg h6, if_neg (show ¬ (v 1 (ix i 6) = 1 ∧ v 1 (ix i 9) = v 1 0) from (fun z => by first | exact h18 z.1 | exact h34 z.2)), if_pos h58])))
      · refine j_aload_n F.1 dX6_enters_37 rfl ?_
        refine j_getr F (k := 0) inX6 rfl (by decide) fl_X6_7 ⟨by decide, rfl⟩ rfl dX6_enters_38 ?_
        refine j_iconst F.1 (3) dX6_enters_41 (by decide) ?_
        refine j_dup2 F.1 dX6_enters_42 rfl rfl ?_
        refine j_iald F ⟨by decide, rfl⟩ rfl (by decide) (by decide) dX6_enters_43 ?_
        refine j_iconst F.1 (1) dX6_enters_44 (by decide) ?_
        refine j_iadd F.1 dX6_enters_45 ?_
        refine j_iast F ⟨by decide, rfl⟩ rfl (by decide) (by decide) dX6_enters_46 ?_
        rw [rcu_r]
        refine j_aload_n F.1 dX6_enters_47 rfl ?_
        refine j_iload_n F.1 dX6_enters_48 rfl ?_
        refine j_callVv F (k_uses hi) co_X6_uses ml_X6_91 im_X6_uses se_X6_uses in_X6 rc_X6_uses rfl (by decide) (by decide) ⟨by decide, rfl⟩ rfl rfl (Nat.le_of_ble_eq_true rfl) dX6_enters_49 ?_
        rw [rcr_rcr, rcr_s]
        exact j_vret F dX6_enters_52 ((rVe (by unfold M_enters; rw [if_neg h6, if_pos ⟨h18, h34⟩]; rfl)))
  · exact j_vret F dX6_enters_9 ((rVe (by unfold M_enters; rw [if_pos h6])))
set_option maxHeartbeats 4000000 in
set_option maxRecDepth 100000 in
theorem k_ends1 {Y : rcY} {la : Launch} {v : rcM} {i x dp : Nat} (hi : i < 10) (hx : v 1 (ix i 2) = nI x) (hx2 : x < 10) (hd : v 0 10 = nI (dp + 1)) : rcT shM 13 Y la 2 (yX6_ends, cX6_ends, 7, none) [.ref (Y.2.1 0), .int (nI i), .int 1, .int (-1)] (v) (rV (M_end v i dp 2000000000 1 0)) := by
  refine rcT.of (by decide +kernel) (Nat.le_of_ble_eq_true rfl) (fun X F hn => ?_)
  refine j_aload_n F.1 dX6_ends_0 rfl ?_
  refine j_aload_n F.1 dX6_ends_1 rfl ?_
  refine j_iload_n F.1 dX6_ends_2 rfl ?_
  refine j_iconst F.1 (2) dX6_ends_3 (by decide) ?_
  refine j_callVi F (k_of (by assumption) (by decide)) co_X6_of ml_X6_55 im_X6_of se_X6_of in_X6 rc_X6_of rfl (by decide) (by decide) ⟨by decide, rfl⟩ rfl rfl (Nat.le_of_ble_eq_true rfl) dX6_ends_4 ?_
  refine j_top hx ?_
  refine j_callVi F (k_answerOf (by assumption)) co_X6_answerOf ml_X6_117 im_X6_answerOf se_X6_answerOf in_X6 rc_X6_answerOf rfl (by decide) (by decide) ⟨by decide, rfl⟩ rfl rfl (Nat.le_of_ble_eq_true rfl) dX6_ends_7 ?_
  refine j_istore F.1 dX6_ends_10 (by rw [hn]; decide) ?_
  refine j_iload_n F.1 dX6_ends_12 rfl ?_
  refine j_iconst F.1 (1) dX6_ends_13 (by decide) ?_
  refine j_icmp_ne F.1 22 dX6_ends_14 (by decide) (fun h14 => False.elim (by revert h14; decide)) (fun _ => ?_)
  refine j_ldc F cn_X6_106 dX6_ends_17 ?_
  refine j_goto F.1 38 dX6_ends_19 (by decide) ?_
  refine j_istore F.1 dX6_ends_38 (by rw [hn]; decide) ?_
  refine j_aload_n F.1 dX6_ends_40 rfl ?_
  refine j_iload_n F.1 dX6_ends_41 rfl ?_
  refine j_bipush F.1 (6) dX6_ends_42 (by decide) ?_
  refine j_callVi F (k_of (by assumption) (by decide)) co_X6_of ml_X6_55 im_X6_of se_X6_of in_X6 rc_X6_of rfl (by decide) (by decide) ⟨by decide, rfl⟩ rfl rfl (Nat.le_of_ble_eq_true rfl) dX6_ends_44 ?_
  refine j_iconst F.1 (1) dX6_ends_47 (by decide) ?_
  refine j_icmp_ne F.1 67 dX6_ends_48 (by decide) (fun h48 => ?_) (fun h48 => ?_)
  · have hs : ¬ (v 1 (ix i 6) = 1 ∧ v 1 (ix i 7) = 2000000000) := fun z => h48 z.1
    refine j_iconst F.1 (0) dX6_ends_67 (by decide) ?_
    refine j_istore F.1 dX6_ends_68 (by rw [hn]; decide) ?_
    refine j_aload_n F.1 dX6_ends_70 rfl ?_
    refine j_getr F (k := 0) inX6 rfl (by decide) fl_X6_7 ⟨by decide, rfl⟩ rfl dX6_ends_71 ?_
    refine j_bipush F.1 (6) dX6_ends_74 (by decide) ?_
    refine j_dup2 F.1 dX6_ends_76 rfl rfl ?_
    refine j_iald F ⟨by decide, rfl⟩ rfl (by decide) (by decide) dX6_ends_77 ?_
    refine j_iload F.1 dX6_ends_78 rfl ?_
    refine j_if_eq F.1 87 dX6_ends_80 (by decide) (fun _ => ?_) (fun h80 => False.elim (by revert h80; decide))
    refine j_iconst F.1 (0) dX6_ends_87 (by decide) ?_
    refine j_iadd F.1 dX6_ends_88 ?_
    refine j_iast F ⟨by decide, rfl⟩ rfl (by decide) (by decide) dX6_ends_89 ?_
    rw [rcu_r]
    refine j_aload_n F.1 dX6_ends_90 rfl ?_
    refine j_iload_n F.1 dX6_ends_91 rfl ?_
    refine j_bipush F.1 (8) dX6_ends_92 (by decide) ?_
    refine j_iload F.1 dX6_ends_94 rfl ?_
    refine j_if_eq F.1 109 dX6_ends_96 (by decide) (fun _ => ?_) (fun h96 => False.elim (by revert h96; decide))
    refine j_aload_n F.1 dX6_ends_109 rfl ?_
    refine j_getr F (k := 0) inX6 rfl (by decide) fl_X6_7 ⟨by decide, rfl⟩ rfl dX6_ends_110 ?_
    refine j_iconst F.1 (0) dX6_ends_113 (by decide) ?_
    refine j_iald F ⟨by decide, rfl⟩ rfl (by decide) (by decide) dX6_ends_114 ?_
    refine j_callVv F (k_puts (by assumption) (by decide)) co_X6_puts ml_X6_63 im_X6_puts se_X6_puts in_X6 rc_X6_puts rfl (by decide) (by decide) ⟨by decide, rfl⟩ rfl rfl (Nat.le_of_ble_eq_true rfl) dX6_ends_115 ?_
    rw [rcr_rcr, rcr_s]
    refine j_aload_n F.1 dX6_ends_118 rfl ?_
    refine j_iload_n F.1 dX6_ends_119 rfl ?_
    refine j_bipush F.1 (6) dX6_ends_120 (by decide) ?_
    refine j_iconst F.1 (1) dX6_ends_122 (by decide) ?_
    refine j_callVv F (k_puts (by assumption) (by decide)) co_X6_puts ml_X6_63 im_X6_puts se_X6_puts in_X6 rc_X6_puts rfl (by decide) (by decide) ⟨by decide, rfl⟩ rfl rfl (Nat.le_of_ble_eq_true rfl) dX6_ends_123 ?_
    rw [rcr_rcr, rcr_s]
    refine j_aload_n F.1 dX6_ends_126 rfl ?_
    refine j_iload_n F.1 dX6_ends_127 rfl ?_
    refine j_bipush F.1 (7) dX6_ends_128 (by decide) ?_
    refine j_iload F.1 dX6_ends_130 rfl ?_
    refine j_callVv F (k_puts (by assumption) (by decide)) co_X6_puts ml_X6_63 im_X6_puts se_X6_puts in_X6 rc_X6_puts rfl (by decide) (by decide) ⟨by decide, rfl⟩ rfl rfl (Nat.le_of_ble_eq_true rfl) dX6_ends_132 ?_
    rw [rcr_rcr, rcr_s]
    refine j_aload_n F.1 dX6_ends_135 rfl ?_
    refine j_iload_n F.1 dX6_ends_136 rfl ?_
    refine j_bipush F.1 (9) dX6_ends_137 (by decide) ?_
    refine j_aload_n F.1 dX6_ends_139 rfl ?_
    refine j_getr F (k := 0) inX6 rfl (by decide) fl_X6_7 ⟨by decide, rfl⟩ rfl dX6_ends_140 ?_
    refine j_iconst F.1 (0) dX6_ends_143 (by decide) ?_
    refine j_iald F ⟨by decide, rfl⟩ rfl (by decide) (by decide) dX6_ends_144 ?_
    refine j_callVv F (k_puts (by assumption) (by decide)) co_X6_puts ml_X6_63 im_X6_puts se_X6_puts in_X6 rc_X6_puts rfl (by decide) (by decide) ⟨by decide, rfl⟩ rfl rfl (Nat.le_of_ble_eq_true rfl) dX6_ends_145 ?_
    rw [rcr_rcr, rcr_s]
    refine j_aload_n F.1 dX6_ends_148 rfl ?_
    refine j_iload_n F.1 dX6_ends_149 rfl ?_
    refine j_bipush F.1 (10) dX6_ends_150 (by decide) ?_
    refine j_iload_n F.1 dX6_ends_152 rfl ?_
    refine j_callVv F (k_puts (by assumption) (by decide)) co_X6_puts ml_X6_63 im_X6_puts se_X6_puts in_X6 rc_X6_puts rfl (by decide) (by decide) ⟨by decide, rfl⟩ rfl rfl (Nat.le_of_ble_eq_true rfl) dX6_ends_153 ?_
    rw [rcr_rcr, rcr_s]
    refine j_aload_n F.1 dX6_ends_156 rfl ?_
    refine j_iload_n F.1 dX6_ends_157 rfl ?_
    refine j_bipush F.1 (11) dX6_ends_158 (by decide) ?_
    refine j_aload_n F.1 dX6_ends_160 rfl ?_
    refine j_iload_n F.1 dX6_ends_161 rfl ?_
    refine j_iconst F.1 (2) dX6_ends_162 (by decide) ?_
    refine j_callVi F (k_of (by assumption) (by decide)) co_X6_of ml_X6_55 im_X6_of se_X6_of in_X6 rc_X6_of rfl (by decide) (by decide) ⟨by decide, rfl⟩ rfl rfl (Nat.le_of_ble_eq_true rfl) dX6_ends_163 ?_
    refine j_callVv F (k_puts (by assumption) (by decide)) co_X6_puts ml_X6_63 im_X6_puts se_X6_puts in_X6 rc_X6_puts rfl (by decide) (by decide) ⟨by decide, rfl⟩ rfl rfl (Nat.le_of_ble_eq_true rfl) dX6_ends_166 ?_
    rw [rcr_rcr, rcr_s]
    refine j_aload_n F.1 dX6_ends_169 rfl ?_
    refine j_iload_n F.1 dX6_ends_170 rfl ?_
    refine j_bipush F.1 (12) dX6_ends_171 (by decide) ?_
    refine j_iload_n F.1 dX6_ends_173 rfl ?_
    refine j_iconst F.1 (1) dX6_ends_174 (by decide) ?_
    refine j_icmp_ne F.1 182 dX6_ends_175 (by decide) (fun h175 => False.elim (by revert h175; decide)) (fun _ => ?_)
    refine j_iconst F.1 (0) dX6_ends_178 (by decide) ?_
    refine j_goto F.1 183 dX6_ends_179 (by decide) ?_
    refine j_callVv F (k_puts (by assumption) (by decide)) co_X6_puts ml_X6_63 im_X6_puts se_X6_puts in_X6 rc_X6_puts rfl (by decide) (by decide) ⟨by decide, rfl⟩ rfl rfl (Nat.le_of_ble_eq_true rfl) dX6_ends_183 ?_
    rw [rcr_rcr, rcr_s]
    refine j_aload_n F.1 dX6_ends_186 rfl ?_
    refine j_getr F (k := 0) inX6 rfl (by decide) fl_X6_7 ⟨by decide, rfl⟩ rfl dX6_ends_187 ?_
    refine j_iconst F.1 (1) dX6_ends_190 (by decide) ?_
    refine j_dup2 F.1 dX6_ends_191 rfl rfl ?_
    refine j_iald F ⟨by decide, rfl⟩ rfl (by decide) (by decide) dX6_ends_192 ?_
    refine j_iconst F.1 (1) dX6_ends_193 (by decide) ?_
    refine j_iadd F.1 dX6_ends_194 ?_
    refine j_iast F ⟨by decide, rfl⟩ rfl (by decide) (by decide) dX6_ends_195 ?_
    refine j_aload_n F.1 dX6_ends_196 rfl ?_
    rw [rcu_r, rcr_rcr, rcr_s]
    refine j_iload_n F.1 dX6_ends_197 rfl ?_
    refine j_callVv F (k_uses hi) co_X6_uses ml_X6_91 im_X6_uses se_X6_uses in_X6 rc_X6_uses rfl (by decide) (by decide) ⟨by decide, rfl⟩ rfl rfl (Nat.le_of_ble_eq_true rfl) dX6_ends_198 ?_
    rw [rcr_rcr, rcr_s]
    refine j_aload_n F.1 dX6_ends_201 rfl ?_
    refine j_dup F.1 dX6_ends_202 rfl ?_
    refine j_geti F (k := 10) inX6 rfl (by decide) fl_X6_88 ⟨by decide, rfl⟩ rfl dX6_ends_203 ?_
    refine j_iconst F.1 (1) dX6_ends_206 (by decide) ?_
    refine j_isub F.1 dX6_ends_207 ?_
    refine j_top (y := nI dp) (by rw [rcr_n (by decide), hd, nI_pred]) ?_
    refine j_puti F (k := 10) inX6 tyX6_ok nmX6 rfl (by decide) fl_X6_88 rfl rfl ⟨by decide, rfl⟩ rfl dX6_ends_208 ?_
    exact j_vret F dX6_ends_211 ((rVe (by unfold M_end A_end; (first | rw [if_pos hs] | rw [if_neg hs]); rfl)))
  · refine j_aload_n F.1 dX6_ends_51 rfl ?_
    refine j_iload_n F.1 dX6_ends_52 rfl ?_
    refine j_bipush F.1 (7) dX6_ends_53 (by decide) ?_
    refine j_callVi F (k_of (by assumption) (by decide)) co_X6_of ml_X6_55 im_X6_of se_X6_of in_X6 rc_X6_of rfl (by decide) (by decide) ⟨by decide, rfl⟩ rfl rfl (Nat.le_of_ble_eq_true rfl) dX6_ends_55 ?_
    refine j_iload F.1 dX6_ends_58 rfl ?_
    refine j_icmp_ne F.1 67 dX6_ends_60 (by decide) (fun h60 => ?_) (fun h60 => ?_)
    · have hs : ¬ (v 1 (ix i 6) = 1 ∧ v 1 (ix i 7) = 2000000000) := fun z => h60 z.2
      refine j_iconst F.1 (0) dX6_ends_67 (by decide) ?_
      refine j_istore F.1 dX6_ends_68 (by rw [hn]; decide) ?_
      refine j_aload_n F.1 dX6_ends_70 rfl ?_
      refine j_getr F (k := 0) inX6 rfl (by decide) fl_X6_7 ⟨by decide, rfl⟩ rfl dX6_ends_71 ?_
      refine j_bipush F.1 (6) dX6_ends_74 (by decide) ?_
      refine j_dup2 F.1 dX6_ends_76 rfl rfl ?_
      refine j_iald F ⟨by decide, rfl⟩ rfl (by decide) (by decide) dX6_ends_77 ?_
      refine j_iload F.1 dX6_ends_78 rfl ?_
      refine j_if_eq F.1 87 dX6_ends_80 (by decide) (fun _ => ?_) (fun h80 => False.elim (by revert h80; decide))
      refine j_iconst F.1 (0) dX6_ends_87 (by decide) ?_
      refine j_iadd F.1 dX6_ends_88 ?_
      refine j_iast F ⟨by decide, rfl⟩ rfl (by decide) (by decide) dX6_ends_89 ?_
      rw [rcu_r]
      refine j_aload_n F.1 dX6_ends_90 rfl ?_
      refine j_iload_n F.1 dX6_ends_91 rfl ?_
      refine j_bipush F.1 (8) dX6_ends_92 (by decide) ?_
      refine j_iload F.1 dX6_ends_94 rfl ?_
      refine j_if_eq F.1 109 dX6_ends_96 (by decide) (fun _ => ?_) (fun h96 => False.elim (by revert h96; decide))
      refine j_aload_n F.1 dX6_ends_109 rfl ?_
      refine j_getr F (k := 0) inX6 rfl (by decide) fl_X6_7 ⟨by decide, rfl⟩ rfl dX6_ends_110 ?_
      refine j_iconst F.1 (0) dX6_ends_113 (by decide) ?_
      refine j_iald F ⟨by decide, rfl⟩ rfl (by decide) (by decide) dX6_ends_114 ?_
      refine j_callVv F (k_puts (by assumption) (by decide)) co_X6_puts ml_X6_63 im_X6_puts se_X6_puts in_X6 rc_X6_puts rfl (by decide) (by decide) ⟨by decide, rfl⟩ rfl rfl (Nat.le_of_ble_eq_true rfl) dX6_ends_115 ?_
      rw [rcr_rcr, rcr_s]
      refine j_aload_n F.1 dX6_ends_118 rfl ?_
      refine j_iload_n F.1 dX6_ends_119 rfl ?_
      refine j_bipush F.1 (6) dX6_ends_120 (by decide) ?_
      refine j_iconst F.1 (1) dX6_ends_122 (by decide) ?_
      refine j_callVv F (k_puts (by assumption) (by decide)) co_X6_puts ml_X6_63 im_X6_puts se_X6_puts in_X6 rc_X6_puts rfl (by decide) (by decide) ⟨by decide, rfl⟩ rfl rfl (Nat.le_of_ble_eq_true rfl) dX6_ends_123 ?_
      rw [rcr_rcr, rcr_s]
      refine j_aload_n F.1 dX6_ends_126 rfl ?_
      refine j_iload_n F.1 dX6_ends_127 rfl ?_
      refine j_bipush F.1 (7) dX6_ends_128 (by decide) ?_
      refine j_iload F.1 dX6_ends_130 rfl ?_
      refine j_callVv F (k_puts (by assumption) (by decide)) co_X6_puts ml_X6_63 im_X6_puts se_X6_puts in_X6 rc_X6_puts rfl (by decide) (by decide) ⟨by decide, rfl⟩ rfl rfl (Nat.le_of_ble_eq_true rfl) dX6_ends_132 ?_
      rw [rcr_rcr, rcr_s]
      refine j_aload_n F.1 dX6_ends_135 rfl ?_
      refine j_iload_n F.1 dX6_ends_136 rfl ?_
      refine j_bipush F.1 (9) dX6_ends_137 (by decide) ?_
      refine j_aload_n F.1 dX6_ends_139 rfl ?_
      refine j_getr F (k := 0) inX6 rfl (by decide) fl_X6_7 ⟨by decide, rfl⟩ rfl dX6_ends_140 ?_
      refine j_iconst F.1 (0) dX6_ends_143 (by decide) ?_
      refine j_iald F ⟨by decide, rfl⟩ rfl (by decide) (by decide) dX6_ends_144 ?_
      refine j_callVv F (k_puts (by assumption) (by decide)) co_X6_puts ml_X6_63 im_X6_puts se_X6_puts in_X6 rc_X6_puts rfl (by decide) (by decide) ⟨by decide, rfl⟩ rfl rfl (Nat.le_of_ble_eq_true rfl) dX6_ends_145 ?_
      rw [rcr_rcr, rcr_s]
      refine j_aload_n F.1 dX6_ends_148 rfl ?_
      refine j_iload_n F.1 dX6_ends_149 rfl ?_
      refine j_bipush F.1 (10) dX6_ends_150 (by decide) ?_
      refine j_iload_n F.1 dX6_ends_152 rfl ?_
      refine j_callVv F (k_puts (by assumption) (by decide)) co_X6_puts ml_X6_63 im_X6_puts se_X6_puts in_X6 rc_X6_puts rfl (by decide) (by decide) ⟨by decide, rfl⟩ rfl rfl (Nat.le_of_ble_eq_true rfl) dX6_ends_153 ?_
      rw [rcr_rcr, rcr_s]
      refine j_aload_n F.1 dX6_ends_156 rfl ?_
      refine j_iload_n F.1 dX6_ends_157 rfl ?_
      refine j_bipush F.1 (11) dX6_ends_158 (by decide) ?_
      refine j_aload_n F.1 dX6_ends_160 rfl ?_
      refine j_iload_n F.1 dX6_ends_161 rfl ?_
      refine j_iconst F.1 (2) dX6_ends_162 (by decide) ?_
      refine j_callVi F (k_of (by assumption) (by decide)) co_X6_of ml_X6_55 im_X6_of se_X6_of in_X6 rc_X6_of rfl (by decide) (by decide) ⟨by decide, rfl⟩ rfl rfl (Nat.le_of_ble_eq_true rfl) dX6_ends_163 ?_
      refine j_callVv F (k_puts (by assumption) (by decide)) co_X6_puts ml_X6_63 im_X6_puts se_X6_puts in_X6 rc_X6_puts rfl (by decide) (by decide) ⟨by decide, rfl⟩ rfl rfl (Nat.le_of_ble_eq_true rfl) dX6_ends_166 ?_
      rw [rcr_rcr, rcr_s]
      refine j_aload_n F.1 dX6_ends_169 rfl ?_
      refine j_iload_n F.1 dX6_ends_170 rfl ?_
      refine j_bipush F.1 (12) dX6_ends_171 (by decide) ?_
      refine j_iload_n F.1 dX6_ends_173 rfl ?_
      refine j_iconst F.1 (1) dX6_ends_174 (by decide) ?_
      refine j_icmp_ne F.1 182 dX6_ends_175 (by decide) (fun h175 => False.elim (by revert h175; decide)) (fun _ => ?_)
      refine j_iconst F.1 (0) dX6_ends_178 (by decide) ?_
      refine j_goto F.1 183 dX6_ends_179 (by decide) ?_
      refine j_callVv F (k_puts (by assumption) (by decide)) co_X6_puts ml_X6_63 im_X6_puts se_X6_puts in_X6 rc_X6_puts rfl (by decide) (by decide) ⟨by decide, rfl⟩ rfl rfl (Nat.le_of_ble_eq_true rfl) dX6_ends_183 ?_
      rw [rcr_rcr, rcr_s]
      refine j_aload_n F.1 dX6_ends_186 rfl ?_
      refine j_getr F (k := 0) inX6 rfl (by decide) fl_X6_7 ⟨by decide, rfl⟩ rfl dX6_ends_187 ?_
      refine j_iconst F.1 (1) dX6_ends_190 (by decide) ?_
      refine j_dup2 F.1 dX6_ends_191 rfl rfl ?_
      refine j_iald F ⟨by decide, rfl⟩ rfl (by decide) (by decide) dX6_ends_192 ?_
      refine j_iconst F.1 (1) dX6_ends_193 (by decide) ?_
      refine j_iadd F.1 dX6_ends_194 ?_
      refine j_iast F ⟨by decide, rfl⟩ rfl (by decide) (by decide) dX6_ends_195 ?_
      refine j_aload_n F.1 dX6_ends_196 rfl ?_
      rw [rcu_r, rcr_rcr, rcr_s]
      refine j_iload_n F.1 dX6_ends_197 rfl ?_
      refine j_callVv F (k_uses hi) co_X6_uses ml_X6_91 im_X6_uses se_X6_uses in_X6 rc_X6_uses rfl (by decide) (by decide) ⟨by decide, rfl⟩ rfl rfl (Nat.le_of_ble_eq_true rfl) dX6_ends_198 ?_
      rw [rcr_rcr, rcr_s]
      refine j_aload_n F.1 dX6_ends_201 rfl ?_
      refine j_dup F.1 dX6_ends_202 rfl ?_
      refine j_geti F (k := 10) inX6 rfl (by decide) fl_X6_88 ⟨by decide, rfl⟩ rfl dX6_ends_203 ?_
      refine j_iconst F.1 (1) dX6_ends_206 (by decide) ?_
      refine j_isub F.1 dX6_ends_207 ?_
      refine j_top (y := nI dp) (by rw [rcr_n (by decide), hd, nI_pred]) ?_
      refine j_puti F (k := 10) inX6 tyX6_ok nmX6 rfl (by decide) fl_X6_88 rfl rfl ⟨by decide, rfl⟩ rfl dX6_ends_208 ?_
      exact j_vret F dX6_ends_211 ((rVe (by unfold M_end A_end; (first | rw [if_pos hs] | rw [if_neg hs]); rfl)))
    · have hs : v 1 (ix i 6) = 1 ∧ v 1 (ix i 7) = 2000000000 := And.intro h48 h60
      refine j_iconst F.1 (1) dX6_ends_63 (by decide) ?_
      refine j_goto F.1 68 dX6_ends_64 (by decide) ?_
      refine j_istore F.1 dX6_ends_68 (by rw [hn]; decide) ?_
      refine j_aload_n F.1 dX6_ends_70 rfl ?_
      refine j_getr F (k := 0) inX6 rfl (by decide) fl_X6_7 ⟨by decide, rfl⟩ rfl dX6_ends_71 ?_
      refine j_bipush F.1 (6) dX6_ends_74 (by decide) ?_
      refine j_dup2 F.1 dX6_ends_76 rfl rfl ?_
      refine j_iald F ⟨by decide, rfl⟩ rfl (by decide) (by decide) dX6_ends_77 ?_
      refine j_iload F.1 dX6_ends_78 rfl ?_
      refine j_if_eq F.1 87 dX6_ends_80 (by decide) (fun h80 => False.elim (by revert h80; decide)) (fun _ => ?_)
      refine j_iconst F.1 (1) dX6_ends_83 (by decide) ?_
      refine j_goto F.1 88 dX6_ends_84 (by decide) ?_
      refine j_iadd F.1 dX6_ends_88 ?_
      refine j_iast F ⟨by decide, rfl⟩ rfl (by decide) (by decide) dX6_ends_89 ?_
      rw [rcu_r]
      refine j_aload_n F.1 dX6_ends_90 rfl ?_
      refine j_iload_n F.1 dX6_ends_91 rfl ?_
      refine j_bipush F.1 (8) dX6_ends_92 (by decide) ?_
      refine j_iload F.1 dX6_ends_94 rfl ?_
      refine j_if_eq F.1 109 dX6_ends_96 (by decide) (fun h96 => False.elim (by revert h96; decide)) (fun _ => ?_)
      refine j_aload_n F.1 dX6_ends_99 rfl ?_
      refine j_iload_n F.1 dX6_ends_100 rfl ?_
      refine j_bipush F.1 (8) dX6_ends_101 (by decide) ?_
      refine j_callVi F (k_of (by assumption) (by decide)) co_X6_of ml_X6_55 im_X6_of se_X6_of in_X6 rc_X6_of rfl (by decide) (by decide) ⟨by decide, rfl⟩ rfl rfl (Nat.le_of_ble_eq_true rfl) dX6_ends_103 ?_
      refine j_top (y := v 1 (ix i 8)) (by first | rw [rcr_s, pk_un (show ix i 8 ≠ 6 by unfold ix; omega)] | rw [rcu_row, pk_un (show ix i 8 ≠ 6 by unfold ix; omega)]) ?_
      refine j_goto F.1 115 dX6_ends_106 (by decide) ?_
      refine j_callVv F (k_puts (by assumption) (by decide)) co_X6_puts ml_X6_63 im_X6_puts se_X6_puts in_X6 rc_X6_puts rfl (by decide) (by decide) ⟨by decide, rfl⟩ rfl rfl (Nat.le_of_ble_eq_true rfl) dX6_ends_115 ?_
      rw [rcr_rcr, rcr_s]
      refine j_aload_n F.1 dX6_ends_118 rfl ?_
      refine j_iload_n F.1 dX6_ends_119 rfl ?_
      refine j_bipush F.1 (6) dX6_ends_120 (by decide) ?_
      refine j_iconst F.1 (1) dX6_ends_122 (by decide) ?_
      refine j_callVv F (k_puts (by assumption) (by decide)) co_X6_puts ml_X6_63 im_X6_puts se_X6_puts in_X6 rc_X6_puts rfl (by decide) (by decide) ⟨by decide, rfl⟩ rfl rfl (Nat.le_of_ble_eq_true rfl) dX6_ends_123 ?_
      rw [rcr_rcr, rcr_s]
      refine j_aload_n F.1 dX6_ends_126 rfl ?_
      refine j_iload_n F.1 dX6_ends_127 rfl ?_
      refine j_bipush F.1 (7) dX6_ends_128 (by decide) ?_
      refine j_iload F.1 dX6_ends_130 rfl ?_
      refine j_callVv F (k_puts (by assumption) (by decide)) co_X6_puts ml_X6_63 im_X6_puts se_X6_puts in_X6 rc_X6_puts rfl (by decide) (by decide) ⟨by decide, rfl⟩ rfl rfl (Nat.le_of_ble_eq_true rfl) dX6_ends_132 ?_
      rw [rcr_rcr, rcr_s]
      refine j_aload_n F.1 dX6_ends_135 rfl ?_
      refine j_iload_n F.1 dX6_ends_136 rfl ?_
      refine j_bipush F.1 (9) dX6_ends_137 (by decide) ?_
      refine j_aload_n F.1 dX6_ends_139 rfl ?_
      refine j_getr F (k := 0) inX6 rfl (by decide) fl_X6_7 ⟨by decide, rfl⟩ rfl dX6_ends_140 ?_
      refine j_iconst F.1 (0) dX6_ends_143 (by decide) ?_
      refine j_iald F ⟨by decide, rfl⟩ rfl (by decide) (by decide) dX6_ends_144 ?_
      refine j_callVv F (k_puts (by assumption) (by decide)) co_X6_puts ml_X6_63 im_X6_puts se_X6_puts in_X6 rc_X6_puts rfl (by decide) (by decide) ⟨by decide, rfl⟩ rfl rfl (Nat.le_of_ble_eq_true rfl) dX6_ends_145 ?_
      rw [rcr_rcr, rcr_s]
      refine j_aload_n F.1 dX6_ends_148 rfl ?_
      refine j_iload_n F.1 dX6_ends_149 rfl ?_
      refine j_bipush F.1 (10) dX6_ends_150 (by decide) ?_
      refine j_iload_n F.1 dX6_ends_152 rfl ?_
      refine j_callVv F (k_puts (by assumption) (by decide)) co_X6_puts ml_X6_63 im_X6_puts se_X6_puts in_X6 rc_X6_puts rfl (by decide) (by decide) ⟨by decide, rfl⟩ rfl rfl (Nat.le_of_ble_eq_true rfl) dX6_ends_153 ?_
      rw [rcr_rcr, rcr_s]
      refine j_aload_n F.1 dX6_ends_156 rfl ?_
      refine j_iload_n F.1 dX6_ends_157 rfl ?_
      refine j_bipush F.1 (11) dX6_ends_158 (by decide) ?_
      refine j_aload_n F.1 dX6_ends_160 rfl ?_
      refine j_iload_n F.1 dX6_ends_161 rfl ?_
      refine j_iconst F.1 (2) dX6_ends_162 (by decide) ?_
      refine j_callVi F (k_of (by assumption) (by decide)) co_X6_of ml_X6_55 im_X6_of se_X6_of in_X6 rc_X6_of rfl (by decide) (by decide) ⟨by decide, rfl⟩ rfl rfl (Nat.le_of_ble_eq_true rfl) dX6_ends_163 ?_
      refine j_callVv F (k_puts (by assumption) (by decide)) co_X6_puts ml_X6_63 im_X6_puts se_X6_puts in_X6 rc_X6_puts rfl (by decide) (by decide) ⟨by decide, rfl⟩ rfl rfl (Nat.le_of_ble_eq_true rfl) dX6_ends_166 ?_
      rw [rcr_rcr, rcr_s]
      refine j_aload_n F.1 dX6_ends_169 rfl ?_
      refine j_iload_n F.1 dX6_ends_170 rfl ?_
      refine j_bipush F.1 (12) dX6_ends_171 (by decide) ?_
      refine j_iload_n F.1 dX6_ends_173 rfl ?_
      refine j_iconst F.1 (1) dX6_ends_174 (by decide) ?_
      refine j_icmp_ne F.1 182 dX6_ends_175 (by decide) (fun h175 => False.elim (by revert h175; decide)) (fun _ => ?_)
      refine j_iconst F.1 (0) dX6_ends_178 (by decide) ?_
      refine j_goto F.1 183 dX6_ends_179 (by decide) ?_
      refine j_callVv F (k_puts (by assumption) (by decide)) co_X6_puts ml_X6_63 im_X6_puts se_X6_puts in_X6 rc_X6_puts rfl (by decide) (by decide) ⟨by decide, rfl⟩ rfl rfl (Nat.le_of_ble_eq_true rfl) dX6_ends_183 ?_
      rw [rcr_rcr, rcr_s]
      refine j_aload_n F.1 dX6_ends_186 rfl ?_
      refine j_getr F (k := 0) inX6 rfl (by decide) fl_X6_7 ⟨by decide, rfl⟩ rfl dX6_ends_187 ?_
      refine j_iconst F.1 (1) dX6_ends_190 (by decide) ?_
      refine j_dup2 F.1 dX6_ends_191 rfl rfl ?_
      refine j_iald F ⟨by decide, rfl⟩ rfl (by decide) (by decide) dX6_ends_192 ?_
      refine j_iconst F.1 (1) dX6_ends_193 (by decide) ?_
      refine j_iadd F.1 dX6_ends_194 ?_
      refine j_iast F ⟨by decide, rfl⟩ rfl (by decide) (by decide) dX6_ends_195 ?_
      refine j_aload_n F.1 dX6_ends_196 rfl ?_
      rw [rcu_r, rcr_rcr, rcr_s]
      refine j_iload_n F.1 dX6_ends_197 rfl ?_
      refine j_callVv F (k_uses hi) co_X6_uses ml_X6_91 im_X6_uses se_X6_uses in_X6 rc_X6_uses rfl (by decide) (by decide) ⟨by decide, rfl⟩ rfl rfl (Nat.le_of_ble_eq_true rfl) dX6_ends_198 ?_
      rw [rcr_rcr, rcr_s]
      refine j_aload_n F.1 dX6_ends_201 rfl ?_
      refine j_dup F.1 dX6_ends_202 rfl ?_
      refine j_geti F (k := 10) inX6 rfl (by decide) fl_X6_88 ⟨by decide, rfl⟩ rfl dX6_ends_203 ?_
      refine j_iconst F.1 (1) dX6_ends_206 (by decide) ?_
      refine j_isub F.1 dX6_ends_207 ?_
      refine j_top (y := nI dp) (by rw [rcr_n (by decide), hd, nI_pred]) ?_
      refine j_puti F (k := 10) inX6 tyX6_ok nmX6 rfl (by decide) fl_X6_88 rfl rfl ⟨by decide, rfl⟩ rfl dX6_ends_208 ?_
      exact j_vret F dX6_ends_211 ((rVe (by unfold M_end A_end; (first | rw [if_pos hs] | rw [if_neg hs]); rfl)))
set_option maxHeartbeats 4000000 in
set_option maxRecDepth 100000 in
theorem k_ends2 {Y : rcY} {la : Launch} {v : rcM} {i x dp : Nat} {y : Nat} (hy : y < 10) (hi : i < 10) (hx : v 1 (ix i 2) = nI x) (hx2 : x < 10) (hd : v 0 10 = nI (dp + 1)) : rcT shM 13 Y la 2 (yX6_ends, cX6_ends, 7, none) [.ref (Y.2.1 0), .int (nI i), .int 2, .int (nI y)] (v) (rV (M_end v i dp (A_made (v 1 (ix i 0)) (A_ans (v 1) x) (A_ans (v 1) y)) 2 (nI y))) := by
  refine rcT.of (by decide +kernel) (Nat.le_of_ble_eq_true rfl) (fun X F hn => ?_)
  refine j_aload_n F.1 dX6_ends_0 rfl ?_
  refine j_aload_n F.1 dX6_ends_1 rfl ?_
  refine j_iload_n F.1 dX6_ends_2 rfl ?_
  refine j_iconst F.1 (2) dX6_ends_3 (by decide) ?_
  refine j_callVi F (k_of (by assumption) (by decide)) co_X6_of ml_X6_55 im_X6_of se_X6_of in_X6 rc_X6_of rfl (by decide) (by decide) ⟨by decide, rfl⟩ rfl rfl (Nat.le_of_ble_eq_true rfl) dX6_ends_4 ?_
  refine j_top hx ?_
  refine j_callVi F (k_answerOf (by assumption)) co_X6_answerOf ml_X6_117 im_X6_answerOf se_X6_answerOf in_X6 rc_X6_answerOf rfl (by decide) (by decide) ⟨by decide, rfl⟩ rfl rfl (Nat.le_of_ble_eq_true rfl) dX6_ends_7 ?_
  refine j_istore F.1 dX6_ends_10 (by rw [hn]; decide) ?_
  refine j_iload_n F.1 dX6_ends_12 rfl ?_
  refine j_iconst F.1 (1) dX6_ends_13 (by decide) ?_
  refine j_icmp_ne F.1 22 dX6_ends_14 (by decide) (fun _ => ?_) (fun h14 => False.elim (by revert h14; decide))
  refine j_aload_n F.1 dX6_ends_22 rfl ?_
  refine j_iload_n F.1 dX6_ends_23 rfl ?_
  refine j_iconst F.1 (0) dX6_ends_24 (by decide) ?_
  refine j_callVi F (k_of (by assumption) (by decide)) co_X6_of ml_X6_55 im_X6_of se_X6_of in_X6 rc_X6_of rfl (by decide) (by decide) ⟨by decide, rfl⟩ rfl rfl (Nat.le_of_ble_eq_true rfl) dX6_ends_25 ?_
  refine j_iload F.1 dX6_ends_28 rfl ?_
  refine j_aload_n F.1 dX6_ends_30 rfl ?_
  refine j_iload_n F.1 dX6_ends_31 rfl ?_
  refine j_callVi F (k_answerOf (by assumption)) co_X6_answerOf ml_X6_117 im_X6_answerOf se_X6_answerOf in_X6 rc_X6_answerOf rfl (by decide) (by decide) ⟨by decide, rfl⟩ rfl rfl (Nat.le_of_ble_eq_true rfl) dX6_ends_32 ?_
  refine j_callSi F (k_made) co_X6_made ml_X6_120 st_X6_made in_X6 rc_X6_made rfl (by decide) (by decide) rfl (Nat.le_of_ble_eq_true rfl) dX6_ends_35 ?_
  refine j_istore F.1 dX6_ends_38 (by rw [hn]; decide) ?_
  refine j_aload_n F.1 dX6_ends_40 rfl ?_
  refine j_iload_n F.1 dX6_ends_41 rfl ?_
  refine j_bipush F.1 (6) dX6_ends_42 (by decide) ?_
  refine j_callVi F (k_of (by assumption) (by decide)) co_X6_of ml_X6_55 im_X6_of se_X6_of in_X6 rc_X6_of rfl (by decide) (by decide) ⟨by decide, rfl⟩ rfl rfl (Nat.le_of_ble_eq_true rfl) dX6_ends_44 ?_
  refine j_iconst F.1 (1) dX6_ends_47 (by decide) ?_
  refine j_icmp_ne F.1 67 dX6_ends_48 (by decide) (fun h48 => ?_) (fun h48 => ?_)
  · have hs : ¬ (v 1 (ix i 6) = 1 ∧ v 1 (ix i 7) = (A_made (v 1 (ix i 0)) (A_ans (v 1) x) (A_ans (v 1) y))) := fun z => h48 z.1
    refine j_iconst F.1 (0) dX6_ends_67 (by decide) ?_
    refine j_istore F.1 dX6_ends_68 (by rw [hn]; decide) ?_
    refine j_aload_n F.1 dX6_ends_70 rfl ?_
    refine j_getr F (k := 0) inX6 rfl (by decide) fl_X6_7 ⟨by decide, rfl⟩ rfl dX6_ends_71 ?_
    refine j_bipush F.1 (6) dX6_ends_74 (by decide) ?_
    refine j_dup2 F.1 dX6_ends_76 rfl rfl ?_
    refine j_iald F ⟨by decide, rfl⟩ rfl (by decide) (by decide) dX6_ends_77 ?_
    refine j_iload F.1 dX6_ends_78 rfl ?_
    refine j_if_eq F.1 87 dX6_ends_80 (by decide) (fun _ => ?_) (fun h80 => False.elim (by revert h80; decide))
    refine j_iconst F.1 (0) dX6_ends_87 (by decide) ?_
    refine j_iadd F.1 dX6_ends_88 ?_
    refine j_iast F ⟨by decide, rfl⟩ rfl (by decide) (by decide) dX6_ends_89 ?_
    rw [rcu_r]
    refine j_aload_n F.1 dX6_ends_90 rfl ?_
    refine j_iload_n F.1 dX6_ends_91 rfl ?_
    refine j_bipush F.1 (8) dX6_ends_92 (by decide) ?_
    refine j_iload F.1 dX6_ends_94 rfl ?_
    refine j_if_eq F.1 109 dX6_ends_96 (by decide) (fun _ => ?_) (fun h96 => False.elim (by revert h96; decide))
    refine j_aload_n F.1 dX6_ends_109 rfl ?_
    refine j_getr F (k := 0) inX6 rfl (by decide) fl_X6_7 ⟨by decide, rfl⟩ rfl dX6_ends_110 ?_
    refine j_iconst F.1 (0) dX6_ends_113 (by decide) ?_
    refine j_iald F ⟨by decide, rfl⟩ rfl (by decide) (by decide) dX6_ends_114 ?_
    refine j_callVv F (k_puts (by assumption) (by decide)) co_X6_puts ml_X6_63 im_X6_puts se_X6_puts in_X6 rc_X6_puts rfl (by decide) (by decide) ⟨by decide, rfl⟩ rfl rfl (Nat.le_of_ble_eq_true rfl) dX6_ends_115 ?_
    rw [rcr_rcr, rcr_s]
    refine j_aload_n F.1 dX6_ends_118 rfl ?_
    refine j_iload_n F.1 dX6_ends_119 rfl ?_
    refine j_bipush F.1 (6) dX6_ends_120 (by decide) ?_
    refine j_iconst F.1 (1) dX6_ends_122 (by decide) ?_
    refine j_callVv F (k_puts (by assumption) (by decide)) co_X6_puts ml_X6_63 im_X6_puts se_X6_puts in_X6 rc_X6_puts rfl (by decide) (by decide) ⟨by decide, rfl⟩ rfl rfl (Nat.le_of_ble_eq_true rfl) dX6_ends_123 ?_
    rw [rcr_rcr, rcr_s]
    refine j_aload_n F.1 dX6_ends_126 rfl ?_
    refine j_iload_n F.1 dX6_ends_127 rfl ?_
    refine j_bipush F.1 (7) dX6_ends_128 (by decide) ?_
    refine j_iload F.1 dX6_ends_130 rfl ?_
    refine j_callVv F (k_puts (by assumption) (by decide)) co_X6_puts ml_X6_63 im_X6_puts se_X6_puts in_X6 rc_X6_puts rfl (by decide) (by decide) ⟨by decide, rfl⟩ rfl rfl (Nat.le_of_ble_eq_true rfl) dX6_ends_132 ?_
    rw [rcr_rcr, rcr_s]
    refine j_aload_n F.1 dX6_ends_135 rfl ?_
    refine j_iload_n F.1 dX6_ends_136 rfl ?_
    refine j_bipush F.1 (9) dX6_ends_137 (by decide) ?_
    refine j_aload_n F.1 dX6_ends_139 rfl ?_
    refine j_getr F (k := 0) inX6 rfl (by decide) fl_X6_7 ⟨by decide, rfl⟩ rfl dX6_ends_140 ?_
    refine j_iconst F.1 (0) dX6_ends_143 (by decide) ?_
    refine j_iald F ⟨by decide, rfl⟩ rfl (by decide) (by decide) dX6_ends_144 ?_
    refine j_callVv F (k_puts (by assumption) (by decide)) co_X6_puts ml_X6_63 im_X6_puts se_X6_puts in_X6 rc_X6_puts rfl (by decide) (by decide) ⟨by decide, rfl⟩ rfl rfl (Nat.le_of_ble_eq_true rfl) dX6_ends_145 ?_
    rw [rcr_rcr, rcr_s]
    refine j_aload_n F.1 dX6_ends_148 rfl ?_
    refine j_iload_n F.1 dX6_ends_149 rfl ?_
    refine j_bipush F.1 (10) dX6_ends_150 (by decide) ?_
    refine j_iload_n F.1 dX6_ends_152 rfl ?_
    refine j_callVv F (k_puts (by assumption) (by decide)) co_X6_puts ml_X6_63 im_X6_puts se_X6_puts in_X6 rc_X6_puts rfl (by decide) (by decide) ⟨by decide, rfl⟩ rfl rfl (Nat.le_of_ble_eq_true rfl) dX6_ends_153 ?_
    rw [rcr_rcr, rcr_s]
    refine j_aload_n F.1 dX6_ends_156 rfl ?_
    refine j_iload_n F.1 dX6_ends_157 rfl ?_
    refine j_bipush F.1 (11) dX6_ends_158 (by decide) ?_
    refine j_aload_n F.1 dX6_ends_160 rfl ?_
    refine j_iload_n F.1 dX6_ends_161 rfl ?_
    refine j_iconst F.1 (2) dX6_ends_162 (by decide) ?_
    refine j_callVi F (k_of (by assumption) (by decide)) co_X6_of ml_X6_55 im_X6_of se_X6_of in_X6 rc_X6_of rfl (by decide) (by decide) ⟨by decide, rfl⟩ rfl rfl (Nat.le_of_ble_eq_true rfl) dX6_ends_163 ?_
    refine j_callVv F (k_puts (by assumption) (by decide)) co_X6_puts ml_X6_63 im_X6_puts se_X6_puts in_X6 rc_X6_puts rfl (by decide) (by decide) ⟨by decide, rfl⟩ rfl rfl (Nat.le_of_ble_eq_true rfl) dX6_ends_166 ?_
    rw [rcr_rcr, rcr_s]
    refine j_aload_n F.1 dX6_ends_169 rfl ?_
    refine j_iload_n F.1 dX6_ends_170 rfl ?_
    refine j_bipush F.1 (12) dX6_ends_171 (by decide) ?_
    refine j_iload_n F.1 dX6_ends_173 rfl ?_
    refine j_iconst F.1 (1) dX6_ends_174 (by decide) ?_
    refine j_icmp_ne F.1 182 dX6_ends_175 (by decide) (fun _ => ?_) (fun h175 => False.elim (by revert h175; decide))
    refine j_iload_n F.1 dX6_ends_182 rfl ?_
    refine j_callVv F (k_puts (by assumption) (by decide)) co_X6_puts ml_X6_63 im_X6_puts se_X6_puts in_X6 rc_X6_puts rfl (by decide) (by decide) ⟨by decide, rfl⟩ rfl rfl (Nat.le_of_ble_eq_true rfl) dX6_ends_183 ?_
    rw [rcr_rcr, rcr_s]
    refine j_aload_n F.1 dX6_ends_186 rfl ?_
    refine j_getr F (k := 0) inX6 rfl (by decide) fl_X6_7 ⟨by decide, rfl⟩ rfl dX6_ends_187 ?_
    refine j_iconst F.1 (1) dX6_ends_190 (by decide) ?_
    refine j_dup2 F.1 dX6_ends_191 rfl rfl ?_
    refine j_iald F ⟨by decide, rfl⟩ rfl (by decide) (by decide) dX6_ends_192 ?_
    refine j_iconst F.1 (1) dX6_ends_193 (by decide) ?_
    refine j_iadd F.1 dX6_ends_194 ?_
    refine j_iast F ⟨by decide, rfl⟩ rfl (by decide) (by decide) dX6_ends_195 ?_
    refine j_aload_n F.1 dX6_ends_196 rfl ?_
    rw [rcu_r, rcr_rcr, rcr_s]
    refine j_iload_n F.1 dX6_ends_197 rfl ?_
    refine j_callVv F (k_uses hi) co_X6_uses ml_X6_91 im_X6_uses se_X6_uses in_X6 rc_X6_uses rfl (by decide) (by decide) ⟨by decide, rfl⟩ rfl rfl (Nat.le_of_ble_eq_true rfl) dX6_ends_198 ?_
    rw [rcr_rcr, rcr_s]
    refine j_aload_n F.1 dX6_ends_201 rfl ?_
    refine j_dup F.1 dX6_ends_202 rfl ?_
    refine j_geti F (k := 10) inX6 rfl (by decide) fl_X6_88 ⟨by decide, rfl⟩ rfl dX6_ends_203 ?_
    refine j_iconst F.1 (1) dX6_ends_206 (by decide) ?_
    refine j_isub F.1 dX6_ends_207 ?_
    refine j_top (y := nI dp) (by rw [rcr_n (by decide), hd, nI_pred]) ?_
    refine j_puti F (k := 10) inX6 tyX6_ok nmX6 rfl (by decide) fl_X6_88 rfl rfl ⟨by decide, rfl⟩ rfl dX6_ends_208 ?_
    exact j_vret F dX6_ends_211 ((rVe (by unfold M_end A_end; (first | rw [if_pos hs] | rw [if_neg hs]); rfl)))
  · refine j_aload_n F.1 dX6_ends_51 rfl ?_
    refine j_iload_n F.1 dX6_ends_52 rfl ?_
    refine j_bipush F.1 (7) dX6_ends_53 (by decide) ?_
    refine j_callVi F (k_of (by assumption) (by decide)) co_X6_of ml_X6_55 im_X6_of se_X6_of in_X6 rc_X6_of rfl (by decide) (by decide) ⟨by decide, rfl⟩ rfl rfl (Nat.le_of_ble_eq_true rfl) dX6_ends_55 ?_
    refine j_iload F.1 dX6_ends_58 rfl ?_
    refine j_icmp_ne F.1 67 dX6_ends_60 (by decide) (fun h60 => ?_) (fun h60 => ?_)
    · have hs : ¬ (v 1 (ix i 6) = 1 ∧ v 1 (ix i 7) = (A_made (v 1 (ix i 0)) (A_ans (v 1) x) (A_ans (v 1) y))) := fun z => h60 z.2
      refine j_iconst F.1 (0) dX6_ends_67 (by decide) ?_
      refine j_istore F.1 dX6_ends_68 (by rw [hn]; decide) ?_
      refine j_aload_n F.1 dX6_ends_70 rfl ?_
      refine j_getr F (k := 0) inX6 rfl (by decide) fl_X6_7 ⟨by decide, rfl⟩ rfl dX6_ends_71 ?_
      refine j_bipush F.1 (6) dX6_ends_74 (by decide) ?_
      refine j_dup2 F.1 dX6_ends_76 rfl rfl ?_
      refine j_iald F ⟨by decide, rfl⟩ rfl (by decide) (by decide) dX6_ends_77 ?_
      refine j_iload F.1 dX6_ends_78 rfl ?_
      refine j_if_eq F.1 87 dX6_ends_80 (by decide) (fun _ => ?_) (fun h80 => False.elim (by revert h80; decide))
      refine j_iconst F.1 (0) dX6_ends_87 (by decide) ?_
      refine j_iadd F.1 dX6_ends_88 ?_
      refine j_iast F ⟨by decide, rfl⟩ rfl (by decide) (by decide) dX6_ends_89 ?_
      rw [rcu_r]
      refine j_aload_n F.1 dX6_ends_90 rfl ?_
      refine j_iload_n F.1 dX6_ends_91 rfl ?_
      refine j_bipush F.1 (8) dX6_ends_92 (by decide) ?_
      refine j_iload F.1 dX6_ends_94 rfl ?_
      refine j_if_eq F.1 109 dX6_ends_96 (by decide) (fun _ => ?_) (fun h96 => False.elim (by revert h96; decide))
      refine j_aload_n F.1 dX6_ends_109 rfl ?_
      refine j_getr F (k := 0) inX6 rfl (by decide) fl_X6_7 ⟨by decide, rfl⟩ rfl dX6_ends_110 ?_
      refine j_iconst F.1 (0) dX6_ends_113 (by decide) ?_
      refine j_iald F ⟨by decide, rfl⟩ rfl (by decide) (by decide) dX6_ends_114 ?_
      refine j_callVv F (k_puts (by assumption) (by decide)) co_X6_puts ml_X6_63 im_X6_puts se_X6_puts in_X6 rc_X6_puts rfl (by decide) (by decide) ⟨by decide, rfl⟩ rfl rfl (Nat.le_of_ble_eq_true rfl) dX6_ends_115 ?_
      rw [rcr_rcr, rcr_s]
      refine j_aload_n F.1 dX6_ends_118 rfl ?_
      refine j_iload_n F.1 dX6_ends_119 rfl ?_
      refine j_bipush F.1 (6) dX6_ends_120 (by decide) ?_
      refine j_iconst F.1 (1) dX6_ends_122 (by decide) ?_
      refine j_callVv F (k_puts (by assumption) (by decide)) co_X6_puts ml_X6_63 im_X6_puts se_X6_puts in_X6 rc_X6_puts rfl (by decide) (by decide) ⟨by decide, rfl⟩ rfl rfl (Nat.le_of_ble_eq_true rfl) dX6_ends_123 ?_
      rw [rcr_rcr, rcr_s]
      refine j_aload_n F.1 dX6_ends_126 rfl ?_
      refine j_iload_n F.1 dX6_ends_127 rfl ?_
      refine j_bipush F.1 (7) dX6_ends_128 (by decide) ?_
      refine j_iload F.1 dX6_ends_130 rfl ?_
      refine j_callVv F (k_puts (by assumption) (by decide)) co_X6_puts ml_X6_63 im_X6_puts se_X6_puts in_X6 rc_X6_puts rfl (by decide) (by decide) ⟨by decide, rfl⟩ rfl rfl (Nat.le_of_ble_eq_true rfl) dX6_ends_132 ?_
      rw [rcr_rcr, rcr_s]
      refine j_aload_n F.1 dX6_ends_135 rfl ?_
      refine j_iload_n F.1 dX6_ends_136 rfl ?_
      refine j_bipush F.1 (9) dX6_ends_137 (by decide) ?_
      refine j_aload_n F.1 dX6_ends_139 rfl ?_
      refine j_getr F (k := 0) inX6 rfl (by decide) fl_X6_7 ⟨by decide, rfl⟩ rfl dX6_ends_140 ?_
      refine j_iconst F.1 (0) dX6_ends_143 (by decide) ?_
      refine j_iald F ⟨by decide, rfl⟩ rfl (by decide) (by decide) dX6_ends_144 ?_
      refine j_callVv F (k_puts (by assumption) (by decide)) co_X6_puts ml_X6_63 im_X6_puts se_X6_puts in_X6 rc_X6_puts rfl (by decide) (by decide) ⟨by decide, rfl⟩ rfl rfl (Nat.le_of_ble_eq_true rfl) dX6_ends_145 ?_
      rw [rcr_rcr, rcr_s]
      refine j_aload_n F.1 dX6_ends_148 rfl ?_
      refine j_iload_n F.1 dX6_ends_149 rfl ?_
      refine j_bipush F.1 (10) dX6_ends_150 (by decide) ?_
      refine j_iload_n F.1 dX6_ends_152 rfl ?_
      refine j_callVv F (k_puts (by assumption) (by decide)) co_X6_puts ml_X6_63 im_X6_puts se_X6_puts in_X6 rc_X6_puts rfl (by decide) (by decide) ⟨by decide, rfl⟩ rfl rfl (Nat.le_of_ble_eq_true rfl) dX6_ends_153 ?_
      rw [rcr_rcr, rcr_s]
      refine j_aload_n F.1 dX6_ends_156 rfl ?_
      refine j_iload_n F.1 dX6_ends_157 rfl ?_
      refine j_bipush F.1 (11) dX6_ends_158 (by decide) ?_
      refine j_aload_n F.1 dX6_ends_160 rfl ?_
      refine j_iload_n F.1 dX6_ends_161 rfl ?_
      refine j_iconst F.1 (2) dX6_ends_162 (by decide) ?_
      refine j_callVi F (k_of (by assumption) (by decide)) co_X6_of ml_X6_55 im_X6_of se_X6_of in_X6 rc_X6_of rfl (by decide) (by decide) ⟨by decide, rfl⟩ rfl rfl (Nat.le_of_ble_eq_true rfl) dX6_ends_163 ?_
      refine j_callVv F (k_puts (by assumption) (by decide)) co_X6_puts ml_X6_63 im_X6_puts se_X6_puts in_X6 rc_X6_puts rfl (by decide) (by decide) ⟨by decide, rfl⟩ rfl rfl (Nat.le_of_ble_eq_true rfl) dX6_ends_166 ?_
      rw [rcr_rcr, rcr_s]
      refine j_aload_n F.1 dX6_ends_169 rfl ?_
      refine j_iload_n F.1 dX6_ends_170 rfl ?_
      refine j_bipush F.1 (12) dX6_ends_171 (by decide) ?_
      refine j_iload_n F.1 dX6_ends_173 rfl ?_
      refine j_iconst F.1 (1) dX6_ends_174 (by decide) ?_
      refine j_icmp_ne F.1 182 dX6_ends_175 (by decide) (fun _ => ?_) (fun h175 => False.elim (by revert h175; decide))
      refine j_iload_n F.1 dX6_ends_182 rfl ?_
      refine j_callVv F (k_puts (by assumption) (by decide)) co_X6_puts ml_X6_63 im_X6_puts se_X6_puts in_X6 rc_X6_puts rfl (by decide) (by decide) ⟨by decide, rfl⟩ rfl rfl (Nat.le_of_ble_eq_true rfl) dX6_ends_183 ?_
      rw [rcr_rcr, rcr_s]
      refine j_aload_n F.1 dX6_ends_186 rfl ?_
      refine j_getr F (k := 0) inX6 rfl (by decide) fl_X6_7 ⟨by decide, rfl⟩ rfl dX6_ends_187 ?_
      refine j_iconst F.1 (1) dX6_ends_190 (by decide) ?_
      refine j_dup2 F.1 dX6_ends_191 rfl rfl ?_
      refine j_iald F ⟨by decide, rfl⟩ rfl (by decide) (by decide) dX6_ends_192 ?_
      refine j_iconst F.1 (1) dX6_ends_193 (by decide) ?_
      refine j_iadd F.1 dX6_ends_194 ?_
      refine j_iast F ⟨by decide, rfl⟩ rfl (by decide) (by decide) dX6_ends_195 ?_
      refine j_aload_n F.1 dX6_ends_196 rfl ?_
      rw [rcu_r, rcr_rcr, rcr_s]
      refine j_iload_n F.1 dX6_ends_197 rfl ?_
      refine j_callVv F (k_uses hi) co_X6_uses ml_X6_91 im_X6_uses se_X6_uses in_X6 rc_X6_uses rfl (by decide) (by decide) ⟨by decide, rfl⟩ rfl rfl (Nat.le_of_ble_eq_true rfl) dX6_ends_198 ?_
      rw [rcr_rcr, rcr_s]
      refine j_aload_n F.1 dX6_ends_201 rfl ?_
      refine j_dup F.1 dX6_ends_202 rfl ?_
      refine j_geti F (k := 10) inX6 rfl (by decide) fl_X6_88 ⟨by decide, rfl⟩ rfl dX6_ends_203 ?_
      refine j_iconst F.1 (1) dX6_ends_206 (by decide) ?_
      refine j_isub F.1 dX6_ends_207 ?_
      refine j_top (y := nI dp) (by rw [rcr_n (by decide), hd, nI_pred]) ?_
      refine j_puti F (k := 10) inX6 tyX6_ok nmX6 rfl (by decide) fl_X6_88 rfl rfl ⟨by decide, rfl⟩ rfl dX6_ends_208 ?_
      exact j_vret F dX6_ends_211 ((rVe (by unfold M_end A_end; (first | rw [if_pos hs] | rw [if_neg hs]); rfl)))
    · have hs : v 1 (ix i 6) = 1 ∧ v 1 (ix i 7) = (A_made (v 1 (ix i 0)) (A_ans (v 1) x) (A_ans (v 1) y)) := And.intro h48 h60
      refine j_iconst F.1 (1) dX6_ends_63 (by decide) ?_
      refine j_goto F.1 68 dX6_ends_64 (by decide) ?_
      refine j_istore F.1 dX6_ends_68 (by rw [hn]; decide) ?_
      refine j_aload_n F.1 dX6_ends_70 rfl ?_
      refine j_getr F (k := 0) inX6 rfl (by decide) fl_X6_7 ⟨by decide, rfl⟩ rfl dX6_ends_71 ?_
      refine j_bipush F.1 (6) dX6_ends_74 (by decide) ?_
      refine j_dup2 F.1 dX6_ends_76 rfl rfl ?_
      refine j_iald F ⟨by decide, rfl⟩ rfl (by decide) (by decide) dX6_ends_77 ?_
      refine j_iload F.1 dX6_ends_78 rfl ?_
      refine j_if_eq F.1 87 dX6_ends_80 (by decide) (fun h80 => False.elim (by revert h80; decide)) (fun _ => ?_)
      refine j_iconst F.1 (1) dX6_ends_83 (by decide) ?_
      refine j_goto F.1 88 dX6_ends_84 (by decide) ?_
      refine j_iadd F.1 dX6_ends_88 ?_
      refine j_iast F ⟨by decide, rfl⟩ rfl (by decide) (by decide) dX6_ends_89 ?_
      rw [rcu_r]
      refine j_aload_n F.1 dX6_ends_90 rfl ?_
      refine j_iload_n F.1 dX6_ends_91 rfl ?_
      refine j_bipush F.1 (8) dX6_ends_92 (by decide) ?_
      refine j_iload F.1 dX6_ends_94 rfl ?_
      refine j_if_eq F.1 109 dX6_ends_96 (by decide) (fun h96 => False.elim (by revert h96; decide)) (fun _ => ?_)
      refine j_aload_n F.1 dX6_ends_99 rfl ?_
      refine j_iload_n F.1 dX6_ends_100 rfl ?_
      refine j_bipush F.1 (8) dX6_ends_101 (by decide) ?_
      refine j_callVi F (k_of (by assumption) (by decide)) co_X6_of ml_X6_55 im_X6_of se_X6_of in_X6 rc_X6_of rfl (by decide) (by decide) ⟨by decide, rfl⟩ rfl rfl (Nat.le_of_ble_eq_true rfl) dX6_ends_103 ?_
      refine j_top (y := v 1 (ix i 8)) (by first | rw [rcr_s, pk_un (show ix i 8 ≠ 6 by unfold ix; omega)] | rw [rcu_row, pk_un (show ix i 8 ≠ 6 by unfold ix; omega)]) ?_
      refine j_goto F.1 115 dX6_ends_106 (by decide) ?_
      refine j_callVv F (k_puts (by assumption) (by decide)) co_X6_puts ml_X6_63 im_X6_puts se_X6_puts in_X6 rc_X6_puts rfl (by decide) (by decide) ⟨by decide, rfl⟩ rfl rfl (Nat.le_of_ble_eq_true rfl) dX6_ends_115 ?_
      rw [rcr_rcr, rcr_s]
      refine j_aload_n F.1 dX6_ends_118 rfl ?_
      refine j_iload_n F.1 dX6_ends_119 rfl ?_
      refine j_bipush F.1 (6) dX6_ends_120 (by decide) ?_
      refine j_iconst F.1 (1) dX6_ends_122 (by decide) ?_
      refine j_callVv F (k_puts (by assumption) (by decide)) co_X6_puts ml_X6_63 im_X6_puts se_X6_puts in_X6 rc_X6_puts rfl (by decide) (by decide) ⟨by decide, rfl⟩ rfl rfl (Nat.le_of_ble_eq_true rfl) dX6_ends_123 ?_
      rw [rcr_rcr, rcr_s]
      refine j_aload_n F.1 dX6_ends_126 rfl ?_
      refine j_iload_n F.1 dX6_ends_127 rfl ?_
      refine j_bipush F.1 (7) dX6_ends_128 (by decide) ?_
      refine j_iload F.1 dX6_ends_130 rfl ?_
      refine j_callVv F (k_puts (by assumption) (by decide)) co_X6_puts ml_X6_63 im_X6_puts se_X6_puts in_X6 rc_X6_puts rfl (by decide) (by decide) ⟨by decide, rfl⟩ rfl rfl (Nat.le_of_ble_eq_true rfl) dX6_ends_132 ?_
      rw [rcr_rcr, rcr_s]
      refine j_aload_n F.1 dX6_ends_135 rfl ?_
      refine j_iload_n F.1 dX6_ends_136 rfl ?_
      refine j_bipush F.1 (9) dX6_ends_137 (by decide) ?_
      refine j_aload_n F.1 dX6_ends_139 rfl ?_
      refine j_getr F (k := 0) inX6 rfl (by decide) fl_X6_7 ⟨by decide, rfl⟩ rfl dX6_ends_140 ?_
      refine j_iconst F.1 (0) dX6_ends_143 (by decide) ?_
      refine j_iald F ⟨by decide, rfl⟩ rfl (by decide) (by decide) dX6_ends_144 ?_
      refine j_callVv F (k_puts (by assumption) (by decide)) co_X6_puts ml_X6_63 im_X6_puts se_X6_puts in_X6 rc_X6_puts rfl (by decide) (by decide) ⟨by decide, rfl⟩ rfl rfl (Nat.le_of_ble_eq_true rfl) dX6_ends_145 ?_
      rw [rcr_rcr, rcr_s]
      refine j_aload_n F.1 dX6_ends_148 rfl ?_
      refine j_iload_n F.1 dX6_ends_149 rfl ?_
      refine j_bipush F.1 (10) dX6_ends_150 (by decide) ?_
      refine j_iload_n F.1 dX6_ends_152 rfl ?_
      refine j_callVv F (k_puts (by assumption) (by decide)) co_X6_puts ml_X6_63 im_X6_puts se_X6_puts in_X6 rc_X6_puts rfl (by decide) (by decide) ⟨by decide, rfl⟩ rfl rfl (Nat.le_of_ble_eq_true rfl) dX6_ends_153 ?_
      rw [rcr_rcr, rcr_s]
      refine j_aload_n F.1 dX6_ends_156 rfl ?_
      refine j_iload_n F.1 dX6_ends_157 rfl ?_
      refine j_bipush F.1 (11) dX6_ends_158 (by decide) ?_
      refine j_aload_n F.1 dX6_ends_160 rfl ?_
      refine j_iload_n F.1 dX6_ends_161 rfl ?_
      refine j_iconst F.1 (2) dX6_ends_162 (by decide) ?_
      refine j_callVi F (k_of (by assumption) (by decide)) co_X6_of ml_X6_55 im_X6_of se_X6_of in_X6 rc_X6_of rfl (by decide) (by decide) ⟨by decide, rfl⟩ rfl rfl (Nat.le_of_ble_eq_true rfl) dX6_ends_163 ?_
      refine j_callVv F (k_puts (by assumption) (by decide)) co_X6_puts ml_X6_63 im_X6_puts se_X6_puts in_X6 rc_X6_puts rfl (by decide) (by decide) ⟨by decide, rfl⟩ rfl rfl (Nat.le_of_ble_eq_true rfl) dX6_ends_166 ?_
      rw [rcr_rcr, rcr_s]
      refine j_aload_n F.1 dX6_ends_169 rfl ?_
      refine j_iload_n F.1 dX6_ends_170 rfl ?_
      refine j_bipush F.1 (12) dX6_ends_171 (by decide) ?_
      refine j_iload_n F.1 dX6_ends_173 rfl ?_
      refine j_iconst F.1 (1) dX6_ends_174 (by decide) ?_
      refine j_icmp_ne F.1 182 dX6_ends_175 (by decide) (fun _ => ?_) (fun h175 => False.elim (by revert h175; decide))
      refine j_iload_n F.1 dX6_ends_182 rfl ?_
      refine j_callVv F (k_puts (by assumption) (by decide)) co_X6_puts ml_X6_63 im_X6_puts se_X6_puts in_X6 rc_X6_puts rfl (by decide) (by decide) ⟨by decide, rfl⟩ rfl rfl (Nat.le_of_ble_eq_true rfl) dX6_ends_183 ?_
      rw [rcr_rcr, rcr_s]
      refine j_aload_n F.1 dX6_ends_186 rfl ?_
      refine j_getr F (k := 0) inX6 rfl (by decide) fl_X6_7 ⟨by decide, rfl⟩ rfl dX6_ends_187 ?_
      refine j_iconst F.1 (1) dX6_ends_190 (by decide) ?_
      refine j_dup2 F.1 dX6_ends_191 rfl rfl ?_
      refine j_iald F ⟨by decide, rfl⟩ rfl (by decide) (by decide) dX6_ends_192 ?_
      refine j_iconst F.1 (1) dX6_ends_193 (by decide) ?_
      refine j_iadd F.1 dX6_ends_194 ?_
      refine j_iast F ⟨by decide, rfl⟩ rfl (by decide) (by decide) dX6_ends_195 ?_
      refine j_aload_n F.1 dX6_ends_196 rfl ?_
      rw [rcu_r, rcr_rcr, rcr_s]
      refine j_iload_n F.1 dX6_ends_197 rfl ?_
      refine j_callVv F (k_uses hi) co_X6_uses ml_X6_91 im_X6_uses se_X6_uses in_X6 rc_X6_uses rfl (by decide) (by decide) ⟨by decide, rfl⟩ rfl rfl (Nat.le_of_ble_eq_true rfl) dX6_ends_198 ?_
      rw [rcr_rcr, rcr_s]
      refine j_aload_n F.1 dX6_ends_201 rfl ?_
      refine j_dup F.1 dX6_ends_202 rfl ?_
      refine j_geti F (k := 10) inX6 rfl (by decide) fl_X6_88 ⟨by decide, rfl⟩ rfl dX6_ends_203 ?_
      refine j_iconst F.1 (1) dX6_ends_206 (by decide) ?_
      refine j_isub F.1 dX6_ends_207 ?_
      refine j_top (y := nI dp) (by rw [rcr_n (by decide), hd, nI_pred]) ?_
      refine j_puti F (k := 10) inX6 tyX6_ok nmX6 rfl (by decide) fl_X6_88 rfl rfl ⟨by decide, rfl⟩ rfl dX6_ends_208 ?_
      exact j_vret F dX6_ends_211 ((rVe (by unfold M_end A_end; (first | rw [if_pos hs] | rw [if_neg hs]); rfl)))
/-- a step of looking again: k is the step -/
def M_checks (v : rcM) (tp c k u w : Nat) : rcM :=
  if 0 < k ∧ v 1 (ix c 9) < A_chg (v 1) u then rcu (rcu v 6 tp 1) 7 tp 0
  else if nI k = v 1 (ix c 10) then rcu (rcr v 1 (A_keep (v 1) c)) 0 10 (nI tp)
  else M_enters (rcu v 7 tp (nI k + 1)) w (tp + 1)
set_option maxHeartbeats 4000000 in
set_option maxRecDepth 100000 in
theorem k_checks {Y : rcY} {la : Launch} {v : rcM} {tp c k u w : Nat} (hc10 : c < 10) (ht10 : tp < 10) (hc : v 5 tp = nI c) (hk : v 7 tp = nI k) (hd : v 0 10 = nI (tp + 1)) (hk2 : k ≤ 2) (hu : 0 < k → u < 10 ∧ v 1 (ix c (10 + k)) = nI u) (hw : ¬ nI k = v 1 (ix c 10) → k < 2 ∧ w < 10 ∧ v 1 (ix c (11 + k)) = nI w ∧ mayPush (rcu v 7 tp (nI k + 1)) w (tp + 1)) : rcT shM 13 Y la 3 (yX6_checks, cX6_checks, 4, none) [.ref (Y.2.1 0), .int (nI tp)] (v) (rV (M_checks v tp c k u w)) := by
  refine rcT.of (by decide +kernel) (Nat.le_of_ble_eq_true rfl) (fun X F hn => ?_)
  refine j_aload_n F.1 dX6_checks_0 rfl ?_
  refine j_getr F (k := 6) inX6 rfl (by decide) fl_X6_22 ⟨by decide, rfl⟩ rfl dX6_checks_1 ?_
  refine j_iload_n F.1 dX6_checks_4 rfl ?_
  refine j_iald F ⟨by decide, rfl⟩ rfl (by omega) (by decide) dX6_checks_5 ?_
  refine j_top hc ?_
  refine j_istore_n F.1 dX6_checks_6 (by rw [hn]; decide) ?_
  refine j_aload_n F.1 dX6_checks_7 rfl ?_
  refine j_getr F (k := 8) inX6 rfl (by decide) fl_X6_28 ⟨by decide, rfl⟩ rfl dX6_checks_8 ?_
  refine j_iload_n F.1 dX6_checks_11 rfl ?_
  refine j_iald F ⟨by decide, rfl⟩ rfl (by omega) (by decide) dX6_checks_12 ?_
  refine j_top hk ?_
  refine j_istore_n F.1 dX6_checks_13 (by rw [hn]; decide) ?_
  refine j_iload_n F.1 dX6_checks_14 rfl ?_
  refine j_if_le F.1 60 dX6_checks_15 (by decide) (fun h15 => ?_) (fun h15 => ?_)
  · have hk0 : ¬ 0 < k := fun z => absurd (nI_lt z (by omega : k < 2 ^ 31)) (Int32.not_lt.mpr h15)
    have nc : ¬ (0 < k ∧ v 1 (ix c 9) < A_chg (v 1) u) := fun z => hk0 z.1
    refine j_iload_n F.1 dX6_checks_60 rfl ?_
    refine j_aload_n F.1 dX6_checks_61 rfl ?_
    refine j_iload_n F.1 dX6_checks_62 rfl ?_
    refine j_bipush F.1 (10) dX6_checks_63 (by decide) ?_
    refine j_callVi F (k_of hc10 (by decide)) co_X6_of ml_X6_55 im_X6_of se_X6_of in_X6 rc_X6_of rfl (by decide) (by decide) ⟨by decide, rfl⟩ rfl rfl (Nat.le_of_ble_eq_true rfl) dX6_checks_65 ?_
    refine j_icmp_ne F.1 112 dX6_checks_68 (by decide) (fun h68 => ?_) (fun h68 => ?_)
    · refine j_aload_n F.1 dX6_checks_112 rfl ?_
      refine j_getr F (k := 8) inX6 rfl (by decide) fl_X6_28 ⟨by decide, rfl⟩ rfl dX6_checks_113 ?_
      refine j_iload_n F.1 dX6_checks_116 rfl ?_
      refine j_dup2 F.1 dX6_checks_117 rfl rfl ?_
      refine j_iald F ⟨by decide, rfl⟩ rfl (by omega) (by decide) dX6_checks_118 ?_
      refine j_iconst F.1 (1) dX6_checks_119 (by decide) ?_
      refine j_iadd F.1 dX6_checks_120 ?_
      refine j_top (y := nI k + 1) (by rw [hk]) ?_
      refine j_iast F ⟨by decide, rfl⟩ rfl (by omega) (by decide) dX6_checks_121 ?_
      refine j_aload_n F.1 dX6_checks_122 rfl ?_
      refine j_aload_n F.1 dX6_checks_123 rfl ?_
      refine j_iload_n F.1 dX6_checks_124 rfl ?_
      refine j_bipush F.1 (11) dX6_checks_125 (by decide) ?_
      refine j_iload_n F.1 dX6_checks_127 rfl ?_
      refine j_iadd F.1 dX6_checks_128 ?_
      refine j_top (y := nI (11 + k)) (by rw [show (11 : Int32) = nI 11 from rfl, nI_add]) ?_
      refine j_callVi F (k_of hc10 (by have := (hw h68).1; omega)) co_X6_of ml_X6_55 im_X6_of se_X6_of in_X6 rc_X6_of rfl (by decide) (by decide) ⟨by decide, rfl⟩ rfl rfl (Nat.le_of_ble_eq_true rfl) dX6_checks_129 ?_
      refine j_top (y := nI w) (by rw [rcu_ne (by decide)]; exact (hw h68).2.2.1) ?_
      refine j_callVv F (k_enters (hw h68).2.1 (by rw [rcu_ne (by decide)]; exact hd) (by omega) (hw h68).2.2.2) co_X6_enters ml_X6_114 im_X6_enters se_X6_enters in_X6 rc_X6_enters rfl (by decide) (by decide) ⟨by decide, rfl⟩ rfl rfl (Nat.le_of_ble_eq_true rfl) dX6_checks_132 ?_
      exact j_vret F dX6_checks_135 ((rVe (by unfold M_checks; first | rw [if_pos nc] | (rw [if_neg nc, if_pos keep]; rfl) | rw [if_neg nc, if_neg h68])))
    · have keep := h68
      refine j_aload_n F.1 dX6_checks_71 rfl ?_
      refine j_iload_n F.1 dX6_checks_72 rfl ?_
      refine j_bipush F.1 (9) dX6_checks_73 (by decide) ?_
      refine j_aload_n F.1 dX6_checks_75 rfl ?_
      refine j_getr F (k := 0) inX6 rfl (by decide) fl_X6_7 ⟨by decide, rfl⟩ rfl dX6_checks_76 ?_
      refine j_iconst F.1 (0) dX6_checks_79 (by decide) ?_
      refine j_iald F ⟨by decide, rfl⟩ rfl (by decide) (by decide) dX6_checks_80 ?_
      refine j_callVv F (k_puts (by assumption) (by decide)) co_X6_puts ml_X6_63 im_X6_puts se_X6_puts in_X6 rc_X6_puts rfl (by decide) (by decide) ⟨by decide, rfl⟩ rfl rfl (Nat.le_of_ble_eq_true rfl) dX6_checks_81 ?_
      refine j_aload_n F.1 dX6_checks_84 rfl ?_
      refine j_getr F (k := 0) inX6 rfl (by decide) fl_X6_7 ⟨by decide, rfl⟩ rfl dX6_checks_85 ?_
      refine j_iconst F.1 (2) dX6_checks_88 (by decide) ?_
      refine j_dup2 F.1 dX6_checks_89 rfl rfl ?_
      refine j_iald F ⟨by decide, rfl⟩ rfl (by decide) (by decide) dX6_checks_90 ?_
      refine j_iconst F.1 (1) dX6_checks_91 (by decide) ?_
      refine j_iadd F.1 dX6_checks_92 ?_
      refine j_iast F ⟨by decide, rfl⟩ rfl (by decide) (by decide) dX6_checks_93 ?_
      rw [rcu_r, rcr_rcr, rcr_s]
      refine j_aload_n F.1 dX6_checks_94 rfl ?_
      refine j_iload_n F.1 dX6_checks_95 rfl ?_
      refine j_callVv F (k_uses hc10) co_X6_uses ml_X6_91 im_X6_uses se_X6_uses in_X6 rc_X6_uses rfl (by decide) (by decide) ⟨by decide, rfl⟩ rfl rfl (Nat.le_of_ble_eq_true rfl) dX6_checks_96 ?_
      rw [rcr_rcr, rcr_s]
      refine j_aload_n F.1 dX6_checks_99 rfl ?_
      refine j_dup F.1 dX6_checks_100 rfl ?_
      refine j_geti F (k := 10) inX6 rfl (by decide) fl_X6_88 ⟨by decide, rfl⟩ rfl dX6_checks_101 ?_
      refine j_iconst F.1 (1) dX6_checks_104 (by decide) ?_
      refine j_isub F.1 dX6_checks_105 ?_
      refine j_top (y := nI tp) (by rw [rcr_n (by decide), hd, nI_pred]) ?_
      refine j_puti F (k := 10) inX6 tyX6_ok nmX6 rfl (by decide) fl_X6_88 rfl rfl ⟨by decide, rfl⟩ rfl dX6_checks_106 ?_
      refine j_goto F.1 135 dX6_checks_109 (by decide) ?_
      exact j_vret F dX6_checks_135 ((rVe (by unfold M_checks; first | rw [if_pos nc] | (rw [if_neg nc, if_pos keep]; rfl) | rw [if_neg nc, if_neg h68])))
  · have hk0 : 0 < k := by
      rcases Nat.eq_zero_or_pos k with z | z
      · subst z; exact absurd (by decide) h15
      · exact z
    refine j_aload_n F.1 dX6_checks_18 rfl ?_
    refine j_aload_n F.1 dX6_checks_19 rfl ?_
    refine j_iload_n F.1 dX6_checks_20 rfl ?_
    refine j_bipush F.1 (11) dX6_checks_21 (by decide) ?_
    refine j_iload_n F.1 dX6_checks_23 rfl ?_
    refine j_iadd F.1 dX6_checks_24 ?_
    refine j_iconst F.1 (1) dX6_checks_25 (by decide) ?_
    refine j_isub F.1 dX6_checks_26 ?_
    refine j_top (y := nI (10 + k)) (by rw [show (11 : Int32) = nI 11 from rfl, nI_add, show 11 + k = (10 + k) + 1 by omega, nI_pred]) ?_
    refine j_callVi F (k_of hc10 (by omega)) co_X6_of ml_X6_55 im_X6_of se_X6_of in_X6 rc_X6_of rfl (by decide) (by decide) ⟨by decide, rfl⟩ rfl rfl (Nat.le_of_ble_eq_true rfl) dX6_checks_27 ?_
    refine j_top (hu hk0).2 ?_
    refine j_callVi F (k_changedAt (hu hk0).1) co_X6_changedAt ml_X6_111 im_X6_changedAt se_X6_changedAt in_X6 rc_X6_changedAt rfl (by decide) (by decide) ⟨by decide, rfl⟩ rfl rfl (Nat.le_of_ble_eq_true rfl) dX6_checks_30 ?_
    refine j_aload_n F.1 dX6_checks_33 rfl ?_
    refine j_iload_n F.1 dX6_checks_34 rfl ?_
    refine j_bipush F.1 (9) dX6_checks_35 (by decide) ?_
    refine j_callVi F (k_of hc10 (by decide)) co_X6_of ml_X6_55 im_X6_of se_X6_of in_X6 rc_X6_of rfl (by decide) (by decide) ⟨by decide, rfl⟩ rfl rfl (Nat.le_of_ble_eq_true rfl) dX6_checks_37 ?_
    refine j_icmp_le F.1 60 dX6_checks_40 (by decide) (fun h40 => ?_) (fun h40 => ?_)
    · have nc : ¬ (0 < k ∧ v 1 (ix c 9) < A_chg (v 1) u) := fun z => Int32.not_lt.mpr h40 z.2
      refine j_iload_n F.1 dX6_checks_60 rfl ?_
      refine j_aload_n F.1 dX6_checks_61 rfl ?_
      refine j_iload_n F.1 dX6_checks_62 rfl ?_
      refine j_bipush F.1 (10) dX6_checks_63 (by decide) ?_
      refine j_callVi F (k_of hc10 (by decide)) co_X6_of ml_X6_55 im_X6_of se_X6_of in_X6 rc_X6_of rfl (by decide) (by decide) ⟨by decide, rfl⟩ rfl rfl (Nat.le_of_ble_eq_true rfl) dX6_checks_65 ?_
      refine j_icmp_ne F.1 112 dX6_checks_68 (by decide) (fun h68 => ?_) (fun h68 => ?_)
      · refine j_aload_n F.1 dX6_checks_112 rfl ?_
        refine j_getr F (k := 8) inX6 rfl (by decide) fl_X6_28 ⟨by decide, rfl⟩ rfl dX6_checks_113 ?_
        refine j_iload_n F.1 dX6_checks_116 rfl ?_
        refine j_dup2 F.1 dX6_checks_117 rfl rfl ?_
        refine j_iald F ⟨by decide, rfl⟩ rfl (by omega) (by decide) dX6_checks_118 ?_
        refine j_iconst F.1 (1) dX6_checks_119 (by decide) ?_
        refine j_iadd F.1 dX6_checks_120 ?_
        refine j_top (y := nI k + 1) (by rw [hk]) ?_
        refine j_iast F ⟨by decide, rfl⟩ rfl (by omega) (by decide) dX6_checks_121 ?_
        refine j_aload_n F.1 dX6_checks_122 rfl ?_
        refine j_aload_n F.1 dX6_checks_123 rfl ?_
        refine j_iload_n F.1 dX6_checks_124 rfl ?_
        refine j_bipush F.1 (11) dX6_checks_125 (by decide) ?_
        refine j_iload_n F.1 dX6_checks_127 rfl ?_
        refine j_iadd F.1 dX6_checks_128 ?_
        refine j_top (y := nI (11 + k)) (by rw [show (11 : Int32) = nI 11 from rfl, nI_add]) ?_
        refine j_callVi F (k_of hc10 (by have := (hw h68).1; omega)) co_X6_of ml_X6_55 im_X6_of se_X6_of in_X6 rc_X6_of rfl (by decide) (by decide) ⟨by decide, rfl⟩ rfl rfl (Nat.le_of_ble_eq_true rfl) dX6_checks_129 ?_
        refine j_top (y := nI w) (by rw [rcu_ne (by decide)]; exact (hw h68).2.2.1) ?_
        refine j_callVv F (k_enters (hw h68).2.1 (by rw [rcu_ne (by decide)]; exact hd) (by omega) (hw h68).2.2.2) co_X6_enters ml_X6_114 im_X6_enters se_X6_enters in_X6 rc_X6_enters rfl (by decide) (by decide) ⟨by decide, rfl⟩ rfl rfl (Nat.le_of_ble_eq_true rfl) dX6_checks_132 ?_
        exact j_vret F dX6_checks_135 ((rVe (by unfold M_checks; first | rw [if_pos nc] | (rw [if_neg nc, if_pos keep]; rfl) | rw [if_neg nc, if_neg h68])))
      · have keep := h68
        refine j_aload_n F.1 dX6_checks_71 rfl ?_
        refine j_iload_n F.1 dX6_checks_72 rfl ?_
        refine j_bipush F.1 (9) dX6_checks_73 (by decide) ?_
        refine j_aload_n F.1 dX6_checks_75 rfl ?_
        refine j_getr F (k := 0) inX6 rfl (by decide) fl_X6_7 ⟨by decide, rfl⟩ rfl dX6_checks_76 ?_
        refine j_iconst F.1 (0) dX6_checks_79 (by decide) ?_
        refine j_iald F ⟨by decide, rfl⟩ rfl (by decide) (by decide) dX6_checks_80 ?_
        refine j_callVv F (k_puts (by assumption) (by decide)) co_X6_puts ml_X6_63 im_X6_puts se_X6_puts in_X6 rc_X6_puts rfl (by decide) (by decide) ⟨by decide, rfl⟩ rfl rfl (Nat.le_of_ble_eq_true rfl) dX6_checks_81 ?_
        refine j_aload_n F.1 dX6_checks_84 rfl ?_
        refine j_getr F (k := 0) inX6 rfl (by decide) fl_X6_7 ⟨by decide, rfl⟩ rfl dX6_checks_85 ?_
        refine j_iconst F.1 (2) dX6_checks_88 (by decide) ?_
        refine j_dup2 F.1 dX6_checks_89 rfl rfl ?_
        refine j_iald F ⟨by decide, rfl⟩ rfl (by decide) (by decide) dX6_checks_90 ?_
        refine j_iconst F.1 (1) dX6_checks_91 (by decide) ?_
        refine j_iadd F.1 dX6_checks_92 ?_
        refine j_iast F ⟨by decide, rfl⟩ rfl (by decide) (by decide) dX6_checks_93 ?_
        rw [rcu_r, rcr_rcr, rcr_s]
        refine j_aload_n F.1 dX6_checks_94 rfl ?_
        refine j_iload_n F.1 dX6_checks_95 rfl ?_
        refine j_callVv F (k_uses hc10) co_X6_uses ml_X6_91 im_X6_uses se_X6_uses in_X6 rc_X6_uses rfl (by decide) (by decide) ⟨by decide, rfl⟩ rfl rfl (Nat.le_of_ble_eq_true rfl) dX6_checks_96 ?_
        rw [rcr_rcr, rcr_s]
        refine j_aload_n F.1 dX6_checks_99 rfl ?_
        refine j_dup F.1 dX6_checks_100 rfl ?_
        refine j_geti F (k := 10) inX6 rfl (by decide) fl_X6_88 ⟨by decide, rfl⟩ rfl dX6_checks_101 ?_
        refine j_iconst F.1 (1) dX6_checks_104 (by decide) ?_
        refine j_isub F.1 dX6_checks_105 ?_
        refine j_top (y := nI tp) (by rw [rcr_n (by decide), hd, nI_pred]) ?_
        refine j_puti F (k := 10) inX6 tyX6_ok nmX6 rfl (by decide) fl_X6_88 rfl rfl ⟨by decide, rfl⟩ rfl dX6_checks_106 ?_
        refine j_goto F.1 135 dX6_checks_109 (by decide) ?_
        exact j_vret F dX6_checks_135 ((rVe (by unfold M_checks; first | rw [if_pos nc] | (rw [if_neg nc, if_pos keep]; rfl) | rw [if_neg nc, if_neg h68])))
    · have nc : 0 < k ∧ v 1 (ix c 9) < A_chg (v 1) u := ⟨hk0, Int32.not_le.mp h40⟩
      refine j_aload_n F.1 dX6_checks_43 rfl ?_
      refine j_getr F (k := 7) inX6 rfl (by decide) fl_X6_25 ⟨by decide, rfl⟩ rfl dX6_checks_44 ?_
      refine j_iload_n F.1 dX6_checks_47 rfl ?_
      refine j_iconst F.1 (1) dX6_checks_48 (by decide) ?_
      refine j_iast F ⟨by decide, rfl⟩ rfl (by omega) (by decide) dX6_checks_49 ?_
      refine j_aload_n F.1 dX6_checks_50 rfl ?_
      refine j_getr F (k := 8) inX6 rfl (by decide) fl_X6_28 ⟨by decide, rfl⟩ rfl dX6_checks_51 ?_
      refine j_iload_n F.1 dX6_checks_54 rfl ?_
      refine j_iconst F.1 (0) dX6_checks_55 (by decide) ?_
      refine j_iast F ⟨by decide, rfl⟩ rfl (by omega) (by decide) dX6_checks_56 ?_
      refine j_goto F.1 135 dX6_checks_57 (by decide) ?_
      exact j_vret F dX6_checks_135 ((rVe (by unfold M_checks; first | rw [if_pos nc] | (rw [if_neg nc, if_pos keep]; rfl) | rw [if_neg nc, if_neg h68])))
set_option maxHeartbeats 4000000 in
set_option maxRecDepth 100000 in
theorem k_works0 {Y : rcY} {la : Launch} {v : rcM} {tp c x : Nat} (hc10 : c < 10) (ht10 : tp < 10) (hc : v 5 tp = nI c) (hd : v 0 10 = nI (tp + 1)) (hx : v 1 (ix c 2) = nI x) (hx10 : x < 10) (hk : v 7 tp = 0) (hp : mayPush (rcu v 7 tp 1) x (tp + 1)) : rcT shM 13 Y la 3 (yX6_works, cX6_works, 5, none) [.ref (Y.2.1 0), .int (nI tp)] (v) (rV (M_enters (rcu v 7 tp 1) x (tp + 1))) := by
  refine rcT.of (by decide +kernel) (Nat.le_of_ble_eq_true rfl) (fun X F hn => ?_)
  refine j_aload_n F.1 dX6_works_0 rfl ?_
  refine j_getr F (k := 6) inX6 rfl (by decide) fl_X6_22 ⟨by decide, rfl⟩ rfl dX6_works_1 ?_
  refine j_iload_n F.1 dX6_works_4 rfl ?_
  refine j_iald F ⟨by decide, rfl⟩ rfl (by omega) (by decide) dX6_works_5 ?_
  refine j_top hc ?_
  refine j_istore_n F.1 dX6_works_6 (by rw [hn]; decide) ?_
  refine j_aload_n F.1 dX6_works_7 rfl ?_
  refine j_getr F (k := 8) inX6 rfl (by decide) fl_X6_28 ⟨by decide, rfl⟩ rfl dX6_works_8 ?_
  refine j_iload_n F.1 dX6_works_11 rfl ?_
  refine j_dup2 F.1 dX6_works_12 rfl rfl ?_
  refine j_iald F ⟨by decide, rfl⟩ rfl (by omega) (by decide) dX6_works_13 ?_
  refine j_iconst F.1 (1) dX6_works_14 (by decide) ?_
  refine j_iadd F.1 dX6_works_15 ?_
  refine j_top (y := 1) (by rw [hk]; rfl) ?_
  refine j_iast F ⟨by decide, rfl⟩ rfl (by omega) (by decide) dX6_works_16 ?_
  refine j_aload_n F.1 dX6_works_17 rfl ?_
  refine j_getr F (k := 8) inX6 rfl (by decide) fl_X6_28 ⟨by decide, rfl⟩ rfl dX6_works_18 ?_
  refine j_iload_n F.1 dX6_works_21 rfl ?_
  refine j_iald F ⟨by decide, rfl⟩ rfl (by omega) (by decide) dX6_works_22 ?_
  refine j_top (y := 1) (by rw [rcu_self]) ?_
  refine j_iconst F.1 (1) dX6_works_23 (by decide) ?_
  refine j_icmp_ne F.1 40 dX6_works_24 (by decide) (fun h24 => False.elim (by revert h24; decide)) (fun _ => ?_)
  refine j_aload_n F.1 dX6_works_27 rfl ?_
  refine j_aload_n F.1 dX6_works_28 rfl ?_
  refine j_iload_n F.1 dX6_works_29 rfl ?_
  refine j_iconst F.1 (2) dX6_works_30 (by decide) ?_
  refine j_callVi F (k_of hc10 (by decide)) co_X6_of ml_X6_55 im_X6_of se_X6_of in_X6 rc_X6_of rfl (by decide) (by decide) ⟨by decide, rfl⟩ rfl rfl (Nat.le_of_ble_eq_true rfl) dX6_works_31 ?_
  refine j_top (y := nI x) (by rw [rcu_ne (by decide)]; exact hx) ?_
  refine j_callVv F (k_enters hx10 (by rw [rcu_ne (by decide)]; exact hd) (by omega) hp) co_X6_enters ml_X6_114 im_X6_enters se_X6_enters in_X6 rc_X6_enters rfl (by decide) (by decide) ⟨by decide, rfl⟩ rfl rfl (Nat.le_of_ble_eq_true rfl) dX6_works_34 ?_
  refine j_goto F.1 154 dX6_works_37 (by decide) ?_
  exact j_vret F dX6_works_154 ((rVe rfl))
/-- the second step of working out: w is the cell that comes next -/
def M_work1 (v : rcM) (tp c x w : Nat) : rcM :=
  if v 1 (ix c 0) = 5 ∧ A_ans (v 1) x = 2000000000 then M_end (rcu (rcu v 7 tp 2) 8 tp (nI w)) c tp 2000000000 1 0
  else M_enters (rcu (rcu v 7 tp 2) 8 tp (nI w)) w (tp + 1)
set_option maxHeartbeats 4000000 in
set_option maxRecDepth 100000 in
theorem k_works1 {Y : rcY} {la : Launch} {v : rcM} {tp c x w : Nat} (hc10 : c < 10) (ht10 : tp < 10) (hc : v 5 tp = nI c) (hd : v 0 10 = nI (tp + 1)) (hx : v 1 (ix c 2) = nI x) (hx10 : x < 10) (hk : v 7 tp = 1) (hy : (if v 1 (ix c 0) = 5 ∧ A_ans (v 1) x ≤ 0 then v 1 (ix c 4) else v 1 (ix c 3)) = nI w) (hw10 : w < 10) (hp : ¬ (v 1 (ix c 0) = 5 ∧ A_ans (v 1) x = 2000000000) → mayPush (rcu (rcu v 7 tp 2) 8 tp (nI w)) w (tp + 1)) : rcT shM 13 Y la 3 (yX6_works, cX6_works, 5, none) [.ref (Y.2.1 0), .int (nI tp)] (v) (rV (M_work1 v tp c x w)) := by
  refine rcT.of (by decide +kernel) (Nat.le_of_ble_eq_true rfl) (fun X F hn => ?_)
  refine j_aload_n F.1 dX6_works_0 rfl ?_
  refine j_getr F (k := 6) inX6 rfl (by decide) fl_X6_22 ⟨by decide, rfl⟩ rfl dX6_works_1 ?_
  refine j_iload_n F.1 dX6_works_4 rfl ?_
  refine j_iald F ⟨by decide, rfl⟩ rfl (by omega) (by decide) dX6_works_5 ?_
  refine j_top hc ?_
  refine j_istore_n F.1 dX6_works_6 (by rw [hn]; decide) ?_
  refine j_aload_n F.1 dX6_works_7 rfl ?_
  refine j_getr F (k := 8) inX6 rfl (by decide) fl_X6_28 ⟨by decide, rfl⟩ rfl dX6_works_8 ?_
  refine j_iload_n F.1 dX6_works_11 rfl ?_
  refine j_dup2 F.1 dX6_works_12 rfl rfl ?_
  refine j_iald F ⟨by decide, rfl⟩ rfl (by omega) (by decide) dX6_works_13 ?_
  refine j_iconst F.1 (1) dX6_works_14 (by decide) ?_
  refine j_iadd F.1 dX6_works_15 ?_
  refine j_top (y := 2) (by rw [hk]; rfl) ?_
  refine j_iast F ⟨by decide, rfl⟩ rfl (by omega) (by decide) dX6_works_16 ?_
  refine j_aload_n F.1 dX6_works_17 rfl ?_
  refine j_getr F (k := 8) inX6 rfl (by decide) fl_X6_28 ⟨by decide, rfl⟩ rfl dX6_works_18 ?_
  refine j_iload_n F.1 dX6_works_21 rfl ?_
  refine j_iald F ⟨by decide, rfl⟩ rfl (by omega) (by decide) dX6_works_22 ?_
  refine j_top (y := 2) (by rw [rcu_self]) ?_
  refine j_iconst F.1 (1) dX6_works_23 (by decide) ?_
  refine j_icmp_ne F.1 40 dX6_works_24 (by decide) (fun _ => ?_) (fun h24 => False.elim (by revert h24; decide))
  refine j_aload_n F.1 dX6_works_40 rfl ?_
  refine j_getr F (k := 8) inX6 rfl (by decide) fl_X6_28 ⟨by decide, rfl⟩ rfl dX6_works_41 ?_
  refine j_iload_n F.1 dX6_works_44 rfl ?_
  refine j_iald F ⟨by decide, rfl⟩ rfl (by omega) (by decide) dX6_works_45 ?_
  refine j_top (y := 2) (by rw [rcu_self]) ?_
  refine j_iconst F.1 (2) dX6_works_46 (by decide) ?_
  refine j_icmp_ne F.1 142 dX6_works_47 (by decide) (fun h47 => False.elim (by revert h47; decide)) (fun _ => ?_)
  refine j_aload_n F.1 dX6_works_50 rfl ?_
  refine j_aload_n F.1 dX6_works_51 rfl ?_
  refine j_iload_n F.1 dX6_works_52 rfl ?_
  refine j_iconst F.1 (2) dX6_works_53 (by decide) ?_
  refine j_callVi F (k_of hc10 (by decide)) co_X6_of ml_X6_55 im_X6_of se_X6_of in_X6 rc_X6_of rfl (by decide) (by decide) ⟨by decide, rfl⟩ rfl rfl (Nat.le_of_ble_eq_true rfl) dX6_works_54 ?_
  refine j_top (y := nI x) (by rw [rcu_ne (by decide)]; exact hx) ?_
  refine j_callVi F (k_answerOf hx10) co_X6_answerOf ml_X6_117 im_X6_answerOf se_X6_answerOf in_X6 rc_X6_answerOf rfl (by decide) (by decide) ⟨by decide, rfl⟩ rfl rfl (Nat.le_of_ble_eq_true rfl) dX6_works_57 ?_
  refine j_top (y := A_ans (v 1) x) (by rw [rcu_ne (by decide)]) ?_
  refine j_istore_n F.1 dX6_works_60 (by rw [hn]; decide) ?_
  refine j_aload_n F.1 dX6_works_61 rfl ?_
  refine j_iload_n F.1 dX6_works_62 rfl ?_
  refine j_iconst F.1 (0) dX6_works_63 (by decide) ?_
  refine j_callVi F (k_of hc10 (by decide)) co_X6_of ml_X6_55 im_X6_of se_X6_of in_X6 rc_X6_of rfl (by decide) (by decide) ⟨by decide, rfl⟩ rfl rfl (Nat.le_of_ble_eq_true rfl) dX6_works_64 ?_
  refine j_top (y := v 1 (ix c 0)) (by rw [rcu_ne (by decide)]) ?_
  refine j_iconst F.1 (5) dX6_works_67 (by decide) ?_
  refine j_icmp_ne F.1 75 dX6_works_68 (by decide) (fun h68 => ?_) (fun h68 => ?_)
  · have nt : ¬ (v 1 (ix c 0) = 5 ∧ A_ans (v 1) x = 2000000000) := fun z => h68 z.1
    have hs2 : ¬ (v 1 (ix c 0) = 5 ∧ A_ans (v 1) x ≤ 0) := fun z => h68 z.1
    refine j_iconst F.1 (0) dX6_works_75 (by decide) ?_
    refine j_istore F.1 dX6_works_76 (by rw [hn]; decide) ?_
    refine j_aload_n F.1 dX6_works_78 rfl ?_
    refine j_getr F (k := 9) inX6 rfl (by decide) fl_X6_31 ⟨by decide, rfl⟩ rfl dX6_works_79 ?_
    refine j_iload_n F.1 dX6_works_82 rfl ?_
    refine j_iload F.1 dX6_works_83 rfl ?_
    refine j_if_eq F.1 101 dX6_works_85 (by decide) (fun _ => ?_) (fun h85 => False.elim (by revert h85; decide))
    refine j_aload_n F.1 dX6_works_101 rfl ?_
    refine j_iload_n F.1 dX6_works_102 rfl ?_
    refine j_iconst F.1 (3) dX6_works_103 (by decide) ?_
    refine j_callVi F (k_of hc10 (by decide)) co_X6_of ml_X6_55 im_X6_of se_X6_of in_X6 rc_X6_of rfl (by decide) (by decide) ⟨by decide, rfl⟩ rfl rfl (Nat.le_of_ble_eq_true rfl) dX6_works_104 ?_
    refine j_top (y := nI w) (by rw [← hy, rcu_ne (by decide)]; (first | rw [if_pos hs2] | rw [if_neg hs2])) ?_
    refine j_iast F ⟨by decide, rfl⟩ rfl (by omega) (by decide) dX6_works_107 ?_
    refine j_iload F.1 dX6_works_108 rfl ?_
    refine j_if_eq F.1 129 dX6_works_110 (by decide) (fun _ => ?_) (fun h110 => False.elim (by revert h110; decide))
    refine j_aload_n F.1 dX6_works_129 rfl ?_
    refine j_aload_n F.1 dX6_works_130 rfl ?_
    refine j_getr F (k := 9) inX6 rfl (by decide) fl_X6_31 ⟨by decide, rfl⟩ rfl dX6_works_131 ?_
    refine j_iload_n F.1 dX6_works_134 rfl ?_
    refine j_iald F ⟨by decide, rfl⟩ rfl (by omega) (by decide) dX6_works_135 ?_
    refine j_top (y := nI w) (by rw [rcu_self]) ?_
    refine j_callVv F (k_enters hw10 (by rw [rcu_ne (by decide), rcu_ne (by decide)]; exact hd) (by omega) (hp nt)) co_X6_enters ml_X6_114 im_X6_enters se_X6_enters in_X6 rc_X6_enters rfl (by decide) (by decide) ⟨by decide, rfl⟩ rfl rfl (Nat.le_of_ble_eq_true rfl) dX6_works_136 ?_
    refine j_goto F.1 154 dX6_works_139 (by decide) ?_
    exact j_vret F dX6_works_154 ((rVe (by unfold M_work1; first | rw [if_pos tt] | rw [if_neg nt])))
  · refine j_iconst F.1 (1) dX6_works_71 (by decide) ?_
    refine j_goto F.1 76 dX6_works_72 (by decide) ?_
    refine j_istore F.1 dX6_works_76 (by rw [hn]; decide) ?_
    refine j_aload_n F.1 dX6_works_78 rfl ?_
    refine j_getr F (k := 9) inX6 rfl (by decide) fl_X6_31 ⟨by decide, rfl⟩ rfl dX6_works_79 ?_
    refine j_iload_n F.1 dX6_works_82 rfl ?_
    refine j_iload F.1 dX6_works_83 rfl ?_
    refine j_if_eq F.1 101 dX6_works_85 (by decide) (fun h85 => False.elim (by revert h85; decide)) (fun _ => ?_)
    refine j_iload_n F.1 dX6_works_88 rfl ?_
    refine j_if_gt F.1 101 dX6_works_89 (by decide) (fun h89 => ?_) (fun h89 => ?_)
    · have hs2 : ¬ (v 1 (ix c 0) = 5 ∧ A_ans (v 1) x ≤ 0) := fun z => Int32.not_le.mpr h89 z.2
      refine j_aload_n F.1 dX6_works_101 rfl ?_
      refine j_iload_n F.1 dX6_works_102 rfl ?_
      refine j_iconst F.1 (3) dX6_works_103 (by decide) ?_
      refine j_callVi F (k_of hc10 (by decide)) co_X6_of ml_X6_55 im_X6_of se_X6_of in_X6 rc_X6_of rfl (by decide) (by decide) ⟨by decide, rfl⟩ rfl rfl (Nat.le_of_ble_eq_true rfl) dX6_works_104 ?_
      refine j_top (y := nI w) (by rw [← hy, rcu_ne (by decide)]; (first | rw [if_pos hs2] | rw [if_neg hs2])) ?_
      refine j_iast F ⟨by decide, rfl⟩ rfl (by omega) (by decide) dX6_works_107 ?_
      refine j_iload F.1 dX6_works_108 rfl ?_
      refine j_if_eq F.1 129 dX6_works_110 (by decide) (fun h110 => False.elim (by revert h110; decide)) (fun _ => ?_)
      refine j_iload_n F.1 dX6_works_113 rfl ?_
      refine j_ldc F cn_X6_106 dX6_works_114 ?_
      refine j_icmp_ne F.1 129 dX6_works_116 (by decide) (fun h116 => ?_) (fun h116 => ?_)
      · have nt : ¬ (v 1 (ix c 0) = 5 ∧ A_ans (v 1) x = 2000000000) := fun z => h116 z.2
        refine j_aload_n F.1 dX6_works_129 rfl ?_
        refine j_aload_n F.1 dX6_works_130 rfl ?_
        refine j_getr F (k := 9) inX6 rfl (by decide) fl_X6_31 ⟨by decide, rfl⟩ rfl dX6_works_131 ?_
        refine j_iload_n F.1 dX6_works_134 rfl ?_
        refine j_iald F ⟨by decide, rfl⟩ rfl (by omega) (by decide) dX6_works_135 ?_
        refine j_top (y := nI w) (by rw [rcu_self]) ?_
        refine j_callVv F (k_enters hw10 (by rw [rcu_ne (by decide), rcu_ne (by decide)]; exact hd) (by omega) (hp nt)) co_X6_enters ml_X6_114 im_X6_enters se_X6_enters in_X6 rc_X6_enters rfl (by decide) (by decide) ⟨by decide, rfl⟩ rfl rfl (Nat.le_of_ble_eq_true rfl) dX6_works_136 ?_
        refine j_goto F.1 154 dX6_works_139 (by decide) ?_
        exact j_vret F dX6_works_154 ((rVe (by unfold M_work1; first | rw [if_pos tt] | rw [if_neg nt])))
      · have tt : v 1 (ix c 0) = 5 ∧ A_ans (v 1) x = 2000000000 := ⟨h68, h116⟩
        refine j_aload_n F.1 dX6_works_119 rfl ?_
        refine j_iload_n F.1 dX6_works_120 rfl ?_
        refine j_iconst F.1 (1) dX6_works_121 (by decide) ?_
        refine j_iconst F.1 (-1) dX6_works_122 (by decide) ?_
        refine j_callVv F (k_ends1 hc10 (x := x) (by rw [rcu_ne (by decide), rcu_ne (by decide)]; exact hx) hx10 (by rw [rcu_ne (by decide), rcu_ne (by decide)]; exact hd)) co_X6_ends ml_X6_124 im_X6_ends se_X6_ends in_X6 rc_X6_ends rfl (by decide) (by decide) ⟨by decide, rfl⟩ rfl rfl (Nat.le_of_ble_eq_true rfl) dX6_works_123 ?_
        refine j_goto F.1 139 dX6_works_126 (by decide) ?_
        refine j_goto F.1 154 dX6_works_139 (by decide) ?_
        exact j_vret F dX6_works_154 ((rVe (by unfold M_work1; first | rw [if_pos tt] | rw [if_neg nt])))
    · have hs2 : v 1 (ix c 0) = 5 ∧ A_ans (v 1) x ≤ 0 := And.intro h68 (Int32.not_lt.mp h89)
      refine j_aload_n F.1 dX6_works_92 rfl ?_
      refine j_iload_n F.1 dX6_works_93 rfl ?_
      refine j_iconst F.1 (4) dX6_works_94 (by decide) ?_
      refine j_callVi F (k_of hc10 (by decide)) co_X6_of ml_X6_55 im_X6_of se_X6_of in_X6 rc_X6_of rfl (by decide) (by decide) ⟨by decide, rfl⟩ rfl rfl (Nat.le_of_ble_eq_true rfl) dX6_works_95 ?_
      refine j_goto F.1 107 dX6_works_98 (by decide) ?_
      refine j_top (y := nI w) (by rw [← hy, rcu_ne (by decide)]; (first | rw [if_pos hs2] | rw [if_neg hs2])) ?_
      refine j_iast F ⟨by decide, rfl⟩ rfl (by omega) (by decide) dX6_works_107 ?_
      refine j_iload F.1 dX6_works_108 rfl ?_
      refine j_if_eq F.1 129 dX6_works_110 (by decide) (fun h110 => False.elim (by revert h110; decide)) (fun _ => ?_)
      refine j_iload_n F.1 dX6_works_113 rfl ?_
      refine j_ldc F cn_X6_106 dX6_works_114 ?_
      refine j_icmp_ne F.1 129 dX6_works_116 (by decide) (fun h116 => ?_) (fun h116 => ?_)
      · have nt : ¬ (v 1 (ix c 0) = 5 ∧ A_ans (v 1) x = 2000000000) := fun z => h116 z.2
        refine j_aload_n F.1 dX6_works_129 rfl ?_
        refine j_aload_n F.1 dX6_works_130 rfl ?_
        refine j_getr F (k := 9) inX6 rfl (by decide) fl_X6_31 ⟨by decide, rfl⟩ rfl dX6_works_131 ?_
        refine j_iload_n F.1 dX6_works_134 rfl ?_
        refine j_iald F ⟨by decide, rfl⟩ rfl (by omega) (by decide) dX6_works_135 ?_
        refine j_top (y := nI w) (by rw [rcu_self]) ?_
        refine j_callVv F (k_enters hw10 (by rw [rcu_ne (by decide), rcu_ne (by decide)]; exact hd) (by omega) (hp nt)) co_X6_enters ml_X6_114 im_X6_enters se_X6_enters in_X6 rc_X6_enters rfl (by decide) (by decide) ⟨by decide, rfl⟩ rfl rfl (Nat.le_of_ble_eq_true rfl) dX6_works_136 ?_
        refine j_goto F.1 154 dX6_works_139 (by decide) ?_
        exact j_vret F dX6_works_154 ((rVe (by unfold M_work1; first | rw [if_pos tt] | rw [if_neg nt])))
      · have tt : v 1 (ix c 0) = 5 ∧ A_ans (v 1) x = 2000000000 := ⟨h68, h116⟩
        refine j_aload_n F.1 dX6_works_119 rfl ?_
        refine j_iload_n F.1 dX6_works_120 rfl ?_
        refine j_iconst F.1 (1) dX6_works_121 (by decide) ?_
        refine j_iconst F.1 (-1) dX6_works_122 (by decide) ?_
        refine j_callVv F (k_ends1 hc10 (x := x) (by rw [rcu_ne (by decide), rcu_ne (by decide)]; exact hx) hx10 (by rw [rcu_ne (by decide), rcu_ne (by decide)]; exact hd)) co_X6_ends ml_X6_124 im_X6_ends se_X6_ends in_X6 rc_X6_ends rfl (by decide) (by decide) ⟨by decide, rfl⟩ rfl rfl (Nat.le_of_ble_eq_true rfl) dX6_works_123 ?_
        refine j_goto F.1 139 dX6_works_126 (by decide) ?_
        refine j_goto F.1 154 dX6_works_139 (by decide) ?_
        exact j_vret F dX6_works_154 ((rVe (by unfold M_work1; first | rw [if_pos tt] | rw [if_neg nt])))
set_option maxHeartbeats 4000000 in
set_option maxRecDepth 100000 in
theorem k_works2 {Y : rcY} {la : Launch} {v : rcM} {tp c x y : Nat} (hc10 : c < 10) (ht10 : tp < 10) (hc : v 5 tp = nI c) (hd : v 0 10 = nI (tp + 1)) (hx : v 1 (ix c 2) = nI x) (hx10 : x < 10) (hk : v 7 tp = 2) (hy : v 8 tp = nI y) (hy10 : y < 10) : rcT shM 13 Y la 3 (yX6_works, cX6_works, 5, none) [.ref (Y.2.1 0), .int (nI tp)] (v) (rV (M_end (rcu v 7 tp 3) c tp (A_made (v 1 (ix c 0)) (A_ans (v 1) x) (A_ans (v 1) y)) 2 (nI y))) := by
  refine rcT.of (by decide +kernel) (Nat.le_of_ble_eq_true rfl) (fun X F hn => ?_)
  refine j_aload_n F.1 dX6_works_0 rfl ?_
  refine j_getr F (k := 6) inX6 rfl (by decide) fl_X6_22 ⟨by decide, rfl⟩ rfl dX6_works_1 ?_
  refine j_iload_n F.1 dX6_works_4 rfl ?_
  refine j_iald F ⟨by decide, rfl⟩ rfl (by omega) (by decide) dX6_works_5 ?_
  refine j_top hc ?_
  refine j_istore_n F.1 dX6_works_6 (by rw [hn]; decide) ?_
  refine j_aload_n F.1 dX6_works_7 rfl ?_
  refine j_getr F (k := 8) inX6 rfl (by decide) fl_X6_28 ⟨by decide, rfl⟩ rfl dX6_works_8 ?_
  refine j_iload_n F.1 dX6_works_11 rfl ?_
  refine j_dup2 F.1 dX6_works_12 rfl rfl ?_
  refine j_iald F ⟨by decide, rfl⟩ rfl (by omega) (by decide) dX6_works_13 ?_
  refine j_iconst F.1 (1) dX6_works_14 (by decide) ?_
  refine j_iadd F.1 dX6_works_15 ?_
  refine j_top (y := 3) (by rw [hk]; rfl) ?_
  refine j_iast F ⟨by decide, rfl⟩ rfl (by omega) (by decide) dX6_works_16 ?_
  refine j_aload_n F.1 dX6_works_17 rfl ?_
  refine j_getr F (k := 8) inX6 rfl (by decide) fl_X6_28 ⟨by decide, rfl⟩ rfl dX6_works_18 ?_
  refine j_iload_n F.1 dX6_works_21 rfl ?_
  refine j_iald F ⟨by decide, rfl⟩ rfl (by omega) (by decide) dX6_works_22 ?_
  refine j_top (y := 3) (by rw [rcu_self]) ?_
  refine j_iconst F.1 (1) dX6_works_23 (by decide) ?_
  refine j_icmp_ne F.1 40 dX6_works_24 (by decide) (fun _ => ?_) (fun h24 => False.elim (by revert h24; decide))
  refine j_aload_n F.1 dX6_works_40 rfl ?_
  refine j_getr F (k := 8) inX6 rfl (by decide) fl_X6_28 ⟨by decide, rfl⟩ rfl dX6_works_41 ?_
  refine j_iload_n F.1 dX6_works_44 rfl ?_
  refine j_iald F ⟨by decide, rfl⟩ rfl (by omega) (by decide) dX6_works_45 ?_
  refine j_top (y := 3) (by rw [rcu_self]) ?_
  refine j_iconst F.1 (2) dX6_works_46 (by decide) ?_
  refine j_icmp_ne F.1 142 dX6_works_47 (by decide) (fun _ => ?_) (fun h47 => False.elim (by revert h47; decide))
  refine j_aload_n F.1 dX6_works_142 rfl ?_
  refine j_iload_n F.1 dX6_works_143 rfl ?_
  refine j_iconst F.1 (2) dX6_works_144 (by decide) ?_
  refine j_aload_n F.1 dX6_works_145 rfl ?_
  refine j_getr F (k := 9) inX6 rfl (by decide) fl_X6_31 ⟨by decide, rfl⟩ rfl dX6_works_146 ?_
  refine j_iload_n F.1 dX6_works_149 rfl ?_
  refine j_iald F ⟨by decide, rfl⟩ rfl (by omega) (by decide) dX6_works_150 ?_
  refine j_top (y := nI y) (by rw [rcu_ne (by decide)]; exact hy) ?_
  refine j_callVv F (k_ends2 hy10 hc10 (x := x) (by rw [rcu_ne (by decide)]; exact hx) hx10 (by rw [rcu_ne (by decide)]; exact hd)) co_X6_ends ml_X6_124 im_X6_ends se_X6_ends in_X6 rc_X6_ends rfl (by decide) (by decide) ⟨by decide, rfl⟩ rfl rfl (Nat.le_of_ble_eq_true rfl) dX6_works_151 ?_
  exact j_vret F dX6_works_154 ((rVe (by rw [rcu_ne (show (1 : Nat) ≠ 7 by decide)])))
end
section
/-! What a look is, as a function of the state's row; what it keeps. -/
theorem ix_o {i c j k : Nat} (h : i ≠ c) (hj : j < 15) (hk : k < 15) : ix i j ≠ ix c k := by unfold ix; omega
theorem ix_j {i j k : Nat} (h : j ≠ k) : ix i j ≠ ix i k := by unfold ix; omega
theorem ix_g {i j k : Nat} (h : k < 8) : ix i j ≠ k := by unfold ix; omega
theorem ix_h {i j k : Nat} (h : k < 8) : k ≠ ix i j := by unfold ix; omega
/-- an answer's range -/
def okA (x : Int32) : Prop := x = 2000000000 ∨ (-1000000000 ≤ x.toInt ∧ x.toInt ≤ 1000000000)
/-- a cell number in a row -/
def okC (x : Int32) : Prop := ∃ i, i < 10 ∧ x = nI i
def wfCell (f : Nat → Int32) (i : Nat) : Prop :=
  (∃ fo : Nat, fo ≤ 5 ∧ f (ix i 0) = nI fo) ∧
  (f (ix i 0) = 0 → -99999 ≤ (f (ix i 1)).toInt ∧ (f (ix i 1)).toInt ≤ 99999 ∧ f (ix i 2) = 0 ∧ f (ix i 3) = 0 ∧ f (ix i 4) = 0 ∧ 0 ≤ (f (ix i 5)).toInt ∧ f (ix i 6) = 0) ∧
  (¬ f (ix i 0) = 0 → f (ix i 1) = 0 ∧ okC (f (ix i 2)) ∧ okC (f (ix i 3)) ∧ okC (f (ix i 4)) ∧ (¬ f (ix i 0) = 5 → f (ix i 4) = 0)) ∧
  (f (ix i 6) = 0 ∨ f (ix i 6) = 1) ∧
  (f (ix i 6) = 1 → f (ix i 11) = f (ix i 2) ∧ ((f (ix i 10) = 1) ∨ (f (ix i 10) = 2 ∧ okC (f (ix i 12)))) ∧ okA (f (ix i 7)) ∧ 0 ≤ (f (ix i 8)).toInt)
def WF (f : Nat → Int32) : Prop := (∀ i, i < 10 → wfCell f i) ∧ 0 ≤ (f 0).toInt ∧ 0 ≤ (f 5).toInt
/-- seen now, or a value -/
def Fr (f : Nat → Int32) (i : Nat) : Prop := f (ix i 0) = 0 ∨ (f (ix i 6) = 1 ∧ f (ix i 9) = f 0)
/-- what looks keep: O are the open cells -/
def Good (f g : Nat → Int32) (O : List Nat) : Prop :=
  g 0 = f 0 ∧ g 4 = f 4 ∧ g 5 = f 5 ∧ (∀ i, i < 10 → ∀ j, j < 6 → g (ix i j) = f (ix i j)) ∧ (∀ o, o ∈ O → ∀ j, j < 15 → g (ix o j) = f (ix o j)) ∧
  (∀ i, i < 10 → Fr f i → Fr g i ∧ A_ans g i = A_ans f i ∧ A_chg g i = A_chg f i) ∧ (WF f → WF g)
theorem Good.rf {f : Nat → Int32} {O : List Nat} : Good f f O := ⟨rfl, rfl, rfl, fun _ _ _ _ => rfl, fun _ _ _ _ => rfl, fun _ _ h => ⟨h, rfl, rfl⟩, fun h => h⟩
theorem Good.tr {f g h : Nat → Int32} {O : List Nat} (a : Good f g O) (b : Good g h O) : Good f h O := by
  obtain ⟨a1, a2, a3, a4, a5, a6, a7⟩ := a
  obtain ⟨b1, b2, b3, b4, b5, b6, b7⟩ := b
  refine ⟨b1.trans a1, b2.trans a2, b3.trans a3, fun i hi j hj => (b4 i hi j hj).trans (a4 i hi j hj), fun o ho j hj => (b5 o ho j hj).trans (a5 o ho j hj), fun i hi hf => ?_, fun hw => b7 (a7 hw)⟩
  obtain ⟨x1, x2, x3⟩ := a6 i hi hf
  obtain ⟨y1, y2, y3⟩ := b6 i hi x1
  exact ⟨y1, y2.trans x2, y3.trans x3⟩
theorem Good.tail {f g : Nat → Int32} {c : Nat} {O : List Nat} (a : Good f g (c :: O)) : Good f g O := ⟨a.1, a.2.1, a.2.2.1, a.2.2.2.1, fun o ho => a.2.2.2.2.1 o (List.mem_cons_of_mem _ ho), a.2.2.2.2.2⟩
theorem Good.nfr {f g : Nat → Int32} {O : List Nat} (a : Good f g O) {o : Nat} (ho : o ∈ O) (h : ¬ Fr f o) : ¬ Fr g o := by
  intro q
  apply h
  obtain ⟨a1, -, -, -, a5, -⟩ := a
  unfold Fr at q ⊢
  rw [a5 o ho 0 (by decide), a5 o ho 6 (by decide), a5 o ho 9 (by decide), a1] at q
  exact q
/-- a number as a cell -/
def cN (x : Int32) : Nat := x.toNatClampNeg
theorem cN_nI {i : Nat} (h : i < 10) : cN (nI i) = i := nI_clamp (by omega)
theorem cN_ok {x : Int32} (h : okC x) : cN x < 10 ∧ x = nI (cN x) := by
  obtain ⟨i, hi, rfl⟩ := h
  rw [cN_nI hi]
  exact ⟨hi, rfl⟩
/-- the cell that is used after the first one, whose answer is x -/
def A_nxt (f : Nat → Int32) (c : Nat) (x : Int32) : Int32 := if f (ix c 0) = 5 ∧ x ≤ 0 then f (ix c 4) else f (ix c 3)
def A_look : Nat → List Nat → (Nat → Int32) → Nat → Option (Nat → Int32)
  | 0, _, _, _ => none
  | n + 1, O, f, c =>
    if f (ix c 0) = 0 then some f
    else if f (ix c 6) = 1 ∧ f (ix c 9) = f 0 then some (A_take f c)
    else if c ∈ O then none
    else
      let work : (Nat → Int32) → Option (Nat → Int32) := fun f =>
        match A_look n (c :: O) f (cN (f (ix c 2))) with
        | none => none
        | some f1 =>
          if f1 (ix c 0) = 5 ∧ A_ans f1 (cN (f (ix c 2))) = 2000000000 then some (A_end f1 c 2000000000 1 0)
          else match A_look n (c :: O) f1 (cN (A_nxt f1 c (A_ans f1 (cN (f (ix c 2)))))) with
            | none => none
            | some f2 => some (A_end f2 c (A_made (f2 (ix c 0)) (A_ans f2 (cN (f (ix c 2)))) (A_ans f2 (cN (A_nxt f1 c (A_ans f1 (cN (f (ix c 2)))))))) 2 (A_nxt f1 c (A_ans f1 (cN (f (ix c 2))))))
      if f (ix c 6) = 1 then
        match A_look n (c :: O) f (cN (f (ix c 11))) with
        | none => none
        | some f1 =>
          if f1 (ix c 9) < A_chg f1 (cN (f (ix c 11))) then work f1
          else if f1 (ix c 10) = 1 then some (A_keep f1 c)
          else match A_look n (c :: O) f1 (cN (f1 (ix c 12))) with
            | none => none
            | some f2 => if f2 (ix c 9) < A_chg f2 (cN (f1 (ix c 12))) then work f2 else some (A_keep f2 c)
      else work f
/-- to work a formula out: its first cell, then its second -/
def A_work (n : Nat) (O : List Nat) (f : Nat → Int32) (c : Nat) : Option (Nat → Int32) :=
  match A_look n (c :: O) f (cN (f (ix c 2))) with
  | none => none
  | some f1 =>
    if f1 (ix c 0) = 5 ∧ A_ans f1 (cN (f (ix c 2))) = 2000000000 then some (A_end f1 c 2000000000 1 0)
    else match A_look n (c :: O) f1 (cN (A_nxt f1 c (A_ans f1 (cN (f (ix c 2)))))) with
      | none => none
      | some f2 => some (A_end f2 c (A_made (f2 (ix c 0)) (A_ans f2 (cN (f (ix c 2)))) (A_ans f2 (cN (A_nxt f1 c (A_ans f1 (cN (f (ix c 2)))))))) 2 (A_nxt f1 c (A_ans f1 (cN (f (ix c 2))))))
/-- a remembered answer is looked at again -/
def A_chk (n : Nat) (O : List Nat) (f : Nat → Int32) (c : Nat) : Option (Nat → Int32) :=
  match A_look n (c :: O) f (cN (f (ix c 11))) with
  | none => none
  | some f1 =>
    if f1 (ix c 9) < A_chg f1 (cN (f (ix c 11))) then A_work n O f1 c
    else if f1 (ix c 10) = 1 then some (A_keep f1 c)
    else match A_look n (c :: O) f1 (cN (f1 (ix c 12))) with
      | none => none
      | some f2 => if f2 (ix c 9) < A_chg f2 (cN (f1 (ix c 12))) then A_work n O f2 c else some (A_keep f2 c)
theorem A_look_s (n : Nat) (O : List Nat) (f : Nat → Int32) (c : Nat) : A_look (n + 1) O f c =
    if f (ix c 0) = 0 then some f
    else if f (ix c 6) = 1 ∧ f (ix c 9) = f 0 then some (A_take f c)
    else if c ∈ O then none
    else if f (ix c 6) = 1 then A_chk n O f c else A_work n O f c := rfl
/-- what the three ends of a look do: to cell c alone, and to the counts -/
def OpC (f g : Nat → Int32) (c : Nat) : Prop := g 0 = f 0 ∧ g 4 = f 4 ∧ g 5 = f 5 ∧ (∀ i j, i ≠ c → j < 15 → g (ix i j) = f (ix i j)) ∧ ∀ j, j < 6 → g (ix c j) = f (ix c j)
theorem OpC.of {f g : Nat → Int32} {c : Nat} (h : ∀ k, k ≠ 1 → k ≠ 2 → k ≠ 3 → k ≠ 6 → k ≠ 7 → (∀ j, 6 ≤ j → j < 14 → k ≠ ix c j) → g k = f k) : OpC f g c := by
  refine ⟨h 0 (by decide) (by decide) (by decide) (by decide) (by decide) (fun j _ _ => ix_h (by decide)), h 4 (by decide) (by decide) (by decide) (by decide) (by decide) (fun j _ _ => ix_h (by decide)), h 5 (by decide) (by decide) (by decide) (by decide) (by decide) (fun j _ _ => ix_h (by decide)), fun i j hi hj => ?_, fun j hj => ?_⟩
  · exact h _ (ix_g (by decide)) (ix_g (by decide)) (ix_g (by decide)) (ix_g (by decide)) (ix_g (by decide)) (fun q _ hq => ix_o hi hj (by omega))
  · exact h _ (ix_g (by decide)) (ix_g (by decide)) (ix_g (by decide)) (ix_g (by decide)) (ix_g (by decide)) (fun q h6 _ => ix_j (by omega))
theorem take_op {f : Nat → Int32} {c : Nat} : OpC f (A_take f c) c := OpC.of (fun k h1 h2 h3 h6 h7 h => by
  unfold A_take A_uses
  rw [pk_un (h 13 (by decide) (by decide)), pk_un h7, pk_un h3])
theorem keep_op {f : Nat → Int32} {c : Nat} : OpC f (A_keep f c) c := OpC.of (fun k h1 h2 h3 h6 h7 h => by
  unfold A_keep A_uses
  rw [pk_un (h 13 (by decide) (by decide)), pk_un h7, pk_un h2, pk_un (h 9 (by decide) (by decide))])
theorem end1_op {f : Nat → Int32} {c : Nat} {ds ch its many o2 : Int32} : OpC f (A_end1 f c ds ch its many o2) c := OpC.of (fun k h1 h2 h3 h6 h7 h => by
  unfold A_end1 A_uses
  rw [pk_un (h 13 (by decide) (by decide)), pk_un h7, pk_un h1, pk_un (h 12 (by decide) (by decide)), pk_un (h 11 (by decide) (by decide)), pk_un (h 10 (by decide) (by decide)), pk_un (h 9 (by decide) (by decide)), pk_un (h 7 (by decide) (by decide)), pk_un (h 6 (by decide) (by decide)), pk_un (h 8 (by decide) (by decide)), pk_un h6])
theorem take_f {f : Nat → Int32} {c j : Nat} (hj : j < 13) : A_take f c (ix c j) = f (ix c j) := by
  unfold A_take A_uses
  rw [pk_un (ix_j (by omega)), pk_un (ix_g (by decide)), pk_un (ix_g (by decide))]
theorem keep_f {f : Nat → Int32} {c j : Nat} (hj : j < 13) (h9 : j ≠ 9) : A_keep f c (ix c j) = f (ix c j) := by
  unfold A_keep A_uses
  rw [pk_un (ix_j (by omega)), pk_un (ix_g (by decide)), pk_un (ix_g (by decide)), pk_un (ix_j h9)]
theorem keep_9 {f : Nat → Int32} {c : Nat} : A_keep f c (ix c 9) = f 0 := by
  unfold A_keep A_uses
  rw [pk_un (ix_j (by omega)), pk_un (ix_g (by decide)), pk_un (ix_g (by decide)), pk_us]
theorem end1_6 {f : Nat → Int32} {c : Nat} {ds ch its many o2 : Int32} : A_end1 f c ds ch its many o2 (ix c 6) = 1 := by
  unfold A_end1 A_uses
  rw [pk_un (ix_j (by decide)), pk_un (ix_g (by decide)), pk_un (ix_g (by decide)), pk_un (ix_j (by decide)), pk_un (ix_j (by decide)), pk_un (ix_j (by decide)), pk_un (ix_j (by decide)), pk_un (ix_j (by decide)), pk_us]
theorem end1_7 {f : Nat → Int32} {c : Nat} {ds ch its many o2 : Int32} : A_end1 f c ds ch its many o2 (ix c 7) = its := by
  unfold A_end1 A_uses
  rw [pk_un (ix_j (by decide)), pk_un (ix_g (by decide)), pk_un (ix_g (by decide)), pk_un (ix_j (by decide)), pk_un (ix_j (by decide)), pk_un (ix_j (by decide)), pk_un (ix_j (by decide)), pk_us]
theorem end1_8 {f : Nat → Int32} {c : Nat} {ds ch its many o2 : Int32} : A_end1 f c ds ch its many o2 (ix c 8) = ch := by
  unfold A_end1 A_uses
  rw [pk_un (ix_j (by decide)), pk_un (ix_g (by decide)), pk_un (ix_g (by decide)), pk_un (ix_j (by decide)), pk_un (ix_j (by decide)), pk_un (ix_j (by decide)), pk_un (ix_j (by decide)), pk_un (ix_j (by decide)), pk_un (ix_j (by decide)), pk_us]
theorem end1_9 {f : Nat → Int32} {c : Nat} {ds ch its many o2 : Int32} : A_end1 f c ds ch its many o2 (ix c 9) = f 0 := by
  unfold A_end1 A_uses
  rw [pk_un (ix_j (by decide)), pk_un (ix_g (by decide)), pk_un (ix_g (by decide)), pk_un (ix_j (by decide)), pk_un (ix_j (by decide)), pk_un (ix_j (by decide)), pk_us, pk_un (ix_h (by decide)), pk_un (ix_h (by decide)), pk_un (ix_h (by decide)), pk_un (by decide)]
theorem end1_10 {f : Nat → Int32} {c : Nat} {ds ch its many o2 : Int32} : A_end1 f c ds ch its many o2 (ix c 10) = many := by
  unfold A_end1 A_uses
  rw [pk_un (ix_j (by decide)), pk_un (ix_g (by decide)), pk_un (ix_g (by decide)), pk_un (ix_j (by decide)), pk_un (ix_j (by decide)), pk_us]
theorem end1_11 {f : Nat → Int32} {c : Nat} {ds ch its many o2 : Int32} : A_end1 f c ds ch its many o2 (ix c 11) = f (ix c 2) := by
  unfold A_end1 A_uses
  rw [pk_un (ix_j (by decide)), pk_un (ix_g (by decide)), pk_un (ix_g (by decide)), pk_un (ix_j (by decide)), pk_us, pk_un (ix_j (by decide)), pk_un (ix_j (by decide)), pk_un (ix_j (by decide)), pk_un (ix_j (by decide)), pk_un (ix_j (by decide)), pk_un (ix_g (by decide))]
theorem end1_12 {f : Nat → Int32} {c : Nat} {ds ch its many o2 : Int32} : A_end1 f c ds ch its many o2 (ix c 12) = o2 := by
  unfold A_end1 A_uses
  rw [pk_un (ix_j (by decide)), pk_un (ix_g (by decide)), pk_un (ix_g (by decide)), pk_us]
end
section
/-! What a look keeps, proved. -/
theorem wfCell_same {f g : Nat → Int32} {i : Nat} (h : ∀ j, j < 13 → j ≠ 9 → g (ix i j) = f (ix i j)) (w : wfCell f i) : wfCell g i := by
  unfold wfCell at w ⊢
  rw [h 0 (by decide) (by decide), h 1 (by decide) (by decide), h 2 (by decide) (by decide), h 3 (by decide) (by decide), h 4 (by decide) (by decide), h 5 (by decide) (by decide), h 6 (by decide) (by decide), h 7 (by decide) (by decide), h 8 (by decide) (by decide), h 10 (by decide) (by decide), h 11 (by decide) (by decide), h 12 (by decide) (by decide)]
  exact w
theorem OpC.fr {f g : Nat → Int32} {c i : Nat} (h : OpC f g c) (hi : i ≠ c) (hf : Fr f i) : Fr g i ∧ A_ans g i = A_ans f i ∧ A_chg g i = A_chg f i := by
  obtain ⟨h0, -, -, ho, -⟩ := h
  unfold Fr A_ans A_chg at *
  rw [ho i 0 hi (by decide), ho i 6 hi (by decide), ho i 9 hi (by decide), h0, ho i 1 hi (by decide), ho i 7 hi (by decide), ho i 5 hi (by decide), ho i 8 hi (by decide)]
  exact ⟨hf, rfl, rfl⟩
theorem OpC.good {f g : Nat → Int32} {c : Nat} {O : List Nat} (h : OpC f g c) (hc : c ∉ O) (hfr : Fr f c → Fr g c ∧ A_ans g c = A_ans f c ∧ A_chg g c = A_chg f c) (hw : WF f → c < 10 → wfCell g c) : Good f g O := by
  refine ⟨h.1, h.2.1, h.2.2.1, fun i hi j hj => ?_, fun o ho j hj => ?_, fun i hi hf => ?_, fun w => ⟨fun i hi => ?_, ?_, ?_⟩⟩
  · by_cases e : i = c
    · subst e; exact h.2.2.2.2 j hj
    · exact h.2.2.2.1 i j e (by omega)
  · exact h.2.2.2.1 o j (fun e => hc (e ▸ ho)) hj
  · by_cases e : i = c
    · subst e; exact hfr hf
    · exact h.fr e hf
  · by_cases e : i = c
    · subst e; exact hw w hi
    · exact wfCell_same (fun j hj _ => h.2.2.2.1 i j e (by omega)) (w.1 i hi)
  · rw [h.1]; exact w.2.1
  · rw [h.2.2.1]; exact w.2.2
theorem take_good {f : Nat → Int32} {c : Nat} {O : List Nat} (hc : c ∉ O) (h6 : f (ix c 6) = 1 ∧ f (ix c 9) = f 0) : Good f (A_take f c) O ∧ Fr (A_take f c) c := by
  have e0 : A_take f c 0 = f 0 := take_op.1
  have fr : Fr (A_take f c) c := Or.inr (by rw [take_f (by decide), take_f (by decide), e0]; exact h6)
  refine ⟨take_op.good hc (fun _ => ⟨fr, ?_, ?_⟩) (fun w hi => wfCell_same (fun j hj _ => take_f hj) (w.1 c hi)), fr⟩
  · unfold A_ans; rw [take_f (by decide), take_f (by decide), take_f (by decide)]
  · unfold A_chg; rw [take_f (by decide), take_f (by decide), take_f (by decide)]
theorem keep_good {f : Nat → Int32} {c : Nat} {O : List Nat} (hc : c ∉ O) (hn : ¬ Fr f c) (h6 : f (ix c 6) = 1) : Good f (A_keep f c) O ∧ Fr (A_keep f c) c := by
  have e0 : A_keep f c 0 = f 0 := keep_op.1
  refine ⟨keep_op.good hc (fun q => absurd q hn) (fun w hi => wfCell_same (fun j hj h9 => keep_f hj h9) (w.1 c hi)), Or.inr ?_⟩
  rw [keep_f (by decide) (by decide), keep_9, e0]
  exact ⟨h6, rfl⟩
theorem end1_good {f : Nat → Int32} {c : Nat} {O : List Nat} {ds ch its many o2 : Int32} (hc : c ∉ O) (hn : ¬ Fr f c) (hi : WF f → okA its) (hch : WF f → 0 ≤ ch.toInt) (hm : many = 1 ∨ (many = 2 ∧ okC o2)) : Good f (A_end1 f c ds ch its many o2) O ∧ Fr (A_end1 f c ds ch its many o2) c := by
  have e0 : A_end1 f c ds ch its many o2 0 = f 0 := end1_op.1
  have h5 := (end1_op (f := f) (c := c) (ds := ds) (ch := ch) (its := its) (many := many) (o2 := o2)).2.2.2.2
  refine ⟨end1_op.good hc (fun q => absurd q hn) (fun w hi' => ?_), Or.inr ?_⟩
  · have w0 := w.1 c hi'
    unfold wfCell at w0 ⊢
    rw [h5 0 (by decide), h5 1 (by decide), h5 2 (by decide), h5 3 (by decide), h5 4 (by decide), h5 5 (by decide), end1_6, end1_7, end1_8, end1_10, end1_11, end1_12]
    exact ⟨w0.1, fun z => absurd (Or.inl z) hn, w0.2.2.1, Or.inr rfl, fun _ => ⟨rfl, hm, hi w, hch w⟩⟩
  · rw [end1_6, end1_9, e0]
    exact ⟨rfl, rfl⟩
theorem end_good {f : Nat → Int32} {c : Nat} {O : List Nat} {its many o2 : Int32} (hc : c ∉ O) (hc10 : c < 10) (hn : ¬ Fr f c) (hi : WF f → okA its) (hm : many = 1 ∨ (many = 2 ∧ okC o2)) : Good f (A_end f c its many o2) O ∧ Fr (A_end f c its many o2) c := by
  unfold A_end
  split
  · rename_i h
    exact end1_good hc hn hi (fun w => ((w.1 c hc10).2.2.2.2 h.1).2.2.2) hm
  · exact end1_good hc hn hi (fun w => w.2.1) hm
theorem bnd_ok {x : Int64} : okA (bnd x) := by
  unfold bnd
  split
  · exact Or.inl rfl
  · rename_i h
    refine Or.inr ?_
    have h1 : ¬ x.toInt < -1000000000 := fun z => h (Or.inl (Int64.lt_iff_toInt_lt.mpr z))
    have h2 : ¬ 1000000000 < x.toInt := fun z => h (Or.inr (Int64.lt_iff_toInt_lt.mpr z))
    have e : x.toInt32.toInt = x.toInt := by
      rw [Int64.toInt_toInt32]
      exact Int.bmod_eq_of_le (by omega) (by omega)
    rw [e]
    omega
theorem made_ok {a x y : Int32} (hx : okA x) (hy : okA y) : okA (A_made a x y) := by
  unfold A_made
  split
  · exact Or.inl rfl
  · split
    · exact bnd_ok
    · split
      · exact bnd_ok
      · split
        · exact bnd_ok
        · split
          · split
            · exact hx
            · exact hy
          · exact hy
theorem ans_ok {f : Nat → Int32} {i : Nat} (w : WF f) (hi : i < 10) (h : Fr f i) : okA (A_ans f i) := by
  unfold A_ans
  split
  · rename_i h0
    have := (w.1 i hi).2.1 h0
    exact Or.inr (by omega)
  · rename_i h0
    exact ((w.1 i hi).2.2.2.2 (h.elim (fun z => absurd z h0) (fun z => z.1))).2.2.1
theorem chg_ok {f : Nat → Int32} {i : Nat} (w : WF f) (hi : i < 10) (h : Fr f i) : 0 ≤ (A_chg f i).toInt := by
  unfold A_chg
  split
  · rename_i h0
    exact ((w.1 i hi).2.1 h0).2.2.2.2.2.1
  · rename_i h0
    exact ((w.1 i hi).2.2.2.2 (h.elim (fun z => absurd z h0) (fun z => z.1))).2.2.2
theorem nxt_ok {f : Nat → Int32} {c : Nat} {x : Int32} (w : WF f) (hc : c < 10) (h0 : ¬ f (ix c 0) = 0) : okC (A_nxt f c x) := by
  have := (w.1 c hc).2.2.1 h0
  unfold A_nxt
  split
  · exact this.2.2.2.1
  · exact this.2.2.1
theorem nxt_eq {f g : Nat → Int32} {c : Nat} {x : Int32} (h : ∀ j, j < 6 → g (ix c j) = f (ix c j)) : A_nxt g c x = A_nxt f c x := by
  unfold A_nxt
  rw [h 0 (by decide), h 3 (by decide), h 4 (by decide)]
/-- what is asked of a look -/
def Pre (O : List Nat) (f : Nat → Int32) : Prop := WF f ∧ ∀ o, o ∈ O → ¬ Fr f o
theorem Pre.next {f g : Nat → Int32} {O : List Nat} (h : Pre O f) (a : Good f g O) : Pre O g := ⟨a.2.2.2.2.2.2 h.1, fun o ho => a.nfr ho (h.2 o ho)⟩
def LG (n : Nat) : Prop := ∀ (O : List Nat) (f : Nat → Int32) (c : Nat) (g : Nat → Int32), c < 10 → Pre O f → A_look n O f c = some g → Good f g O ∧ Fr g c
theorem A_work_good {n : Nat} (ih : LG n) {O : List Nat} {f g : Nat → Int32} {c : Nat} (hc : c < 10) (hO : c ∉ O) (h0 : ¬ f (ix c 0) = 0) (hP : Pre (c :: O) f) (h : A_work n O f c = some g) : Good f g O ∧ Fr g c := by
  unfold A_work at h
  have hx := cN_ok ((hP.1.1 c hc).2.2.1 h0).2.1
  cases e1 : A_look n (c :: O) f (cN (f (ix c 2))) with
  | none => rw [e1] at h; cases h
  | some f1 =>
    rw [e1] at h
    obtain ⟨g1, fr1⟩ := ih _ _ _ _ hx.1 hP e1
    have P1 := hP.next g1
    have hn1 : ¬ Fr f1 c := P1.2 c (List.mem_cons_self)
    have s1 : ∀ j, j < 6 → f1 (ix c j) = f (ix c j) := g1.2.2.2.1 c hc
    have h01 : ¬ f1 (ix c 0) = 0 := by rw [s1 0 (by decide)]; exact h0
    dsimp only at h
    split at h
    · cases h
      obtain ⟨a, b⟩ := end_good (f := f1) (its := 2000000000) (many := 1) (o2 := 0) hO hc hn1 (fun _ => Or.inl rfl) (Or.inl rfl)
      exact ⟨g1.tail.tr a, b⟩
    · have hy := nxt_ok (x := A_ans f1 (cN (f (ix c 2)))) P1.1 hc h01
      have hy2 := cN_ok hy
      cases e2 : A_look n (c :: O) f1 (cN (A_nxt f1 c (A_ans f1 (cN (f (ix c 2)))))) with
      | none => rw [e2] at h; cases h
      | some f2 =>
        rw [e2] at h
        cases h
        obtain ⟨g2, fr2⟩ := ih _ _ _ _ hy2.1 P1 e2
        have P2 := P1.next g2
        have hn2 : ¬ Fr f2 c := P2.2 c (List.mem_cons_self)
        obtain ⟨a, b⟩ := end_good (f := f2) (its := A_made (f2 (ix c 0)) (A_ans f2 (cN (f (ix c 2)))) (A_ans f2 (cN (A_nxt f1 c (A_ans f1 (cN (f (ix c 2)))))))) (many := 2) (o2 := A_nxt f1 c (A_ans f1 (cN (f (ix c 2))))) hO hc hn2
          (fun w => made_ok (ans_ok w hx.1 (g2.2.2.2.2.2.1 _ hx.1 fr1).1) (ans_ok w hy2.1 fr2)) (Or.inr ⟨rfl, hy⟩)
        exact ⟨(g1.tail.tr g2.tail).tr a, b⟩
theorem A_chk_good {n : Nat} (ih : LG n) {O : List Nat} {f g : Nat → Int32} {c : Nat} (hc : c < 10) (hO : c ∉ O) (h0 : ¬ f (ix c 0) = 0) (h6 : f (ix c 6) = 1) (hP : Pre (c :: O) f) (h : A_chk n O f c = some g) : Good f g O ∧ Fr g c := by
  unfold A_chk at h
  have hw := (hP.1.1 c hc).2.2.2.2 h6
  have hx := cN_ok (show okC (f (ix c 11)) by rw [hw.1]; exact ((hP.1.1 c hc).2.2.1 h0).2.1)
  cases e1 : A_look n (c :: O) f (cN (f (ix c 11))) with
  | none => rw [e1] at h; cases h
  | some f1 =>
    rw [e1] at h
    obtain ⟨g1, fr1⟩ := ih _ _ _ _ hx.1 hP e1
    have P1 := hP.next g1
    have hn1 : ¬ Fr f1 c := P1.2 c (List.mem_cons_self)
    have s1 : ∀ j, j < 15 → f1 (ix c j) = f (ix c j) := g1.2.2.2.2.1 c (List.mem_cons_self)
    have h01 : ¬ f1 (ix c 0) = 0 := by rw [s1 0 (by decide)]; exact h0
    have h61 : f1 (ix c 6) = 1 := by rw [s1 6 (by decide)]; exact h6
    dsimp only at h
    split at h
    · obtain ⟨a, b⟩ := A_work_good ih hc hO h01 P1 h
      exact ⟨g1.tail.tr a, b⟩
    · split at h
      · cases h
        obtain ⟨a, b⟩ := keep_good hO hn1 h61
        exact ⟨g1.tail.tr a, b⟩
      · rename_i hm
        have hw1 := (P1.1.1 c hc).2.2.2.2 h61
        have hy2 := cN_ok (hw1.2.1.elim (fun z => absurd z hm) (fun z => z.2))
        cases e2 : A_look n (c :: O) f1 (cN (f1 (ix c 12))) with
        | none => rw [e2] at h; cases h
        | some f2 =>
          rw [e2] at h
          obtain ⟨g2, fr2⟩ := ih _ _ _ _ hy2.1 P1 e2
          have P2 := P1.next g2
          have hn2 : ¬ Fr f2 c := P2.2 c (List.mem_cons_self)
          have s2 : ∀ j, j < 15 → f2 (ix c j) = f1 (ix c j) := g2.2.2.2.2.1 c (List.mem_cons_self)
          dsimp only at h
          split at h
          · obtain ⟨a, b⟩ := A_work_good ih hc hO (by rw [s2 0 (by decide)]; exact h01) P2 h
            exact ⟨(g1.tail.tr g2.tail).tr a, b⟩
          · cases h
            obtain ⟨a, b⟩ := keep_good hO hn2 (by rw [s2 6 (by decide)]; exact h61)
            exact ⟨(g1.tail.tr g2.tail).tr a, b⟩
theorem A_look_good : ∀ n, LG n := by
  intro n
  induction n with
  | zero => intro O f c g _ _ h; cases h
  | succ n ih =>
    intro O f c g hc hP h
    rw [A_look_s] at h
    split at h
    · rename_i h0
      cases h
      exact ⟨Good.rf, Or.inl h0⟩
    · rename_i h0
      split at h
      · rename_i h6
        cases h
        exact take_good (fun q => hP.2 c q (Or.inr h6)) h6
      · rename_i hn6
        split at h
        · cases h
        · rename_i hO
          have hnf : ¬ Fr f c := fun q => q.elim h0 hn6
          have hP' : Pre (c :: O) f := ⟨hP.1, fun o ho => by
            rcases List.mem_cons.mp ho with rfl | ho
            · exact hnf
            · exact hP.2 o ho⟩
          split at h
          · rename_i h61
            exact A_chk_good ih hc hO h0 h61 hP' h
          · exact A_work_good ih hc hO h0 hP' h
end
section
/-! The reference's loop runs the look. -/
theorem nodup_le : ∀ (n : Nat) (O : List Nat), O.Nodup → (∀ x, x ∈ O → x < n) → O.length ≤ n := by
  intro n
  induction n with
  | zero =>
    intro O _ h
    cases O with
    | nil => exact Nat.le_refl _
    | cons a l => exact absurd (h a List.mem_cons_self) (Nat.not_lt_zero _)
  | succ n ih =>
    intro O hn h
    by_cases hm : n ∈ O
    · have h1 := ih (O.erase n) (hn.erase n) (fun x hx => by
        have h2 := (List.Nodup.mem_erase_iff hn).mp hx
        have h3 := h x h2.2
        have h4 := h2.1
        omega)
      rw [List.length_erase_of_mem hm] at h1
      omega
    · have h1 := ih O hn (fun x hx => by
        have h3 := h x hx
        have h4 : x ≠ n := fun e => hm (e ▸ hx)
        omega)
      omega
def Stk5 (g : Nat → Int32) : List Nat → Prop
  | [] => True
  | c :: O => g O.length = nI c ∧ Stk5 g O
theorem Stk5.low {g h : Nat → Int32} : ∀ {O : List Nat}, Stk5 g O → (∀ k, k < O.length → h k = g k) → Stk5 h O
  | [], _, _ => trivial
  | c :: O, hs, hl => ⟨(hl O.length (Nat.lt_succ_self _)).trans hs.1, hs.2.low (fun k hk => hl k (Nat.lt_succ_of_lt hk))⟩
theorem opn_mem {g : Nat → Int32} {i : Nat} (hi : i < 10) : ∀ {O : List Nat}, Stk5 g O → (∀ o, o ∈ O → o < 10) → (opn g (nI i) O.length = true ↔ i ∈ O)
  | [], _, _ => by simp [opn]
  | c :: O, hs, hO => by
    have ih := opn_mem hi hs.2 (fun o ho => hO o (List.mem_cons_of_mem _ ho))
    have hc := hO c List.mem_cons_self
    simp only [List.length_cons, opn, Bool.or_eq_true, beq_iff_eq, List.mem_cons, ih, hs.1, nI_eq (show c < 2 ^ 31 by omega) (show i < 2 ^ 31 by omega)]
    constructor
    · rintro (h | h)
      · exact Or.inr h
      · exact Or.inl h.symm
    · rintro (h | h)
      · exact Or.inr h.symm
      · exact Or.inl h
/-- what a look leaves as it was beside the state's row -/
def FrS (v w : rcM) : Prop := (∀ id, id ≠ 0 → id ≠ 1 → id ≠ 5 → id ≠ 6 → id ≠ 7 → id ≠ 8 → w id = v id) ∧ ∀ j, j ≠ 10 → j ≠ 11 → w 0 j = v 0 j
def Lo (v w : rcM) (n : Nat) : Prop := ∀ k, k < n → w 5 k = v 5 k ∧ w 6 k = v 6 k ∧ w 7 k = v 7 k ∧ w 8 k = v 8 k
theorem FrS.rf {v : rcM} : FrS v v := ⟨fun _ _ _ _ _ _ _ => rfl, fun _ _ _ => rfl⟩
theorem FrS.tr {u v w : rcM} (a : FrS u v) (b : FrS v w) : FrS u w := ⟨fun id h0 h1 h5 h6 h7 h8 => (b.1 id h0 h1 h5 h6 h7 h8).trans (a.1 id h0 h1 h5 h6 h7 h8), fun j h h' => (b.2 j h h').trans (a.2 j h h')⟩
theorem FrS.u {v : rcM} {a k : Nat} {x : Int32} (h : a = 5 ∨ a = 6 ∨ a = 7 ∨ a = 8) : FrS v (rcu v a k x) := ⟨fun id h0 h1 h5 h6 h7 h8 => rcu_ne (by omega), fun j _ _ => by rw [rcu_ne (by omega)]⟩
theorem FrS.r {v : rcM} {f : Nat → Int32} : FrS v (rcr v 1 f) := ⟨fun id h0 h1 h5 h6 h7 h8 => rcr_n h1, fun j _ _ => by rw [rcr_n (by decide)]⟩
theorem FrS.d {v : rcM} {k : Nat} {x : Int32} (h : k = 10 ∨ k = 11) : FrS v (rcu v 0 k x) := ⟨fun id h0 h1 h5 h6 h7 h8 => rcu_ne h0, fun j h1 h2 => rcu_k (by omega)⟩
theorem Lo.rf {v : rcM} {n : Nat} : Lo v v n := fun _ _ => ⟨rfl, rfl, rfl, rfl⟩
theorem Lo.tr {u v w : rcM} {n : Nat} (a : Lo u v n) (b : Lo v w n) : Lo u w n := fun k hk => by
  obtain ⟨a1, a2, a3, a4⟩ := a k hk
  obtain ⟨b1, b2, b3, b4⟩ := b k hk
  exact ⟨b1.trans a1, b2.trans a2, b3.trans a3, b4.trans a4⟩
theorem Lo.le {v w : rcM} {n m : Nat} (a : Lo v w n) (h : m ≤ n) : Lo v w m := fun k hk => a k (by omega)
theorem Lo.u {v : rcM} {a k n : Nat} {x : Int32} (h : n ≤ k) : Lo v (rcu v a k x) n := fun j hj => by
  have e : ∀ b, rcu v a k x b j = v b j := fun b => by unfold rcu; rw [if_neg (by omega)]
  exact ⟨e 5, e 6, e 7, e 8⟩
theorem Lo.d {v : rcM} {k n : Nat} {x : Int32} : Lo v (rcu v 0 k x) n := fun j _ => ⟨by rw [rcu_ne (by decide)], by rw [rcu_ne (by decide)], by rw [rcu_ne (by decide)], by rw [rcu_ne (by decide)]⟩
theorem Lo.r {v : rcM} {n : Nat} {f : Nat → Int32} : Lo v (rcr v 1 f) n := fun j _ => ⟨by rw [rcr_n (by decide)], by rw [rcr_n (by decide)], by rw [rcr_n (by decide)], by rw [rcr_n (by decide)]⟩
/-- the loop's steps, backwards: H is 'from the loop's head on all goes well' -/
def HStep (H : rcM → Prop) : Prop :=
  (∀ v tp c k u w, c < 10 → tp < 10 → v 5 tp = nI c → v 7 tp = nI k → v 0 10 = nI (tp + 1) → k ≤ 2 → (0 < k → u < 10 ∧ v 1 (ix c (10 + k)) = nI u) → (¬ nI k = v 1 (ix c 10) → k < 2 ∧ w < 10 ∧ v 1 (ix c (11 + k)) = nI w ∧ mayPush (rcu v 7 tp (nI k + 1)) w (tp + 1)) → v 0 11 = 0 → v 6 tp = 0 → H (M_checks v tp c k u w) → H v) ∧
  (∀ v tp c x, c < 10 → tp < 10 → v 5 tp = nI c → v 0 10 = nI (tp + 1) → v 1 (ix c 2) = nI x → x < 10 → v 7 tp = 0 → mayPush (rcu v 7 tp 1) x (tp + 1) → v 0 11 = 0 → v 6 tp = 1 → H (M_enters (rcu v 7 tp 1) x (tp + 1)) → H v) ∧
  (∀ v tp c x w, c < 10 → tp < 10 → v 5 tp = nI c → v 0 10 = nI (tp + 1) → v 1 (ix c 2) = nI x → x < 10 → v 7 tp = 1 → (if v 1 (ix c 0) = 5 ∧ A_ans (v 1) x ≤ 0 then v 1 (ix c 4) else v 1 (ix c 3)) = nI w → w < 10 → (¬ (v 1 (ix c 0) = 5 ∧ A_ans (v 1) x = 2000000000) → mayPush (rcu (rcu v 7 tp 2) 8 tp (nI w)) w (tp + 1)) → v 0 11 = 0 → v 6 tp = 1 → H (M_work1 v tp c x w) → H v) ∧
  (∀ v tp c x y, c < 10 → tp < 10 → v 5 tp = nI c → v 0 10 = nI (tp + 1) → v 1 (ix c 2) = nI x → x < 10 → v 7 tp = 2 → v 8 tp = nI y → y < 10 → v 0 11 = 0 → v 6 tp = 1 → H (M_end (rcu v 7 tp 3) c tp (A_made (v 1 (ix c 0)) (A_ans (v 1) x) (A_ans (v 1) y)) 2 (nI y)) → H v)
/-- what follows a look that came to r, over the stack O, from the memory v -/
def LPost (H : rcM → Prop) (O : List Nat) (v : rcM) (r : Option (Nat → Int32)) : Prop := match r with
  | none => ∀ w, w 0 11 = 1 → FrS v w → H w
  | some g => ∀ w, w 1 = g → w 0 10 = nI O.length → w 0 11 = 0 → Lo v w O.length → FrS v w → H w
theorem LPost.of {H : rcM → Prop} {O : List Nat} {u v : rcM} {r : Option (Nat → Int32)} (h : LPost H O u r) (hl : Lo u v O.length) (hf : FrS u v) : LPost H O v r := by
  cases r with
  | none => exact fun w h1 h2 => h w h1 (hf.tr h2)
  | some g => exact fun w h1 h2 h3 h4 h5 => h w h1 h2 h3 (hl.tr h4) (hf.tr h5)
/-- the stack is a legal one -/
def OkO (O : List Nat) : Prop := O.Nodup ∧ ∀ o, o ∈ O → o < 10
theorem OkO.len {O : List Nat} (h : OkO O) : O.length ≤ 10 := nodup_le 10 O h.1 h.2
theorem OkO.cons {O : List Nat} {c : Nat} (h : OkO O) (hc : c < 10) (hn : c ∉ O) : OkO (c :: O) := ⟨List.nodup_cons.mpr ⟨hn, h.1⟩, fun o ho => by
  rcases List.mem_cons.mp ho with rfl | ho
  · exact hc
  · exact h.2 o ho⟩
theorem may_push {v : rcM} {O : List Nat} {c : Nat} (hc : c < 10) (hO : OkO O) (hs : Stk5 (v 5) O) : mayPush v c O.length := fun _ _ hn => by
  have hm : c ∉ O := fun q => hn ((opn_mem hc hs hO.2).mpr q)
  have := (hO.cons hc hm).len
  simp only [List.length_cons] at this
  omega
def LK (H : rcM → Prop) (n : Nat) : Prop := ∀ (O : List Nat) (c : Nat) (v : rcM), c < 10 → Pre O (v 1) → OkO O → 11 ≤ n + O.length → v 0 10 = nI O.length → Stk5 (v 5) O → v 0 11 = 0 → LPost H O v (A_look n O (v 1) c) → H (M_enters v c O.length)
theorem M_end_row {v : rcM} {c tp : Nat} {its many o2 : Int32} : M_end v c tp its many o2 1 = A_end (v 1) c its many o2 := by
  unfold M_end
  rw [rcu_ne (by decide), rcr_s]
theorem M_end_d {v : rcM} {c tp : Nat} {its many o2 : Int32} : M_end v c tp its many o2 0 10 = nI tp := by
  unfold M_end
  rw [rcu_self]
theorem M_end_r {v : rcM} {c tp : Nat} {its many o2 : Int32} : M_end v c tp its many o2 0 11 = v 0 11 := by
  unfold M_end
  rw [rcu_k (by decide), rcr_n (by decide)]
theorem M_end_Lo {v : rcM} {c tp n : Nat} {its many o2 : Int32} : Lo v (M_end v c tp its many o2) n := Lo.r.tr Lo.d
theorem M_end_Fr {v : rcM} {c tp : Nat} {its many o2 : Int32} : FrS v (M_end v c tp its many o2) := FrS.r.tr (FrS.d (Or.inl rfl))
theorem LW {H : rcM → Prop} (hH : HStep H) {n : Nat} (ih : LK H n) {O : List Nat} {c : Nat} {v : rcM} (hc : c < 10) (hcO : c ∉ O) (hP : Pre (c :: O) (v 1)) (hO : OkO O) (hn : 10 ≤ n + O.length) (hd : v 0 10 = nI (O.length + 1)) (hs : Stk5 (v 5) (c :: O)) (hr : v 0 11 = 0)
    (h6 : v 6 O.length = 1) (h7 : v 7 O.length = 0) (h0 : ¬ v 1 (ix c 0) = 0) (post : LPost H O v (A_work n O (v 1) c)) : H v := by
  have hO' := hO.cons hc hcO
  have hlen : O.length < 10 := by have := hO'.len; simp only [List.length_cons] at this; omega
  have hx := cN_ok ((hP.1.1 c hc).2.2.1 h0).2.1
  generalize ex : cN (v 1 (ix c 2)) = x at *
  have hs' : Stk5 ((rcu v 7 O.length 1) 5) (c :: O) := by rw [rcu_ne (by decide)]; exact hs
  have e1 : (rcu v 7 O.length 1) 1 = v 1 := rcu_ne (by decide)
  refine hH.2.1 v O.length c x hc hlen hs.1 hd hx.2 hx.1 h7 (may_push (O := c :: O) hx.1 hO' hs') hr h6 ?_
  refine ih (c :: O) x (rcu v 7 O.length 1) hx.1 (by rw [e1]; exact hP) hO' (by simp only [List.length_cons]; omega) (by rw [rcu_ne (by decide)]; exact hd) hs' (by rw [rcu_ne (by decide)]; exact hr) ?_
  rw [e1]
  unfold A_work at post
  rw [ex] at post
  cases ea : A_look n (c :: O) (v 1) x with
  | none =>
    rw [ea] at post
    exact fun w h1 h2 => post w h1 ((FrS.u (by decide)).tr h2)
  | some f1 =>
    rw [ea] at post
    dsimp only at post
    intro w1 r1 d1 i1 l1 fr1
    obtain ⟨g1, fx1⟩ := A_look_good n _ _ _ _ hx.1 hP ea
    have P1 := hP.next g1
    have s1 : ∀ j, j < 15 → f1 (ix c j) = v 1 (ix c j) := g1.2.2.2.2.1 c List.mem_cons_self
    have h01 : ¬ f1 (ix c 0) = 0 := by rw [s1 0 (by decide)]; exact h0
    have hy := cN_ok (nxt_ok (x := A_ans f1 x) P1.1 hc h01)
    generalize ey : cN (A_nxt f1 c (A_ans f1 x)) = y at *
    simp only [List.length_cons] at d1 l1
    have q1 := l1 O.length (Nat.lt_succ_self _)
    have L01 : Lo v w1 O.length := (Lo.u (Nat.le_refl _)).tr (l1.le (Nat.le_succ _))
    have F01 : FrS v w1 := (FrS.u (by decide)).tr fr1
    have c5 : w1 5 O.length = nI c := by rw [q1.1, rcu_ne (by decide)]; exact hs.1
    have c6 : w1 6 O.length = 1 := by rw [q1.2.1, rcu_ne (by decide)]; exact h6
    have c7 : w1 7 O.length = 1 := by rw [q1.2.2.1, rcu_self]
    have st1 : Stk5 (w1 5) (c :: O) := ⟨c5, hs.2.low (fun k hk => (L01 k hk).1)⟩
    have st2 : Stk5 ((rcu (rcu w1 7 O.length 2) 8 O.length (nI y)) 5) (c :: O) := by rw [rcu_ne (by decide), rcu_ne (by decide)]; exact st1
    refine hH.2.2.1 w1 O.length c x y hc hlen c5 d1 (by rw [r1, s1 2 (by decide)]; exact hx.2) hx.1 c7 (by rw [r1]; exact hy.2) hy.1 (fun _ => may_push (O := c :: O) hy.1 hO' st2) i1 c6 ?_
    unfold M_work1
    rw [r1]
    have e2 : (rcu (rcu w1 7 O.length 2) 8 O.length (nI y)) 1 = f1 := by rw [rcu_ne (by decide), rcu_ne (by decide)]; exact r1
    split
    · rename_i ht
      rw [if_pos ht] at post
      refine post _ (by rw [M_end_row, e2]) M_end_d ?_ ((L01.tr (Lo.u (Nat.le_refl _))).tr (Lo.u (Nat.le_refl _)) |>.tr M_end_Lo) (((F01.tr (FrS.u (by decide))).tr (FrS.u (by decide))).tr M_end_Fr)
      rw [M_end_r, rcu_ne (by decide), rcu_ne (by decide)]; exact i1
    · rename_i ht
      rw [if_neg ht] at post
      refine ih (c :: O) y _ hy.1 (by rw [e2]; exact P1) hO' (by simp only [List.length_cons]; omega) (by rw [rcu_ne (by decide), rcu_ne (by decide)]; exact d1) st2 (by rw [rcu_ne (by decide), rcu_ne (by decide)]; exact i1) ?_
      rw [e2]
      have F02 : FrS v (rcu (rcu w1 7 O.length 2) 8 O.length (nI y)) := (F01.tr (FrS.u (by decide))).tr (FrS.u (by decide))
      have L02 : Lo v (rcu (rcu w1 7 O.length 2) 8 O.length (nI y)) O.length := (L01.tr (Lo.u (Nat.le_refl _))).tr (Lo.u (Nat.le_refl _))
      cases eb : A_look n (c :: O) f1 y with
      | none =>
        rw [eb] at post
        exact fun w h1 h2 => post w h1 (F02.tr h2)
      | some f2 =>
        rw [eb] at post
        dsimp only at post
        intro w2 r2 d2 i2 l2 fr2
        obtain ⟨g2, fx2⟩ := A_look_good n _ _ _ _ hy.1 P1 eb
        have s2 : ∀ j, j < 15 → f2 (ix c j) = f1 (ix c j) := g2.2.2.2.2.1 c List.mem_cons_self
        simp only [List.length_cons] at d2 l2
        have q2 := l2 O.length (Nat.lt_succ_self _)
        have c52 : w2 5 O.length = nI c := by rw [q2.1, rcu_ne (by decide), rcu_ne (by decide)]; exact c5
        have c62 : w2 6 O.length = 1 := by rw [q2.2.1, rcu_ne (by decide), rcu_ne (by decide)]; exact c6
        have c72 : w2 7 O.length = 2 := by rw [q2.2.2.1, rcu_ne (by decide), rcu_self]
        have c82 : w2 8 O.length = nI y := by rw [q2.2.2.2, rcu_self]
        refine hH.2.2.2 w2 O.length c x y hc hlen c52 d2 (by rw [r2, s2 2 (by decide), s1 2 (by decide)]; exact hx.2) hx.1 c72 c82 hy.1 i2 c62 ?_
        refine post _ ?_ M_end_d ?_ (((L02.tr (l2.le (Nat.le_succ _))).tr (Lo.u (Nat.le_refl _))).tr M_end_Lo) (((F02.tr fr2).tr (FrS.u (by decide))).tr M_end_Fr)
        · rw [M_end_row, rcu_ne (by decide), r2, ← hy.2]
        · rw [M_end_r, rcu_ne (by decide)]; exact i2
theorem LC {H : rcM → Prop} (hH : HStep H) {n : Nat} (ih : LK H n) {O : List Nat} {c : Nat} {v : rcM} (hc : c < 10) (hcO : c ∉ O) (hP : Pre (c :: O) (v 1)) (hO : OkO O) (hn : 10 ≤ n + O.length) (hd : v 0 10 = nI (O.length + 1)) (hs : Stk5 (v 5) (c :: O)) (hr : v 0 11 = 0)
    (h6 : v 6 O.length = 0) (h7 : v 7 O.length = 0) (h0 : ¬ v 1 (ix c 0) = 0) (hh : v 1 (ix c 6) = 1) (post : LPost H O v (A_chk n O (v 1) c)) : H v := by
  have hO' := hO.cons hc hcO
  have hlen : O.length < 10 := by have := hO'.len; simp only [List.length_cons] at this; omega
  have hw := (hP.1.1 c hc).2.2.2.2 hh
  have hx := cN_ok (show okC (v 1 (ix c 11)) by rw [hw.1]; exact ((hP.1.1 c hc).2.2.1 h0).2.1)
  generalize ex : cN (v 1 (ix c 11)) = x at *
  have hm0 : ¬ nI 0 = v 1 (ix c 10) := by
    rcases hw.2.1 with z | z
    · rw [z]; decide
    · rw [z.1]; decide
  have e1 : (rcu v 7 O.length (nI 0 + 1)) 1 = v 1 := rcu_ne (by decide)
  have hs' : Stk5 ((rcu v 7 O.length (nI 0 + 1)) 5) (c :: O) := by rw [rcu_ne (by decide)]; exact hs
  refine hH.1 v O.length c 0 0 x hc hlen hs.1 h7 hd (by decide) (fun q => absurd q (by decide)) (fun _ => ⟨by decide, hx.1, hx.2, may_push (O := c :: O) hx.1 hO' hs'⟩) hr h6 ?_
  unfold M_checks
  rw [if_neg (fun q => absurd q.1 (by decide)), if_neg hm0]
  refine ih (c :: O) x _ hx.1 (by rw [e1]; exact hP) hO' (by simp only [List.length_cons]; omega) (by rw [rcu_ne (by decide)]; exact hd) hs' (by rw [rcu_ne (by decide)]; exact hr) ?_
  rw [e1]
  unfold A_chk at post
  rw [ex] at post
  cases ea : A_look n (c :: O) (v 1) x with
  | none =>
    rw [ea] at post
    exact fun w h1 h2 => post w h1 ((FrS.u (by decide)).tr h2)
  | some f1 =>
    rw [ea] at post
    dsimp only at post
    intro w1 r1 d1 i1 l1 fr1
    obtain ⟨g1, fx1⟩ := A_look_good n _ _ _ _ hx.1 hP ea
    have P1 := hP.next g1
    have s1 : ∀ j, j < 15 → f1 (ix c j) = v 1 (ix c j) := g1.2.2.2.2.1 c List.mem_cons_self
    have h01 : ¬ f1 (ix c 0) = 0 := by rw [s1 0 (by decide)]; exact h0
    have h61 : f1 (ix c 6) = 1 := by rw [s1 6 (by decide)]; exact hh
    have hw1 := (P1.1.1 c hc).2.2.2.2 h61
    simp only [List.length_cons] at d1 l1
    have q1 := l1 O.length (Nat.lt_succ_self _)
    have L01 : Lo v w1 O.length := (Lo.u (Nat.le_refl _)).tr (l1.le (Nat.le_succ _))
    have F01 : FrS v w1 := (FrS.u (by decide)).tr fr1
    have c5 : w1 5 O.length = nI c := by rw [q1.1, rcu_ne (by decide)]; exact hs.1
    have c6 : w1 6 O.length = 0 := by rw [q1.2.1, rcu_ne (by decide)]; exact h6
    have c7 : w1 7 O.length = nI 1 := by rw [q1.2.2.1, rcu_self]; decide
    have st1 : Stk5 (w1 5) (c :: O) := ⟨c5, hs.2.low (fun k hk => (L01 k hk).1)⟩
    have st2 : Stk5 ((rcu w1 7 O.length (nI 1 + 1)) 5) (c :: O) := by rw [rcu_ne (by decide)]; exact st1
    have two : ¬ f1 (ix c 10) = 1 → f1 (ix c 10) = 2 ∧ cN (f1 (ix c 12)) < 10 ∧ f1 (ix c 12) = nI (cN (f1 (ix c 12))) := fun z => by
      rcases hw1.2.1 with q | q
      · exact absurd q z
      · exact ⟨q.1, cN_ok q.2⟩
    generalize ey : cN (f1 (ix c 12)) = y at *
    refine hH.1 w1 O.length c 1 x y hc hlen c5 c7 d1 (by decide) (fun _ => ⟨hx.1, by rw [r1, s1 (10 + 1) (by decide)]; exact hx.2⟩) (fun q => ?_) i1 c6 ?_
    · have z := two (fun z => q (by rw [r1, z]; rfl))
      exact ⟨by decide, z.2.1, by rw [r1]; exact z.2.2, may_push (O := c :: O) z.2.1 hO' st2⟩
    · unfold M_checks
      rw [r1]
      by_cases hcmp : f1 (ix c 9) < A_chg f1 x
      · rw [if_pos ⟨by decide, hcmp⟩]
        rw [if_pos hcmp] at post
        have e2 : (rcu (rcu w1 6 O.length 1) 7 O.length 0) 1 = f1 := by rw [rcu_ne (by decide), rcu_ne (by decide)]; exact r1
        refine LW hH ih (c := c) hc hcO (by rw [e2]; exact P1) hO hn (by rw [rcu_ne (by decide), rcu_ne (by decide)]; exact d1) (by rw [rcu_ne (by decide), rcu_ne (by decide)]; exact st1) (by rw [rcu_ne (by decide), rcu_ne (by decide)]; exact i1) (by rw [rcu_ne (by decide), rcu_self]) (by rw [rcu_self]) (by rw [e2]; exact h01) ?_
        rw [e2]
        exact post.of ((L01.tr (Lo.u (Nat.le_refl _))).tr (Lo.u (Nat.le_refl _))) ((F01.tr (FrS.u (by decide))).tr (FrS.u (by decide)))
      · rw [if_neg (fun q => hcmp q.2)]
        rw [if_neg hcmp] at post
        by_cases hm : f1 (ix c 10) = 1
        · rw [if_pos (by rw [hm]; rfl)]
          rw [if_pos hm] at post
          exact post _ (by rw [rcu_ne (by decide), rcr_s]) rcu_self (by rw [rcu_k (by decide), rcr_n (by decide)]; exact i1) ((L01.tr Lo.r).tr Lo.d) ((F01.tr FrS.r).tr (FrS.d (Or.inl rfl)))
        · rw [if_neg (fun q => hm (by rw [← q]; rfl))]
          rw [if_neg hm] at post
          have z := two hm
          have e2 : (rcu w1 7 O.length (nI 1 + 1)) 1 = f1 := by rw [rcu_ne (by decide)]; exact r1
          refine ih (c :: O) y _ z.2.1 (by rw [e2]; exact P1) hO' (by simp only [List.length_cons]; omega) (by rw [rcu_ne (by decide)]; exact d1) st2 (by rw [rcu_ne (by decide)]; exact i1) ?_
          rw [e2]
          have F02 : FrS v (rcu w1 7 O.length (nI 1 + 1)) := F01.tr (FrS.u (by decide))
          have L02 : Lo v (rcu w1 7 O.length (nI 1 + 1)) O.length := L01.tr (Lo.u (Nat.le_refl _))
          cases eb : A_look n (c :: O) f1 y with
          | none =>
            rw [eb] at post
            exact fun w h1 h2 => post w h1 (F02.tr h2)
          | some f2 =>
            rw [eb] at post
            dsimp only at post
            intro w2 r2 d2 i2 l2 fr2
            obtain ⟨g2, fx2⟩ := A_look_good n _ _ _ _ z.2.1 P1 eb
            have P2 := P1.next g2
            have s2 : ∀ j, j < 15 → f2 (ix c j) = f1 (ix c j) := g2.2.2.2.2.1 c List.mem_cons_self
            simp only [List.length_cons] at d2 l2
            have q2 := l2 O.length (Nat.lt_succ_self _)
            have L03 : Lo v w2 O.length := L02.tr (l2.le (Nat.le_succ _))
            have F03 : FrS v w2 := F02.tr fr2
            have c52 : w2 5 O.length = nI c := by rw [q2.1, rcu_ne (by decide)]; exact c5
            have c62 : w2 6 O.length = 0 := by rw [q2.2.1, rcu_ne (by decide)]; exact c6
            have c72 : w2 7 O.length = nI 2 := by rw [q2.2.2.1, rcu_self]; decide
            have m2 : f2 (ix c 10) = 2 := by rw [s2 10 (by decide)]; exact z.1
            have st3 : Stk5 (w2 5) (c :: O) := ⟨c52, hs.2.low (fun k hk => (L03 k hk).1)⟩
            refine hH.1 w2 O.length c 2 y 0 hc hlen c52 c72 d2 (by decide) (fun _ => ⟨z.2.1, by rw [r2, s2 (10 + 2) (by decide)]; exact z.2.2⟩) (fun q => absurd (by rw [r2, m2]; rfl) q) i2 c62 ?_
            unfold M_checks
            rw [r2]
            by_cases hcmp2 : f2 (ix c 9) < A_chg f2 y
            · rw [if_pos ⟨by decide, hcmp2⟩]
              rw [if_pos hcmp2] at post
              have e3 : (rcu (rcu w2 6 O.length 1) 7 O.length 0) 1 = f2 := by rw [rcu_ne (by decide), rcu_ne (by decide)]; exact r2
              refine LW hH ih (c := c) hc hcO (by rw [e3]; exact P2) hO hn (by rw [rcu_ne (by decide), rcu_ne (by decide)]; exact d2) (by rw [rcu_ne (by decide), rcu_ne (by decide)]; exact st3) (by rw [rcu_ne (by decide), rcu_ne (by decide)]; exact i2) (by rw [rcu_ne (by decide), rcu_self]) (by rw [rcu_self]) (by rw [e3, s2 0 (by decide)]; exact h01) ?_
              rw [e3]
              exact post.of ((L03.tr (Lo.u (Nat.le_refl _))).tr (Lo.u (Nat.le_refl _))) ((F03.tr (FrS.u (by decide))).tr (FrS.u (by decide)))
            · rw [if_neg (fun q => hcmp2 q.2), if_pos (by rw [m2]; rfl)]
              rw [if_neg hcmp2] at post
              exact post _ (by rw [rcu_ne (by decide), rcr_s]) rcu_self (by rw [rcu_k (by decide), rcr_n (by decide)]; exact i2) ((L03.tr Lo.r).tr Lo.d) ((F03.tr FrS.r).tr (FrS.d (Or.inl rfl)))
theorem LK_all {H : rcM → Prop} (hH : HStep H) : ∀ n, LK H n := by
  intro n
  induction n with
  | zero =>
    intro O c v hc hP hO hn
    have := hO.len
    omega
  | succ n ih =>
    intro O c v hc hP hO hn hd hs hr post
    rw [A_look_s] at post
    unfold M_enters
    by_cases h0 : v 1 (ix c 0) = 0
    · rw [if_pos h0]
      rw [if_pos h0] at post
      exact post v rfl hd hr Lo.rf FrS.rf
    · rw [if_neg h0]
      rw [if_neg h0] at post
      by_cases h6 : v 1 (ix c 6) = 1 ∧ v 1 (ix c 9) = v 1 0
      · rw [if_pos h6]
        rw [if_pos h6] at post
        exact post _ rcr_s (by rw [rcr_n (by decide)]; exact hd) (by rw [rcr_n (by decide)]; exact hr) Lo.r FrS.r
      · rw [if_neg h6]
        rw [if_neg h6] at post
        by_cases hm : c ∈ O
        · rw [if_pos ((opn_mem hc hs hO.2).mpr hm)]
          rw [if_pos hm] at post
          exact post _ rcu_self (FrS.d (Or.inr rfl))
        · rw [if_neg (fun q => hm ((opn_mem hc hs hO.2).mp q))]
          rw [if_neg hm] at post
          have hnf : ¬ Fr (v 1) c := fun q => q.elim h0 h6
          have hP' : Pre (c :: O) (v 1) := ⟨hP.1, fun o ho => by
            rcases List.mem_cons.mp ho with rfl | ho
            · exact hnf
            · exact hP.2 o ho⟩
          have L0 : Lo v (M_push v c O.length) O.length := (((Lo.u (Nat.le_refl _)).tr (Lo.u (Nat.le_refl _))).tr (Lo.u (Nat.le_refl _))).tr Lo.d
          have F0 : FrS v (M_push v c O.length) := (((FrS.u (by decide)).tr (FrS.u (by decide))).tr (FrS.u (by decide))).tr (FrS.d (Or.inl rfl))
          have p1 : M_push v c O.length 1 = v 1 := by unfold M_push; rw [rcu_ne (by decide), rcu_ne (by decide), rcu_ne (by decide), rcu_ne (by decide)]
          have p5 : M_push v c O.length 5 O.length = nI c := by unfold M_push; rw [rcu_ne (by decide), rcu_ne (by decide), rcu_ne (by decide), rcu_self]
          have p6 : M_push v c O.length 6 O.length = if v 1 (ix c 6) = 1 then 0 else 1 := by unfold M_push; rw [rcu_ne (by decide), rcu_ne (by decide), rcu_self]
          have p7 : M_push v c O.length 7 O.length = 0 := by unfold M_push; rw [rcu_ne (by decide), rcu_self]
          have pd : M_push v c O.length 0 10 = nI (O.length + 1) := by unfold M_push; rw [rcu_self]
          have pr : M_push v c O.length 0 11 = 0 := by unfold M_push; rw [rcu_k (by decide), rcu_ne (by decide), rcu_ne (by decide), rcu_ne (by decide)]; exact hr
          have ps : Stk5 (M_push v c O.length 5) (c :: O) := ⟨p5, hs.low (fun k hk => (L0 k hk).1)⟩
          by_cases hh : v 1 (ix c 6) = 1
          · rw [if_pos hh] at post p6
            refine LC hH ih hc hm (by rw [p1]; exact hP') hO (by omega) pd ps pr p6 p7 (by rw [p1]; exact h0) (by rw [p1]; exact hh) ?_
            rw [p1]
            exact post.of L0 F0
          · rw [if_neg hh] at post p6
            refine LW hH ih hc hm (by rw [p1]; exact hP') hO (by omega) pd ps pr p6 p7 (by rw [p1]; exact h0) ?_
            rw [p1]
            exact post.of L0 F0
end
section
/-! The reference: looks. -/
def KL (v : rcM) (c : Nat) : Option Value → rcM → Prop := fun r u => match A_look 11 [] (v 1) c with
  | none => r = some (.int 0) ∧ FrS v u
  | some g => r = some (.int 1) ∧ u 1 = g ∧ FrS v u
set_option maxHeartbeats 4000000 in
set_option maxRecDepth 100000 in
theorem k_looks {Y : rcY} {la : Launch} {v : rcM} {c0 : Nat} (hc0 : c0 < 10) (hP : WF (v 1)) : rcT shM 13 Y la 4 (yX6_looks, cX6_looks, 2, (some .boolean)) [.ref (Y.2.1 0), .int (nI c0)] (v) (KL v c0) := by
  refine rcT.of (by decide +kernel) (Nat.le_of_ble_eq_true rfl) (fun X F hn => ?_)
  have hst : HStep (fun w => rcJ shM 13 Y X (KL v c0) 15 [(0, .ref (Y.2.1 0)), (1, .int (nI c0))] [] w) := by
    refine ⟨?_, ?_, ?_, ?_⟩
    · intro w tp c k u x hc10 ht10 hc hk hd hk2 hu hw hr h6 hH
      refine j_aload_n F.1 dX6_looks_15 rfl ?_
      refine j_geti F (k := 10) inX6 rfl (by decide) fl_X6_88 ⟨by decide, rfl⟩ rfl dX6_looks_16 ?_
      refine j_top hd ?_
      refine j_if_le F.1 69 dX6_looks_19 (by decide) (fun h19 => ?_) (fun h19 => ?_)
      · exact absurd h19 (nI_nle (Nat.succ_pos _) (by omega))
      · refine j_aload_n F.1 dX6_looks_22 rfl ?_
        refine j_getz F (k := 11) inX6 rfl (by decide) fl_X6_98 ⟨by decide, rfl⟩ rfl dX6_looks_23 ?_
        refine j_top (y := 0) (by rw [hr]; rfl) ?_
        refine j_if_ne F.1 69 dX6_looks_26 (by decide) (fun h26 => False.elim (by revert h26; decide)) (fun _ => ?_)
        refine j_aload_n F.1 dX6_looks_29 rfl ?_
        refine j_getr F (k := 7) inX6 rfl (by decide) fl_X6_25 ⟨by decide, rfl⟩ rfl dX6_looks_30 ?_
        refine j_aload_n F.1 dX6_looks_33 rfl ?_
        refine j_geti F (k := 10) inX6 rfl (by decide) fl_X6_88 ⟨by decide, rfl⟩ rfl dX6_looks_34 ?_
        refine j_iconst F.1 (1) dX6_looks_37 (by decide) ?_
        refine j_isub F.1 dX6_looks_38 ?_
        refine j_iald F ⟨by decide, rfl⟩ (by rw [hd, nI_pred]) (by omega) (by decide) dX6_looks_39 ?_
        refine j_top (y := 0) h6 ?_
        refine j_if_ne F.1 56 dX6_looks_40 (by decide) (fun h40 => False.elim (by revert h40; decide)) (fun _ => ?_)
        refine j_aload_n F.1 dX6_looks_43 rfl ?_
        refine j_aload_n F.1 dX6_looks_44 rfl ?_
        refine j_geti F (k := 10) inX6 rfl (by decide) fl_X6_88 ⟨by decide, rfl⟩ rfl dX6_looks_45 ?_
        refine j_iconst F.1 (1) dX6_looks_48 (by decide) ?_
        refine j_isub F.1 dX6_looks_49 ?_
        refine j_top (y := nI tp) (by rw [hd, nI_pred]) ?_
        refine j_callVv F (k_checks hc10 ht10 hc hk hd hk2 hu hw) co_X6_checks ml_X6_127 im_X6_checks se_X6_checks in_X6 rc_X6_checks rfl (by decide) (by decide) ⟨by decide, rfl⟩ rfl rfl (Nat.le_of_ble_eq_true rfl) dX6_looks_50 ?_
        refine j_goto F.1 15 dX6_looks_53 (by decide) ?_
        exact hH
    · intro w tp c x hc10 ht10 hc hd hx hx10 hk hp hr h6 hH
      refine j_aload_n F.1 dX6_looks_15 rfl ?_
      refine j_geti F (k := 10) inX6 rfl (by decide) fl_X6_88 ⟨by decide, rfl⟩ rfl dX6_looks_16 ?_
      refine j_top hd ?_
      refine j_if_le F.1 69 dX6_looks_19 (by decide) (fun h19 => ?_) (fun h19 => ?_)
      · exact absurd h19 (nI_nle (Nat.succ_pos _) (by omega))
      · refine j_aload_n F.1 dX6_looks_22 rfl ?_
        refine j_getz F (k := 11) inX6 rfl (by decide) fl_X6_98 ⟨by decide, rfl⟩ rfl dX6_looks_23 ?_
        refine j_top (y := 0) (by rw [hr]; rfl) ?_
        refine j_if_ne F.1 69 dX6_looks_26 (by decide) (fun h26 => False.elim (by revert h26; decide)) (fun _ => ?_)
        refine j_aload_n F.1 dX6_looks_29 rfl ?_
        refine j_getr F (k := 7) inX6 rfl (by decide) fl_X6_25 ⟨by decide, rfl⟩ rfl dX6_looks_30 ?_
        refine j_aload_n F.1 dX6_looks_33 rfl ?_
        refine j_geti F (k := 10) inX6 rfl (by decide) fl_X6_88 ⟨by decide, rfl⟩ rfl dX6_looks_34 ?_
        refine j_iconst F.1 (1) dX6_looks_37 (by decide) ?_
        refine j_isub F.1 dX6_looks_38 ?_
        refine j_iald F ⟨by decide, rfl⟩ (by rw [hd, nI_pred]) (by omega) (by decide) dX6_looks_39 ?_
        refine j_top (y := 1) h6 ?_
        refine j_if_ne F.1 56 dX6_looks_40 (by decide) (fun _ => ?_) (fun h40 => False.elim (by revert h40; decide))
        refine j_aload_n F.1 dX6_looks_56 rfl ?_
        refine j_aload_n F.1 dX6_looks_57 rfl ?_
        refine j_geti F (k := 10) inX6 rfl (by decide) fl_X6_88 ⟨by decide, rfl⟩ rfl dX6_looks_58 ?_
        refine j_iconst F.1 (1) dX6_looks_61 (by decide) ?_
        refine j_isub F.1 dX6_looks_62 ?_
        refine j_top (y := nI tp) (by rw [hd, nI_pred]) ?_
        refine j_callVv F (k_works0 hc10 ht10 hc hd hx hx10 hk hp) co_X6_works ml_X6_130 im_X6_works se_X6_works in_X6 rc_X6_works rfl (by decide) (by decide) ⟨by decide, rfl⟩ rfl rfl (Nat.le_of_ble_eq_true rfl) dX6_looks_63 ?_
        refine j_goto F.1 15 dX6_looks_66 (by decide) ?_
        exact hH
    · intro w tp c x y hc10 ht10 hc hd hx hx10 hk hy hy10 hp hr h6 hH
      refine j_aload_n F.1 dX6_looks_15 rfl ?_
      refine j_geti F (k := 10) inX6 rfl (by decide) fl_X6_88 ⟨by decide, rfl⟩ rfl dX6_looks_16 ?_
      refine j_top hd ?_
      refine j_if_le F.1 69 dX6_looks_19 (by decide) (fun h19 => ?_) (fun h19 => ?_)
      · exact absurd h19 (nI_nle (Nat.succ_pos _) (by omega))
      · refine j_aload_n F.1 dX6_looks_22 rfl ?_
        refine j_getz F (k := 11) inX6 rfl (by decide) fl_X6_98 ⟨by decide, rfl⟩ rfl dX6_looks_23 ?_
        refine j_top (y := 0) (by rw [hr]; rfl) ?_
        refine j_if_ne F.1 69 dX6_looks_26 (by decide) (fun h26 => False.elim (by revert h26; decide)) (fun _ => ?_)
        refine j_aload_n F.1 dX6_looks_29 rfl ?_
        refine j_getr F (k := 7) inX6 rfl (by decide) fl_X6_25 ⟨by decide, rfl⟩ rfl dX6_looks_30 ?_
        refine j_aload_n F.1 dX6_looks_33 rfl ?_
        refine j_geti F (k := 10) inX6 rfl (by decide) fl_X6_88 ⟨by decide, rfl⟩ rfl dX6_looks_34 ?_
        refine j_iconst F.1 (1) dX6_looks_37 (by decide) ?_
        refine j_isub F.1 dX6_looks_38 ?_
        refine j_iald F ⟨by decide, rfl⟩ (by rw [hd, nI_pred]) (by omega) (by decide) dX6_looks_39 ?_
        refine j_top (y := 1) h6 ?_
        refine j_if_ne F.1 56 dX6_looks_40 (by decide) (fun _ => ?_) (fun h40 => False.elim (by revert h40; decide))
        refine j_aload_n F.1 dX6_looks_56 rfl ?_
        refine j_aload_n F.1 dX6_looks_57 rfl ?_
        refine j_geti F (k := 10) inX6 rfl (by decide) fl_X6_88 ⟨by decide, rfl⟩ rfl dX6_looks_58 ?_
        refine j_iconst F.1 (1) dX6_looks_61 (by decide) ?_
        refine j_isub F.1 dX6_looks_62 ?_
        refine j_top (y := nI tp) (by rw [hd, nI_pred]) ?_
        refine j_callVv F (k_works1 hc10 ht10 hc hd hx hx10 hk hy hy10 hp) co_X6_works ml_X6_130 im_X6_works se_X6_works in_X6 rc_X6_works rfl (by decide) (by decide) ⟨by decide, rfl⟩ rfl rfl (Nat.le_of_ble_eq_true rfl) dX6_looks_63 ?_
        refine j_goto F.1 15 dX6_looks_66 (by decide) ?_
        exact hH
    · intro w tp c x y hc10 ht10 hc hd hx hx10 hk hy hy10 hr h6 hH
      refine j_aload_n F.1 dX6_looks_15 rfl ?_
      refine j_geti F (k := 10) inX6 rfl (by decide) fl_X6_88 ⟨by decide, rfl⟩ rfl dX6_looks_16 ?_
      refine j_top hd ?_
      refine j_if_le F.1 69 dX6_looks_19 (by decide) (fun h19 => ?_) (fun h19 => ?_)
      · exact absurd h19 (nI_nle (Nat.succ_pos _) (by omega))
      · refine j_aload_n F.1 dX6_looks_22 rfl ?_
        refine j_getz F (k := 11) inX6 rfl (by decide) fl_X6_98 ⟨by decide, rfl⟩ rfl dX6_looks_23 ?_
        refine j_top (y := 0) (by rw [hr]; rfl) ?_
        refine j_if_ne F.1 69 dX6_looks_26 (by decide) (fun h26 => False.elim (by revert h26; decide)) (fun _ => ?_)
        refine j_aload_n F.1 dX6_looks_29 rfl ?_
        refine j_getr F (k := 7) inX6 rfl (by decide) fl_X6_25 ⟨by decide, rfl⟩ rfl dX6_looks_30 ?_
        refine j_aload_n F.1 dX6_looks_33 rfl ?_
        refine j_geti F (k := 10) inX6 rfl (by decide) fl_X6_88 ⟨by decide, rfl⟩ rfl dX6_looks_34 ?_
        refine j_iconst F.1 (1) dX6_looks_37 (by decide) ?_
        refine j_isub F.1 dX6_looks_38 ?_
        refine j_iald F ⟨by decide, rfl⟩ (by rw [hd, nI_pred]) (by omega) (by decide) dX6_looks_39 ?_
        refine j_top (y := 1) h6 ?_
        refine j_if_ne F.1 56 dX6_looks_40 (by decide) (fun _ => ?_) (fun h40 => False.elim (by revert h40; decide))
        refine j_aload_n F.1 dX6_looks_56 rfl ?_
        refine j_aload_n F.1 dX6_looks_57 rfl ?_
        refine j_geti F (k := 10) inX6 rfl (by decide) fl_X6_88 ⟨by decide, rfl⟩ rfl dX6_looks_58 ?_
        refine j_iconst F.1 (1) dX6_looks_61 (by decide) ?_
        refine j_isub F.1 dX6_looks_62 ?_
        refine j_top (y := nI tp) (by rw [hd, nI_pred]) ?_
        refine j_callVv F (k_works2 hc10 ht10 hc hd hx hx10 hk hy hy10) co_X6_works ml_X6_130 im_X6_works se_X6_works in_X6 rc_X6_works rfl (by decide) (by decide) ⟨by decide, rfl⟩ rfl rfl (Nat.le_of_ble_eq_true rfl) dX6_looks_63 ?_
        refine j_goto F.1 15 dX6_looks_66 (by decide) ?_
        exact hH
  refine j_aload_n F.1 dX6_looks_0 rfl ?_
  refine j_iconst F.1 (0) dX6_looks_1 (by decide) ?_
  refine j_puti F (k := 10) inX6 tyX6_ok nmX6 rfl (by decide) fl_X6_88 rfl rfl ⟨by decide, rfl⟩ rfl dX6_looks_2 ?_
  refine j_aload_n F.1 dX6_looks_5 rfl ?_
  refine j_iconst F.1 (0) dX6_looks_6 (by decide) ?_
  refine j_putz F (k := 11) inX6 tyX6_ok nmX6 rfl (by decide) fl_X6_98 rfl rfl ⟨by decide, rfl⟩ rfl (by first | exact Or.inl rfl | exact Or.inr rfl | exact rcb_01 _) dX6_looks_7 ?_
  refine j_aload_n F.1 dX6_looks_10 rfl ?_
  refine j_iload_n F.1 dX6_looks_11 rfl ?_
  
  refine j_callVv F (k_enters (dp := 0) hc0 (by rw [rcu_k (by decide)]; exact rcu_self) (by decide) (fun _ _ _ => by decide)) co_X6_enters ml_X6_114 im_X6_enters se_X6_enters in_X6 rc_X6_enters rfl (by decide) (by decide) ⟨by decide, rfl⟩ rfl rfl (Nat.le_of_ble_eq_true rfl) dX6_looks_12 ?_
  have F0 : FrS v (rcu (rcu v 0 10 0) 0 11 0) := (FrS.d (Or.inl rfl)).tr (FrS.d (Or.inr rfl))
  have e0 : (rcu (rcu v 0 10 0) 0 11 0) 1 = v 1 := by rw [rcu_ne (by decide), rcu_ne (by decide)]
  refine j_loc [(0, .ref (Y.2.1 0)), (1, .int (nI c0))] rfl ?_
  refine LK_all hst 11 [] c0 (rcu (rcu v 0 10 0) 0 11 0) hc0 ⟨by rw [e0]; exact hP, fun o ho => by cases ho⟩ ⟨List.nodup_nil, fun o ho => by cases ho⟩ (by decide) (by rw [rcu_k (by decide)]; exact rcu_self) trivial rcu_self ?_
  rw [e0]
  cases ea : A_look 11 [] (v 1) c0 with
  | none =>
    intro w h11 fr
    refine j_aload_n F.1 dX6_looks_15 rfl ?_
    refine j_geti F (k := 10) inX6 rfl (by decide) fl_X6_88 ⟨by decide, rfl⟩ rfl dX6_looks_16 ?_
    refine j_if_le F.1 69 dX6_looks_19 (by decide) (fun h19 => ?_) (fun h19 => ?_)
    · refine j_aload_n F.1 dX6_looks_69 rfl ?_
      refine j_getz F (k := 11) inX6 rfl (by decide) fl_X6_98 ⟨by decide, rfl⟩ rfl dX6_looks_70 ?_
      refine j_top (y := 1) (by rw [h11]; rfl) ?_
      refine j_if_ne F.1 80 dX6_looks_73 (by decide) (fun _ => ?_) (fun h73 => False.elim (by revert h73; decide))
      refine j_iconst F.1 (0) dX6_looks_80 (by decide) ?_
      exact j_zret F (by first | exact Or.inl rfl | exact Or.inr rfl | exact b2_01 _) dX6_looks_81 ((by unfold KL; rw [ea]; exact ⟨rfl, F0.tr fr⟩))
    · refine j_aload_n F.1 dX6_looks_22 rfl ?_
      refine j_getz F (k := 11) inX6 rfl (by decide) fl_X6_98 ⟨by decide, rfl⟩ rfl dX6_looks_23 ?_
      refine j_top (y := 1) (by rw [h11]; rfl) ?_
      refine j_if_ne F.1 69 dX6_looks_26 (by decide) (fun _ => ?_) (fun h26 => False.elim (by revert h26; decide))
      refine j_aload_n F.1 dX6_looks_69 rfl ?_
      refine j_getz F (k := 11) inX6 rfl (by decide) fl_X6_98 ⟨by decide, rfl⟩ rfl dX6_looks_70 ?_
      refine j_top (y := 1) (by rw [h11]; rfl) ?_
      refine j_if_ne F.1 80 dX6_looks_73 (by decide) (fun _ => ?_) (fun h73 => False.elim (by revert h73; decide))
      refine j_iconst F.1 (0) dX6_looks_80 (by decide) ?_
      exact j_zret F (by first | exact Or.inl rfl | exact Or.inr rfl | exact b2_01 _) dX6_looks_81 ((by unfold KL; rw [ea]; exact ⟨rfl, F0.tr fr⟩))
  | some g =>
    intro w r1 hd h11 lo fr
    refine j_aload_n F.1 dX6_looks_15 rfl ?_
    refine j_geti F (k := 10) inX6 rfl (by decide) fl_X6_88 ⟨by decide, rfl⟩ rfl dX6_looks_16 ?_
    refine j_top (y := 0) (by rw [hd]; rfl) ?_
    refine j_if_le F.1 69 dX6_looks_19 (by decide) (fun _ => ?_) (fun h19 => False.elim (by revert h19; decide))
    refine j_aload_n F.1 dX6_looks_69 rfl ?_
    refine j_getz F (k := 11) inX6 rfl (by decide) fl_X6_98 ⟨by decide, rfl⟩ rfl dX6_looks_70 ?_
    refine j_top (y := 0) (by rw [h11]; rfl) ?_
    refine j_if_ne F.1 80 dX6_looks_73 (by decide) (fun h73 => False.elim (by revert h73; decide)) (fun _ => ?_)
    refine j_iconst F.1 (1) dX6_looks_76 (by decide) ?_
    refine j_goto F.1 81 dX6_looks_77 (by decide) ?_
    exact j_zret F (by first | exact Or.inl rfl | exact Or.inr rfl | exact b2_01 _) dX6_looks_81 ((by unfold KL; rw [ea]; exact ⟨rfl, r1, F0.tr fr⟩))
end
section
/-! The reference: remembered answers, and what goes. -/
def remI (f : Nat → Int32) : Nat → Int32
  | 0 => 0
  | n + 1 => remI f n + f (ix n 6)
/-- nine places of a cell laid to 0, as far as n -/
def zd (n i : Nat) (f : Nat → Int32) : Nat → Int32 := fun k => if ix i 6 ≤ k ∧ k < ix i n then 0 else f k
theorem zd_6 {i : Nat} {f : Nat → Int32} : zd 6 i f = f := by
  funext k
  unfold zd
  rw [if_neg (by omega)]
theorem zd_s {n i : Nat} {f : Nat → Int32} (h : 6 ≤ n) : upd (zd n i f) (ix i n) 0 = zd (n + 1) i f := by
  funext k
  unfold upd zd ix
  by_cases e : k = 8 + 15 * i + n
  · rw [if_pos e, if_pos (by omega)]
  · rw [if_neg e]
    by_cases h2 : 8 + 15 * i + 6 ≤ k ∧ k < 8 + 15 * i + n
    · rw [if_pos h2, if_pos (by omega)]
    · rw [if_neg h2, if_neg (by omega)]
def A_drop (f : Nat → Int32) (i : Nat) : Nat → Int32 := upd (zd 15 i f) 4 (f 4 + 1)
/-- the oldest of the first k cells' answers -/
def old (f : Nat → Int32) : Nat → Int32
  | 0 => -1
  | k + 1 => if f (ix k 6) = 1 ∧ (old f k < 0 ∨ f (ix k 13) < f (ix (cN (old f k)) 13)) then nI k else old f k
def A_trim : Nat → (Nat → Int32) → (Nat → Int32)
  | 0, f => f
  | m + 1, f => if f 5 < remI f 10 then A_trim m (A_drop f (cN (old f 10))) else f
theorem A_trim_s {m : Nat} {f : Nat → Int32} : A_trim (m + 1) f = if f 5 < remI f 10 then A_trim m (A_drop f (cN (old f 10))) else f := rfl
/-- how many of the first k cells have an answer -/
def cntH (f : Nat → Int32) : Nat → Nat
  | 0 => 0
  | k + 1 => cntH f k + (if f (ix k 6) = 1 then 1 else 0)
theorem cntH_le {f : Nat → Int32} : ∀ k, cntH f k ≤ k
  | 0 => Nat.le_refl _
  | k + 1 => by have := cntH_le (f := f) k; unfold cntH; split <;> omega
theorem remI_cnt {f : Nat → Int32} (h : ∀ i, i < 10 → f (ix i 6) = 0 ∨ f (ix i 6) = 1) : ∀ k, k ≤ 10 → remI f k = nI (cntH f k)
  | 0, _ => rfl
  | k + 1, hk => by
    unfold remI cntH
    rw [remI_cnt h k (by omega)]
    rcases h k (by omega) with z | z
    · rw [z, if_neg (by decide)]
      show nI _ + nI 0 = _
      rw [nI_add]
    · rw [z, if_pos rfl, nI_1]
theorem old_spec {f : Nat → Int32} : ∀ k, k ≤ 10 → (cntH f k = 0 ∧ old f k = -1) ∨ (0 < cntH f k ∧ ∃ j, j < k ∧ old f k = nI j ∧ f (ix j 6) = 1)
  | 0, _ => Or.inl ⟨rfl, rfl⟩
  | k + 1, hk => by
    unfold old cntH
    by_cases h6 : f (ix k 6) = 1
    · rw [if_pos h6]
      refine Or.inr ⟨by omega, ?_⟩
      split
      · exact ⟨k, by omega, rfl, h6⟩
      · rename_i hn
        rcases old_spec (f := f) k (by omega) with z | ⟨z, j, hj, e, e6⟩
        · exact absurd ⟨h6, Or.inl (by rw [z.2]; decide)⟩ hn
        · exact ⟨j, by omega, e, e6⟩
    · rw [if_neg h6, if_neg (fun q => h6 q.1)]
      rcases old_spec (f := f) k (by omega) with z | ⟨z, j, hj, e, e6⟩
      · exact Or.inl ⟨by omega, z.2⟩
      · exact Or.inr ⟨by omega, j, by omega, e, e6⟩
theorem drop_o {f : Nat → Int32} {c k : Nat} (h : ∀ j, 6 ≤ j → j < 15 → k ≠ ix c j) (h4 : k ≠ 4) : A_drop f c k = f k := by
  unfold A_drop
  rw [pk_un h4]
  unfold zd
  rw [if_neg]
  intro q
  unfold ix at q h
  exact h (k - (8 + 15 * c)) (by omega) (by omega) (by omega)
theorem drop_6 {f : Nat → Int32} {c j : Nat} (h : 6 ≤ j) (h2 : j < 15) : A_drop f c (ix c j) = 0 := by
  unfold A_drop
  rw [pk_un (ix_g (by decide))]
  unfold zd
  rw [if_pos (by unfold ix; omega)]
theorem drop_c {f : Nat → Int32} {c i j : Nat} (h : i ≠ c) (hj : j < 15) : A_drop f c (ix i j) = f (ix i j) := drop_o (fun q _ h2 => ix_o h hj h2) (ix_g (by decide))
theorem drop_d {f : Nat → Int32} {c j : Nat} (hj : j < 6) : A_drop f c (ix c j) = f (ix c j) := drop_o (fun q h1 _ => ix_j (by omega)) (ix_g (by decide))
theorem drop_g {f : Nat → Int32} {c k : Nat} (hk : k < 8) (h4 : k ≠ 4) : A_drop f c k = f k := drop_o (fun q _ _ => ix_h hk) h4
theorem drop_cnt {f : Nat → Int32} {c : Nat} : ∀ k, cntH (A_drop f c) k + (if c < k ∧ f (ix c 6) = 1 then 1 else 0) = cntH f k
  | 0 => by simp [cntH]
  | k + 1 => by
    have ih := drop_cnt (f := f) (c := c) k
    unfold cntH
    by_cases e : k = c
    · subst e
      rw [drop_6 (by decide) (by decide), if_neg (show ¬ (0 : Int32) = 1 by decide)]
      rw [if_neg (fun q => absurd q.1 (Nat.lt_irrefl _))] at ih
      by_cases h6 : f (ix k 6) = 1
      · rw [if_pos ⟨Nat.lt_succ_self _, h6⟩, if_pos h6]; omega
      · rw [if_neg (fun q => h6 q.2), if_neg h6]; omega
    · rw [drop_c e (by decide)]
      by_cases h6 : c < k ∧ f (ix c 6) = 1
      · rw [if_pos h6] at ih
        rw [if_pos (show c < k + 1 ∧ f (ix c 6) = 1 from ⟨by omega, h6.2⟩)]; omega
      · rw [if_neg h6] at ih
        rw [if_neg (show ¬ (c < k + 1 ∧ f (ix c 6) = 1) from fun q => h6 ⟨by omega, q.2⟩)]; omega
theorem drop_wf {f : Nat → Int32} {c : Nat} (w : WF f) : WF (A_drop f c) := by
  refine ⟨fun i hi => ?_, by rw [drop_g (by decide) (by decide)]; exact w.2.1, by rw [drop_g (by decide) (by decide)]; exact w.2.2⟩
  by_cases e : i = c
  · subst e
    have w0 := w.1 i hi
    unfold wfCell at w0 ⊢
    rw [drop_d (by decide), drop_d (by decide), drop_d (by decide), drop_d (by decide), drop_d (by decide), drop_d (by decide), drop_6 (by decide) (by decide)]
    exact ⟨w0.1, fun z => let q := w0.2.1 z; ⟨q.1, q.2.1, q.2.2.1, q.2.2.2.1, q.2.2.2.2.1, q.2.2.2.2.2.1, rfl⟩, w0.2.2.1, Or.inl rfl, fun z => absurd z (by decide)⟩
  · exact wfCell_same (fun j hj _ => drop_c e (by omega)) (w.1 i hi)
set_option maxHeartbeats 4000000 in
set_option maxRecDepth 100000 in
theorem k_remembered {Y : rcY} {la : Launch} {v : rcM}  : rcT shM 13 Y la 1 (yX6_remembered, cX6_remembered, 3, (some .int)) [.ref (Y.2.1 0)] (v) (rI (remI (v 1) 10) v) := by
  refine rcT.of (by decide +kernel) (Nat.le_of_ble_eq_true rfl) (fun X F hn => ?_)
  have loop : ∀ r t : Nat, t ≤ 10 → 10 < t + r → rcJ shM 13 Y X (rI (remI (v 1) 10) v) 4 [(2, .int (nI (t))), (1, .int (remI (v 1) (t))), (0, .ref (Y.2.1 0))] [] v := by
    intro r
    induction r with
    | zero => intro t ht hr; omega
    | succ r ih =>
      intro t ht hr
      refine j_iload_n F.1 dX6_remembered_4 rfl ?_
      refine j_bipush F.1 (10) dX6_remembered_5 (by decide) ?_
      refine j_icmp_ge F.1 26 dX6_remembered_7 (by decide) (fun h7 => ?_) (fun h7 => ?_)
      · have q7 : 10 ≤ t := (nI_leI (a := 10) (b := t) (by omega) (by omega)).mp h7
        refine j_iload_n F.1 dX6_remembered_26 rfl ?_
        exact j_iret F dX6_remembered_27 ((rIe (by rw [Nat.le_antisymm ht q7]) rfl))
      · have q7 : t < 10 := Nat.lt_of_not_le (fun z => h7 ((nI_leI (a := 10) (b := t) (by omega) (by omega)).mpr z))
        refine j_iload_n F.1 dX6_remembered_10 rfl ?_
        refine j_aload_n F.1 dX6_remembered_11 rfl ?_
        refine j_iload_n F.1 dX6_remembered_12 rfl ?_
        refine j_bipush F.1 (6) dX6_remembered_13 (by decide) ?_
        refine j_callVi F (k_of (by omega) (by decide)) co_X6_of ml_X6_55 im_X6_of se_X6_of in_X6 rc_X6_of rfl (by decide) (by decide) ⟨by decide, rfl⟩ rfl rfl (Nat.le_of_ble_eq_true rfl) dX6_remembered_15 ?_
        refine j_iadd F.1 dX6_remembered_18 ?_
        refine j_istore_n F.1 dX6_remembered_19 (by rw [hn]; decide) ?_
        refine j_iinc F.1 (1) dX6_remembered_20 (by decide) rfl (by rw [hn]; decide) ?_
        refine j_goto F.1 4 dX6_remembered_23 (by decide) ?_
        refine j_loc [(2, .int (nI (t + 1))), (1, .int (remI (v 1) (t + 1))), (0, .ref (Y.2.1 0))] (by rw [← nI_1]; rfl) ?_
        exact ih (t + 1) (by omega) (by omega)
  refine j_iconst F.1 (0) dX6_remembered_0 (by decide) ?_
  refine j_istore_n F.1 dX6_remembered_1 (by rw [hn]; decide) ?_
  refine j_iconst F.1 (0) dX6_remembered_2 (by decide) ?_
  refine j_istore_n F.1 dX6_remembered_3 (by rw [hn]; decide) ?_
  refine j_loc [(2, .int (nI (0))), (1, .int (remI (v 1) (0))), (0, .ref (Y.2.1 0))] rfl ?_
  exact loop 11 0 (by omega) (by omega)
set_option maxHeartbeats 4000000 in
set_option maxRecDepth 100000 in
theorem k_drops {Y : rcY} {la : Launch} {v : rcM} {i : Nat} (hi : i < 10) : rcT shM 13 Y la 1 (yX6_drops, cX6_drops, 3, none) [.ref (Y.2.1 0), .int (nI i)] (v) (rV (rcr v 1 (A_drop (v 1) i))) := by
  refine rcT.of (by decide +kernel) (Nat.le_of_ble_eq_true rfl) (fun X F hn => ?_)
  have loop : ∀ r t : Nat, 6 ≤ t → t ≤ 15 → 15 < t + r → rcJ shM 13 Y X (rV (rcr v 1 (A_drop (v 1) i))) 3 [(2, .int (nI (t))), (0, .ref (Y.2.1 0)), (1, .int (nI i))] [] (rcr v 1 (zd (t) i (v 1))) := by
    intro r
    induction r with
    | zero => intro t hlo ht hr; omega
    | succ r ih =>
      intro t hlo ht hr
      refine j_iload_n F.1 dX6_drops_3 rfl ?_
      refine j_bipush F.1 (15) dX6_drops_4 (by decide) ?_
      refine j_icmp_ge F.1 22 dX6_drops_6 (by decide) (fun h6 => ?_) (fun h6 => ?_)
      · have q6 : 15 ≤ t := (nI_leI (a := 15) (b := t) (by omega) (by omega)).mp h6
        refine j_aload_n F.1 dX6_drops_22 rfl ?_
        refine j_getr F (k := 0) inX6 rfl (by decide) fl_X6_7 ⟨by decide, rfl⟩ rfl dX6_drops_23 ?_
        refine j_iconst F.1 (4) dX6_drops_26 (by decide) ?_
        refine j_dup2 F.1 dX6_drops_27 rfl rfl ?_
        refine j_iald F ⟨by decide, rfl⟩ rfl (by decide) (by decide) dX6_drops_28 ?_
        refine j_iconst F.1 (1) dX6_drops_29 (by decide) ?_
        refine j_iadd F.1 dX6_drops_30 ?_
        refine j_iast F ⟨by decide, rfl⟩ rfl (by decide) (by decide) dX6_drops_31 ?_
        exact j_vret F dX6_drops_32 ((rVe (by rw [Nat.le_antisymm ht q6, rcu_r, rcr_rcr, rcr_s]; have z4 : zd 15 i (v 1) 4 = v 1 4 := by { unfold zd ix; rw [if_neg (by omega)] }; rw [z4]; rfl)))
      · have q6 : t < 15 := Nat.lt_of_not_le (fun z => h6 ((nI_leI (a := 15) (b := t) (by omega) (by omega)).mpr z))
        refine j_aload_n F.1 dX6_drops_9 rfl ?_
        refine j_iload_n F.1 dX6_drops_10 rfl ?_
        refine j_iload_n F.1 dX6_drops_11 rfl ?_
        refine j_iconst F.1 (0) dX6_drops_12 (by decide) ?_
        refine j_callVv F (k_puts hi (by omega)) co_X6_puts ml_X6_63 im_X6_puts se_X6_puts in_X6 rc_X6_puts rfl (by decide) (by decide) ⟨by decide, rfl⟩ rfl rfl (Nat.le_of_ble_eq_true rfl) dX6_drops_13 ?_
        rw [rcr_rcr, rcr_s]
        refine j_iinc F.1 (1) dX6_drops_16 (by decide) rfl (by rw [hn]; decide) ?_
        refine j_goto F.1 3 dX6_drops_19 (by decide) ?_
        refine j_loc [(2, .int (nI (t + 1))), (0, .ref (Y.2.1 0)), (1, .int (nI i))] (by rw [← nI_1]; rfl) ?_
        rw [zd_s hlo]
        exact ih (t + 1) (by omega) (by omega) (by omega)
  refine j_bipush F.1 (6) dX6_drops_0 (by decide) ?_
  refine j_istore_n F.1 dX6_drops_2 (by rw [hn]; decide) ?_
  refine j_loc [(2, .int (nI (6))), (0, .ref (Y.2.1 0)), (1, .int (nI i))] rfl ?_
  have e := loop 16 6 (by omega) (by omega) (by omega)
  rw [zd_6, rcr_self] at e
  exact e
set_option maxHeartbeats 4000000 in
set_option maxRecDepth 100000 in
theorem k_trims {Y : rcY} {la : Launch} {v : rcM} (hw : WF (v 1)) : rcT shM 13 Y la 2 (yX6_trims, cX6_trims, 3, none) [.ref (Y.2.1 0)] (v) (rV (rcr v 1 (A_trim 10 (v 1)))) := by
  refine rcT.of (by decide +kernel) (Nat.le_of_ble_eq_true rfl) (fun X F hn => ?_)
  have inner : ∀ (K : Option Value → rcM → Prop) (w : rcM), rcJ shM 13 Y X K 67 [(1, .int (old (w 1) 10)), (0, .ref (Y.2.1 0))] [] w → rcJ shM 13 Y X K 17 [(2, .int (nI (0))), (1, .int (old (w 1) (0))), (0, .ref (Y.2.1 0))] [] w := by
    intro K w hB
    have loop : ∀ r t : Nat, t ≤ 10 → 10 < t + r → rcJ shM 13 Y X K 17 [(2, .int (nI (t))), (1, .int (old (w 1) (t))), (0, .ref (Y.2.1 0))] [] w := by
      intro r
      induction r with
      | zero => intro t ht hr; omega
      | succ r ih =>
        intro t ht hr
        refine j_iload_n F.1 dX6_trims_17 rfl ?_
        refine j_bipush F.1 (10) dX6_trims_18 (by decide) ?_
        refine j_icmp_ge F.1 67 dX6_trims_20 (by decide) (fun h20 => ?_) (fun h20 => ?_)
        · have q20 : 10 ≤ t := (nI_leI (a := 10) (b := t) (by omega) (by omega)).mp h20
          refine j_loc [(1, .int (old (w 1) t)), (0, .ref (Y.2.1 0))] rfl ?_
          rw [Nat.le_antisymm ht q20]
          exact hB
        · have q20 : t < 10 := Nat.lt_of_not_le (fun z => h20 ((nI_leI (a := 10) (b := t) (by omega) (by omega)).mpr z))
          refine j_aload_n F.1 dX6_trims_23 rfl ?_
          refine j_iload_n F.1 dX6_trims_24 rfl ?_
          refine j_bipush F.1 (6) dX6_trims_25 (by decide) ?_
          refine j_callVi F (k_of (by omega) (by decide)) co_X6_of ml_X6_55 im_X6_of se_X6_of in_X6 rc_X6_of rfl (by decide) (by decide) ⟨by decide, rfl⟩ rfl rfl (Nat.le_of_ble_eq_true rfl) dX6_trims_27 ?_
          refine j_iconst F.1 (1) dX6_trims_30 (by decide) ?_
          refine j_icmp_ne F.1 59 dX6_trims_31 (by decide) (fun h31 => ?_) (fun h31 => ?_)
          · have ho : old (w 1) (t + 1) = old (w 1) t := if_neg (fun q => h31 q.1)
            refine j_iload_n F.1 dX6_trims_59 rfl ?_
            refine j_top ho.symm ?_
            refine j_istore_n F.1 dX6_trims_60 (by rw [hn]; decide) ?_
            refine j_iinc F.1 (1) dX6_trims_61 (by decide) rfl (by rw [hn]; decide) ?_
            refine j_goto F.1 17 dX6_trims_64 (by decide) ?_
            refine j_loc [(2, .int (nI (t + 1))), (1, .int (old (w 1) (t + 1))), (0, .ref (Y.2.1 0))] (by rw [← nI_1]; rfl) ?_
            exact ih (t + 1) (by omega) (by omega)
          · refine j_iload_n F.1 dX6_trims_34 rfl ?_
            refine j_if_lt F.1 55 dX6_trims_35 (by decide) (fun h35 => ?_) (fun h35 => ?_)
            · have ho : old (w 1) (t + 1) = nI t := if_pos ⟨h31, Or.inl h35⟩
              refine j_iload_n F.1 dX6_trims_55 rfl ?_
              refine j_goto F.1 60 dX6_trims_56 (by decide) ?_
              refine j_top ho.symm ?_
              refine j_istore_n F.1 dX6_trims_60 (by rw [hn]; decide) ?_
              refine j_iinc F.1 (1) dX6_trims_61 (by decide) rfl (by rw [hn]; decide) ?_
              refine j_goto F.1 17 dX6_trims_64 (by decide) ?_
              refine j_loc [(2, .int (nI (t + 1))), (1, .int (old (w 1) (t + 1))), (0, .ref (Y.2.1 0))] (by rw [← nI_1]; rfl) ?_
              exact ih (t + 1) (by omega) (by omega)
            · obtain ⟨j, hj, e⟩ : ∃ j, j < 10 ∧ old (w 1) t = nI j := by
                rcases old_spec (f := w 1) t (by omega) with z | ⟨_, j, hj, e, _⟩
                · exact absurd (by rw [z.2]; decide) h35
                · exact ⟨j, by omega, e⟩
              refine j_aload_n F.1 dX6_trims_38 rfl ?_
              refine j_iload_n F.1 dX6_trims_39 rfl ?_
              refine j_bipush F.1 (13) dX6_trims_40 (by decide) ?_
              refine j_callVi F (k_of (by omega) (by decide)) co_X6_of ml_X6_55 im_X6_of se_X6_of in_X6 rc_X6_of rfl (by decide) (by decide) ⟨by decide, rfl⟩ rfl rfl (Nat.le_of_ble_eq_true rfl) dX6_trims_42 ?_
              refine j_aload_n F.1 dX6_trims_45 rfl ?_
              refine j_iload_n F.1 dX6_trims_46 rfl ?_
              refine j_top e ?_
              refine j_bipush F.1 (13) dX6_trims_47 (by decide) ?_
              refine j_callVi F (k_of (by omega) (by decide)) co_X6_of ml_X6_55 im_X6_of se_X6_of in_X6 rc_X6_of rfl (by decide) (by decide) ⟨by decide, rfl⟩ rfl rfl (Nat.le_of_ble_eq_true rfl) dX6_trims_49 ?_
              refine j_icmp_ge F.1 59 dX6_trims_52 (by decide) (fun h52 => ?_) (fun h52 => ?_)
              · have ho : old (w 1) (t + 1) = old (w 1) t := if_neg (fun q => q.2.elim h35 (fun z => by rw [e, cN_nI hj] at z; exact Int32.not_lt.mpr h52 z))
                refine j_iload_n F.1 dX6_trims_59 rfl ?_
                refine j_top ho.symm ?_
                refine j_istore_n F.1 dX6_trims_60 (by rw [hn]; decide) ?_
                refine j_iinc F.1 (1) dX6_trims_61 (by decide) rfl (by rw [hn]; decide) ?_
                refine j_goto F.1 17 dX6_trims_64 (by decide) ?_
                refine j_loc [(2, .int (nI (t + 1))), (1, .int (old (w 1) (t + 1))), (0, .ref (Y.2.1 0))] (by rw [← nI_1]; rfl) ?_
                exact ih (t + 1) (by omega) (by omega)
              · have ho : old (w 1) (t + 1) = nI t := if_pos ⟨h31, Or.inr (by rw [e, cN_nI hj]; exact Int32.not_le.mp h52)⟩
                refine j_iload_n F.1 dX6_trims_55 rfl ?_
                refine j_goto F.1 60 dX6_trims_56 (by decide) ?_
                refine j_top ho.symm ?_
                refine j_istore_n F.1 dX6_trims_60 (by rw [hn]; decide) ?_
                refine j_iinc F.1 (1) dX6_trims_61 (by decide) rfl (by rw [hn]; decide) ?_
                refine j_goto F.1 17 dX6_trims_64 (by decide) ?_
                refine j_loc [(2, .int (nI (t + 1))), (1, .int (old (w 1) (t + 1))), (0, .ref (Y.2.1 0))] (by rw [← nI_1]; rfl) ?_
                exact ih (t + 1) (by omega) (by omega)
    exact loop 11 0 (by omega) (by omega)
  have outer : ∀ (m : Nat) (w : rcM) (K : Option Value → rcM → Prop), WF (w 1) → cntH (w 1) 10 ≤ m → K = rV (rcr w 1 (A_trim m (w 1))) → rcJ shM 13 Y X K 0 [(0, .ref (Y.2.1 0))] [] w := by
    intro m
    induction m with
    | zero =>
      intro w K hw hm hK
      refine j_aload_n F.1 dX6_trims_0 rfl ?_
      refine j_callVi F (k_remembered) co_X6_remembered ml_X6_133 im_X6_remembered se_X6_remembered in_X6 rc_X6_remembered rfl (by decide) (by decide) ⟨by decide, rfl⟩ rfl rfl (Nat.le_of_ble_eq_true rfl) dX6_trims_1 ?_
      refine j_aload_n F.1 dX6_trims_4 rfl ?_
      refine j_getr F (k := 0) inX6 rfl (by decide) fl_X6_7 ⟨by decide, rfl⟩ rfl dX6_trims_5 ?_
      refine j_iconst F.1 (5) dX6_trims_8 (by decide) ?_
      refine j_iald F ⟨by decide, rfl⟩ rfl (by decide) (by decide) dX6_trims_9 ?_
      refine j_icmp_le F.1 75 dX6_trims_10 (by decide) (fun h10 => ?_) (fun h10 => ?_)
      · exact j_vret F dX6_trims_75 ((by rw [hK]; exact rVe (by unfold A_trim; rw [rcr_self])))
      · exact absurd (by rw [remI_cnt (fun i hi => (hw.1 i hi).2.2.2.1) 10 (by decide), show cntH (w 1) 10 = 0 by omega]; exact Int32.le_iff_toInt_le.mpr (by rw [show (nI 0).toInt = 0 from rfl]; exact hw.2.2)) h10
    | succ m ih =>
      intro w K hw hm hK
      refine j_aload_n F.1 dX6_trims_0 rfl ?_
      refine j_callVi F (k_remembered) co_X6_remembered ml_X6_133 im_X6_remembered se_X6_remembered in_X6 rc_X6_remembered rfl (by decide) (by decide) ⟨by decide, rfl⟩ rfl rfl (Nat.le_of_ble_eq_true rfl) dX6_trims_1 ?_
      refine j_aload_n F.1 dX6_trims_4 rfl ?_
      refine j_getr F (k := 0) inX6 rfl (by decide) fl_X6_7 ⟨by decide, rfl⟩ rfl dX6_trims_5 ?_
      refine j_iconst F.1 (5) dX6_trims_8 (by decide) ?_
      refine j_iald F ⟨by decide, rfl⟩ rfl (by decide) (by decide) dX6_trims_9 ?_
      refine j_icmp_le F.1 75 dX6_trims_10 (by decide) (fun h10 => ?_) (fun h10 => ?_)
      · exact j_vret F dX6_trims_75 ((by rw [hK]; exact rVe (by rw [A_trim_s]; rw [if_neg (Int32.not_lt.mpr h10), rcr_self])))
      · obtain ⟨j, hj, e, e6⟩ : ∃ j, j < 10 ∧ old (w 1) 10 = nI j ∧ w 1 (ix j 6) = 1 := by
          rcases old_spec (f := w 1) 10 (by decide) with z | ⟨_, j, hj, e, e6⟩
          · rw [remI_cnt (fun i hi => (hw.1 i hi).2.2.2.1) 10 (by decide), z.1] at h10
            exact absurd (Int32.le_iff_toInt_le.mpr (by rw [show (nI 0).toInt = 0 from rfl]; exact hw.2.2)) h10
          · exact ⟨j, by omega, e, e6⟩
        refine j_iconst F.1 (-1) dX6_trims_13 (by decide) ?_
        refine j_istore_n F.1 dX6_trims_14 (by rw [hn]; decide) ?_
        refine j_iconst F.1 (0) dX6_trims_15 (by decide) ?_
        refine j_istore_n F.1 dX6_trims_16 (by rw [hn]; decide) ?_
        refine j_loc [(2, .int (nI (0))), (1, .int (old (w 1) (0))), (0, .ref (Y.2.1 0))] rfl ?_
        refine inner _ _ ?_
        refine j_aload_n F.1 dX6_trims_67 rfl ?_
        refine j_iload_n F.1 dX6_trims_68 rfl ?_
        refine j_top e ?_
        refine j_callVv F (k_drops hj) co_X6_drops ml_X6_137 im_X6_drops se_X6_drops in_X6 rc_X6_drops rfl (by decide) (by decide) ⟨by decide, rfl⟩ rfl rfl (Nat.le_of_ble_eq_true rfl) dX6_trims_69 ?_
        refine j_goto F.1 0 dX6_trims_72 (by decide) ?_
        refine j_loc [(0, .ref (Y.2.1 0))] rfl ?_
        refine ih (rcr w 1 (A_drop (w 1) j)) _ (by rw [rcr_s]; exact drop_wf hw) (by rw [rcr_s]; have := drop_cnt (f := w 1) (c := j) 10; rw [if_pos ⟨hj, e6⟩] at this; omega) ?_
        rw [hK, rcr_s, rcr_rcr]
        rw [A_trim_s]
        rw [if_pos (Int32.not_le.mp h10), e, cN_nI hj]
  exact outer 10 v _ hw (cntH_le 10) rfl
end
section
/-! The reference: ask, cost, forget, bound, rememberedOf, count, undo. -/
theorem arrV_congr {cA : ClassId} {N : Nat} {f g : Nat → Value} (h : ∀ j, j < N → f j = g j) : arrV cA N f = arrV cA N g := by
  unfold arrV
  have e : (fun j : Fin N => f j.val) = fun j : Fin N => g j.val := funext (fun j => h j.val j.isLt)
  rw [e]
theorem wd_row {Y : rcY} {v : rcM} {H : Heap} {f : Nat → Int32} (h : ∀ k, k < 158 → f k = v 1 k) (hw : rcW shM 13 Y v H) : rcW shM 13 Y (rcr v 1 f) H := by
  intro k q hq
  obtain ⟨hlt, rfl⟩ := rcw_lt hq
  have h0 := hw k _ (rcw_at hlt)
  by_cases e : k = 1
  · subst e
    rw [rce_arr (sh := shM) (t := 0) (n := 158) rfl] at h0 ⊢
    show H[Y.2.1 1]? = some (arrV (Y.1 1) 158 (fun j => .int (rcr v 1 f 1 j)))
    have h1 : H[Y.2.1 1]? = some (arrV (Y.1 1) 158 (fun j => .int (v 1 j))) := h0
    rw [h1, rcr_s]
    exact congrArg some (arrV_congr (fun j hj => by rw [h j hj]))
  · rw [rce_ne (v := v) (v' := rcr v 1 f) (rcr_n e)]
    exact h0
theorem j_row {Y : rcY} {X : rcX} {K : Option Value → rcM → Prop} {pc : Nat} {l : List (Nat × Value)} {st : List Value} {v : rcM} (f : Nat → Int32) (h : ∀ k, k < 158 → f k = v 1 k) (k : rcJ shM 13 Y X K pc l st (rcr v 1 f)) : rcJ shM 13 Y X K pc l st v :=
  fun H locs ls hl hw hS => k H locs ls hl (wd_row h hw) hS
theorem j_tl {σ : Type} {X : rcX} {Wd : σ → Heap → Prop} {A : Nat → Prop} {Q : State → Prop} {pc : Nat} {l : List (Nat × Value)} {st : List Value} {v : σ} {x : Value} (k : rcG X Wd A Q pc l (x :: st) v) : rcG X Wd A Q pc l ((some x).toList ++ st) v := k
/-- an answer, the state's row, the history's row and the number of states in it, behind a call; the text stays -/
def KM (v : rcM) (a : Int32) (f p : Nat → Int32) (n : Nat) : Option Value → rcM → Prop := fun r u => r = some (.int a) ∧ u 1 = f ∧ u 3 = p ∧ u 0 3 = nI n ∧ u 4 = v 4 ∧ u 0 5 = v 0 5
abbrev rcS : Type := Int32 × (Nat → Int32) × (Nat → Int32) × Nat
def KQ (v : rcM) (q : rcS) : Option Value → rcM → Prop := KM v q.1 q.2.1 q.2.2.1 q.2.2.2
def H_act (n : Nat) (b p : Nat → Int32) : (Nat → Int32) × Nat := if n = 4 then (put4 158 3 b (sh4 474 p), 4) else (put4 158 n b p, n + 1)
/-- a change: g is the new state, f the one before -/
def S_act (a : Int32) (f g p : Nat → Int32) (n : Nat) : rcS := (a, g, (H_act n f p).1, (H_act n f p).2)
def S_no (a : Int32) (f p : Nat → Int32) (n : Nat) : rcS := (a, f, p, n)
theorem put4_b {t m : Nat} {b b' p : Nat → Int32} (h : ∀ k, k < t → b k = b' k) : put4 t m b p = put4 t m b' p := by
  funext k
  unfold put4
  by_cases e : 158 * m ≤ k ∧ k < 158 * m + t
  · rw [if_pos e, if_pos e]
    exact h _ (by omega)
  · rw [if_neg e, if_neg e]
theorem H_act_b {n : Nat} {b b' p : Nat → Int32} (h : ∀ k, k < 158 → b k = b' k) : H_act n b p = H_act n b' p := by
  unfold H_act
  rw [put4_b h, put4_b h]
/-- what acted() leaves -/
theorem acted_KM {v w : rcM} {x : Int32} {n : Nat} {f : Nat → Int32} (hx : ¬ x ≤ -2000000001) (h2 : ∀ k, k < 158 → w 2 k = f k) (h3 : w 3 = v 3) (h4 : w 4 = v 4) (h5 : w 0 5 = v 0 5) : KQ v (S_act x f (w 1) (v 3) n) (some (.int x)) (M_acted n x w) := by
  unfold M_acted M_act
  rw [if_neg hx]
  unfold KQ KM S_act H_act
  by_cases e : n = 4
  · rw [if_pos e, if_pos e]
    unfold M_act1 M_act0
    refine ⟨rfl, ?_, ?_, ?_, ?_, ?_⟩
    · rw [rcu_ne (by decide), rcr_n (by decide), rcu_ne (by decide), rcr_n (by decide)]
    · rw [rcu_ne (by decide), rcr_s, rcu_ne (by decide), rcr_n (by decide), rcu_ne (by decide), rcr_s, h3]
      exact put4_b h2
    · rw [rcu_self]
    · rw [rcu_ne (by decide), rcr_n (by decide), rcu_ne (by decide), rcr_n (by decide)]; exact h4
    · rw [rcu_k (by decide), rcr_n (by decide), rcu_k (by decide), rcr_n (by decide)]; exact h5
  · rw [if_neg e, if_neg e]
    unfold M_act1
    refine ⟨rfl, ?_, ?_, ?_, ?_, ?_⟩
    · rw [rcu_ne (by decide), rcr_n (by decide)]
    · rw [rcu_ne (by decide), rcr_s, h3]
      exact put4_b h2
    · rw [rcu_self]
    · rw [rcu_ne (by decide), rcr_n (by decide)]; exact h4
    · rw [rcu_k (by decide), rcr_n (by decide)]; exact h5
theorem cp_lt {n k : Nat} {f g : Nat → Int32} (h : k < n) : cp n f g k = f k := if_pos h
theorem pos_gt {x : Int32} (h : 0 ≤ x.toInt) : ¬ x ≤ -2000000001 := by
  rw [Int32.le_iff_toInt_le]
  have e : (-2000000001 : Int32).toInt = -2000000001 := by decide
  rw [e]
  omega
def S_ask (f p : Nat → Int32) (n : Nat) (c : Int32) : rcS := if 0 ≤ c ∧ c ≤ 9 then (match A_look 11 [] f (cN c) with
  | none => S_no (-2000000002) f p n
  | some g => S_act (A_ans g (cN c)) f (A_trim 10 g) p n) else S_no (-2000000001) f p n
def S_cost (f p : Nat → Int32) (n : Nat) (c w : Int32) : rcS := if (0 ≤ c ∧ c ≤ 9) ∧ (0 ≤ w ∧ w ≤ 2) then (match A_look 11 [] f (cN c) with
  | none => S_no (-2000000002) f p n
  | some g => S_no (g (1 + cN w) - f (1 + cN w)) f p n) else S_no (-2000000001) f p n
def S_forget (f p : Nat → Int32) (n : Nat) (c : Int32) : rcS := if 0 ≤ c ∧ c ≤ 9 then (if f (ix (cN c) 6) = 0 then S_no (-2000000002) f p n else S_act (remI (A_drop f (cN c)) 10) f (A_drop f (cN c)) p n) else S_no (-2000000001) f p n
def S_bound (f p : Nat → Int32) (n : Nat) (b : Int32) : rcS := if 0 ≤ b ∧ b ≤ 10 then S_act (f 5) f (upd f 5 b) p n else S_no (-2000000001) f p n
theorem KM_no {v u : rcM} {a : Int32} {n : Nat} (h1 : u 1 = v 1) (h3 : u 3 = v 3) (hn : u 0 3 = nI n) (h4 : u 4 = v 4) (h5 : u 0 5 = v 0 5) : KQ v (S_no a (v 1) (v 3) n) (some (.int a)) u := ⟨rfl, h1, h3, hn, h4, h5⟩
theorem okA_gt {x : Int32} (h : okA x) : ¬ x ≤ -2000000001 := by
  rw [Int32.le_iff_toInt_le]
  rcases h with rfl | h
  · decide
  · have e : (-2000000001 : Int32).toInt = -2000000001 := by decide
    rw [e]
    omega
set_option maxHeartbeats 4000000 in
set_option maxRecDepth 100000 in
theorem k_ask {Y : rcY} {la : Launch} {v : rcM} {c : Int32} {n : Nat} (hn4 : n ≤ 4) (hn3 : v 0 3 = nI n) (hw : WF (v 1)) : rcT shM 13 Y la 5 (yX6_ask, cX6_ask, 3, (some .int)) [.ref (Y.2.1 0), .int c] (v) (KQ v (S_ask (v 1) (v 3) n c)) := by
  refine rcT.of (by decide +kernel) (Nat.le_of_ble_eq_true rfl) (fun X F hn => ?_)
  refine j_iload_n F.1 dX6_ask_0 rfl ?_
  refine j_callSi F (k_isCell) co_X6_isCell ml_X6_69 st_X6_isCell in_X6 rc_X6_isCell rfl (by decide) (by decide) rfl (Nat.le_of_ble_eq_true rfl) dX6_ask_1 ?_
  refine j_if_ne F.1 10 dX6_ask_4 (by decide) (fun h4 => ?_) (fun h4 => ?_)
  · rw [b2_0, Classical.not_not] at h4
    obtain ⟨i, hi, rfl⟩ := cell_of h4
    refine j_aload_n F.1 dX6_ask_10 rfl ?_
    refine j_callVv F (k_begins) co_X6_begins ml_X6_76 im_X6_begins se_X6_begins in_X6 rc_X6_begins rfl (by decide) (by decide) ⟨by decide, rfl⟩ rfl rfl (Nat.le_of_ble_eq_true rfl) dX6_ask_11 ?_
    refine j_aload_n F.1 dX6_ask_14 rfl ?_
    refine j_iload_n F.1 dX6_ask_15 rfl ?_
    refine j_callV F (k_looks hi (by rw [rcr_n (by decide)]; exact hw)) co_X6_looks ml_X6_140 im_X6_looks se_X6_looks in_X6 rc_X6_looks rfl (by decide) (by decide) ⟨by decide, rfl⟩ rfl rfl (Nat.le_of_ble_eq_true rfl) dX6_ask_16 (fun r u hr => ?_)
    unfold KL at hr
    rw [rcr_n (show (1 : Nat) ≠ 2 by decide)] at hr
    cases ea : A_look 11 [] (v 1) i with
    | none =>
      rw [ea] at hr
      obtain ⟨rfl, fr⟩ := hr
      refine j_tl ?_
      have u2 : ∀ k, k < 158 → u 2 k = v 1 k := fun k hk => by rw [fr.1 2 (by decide) (by decide) (by decide) (by decide) (by decide) (by decide), rcr_s, cp_lt hk]
      have u3 : u 3 = v 3 := by rw [fr.1 3 (by decide) (by decide) (by decide) (by decide) (by decide) (by decide), rcr_n (by decide)]
      have u4 : u 4 = v 4 := by rw [fr.1 4 (by decide) (by decide) (by decide) (by decide) (by decide) (by decide), rcr_n (by decide)]
      have un : u 0 3 = nI n := by rw [fr.2 3 (by decide) (by decide), rcr_n (by decide)]; exact hn3
      have u5 : u 0 5 = v 0 5 := by rw [fr.2 5 (by decide) (by decide), rcr_n (by decide)]
      refine j_if_ne F.1 29 dX6_ask_19 (by decide) (fun h19 => False.elim (by revert h19; decide)) (fun _ => ?_)
      refine j_aload_n F.1 dX6_ask_22 rfl ?_
      refine j_callVv F (k_returns) co_X6_returns ml_X6_143 im_X6_returns se_X6_returns in_X6 rc_X6_returns rfl (by decide) (by decide) ⟨by decide, rfl⟩ rfl rfl (Nat.le_of_ble_eq_true rfl) dX6_ask_23 ?_
      refine j_row (v 1) (fun k hk => by rw [rcr_s, cp_lt hk]; exact (u2 k hk).symm) ?_
      rw [rcr_rcr]
      refine j_ldc F cn_X6_146 dX6_ask_26 ?_
      exact j_iret F dX6_ask_28 ((by unfold S_ask; rw [if_pos (nI_in9 hi), cN_nI hi, ea]; exact KM_no rcr_s (by rw [rcr_n (by decide)]; exact u3) (by rw [rcr_n (by decide)]; exact un) (by rw [rcr_n (by decide)]; exact u4) (by rw [rcr_n (by decide)]; exact u5)))
    | some g =>
      rw [ea] at hr
      obtain ⟨rfl, hg, fr⟩ := hr
      refine j_tl ?_
      have u2 : ∀ k, k < 158 → u 2 k = v 1 k := fun k hk => by rw [fr.1 2 (by decide) (by decide) (by decide) (by decide) (by decide) (by decide), rcr_s, cp_lt hk]
      have u3 : u 3 = v 3 := by rw [fr.1 3 (by decide) (by decide) (by decide) (by decide) (by decide) (by decide), rcr_n (by decide)]
      have u4 : u 4 = v 4 := by rw [fr.1 4 (by decide) (by decide) (by decide) (by decide) (by decide) (by decide), rcr_n (by decide)]
      have un : u 0 3 = nI n := by rw [fr.2 3 (by decide) (by decide), rcr_n (by decide)]; exact hn3
      have u5 : u 0 5 = v 0 5 := by rw [fr.2 5 (by decide) (by decide), rcr_n (by decide)]
      have gg := A_look_good 11 [] (v 1) i g hi ⟨hw, fun o ho => by cases ho⟩ ea
      have gw : WF g := gg.1.2.2.2.2.2.2 hw
      have gfr : Fr g i := gg.2
      refine j_if_ne F.1 29 dX6_ask_19 (by decide) (fun _ => ?_) (fun h19 => False.elim (by revert h19; decide))
      refine j_aload_n F.1 dX6_ask_29 rfl ?_
      refine j_iload_n F.1 dX6_ask_30 rfl ?_
      refine j_callVi F (k_answerOf hi) co_X6_answerOf ml_X6_117 im_X6_answerOf se_X6_answerOf in_X6 rc_X6_answerOf rfl (by decide) (by decide) ⟨by decide, rfl⟩ rfl rfl (Nat.le_of_ble_eq_true rfl) dX6_ask_31 ?_
      refine j_istore_n F.1 dX6_ask_34 (by rw [hn]; decide) ?_
      refine j_aload_n F.1 dX6_ask_35 rfl ?_
      refine j_callVv F (k_trims (by rw [hg]; exact gw)) co_X6_trims ml_X6_147 im_X6_trims se_X6_trims in_X6 rc_X6_trims rfl (by decide) (by decide) ⟨by decide, rfl⟩ rfl rfl (Nat.le_of_ble_eq_true rfl) dX6_ask_36 ?_
      refine j_aload_n F.1 dX6_ask_39 rfl ?_
      refine j_iload_n F.1 dX6_ask_40 rfl ?_
      refine j_callVi F (k_acted hn4 (by rw [rcr_n (by decide)]; exact un)) co_X6_acted ml_X6_83 im_X6_acted se_X6_acted in_X6 rc_X6_acted rfl (by decide) (by decide) ⟨by decide, rfl⟩ rfl rfl (Nat.le_of_ble_eq_true rfl) dX6_ask_41 ?_
      exact j_iret F dX6_ask_44 ((by unfold S_ask; rw [if_pos (nI_in9 hi), cN_nI hi, ea, hg]; have q := acted_KM (v := v) (w := rcr u 1 (A_trim 10 g)) (n := n) (f := v 1) (okA_gt (ans_ok gw hi gfr)) (fun k hk => by rw [rcr_n (by decide)]; exact u2 k hk) (by rw [rcr_n (by decide)]; exact u3) (by rw [rcr_n (by decide)]; exact u4) (by rw [rcr_n (by decide)]; exact u5); rw [rcr_s] at q; exact q))
  · rw [b2_0] at h4
    refine j_ldc F cn_X6_50 dX6_ask_7 ?_
    exact j_iret F dX6_ask_9 ((by unfold S_ask; rw [if_neg h4]; exact KM_no rfl rfl hn3 rfl rfl))
set_option maxHeartbeats 4000000 in
set_option maxRecDepth 100000 in
theorem k_cost {Y : rcY} {la : Launch} {v : rcM} {c w : Int32} {n : Nat} (hn4 : n ≤ 4) (hn3 : v 0 3 = nI n) (hw : WF (v 1)) : rcT shM 13 Y la 5 (yX6_cost, cX6_cost, 5, (some .int)) [.ref (Y.2.1 0), .int c, .int w] (v) (KQ v (S_cost (v 1) (v 3) n c w)) := by
  refine rcT.of (by decide +kernel) (Nat.le_of_ble_eq_true rfl) (fun X F hn => ?_)
  refine j_iload_n F.1 dX6_cost_0 rfl ?_
  refine j_callSi F (k_isCell) co_X6_isCell ml_X6_69 st_X6_isCell in_X6 rc_X6_isCell rfl (by decide) (by decide) rfl (Nat.le_of_ble_eq_true rfl) dX6_cost_1 ?_
  refine j_if_eq F.1 16 dX6_cost_4 (by decide) (fun h4 => ?_) (fun h4 => ?_)
  · rw [b2_0] at h4
    refine j_ldc F cn_X6_50 dX6_cost_16 ?_
    exact j_iret F dX6_cost_18 ((by unfold S_cost; rw [if_neg (fun z => by first | exact h4 z.1 | exact h13 z.2)]; exact KM_no rfl rfl hn3 rfl rfl))
  · rw [b2_0, Classical.not_not] at h4
    obtain ⟨i, hi, rfl⟩ := cell_of h4
    refine j_iload_n F.1 dX6_cost_7 rfl ?_
    refine j_iconst F.1 (0) dX6_cost_8 (by decide) ?_
    refine j_iconst F.1 (2) dX6_cost_9 (by decide) ?_
    refine j_callSi F (k_in) co_X6_in ml_X6_46 st_X6_in in_X6 rc_X6_in rfl (by decide) (by decide) rfl (Nat.le_of_ble_eq_true rfl) dX6_cost_10 ?_
    refine j_if_ne F.1 19 dX6_cost_13 (by decide) (fun h13 => ?_) (fun h13 => ?_)
    · rw [b2_0, Classical.not_not] at h13
      obtain ⟨j, hj, rfl⟩ := what_of (n := 2) rfl h13
      refine j_aload_n F.1 dX6_cost_19 rfl ?_
      refine j_callVv F (k_begins) co_X6_begins ml_X6_76 im_X6_begins se_X6_begins in_X6 rc_X6_begins rfl (by decide) (by decide) ⟨by decide, rfl⟩ rfl rfl (Nat.le_of_ble_eq_true rfl) dX6_cost_20 ?_
      refine j_aload_n F.1 dX6_cost_23 rfl ?_
      refine j_iload_n F.1 dX6_cost_24 rfl ?_
      refine j_callV F (k_looks hi (by rw [rcr_n (by decide)]; exact hw)) co_X6_looks ml_X6_140 im_X6_looks se_X6_looks in_X6 rc_X6_looks rfl (by decide) (by decide) ⟨by decide, rfl⟩ rfl rfl (Nat.le_of_ble_eq_true rfl) dX6_cost_25 (fun r u hr => ?_)
      unfold KL at hr
      rw [rcr_n (show (1 : Nat) ≠ 2 by decide)] at hr
      cases ea : A_look 11 [] (v 1) i with
      | none =>
        rw [ea] at hr
        obtain ⟨rfl, fr⟩ := hr
        refine j_tl ?_
        have u2 : ∀ k, k < 158 → u 2 k = v 1 k := fun k hk => by rw [fr.1 2 (by decide) (by decide) (by decide) (by decide) (by decide) (by decide), rcr_s, cp_lt hk]
        have u3 : u 3 = v 3 := by rw [fr.1 3 (by decide) (by decide) (by decide) (by decide) (by decide) (by decide), rcr_n (by decide)]
        have u4 : u 4 = v 4 := by rw [fr.1 4 (by decide) (by decide) (by decide) (by decide) (by decide) (by decide), rcr_n (by decide)]
        have un : u 0 3 = nI n := by rw [fr.2 3 (by decide) (by decide), rcr_n (by decide)]; exact hn3
        have u5 : u 0 5 = v 0 5 := by rw [fr.2 5 (by decide) (by decide), rcr_n (by decide)]
        refine j_istore_n F.1 dX6_cost_28 (by rw [hn]; decide) ?_
        refine j_aload_n F.1 dX6_cost_29 rfl ?_
        refine j_getr F (k := 0) inX6 rfl (by decide) fl_X6_7 ⟨by decide, rfl⟩ rfl dX6_cost_30 ?_
        refine j_iconst F.1 (1) dX6_cost_33 (by decide) ?_
        refine j_iload_n F.1 dX6_cost_34 rfl ?_
        refine j_iadd F.1 dX6_cost_35 ?_
        refine j_iald F ⟨by decide, rfl⟩ (by rw [show (1 : Int32) = nI 1 from rfl, nI_add]) (by omega) (by decide) dX6_cost_36 ?_
        refine j_aload_n F.1 dX6_cost_37 rfl ?_
        refine j_getr F (k := 1) inX6 rfl (by decide) fl_X6_13 ⟨by decide, rfl⟩ rfl dX6_cost_38 ?_
        refine j_iconst F.1 (1) dX6_cost_41 (by decide) ?_
        refine j_iload_n F.1 dX6_cost_42 rfl ?_
        refine j_iadd F.1 dX6_cost_43 ?_
        refine j_iald F ⟨by decide, rfl⟩ (by rw [show (1 : Int32) = nI 1 from rfl, nI_add]) (by omega) (by decide) dX6_cost_44 ?_
        refine j_isub F.1 dX6_cost_45 ?_
        refine j_istore F.1 dX6_cost_46 (by rw [hn]; decide) ?_
        refine j_aload_n F.1 dX6_cost_48 rfl ?_
        refine j_callVv F (k_returns) co_X6_returns ml_X6_143 im_X6_returns se_X6_returns in_X6 rc_X6_returns rfl (by decide) (by decide) ⟨by decide, rfl⟩ rfl rfl (Nat.le_of_ble_eq_true rfl) dX6_cost_49 ?_
        refine j_row (v 1) (fun k hk => by rw [rcr_s, cp_lt hk]; exact (u2 k hk).symm) ?_
        rw [rcr_rcr]
        refine j_iload_n F.1 dX6_cost_52 rfl ?_
        refine j_if_eq F.1 61 dX6_cost_53 (by decide) (fun _ => ?_) (fun h53 => False.elim (by revert h53; decide))
        refine j_ldc F cn_X6_146 dX6_cost_61 ?_
        exact j_iret F dX6_cost_63 ((by unfold S_cost; rw [if_pos ⟨nI_in9 hi, h13⟩, cN_nI hi, cN_nI (show j < 10 by omega), ea]; exact KM_no rcr_s (by rw [rcr_n (by decide)]; exact u3) (by rw [rcr_n (by decide)]; exact un) (by rw [rcr_n (by decide)]; exact u4) (by rw [rcr_n (by decide)]; exact u5)))
      | some g =>
        rw [ea] at hr
        obtain ⟨rfl, hg, fr⟩ := hr
        refine j_tl ?_
        have u2 : ∀ k, k < 158 → u 2 k = v 1 k := fun k hk => by rw [fr.1 2 (by decide) (by decide) (by decide) (by decide) (by decide) (by decide), rcr_s, cp_lt hk]
        have u3 : u 3 = v 3 := by rw [fr.1 3 (by decide) (by decide) (by decide) (by decide) (by decide) (by decide), rcr_n (by decide)]
        have u4 : u 4 = v 4 := by rw [fr.1 4 (by decide) (by decide) (by decide) (by decide) (by decide) (by decide), rcr_n (by decide)]
        have un : u 0 3 = nI n := by rw [fr.2 3 (by decide) (by decide), rcr_n (by decide)]; exact hn3
        have u5 : u 0 5 = v 0 5 := by rw [fr.2 5 (by decide) (by decide), rcr_n (by decide)]
        refine j_istore_n F.1 dX6_cost_28 (by rw [hn]; decide) ?_
        refine j_aload_n F.1 dX6_cost_29 rfl ?_
        refine j_getr F (k := 0) inX6 rfl (by decide) fl_X6_7 ⟨by decide, rfl⟩ rfl dX6_cost_30 ?_
        refine j_iconst F.1 (1) dX6_cost_33 (by decide) ?_
        refine j_iload_n F.1 dX6_cost_34 rfl ?_
        refine j_iadd F.1 dX6_cost_35 ?_
        refine j_iald F ⟨by decide, rfl⟩ (by rw [show (1 : Int32) = nI 1 from rfl, nI_add]) (by omega) (by decide) dX6_cost_36 ?_
        refine j_aload_n F.1 dX6_cost_37 rfl ?_
        refine j_getr F (k := 1) inX6 rfl (by decide) fl_X6_13 ⟨by decide, rfl⟩ rfl dX6_cost_38 ?_
        refine j_iconst F.1 (1) dX6_cost_41 (by decide) ?_
        refine j_iload_n F.1 dX6_cost_42 rfl ?_
        refine j_iadd F.1 dX6_cost_43 ?_
        refine j_iald F ⟨by decide, rfl⟩ (by rw [show (1 : Int32) = nI 1 from rfl, nI_add]) (by omega) (by decide) dX6_cost_44 ?_
        refine j_isub F.1 dX6_cost_45 ?_
        refine j_istore F.1 dX6_cost_46 (by rw [hn]; decide) ?_
        refine j_aload_n F.1 dX6_cost_48 rfl ?_
        refine j_callVv F (k_returns) co_X6_returns ml_X6_143 im_X6_returns se_X6_returns in_X6 rc_X6_returns rfl (by decide) (by decide) ⟨by decide, rfl⟩ rfl rfl (Nat.le_of_ble_eq_true rfl) dX6_cost_49 ?_
        refine j_row (v 1) (fun k hk => by rw [rcr_s, cp_lt hk]; exact (u2 k hk).symm) ?_
        rw [rcr_rcr]
        refine j_iload_n F.1 dX6_cost_52 rfl ?_
        refine j_if_eq F.1 61 dX6_cost_53 (by decide) (fun h53 => False.elim (by revert h53; decide)) (fun _ => ?_)
        refine j_iload F.1 dX6_cost_56 rfl ?_
        refine j_goto F.1 63 dX6_cost_58 (by decide) ?_
        exact j_iret F dX6_cost_63 ((by unfold S_cost; rw [if_pos ⟨nI_in9 hi, h13⟩, cN_nI hi, cN_nI (show j < 10 by omega), ea, hg, u2 (1 + j) (by omega)]; exact KM_no rcr_s (by rw [rcr_n (by decide)]; exact u3) (by rw [rcr_n (by decide)]; exact un) (by rw [rcr_n (by decide)]; exact u4) (by rw [rcr_n (by decide)]; exact u5)))
    · rw [b2_0] at h13
      refine j_ldc F cn_X6_50 dX6_cost_16 ?_
      exact j_iret F dX6_cost_18 ((by unfold S_cost; rw [if_neg (fun z => by first | exact h4 z.1 | exact h13 z.2)]; exact KM_no rfl rfl hn3 rfl rfl))
set_option maxHeartbeats 4000000 in
set_option maxRecDepth 100000 in
theorem k_forget {Y : rcY} {la : Launch} {v : rcM} {c : Int32} {n : Nat} (hn4 : n ≤ 4) (hn3 : v 0 3 = nI n) (hw : WF (v 1)) : rcT shM 13 Y la 3 (yX6_forget, cX6_forget, 2, (some .int)) [.ref (Y.2.1 0), .int c] (v) (KQ v (S_forget (v 1) (v 3) n c)) := by
  refine rcT.of (by decide +kernel) (Nat.le_of_ble_eq_true rfl) (fun X F hn => ?_)
  refine j_iload_n F.1 dX6_forget_0 rfl ?_
  refine j_callSi F (k_isCell) co_X6_isCell ml_X6_69 st_X6_isCell in_X6 rc_X6_isCell rfl (by decide) (by decide) rfl (Nat.le_of_ble_eq_true rfl) dX6_forget_1 ?_
  refine j_if_ne F.1 10 dX6_forget_4 (by decide) (fun h4 => ?_) (fun h4 => ?_)
  · rw [b2_0, Classical.not_not] at h4
    obtain ⟨i, hi, rfl⟩ := cell_of h4
    refine j_aload_n F.1 dX6_forget_10 rfl ?_
    refine j_iload_n F.1 dX6_forget_11 rfl ?_
    refine j_bipush F.1 (6) dX6_forget_12 (by decide) ?_
    refine j_callVi F (k_of hi (by decide)) co_X6_of ml_X6_55 im_X6_of se_X6_of in_X6 rc_X6_of rfl (by decide) (by decide) ⟨by decide, rfl⟩ rfl rfl (Nat.le_of_ble_eq_true rfl) dX6_forget_14 ?_
    refine j_if_ne F.1 23 dX6_forget_17 (by decide) (fun h17 => ?_) (fun h17 => ?_)
    · refine j_aload_n F.1 dX6_forget_23 rfl ?_
      refine j_callVv F (k_begins) co_X6_begins ml_X6_76 im_X6_begins se_X6_begins in_X6 rc_X6_begins rfl (by decide) (by decide) ⟨by decide, rfl⟩ rfl rfl (Nat.le_of_ble_eq_true rfl) dX6_forget_24 ?_
      refine j_aload_n F.1 dX6_forget_27 rfl ?_
      refine j_iload_n F.1 dX6_forget_28 rfl ?_
      
      refine j_callVv F (k_drops hi) co_X6_drops ml_X6_137 im_X6_drops se_X6_drops in_X6 rc_X6_drops rfl (by decide) (by decide) ⟨by decide, rfl⟩ rfl rfl (Nat.le_of_ble_eq_true rfl) dX6_forget_29 ?_
      refine j_aload_n F.1 dX6_forget_32 rfl ?_
      refine j_aload_n F.1 dX6_forget_33 rfl ?_
      refine j_callVi F (k_remembered) co_X6_remembered ml_X6_133 im_X6_remembered se_X6_remembered in_X6 rc_X6_remembered rfl (by decide) (by decide) ⟨by decide, rfl⟩ rfl rfl (Nat.le_of_ble_eq_true rfl) dX6_forget_34 ?_
      refine j_callVi F (k_acted hn4 (by rw [rcr_n (by decide), rcr_n (by decide)]; exact hn3)) co_X6_acted ml_X6_83 im_X6_acted se_X6_acted in_X6 rc_X6_acted rfl (by decide) (by decide) ⟨by decide, rfl⟩ rfl rfl (Nat.le_of_ble_eq_true rfl) dX6_forget_37 ?_
      exact j_iret F dX6_forget_40 ((by unfold S_forget; rw [if_pos (nI_in9 hi), cN_nI hi, if_neg h17]; have q := acted_KM (v := v) (w := rcr (rcr v 2 (cp 158 (v 1) (v 2))) 1 (A_drop (v 1) i)) (n := n) (f := v 1) (x := remI (A_drop (v 1) i) 10) (by rw [remI_cnt (fun j hj => ((drop_wf hw).1 j hj).2.2.2.1) 10 (by decide)]; exact fun z => absurd (nI_pos (n := cntH (A_drop (v 1) i) 10) (by have := cntH_le (f := A_drop (v 1) i) 10; omega)) (fun q => q (Int32.lt_of_le_of_lt z (by decide)))) (fun k hk => by rw [rcr_n (by decide), rcr_s, cp_lt hk]) (by rw [rcr_n (by decide), rcr_n (by decide)]) (by rw [rcr_n (by decide), rcr_n (by decide)]) (by rw [rcr_n (by decide), rcr_n (by decide)]); rw [rcr_s] at q; rw [rcr_n (a := 2) (b := 1) (by decide), rcr_s]; exact q))
    · refine j_ldc F cn_X6_146 dX6_forget_20 ?_
      exact j_iret F dX6_forget_22 ((by unfold S_forget; rw [if_pos (nI_in9 hi), cN_nI hi, if_pos h17]; exact KM_no rfl rfl hn3 rfl rfl))
  · rw [b2_0] at h4
    refine j_ldc F cn_X6_50 dX6_forget_7 ?_
    exact j_iret F dX6_forget_9 ((by unfold S_forget; rw [if_neg h4]; exact KM_no rfl rfl hn3 rfl rfl))
set_option maxHeartbeats 4000000 in
set_option maxRecDepth 100000 in
theorem k_bound {Y : rcY} {la : Launch} {v : rcM} {x : Int32} {n : Nat} (hn4 : n ≤ 4) (hn3 : v 0 3 = nI n) (hw : WF (v 1)) : rcT shM 13 Y la 1 (yX6_bound, cX6_bound, 3, (some .int)) [.ref (Y.2.1 0), .int x] (v) (KQ v (S_bound (v 1) (v 3) n x)) := by
  refine rcT.of (by decide +kernel) (Nat.le_of_ble_eq_true rfl) (fun X F hn => ?_)
  refine j_iload_n F.1 dX6_bound_0 rfl ?_
  refine j_iconst F.1 (0) dX6_bound_1 (by decide) ?_
  refine j_bipush F.1 (10) dX6_bound_2 (by decide) ?_
  refine j_callSi F (k_in) co_X6_in ml_X6_46 st_X6_in in_X6 rc_X6_in rfl (by decide) (by decide) rfl (Nat.le_of_ble_eq_true rfl) dX6_bound_4 ?_
  refine j_if_ne F.1 13 dX6_bound_7 (by decide) (fun h7 => ?_) (fun h7 => ?_)
  · rw [b2_0, Classical.not_not] at h7
    refine j_aload_n F.1 dX6_bound_13 rfl ?_
    refine j_callVv F (k_begins) co_X6_begins ml_X6_76 im_X6_begins se_X6_begins in_X6 rc_X6_begins rfl (by decide) (by decide) ⟨by decide, rfl⟩ rfl rfl (Nat.le_of_ble_eq_true rfl) dX6_bound_14 ?_
    refine j_aload_n F.1 dX6_bound_17 rfl ?_
    refine j_getr F (k := 0) inX6 rfl (by decide) fl_X6_7 ⟨by decide, rfl⟩ rfl dX6_bound_18 ?_
    refine j_iconst F.1 (5) dX6_bound_21 (by decide) ?_
    refine j_iald F ⟨by decide, rfl⟩ rfl (by decide) (by decide) dX6_bound_22 ?_
    refine j_istore_n F.1 dX6_bound_23 (by rw [hn]; decide) ?_
    refine j_aload_n F.1 dX6_bound_24 rfl ?_
    refine j_getr F (k := 0) inX6 rfl (by decide) fl_X6_7 ⟨by decide, rfl⟩ rfl dX6_bound_25 ?_
    refine j_iconst F.1 (5) dX6_bound_28 (by decide) ?_
    refine j_iload_n F.1 dX6_bound_29 rfl ?_
    refine j_iast F ⟨by decide, rfl⟩ rfl (by decide) (by decide) dX6_bound_30 ?_
    rw [rcu_r, rcr_n (a := 2) (b := 1) (by decide)]
    refine j_aload_n F.1 dX6_bound_31 rfl ?_
    refine j_iload_n F.1 dX6_bound_32 rfl ?_
    refine j_callVi F (k_acted hn4 (by rw [rcr_n (by decide), rcr_n (by decide)]; exact hn3)) co_X6_acted ml_X6_83 im_X6_acted se_X6_acted in_X6 rc_X6_acted rfl (by decide) (by decide) ⟨by decide, rfl⟩ rfl rfl (Nat.le_of_ble_eq_true rfl) dX6_bound_33 ?_
    exact j_iret F dX6_bound_36 ((by unfold S_bound; rw [if_pos h7]; have q := acted_KM (v := v) (w := rcr (rcr v 2 (cp 158 (v 1) (v 2))) 1 (upd (v 1) 5 x)) (n := n) (f := v 1) (x := v 1 5) (pos_gt hw.2.2) (fun k hk => by rw [rcr_n (by decide), rcr_s, cp_lt hk]) (by rw [rcr_n (by decide), rcr_n (by decide)]) (by rw [rcr_n (by decide), rcr_n (by decide)]) (by rw [rcr_n (by decide), rcr_n (by decide)]); rw [rcr_s] at q; exact q))
  · rw [b2_0] at h7
    refine j_ldc F cn_X6_50 dX6_bound_10 ?_
    exact j_iret F dX6_bound_12 ((by unfold S_bound; rw [if_neg h7]; exact KM_no rfl rfl hn3 rfl rfl))
/-- how many of the first k cells' answers were used less recently than cell i's -/
def plc (f : Nat → Int32) (i : Nat) : Nat → Int32
  | 0 => 0
  | k + 1 => plc f i k + (if f (ix k 6) = 1 ∧ f (ix k 13) < f (ix i 13) then 1 else 0)
set_option maxHeartbeats 4000000 in
set_option maxRecDepth 100000 in
theorem k_placeOf {Y : rcY} {la : Launch} {v : rcM} {i : Nat} (hi : i < 10) : rcT shM 13 Y la 1 (yX6_placeOf, cX6_placeOf, 4, (some .int)) [.ref (Y.2.1 0), .int (nI i)] (v) (rI (plc (v 1) i 10) v) := by
  refine rcT.of (by decide +kernel) (Nat.le_of_ble_eq_true rfl) (fun X F hn => ?_)
  have loop : ∀ r t : Nat, t ≤ 10 → 10 < t + r → rcJ shM 13 Y X (rI (plc (v 1) i 10) v) 4 [(3, .int (nI (t))), (2, .int (plc (v 1) i (t))), (0, .ref (Y.2.1 0)), (1, .int (nI i))] [] v := by
    intro r
    induction r with
    | zero => intro t ht hr; omega
    | succ r ih =>
      intro t ht hr
      refine j_iload_n F.1 dX6_placeOf_4 rfl ?_
      refine j_bipush F.1 (10) dX6_placeOf_5 (by decide) ?_
      refine j_icmp_ge F.1 52 dX6_placeOf_7 (by decide) (fun h7 => ?_) (fun h7 => ?_)
      · have q7 : 10 ≤ t := (nI_leI (a := 10) (b := t) (by omega) (by omega)).mp h7
        refine j_iload_n F.1 dX6_placeOf_52 rfl ?_
        exact j_iret F dX6_placeOf_53 ((rIe (by rw [Nat.le_antisymm ht q7]) rfl))
      · have q7 : t < 10 := Nat.lt_of_not_le (fun z => h7 ((nI_leI (a := 10) (b := t) (by omega) (by omega)).mpr z))
        refine j_iload_n F.1 dX6_placeOf_10 rfl ?_
        refine j_aload_n F.1 dX6_placeOf_11 rfl ?_
        refine j_iload_n F.1 dX6_placeOf_12 rfl ?_
        refine j_bipush F.1 (6) dX6_placeOf_13 (by decide) ?_
        refine j_callVi F (k_of (by omega) (by decide)) co_X6_of ml_X6_55 im_X6_of se_X6_of in_X6 rc_X6_of rfl (by decide) (by decide) ⟨by decide, rfl⟩ rfl rfl (Nat.le_of_ble_eq_true rfl) dX6_placeOf_15 ?_
        refine j_iconst F.1 (1) dX6_placeOf_18 (by decide) ?_
        refine j_icmp_ne F.1 43 dX6_placeOf_19 (by decide) (fun h19 => ?_) (fun h19 => ?_)
        · have ho : ¬ (v 1 (ix t 6) = 1 ∧ v 1 (ix t 13) < v 1 (ix i 13)) := fun q => h19 q.1
          refine j_iconst F.1 (0) dX6_placeOf_43 (by decide) ?_
          refine j_top (y := if v 1 (ix t 6) = 1 ∧ v 1 (ix t 13) < v 1 (ix i 13) then 1 else 0) (by first | rw [if_pos ho] | rw [if_neg ho]) ?_
          refine j_iadd F.1 dX6_placeOf_44 ?_
          refine j_istore_n F.1 dX6_placeOf_45 (by rw [hn]; decide) ?_
          refine j_iinc F.1 (1) dX6_placeOf_46 (by decide) rfl (by rw [hn]; decide) ?_
          refine j_goto F.1 4 dX6_placeOf_49 (by decide) ?_
          refine j_loc [(3, .int (nI (t + 1))), (2, .int (plc (v 1) i (t + 1))), (0, .ref (Y.2.1 0)), (1, .int (nI i))] (by rw [← nI_1]; rfl) ?_
          exact ih (t + 1) (by omega) (by omega)
        · refine j_aload_n F.1 dX6_placeOf_22 rfl ?_
          refine j_iload_n F.1 dX6_placeOf_23 rfl ?_
          refine j_bipush F.1 (13) dX6_placeOf_24 (by decide) ?_
          refine j_callVi F (k_of (by omega) (by decide)) co_X6_of ml_X6_55 im_X6_of se_X6_of in_X6 rc_X6_of rfl (by decide) (by decide) ⟨by decide, rfl⟩ rfl rfl (Nat.le_of_ble_eq_true rfl) dX6_placeOf_26 ?_
          refine j_aload_n F.1 dX6_placeOf_29 rfl ?_
          refine j_iload_n F.1 dX6_placeOf_30 rfl ?_
          refine j_bipush F.1 (13) dX6_placeOf_31 (by decide) ?_
          refine j_callVi F (k_of hi (by decide)) co_X6_of ml_X6_55 im_X6_of se_X6_of in_X6 rc_X6_of rfl (by decide) (by decide) ⟨by decide, rfl⟩ rfl rfl (Nat.le_of_ble_eq_true rfl) dX6_placeOf_33 ?_
          refine j_icmp_ge F.1 43 dX6_placeOf_36 (by decide) (fun h36 => ?_) (fun h36 => ?_)
          · have ho : ¬ (v 1 (ix t 6) = 1 ∧ v 1 (ix t 13) < v 1 (ix i 13)) := fun q => Int32.not_lt.mpr h36 q.2
            refine j_iconst F.1 (0) dX6_placeOf_43 (by decide) ?_
            refine j_top (y := if v 1 (ix t 6) = 1 ∧ v 1 (ix t 13) < v 1 (ix i 13) then 1 else 0) (by first | rw [if_pos ho] | rw [if_neg ho]) ?_
            refine j_iadd F.1 dX6_placeOf_44 ?_
            refine j_istore_n F.1 dX6_placeOf_45 (by rw [hn]; decide) ?_
            refine j_iinc F.1 (1) dX6_placeOf_46 (by decide) rfl (by rw [hn]; decide) ?_
            refine j_goto F.1 4 dX6_placeOf_49 (by decide) ?_
            refine j_loc [(3, .int (nI (t + 1))), (2, .int (plc (v 1) i (t + 1))), (0, .ref (Y.2.1 0)), (1, .int (nI i))] (by rw [← nI_1]; rfl) ?_
            exact ih (t + 1) (by omega) (by omega)
          · have ho : v 1 (ix t 6) = 1 ∧ v 1 (ix t 13) < v 1 (ix i 13) := ⟨h19, Int32.not_le.mp h36⟩
            refine j_iconst F.1 (1) dX6_placeOf_39 (by decide) ?_
            refine j_goto F.1 44 dX6_placeOf_40 (by decide) ?_
            refine j_top (y := if v 1 (ix t 6) = 1 ∧ v 1 (ix t 13) < v 1 (ix i 13) then 1 else 0) (by first | rw [if_pos ho] | rw [if_neg ho]) ?_
            refine j_iadd F.1 dX6_placeOf_44 ?_
            refine j_istore_n F.1 dX6_placeOf_45 (by rw [hn]; decide) ?_
            refine j_iinc F.1 (1) dX6_placeOf_46 (by decide) rfl (by rw [hn]; decide) ?_
            refine j_goto F.1 4 dX6_placeOf_49 (by decide) ?_
            refine j_loc [(3, .int (nI (t + 1))), (2, .int (plc (v 1) i (t + 1))), (0, .ref (Y.2.1 0)), (1, .int (nI i))] (by rw [← nI_1]; rfl) ?_
            exact ih (t + 1) (by omega) (by omega)
  refine j_iconst F.1 (0) dX6_placeOf_0 (by decide) ?_
  refine j_istore_n F.1 dX6_placeOf_1 (by rw [hn]; decide) ?_
  refine j_iconst F.1 (0) dX6_placeOf_2 (by decide) ?_
  refine j_istore_n F.1 dX6_placeOf_3 (by rw [hn]; decide) ?_
  refine j_loc [(3, .int (nI (0))), (2, .int (plc (v 1) i (0))), (0, .ref (Y.2.1 0)), (1, .int (nI i))] rfl ?_
  exact loop 11 0 (by omega) (by omega)
def S_remOf (f p : Nat → Int32) (n : Nat) (c w : Int32) : rcS := if (0 ≤ c ∧ c ≤ 9) ∧ (0 ≤ w ∧ w ≤ 6) then
    (if f (ix (cN c) 6) = 0 ∨ ((4 ≤ w ∧ w ≤ 5) ∧ f (ix (cN c) 10) ≤ w - 4) then S_no (-2000000004) f p n
     else if w = 6 then S_no (plc f (cN c) 10) f p n else S_no (f (ix (cN c) (7 + cN w))) f p n) else S_no (-2000000001) f p n
set_option maxHeartbeats 4000000 in
set_option maxRecDepth 100000 in
theorem k_rememberedOf {Y : rcY} {la : Launch} {v : rcM} {c w : Int32} {n : Nat} (hn4 : n ≤ 4) (hn3 : v 0 3 = nI n) : rcT shM 13 Y la 2 (yX6_rememberedOf, cX6_rememberedOf, 3, (some .int)) [.ref (Y.2.1 0), .int c, .int w] (v) (KQ v (S_remOf (v 1) (v 3) n c w)) := by
  refine rcT.of (by decide +kernel) (Nat.le_of_ble_eq_true rfl) (fun X F hn => ?_)
  refine j_iload_n F.1 dX6_rememberedOf_0 rfl ?_
  refine j_callSi F (k_isCell) co_X6_isCell ml_X6_69 st_X6_isCell in_X6 rc_X6_isCell rfl (by decide) (by decide) rfl (Nat.le_of_ble_eq_true rfl) dX6_rememberedOf_1 ?_
  refine j_if_eq F.1 17 dX6_rememberedOf_4 (by decide) (fun h4 => ?_) (fun h4 => ?_)
  · rw [b2_0] at h4
    refine j_ldc F cn_X6_50 dX6_rememberedOf_17 ?_
    exact j_iret F dX6_rememberedOf_19 ((by unfold S_remOf; rw [if_neg (fun z => by first | exact h4 z.1 | exact h14 z.2)]; exact KM_no rfl rfl hn3 rfl rfl))
  · rw [b2_0, Classical.not_not] at h4
    obtain ⟨i, hi, rfl⟩ := cell_of h4
    refine j_iload_n F.1 dX6_rememberedOf_7 rfl ?_
    refine j_iconst F.1 (0) dX6_rememberedOf_8 (by decide) ?_
    refine j_bipush F.1 (6) dX6_rememberedOf_9 (by decide) ?_
    refine j_callSi F (k_in) co_X6_in ml_X6_46 st_X6_in in_X6 rc_X6_in rfl (by decide) (by decide) rfl (Nat.le_of_ble_eq_true rfl) dX6_rememberedOf_11 ?_
    refine j_if_ne F.1 20 dX6_rememberedOf_14 (by decide) (fun h14 => ?_) (fun h14 => ?_)
    · rw [b2_0, Classical.not_not] at h14
      obtain ⟨j, hj, rfl⟩ := what_of (n := 6) rfl h14
      refine j_aload_n F.1 dX6_rememberedOf_20 rfl ?_
      refine j_iload_n F.1 dX6_rememberedOf_21 rfl ?_
      refine j_bipush F.1 (6) dX6_rememberedOf_22 (by decide) ?_
      refine j_callVi F (k_of hi (by decide)) co_X6_of ml_X6_55 im_X6_of se_X6_of in_X6 rc_X6_of rfl (by decide) (by decide) ⟨by decide, rfl⟩ rfl rfl (Nat.le_of_ble_eq_true rfl) dX6_rememberedOf_24 ?_
      refine j_if_eq F.1 52 dX6_rememberedOf_27 (by decide) (fun h27 => ?_) (fun h27 => ?_)
      · have nf : v 1 (ix i 6) = 0 ∨ ((4 ≤ nI j ∧ nI j ≤ 5) ∧ v 1 (ix i 10) ≤ nI j - 4) := Or.inl h27
        refine j_ldc F cn_X6_87 dX6_rememberedOf_52 ?_
        exact j_iret F dX6_rememberedOf_54 ((by unfold S_remOf; rw [if_pos ⟨nI_in9 hi, h14⟩, cN_nI hi, if_pos nf]; exact KM_no rfl rfl hn3 rfl rfl))
      · refine j_iload_n F.1 dX6_rememberedOf_30 rfl ?_
        refine j_iconst F.1 (4) dX6_rememberedOf_31 (by decide) ?_
        refine j_iconst F.1 (5) dX6_rememberedOf_32 (by decide) ?_
        refine j_callSi F (k_in) co_X6_in ml_X6_46 st_X6_in in_X6 rc_X6_in rfl (by decide) (by decide) rfl (Nat.le_of_ble_eq_true rfl) dX6_rememberedOf_33 ?_
        refine j_if_eq F.1 55 dX6_rememberedOf_36 (by decide) (fun h36 => ?_) (fun h36 => ?_)
        · rw [b2_0] at h36
          have nn : ¬ (v 1 (ix i 6) = 0 ∨ ((4 ≤ nI j ∧ nI j ≤ 5) ∧ v 1 (ix i 10) ≤ nI j - 4)) := fun q => q.elim h27 (fun q => h36 q.1)
          refine j_iload_n F.1 dX6_rememberedOf_55 rfl ?_
          refine j_bipush F.1 (6) dX6_rememberedOf_56 (by decide) ?_
          refine j_icmp_ne F.1 69 dX6_rememberedOf_58 (by decide) (fun h58 => ?_) (fun h58 => ?_)
          · refine j_aload_n F.1 dX6_rememberedOf_69 rfl ?_
            refine j_iload_n F.1 dX6_rememberedOf_70 rfl ?_
            refine j_bipush F.1 (7) dX6_rememberedOf_71 (by decide) ?_
            refine j_iload_n F.1 dX6_rememberedOf_73 rfl ?_
            refine j_iadd F.1 dX6_rememberedOf_74 ?_
            refine j_top (y := nI (7 + j)) (by rw [show (7 : Int32) = nI 7 from rfl, nI_add]) ?_
            refine j_callVi F (k_of hi (by omega)) co_X6_of ml_X6_55 im_X6_of se_X6_of in_X6 rc_X6_of rfl (by decide) (by decide) ⟨by decide, rfl⟩ rfl rfl (Nat.le_of_ble_eq_true rfl) dX6_rememberedOf_75 ?_
            exact j_iret F dX6_rememberedOf_78 ((by unfold S_remOf; rw [if_pos ⟨nI_in9 hi, h14⟩, cN_nI hi, if_neg nn, cN_nI (show j < 10 by omega)]; first | (rw [if_pos h58]; exact KM_no rfl rfl hn3 rfl rfl) | (rw [if_neg h58]; exact KM_no rfl rfl hn3 rfl rfl)))
          · refine j_aload_n F.1 dX6_rememberedOf_61 rfl ?_
            refine j_iload_n F.1 dX6_rememberedOf_62 rfl ?_
            refine j_callVi F (k_placeOf hi) co_X6_placeOf ml_X6_150 im_X6_placeOf se_X6_placeOf in_X6 rc_X6_placeOf rfl (by decide) (by decide) ⟨by decide, rfl⟩ rfl rfl (Nat.le_of_ble_eq_true rfl) dX6_rememberedOf_63 ?_
            refine j_goto F.1 78 dX6_rememberedOf_66 (by decide) ?_
            exact j_iret F dX6_rememberedOf_78 ((by unfold S_remOf; rw [if_pos ⟨nI_in9 hi, h14⟩, cN_nI hi, if_neg nn, cN_nI (show j < 10 by omega)]; first | (rw [if_pos h58]; exact KM_no rfl rfl hn3 rfl rfl) | (rw [if_neg h58]; exact KM_no rfl rfl hn3 rfl rfl)))
        · rw [b2_0, Classical.not_not] at h36
          refine j_iload_n F.1 dX6_rememberedOf_39 rfl ?_
          refine j_iconst F.1 (4) dX6_rememberedOf_40 (by decide) ?_
          refine j_isub F.1 dX6_rememberedOf_41 ?_
          refine j_aload_n F.1 dX6_rememberedOf_42 rfl ?_
          refine j_iload_n F.1 dX6_rememberedOf_43 rfl ?_
          refine j_bipush F.1 (10) dX6_rememberedOf_44 (by decide) ?_
          refine j_callVi F (k_of hi (by decide)) co_X6_of ml_X6_55 im_X6_of se_X6_of in_X6 rc_X6_of rfl (by decide) (by decide) ⟨by decide, rfl⟩ rfl rfl (Nat.le_of_ble_eq_true rfl) dX6_rememberedOf_46 ?_
          refine j_icmp_lt F.1 55 dX6_rememberedOf_49 (by decide) (fun h49 => ?_) (fun h49 => ?_)
          · have nn : ¬ (v 1 (ix i 6) = 0 ∨ ((4 ≤ nI j ∧ nI j ≤ 5) ∧ v 1 (ix i 10) ≤ nI j - 4)) := fun q => q.elim h27 (fun q => Int32.not_le.mpr h49 q.2)
            refine j_iload_n F.1 dX6_rememberedOf_55 rfl ?_
            refine j_bipush F.1 (6) dX6_rememberedOf_56 (by decide) ?_
            refine j_icmp_ne F.1 69 dX6_rememberedOf_58 (by decide) (fun h58 => ?_) (fun h58 => ?_)
            · refine j_aload_n F.1 dX6_rememberedOf_69 rfl ?_
              refine j_iload_n F.1 dX6_rememberedOf_70 rfl ?_
              refine j_bipush F.1 (7) dX6_rememberedOf_71 (by decide) ?_
              refine j_iload_n F.1 dX6_rememberedOf_73 rfl ?_
              refine j_iadd F.1 dX6_rememberedOf_74 ?_
              refine j_top (y := nI (7 + j)) (by rw [show (7 : Int32) = nI 7 from rfl, nI_add]) ?_
              refine j_callVi F (k_of hi (by omega)) co_X6_of ml_X6_55 im_X6_of se_X6_of in_X6 rc_X6_of rfl (by decide) (by decide) ⟨by decide, rfl⟩ rfl rfl (Nat.le_of_ble_eq_true rfl) dX6_rememberedOf_75 ?_
              exact j_iret F dX6_rememberedOf_78 ((by unfold S_remOf; rw [if_pos ⟨nI_in9 hi, h14⟩, cN_nI hi, if_neg nn, cN_nI (show j < 10 by omega)]; first | (rw [if_pos h58]; exact KM_no rfl rfl hn3 rfl rfl) | (rw [if_neg h58]; exact KM_no rfl rfl hn3 rfl rfl)))
            · refine j_aload_n F.1 dX6_rememberedOf_61 rfl ?_
              refine j_iload_n F.1 dX6_rememberedOf_62 rfl ?_
              refine j_callVi F (k_placeOf hi) co_X6_placeOf ml_X6_150 im_X6_placeOf se_X6_placeOf in_X6 rc_X6_placeOf rfl (by decide) (by decide) ⟨by decide, rfl⟩ rfl rfl (Nat.le_of_ble_eq_true rfl) dX6_rememberedOf_63 ?_
              refine j_goto F.1 78 dX6_rememberedOf_66 (by decide) ?_
              exact j_iret F dX6_rememberedOf_78 ((by unfold S_remOf; rw [if_pos ⟨nI_in9 hi, h14⟩, cN_nI hi, if_neg nn, cN_nI (show j < 10 by omega)]; first | (rw [if_pos h58]; exact KM_no rfl rfl hn3 rfl rfl) | (rw [if_neg h58]; exact KM_no rfl rfl hn3 rfl rfl)))
          · have nf : v 1 (ix i 6) = 0 ∨ ((4 ≤ nI j ∧ nI j ≤ 5) ∧ v 1 (ix i 10) ≤ nI j - 4) := Or.inr ⟨h36, Int32.not_lt.mp h49⟩
            refine j_ldc F cn_X6_87 dX6_rememberedOf_52 ?_
            exact j_iret F dX6_rememberedOf_54 ((by unfold S_remOf; rw [if_pos ⟨nI_in9 hi, h14⟩, cN_nI hi, if_pos nf]; exact KM_no rfl rfl hn3 rfl rfl))
    · rw [b2_0] at h14
      refine j_ldc F cn_X6_50 dX6_rememberedOf_17 ?_
      exact j_iret F dX6_rememberedOf_19 ((by unfold S_remOf; rw [if_neg (fun z => by first | exact h4 z.1 | exact h14 z.2)]; exact KM_no rfl rfl hn3 rfl rfl))
end
section
/-! The reference: a cell worked out afresh: what is wanted next, and what is settled. -/
def bitI (x : Int32) : Int32 := 1 <<< (x &&& 31)
/-- an answer afresh, with the set of the cells used -/
def ev : Nat → (Nat → Int32) → Nat → Option (Int32 × Int32)
  | 0, _, _ => none
  | n + 1, f, c =>
    if f (ix c 0) = 0 then some (f (ix c 1), 0)
    else match ev n f (cN (f (ix c 2))) with
      | none => none
      | some (a, S) =>
        if f (ix c 0) = 5 ∧ a = 2000000000 then some (2000000000, S ||| S ||| bitI (f (ix c 2)) ||| bitI (f (ix c 2)))
        else match ev n f (cN (A_nxt f c a)) with
          | none => none
          | some (b, T) => some (A_made (f (ix c 0)) a b, S ||| T ||| bitI (f (ix c 2)) ||| bitI (A_nxt f c a))
theorem ev_s (n : Nat) (f : Nat → Int32) (c : Nat) : ev (n + 1) f c =
    if f (ix c 0) = 0 then some (f (ix c 1), 0)
    else match ev n f (cN (f (ix c 2))) with
      | none => none
      | some (a, S) =>
        if f (ix c 0) = 5 ∧ a = 2000000000 then some (2000000000, S ||| S ||| bitI (f (ix c 2)) ||| bitI (f (ix c 2)))
        else match ev n f (cN (A_nxt f c a)) with
          | none => none
          | some (b, T) => some (A_made (f (ix c 0)) a b, S ||| T ||| bitI (f (ix c 2)) ||| bitI (A_nxt f c a)) := rfl
theorem ev_up {f : Nat → Int32} : ∀ (n : Nat) (c : Nat) (r : Int32 × Int32), ev n f c = some r → ev (n + 1) f c = some r := by
  intro n
  induction n with
  | zero => intro c r h; cases h
  | succ n ih =>
    intro c r h
    rw [ev_s] at h ⊢
    split at h
    · rename_i h0
      rw [if_pos h0]; exact h
    · rename_i h0
      rw [if_neg h0]
      cases e1 : ev n f (cN (f (ix c 2))) with
      | none => rw [e1] at h; cases h
      | some q =>
        obtain ⟨a, S⟩ := q
        rw [e1] at h
        rw [ih _ _ e1]
        dsimp only at h ⊢
        split at h
        · rename_i h5
          rw [if_pos h5]; exact h
        · rename_i h5
          rw [if_neg h5]
          cases e2 : ev n f (cN (A_nxt f c a)) with
          | none => rw [e2] at h; cases h
          | some q => rw [e2] at h; rw [ih _ _ e2]; exact h
theorem ev_le {f : Nat → Int32} {n m c : Nat} {r : Int32 × Int32} (h : ev n f c = some r) (hm : n ≤ m) : ev m f c = some r := by
  induction m with
  | zero => rw [Nat.le_zero.mp hm] at h; exact h
  | succ m ih =>
    rcases Nat.lt_or_ge n (m + 1) with q | q
    · exact ev_up _ _ _ (ih (by omega))
    · rw [Nat.le_antisymm hm q] at h; exact h
theorem ev_eq {f : Nat → Int32} {n m c : Nat} {r q : Int32 × Int32} (h : ev n f c = some r) (h2 : ev m f c = some q) : r = q := by
  have a := ev_le h (Nat.le_max_left n m)
  have b := ev_le h2 (Nat.le_max_right n m)
  exact Option.some.inj (a.symm.trans b)
/-- an answer of c is had only by an earlier one of d -/
def Desc (f : Nat → Int32) (c d : Nat) : Prop := ∀ m r, ev m f c = some r → ∃ m' r', m' < m ∧ ev m' f d = some r'
def Never (f : Nat → Int32) (c : Nat) : Prop := ∀ m, ev m f c = none
theorem Desc.tr {f : Nat → Int32} {a b c : Nat} (h : Desc f a b) (h2 : Desc f b c) : Desc f a c := fun m r e => by
  obtain ⟨m1, r1, l1, e1⟩ := h m r e
  obtain ⟨m2, r2, l2, e2⟩ := h2 m1 r1 e1
  exact ⟨m2, r2, by omega, e2⟩
theorem Desc.never {f : Nat → Int32} {a b : Nat} (h : Desc f a b) (hb : Never f b) : Never f a := fun m => by
  cases e : ev m f a with
  | none => rfl
  | some r =>
    obtain ⟨m1, r1, -, e1⟩ := h m r e
    rw [hb m1] at e1
    cases e1
theorem Desc.self {f : Nat → Int32} {a : Nat} (h : Desc f a a) : Never f a := by
  intro m
  induction m using Nat.strongRecOn with
  | _ m ih =>
    cases e : ev m f a with
    | none => rfl
    | some r =>
      obtain ⟨m1, r1, l1, e1⟩ := h m r e
      rw [ih m1 l1] at e1
      cases e1
theorem desc_1 {f : Nat → Int32} {c : Nat} (h0 : ¬ f (ix c 0) = 0) : Desc f c (cN (f (ix c 2))) := fun m r e => by
  cases m with
  | zero => cases e
  | succ m =>
    rw [ev_s, if_neg h0] at e
    cases e1 : ev m f (cN (f (ix c 2))) with
    | none => rw [e1] at e; cases e
    | some q => exact ⟨m, q, Nat.lt_succ_self _, e1⟩
theorem desc_2 {f : Nat → Int32} {c k : Nat} {a S : Int32} (h0 : ¬ f (ix c 0) = 0) (hx : ev k f (cN (f (ix c 2))) = some (a, S)) (h5 : ¬ (f (ix c 0) = 5 ∧ a = 2000000000)) : Desc f c (cN (A_nxt f c a)) := fun m r e => by
  cases m with
  | zero => cases e
  | succ m =>
    rw [ev_s, if_neg h0] at e
    cases e1 : ev m f (cN (f (ix c 2))) with
    | none => rw [e1] at e; cases e
    | some q =>
      have eq := ev_eq hx e1
      subst eq
      rw [e1] at e
      dsimp only at e
      rw [if_neg h5] at e
      cases e2 : ev m f (cN (A_nxt f c a)) with
      | none => rw [e2] at e; cases e
      | some q => exact ⟨m, q, Nat.lt_succ_self _, e2⟩
/-- the cell that is wanted next, or -1 -/
def M_want (v : rcM) (c x y : Nat) : Int32 :=
  if v 9 x < 2 then nI x else if v 1 (ix c 0) = 5 ∧ v 10 x = 2000000000 then -1 else if v 9 y < 2 then nI y else -1
set_option maxHeartbeats 4000000 in
set_option maxRecDepth 100000 in
theorem k_wantedBy {Y : rcY} {la : Launch} {v : rcM} {c x y : Nat} (hc : c < 10) (hx : v 1 (ix c 2) = nI x) (hx10 : x < 10) (hy : A_nxt (v 1) c (v 10 x) = nI y) (hy10 : y < 10) : rcT shM 13 Y la 1 (yX6_wantedBy, cX6_wantedBy, 5, (some .int)) [.ref (Y.2.1 0), .int (nI c)] (v) (rI (M_want v c x y) v) := by
  refine rcT.of (by decide +kernel) (Nat.le_of_ble_eq_true rfl) (fun X F hn => ?_)
  refine j_aload_n F.1 dX6_wantedBy_0 rfl ?_
  refine j_iload_n F.1 dX6_wantedBy_1 rfl ?_
  refine j_iconst F.1 (2) dX6_wantedBy_2 (by decide) ?_
  refine j_callVi F (k_of hc (by decide)) co_X6_of ml_X6_55 im_X6_of se_X6_of in_X6 rc_X6_of rfl (by decide) (by decide) ⟨by decide, rfl⟩ rfl rfl (Nat.le_of_ble_eq_true rfl) dX6_wantedBy_3 ?_
  refine j_top hx ?_
  refine j_istore_n F.1 dX6_wantedBy_6 (by rw [hn]; decide) ?_
  refine j_aload_n F.1 dX6_wantedBy_7 rfl ?_
  refine j_getr F (k := 12) inX6 rfl (by decide) fl_X6_34 ⟨by decide, rfl⟩ rfl dX6_wantedBy_8 ?_
  refine j_iload_n F.1 dX6_wantedBy_11 rfl ?_
  refine j_iald F ⟨by decide, rfl⟩ rfl (by omega) (by decide) dX6_wantedBy_12 ?_
  refine j_iconst F.1 (2) dX6_wantedBy_13 (by decide) ?_
  refine j_icmp_ge F.1 19 dX6_wantedBy_14 (by decide) (fun h14 => ?_) (fun h14 => ?_)
  · have w1 : ¬ v 9 x < 2 := Int32.not_lt.mpr h14
    refine j_aload_n F.1 dX6_wantedBy_19 rfl ?_
    refine j_iload_n F.1 dX6_wantedBy_20 rfl ?_
    refine j_iconst F.1 (0) dX6_wantedBy_21 (by decide) ?_
    refine j_callVi F (k_of hc (by decide)) co_X6_of ml_X6_55 im_X6_of se_X6_of in_X6 rc_X6_of rfl (by decide) (by decide) ⟨by decide, rfl⟩ rfl rfl (Nat.le_of_ble_eq_true rfl) dX6_wantedBy_22 ?_
    refine j_iconst F.1 (5) dX6_wantedBy_25 (by decide) ?_
    refine j_icmp_ne F.1 33 dX6_wantedBy_26 (by decide) (fun h26 => ?_) (fun h26 => ?_)
    · have w2 : ¬ (v 1 (ix c 0) = 5 ∧ v 10 x = 2000000000) := fun q => h26 q.1
      have hs2 : A_nxt (v 1) c (v 10 x) = v 1 (ix c 3) := if_neg (fun q => h26 q.1)
      refine j_iconst F.1 (0) dX6_wantedBy_33 (by decide) ?_
      refine j_istore_n F.1 dX6_wantedBy_34 (by rw [hn]; decide) ?_
      refine j_iload_n F.1 dX6_wantedBy_35 rfl ?_
      refine j_if_eq F.1 52 dX6_wantedBy_36 (by decide) (fun _ => ?_) (fun h36 => False.elim (by revert h36; decide))
      refine j_iload_n F.1 dX6_wantedBy_52 rfl ?_
      refine j_if_eq F.1 74 dX6_wantedBy_53 (by decide) (fun _ => ?_) (fun h53 => False.elim (by revert h53; decide))
      refine j_aload_n F.1 dX6_wantedBy_74 rfl ?_
      refine j_iload_n F.1 dX6_wantedBy_75 rfl ?_
      refine j_iconst F.1 (3) dX6_wantedBy_76 (by decide) ?_
      refine j_callVi F (k_of hc (by decide)) co_X6_of ml_X6_55 im_X6_of se_X6_of in_X6 rc_X6_of rfl (by decide) (by decide) ⟨by decide, rfl⟩ rfl rfl (Nat.le_of_ble_eq_true rfl) dX6_wantedBy_77 ?_
      refine j_top (y := nI y) (by rw [← hy, hs2]) ?_
      refine j_istore F.1 dX6_wantedBy_80 (by rw [hn]; decide) ?_
      refine j_aload_n F.1 dX6_wantedBy_82 rfl ?_
      refine j_getr F (k := 12) inX6 rfl (by decide) fl_X6_34 ⟨by decide, rfl⟩ rfl dX6_wantedBy_83 ?_
      refine j_iload F.1 dX6_wantedBy_86 rfl ?_
      refine j_iald F ⟨by decide, rfl⟩ rfl (by omega) (by decide) dX6_wantedBy_88 ?_
      refine j_iconst F.1 (2) dX6_wantedBy_89 (by decide) ?_
      refine j_icmp_ge F.1 98 dX6_wantedBy_90 (by decide) (fun h90 => ?_) (fun h90 => ?_)
      · have w3 : ¬ v 9 y < 2 := Int32.not_lt.mpr h90
        refine j_iconst F.1 (-1) dX6_wantedBy_98 (by decide) ?_
        exact j_iret F dX6_wantedBy_99 ((rIe (by unfold M_want; rw [if_neg w1, if_neg w2]; first | rw [if_pos w3] | rw [if_neg w3]) rfl))
      · have w3 : v 9 y < 2 := Int32.not_le.mp h90
        refine j_iload F.1 dX6_wantedBy_93 rfl ?_
        refine j_goto F.1 99 dX6_wantedBy_95 (by decide) ?_
        exact j_iret F dX6_wantedBy_99 ((rIe (by unfold M_want; rw [if_neg w1, if_neg w2]; first | rw [if_pos w3] | rw [if_neg w3]) rfl))
    · refine j_iconst F.1 (1) dX6_wantedBy_29 (by decide) ?_
      refine j_goto F.1 34 dX6_wantedBy_30 (by decide) ?_
      refine j_istore_n F.1 dX6_wantedBy_34 (by rw [hn]; decide) ?_
      refine j_iload_n F.1 dX6_wantedBy_35 rfl ?_
      refine j_if_eq F.1 52 dX6_wantedBy_36 (by decide) (fun h36 => False.elim (by revert h36; decide)) (fun _ => ?_)
      refine j_aload_n F.1 dX6_wantedBy_39 rfl ?_
      refine j_getr F (k := 13) inX6 rfl (by decide) fl_X6_37 ⟨by decide, rfl⟩ rfl dX6_wantedBy_40 ?_
      refine j_iload_n F.1 dX6_wantedBy_43 rfl ?_
      refine j_iald F ⟨by decide, rfl⟩ rfl (by omega) (by decide) dX6_wantedBy_44 ?_
      refine j_ldc F cn_X6_106 dX6_wantedBy_45 ?_
      refine j_icmp_ne F.1 52 dX6_wantedBy_47 (by decide) (fun h47 => ?_) (fun h47 => ?_)
      · have w2 : ¬ (v 1 (ix c 0) = 5 ∧ v 10 x = 2000000000) := fun q => h47 q.2
        refine j_iload_n F.1 dX6_wantedBy_52 rfl ?_
        refine j_if_eq F.1 74 dX6_wantedBy_53 (by decide) (fun h53 => False.elim (by revert h53; decide)) (fun _ => ?_)
        refine j_aload_n F.1 dX6_wantedBy_56 rfl ?_
        refine j_getr F (k := 13) inX6 rfl (by decide) fl_X6_37 ⟨by decide, rfl⟩ rfl dX6_wantedBy_57 ?_
        refine j_iload_n F.1 dX6_wantedBy_60 rfl ?_
        refine j_iald F ⟨by decide, rfl⟩ rfl (by omega) (by decide) dX6_wantedBy_61 ?_
        refine j_if_gt F.1 74 dX6_wantedBy_62 (by decide) (fun h62 => ?_) (fun h62 => ?_)
        · have hs2 : A_nxt (v 1) c (v 10 x) = v 1 (ix c 3) := if_neg (fun q => Int32.not_le.mpr h62 q.2)
          refine j_aload_n F.1 dX6_wantedBy_74 rfl ?_
          refine j_iload_n F.1 dX6_wantedBy_75 rfl ?_
          refine j_iconst F.1 (3) dX6_wantedBy_76 (by decide) ?_
          refine j_callVi F (k_of hc (by decide)) co_X6_of ml_X6_55 im_X6_of se_X6_of in_X6 rc_X6_of rfl (by decide) (by decide) ⟨by decide, rfl⟩ rfl rfl (Nat.le_of_ble_eq_true rfl) dX6_wantedBy_77 ?_
          refine j_top (y := nI y) (by rw [← hy, hs2]) ?_
          refine j_istore F.1 dX6_wantedBy_80 (by rw [hn]; decide) ?_
          refine j_aload_n F.1 dX6_wantedBy_82 rfl ?_
          refine j_getr F (k := 12) inX6 rfl (by decide) fl_X6_34 ⟨by decide, rfl⟩ rfl dX6_wantedBy_83 ?_
          refine j_iload F.1 dX6_wantedBy_86 rfl ?_
          refine j_iald F ⟨by decide, rfl⟩ rfl (by omega) (by decide) dX6_wantedBy_88 ?_
          refine j_iconst F.1 (2) dX6_wantedBy_89 (by decide) ?_
          refine j_icmp_ge F.1 98 dX6_wantedBy_90 (by decide) (fun h90 => ?_) (fun h90 => ?_)
          · have w3 : ¬ v 9 y < 2 := Int32.not_lt.mpr h90
            refine j_iconst F.1 (-1) dX6_wantedBy_98 (by decide) ?_
            exact j_iret F dX6_wantedBy_99 ((rIe (by unfold M_want; rw [if_neg w1, if_neg w2]; first | rw [if_pos w3] | rw [if_neg w3]) rfl))
          · have w3 : v 9 y < 2 := Int32.not_le.mp h90
            refine j_iload F.1 dX6_wantedBy_93 rfl ?_
            refine j_goto F.1 99 dX6_wantedBy_95 (by decide) ?_
            exact j_iret F dX6_wantedBy_99 ((rIe (by unfold M_want; rw [if_neg w1, if_neg w2]; first | rw [if_pos w3] | rw [if_neg w3]) rfl))
        · have hs2 : A_nxt (v 1) c (v 10 x) = v 1 (ix c 4) := if_pos (And.intro h26 (Int32.not_lt.mp h62))
          refine j_aload_n F.1 dX6_wantedBy_65 rfl ?_
          refine j_iload_n F.1 dX6_wantedBy_66 rfl ?_
          refine j_iconst F.1 (4) dX6_wantedBy_67 (by decide) ?_
          refine j_callVi F (k_of hc (by decide)) co_X6_of ml_X6_55 im_X6_of se_X6_of in_X6 rc_X6_of rfl (by decide) (by decide) ⟨by decide, rfl⟩ rfl rfl (Nat.le_of_ble_eq_true rfl) dX6_wantedBy_68 ?_
          refine j_goto F.1 80 dX6_wantedBy_71 (by decide) ?_
          refine j_top (y := nI y) (by rw [← hy, hs2]) ?_
          refine j_istore F.1 dX6_wantedBy_80 (by rw [hn]; decide) ?_
          refine j_aload_n F.1 dX6_wantedBy_82 rfl ?_
          refine j_getr F (k := 12) inX6 rfl (by decide) fl_X6_34 ⟨by decide, rfl⟩ rfl dX6_wantedBy_83 ?_
          refine j_iload F.1 dX6_wantedBy_86 rfl ?_
          refine j_iald F ⟨by decide, rfl⟩ rfl (by omega) (by decide) dX6_wantedBy_88 ?_
          refine j_iconst F.1 (2) dX6_wantedBy_89 (by decide) ?_
          refine j_icmp_ge F.1 98 dX6_wantedBy_90 (by decide) (fun h90 => ?_) (fun h90 => ?_)
          · have w3 : ¬ v 9 y < 2 := Int32.not_lt.mpr h90
            refine j_iconst F.1 (-1) dX6_wantedBy_98 (by decide) ?_
            exact j_iret F dX6_wantedBy_99 ((rIe (by unfold M_want; rw [if_neg w1, if_neg w2]; first | rw [if_pos w3] | rw [if_neg w3]) rfl))
          · have w3 : v 9 y < 2 := Int32.not_le.mp h90
            refine j_iload F.1 dX6_wantedBy_93 rfl ?_
            refine j_goto F.1 99 dX6_wantedBy_95 (by decide) ?_
            exact j_iret F dX6_wantedBy_99 ((rIe (by unfold M_want; rw [if_neg w1, if_neg w2]; first | rw [if_pos w3] | rw [if_neg w3]) rfl))
      · have w2 : v 1 (ix c 0) = 5 ∧ v 10 x = 2000000000 := And.intro h26 h47
        refine j_iconst F.1 (-1) dX6_wantedBy_50 (by decide) ?_
        exact j_iret F dX6_wantedBy_51 ((rIe (by unfold M_want; rw [if_neg w1, if_pos w2]) rfl))
  · have w1 : v 9 x < 2 := Int32.not_le.mp h14
    refine j_iload_n F.1 dX6_wantedBy_17 rfl ?_
    exact j_iret F dX6_wantedBy_18 ((rIe (by unfold M_want; rw [if_pos w1]) rfl))
/-- a cell that is settled; its first one is x, its second one y -/
def M_set0 (v : rcM) (c : Nat) : rcM := rcr (rcr (rcr v 9 (upd (v 9) c 2)) 11 (upd (v 11) c 0)) 10 (upd (v 10) c (v 1 (ix c 1)))
def M_settle (v : rcM) (c x y : Nat) : rcM := if 0 < v 1 (ix c 0) then rcr (rcr (rcr v 9 (upd (v 9) c 2)) 10 (upd (upd (v 10) c (v 1 (ix c 1))) c (A_made (v 1 (ix c 0)) (v 10 x) (v 10 y)))) 11 (upd (upd (v 11) c 0) c (v 11 x ||| v 11 y ||| bitI (nI x) ||| bitI (nI y))) else M_set0 v c
theorem rcr_sw {v : rcM} {a b : Nat} {f g : Nat → Int32} (h : a ≠ b) : rcr (rcr v a f) b g = rcr (rcr v b g) a f := by
  funext i
  unfold rcr
  by_cases h1 : i = a
  · subst h1; rw [if_neg h, if_pos rfl, if_pos rfl]
  · by_cases h2 : i = b
    · subst h2; rw [if_pos rfl, if_neg h1, if_pos rfl]
    · rw [if_neg h2, if_neg h1, if_neg h1, if_neg h2]
set_option maxHeartbeats 4000000 in
set_option maxRecDepth 100000 in
theorem k_settles {Y : rcY} {la : Launch} {v : rcM} {c x y : Nat} (hc : c < 10) (hx : 0 < v 1 (ix c 0) → v 1 (ix c 2) = nI x ∧ x < 10 ∧ x ≠ c) (hy : 0 < v 1 (ix c 0) → y < 10 ∧ y ≠ c ∧ nI y = (if v 1 (ix c 0) = 5 ∧ v 10 x = 2000000000 then nI x else A_nxt (v 1) c (v 10 x))) : rcT shM 13 Y la 2 (yX6_settles, cX6_settles, 5, none) [.ref (Y.2.1 0), .int (nI c)] (v) (rV (M_settle v c x y)) := by
  refine rcT.of (by decide +kernel) (Nat.le_of_ble_eq_true rfl) (fun X F hn => ?_)
  refine j_aload_n F.1 dX6_settles_0 rfl ?_
  refine j_getr F (k := 12) inX6 rfl (by decide) fl_X6_34 ⟨by decide, rfl⟩ rfl dX6_settles_1 ?_
  refine j_iload_n F.1 dX6_settles_4 rfl ?_
  refine j_iconst F.1 (2) dX6_settles_5 (by decide) ?_
  refine j_iast F ⟨by decide, rfl⟩ rfl (by omega) (by decide) dX6_settles_6 ?_
  refine j_aload_n F.1 dX6_settles_7 rfl ?_
  refine j_getr F (k := 14) inX6 rfl (by decide) fl_X6_40 ⟨by decide, rfl⟩ rfl dX6_settles_8 ?_
  refine j_iload_n F.1 dX6_settles_11 rfl ?_
  refine j_iconst F.1 (0) dX6_settles_12 (by decide) ?_
  refine j_iast F ⟨by decide, rfl⟩ rfl (by omega) (by decide) dX6_settles_13 ?_
  refine j_aload_n F.1 dX6_settles_14 rfl ?_
  refine j_getr F (k := 13) inX6 rfl (by decide) fl_X6_37 ⟨by decide, rfl⟩ rfl dX6_settles_15 ?_
  refine j_iload_n F.1 dX6_settles_18 rfl ?_
  refine j_aload_n F.1 dX6_settles_19 rfl ?_
  refine j_iload_n F.1 dX6_settles_20 rfl ?_
  refine j_iconst F.1 (1) dX6_settles_21 (by decide) ?_
  refine j_callVi F (k_of hc (by decide)) co_X6_of ml_X6_55 im_X6_of se_X6_of in_X6 rc_X6_of rfl (by decide) (by decide) ⟨by decide, rfl⟩ rfl rfl (Nat.le_of_ble_eq_true rfl) dX6_settles_22 ?_
  refine j_top (y := v 1 (ix c 1)) (by rw [rcu_ne (by decide), rcu_ne (by decide)]) ?_
  refine j_iast F ⟨by decide, rfl⟩ rfl (by omega) (by decide) dX6_settles_25 ?_
  rw [show rcu (rcu (rcu v 9 c 2) 11 c 0) 10 c (v 1 (ix c 1)) = M_set0 v c by unfold M_set0; rw [rcu_r, rcu_r, rcu_r, rcr_n (a := 9) (b := 11) (by decide), rcr_n (a := 11) (b := 10) (by decide), rcr_n (a := 9) (b := 10) (by decide)]]
  have m1 : M_set0 v c 1 = v 1 := by unfold M_set0; rw [rcr_n (by decide), rcr_n (by decide), rcr_n (by decide)]
  have m10 : M_set0 v c 10 = upd (v 10) c (v 1 (ix c 1)) := by unfold M_set0; rw [rcr_s]
  have m11 : M_set0 v c 11 = upd (v 11) c 0 := by unfold M_set0; rw [rcr_n (by decide), rcr_s]
  refine j_aload_n F.1 dX6_settles_26 rfl ?_
  refine j_iload_n F.1 dX6_settles_27 rfl ?_
  refine j_iconst F.1 (0) dX6_settles_28 (by decide) ?_
  refine j_callVi F (k_of hc (by decide)) co_X6_of ml_X6_55 im_X6_of se_X6_of in_X6 rc_X6_of rfl (by decide) (by decide) ⟨by decide, rfl⟩ rfl rfl (Nat.le_of_ble_eq_true rfl) dX6_settles_29 ?_
  refine j_top (y := v 1 (ix c 0)) (by rw [m1]) ?_
  refine j_if_le F.1 164 dX6_settles_32 (by decide) (fun h32 => ?_) (fun h32 => ?_)
  · have zz : ¬ 0 < v 1 (ix c 0) := Int32.not_lt.mpr h32
    exact j_vret F dX6_settles_164 ((rVe (by unfold M_settle; first | rw [if_neg zz] | (rw [if_pos nz, rcu_r, rcu_r, rcr_n (a := 10) (b := 11) (by decide), m10, m11]; unfold M_set0; rw [rcr_rcr, rcr_sw (a := 11) (b := 10) (by decide), rcr_rcr]; rfl))))
  · have nz : 0 < v 1 (ix c 0) := Int32.not_le.mp h32
    refine j_aload_n F.1 dX6_settles_35 rfl ?_
    refine j_iload_n F.1 dX6_settles_36 rfl ?_
    refine j_iconst F.1 (2) dX6_settles_37 (by decide) ?_
    refine j_callVi F (k_of hc (by decide)) co_X6_of ml_X6_55 im_X6_of se_X6_of in_X6 rc_X6_of rfl (by decide) (by decide) ⟨by decide, rfl⟩ rfl rfl (Nat.le_of_ble_eq_true rfl) dX6_settles_38 ?_
    refine j_top (y := nI x) (by rw [m1]; exact (hx nz).1) ?_
    refine j_istore_n F.1 dX6_settles_41 (by rw [hn]; decide) ?_
    refine j_aload_n F.1 dX6_settles_42 rfl ?_
    refine j_iload_n F.1 dX6_settles_43 rfl ?_
    refine j_iconst F.1 (0) dX6_settles_44 (by decide) ?_
    refine j_callVi F (k_of hc (by decide)) co_X6_of ml_X6_55 im_X6_of se_X6_of in_X6 rc_X6_of rfl (by decide) (by decide) ⟨by decide, rfl⟩ rfl rfl (Nat.le_of_ble_eq_true rfl) dX6_settles_45 ?_
    refine j_top (y := v 1 (ix c 0)) (by rw [m1]) ?_
    refine j_iconst F.1 (5) dX6_settles_48 (by decide) ?_
    refine j_icmp_ne F.1 56 dX6_settles_49 (by decide) (fun h49 => ?_) (fun h49 => ?_)
    · have e5 : (if v 1 (ix c 0) = 5 ∧ v 10 x = 2000000000 then nI x else A_nxt (v 1) c (v 10 x)) = v 1 (ix c 3) := by rw [if_neg (fun q => h49 q.1)]; exact if_neg (fun q => h49 q.1)
      refine j_iconst F.1 (0) dX6_settles_56 (by decide) ?_
      refine j_istore_n F.1 dX6_settles_57 (by rw [hn]; decide) ?_
      refine j_iload_n F.1 dX6_settles_58 rfl ?_
      refine j_if_eq F.1 77 dX6_settles_59 (by decide) (fun _ => ?_) (fun h59 => False.elim (by revert h59; decide))
      refine j_iload_n F.1 dX6_settles_77 rfl ?_
      refine j_if_eq F.1 99 dX6_settles_78 (by decide) (fun _ => ?_) (fun h78 => False.elim (by revert h78; decide))
      refine j_aload_n F.1 dX6_settles_99 rfl ?_
      refine j_iload_n F.1 dX6_settles_100 rfl ?_
      refine j_iconst F.1 (3) dX6_settles_101 (by decide) ?_
      refine j_callVi F (k_of hc (by decide)) co_X6_of ml_X6_55 im_X6_of se_X6_of in_X6 rc_X6_of rfl (by decide) (by decide) ⟨by decide, rfl⟩ rfl rfl (Nat.le_of_ble_eq_true rfl) dX6_settles_102 ?_
      refine j_top (y := nI y) (by rw [(hy nz).2.2, e5]; try rw [m1]) ?_
      refine j_istore F.1 dX6_settles_105 (by rw [hn]; decide) ?_
      refine j_aload_n F.1 dX6_settles_107 rfl ?_
      refine j_getr F (k := 13) inX6 rfl (by decide) fl_X6_37 ⟨by decide, rfl⟩ rfl dX6_settles_108 ?_
      refine j_iload_n F.1 dX6_settles_111 rfl ?_
      refine j_aload_n F.1 dX6_settles_112 rfl ?_
      refine j_iload_n F.1 dX6_settles_113 rfl ?_
      refine j_iconst F.1 (0) dX6_settles_114 (by decide) ?_
      refine j_callVi F (k_of hc (by decide)) co_X6_of ml_X6_55 im_X6_of se_X6_of in_X6 rc_X6_of rfl (by decide) (by decide) ⟨by decide, rfl⟩ rfl rfl (Nat.le_of_ble_eq_true rfl) dX6_settles_115 ?_
      refine j_top (y := v 1 (ix c 0)) (by rw [m1]) ?_
      refine j_aload_n F.1 dX6_settles_118 rfl ?_
      refine j_getr F (k := 13) inX6 rfl (by decide) fl_X6_37 ⟨by decide, rfl⟩ rfl dX6_settles_119 ?_
      refine j_iload_n F.1 dX6_settles_122 rfl ?_
      refine j_iald F ⟨by decide, rfl⟩ rfl (hx nz).2.1 (by decide) dX6_settles_123 ?_
      refine j_top (y := v 10 x) (by rw [m10, pk_un (hx nz).2.2]) ?_
      refine j_aload_n F.1 dX6_settles_124 rfl ?_
      refine j_getr F (k := 13) inX6 rfl (by decide) fl_X6_37 ⟨by decide, rfl⟩ rfl dX6_settles_125 ?_
      refine j_iload F.1 dX6_settles_128 rfl ?_
      refine j_iald F ⟨by decide, rfl⟩ rfl (hy nz).1 (by decide) dX6_settles_130 ?_
      refine j_top (y := v 10 y) (by rw [m10, pk_un (hy nz).2.1]) ?_
      refine j_callSi F (k_made) co_X6_made ml_X6_120 st_X6_made in_X6 rc_X6_made rfl (by decide) (by decide) rfl (Nat.le_of_ble_eq_true rfl) dX6_settles_131 ?_
      refine j_iast F ⟨by decide, rfl⟩ rfl (by omega) (by decide) dX6_settles_134 ?_
      refine j_aload_n F.1 dX6_settles_135 rfl ?_
      refine j_getr F (k := 14) inX6 rfl (by decide) fl_X6_40 ⟨by decide, rfl⟩ rfl dX6_settles_136 ?_
      refine j_iload_n F.1 dX6_settles_139 rfl ?_
      refine j_aload_n F.1 dX6_settles_140 rfl ?_
      refine j_getr F (k := 14) inX6 rfl (by decide) fl_X6_40 ⟨by decide, rfl⟩ rfl dX6_settles_141 ?_
      refine j_iload_n F.1 dX6_settles_144 rfl ?_
      refine j_iald F ⟨by decide, rfl⟩ rfl (hx nz).2.1 (by decide) dX6_settles_145 ?_
      refine j_top (y := v 11 x) (by rw [rcu_ne (by decide), m11, pk_un (hx nz).2.2]) ?_
      refine j_aload_n F.1 dX6_settles_146 rfl ?_
      refine j_getr F (k := 14) inX6 rfl (by decide) fl_X6_40 ⟨by decide, rfl⟩ rfl dX6_settles_147 ?_
      refine j_iload F.1 dX6_settles_150 rfl ?_
      refine j_iald F ⟨by decide, rfl⟩ rfl (hy nz).1 (by decide) dX6_settles_152 ?_
      refine j_top (y := v 11 y) (by rw [rcu_ne (by decide), m11, pk_un (hy nz).2.1]) ?_
      refine j_ior F.1 dX6_settles_153 ?_
      refine j_iconst F.1 (1) dX6_settles_154 (by decide) ?_
      refine j_iload_n F.1 dX6_settles_155 rfl ?_
      refine j_ishl F.1 dX6_settles_156 ?_
      refine j_ior F.1 dX6_settles_157 ?_
      refine j_iconst F.1 (1) dX6_settles_158 (by decide) ?_
      refine j_iload F.1 dX6_settles_159 rfl ?_
      refine j_ishl F.1 dX6_settles_161 ?_
      refine j_ior F.1 dX6_settles_162 ?_
      refine j_iast F ⟨by decide, rfl⟩ rfl (by omega) (by decide) dX6_settles_163 ?_
      exact j_vret F dX6_settles_164 ((rVe (by unfold M_settle; first | rw [if_neg zz] | (rw [if_pos nz, rcu_r, rcu_r, rcr_n (a := 10) (b := 11) (by decide), m10, m11]; unfold M_set0; rw [rcr_rcr, rcr_sw (a := 11) (b := 10) (by decide), rcr_rcr]; rfl))))
    · refine j_iconst F.1 (1) dX6_settles_52 (by decide) ?_
      refine j_goto F.1 57 dX6_settles_53 (by decide) ?_
      refine j_istore_n F.1 dX6_settles_57 (by rw [hn]; decide) ?_
      refine j_iload_n F.1 dX6_settles_58 rfl ?_
      refine j_if_eq F.1 77 dX6_settles_59 (by decide) (fun h59 => False.elim (by revert h59; decide)) (fun _ => ?_)
      refine j_aload_n F.1 dX6_settles_62 rfl ?_
      refine j_getr F (k := 13) inX6 rfl (by decide) fl_X6_37 ⟨by decide, rfl⟩ rfl dX6_settles_63 ?_
      refine j_iload_n F.1 dX6_settles_66 rfl ?_
      refine j_iald F ⟨by decide, rfl⟩ rfl (hx nz).2.1 (by decide) dX6_settles_67 ?_
      refine j_top (y := v 10 x) (by rw [m10, pk_un (hx nz).2.2]) ?_
      refine j_ldc F cn_X6_106 dX6_settles_68 ?_
      refine j_icmp_ne F.1 77 dX6_settles_70 (by decide) (fun h70 => ?_) (fun h70 => ?_)
      · refine j_iload_n F.1 dX6_settles_77 rfl ?_
        refine j_if_eq F.1 99 dX6_settles_78 (by decide) (fun h78 => False.elim (by revert h78; decide)) (fun _ => ?_)
        refine j_aload_n F.1 dX6_settles_81 rfl ?_
        refine j_getr F (k := 13) inX6 rfl (by decide) fl_X6_37 ⟨by decide, rfl⟩ rfl dX6_settles_82 ?_
        refine j_iload_n F.1 dX6_settles_85 rfl ?_
        refine j_iald F ⟨by decide, rfl⟩ rfl (hx nz).2.1 (by decide) dX6_settles_86 ?_
        refine j_top (y := v 10 x) (by rw [m10, pk_un (hx nz).2.2]) ?_
        refine j_if_gt F.1 99 dX6_settles_87 (by decide) (fun h87 => ?_) (fun h87 => ?_)
        · have e5 : (if v 1 (ix c 0) = 5 ∧ v 10 x = 2000000000 then nI x else A_nxt (v 1) c (v 10 x)) = v 1 (ix c 3) := by rw [if_neg (fun q => h70 q.2)]; exact if_neg (fun q => Int32.not_le.mpr h87 q.2)
          refine j_aload_n F.1 dX6_settles_99 rfl ?_
          refine j_iload_n F.1 dX6_settles_100 rfl ?_
          refine j_iconst F.1 (3) dX6_settles_101 (by decide) ?_
          refine j_callVi F (k_of hc (by decide)) co_X6_of ml_X6_55 im_X6_of se_X6_of in_X6 rc_X6_of rfl (by decide) (by decide) ⟨by decide, rfl⟩ rfl rfl (Nat.le_of_ble_eq_true rfl) dX6_settles_102 ?_
          refine j_top (y := nI y) (by rw [(hy nz).2.2, e5]; try rw [m1]) ?_
          refine j_istore F.1 dX6_settles_105 (by rw [hn]; decide) ?_
          refine j_aload_n F.1 dX6_settles_107 rfl ?_
          refine j_getr F (k := 13) inX6 rfl (by decide) fl_X6_37 ⟨by decide, rfl⟩ rfl dX6_settles_108 ?_
          refine j_iload_n F.1 dX6_settles_111 rfl ?_
          refine j_aload_n F.1 dX6_settles_112 rfl ?_
          refine j_iload_n F.1 dX6_settles_113 rfl ?_
          refine j_iconst F.1 (0) dX6_settles_114 (by decide) ?_
          refine j_callVi F (k_of hc (by decide)) co_X6_of ml_X6_55 im_X6_of se_X6_of in_X6 rc_X6_of rfl (by decide) (by decide) ⟨by decide, rfl⟩ rfl rfl (Nat.le_of_ble_eq_true rfl) dX6_settles_115 ?_
          refine j_top (y := v 1 (ix c 0)) (by rw [m1]) ?_
          refine j_aload_n F.1 dX6_settles_118 rfl ?_
          refine j_getr F (k := 13) inX6 rfl (by decide) fl_X6_37 ⟨by decide, rfl⟩ rfl dX6_settles_119 ?_
          refine j_iload_n F.1 dX6_settles_122 rfl ?_
          refine j_iald F ⟨by decide, rfl⟩ rfl (hx nz).2.1 (by decide) dX6_settles_123 ?_
          refine j_top (y := v 10 x) (by rw [m10, pk_un (hx nz).2.2]) ?_
          refine j_aload_n F.1 dX6_settles_124 rfl ?_
          refine j_getr F (k := 13) inX6 rfl (by decide) fl_X6_37 ⟨by decide, rfl⟩ rfl dX6_settles_125 ?_
          refine j_iload F.1 dX6_settles_128 rfl ?_
          refine j_iald F ⟨by decide, rfl⟩ rfl (hy nz).1 (by decide) dX6_settles_130 ?_
          refine j_top (y := v 10 y) (by rw [m10, pk_un (hy nz).2.1]) ?_
          refine j_callSi F (k_made) co_X6_made ml_X6_120 st_X6_made in_X6 rc_X6_made rfl (by decide) (by decide) rfl (Nat.le_of_ble_eq_true rfl) dX6_settles_131 ?_
          refine j_iast F ⟨by decide, rfl⟩ rfl (by omega) (by decide) dX6_settles_134 ?_
          refine j_aload_n F.1 dX6_settles_135 rfl ?_
          refine j_getr F (k := 14) inX6 rfl (by decide) fl_X6_40 ⟨by decide, rfl⟩ rfl dX6_settles_136 ?_
          refine j_iload_n F.1 dX6_settles_139 rfl ?_
          refine j_aload_n F.1 dX6_settles_140 rfl ?_
          refine j_getr F (k := 14) inX6 rfl (by decide) fl_X6_40 ⟨by decide, rfl⟩ rfl dX6_settles_141 ?_
          refine j_iload_n F.1 dX6_settles_144 rfl ?_
          refine j_iald F ⟨by decide, rfl⟩ rfl (hx nz).2.1 (by decide) dX6_settles_145 ?_
          refine j_top (y := v 11 x) (by rw [rcu_ne (by decide), m11, pk_un (hx nz).2.2]) ?_
          refine j_aload_n F.1 dX6_settles_146 rfl ?_
          refine j_getr F (k := 14) inX6 rfl (by decide) fl_X6_40 ⟨by decide, rfl⟩ rfl dX6_settles_147 ?_
          refine j_iload F.1 dX6_settles_150 rfl ?_
          refine j_iald F ⟨by decide, rfl⟩ rfl (hy nz).1 (by decide) dX6_settles_152 ?_
          refine j_top (y := v 11 y) (by rw [rcu_ne (by decide), m11, pk_un (hy nz).2.1]) ?_
          refine j_ior F.1 dX6_settles_153 ?_
          refine j_iconst F.1 (1) dX6_settles_154 (by decide) ?_
          refine j_iload_n F.1 dX6_settles_155 rfl ?_
          refine j_ishl F.1 dX6_settles_156 ?_
          refine j_ior F.1 dX6_settles_157 ?_
          refine j_iconst F.1 (1) dX6_settles_158 (by decide) ?_
          refine j_iload F.1 dX6_settles_159 rfl ?_
          refine j_ishl F.1 dX6_settles_161 ?_
          refine j_ior F.1 dX6_settles_162 ?_
          refine j_iast F ⟨by decide, rfl⟩ rfl (by omega) (by decide) dX6_settles_163 ?_
          exact j_vret F dX6_settles_164 ((rVe (by unfold M_settle; first | rw [if_neg zz] | (rw [if_pos nz, rcu_r, rcu_r, rcr_n (a := 10) (b := 11) (by decide), m10, m11]; unfold M_set0; rw [rcr_rcr, rcr_sw (a := 11) (b := 10) (by decide), rcr_rcr]; rfl))))
        · have e5 : (if v 1 (ix c 0) = 5 ∧ v 10 x = 2000000000 then nI x else A_nxt (v 1) c (v 10 x)) = v 1 (ix c 4) := by rw [if_neg (fun q => h70 q.2)]; exact if_pos (And.intro h49 (Int32.not_lt.mp h87))
          refine j_aload_n F.1 dX6_settles_90 rfl ?_
          refine j_iload_n F.1 dX6_settles_91 rfl ?_
          refine j_iconst F.1 (4) dX6_settles_92 (by decide) ?_
          refine j_callVi F (k_of hc (by decide)) co_X6_of ml_X6_55 im_X6_of se_X6_of in_X6 rc_X6_of rfl (by decide) (by decide) ⟨by decide, rfl⟩ rfl rfl (Nat.le_of_ble_eq_true rfl) dX6_settles_93 ?_
          refine j_goto F.1 105 dX6_settles_96 (by decide) ?_
          refine j_top (y := nI y) (by rw [(hy nz).2.2, e5]; try rw [m1]) ?_
          refine j_istore F.1 dX6_settles_105 (by rw [hn]; decide) ?_
          refine j_aload_n F.1 dX6_settles_107 rfl ?_
          refine j_getr F (k := 13) inX6 rfl (by decide) fl_X6_37 ⟨by decide, rfl⟩ rfl dX6_settles_108 ?_
          refine j_iload_n F.1 dX6_settles_111 rfl ?_
          refine j_aload_n F.1 dX6_settles_112 rfl ?_
          refine j_iload_n F.1 dX6_settles_113 rfl ?_
          refine j_iconst F.1 (0) dX6_settles_114 (by decide) ?_
          refine j_callVi F (k_of hc (by decide)) co_X6_of ml_X6_55 im_X6_of se_X6_of in_X6 rc_X6_of rfl (by decide) (by decide) ⟨by decide, rfl⟩ rfl rfl (Nat.le_of_ble_eq_true rfl) dX6_settles_115 ?_
          refine j_top (y := v 1 (ix c 0)) (by rw [m1]) ?_
          refine j_aload_n F.1 dX6_settles_118 rfl ?_
          refine j_getr F (k := 13) inX6 rfl (by decide) fl_X6_37 ⟨by decide, rfl⟩ rfl dX6_settles_119 ?_
          refine j_iload_n F.1 dX6_settles_122 rfl ?_
          refine j_iald F ⟨by decide, rfl⟩ rfl (hx nz).2.1 (by decide) dX6_settles_123 ?_
          refine j_top (y := v 10 x) (by rw [m10, pk_un (hx nz).2.2]) ?_
          refine j_aload_n F.1 dX6_settles_124 rfl ?_
          refine j_getr F (k := 13) inX6 rfl (by decide) fl_X6_37 ⟨by decide, rfl⟩ rfl dX6_settles_125 ?_
          refine j_iload F.1 dX6_settles_128 rfl ?_
          refine j_iald F ⟨by decide, rfl⟩ rfl (hy nz).1 (by decide) dX6_settles_130 ?_
          refine j_top (y := v 10 y) (by rw [m10, pk_un (hy nz).2.1]) ?_
          refine j_callSi F (k_made) co_X6_made ml_X6_120 st_X6_made in_X6 rc_X6_made rfl (by decide) (by decide) rfl (Nat.le_of_ble_eq_true rfl) dX6_settles_131 ?_
          refine j_iast F ⟨by decide, rfl⟩ rfl (by omega) (by decide) dX6_settles_134 ?_
          refine j_aload_n F.1 dX6_settles_135 rfl ?_
          refine j_getr F (k := 14) inX6 rfl (by decide) fl_X6_40 ⟨by decide, rfl⟩ rfl dX6_settles_136 ?_
          refine j_iload_n F.1 dX6_settles_139 rfl ?_
          refine j_aload_n F.1 dX6_settles_140 rfl ?_
          refine j_getr F (k := 14) inX6 rfl (by decide) fl_X6_40 ⟨by decide, rfl⟩ rfl dX6_settles_141 ?_
          refine j_iload_n F.1 dX6_settles_144 rfl ?_
          refine j_iald F ⟨by decide, rfl⟩ rfl (hx nz).2.1 (by decide) dX6_settles_145 ?_
          refine j_top (y := v 11 x) (by rw [rcu_ne (by decide), m11, pk_un (hx nz).2.2]) ?_
          refine j_aload_n F.1 dX6_settles_146 rfl ?_
          refine j_getr F (k := 14) inX6 rfl (by decide) fl_X6_40 ⟨by decide, rfl⟩ rfl dX6_settles_147 ?_
          refine j_iload F.1 dX6_settles_150 rfl ?_
          refine j_iald F ⟨by decide, rfl⟩ rfl (hy nz).1 (by decide) dX6_settles_152 ?_
          refine j_top (y := v 11 y) (by rw [rcu_ne (by decide), m11, pk_un (hy nz).2.1]) ?_
          refine j_ior F.1 dX6_settles_153 ?_
          refine j_iconst F.1 (1) dX6_settles_154 (by decide) ?_
          refine j_iload_n F.1 dX6_settles_155 rfl ?_
          refine j_ishl F.1 dX6_settles_156 ?_
          refine j_ior F.1 dX6_settles_157 ?_
          refine j_iconst F.1 (1) dX6_settles_158 (by decide) ?_
          refine j_iload F.1 dX6_settles_159 rfl ?_
          refine j_ishl F.1 dX6_settles_161 ?_
          refine j_ior F.1 dX6_settles_162 ?_
          refine j_iast F ⟨by decide, rfl⟩ rfl (by omega) (by decide) dX6_settles_163 ?_
          exact j_vret F dX6_settles_164 ((rVe (by unfold M_settle; first | rw [if_neg zz] | (rw [if_pos nz, rcu_r, rcu_r, rcr_n (a := 10) (b := 11) (by decide), m10, m11]; unfold M_set0; rw [rcr_rcr, rcr_sw (a := 11) (b := 10) (by decide), rcr_rcr]; rfl))))
      · have e5 : (if v 1 (ix c 0) = 5 ∧ v 10 x = 2000000000 then nI x else A_nxt (v 1) c (v 10 x)) = nI x := if_pos (And.intro h49 h70)
        refine j_iload_n F.1 dX6_settles_73 rfl ?_
        refine j_goto F.1 105 dX6_settles_74 (by decide) ?_
        refine j_top (y := nI y) (by rw [(hy nz).2.2, e5]; try rw [m1]) ?_
        refine j_istore F.1 dX6_settles_105 (by rw [hn]; decide) ?_
        refine j_aload_n F.1 dX6_settles_107 rfl ?_
        refine j_getr F (k := 13) inX6 rfl (by decide) fl_X6_37 ⟨by decide, rfl⟩ rfl dX6_settles_108 ?_
        refine j_iload_n F.1 dX6_settles_111 rfl ?_
        refine j_aload_n F.1 dX6_settles_112 rfl ?_
        refine j_iload_n F.1 dX6_settles_113 rfl ?_
        refine j_iconst F.1 (0) dX6_settles_114 (by decide) ?_
        refine j_callVi F (k_of hc (by decide)) co_X6_of ml_X6_55 im_X6_of se_X6_of in_X6 rc_X6_of rfl (by decide) (by decide) ⟨by decide, rfl⟩ rfl rfl (Nat.le_of_ble_eq_true rfl) dX6_settles_115 ?_
        refine j_top (y := v 1 (ix c 0)) (by rw [m1]) ?_
        refine j_aload_n F.1 dX6_settles_118 rfl ?_
        refine j_getr F (k := 13) inX6 rfl (by decide) fl_X6_37 ⟨by decide, rfl⟩ rfl dX6_settles_119 ?_
        refine j_iload_n F.1 dX6_settles_122 rfl ?_
        refine j_iald F ⟨by decide, rfl⟩ rfl (hx nz).2.1 (by decide) dX6_settles_123 ?_
        refine j_top (y := v 10 x) (by rw [m10, pk_un (hx nz).2.2]) ?_
        refine j_aload_n F.1 dX6_settles_124 rfl ?_
        refine j_getr F (k := 13) inX6 rfl (by decide) fl_X6_37 ⟨by decide, rfl⟩ rfl dX6_settles_125 ?_
        refine j_iload F.1 dX6_settles_128 rfl ?_
        refine j_iald F ⟨by decide, rfl⟩ rfl (hy nz).1 (by decide) dX6_settles_130 ?_
        refine j_top (y := v 10 y) (by rw [m10, pk_un (hy nz).2.1]) ?_
        refine j_callSi F (k_made) co_X6_made ml_X6_120 st_X6_made in_X6 rc_X6_made rfl (by decide) (by decide) rfl (Nat.le_of_ble_eq_true rfl) dX6_settles_131 ?_
        refine j_iast F ⟨by decide, rfl⟩ rfl (by omega) (by decide) dX6_settles_134 ?_
        refine j_aload_n F.1 dX6_settles_135 rfl ?_
        refine j_getr F (k := 14) inX6 rfl (by decide) fl_X6_40 ⟨by decide, rfl⟩ rfl dX6_settles_136 ?_
        refine j_iload_n F.1 dX6_settles_139 rfl ?_
        refine j_aload_n F.1 dX6_settles_140 rfl ?_
        refine j_getr F (k := 14) inX6 rfl (by decide) fl_X6_40 ⟨by decide, rfl⟩ rfl dX6_settles_141 ?_
        refine j_iload_n F.1 dX6_settles_144 rfl ?_
        refine j_iald F ⟨by decide, rfl⟩ rfl (hx nz).2.1 (by decide) dX6_settles_145 ?_
        refine j_top (y := v 11 x) (by rw [rcu_ne (by decide), m11, pk_un (hx nz).2.2]) ?_
        refine j_aload_n F.1 dX6_settles_146 rfl ?_
        refine j_getr F (k := 14) inX6 rfl (by decide) fl_X6_40 ⟨by decide, rfl⟩ rfl dX6_settles_147 ?_
        refine j_iload F.1 dX6_settles_150 rfl ?_
        refine j_iald F ⟨by decide, rfl⟩ rfl (hy nz).1 (by decide) dX6_settles_152 ?_
        refine j_top (y := v 11 y) (by rw [rcu_ne (by decide), m11, pk_un (hy nz).2.1]) ?_
        refine j_ior F.1 dX6_settles_153 ?_
        refine j_iconst F.1 (1) dX6_settles_154 (by decide) ?_
        refine j_iload_n F.1 dX6_settles_155 rfl ?_
        refine j_ishl F.1 dX6_settles_156 ?_
        refine j_ior F.1 dX6_settles_157 ?_
        refine j_iconst F.1 (1) dX6_settles_158 (by decide) ?_
        refine j_iload F.1 dX6_settles_159 rfl ?_
        refine j_ishl F.1 dX6_settles_161 ?_
        refine j_ior F.1 dX6_settles_162 ?_
        refine j_iast F ⟨by decide, rfl⟩ rfl (by omega) (by decide) dX6_settles_163 ?_
        exact j_vret F dX6_settles_164 ((rVe (by unfold M_settle; first | rw [if_neg zz] | (rw [if_pos nz, rcu_r, rcu_r, rcr_n (a := 10) (b := 11) (by decide), m10, m11]; unfold M_set0; rw [rcr_rcr, rcr_sw (a := 11) (b := 10) (by decide), rcr_rcr]; rfl))))
end
section
/-! The reference's loop works a cell out afresh. -/
def WD (f : Nat → Int32) : Prop := ∀ i, i < 10 → (∃ fo : Nat, fo ≤ 5 ∧ f (ix i 0) = nI fo) ∧ (¬ f (ix i 0) = 0 → okC (f (ix i 2)) ∧ okC (f (ix i 3)) ∧ okC (f (ix i 4)))
theorem WF.wd {f : Nat → Int32} (h : WF f) : WD f := fun i hi => ⟨(h.1 i hi).1, fun z => let q := (h.1 i hi).2.2.1 z; ⟨q.2.1, q.2.2.1, q.2.2.2.1⟩⟩
theorem WD.nxt {f : Nat → Int32} (w : WD f) {c : Nat} {a : Int32} (hc : c < 10) (h0 : ¬ f (ix c 0) = 0) : okC (A_nxt f c a) := by
  have q := (w c hc).2 h0
  unfold A_nxt
  split
  · exact q.2.2
  · exact q.2.1
theorem WD.pos {f : Nat → Int32} (w : WD f) {c : Nat} (hc : c < 10) (h0 : ¬ f (ix c 0) = 0) : 0 < f (ix c 0) := by
  obtain ⟨fo, h5, e⟩ := (w c hc).1
  rw [e] at h0 ⊢
  have : fo ≠ 0 := fun z => h0 (by rw [z]; rfl)
  exact nI_lt (a := 0) (by omega) (by omega)
def FrA (v w : rcM) : Prop := (∀ id, id ≠ 0 → id ≠ 5 → id ≠ 9 → id ≠ 10 → id ≠ 11 → w id = v id) ∧ ∀ j, j ≠ 10 → w 0 j = v 0 j
theorem FrA.rf {v : rcM} : FrA v v := ⟨fun _ _ _ _ _ _ => rfl, fun _ _ => rfl⟩
theorem FrA.tr {u v w : rcM} (a : FrA u v) (b : FrA v w) : FrA u w := ⟨fun id h0 h5 h9 h10 h11 => (b.1 id h0 h5 h9 h10 h11).trans (a.1 id h0 h5 h9 h10 h11), fun j h => (b.2 j h).trans (a.2 j h)⟩
def DCh (f : Nat → Int32) : List Nat → Prop
  | [] => True
  | c :: O => (∀ o, o ∈ O → Desc f o c) ∧ DCh f O
/-- the loop's state: the open cells, the settled ones -/
def AI (f : Nat → Int32) (v : rcM) (O : List Nat) : Prop :=
  v 1 = f ∧ v 0 10 = nI O.length ∧ Stk5 (v 5) O ∧ OkO O ∧ DCh f O ∧ (∀ i, i ∈ O → v 9 i = 1) ∧ ∀ i, i < 10 → i ∉ O → v 9 i = 0 ∨ (v 9 i = 2 ∧ ∃ m, ev m f i = some (v 10 i, v 11 i))
def M_apush (v : rcM) (d dp : Nat) : rcM := rcu (rcu (rcu v 9 d 1) 5 dp (nI d)) 0 10 (nI (dp + 1))
def HA (K : Option Value → rcM → Prop) (H : rcM → Prop) : Prop :=
  (∀ v tp c, c < 10 → tp < 10 → v 5 tp = nI c → v 0 10 = nI (tp + 1) → v 1 (ix c 0) = 0 → H (rcu (M_settle v c 0 0) 0 10 (nI tp)) → H v) ∧
  (∀ v tp c x y z, c < 10 → tp < 10 → v 5 tp = nI c → v 0 10 = nI (tp + 1) → 0 < v 1 (ix c 0) → v 1 (ix c 2) = nI x → x < 10 → A_nxt (v 1) c (v 10 x) = nI y → y < 10 → M_want v c x y = -1 → x ≠ c → z < 10 → z ≠ c → nI z = (if v 1 (ix c 0) = 5 ∧ v 10 x = 2000000000 then nI x else A_nxt (v 1) c (v 10 x)) → H (rcu (M_settle v c x z) 0 10 (nI tp)) → H v) ∧
  (∀ v tp c x y d, c < 10 → tp < 10 → v 5 tp = nI c → v 0 10 = nI (tp + 1) → ¬ v 1 (ix c 0) = 0 → v 1 (ix c 2) = nI x → x < 10 → A_nxt (v 1) c (v 10 x) = nI y → y < 10 → M_want v c x y = nI d → d < 10 → v 9 d = 1 → K (some (.int 0)) v → H v) ∧
  (∀ v tp c x y d, c < 10 → tp < 10 → v 5 tp = nI c → v 0 10 = nI (tp + 1) → ¬ v 1 (ix c 0) = 0 → v 1 (ix c 2) = nI x → x < 10 → A_nxt (v 1) c (v 10 x) = nI y → y < 10 → M_want v c x y = nI d → d < 10 → ¬ v 9 d = 1 → tp + 1 < 10 → H (M_apush v d (tp + 1)) → H v)
theorem AI.pop {f : Nat → Int32} {v w : rcM} {c m : Nat} {O : List Nat} (h : AI f v (c :: O)) (h1 : w 1 = v 1) (h5 : w 5 = v 5) (hd : w 0 10 = nI O.length) (h9 : ∀ i, w 9 i = if i = c then 2 else v 9 i) (h10 : ∀ i, i ≠ c → w 10 i = v 10 i ∧ w 11 i = v 11 i) (he : ev m f c = some (w 10 c, w 11 c)) : AI f w O := by
  obtain ⟨a1, a2, a3, a4, a5, a6, a7⟩ := h
  have hnd := List.nodup_cons.mp a4.1
  refine ⟨h1.trans a1, hd, by rw [h5]; exact a3.2, ⟨hnd.2, fun o ho => a4.2 o (List.mem_cons_of_mem _ ho)⟩, a5.2, fun i hi => ?_, fun i hi hn => ?_⟩
  · rw [h9, if_neg (fun e : i = c => hnd.1 (e ▸ hi))]
    exact a6 i (List.mem_cons_of_mem _ hi)
  · by_cases e : i = c
    · subst e
      rw [h9, if_pos rfl]
      exact Or.inr ⟨rfl, m, he⟩
    · rw [h9, if_neg e, (h10 i e).1, (h10 i e).2]
      exact a7 i hi (fun q => (List.mem_cons.mp q).elim e hn)
theorem AI.push {f : Nat → Int32} {v : rcM} {c d : Nat} {O : List Nat} (h : AI f v (c :: O)) (hd : d < 10) (hn : d ∉ c :: O) (hD : Desc f c d) : AI f (M_apush v d (O.length + 1)) (d :: c :: O) := by
  obtain ⟨a1, a2, a3, a4, a5, a6, a7⟩ := h
  have e5 : ∀ k, k < O.length + 1 → M_apush v d (O.length + 1) 5 k = v 5 k := fun k hk => by
    unfold M_apush
    rw [rcu_ne (by decide), rcu_k (by omega), rcu_ne (by decide)]
  have e9 : ∀ i, M_apush v d (O.length + 1) 9 i = if i = d then 1 else v 9 i := fun i => by
    unfold M_apush
    rw [rcu_ne (by decide), rcu_ne (by decide)]
    by_cases e : i = d
    · subst e; rw [rcu_self, if_pos rfl]
    · rw [rcu_k e, if_neg e]
  have e10 : M_apush v d (O.length + 1) 10 = v 10 := by unfold M_apush; rw [rcu_ne (by decide), rcu_ne (by decide), rcu_ne (by decide)]
  have e11 : M_apush v d (O.length + 1) 11 = v 11 := by unfold M_apush; rw [rcu_ne (by decide), rcu_ne (by decide), rcu_ne (by decide)]
  refine ⟨?_, ?_, ⟨?_, a3.low e5⟩, a4.cons hd hn, ⟨fun o ho => ?_, a5⟩, fun i hi => ?_, fun i hi hn' => ?_⟩
  · unfold M_apush; rw [rcu_ne (by decide), rcu_ne (by decide), rcu_ne (by decide)]; exact a1
  · unfold M_apush; rw [rcu_self]; rfl
  · unfold M_apush; rw [rcu_ne (by decide)]; exact rcu_self
  · rcases List.mem_cons.mp ho with rfl | ho
    · exact hD
    · exact (a5.1 o ho).tr hD
  · rw [e9]
    rcases List.mem_cons.mp hi with rfl | hi
    · rw [if_pos rfl]
    · rw [if_neg (fun e : i = d => hn (e ▸ hi))]
      exact a6 i hi
  · have hid : i ≠ d := fun e => hn' (e ▸ List.mem_cons_self)
    rw [e9, if_neg hid, e10, e11]
    exact a7 i hi (fun q => hn' (List.mem_cons_of_mem _ q))
theorem apush_Fr {v : rcM} {d dp : Nat} : FrA v (M_apush v d dp) := by
  unfold M_apush
  refine ⟨fun id h0 h5 h9 h10 h11 => ?_, fun j h => ?_⟩
  · rw [rcu_ne h0, rcu_ne h5, rcu_ne h9]
  · rw [rcu_k h, rcu_ne (by decide), rcu_ne (by decide)]
theorem settle_Fr {v : rcM} {c x y tp : Nat} : FrA v (rcu (M_settle v c x y) 0 10 (nI tp)) := by
  refine ⟨fun id h0 h5 h9 h10 h11 => ?_, fun j h => ?_⟩
  · rw [rcu_ne h0]
    unfold M_settle M_set0
    split
    · rw [rcr_n h11, rcr_n h10, rcr_n h9]
    · rw [rcr_n h10, rcr_n h11, rcr_n h9]
  · rw [rcu_k h]
    unfold M_settle M_set0
    split
    · rw [rcr_n (by decide), rcr_n (by decide), rcr_n (by decide)]
    · rw [rcr_n (by decide), rcr_n (by decide), rcr_n (by decide)]
theorem settle_9 {v : rcM} {c x y tp i : Nat} : rcu (M_settle v c x y) 0 10 (nI tp) 9 i = if i = c then 2 else v 9 i := by
  rw [rcu_ne (by decide)]
  unfold M_settle M_set0
  split
  · rw [rcr_n (by decide), rcr_n (by decide), rcr_s]; rfl
  · rw [rcr_n (by decide), rcr_n (by decide), rcr_s]; rfl
theorem settle_o {v : rcM} {c x y tp i : Nat} (h : i ≠ c) : rcu (M_settle v c x y) 0 10 (nI tp) 10 i = v 10 i ∧ rcu (M_settle v c x y) 0 10 (nI tp) 11 i = v 11 i := by
  rw [rcu_ne (by decide), rcu_ne (by decide)]
  unfold M_settle M_set0
  split
  · rw [rcr_n (by decide), rcr_s, rcr_s, pk_un h, pk_un h, pk_un h, pk_un h]; exact ⟨rfl, rfl⟩
  · rw [rcr_s, rcr_n (by decide), rcr_s, pk_un h, pk_un h]; exact ⟨rfl, rfl⟩
theorem settle_1 {v : rcM} {c x y tp : Nat} (h : 0 < v 1 (ix c 0)) : rcu (M_settle v c x y) 0 10 (nI tp) 10 c = A_made (v 1 (ix c 0)) (v 10 x) (v 10 y) ∧ rcu (M_settle v c x y) 0 10 (nI tp) 11 c = v 11 x ||| v 11 y ||| bitI (nI x) ||| bitI (nI y) := by
  rw [rcu_ne (by decide), rcu_ne (by decide)]
  unfold M_settle
  rw [if_pos h, rcr_n (by decide), rcr_s, rcr_s, pk_us, pk_us]
  exact ⟨rfl, rfl⟩
theorem settle_0 {v : rcM} {c x y tp : Nat} (h : v 1 (ix c 0) = 0) : rcu (M_settle v c x y) 0 10 (nI tp) 10 c = v 1 (ix c 1) ∧ rcu (M_settle v c x y) 0 10 (nI tp) 11 c = 0 := by
  rw [rcu_ne (by decide), rcu_ne (by decide)]
  unfold M_settle M_set0
  rw [if_neg (by rw [h]; decide), rcr_s, rcr_n (by decide), rcr_s, pk_us, pk_us]
  exact ⟨rfl, rfl⟩
def VPost (H : rcM → Prop) (f : Nat → Int32) (O : List Nat) (c : Nat) (v : rcM) : Prop := ∀ w, FrA v w → AI f w O → w 9 c = 2 → (∀ i, i ≠ c → v 9 i = 2 → w 9 i = 2) → H w
def VA (K : Option Value → rcM → Prop) (H : rcM → Prop) (f : Nat → Int32) (c0 n : Nat) : Prop := ∀ (O : List Nat) (c : Nat) (v : rcM), AI f v (c :: O) → 10 ≤ n + O.length → c0 ∈ c :: O → (∀ w, FrA v w → Never f c0 → K (some (.int 0)) w) → VPost H f O c v → H v
theorem ring_never {f : Nat → Int32} {v : rcM} {c d c0 : Nat} {O : List Nat} (h : AI f v (c :: O)) (hd : d ∈ c :: O) (hD : Desc f c d) (h0 : c0 ∈ c :: O) : Never f c0 := by
  have hc : Never f c := by
    rcases List.mem_cons.mp hd with rfl | hd
    · exact hD.self
    · exact (hD.tr (h.2.2.2.2.1.1 d hd)).self
  rcases List.mem_cons.mp h0 with rfl | h0
  · exact hc
  · exact (h.2.2.2.2.1.1 c0 h0).never hc
theorem VA_3 {K : Option Value → rcM → Prop} {H : rcM → Prop} (hA : HA K H) {f : Nat → Int32} (hw : WD f) {O : List Nat} {c x y : Nat} {v : rcM} (hI : AI f v (c :: O)) (h0 : ¬ f (ix c 0) = 0) (hx : f (ix c 2) = nI x) (hx10 : x < 10) (hx9 : v 9 x = 2) (hy : A_nxt f c (v 10 x) = nI y) (hy10 : y < 10) (hn5 : ¬ (f (ix c 0) = 5 ∧ v 10 x = 2000000000)) (hy9 : v 9 y = 2) (post : VPost H f O c v) : H v := by
  have hcO := List.nodup_cons.mp hI.2.2.2.1.1
  have hc : c < 10 := hI.2.2.2.1.2 c List.mem_cons_self
  have hlen : O.length < 10 := by have := hI.2.2.2.1.len; simp only [List.length_cons] at this; omega
  have hc9 : v 9 c = 1 := hI.2.2.2.2.2.1 c List.mem_cons_self
  have xc : x ≠ c := fun e => absurd (hx9.symm.trans (e ▸ hc9)) (by decide)
  have yc : y ≠ c := fun e => absurd (hy9.symm.trans (e ▸ hc9)) (by decide)
  have e1 : v 1 = f := hI.1
  have ox : ∀ i, v 9 i = 2 → i < 10 → ∃ m, ev m f i = some (v 10 i, v 11 i) := fun i h2 hi => by
    have hn : i ∉ c :: O := fun q => absurd (h2.symm.trans (hI.2.2.2.2.2.1 i q)) (by decide)
    rcases hI.2.2.2.2.2.2 i hi hn with z | z
    · exact absurd (h2.symm.trans z) (by decide)
    · exact z.2
  obtain ⟨m1, q1⟩ := ox x hx9 hx10
  obtain ⟨m2, q2⟩ := ox y hy9 hy10
  refine hA.2.1 v O.length c x y y hc hlen hI.2.2.1.1 hI.2.1 (by rw [e1]; exact hw.pos hc h0) (by rw [e1]; exact hx) hx10 (by rw [e1]; exact hy) hy10 ?_ xc hy10 yc ?_ ?_
  · unfold M_want
    rw [hx9, hy9, e1, if_neg (by decide), if_neg hn5, if_neg (by decide)]
  · rw [e1, if_neg hn5]; exact hy.symm
  · refine post _ settle_Fr ?_ ?_ ?_
    · refine hI.pop (m := max m1 m2 + 1) ?_ ?_ rcu_self (fun i => settle_9) (fun i hi => settle_o hi) ?_
      · exact settle_Fr.1 1 (by decide) (by decide) (by decide) (by decide) (by decide)
      · rw [rcu_ne (by decide)]
        unfold M_settle M_set0
        split
        · rw [rcr_n (by decide), rcr_n (by decide), rcr_n (by decide)]
        · rw [rcr_n (by decide), rcr_n (by decide), rcr_n (by decide)]
      · have hp : 0 < v 1 (ix c 0) := by rw [e1]; exact hw.pos hc h0
        rw [(settle_1 hp).1, (settle_1 hp).2, ev_s, if_neg h0, hx, cN_nI hx10, ev_le q1 (Nat.le_max_left _ _)]
        dsimp only
        rw [if_neg hn5, hy, cN_nI hy10, ev_le q2 (Nat.le_max_right _ _), e1]
    · rw [settle_9, if_pos rfl]
    · intro i hi h2
      rw [settle_9, if_neg hi]; exact h2
theorem VA_2 {K : Option Value → rcM → Prop} {H : rcM → Prop} (hA : HA K H) {f : Nat → Int32} (hw : WD f) {c0 n : Nat} (ih : VA K H f c0 n) {O : List Nat} {c x : Nat} {v : rcM} (hI : AI f v (c :: O)) (hn : 9 ≤ n + O.length) (h00 : c0 ∈ c :: O) (h0 : ¬ f (ix c 0) = 0) (hx : f (ix c 2) = nI x) (hx10 : x < 10) (hx9 : v 9 x = 2) (hF : ∀ w, FrA v w → Never f c0 → K (some (.int 0)) w) (post : VPost H f O c v) : H v := by
  have hcO := List.nodup_cons.mp hI.2.2.2.1.1
  have hc : c < 10 := hI.2.2.2.1.2 c List.mem_cons_self
  have hlen : O.length < 10 := by have := hI.2.2.2.1.len; simp only [List.length_cons] at this; omega
  have hc9 : v 9 c = 1 := hI.2.2.2.2.2.1 c List.mem_cons_self
  have xc : x ≠ c := fun e => absurd (hx9.symm.trans (e ▸ hc9)) (by decide)
  have e1 : v 1 = f := hI.1
  have hxn : x ∉ c :: O := fun q => absurd (hx9.symm.trans (hI.2.2.2.2.2.1 x q)) (by decide)
  obtain ⟨m1, q1⟩ : ∃ m, ev m f x = some (v 10 x, v 11 x) := by
    rcases hI.2.2.2.2.2.2 x hx10 hxn with z | z
    · exact absurd (hx9.symm.trans z) (by decide)
    · exact z.2
  have hy := cN_ok (hw.nxt (a := v 10 x) hc h0)
  generalize ey : cN (A_nxt f c (v 10 x)) = y at *
  by_cases h5 : f (ix c 0) = 5 ∧ v 10 x = 2000000000
  · refine hA.2.1 v O.length c x y x hc hlen hI.2.2.1.1 hI.2.1 (by rw [e1]; exact hw.pos hc h0) (by rw [e1]; exact hx) hx10 (by rw [e1]; exact hy.2) hy.1 ?_ xc hx10 xc ?_ ?_
    · unfold M_want
      rw [hx9, e1, if_neg (by decide), if_pos h5]
    · rw [e1, if_pos h5]
    · refine post _ settle_Fr ?_ ?_ ?_
      · refine hI.pop (m := m1 + 1) ?_ ?_ rcu_self (fun i => settle_9) (fun i hi => settle_o hi) ?_
        · exact settle_Fr.1 1 (by decide) (by decide) (by decide) (by decide) (by decide)
        · rw [rcu_ne (by decide)]
          unfold M_settle M_set0
          split
          · rw [rcr_n (by decide), rcr_n (by decide), rcr_n (by decide)]
          · rw [rcr_n (by decide), rcr_n (by decide), rcr_n (by decide)]
        · have hp : 0 < v 1 (ix c 0) := by rw [e1]; exact hw.pos hc h0
          rw [(settle_1 hp).1, (settle_1 hp).2, ev_s, if_neg h0, hx, cN_nI hx10, q1]
          dsimp only
          rw [if_pos h5, h5.2]
          rfl
      · rw [settle_9, if_pos rfl]
      · intro i hi h2
        rw [settle_9, if_neg hi]; exact h2
  · have hD : Desc f c y := by
      have := desc_2 (f := f) (c := c) (k := m1) (a := v 10 x) (S := v 11 x) h0 (by rw [hx, cN_nI hx10]; exact q1) h5
      rwa [ey] at this
    by_cases hy2 : v 9 y = 2
    · exact VA_3 hA hw hI h0 hx hx10 hx9 hy.2 hy.1 h5 hy2 post
    · by_cases hym : y ∈ c :: O
      · have hy1 := hI.2.2.2.2.2.1 y hym
        refine hA.2.2.1 v O.length c x y y hc hlen hI.2.2.1.1 hI.2.1 (by rw [e1]; exact h0) (by rw [e1]; exact hx) hx10 (by rw [e1]; exact hy.2) hy.1 ?_ hy.1 hy1 (hF v FrA.rf (ring_never hI hym hD h00))
        unfold M_want
        rw [hx9, hy1, e1, if_neg (by decide), if_neg h5, if_pos (by decide)]
      · have hy0 : v 9 y = 0 := (hI.2.2.2.2.2.2 y hy.1 hym).elim id (fun z => absurd z.1 hy2)
        have hI' := hI.push hy.1 hym hD
        have hl2 := hI'.2.2.2.1.len
        simp only [List.length_cons] at hl2
        refine hA.2.2.2 v O.length c x y y hc hlen hI.2.2.1.1 hI.2.1 (by rw [e1]; exact h0) (by rw [e1]; exact hx) hx10 (by rw [e1]; exact hy.2) hy.1 ?_ hy.1 (by rw [hy0]; decide) (by omega) ?_
        · unfold M_want
          rw [hx9, hy0, e1, if_neg (by decide), if_neg h5, if_pos (by decide)]
        · refine ih (c :: O) y _ hI' (by simp only [List.length_cons]; omega) (List.mem_cons_of_mem _ h00) (fun w hf hv => hF w (apush_Fr.tr hf) hv) ?_
          intro w hfr hIw hwy hmon
          have a9 : ∀ i, v 9 i = 2 → M_apush v y (O.length + 1) 9 i = 2 := fun i h2 => by
            unfold M_apush
            rw [rcu_ne (by decide), rcu_ne (by decide), rcu_k (fun e : i = y => hy2 (e ▸ h2))]; exact h2
          have mon : ∀ i, v 9 i = 2 → w 9 i = 2 := fun i h2 => hmon i (fun e : i = y => hy2 (e ▸ h2)) (a9 i h2)
          have hwx := mon x hx9
          have hxw : x ∉ c :: O := hxn
          have ex10 : w 10 x = v 10 x := by
            rcases hIw.2.2.2.2.2.2 x hx10 hxw with z | ⟨_, m, z⟩
            · exact absurd (hwx.symm.trans z) (by decide)
            · exact (congrArg Prod.fst (ev_eq z q1))
          refine VA_3 hA hw hIw h0 hx hx10 hwx (by rw [ex10]; exact hy.2) hy.1 (by rw [ex10]; exact h5) hwy (fun w2 f2 i2 s2 m2 => post w2 ((apush_Fr.tr hfr).tr f2) i2 s2 (fun i hi h2 => m2 i hi (mon i h2)))
theorem VA_all {K : Option Value → rcM → Prop} {H : rcM → Prop} (hA : HA K H) {f : Nat → Int32} (hw : WD f) {c0 : Nat} : ∀ n, VA K H f c0 n := by
  intro n
  induction n with
  | zero =>
    intro O c v hI hn
    have := hI.2.2.2.1.len
    simp only [List.length_cons] at this
    omega
  | succ n ih =>
    intro O c v hI hn h00 hF post
    have hcO := List.nodup_cons.mp hI.2.2.2.1.1
    have hc : c < 10 := hI.2.2.2.1.2 c List.mem_cons_self
    have hlen : O.length < 10 := by have := hI.2.2.2.1.len; simp only [List.length_cons] at this; omega
    have e1 : v 1 = f := hI.1
    by_cases h0 : f (ix c 0) = 0
    · refine hA.1 v O.length c hc hlen hI.2.2.1.1 hI.2.1 (by rw [e1]; exact h0) ?_
      refine post _ settle_Fr ?_ ?_ ?_
      · refine hI.pop (m := 1) ?_ ?_ rcu_self (fun i => settle_9) (fun i hi => settle_o hi) ?_
        · exact settle_Fr.1 1 (by decide) (by decide) (by decide) (by decide) (by decide)
        · rw [rcu_ne (by decide)]
          unfold M_settle M_set0
          split
          · rw [rcr_n (by decide), rcr_n (by decide), rcr_n (by decide)]
          · rw [rcr_n (by decide), rcr_n (by decide), rcr_n (by decide)]
        · have z : v 1 (ix c 0) = 0 := by rw [e1]; exact h0
          rw [(settle_0 z).1, (settle_0 z).2, ev_s, if_pos h0, e1]
      · rw [settle_9, if_pos rfl]
      · intro i hi h2
        rw [settle_9, if_neg hi]; exact h2
    · have hx := cN_ok ((hw c hc).2 h0).1
      have hD : Desc f c (cN (f (ix c 2))) := desc_1 h0
      generalize ex : cN (f (ix c 2)) = x at *
      have hy := cN_ok (hw.nxt (a := v 10 x) hc h0)
      by_cases hx2 : v 9 x = 2
      · exact VA_2 hA hw ih hI (by omega) h00 h0 hx.2 hx.1 hx2 hF post
      · by_cases hxm : x ∈ c :: O
        · have hx1 := hI.2.2.2.2.2.1 x hxm
          refine hA.2.2.1 v O.length c x _ x hc hlen hI.2.2.1.1 hI.2.1 (by rw [e1]; exact h0) (by rw [e1]; exact hx.2) hx.1 (by rw [e1]; exact hy.2) hy.1 ?_ hx.1 hx1 (hF v FrA.rf (ring_never hI hxm hD h00))
          unfold M_want
          rw [hx1, if_pos (by decide)]
        · have hx0 : v 9 x = 0 := (hI.2.2.2.2.2.2 x hx.1 hxm).elim id (fun z => absurd z.1 hx2)
          have hI' := hI.push hx.1 hxm hD
          have hl2 := hI'.2.2.2.1.len
          simp only [List.length_cons] at hl2
          refine hA.2.2.2 v O.length c x _ x hc hlen hI.2.2.1.1 hI.2.1 (by rw [e1]; exact h0) (by rw [e1]; exact hx.2) hx.1 (by rw [e1]; exact hy.2) hy.1 ?_ hx.1 (by rw [hx0]; decide) (by omega) ?_
          · unfold M_want
            rw [hx0, if_pos (by decide)]
          · refine ih (c :: O) x _ hI' (by simp only [List.length_cons]; omega) (List.mem_cons_of_mem _ h00) (fun w hf hv => hF w (apush_Fr.tr hf) hv) ?_
            intro w hfr hIw hwx hmon
            have a9 : ∀ i, v 9 i = 2 → M_apush v x (O.length + 1) 9 i = 2 := fun i h2 => by
              unfold M_apush
              rw [rcu_ne (by decide), rcu_ne (by decide), rcu_k (fun e : i = x => hx2 (e ▸ h2))]; exact h2
            have mon : ∀ i, v 9 i = 2 → w 9 i = 2 := fun i h2 => hmon i (fun e : i = x => hx2 (e ▸ h2)) (a9 i h2)
            exact VA_2 hA hw ih hIw (by omega) h00 h0 hx.2 hx.1 hwx (fun w2 f2 hv => hF w2 ((apush_Fr.tr hfr).tr f2) hv) (fun w2 f2 i2 s2 m2 => post w2 ((apush_Fr.tr hfr).tr f2) i2 s2 (fun i hi h2 => m2 i hi (mon i h2)))
end
section
/-! The reference: afresh and what rests on it. -/
noncomputable def EV (f : Nat → Int32) (c : Nat) : Option (Int32 × Int32) := @dite _ (∃ q : Int32 × Int32, ∃ m, ev m f c = some q) (Classical.propDecidable _) (fun h => some h.choose) (fun _ => none)
theorem EV_some {f : Nat → Int32} {c m : Nat} {q : Int32 × Int32} (h : ev m f c = some q) : EV f c = some q := by
  have hx : ∃ q : Int32 × Int32, ∃ m, ev m f c = some q := ⟨q, m, h⟩
  unfold EV
  rw [dif_pos hx]
  obtain ⟨k, hk⟩ := hx.choose_spec
  rw [ev_eq hk h]
theorem EV_none {f : Nat → Int32} {c : Nat} (h : Never f c) : EV f c = none := by
  unfold EV
  rw [dif_neg]
  rintro ⟨q, m, e⟩
  rw [h m] at e
  cases e
def KA (v : rcM) (c : Nat) : Option Value → rcM → Prop := fun r u => FrA v u ∧ match EV (v 1) c with
  | none => r = some (.int 0)
  | some q => r = some (.int 1) ∧ u 10 c = q.1 ∧ u 11 c = q.2
theorem settle_d {v : rcM} {c x y : Nat} : M_settle v c x y 0 10 = v 0 10 := by
  unfold M_settle M_set0
  split
  · rw [rcr_n (by decide), rcr_n (by decide), rcr_n (by decide)]
  · rw [rcr_n (by decide), rcr_n (by decide), rcr_n (by decide)]
set_option maxHeartbeats 4000000 in
set_option maxRecDepth 100000 in
theorem k_afresh {Y : rcY} {la : Launch} {v : rcM} {c0 : Nat} (hc0 : c0 < 10) (hw : WD (v 1)) : rcT shM 13 Y la 3 (yX6_afresh, cX6_afresh, 4, (some .boolean)) [.ref (Y.2.1 0), .int (nI c0)] (v) (KA v c0) := by
  refine rcT.of (by decide +kernel) (Nat.le_of_ble_eq_true rfl) (fun X F hn => ?_)
  have hst : HA (KA v c0) (fun w => rcJ shM 13 Y X (KA v c0) 40 [(0, .ref (Y.2.1 0)), (1, .int (nI c0))] [] w) := by
    refine ⟨?_, ?_, ?_, ?_⟩
    · intro w tp c hc10 ht10 hc hd h0 hH
      refine j_aload_n F.1 dX6_afresh_40 rfl ?_
      refine j_geti F (k := 10) inX6 rfl (by decide) fl_X6_88 ⟨by decide, rfl⟩ rfl dX6_afresh_41 ?_
      refine j_top hd ?_
      refine j_if_le F.1 142 dX6_afresh_44 (by decide) (fun h44 => ?_) (fun h44 => ?_)
      · exact absurd h44 (nI_nle (Nat.succ_pos _) (by omega))
      · refine j_aload_n F.1 dX6_afresh_47 rfl ?_
        refine j_getr F (k := 6) inX6 rfl (by decide) fl_X6_22 ⟨by decide, rfl⟩ rfl dX6_afresh_48 ?_
        refine j_aload_n F.1 dX6_afresh_51 rfl ?_
        refine j_geti F (k := 10) inX6 rfl (by decide) fl_X6_88 ⟨by decide, rfl⟩ rfl dX6_afresh_52 ?_
        refine j_iconst F.1 (1) dX6_afresh_55 (by decide) ?_
        refine j_isub F.1 dX6_afresh_56 ?_
        refine j_iald F ⟨by decide, rfl⟩ (by rw [hd, nI_pred]) (by omega) (by decide) dX6_afresh_57 ?_
        refine j_top hc ?_
        refine j_istore_n F.1 dX6_afresh_58 (by rw [hn]; decide) ?_
        refine j_aload_n F.1 dX6_afresh_59 rfl ?_
        refine j_iload_n F.1 dX6_afresh_60 rfl ?_
        refine j_iconst F.1 (0) dX6_afresh_61 (by decide) ?_
        refine j_callVi F (k_of hc10 (by decide)) co_X6_of ml_X6_55 im_X6_of se_X6_of in_X6 rc_X6_of rfl (by decide) (by decide) ⟨by decide, rfl⟩ rfl rfl (Nat.le_of_ble_eq_true rfl) dX6_afresh_62 ?_
        refine j_top (y := 0) h0 ?_
        refine j_if_ne F.1 72 dX6_afresh_65 (by decide) (fun h65 => False.elim (by revert h65; decide)) (fun _ => ?_)
        refine j_iconst F.1 (-1) dX6_afresh_68 (by decide) ?_
        refine j_goto F.1 77 dX6_afresh_69 (by decide) ?_
        refine j_istore_n F.1 dX6_afresh_77 (by rw [hn]; decide) ?_
        refine j_iload_n F.1 dX6_afresh_78 rfl ?_
        refine j_if_ge F.1 100 dX6_afresh_79 (by decide) (fun h79 => False.elim (by revert h79; decide)) (fun _ => ?_)
        refine j_aload_n F.1 dX6_afresh_82 rfl ?_
        refine j_iload_n F.1 dX6_afresh_83 rfl ?_
        refine j_callVv F (k_settles (x := 0) (y := 0) hc10 (fun z => absurd z (by rw [h0]; decide)) (fun z => absurd z (by rw [h0]; decide))) co_X6_settles ml_X6_156 im_X6_settles se_X6_settles in_X6 rc_X6_settles rfl (by decide) (by decide) ⟨by decide, rfl⟩ rfl rfl (Nat.le_of_ble_eq_true rfl) dX6_afresh_84 ?_
        refine j_aload_n F.1 dX6_afresh_87 rfl ?_
        refine j_dup F.1 dX6_afresh_88 rfl ?_
        refine j_geti F (k := 10) inX6 rfl (by decide) fl_X6_88 ⟨by decide, rfl⟩ rfl dX6_afresh_89 ?_
        refine j_iconst F.1 (1) dX6_afresh_92 (by decide) ?_
        refine j_isub F.1 dX6_afresh_93 ?_
        refine j_top (y := nI tp) (by rw [settle_d, hd, nI_pred]) ?_
        refine j_puti F (k := 10) inX6 tyX6_ok nmX6 rfl (by decide) fl_X6_88 rfl rfl ⟨by decide, rfl⟩ rfl dX6_afresh_94 ?_
        refine j_goto F.1 139 dX6_afresh_97 (by decide) ?_
        refine j_goto F.1 40 dX6_afresh_139 (by decide) ?_
        refine j_loc [(0, .ref (Y.2.1 0)), (1, .int (nI c0))] rfl ?_
        exact hH
    · intro w tp c x y z hc10 ht10 hc hd hpos hx hx10 hy hy10 hwant hxc hz10 hzc hz hH
      refine j_aload_n F.1 dX6_afresh_40 rfl ?_
      refine j_geti F (k := 10) inX6 rfl (by decide) fl_X6_88 ⟨by decide, rfl⟩ rfl dX6_afresh_41 ?_
      refine j_top hd ?_
      refine j_if_le F.1 142 dX6_afresh_44 (by decide) (fun h44 => ?_) (fun h44 => ?_)
      · exact absurd h44 (nI_nle (Nat.succ_pos _) (by omega))
      · refine j_aload_n F.1 dX6_afresh_47 rfl ?_
        refine j_getr F (k := 6) inX6 rfl (by decide) fl_X6_22 ⟨by decide, rfl⟩ rfl dX6_afresh_48 ?_
        refine j_aload_n F.1 dX6_afresh_51 rfl ?_
        refine j_geti F (k := 10) inX6 rfl (by decide) fl_X6_88 ⟨by decide, rfl⟩ rfl dX6_afresh_52 ?_
        refine j_iconst F.1 (1) dX6_afresh_55 (by decide) ?_
        refine j_isub F.1 dX6_afresh_56 ?_
        refine j_iald F ⟨by decide, rfl⟩ (by rw [hd, nI_pred]) (by omega) (by decide) dX6_afresh_57 ?_
        refine j_top hc ?_
        refine j_istore_n F.1 dX6_afresh_58 (by rw [hn]; decide) ?_
        refine j_aload_n F.1 dX6_afresh_59 rfl ?_
        refine j_iload_n F.1 dX6_afresh_60 rfl ?_
        refine j_iconst F.1 (0) dX6_afresh_61 (by decide) ?_
        refine j_callVi F (k_of hc10 (by decide)) co_X6_of ml_X6_55 im_X6_of se_X6_of in_X6 rc_X6_of rfl (by decide) (by decide) ⟨by decide, rfl⟩ rfl rfl (Nat.le_of_ble_eq_true rfl) dX6_afresh_62 ?_
        refine j_if_ne F.1 72 dX6_afresh_65 (by decide) (fun h65 => ?_) (fun h65 => ?_)
        · refine j_aload_n F.1 dX6_afresh_72 rfl ?_
          refine j_iload_n F.1 dX6_afresh_73 rfl ?_
          refine j_callVi F (k_wantedBy hc10 hx hx10 hy hy10) co_X6_wantedBy ml_X6_153 im_X6_wantedBy se_X6_wantedBy in_X6 rc_X6_wantedBy rfl (by decide) (by decide) ⟨by decide, rfl⟩ rfl rfl (Nat.le_of_ble_eq_true rfl) dX6_afresh_74 ?_
          refine j_top (y := -1) hwant ?_
          refine j_istore_n F.1 dX6_afresh_77 (by rw [hn]; decide) ?_
          refine j_iload_n F.1 dX6_afresh_78 rfl ?_
          refine j_if_ge F.1 100 dX6_afresh_79 (by decide) (fun h79 => False.elim (by revert h79; decide)) (fun _ => ?_)
          refine j_aload_n F.1 dX6_afresh_82 rfl ?_
          refine j_iload_n F.1 dX6_afresh_83 rfl ?_
          refine j_callVv F (k_settles (x := x) (y := z) hc10 (fun _ => ⟨hx, hx10, hxc⟩) (fun _ => ⟨hz10, hzc, hz⟩)) co_X6_settles ml_X6_156 im_X6_settles se_X6_settles in_X6 rc_X6_settles rfl (by decide) (by decide) ⟨by decide, rfl⟩ rfl rfl (Nat.le_of_ble_eq_true rfl) dX6_afresh_84 ?_
          refine j_aload_n F.1 dX6_afresh_87 rfl ?_
          refine j_dup F.1 dX6_afresh_88 rfl ?_
          refine j_geti F (k := 10) inX6 rfl (by decide) fl_X6_88 ⟨by decide, rfl⟩ rfl dX6_afresh_89 ?_
          refine j_iconst F.1 (1) dX6_afresh_92 (by decide) ?_
          refine j_isub F.1 dX6_afresh_93 ?_
          refine j_top (y := nI tp) (by rw [settle_d, hd, nI_pred]) ?_
          refine j_puti F (k := 10) inX6 tyX6_ok nmX6 rfl (by decide) fl_X6_88 rfl rfl ⟨by decide, rfl⟩ rfl dX6_afresh_94 ?_
          refine j_goto F.1 139 dX6_afresh_97 (by decide) ?_
          refine j_goto F.1 40 dX6_afresh_139 (by decide) ?_
          refine j_loc [(0, .ref (Y.2.1 0)), (1, .int (nI c0))] rfl ?_
          exact hH
        · exact absurd hpos (by rw [h65]; decide)
    · intro w tp c x y d hc10 ht10 hc hd h0 hx hx10 hy hy10 hwant hd10 h9 hK
      refine j_aload_n F.1 dX6_afresh_40 rfl ?_
      refine j_geti F (k := 10) inX6 rfl (by decide) fl_X6_88 ⟨by decide, rfl⟩ rfl dX6_afresh_41 ?_
      refine j_top hd ?_
      refine j_if_le F.1 142 dX6_afresh_44 (by decide) (fun h44 => ?_) (fun h44 => ?_)
      · exact absurd h44 (nI_nle (Nat.succ_pos _) (by omega))
      · refine j_aload_n F.1 dX6_afresh_47 rfl ?_
        refine j_getr F (k := 6) inX6 rfl (by decide) fl_X6_22 ⟨by decide, rfl⟩ rfl dX6_afresh_48 ?_
        refine j_aload_n F.1 dX6_afresh_51 rfl ?_
        refine j_geti F (k := 10) inX6 rfl (by decide) fl_X6_88 ⟨by decide, rfl⟩ rfl dX6_afresh_52 ?_
        refine j_iconst F.1 (1) dX6_afresh_55 (by decide) ?_
        refine j_isub F.1 dX6_afresh_56 ?_
        refine j_iald F ⟨by decide, rfl⟩ (by rw [hd, nI_pred]) (by omega) (by decide) dX6_afresh_57 ?_
        refine j_top hc ?_
        refine j_istore_n F.1 dX6_afresh_58 (by rw [hn]; decide) ?_
        refine j_aload_n F.1 dX6_afresh_59 rfl ?_
        refine j_iload_n F.1 dX6_afresh_60 rfl ?_
        refine j_iconst F.1 (0) dX6_afresh_61 (by decide) ?_
        refine j_callVi F (k_of hc10 (by decide)) co_X6_of ml_X6_55 im_X6_of se_X6_of in_X6 rc_X6_of rfl (by decide) (by decide) ⟨by decide, rfl⟩ rfl rfl (Nat.le_of_ble_eq_true rfl) dX6_afresh_62 ?_
        refine j_if_ne F.1 72 dX6_afresh_65 (by decide) (fun h65 => ?_) (fun h65 => ?_)
        · refine j_aload_n F.1 dX6_afresh_72 rfl ?_
          refine j_iload_n F.1 dX6_afresh_73 rfl ?_
          refine j_callVi F (k_wantedBy hc10 hx hx10 hy hy10) co_X6_wantedBy ml_X6_153 im_X6_wantedBy se_X6_wantedBy in_X6 rc_X6_wantedBy rfl (by decide) (by decide) ⟨by decide, rfl⟩ rfl rfl (Nat.le_of_ble_eq_true rfl) dX6_afresh_74 ?_
          refine j_top (y := nI d) hwant ?_
          refine j_istore_n F.1 dX6_afresh_77 (by rw [hn]; decide) ?_
          refine j_iload_n F.1 dX6_afresh_78 rfl ?_
          refine j_if_ge F.1 100 dX6_afresh_79 (by decide) (fun h79 => ?_) (fun h79 => ?_)
          · refine j_aload_n F.1 dX6_afresh_100 rfl ?_
            refine j_getr F (k := 12) inX6 rfl (by decide) fl_X6_34 ⟨by decide, rfl⟩ rfl dX6_afresh_101 ?_
            refine j_iload_n F.1 dX6_afresh_104 rfl ?_
            refine j_iald F ⟨by decide, rfl⟩ rfl (by omega) (by decide) dX6_afresh_105 ?_
            refine j_top (y := 1) h9 ?_
            refine j_iconst F.1 (1) dX6_afresh_106 (by decide) ?_
            refine j_icmp_ne F.1 112 dX6_afresh_107 (by decide) (fun h107 => False.elim (by revert h107; decide)) (fun _ => ?_)
            refine j_iconst F.1 (0) dX6_afresh_110 (by decide) ?_
            exact j_zret F (by first | exact Or.inl rfl | exact Or.inr rfl | exact b2_01 _) dX6_afresh_111 ((hK))
          · exact absurd (nI_pos' (by omega)) h79
        · exact absurd h65 h0
    · intro w tp c x y d hc10 ht10 hc hd h0 hx hx10 hy hy10 hwant hd10 h9 htp hH
      refine j_aload_n F.1 dX6_afresh_40 rfl ?_
      refine j_geti F (k := 10) inX6 rfl (by decide) fl_X6_88 ⟨by decide, rfl⟩ rfl dX6_afresh_41 ?_
      refine j_top hd ?_
      refine j_if_le F.1 142 dX6_afresh_44 (by decide) (fun h44 => ?_) (fun h44 => ?_)
      · exact absurd h44 (nI_nle (Nat.succ_pos _) (by omega))
      · refine j_aload_n F.1 dX6_afresh_47 rfl ?_
        refine j_getr F (k := 6) inX6 rfl (by decide) fl_X6_22 ⟨by decide, rfl⟩ rfl dX6_afresh_48 ?_
        refine j_aload_n F.1 dX6_afresh_51 rfl ?_
        refine j_geti F (k := 10) inX6 rfl (by decide) fl_X6_88 ⟨by decide, rfl⟩ rfl dX6_afresh_52 ?_
        refine j_iconst F.1 (1) dX6_afresh_55 (by decide) ?_
        refine j_isub F.1 dX6_afresh_56 ?_
        refine j_iald F ⟨by decide, rfl⟩ (by rw [hd, nI_pred]) (by omega) (by decide) dX6_afresh_57 ?_
        refine j_top hc ?_
        refine j_istore_n F.1 dX6_afresh_58 (by rw [hn]; decide) ?_
        refine j_aload_n F.1 dX6_afresh_59 rfl ?_
        refine j_iload_n F.1 dX6_afresh_60 rfl ?_
        refine j_iconst F.1 (0) dX6_afresh_61 (by decide) ?_
        refine j_callVi F (k_of hc10 (by decide)) co_X6_of ml_X6_55 im_X6_of se_X6_of in_X6 rc_X6_of rfl (by decide) (by decide) ⟨by decide, rfl⟩ rfl rfl (Nat.le_of_ble_eq_true rfl) dX6_afresh_62 ?_
        refine j_if_ne F.1 72 dX6_afresh_65 (by decide) (fun h65 => ?_) (fun h65 => ?_)
        · refine j_aload_n F.1 dX6_afresh_72 rfl ?_
          refine j_iload_n F.1 dX6_afresh_73 rfl ?_
          refine j_callVi F (k_wantedBy hc10 hx hx10 hy hy10) co_X6_wantedBy ml_X6_153 im_X6_wantedBy se_X6_wantedBy in_X6 rc_X6_wantedBy rfl (by decide) (by decide) ⟨by decide, rfl⟩ rfl rfl (Nat.le_of_ble_eq_true rfl) dX6_afresh_74 ?_
          refine j_top (y := nI d) hwant ?_
          refine j_istore_n F.1 dX6_afresh_77 (by rw [hn]; decide) ?_
          refine j_iload_n F.1 dX6_afresh_78 rfl ?_
          refine j_if_ge F.1 100 dX6_afresh_79 (by decide) (fun h79 => ?_) (fun h79 => ?_)
          · refine j_aload_n F.1 dX6_afresh_100 rfl ?_
            refine j_getr F (k := 12) inX6 rfl (by decide) fl_X6_34 ⟨by decide, rfl⟩ rfl dX6_afresh_101 ?_
            refine j_iload_n F.1 dX6_afresh_104 rfl ?_
            refine j_iald F ⟨by decide, rfl⟩ rfl (by omega) (by decide) dX6_afresh_105 ?_
            refine j_iconst F.1 (1) dX6_afresh_106 (by decide) ?_
            refine j_icmp_ne F.1 112 dX6_afresh_107 (by decide) (fun h107 => ?_) (fun h107 => ?_)
            · refine j_aload_n F.1 dX6_afresh_112 rfl ?_
              refine j_getr F (k := 12) inX6 rfl (by decide) fl_X6_34 ⟨by decide, rfl⟩ rfl dX6_afresh_113 ?_
              refine j_iload_n F.1 dX6_afresh_116 rfl ?_
              refine j_iconst F.1 (1) dX6_afresh_117 (by decide) ?_
              refine j_iast F ⟨by decide, rfl⟩ rfl (by omega) (by decide) dX6_afresh_118 ?_
              refine j_aload_n F.1 dX6_afresh_119 rfl ?_
              refine j_getr F (k := 6) inX6 rfl (by decide) fl_X6_22 ⟨by decide, rfl⟩ rfl dX6_afresh_120 ?_
              refine j_aload_n F.1 dX6_afresh_123 rfl ?_
              refine j_geti F (k := 10) inX6 rfl (by decide) fl_X6_88 ⟨by decide, rfl⟩ rfl dX6_afresh_124 ?_
              refine j_iload_n F.1 dX6_afresh_127 rfl ?_
              refine j_iast F ⟨by decide, rfl⟩ (by rw [rcu_ne (by decide)]; exact hd) (by omega) (by decide) dX6_afresh_128 ?_
              refine j_aload_n F.1 dX6_afresh_129 rfl ?_
              refine j_dup F.1 dX6_afresh_130 rfl ?_
              refine j_geti F (k := 10) inX6 rfl (by decide) fl_X6_88 ⟨by decide, rfl⟩ rfl dX6_afresh_131 ?_
              refine j_iconst F.1 (1) dX6_afresh_134 (by decide) ?_
              refine j_iadd F.1 dX6_afresh_135 ?_
              refine j_top (y := nI (tp + 1 + 1)) (by rw [rcu_ne (by decide), rcu_ne (by decide), hd, nI_1]) ?_
              refine j_puti F (k := 10) inX6 tyX6_ok nmX6 rfl (by decide) fl_X6_88 rfl rfl ⟨by decide, rfl⟩ rfl dX6_afresh_136 ?_
              refine j_goto F.1 40 dX6_afresh_139 (by decide) ?_
              refine j_loc [(0, .ref (Y.2.1 0)), (1, .int (nI c0))] rfl ?_
              exact hH
            · exact absurd h107 h9
          · exact absurd (nI_pos' (by omega)) h79
        · exact absurd h65 h0
  have fin : rcJ shM 13 Y X (KA v c0) 40 [(0, .ref (Y.2.1 0)), (1, .int (nI c0))] [] (rcu (rcu (rcu (rcr v 9 (cp 10 (fun _ => 0) (v 9))) 0 10 1) 5 0 (nI c0)) 9 c0 1) := by
    generalize ew : rcu (rcu (rcu (rcr v 9 (cp 10 (fun _ => 0) (v 9))) 0 10 1) 5 0 (nI c0)) 9 c0 1 = w0
    have F0 : FrA v w0 := by
      subst ew
      refine ⟨fun id h0 h5 h9 h10 h11 => ?_, fun j h => ?_⟩
      · rw [rcu_ne h9, rcu_ne h5, rcu_ne h0, rcr_n h9]
      · rw [rcu_ne (by decide), rcu_ne (by decide), rcu_k h, rcr_n (by decide)]
    have e1 : w0 1 = v 1 := F0.1 1 (by decide) (by decide) (by decide) (by decide) (by decide)
    have e9 : ∀ i, i < 10 → w0 9 i = if i = c0 then 1 else 0 := fun i hi => by
      subst ew
      by_cases e : i = c0
      · subst e; rw [rcu_self, if_pos rfl]
      · rw [rcu_k e, rcu_ne (by decide), rcu_ne (by decide), rcr_s, cp_lt hi, if_neg e]
    have I0 : AI (v 1) w0 [c0] := by
      refine ⟨e1, ?_, ⟨?_, trivial⟩, ⟨List.nodup_cons.mpr ⟨List.not_mem_nil, List.nodup_nil⟩, fun o ho => by rw [List.mem_singleton.mp ho]; exact hc0⟩, ⟨fun o ho => (by cases ho), trivial⟩, fun i hi => ?_, fun i hi hn => ?_⟩
      · subst ew; rw [rcu_ne (by decide), rcu_ne (by decide), rcu_self]; rfl
      · subst ew; rw [rcu_ne (by decide)]; exact rcu_self
      · rw [List.mem_singleton.mp hi, e9 c0 hc0, if_pos rfl]
      · rw [e9 i hi, if_neg (fun e : i = c0 => hn (e ▸ List.mem_cons_self))]; exact Or.inl rfl
    refine VA_all hst hw 10 [] c0 w0 I0 (by decide) List.mem_cons_self (fun w fr hN => ?_) ?_
    · unfold KA; rw [EV_none hN]; exact ⟨F0.tr fr, rfl⟩
    · intro w fr hI h2 _
      obtain ⟨m, he⟩ : ∃ m, ev m (v 1) c0 = some (w 10 c0, w 11 c0) := by
        rcases hI.2.2.2.2.2.2 c0 hc0 List.not_mem_nil with z | z
        · exact absurd (h2.symm.trans z) (by decide)
        · exact z.2
      refine j_aload_n F.1 dX6_afresh_40 rfl ?_
      refine j_geti F (k := 10) inX6 rfl (by decide) fl_X6_88 ⟨by decide, rfl⟩ rfl dX6_afresh_41 ?_
      refine j_top (y := 0) (by rw [hI.2.1]; rfl) ?_
      refine j_if_le F.1 142 dX6_afresh_44 (by decide) (fun _ => ?_) (fun h44 => False.elim (by revert h44; decide))
      refine j_iconst F.1 (1) dX6_afresh_142 (by decide) ?_
      exact j_zret F (by first | exact Or.inl rfl | exact Or.inr rfl | exact b2_01 _) dX6_afresh_143 ((by unfold KA; rw [EV_some he]; exact ⟨F0.tr fr, rfl, rfl, rfl⟩))
  have loop : ∀ r t : Nat, t ≤ 10 → 10 < t + r → rcJ shM 13 Y X (KA v c0) 2 [(2, .int (nI (t))), (0, .ref (Y.2.1 0)), (1, .int (nI c0))] [] (rcr v 9 (cp (t) (fun _ => 0) (v 9))) := by
    intro r
    induction r with
    | zero => intro t ht hr; omega
    | succ r ih =>
      intro t ht hr
      refine j_iload_n F.1 dX6_afresh_2 rfl ?_
      refine j_bipush F.1 (10) dX6_afresh_3 (by decide) ?_
      refine j_icmp_ge F.1 21 dX6_afresh_5 (by decide) (fun h5 => ?_) (fun h5 => ?_)
      · have q5 : 10 ≤ t := (nI_leI (a := 10) (b := t) (by omega) (by omega)).mp h5
        refine j_aload_n F.1 dX6_afresh_21 rfl ?_
        refine j_iconst F.1 (1) dX6_afresh_22 (by decide) ?_
        refine j_puti F (k := 10) inX6 tyX6_ok nmX6 rfl (by decide) fl_X6_88 rfl rfl ⟨by decide, rfl⟩ rfl dX6_afresh_23 ?_
        refine j_aload_n F.1 dX6_afresh_26 rfl ?_
        refine j_getr F (k := 6) inX6 rfl (by decide) fl_X6_22 ⟨by decide, rfl⟩ rfl dX6_afresh_27 ?_
        refine j_iconst F.1 (0) dX6_afresh_30 (by decide) ?_
        refine j_iload_n F.1 dX6_afresh_31 rfl ?_
        refine j_iast F ⟨by decide, rfl⟩ rfl (by decide) (by decide) dX6_afresh_32 ?_
        refine j_aload_n F.1 dX6_afresh_33 rfl ?_
        refine j_getr F (k := 12) inX6 rfl (by decide) fl_X6_34 ⟨by decide, rfl⟩ rfl dX6_afresh_34 ?_
        refine j_iload_n F.1 dX6_afresh_37 rfl ?_
        refine j_iconst F.1 (1) dX6_afresh_38 (by decide) ?_
        refine j_iast F ⟨by decide, rfl⟩ rfl (by omega) (by decide) dX6_afresh_39 ?_
        refine j_loc [(0, .ref (Y.2.1 0)), (1, .int (nI c0))] rfl ?_
        rw [Nat.le_antisymm ht q5]
        exact fin
      · have q5 : t < 10 := Nat.lt_of_not_le (fun z => h5 ((nI_leI (a := 10) (b := t) (by omega) (by omega)).mpr z))
        refine j_aload_n F.1 dX6_afresh_8 rfl ?_
        refine j_getr F (k := 12) inX6 rfl (by decide) fl_X6_34 ⟨by decide, rfl⟩ rfl dX6_afresh_9 ?_
        refine j_iload_n F.1 dX6_afresh_12 rfl ?_
        refine j_iconst F.1 (0) dX6_afresh_13 (by decide) ?_
        refine j_iast F ⟨by decide, rfl⟩ rfl (by omega) (by decide) dX6_afresh_14 ?_
        refine j_iinc F.1 (1) dX6_afresh_15 (by decide) rfl (by rw [hn]; decide) ?_
        refine j_goto F.1 2 dX6_afresh_18 (by decide) ?_
        refine j_loc [(2, .int (nI (t + 1))), (0, .ref (Y.2.1 0)), (1, .int (nI c0))] (by rw [← nI_1]; rfl) ?_
        rw [rcu_r, rcr_rcr, rcr_s, show upd (cp t (fun _ => 0) (v 9)) t 0 = cp (t + 1) (fun _ => 0) (v 9) from cp_s (f := fun _ => 0)]
        exact ih (t + 1) (by omega) (by omega)
  refine j_iconst F.1 (0) dX6_afresh_0 (by decide) ?_
  refine j_istore_n F.1 dX6_afresh_1 (by rw [hn]; decide) ?_
  refine j_loc [(2, .int (nI (0))), (0, .ref (Y.2.1 0)), (1, .int (nI c0))] rfl ?_
  have e := loop 11 0 (by omega) (by omega)
  rw [cp_0, rcr_self] at e
  exact e
end
section
/-! The reference: what is asked afresh; counts; undo. -/
noncomputable def toldF (f : Nat → Int32) (c : Nat) : Int32 := match EV f c with
  | none => -2000000002
  | some q => if q.1 = 2000000000 then -2000000003 else q.1
def KT (v : rcM) (a : Int32) : Option Value → rcM → Prop := fun r u => r = some (.int a) ∧ FrA v u
theorem FrA.KQ {v u : rcM} {a : Int32} {n : Nat} (fr : FrA v u) (hn : v 0 3 = nI n) : KQ v (S_no a (v 1) (v 3) n) (some (.int a)) u :=
  KM_no (fr.1 1 (by decide) (by decide) (by decide) (by decide) (by decide)) (fr.1 3 (by decide) (by decide) (by decide) (by decide) (by decide)) (by rw [fr.2 3 (by decide)]; exact hn) (fr.1 4 (by decide) (by decide) (by decide) (by decide) (by decide)) (fr.2 5 (by decide))
theorem FrA.row {v u : rcM} (fr : FrA v u) : u 1 = v 1 := fr.1 1 (by decide) (by decide) (by decide) (by decide) (by decide)
set_option maxHeartbeats 4000000 in
set_option maxRecDepth 100000 in
theorem k_told {Y : rcY} {la : Launch} {v : rcM} {c0 : Nat} (hc0 : c0 < 10) (hw : WD (v 1)) : rcT shM 13 Y la 4 (yX6_told, cX6_told, 2, (some .int)) [.ref (Y.2.1 0), .int (nI c0)] (v) (KT v (toldF (v 1) c0)) := by
  refine rcT.of (by decide +kernel) (Nat.le_of_ble_eq_true rfl) (fun X F hn => ?_)
  refine j_aload_n F.1 dX6_told_0 rfl ?_
  refine j_iload_n F.1 dX6_told_1 rfl ?_
  refine j_callV F (k_afresh hc0 hw) co_X6_afresh ml_X6_159 im_X6_afresh se_X6_afresh in_X6 rc_X6_afresh rfl (by decide) (by decide) ⟨by decide, rfl⟩ rfl rfl (Nat.le_of_ble_eq_true rfl) dX6_told_2 (fun r u hr => ?_)
  obtain ⟨fr, hr⟩ := hr
  cases ea : EV (v 1) c0 with
  | none =>
    rw [ea] at hr
    subst hr
    refine j_tl ?_
    refine j_if_ne F.1 13 dX6_told_5 (by decide) (fun h5 => False.elim (by revert h5; decide)) (fun _ => ?_)
    refine j_ldc F cn_X6_146 dX6_told_8 ?_
    refine j_goto F.1 35 dX6_told_10 (by decide) ?_
    
    exact j_iret F dX6_told_35 ((by unfold toldF KT; rw [ea]; exact ⟨rfl, fr⟩))
  | some q =>
    rw [ea] at hr
    obtain ⟨rfl, h10, h11⟩ := hr
    refine j_tl ?_
    refine j_if_ne F.1 13 dX6_told_5 (by decide) (fun _ => ?_) (fun h5 => False.elim (by revert h5; decide))
    refine j_aload_n F.1 dX6_told_13 rfl ?_
    refine j_getr F (k := 13) inX6 rfl (by decide) fl_X6_37 ⟨by decide, rfl⟩ rfl dX6_told_14 ?_
    refine j_iload_n F.1 dX6_told_17 rfl ?_
    refine j_iald F ⟨by decide, rfl⟩ rfl (by omega) (by decide) dX6_told_18 ?_
    refine j_top (y := q.1) h10 ?_
    refine j_ldc F cn_X6_106 dX6_told_19 ?_
    refine j_icmp_ne F.1 29 dX6_told_21 (by decide) (fun h21 => ?_) (fun h21 => ?_)
    · refine j_aload_n F.1 dX6_told_29 rfl ?_
      refine j_getr F (k := 13) inX6 rfl (by decide) fl_X6_37 ⟨by decide, rfl⟩ rfl dX6_told_30 ?_
      refine j_iload_n F.1 dX6_told_33 rfl ?_
      refine j_iald F ⟨by decide, rfl⟩ rfl (by omega) (by decide) dX6_told_34 ?_
      
      exact j_iret F dX6_told_35 ((by unfold toldF KT; rw [ea]; dsimp only; first | (rw [if_pos h21]; exact ⟨rfl, fr⟩) | (rw [if_neg h21, h10]; exact ⟨rfl, fr⟩)))
    · refine j_ldc F cn_X6_162 dX6_told_24 ?_
      refine j_goto F.1 35 dX6_told_26 (by decide) ?_
      
      exact j_iret F dX6_told_35 ((by unfold toldF KT; rw [ea]; dsimp only; first | (rw [if_pos h21]; exact ⟨rfl, fr⟩) | (rw [if_neg h21, h10]; exact ⟨rfl, fr⟩)))
noncomputable def S_fresh (f : Nat → Int32) (c : Int32) : Int32 := if 0 ≤ c ∧ c ≤ 9 then toldF f (cN c) else -2000000001
noncomputable def one (f : Nat → Int32) (c : Nat) (w : Int32) : Int32 :=
  if w = 0 then b2 (0 < f (ix c 0)) else if w = 1 then b2 (f (ix c 6) = 1) else if w = 2 then b2 (f (ix c 6) = 1 ∧ f (ix c 9) = f 0)
  else if w = 3 then (match EV f c with | none => 1 | some _ => 0) else (match EV f c with | none => 0 | some q => b2 (q.1 = 2000000000))
noncomputable def whF (f : Nat → Int32) (w : Int32) : Nat → Int32
  | 0 => 0
  | k + 1 => whF f w k ||| (if one f k w = 0 then 0 else bitI (nI k))
noncomputable def S_which (f : Nat → Int32) (w : Int32) : Int32 := if 0 ≤ w ∧ w ≤ 4 then whF f w 10 else -2000000001
noncomputable def S_used (f : Nat → Int32) (c : Int32) : Int32 := if 0 ≤ c ∧ c ≤ 9 then (match EV f (cN c) with | none => -2000000002 | some q => q.2) else -2000000001
noncomputable def ubb (f : Nat → Int32) (c : Int32) (k : Nat) : Int32 := match EV f k with
  | none => 0
  | some q => if (q.2 >>> (c &&& 31)) &&& 1 = 1 then bitI (nI k) else 0
noncomputable def ubF (f : Nat → Int32) (c : Int32) : Nat → Int32
  | 0 => 0
  | k + 1 => ubF f c k ||| ubb f c k
noncomputable def S_usedBy (f : Nat → Int32) (c : Int32) : Int32 := if 0 ≤ c ∧ c ≤ 9 then ubF f c 10 else -2000000001
/-- the row in which a cell is a value for once -/
def A_as (f : Nat → Int32) (i : Nat) (x : Int32) : Nat → Int32 := upd (upd f (ix i 0) 0) (ix i 1) x
noncomputable def S_would (f : Nat → Int32) (c x a : Int32) : Int32 := if (0 ≤ c ∧ c ≤ 9) ∧ (-99999 ≤ x ∧ x ≤ 99999) ∧ (0 ≤ a ∧ a ≤ 9) then toldF (A_as f (cN c) x) (cN a) else -2000000001
set_option maxHeartbeats 4000000 in
set_option maxRecDepth 100000 in
theorem k_fresh {Y : rcY} {la : Launch} {v : rcM} {c : Int32} {n : Nat} (hn3 : v 0 3 = nI n) (hw : WD (v 1)) : rcT shM 13 Y la 5 (yX6_fresh, cX6_fresh, 2, (some .int)) [.ref (Y.2.1 0), .int c] (v) (KQ v (S_no (S_fresh (v 1) c) (v 1) (v 3) n)) := by
  refine rcT.of (by decide +kernel) (Nat.le_of_ble_eq_true rfl) (fun X F hn => ?_)
  refine j_iload_n F.1 dX6_fresh_0 rfl ?_
  refine j_callSi F (k_isCell) co_X6_isCell ml_X6_69 st_X6_isCell in_X6 rc_X6_isCell rfl (by decide) (by decide) rfl (Nat.le_of_ble_eq_true rfl) dX6_fresh_1 ?_
  refine j_if_eq F.1 15 dX6_fresh_4 (by decide) (fun h4 => ?_) (fun h4 => ?_)
  · rw [b2_0] at h4
    refine j_ldc F cn_X6_50 dX6_fresh_15 ?_
    exact j_iret F dX6_fresh_17 ((by unfold S_fresh; rw [if_neg h4]; exact FrA.rf.KQ hn3))
  · rw [b2_0, Classical.not_not] at h4
    obtain ⟨i, hi, rfl⟩ := cell_of h4
    refine j_aload_n F.1 dX6_fresh_7 rfl ?_
    refine j_iload_n F.1 dX6_fresh_8 rfl ?_
    refine j_callV F (k_told hi hw) co_X6_told ml_X6_163 im_X6_told se_X6_told in_X6 rc_X6_told rfl (by decide) (by decide) ⟨by decide, rfl⟩ rfl rfl (Nat.le_of_ble_eq_true rfl) dX6_fresh_9 (fun r u hr => ?_)
    obtain ⟨rfl, fr⟩ := hr
    refine j_tl ?_
    refine j_goto F.1 17 dX6_fresh_12 (by decide) ?_
    exact j_iret F dX6_fresh_17 ((by unfold S_fresh; rw [if_pos (nI_in9 hi), cN_nI hi]; exact fr.KQ hn3))
set_option maxHeartbeats 4000000 in
set_option maxRecDepth 100000 in
theorem k_isOne {Y : rcY} {la : Launch} {v : rcM} {c0 : Nat} {what : Int32} (hc0 : c0 < 10) (hw : WD (v 1)) : rcT shM 13 Y la 4 (yX6_isOne, cX6_isOne, 3, (some .boolean)) [.ref (Y.2.1 0), .int (nI c0), .int what] (v) (KT v (one (v 1) c0 what)) := by
  refine rcT.of (by decide +kernel) (Nat.le_of_ble_eq_true rfl) (fun X F hn => ?_)
  refine j_iload_n F.1 dX6_isOne_0 rfl ?_
  by_cases h1_0 : what = 0
  · refine j_tableIn F.1 32 dX6_isOne_1 (by rw [h1_0]; decide) (by rw [h1_0]; decide) (by rw [h1_0]; rfl) (by decide) ?_
    refine j_aload_n F.1 dX6_isOne_32 rfl ?_
    refine j_iload_n F.1 dX6_isOne_33 rfl ?_
    refine j_iconst F.1 (0) dX6_isOne_34 (by decide) ?_
    refine j_callVi F (k_of hc0 (by decide)) co_X6_of ml_X6_55 im_X6_of se_X6_of in_X6 rc_X6_of rfl (by decide) (by decide) ⟨by decide, rfl⟩ rfl rfl (Nat.le_of_ble_eq_true rfl) dX6_isOne_35 ?_
    refine j_if_le F.1 45 dX6_isOne_38 (by decide) (fun h38 => ?_) (fun h38 => ?_)
    · refine j_iconst F.1 (0) dX6_isOne_45 (by decide) ?_
      exact j_zret F (by first | exact Or.inl rfl | exact Or.inr rfl | exact b2_01 _) dX6_isOne_46 ((by unfold one KT; rw [if_pos h1_0]; first | (rw [b2_f (Int32.not_lt.mpr h38)]; exact ⟨rfl, FrA.rf⟩) | (rw [b2_t (Int32.not_le.mp h38)]; exact ⟨rfl, FrA.rf⟩)))
    · refine j_iconst F.1 (1) dX6_isOne_41 (by decide) ?_
      refine j_goto F.1 46 dX6_isOne_42 (by decide) ?_
      exact j_zret F (by first | exact Or.inl rfl | exact Or.inr rfl | exact b2_01 _) dX6_isOne_46 ((by unfold one KT; rw [if_pos h1_0]; first | (rw [b2_f (Int32.not_lt.mpr h38)]; exact ⟨rfl, FrA.rf⟩) | (rw [b2_t (Int32.not_le.mp h38)]; exact ⟨rfl, FrA.rf⟩)))
  by_cases h1_1 : what = 1
  · refine j_tableIn F.1 47 dX6_isOne_1 (by rw [h1_1]; decide) (by rw [h1_1]; decide) (by rw [h1_1]; rfl) (by decide) ?_
    refine j_aload_n F.1 dX6_isOne_47 rfl ?_
    refine j_iload_n F.1 dX6_isOne_48 rfl ?_
    refine j_bipush F.1 (6) dX6_isOne_49 (by decide) ?_
    refine j_callVi F (k_of hc0 (by decide)) co_X6_of ml_X6_55 im_X6_of se_X6_of in_X6 rc_X6_of rfl (by decide) (by decide) ⟨by decide, rfl⟩ rfl rfl (Nat.le_of_ble_eq_true rfl) dX6_isOne_51 ?_
    refine j_iconst F.1 (1) dX6_isOne_54 (by decide) ?_
    refine j_icmp_ne F.1 62 dX6_isOne_55 (by decide) (fun h55 => ?_) (fun h55 => ?_)
    · refine j_iconst F.1 (0) dX6_isOne_62 (by decide) ?_
      exact j_zret F (by first | exact Or.inl rfl | exact Or.inr rfl | exact b2_01 _) dX6_isOne_63 ((by unfold one KT; rw [if_neg h1_0, if_pos h1_1]; first | (rw [b2_f h55]; exact ⟨rfl, FrA.rf⟩) | (rw [b2_t h55]; exact ⟨rfl, FrA.rf⟩)))
    · refine j_iconst F.1 (1) dX6_isOne_58 (by decide) ?_
      refine j_goto F.1 63 dX6_isOne_59 (by decide) ?_
      exact j_zret F (by first | exact Or.inl rfl | exact Or.inr rfl | exact b2_01 _) dX6_isOne_63 ((by unfold one KT; rw [if_neg h1_0, if_pos h1_1]; first | (rw [b2_f h55]; exact ⟨rfl, FrA.rf⟩) | (rw [b2_t h55]; exact ⟨rfl, FrA.rf⟩)))
  by_cases h1_2 : what = 2
  · refine j_tableIn F.1 64 dX6_isOne_1 (by rw [h1_2]; decide) (by rw [h1_2]; decide) (by rw [h1_2]; rfl) (by decide) ?_
    refine j_aload_n F.1 dX6_isOne_64 rfl ?_
    refine j_iload_n F.1 dX6_isOne_65 rfl ?_
    refine j_bipush F.1 (6) dX6_isOne_66 (by decide) ?_
    refine j_callVi F (k_of hc0 (by decide)) co_X6_of ml_X6_55 im_X6_of se_X6_of in_X6 rc_X6_of rfl (by decide) (by decide) ⟨by decide, rfl⟩ rfl rfl (Nat.le_of_ble_eq_true rfl) dX6_isOne_68 ?_
    refine j_iconst F.1 (1) dX6_isOne_71 (by decide) ?_
    refine j_icmp_ne F.1 95 dX6_isOne_72 (by decide) (fun h72 => ?_) (fun h72 => ?_)
    · have hs : ¬ (v 1 (ix c0 6) = 1 ∧ v 1 (ix c0 9) = v 1 0) := fun q => h72 q.1
      refine j_iconst F.1 (0) dX6_isOne_95 (by decide) ?_
      exact j_zret F (by first | exact Or.inl rfl | exact Or.inr rfl | exact b2_01 _) dX6_isOne_96 ((by unfold one KT; rw [if_neg h1_0, if_neg h1_1, if_pos h1_2]; first | (rw [b2_f hs]; exact ⟨rfl, FrA.rf⟩) | (rw [b2_t hs]; exact ⟨rfl, FrA.rf⟩)))
    · refine j_aload_n F.1 dX6_isOne_75 rfl ?_
      refine j_iload_n F.1 dX6_isOne_76 rfl ?_
      refine j_bipush F.1 (9) dX6_isOne_77 (by decide) ?_
      refine j_callVi F (k_of hc0 (by decide)) co_X6_of ml_X6_55 im_X6_of se_X6_of in_X6 rc_X6_of rfl (by decide) (by decide) ⟨by decide, rfl⟩ rfl rfl (Nat.le_of_ble_eq_true rfl) dX6_isOne_79 ?_
      refine j_aload_n F.1 dX6_isOne_82 rfl ?_
      refine j_getr F (k := 0) inX6 rfl (by decide) fl_X6_7 ⟨by decide, rfl⟩ rfl dX6_isOne_83 ?_
      refine j_iconst F.1 (0) dX6_isOne_86 (by decide) ?_
      refine j_iald F ⟨by decide, rfl⟩ rfl (by decide) (by decide) dX6_isOne_87 ?_
      refine j_icmp_ne F.1 95 dX6_isOne_88 (by decide) (fun h88 => ?_) (fun h88 => ?_)
      · have hs : ¬ (v 1 (ix c0 6) = 1 ∧ v 1 (ix c0 9) = v 1 0) := fun q => h88 q.2
        refine j_iconst F.1 (0) dX6_isOne_95 (by decide) ?_
        exact j_zret F (by first | exact Or.inl rfl | exact Or.inr rfl | exact b2_01 _) dX6_isOne_96 ((by unfold one KT; rw [if_neg h1_0, if_neg h1_1, if_pos h1_2]; first | (rw [b2_f hs]; exact ⟨rfl, FrA.rf⟩) | (rw [b2_t hs]; exact ⟨rfl, FrA.rf⟩)))
      · have hs : v 1 (ix c0 6) = 1 ∧ v 1 (ix c0 9) = v 1 0 := ⟨h72, h88⟩
        refine j_iconst F.1 (1) dX6_isOne_91 (by decide) ?_
        refine j_goto F.1 96 dX6_isOne_92 (by decide) ?_
        exact j_zret F (by first | exact Or.inl rfl | exact Or.inr rfl | exact b2_01 _) dX6_isOne_96 ((by unfold one KT; rw [if_neg h1_0, if_neg h1_1, if_pos h1_2]; first | (rw [b2_f hs]; exact ⟨rfl, FrA.rf⟩) | (rw [b2_t hs]; exact ⟨rfl, FrA.rf⟩)))
  by_cases h1_3 : what = 3
  · refine j_tableIn F.1 97 dX6_isOne_1 (by rw [h1_3]; decide) (by rw [h1_3]; decide) (by rw [h1_3]; rfl) (by decide) ?_
    refine j_aload_n F.1 dX6_isOne_97 rfl ?_
    refine j_iload_n F.1 dX6_isOne_98 rfl ?_
    refine j_callV F (k_afresh hc0 hw) co_X6_afresh ml_X6_159 im_X6_afresh se_X6_afresh in_X6 rc_X6_afresh rfl (by decide) (by decide) ⟨by decide, rfl⟩ rfl rfl (Nat.le_of_ble_eq_true rfl) dX6_isOne_99 (fun r u hr => ?_)
    obtain ⟨fr, hr⟩ := hr
    cases ea : EV (v 1) c0 with
    | none =>
      rw [ea] at hr
      subst hr
      refine j_tl ?_
      refine j_if_ne F.1 109 dX6_isOne_102 (by decide) (fun h102 => False.elim (by revert h102; decide)) (fun _ => ?_)
      refine j_iconst F.1 (1) dX6_isOne_105 (by decide) ?_
      refine j_goto F.1 110 dX6_isOne_106 (by decide) ?_
      exact j_zret F (by first | exact Or.inl rfl | exact Or.inr rfl | exact b2_01 _) dX6_isOne_110 ((by unfold one KT; rw [if_neg h1_0, if_neg h1_1, if_neg h1_2, if_pos h1_3, ea]; exact ⟨rfl, fr⟩))
    | some q =>
      rw [ea] at hr
      obtain ⟨rfl, h10, h11⟩ := hr
      refine j_tl ?_
      refine j_if_ne F.1 109 dX6_isOne_102 (by decide) (fun _ => ?_) (fun h102 => False.elim (by revert h102; decide))
      refine j_iconst F.1 (0) dX6_isOne_109 (by decide) ?_
      exact j_zret F (by first | exact Or.inl rfl | exact Or.inr rfl | exact b2_01 _) dX6_isOne_110 ((by unfold one KT; rw [if_neg h1_0, if_neg h1_1, if_neg h1_2, if_pos h1_3, ea]; exact ⟨rfl, fr⟩))
  refine j_tableOut F.1 111 dX6_isOne_1 (by have a0 : (what).toInt ≠ 0 := fun z => h1_0 (Int32.toInt_inj.mp (by rw [z]; rfl)); have a1 : (what).toInt ≠ 1 := fun z => h1_1 (Int32.toInt_inj.mp (by rw [z]; rfl)); have a2 : (what).toInt ≠ 2 := fun z => h1_2 (Int32.toInt_inj.mp (by rw [z]; rfl)); have a3 : (what).toInt ≠ 3 := fun z => h1_3 (Int32.toInt_inj.mp (by rw [z]; rfl)); omega) (by decide) ?_
  refine j_aload_n F.1 dX6_isOne_111 rfl ?_
  refine j_iload_n F.1 dX6_isOne_112 rfl ?_
  refine j_callV F (k_afresh hc0 hw) co_X6_afresh ml_X6_159 im_X6_afresh se_X6_afresh in_X6 rc_X6_afresh rfl (by decide) (by decide) ⟨by decide, rfl⟩ rfl rfl (Nat.le_of_ble_eq_true rfl) dX6_isOne_113 (fun r u hr => ?_)
  obtain ⟨fr, hr⟩ := hr
  cases ea : EV (v 1) c0 with
  | none =>
    rw [ea] at hr
    subst hr
    refine j_tl ?_
    refine j_if_eq F.1 134 dX6_isOne_116 (by decide) (fun _ => ?_) (fun h116 => False.elim (by revert h116; decide))
    refine j_iconst F.1 (0) dX6_isOne_134 (by decide) ?_
    exact j_zret F (by first | exact Or.inl rfl | exact Or.inr rfl | exact b2_01 _) dX6_isOne_135 ((by unfold one KT; rw [if_neg h1_0, if_neg h1_1, if_neg h1_2, if_neg h1_3, ea]; exact ⟨rfl, fr⟩))
  | some q =>
    rw [ea] at hr
    obtain ⟨rfl, h10, h11⟩ := hr
    refine j_tl ?_
    refine j_if_eq F.1 134 dX6_isOne_116 (by decide) (fun h116 => False.elim (by revert h116; decide)) (fun _ => ?_)
    refine j_aload_n F.1 dX6_isOne_119 rfl ?_
    refine j_getr F (k := 13) inX6 rfl (by decide) fl_X6_37 ⟨by decide, rfl⟩ rfl dX6_isOne_120 ?_
    refine j_iload_n F.1 dX6_isOne_123 rfl ?_
    refine j_iald F ⟨by decide, rfl⟩ rfl (by omega) (by decide) dX6_isOne_124 ?_
    refine j_top (y := q.1) h10 ?_
    refine j_ldc F cn_X6_106 dX6_isOne_125 ?_
    refine j_icmp_ne F.1 134 dX6_isOne_127 (by decide) (fun h127 => ?_) (fun h127 => ?_)
    · refine j_iconst F.1 (0) dX6_isOne_134 (by decide) ?_
      exact j_zret F (by first | exact Or.inl rfl | exact Or.inr rfl | exact b2_01 _) dX6_isOne_135 ((by unfold one KT; rw [if_neg h1_0, if_neg h1_1, if_neg h1_2, if_neg h1_3, ea]; dsimp only; first | (rw [b2_f h127]; exact ⟨rfl, fr⟩) | (rw [b2_t h127]; exact ⟨rfl, fr⟩)))
    · refine j_iconst F.1 (1) dX6_isOne_130 (by decide) ?_
      refine j_goto F.1 135 dX6_isOne_131 (by decide) ?_
      exact j_zret F (by first | exact Or.inl rfl | exact Or.inr rfl | exact b2_01 _) dX6_isOne_135 ((by unfold one KT; rw [if_neg h1_0, if_neg h1_1, if_neg h1_2, if_neg h1_3, ea]; dsimp only; first | (rw [b2_f h127]; exact ⟨rfl, fr⟩) | (rw [b2_t h127]; exact ⟨rfl, fr⟩)))
set_option maxHeartbeats 4000000 in
set_option maxRecDepth 100000 in
theorem k_which {Y : rcY} {la : Launch} {v : rcM} {what : Int32} {n : Nat} (hn3 : v 0 3 = nI n) (hw : WD (v 1)) : rcT shM 13 Y la 5 (yX6_which, cX6_which, 4, (some .int)) [.ref (Y.2.1 0), .int what] (v) (KQ v (S_no (S_which (v 1) what) (v 1) (v 3) n)) := by
  refine rcT.of (by decide +kernel) (Nat.le_of_ble_eq_true rfl) (fun X F hn => ?_)
  have loop : 0 ≤ what ∧ what ≤ 4 → ∀ r t : Nat, t ≤ 10 → 10 < t + r → (∀ w, FrA v w → rcJ shM 13 Y X (KQ v (S_no (S_which (v 1) what) (v 1) (v 3) n)) 16 [(3, .int (nI (t))), (2, .int (whF (v 1) what (t))), (0, .ref (Y.2.1 0)), (1, .int what)] [] w) := by
    intro h6 r
    induction r with
    | zero => intro t ht hr; omega
    | succ r ih =>
      intro t ht hr w frw
      refine j_iload_n F.1 dX6_which_16 rfl ?_
      refine j_bipush F.1 (10) dX6_which_17 (by decide) ?_
      refine j_icmp_ge F.1 47 dX6_which_19 (by decide) (fun h19 => ?_) (fun h19 => ?_)
      · have q19 : 10 ≤ t := (nI_leI (a := 10) (b := t) (by omega) (by omega)).mp h19
        refine j_iload_n F.1 dX6_which_47 rfl ?_
        exact j_iret F dX6_which_48 ((by rw [Nat.le_antisymm ht q19]; unfold S_which; rw [if_pos h6]; exact frw.KQ hn3))
      · have q19 : t < 10 := Nat.lt_of_not_le (fun z => h19 ((nI_leI (a := 10) (b := t) (by omega) (by omega)).mpr z))
        refine j_iload_n F.1 dX6_which_22 rfl ?_
        refine j_aload_n F.1 dX6_which_23 rfl ?_
        refine j_iload_n F.1 dX6_which_24 rfl ?_
        refine j_iload_n F.1 dX6_which_25 rfl ?_
        refine j_callV F (k_isOne (by omega) (by rw [frw.row]; exact hw)) co_X6_isOne ml_X6_166 im_X6_isOne se_X6_isOne in_X6 rc_X6_isOne rfl (by decide) (by decide) ⟨by decide, rfl⟩ rfl rfl (Nat.le_of_ble_eq_true rfl) dX6_which_26 (fun r u hr => ?_)
        obtain ⟨rfl, fr⟩ := hr
        rw [frw.row]
        refine j_tl ?_
        refine j_if_eq F.1 38 dX6_which_29 (by decide) (fun h29 => ?_) (fun h29 => ?_)
        · have ho : one (v 1) t what = 0 := h29
          refine j_iconst F.1 (0) dX6_which_38 (by decide) ?_
          refine j_ior F.1 dX6_which_39 ?_
          refine j_top (y := whF (v 1) what (t + 1)) (by first | exact congrArg (fun z => whF (v 1) what t ||| z) (if_pos ho).symm | exact congrArg (fun z => whF (v 1) what t ||| z) (if_neg ho).symm) ?_
          refine j_istore_n F.1 dX6_which_40 (by rw [hn]; decide) ?_
          refine j_iinc F.1 (1) dX6_which_41 (by decide) rfl (by rw [hn]; decide) ?_
          refine j_goto F.1 16 dX6_which_44 (by decide) ?_
          refine j_loc [(3, .int (nI (t + 1))), (2, .int (whF (v 1) what (t + 1))), (0, .ref (Y.2.1 0)), (1, .int what)] (by rw [← nI_1]; rfl) ?_
          exact ih (t + 1) (by omega) (by omega) u (frw.tr fr)
        · have ho : ¬ one (v 1) t what = 0 := h29
          refine j_iconst F.1 (1) dX6_which_32 (by decide) ?_
          refine j_iload_n F.1 dX6_which_33 rfl ?_
          refine j_ishl F.1 dX6_which_34 ?_
          refine j_goto F.1 39 dX6_which_35 (by decide) ?_
          refine j_ior F.1 dX6_which_39 ?_
          refine j_top (y := whF (v 1) what (t + 1)) (by first | exact congrArg (fun z => whF (v 1) what t ||| z) (if_pos ho).symm | exact congrArg (fun z => whF (v 1) what t ||| z) (if_neg ho).symm) ?_
          refine j_istore_n F.1 dX6_which_40 (by rw [hn]; decide) ?_
          refine j_iinc F.1 (1) dX6_which_41 (by decide) rfl (by rw [hn]; decide) ?_
          refine j_goto F.1 16 dX6_which_44 (by decide) ?_
          refine j_loc [(3, .int (nI (t + 1))), (2, .int (whF (v 1) what (t + 1))), (0, .ref (Y.2.1 0)), (1, .int what)] (by rw [← nI_1]; rfl) ?_
          exact ih (t + 1) (by omega) (by omega) u (frw.tr fr)
  refine j_iload_n F.1 dX6_which_0 rfl ?_
  refine j_iconst F.1 (0) dX6_which_1 (by decide) ?_
  refine j_iconst F.1 (4) dX6_which_2 (by decide) ?_
  refine j_callSi F (k_in) co_X6_in ml_X6_46 st_X6_in in_X6 rc_X6_in rfl (by decide) (by decide) rfl (Nat.le_of_ble_eq_true rfl) dX6_which_3 ?_
  refine j_if_ne F.1 12 dX6_which_6 (by decide) (fun h6 => ?_) (fun h6 => ?_)
  · rw [b2_0, Classical.not_not] at h6
    refine j_iconst F.1 (0) dX6_which_12 (by decide) ?_
    refine j_istore_n F.1 dX6_which_13 (by rw [hn]; decide) ?_
    refine j_iconst F.1 (0) dX6_which_14 (by decide) ?_
    refine j_istore_n F.1 dX6_which_15 (by rw [hn]; decide) ?_
    refine j_loc [(3, .int (nI (0))), (2, .int (whF (v 1) what (0))), (0, .ref (Y.2.1 0)), (1, .int what)] rfl ?_
    exact loop h6 11 0 (by omega) (by omega) v FrA.rf
  · rw [b2_0] at h6
    refine j_ldc F cn_X6_50 dX6_which_9 ?_
    exact j_iret F dX6_which_11 ((by unfold S_which; rw [if_neg h6]; exact FrA.rf.KQ hn3))
set_option maxHeartbeats 4000000 in
set_option maxRecDepth 100000 in
theorem k_used {Y : rcY} {la : Launch} {v : rcM} {c : Int32} {n : Nat} (hn3 : v 0 3 = nI n) (hw : WD (v 1)) : rcT shM 13 Y la 4 (yX6_used, cX6_used, 2, (some .int)) [.ref (Y.2.1 0), .int c] (v) (KQ v (S_no (S_used (v 1) c) (v 1) (v 3) n)) := by
  refine rcT.of (by decide +kernel) (Nat.le_of_ble_eq_true rfl) (fun X F hn => ?_)
  refine j_iload_n F.1 dX6_used_0 rfl ?_
  refine j_callSi F (k_isCell) co_X6_isCell ml_X6_69 st_X6_isCell in_X6 rc_X6_isCell rfl (by decide) (by decide) rfl (Nat.le_of_ble_eq_true rfl) dX6_used_1 ?_
  refine j_if_ne F.1 10 dX6_used_4 (by decide) (fun h4 => ?_) (fun h4 => ?_)
  · rw [b2_0, Classical.not_not] at h4
    obtain ⟨i, hi, rfl⟩ := cell_of h4
    refine j_aload_n F.1 dX6_used_10 rfl ?_
    refine j_iload_n F.1 dX6_used_11 rfl ?_
    refine j_callV F (k_afresh hi hw) co_X6_afresh ml_X6_159 im_X6_afresh se_X6_afresh in_X6 rc_X6_afresh rfl (by decide) (by decide) ⟨by decide, rfl⟩ rfl rfl (Nat.le_of_ble_eq_true rfl) dX6_used_12 (fun r u hr => ?_)
    obtain ⟨fr, hr⟩ := hr
    cases ea : EV (v 1) i with
    | none =>
      rw [ea] at hr
      subst hr
      refine j_tl ?_
      refine j_if_eq F.1 27 dX6_used_15 (by decide) (fun _ => ?_) (fun h15 => False.elim (by revert h15; decide))
      refine j_ldc F cn_X6_146 dX6_used_27 ?_
      exact j_iret F dX6_used_29 ((by unfold S_used; rw [if_pos (nI_in9 hi), cN_nI hi, ea]; exact fr.KQ hn3))
    | some q =>
      rw [ea] at hr
      obtain ⟨rfl, h10, h11⟩ := hr
      refine j_tl ?_
      refine j_if_eq F.1 27 dX6_used_15 (by decide) (fun h15 => False.elim (by revert h15; decide)) (fun _ => ?_)
      refine j_aload_n F.1 dX6_used_18 rfl ?_
      refine j_getr F (k := 14) inX6 rfl (by decide) fl_X6_40 ⟨by decide, rfl⟩ rfl dX6_used_19 ?_
      refine j_iload_n F.1 dX6_used_22 rfl ?_
      refine j_iald F ⟨by decide, rfl⟩ rfl (by omega) (by decide) dX6_used_23 ?_
      refine j_top (y := q.2) h11 ?_
      refine j_goto F.1 29 dX6_used_24 (by decide) ?_
      exact j_iret F dX6_used_29 ((by unfold S_used; rw [if_pos (nI_in9 hi), cN_nI hi, ea]; exact fr.KQ hn3))
  · rw [b2_0] at h4
    refine j_ldc F cn_X6_50 dX6_used_7 ?_
    exact j_iret F dX6_used_9 ((by unfold S_used; rw [if_neg h4]; exact FrA.rf.KQ hn3))
set_option maxHeartbeats 4000000 in
set_option maxRecDepth 100000 in
theorem k_usedBy {Y : rcY} {la : Launch} {v : rcM} {c : Int32} {n : Nat} (hn3 : v 0 3 = nI n) (hw : WD (v 1)) : rcT shM 13 Y la 4 (yX6_usedBy, cX6_usedBy, 4, (some .int)) [.ref (Y.2.1 0), .int c] (v) (KQ v (S_no (S_usedBy (v 1) c) (v 1) (v 3) n)) := by
  refine rcT.of (by decide +kernel) (Nat.le_of_ble_eq_true rfl) (fun X F hn => ?_)
  have loop : 0 ≤ c ∧ c ≤ 9 → ∀ r t : Nat, t ≤ 10 → 10 < t + r → (∀ w, FrA v w → rcJ shM 13 Y X (KQ v (S_no (S_usedBy (v 1) c) (v 1) (v 3) n)) 14 [(3, .int (nI (t))), (2, .int (ubF (v 1) c (t))), (0, .ref (Y.2.1 0)), (1, .int c)] [] w) := by
    intro h4 r
    induction r with
    | zero => intro t ht hr; omega
    | succ r ih =>
      intro t ht hr w frw
      refine j_iload_n F.1 dX6_usedBy_14 rfl ?_
      refine j_bipush F.1 (10) dX6_usedBy_15 (by decide) ?_
      refine j_icmp_ge F.1 58 dX6_usedBy_17 (by decide) (fun h17 => ?_) (fun h17 => ?_)
      · have q17 : 10 ≤ t := (nI_leI (a := 10) (b := t) (by omega) (by omega)).mp h17
        refine j_iload_n F.1 dX6_usedBy_58 rfl ?_
        exact j_iret F dX6_usedBy_59 ((by rw [Nat.le_antisymm ht q17]; unfold S_usedBy; rw [if_pos h4]; exact frw.KQ hn3))
      · have q17 : t < 10 := Nat.lt_of_not_le (fun z => h17 ((nI_leI (a := 10) (b := t) (by omega) (by omega)).mpr z))
        refine j_iload_n F.1 dX6_usedBy_20 rfl ?_
        refine j_aload_n F.1 dX6_usedBy_21 rfl ?_
        refine j_iload_n F.1 dX6_usedBy_22 rfl ?_
        refine j_callV F (k_afresh (by omega) (by rw [frw.row]; exact hw)) co_X6_afresh ml_X6_159 im_X6_afresh se_X6_afresh in_X6 rc_X6_afresh rfl (by decide) (by decide) ⟨by decide, rfl⟩ rfl rfl (Nat.le_of_ble_eq_true rfl) dX6_usedBy_23 (fun r u hr => ?_)
        obtain ⟨fr, hr⟩ := hr
        rw [frw.row] at hr
        cases ea : EV (v 1) t with
        | none =>
          rw [ea] at hr
          subst hr
          refine j_tl ?_
          have ho : ubb (v 1) c t = 0 := by unfold ubb; rw [ea]
          refine j_if_eq F.1 49 dX6_usedBy_26 (by decide) (fun _ => ?_) (fun h26 => False.elim (by revert h26; decide))
          refine j_iconst F.1 (0) dX6_usedBy_49 (by decide) ?_
          refine j_ior F.1 dX6_usedBy_50 ?_
          refine j_top (y := ubF (v 1) c (t + 1)) (congrArg (fun z => ubF (v 1) c t ||| z) ho.symm) ?_
          refine j_istore_n F.1 dX6_usedBy_51 (by rw [hn]; decide) ?_
          refine j_iinc F.1 (1) dX6_usedBy_52 (by decide) rfl (by rw [hn]; decide) ?_
          refine j_goto F.1 14 dX6_usedBy_55 (by decide) ?_
          refine j_loc [(3, .int (nI (t + 1))), (2, .int (ubF (v 1) c (t + 1))), (0, .ref (Y.2.1 0)), (1, .int c)] (by rw [← nI_1]; rfl) ?_
          exact ih (t + 1) (by omega) (by omega) u (frw.tr fr)
        | some q =>
          rw [ea] at hr
          obtain ⟨rfl, h10, h11⟩ := hr
          refine j_tl ?_
          refine j_if_eq F.1 49 dX6_usedBy_26 (by decide) (fun h26 => False.elim (by revert h26; decide)) (fun _ => ?_)
          refine j_aload_n F.1 dX6_usedBy_29 rfl ?_
          refine j_getr F (k := 14) inX6 rfl (by decide) fl_X6_40 ⟨by decide, rfl⟩ rfl dX6_usedBy_30 ?_
          refine j_iload_n F.1 dX6_usedBy_33 rfl ?_
          refine j_iald F ⟨by decide, rfl⟩ rfl (by omega) (by decide) dX6_usedBy_34 ?_
          refine j_top (y := q.2) h11 ?_
          refine j_iload_n F.1 dX6_usedBy_35 rfl ?_
          refine j_ishr F.1 dX6_usedBy_36 ?_
          refine j_iconst F.1 (1) dX6_usedBy_37 (by decide) ?_
          refine j_iand F.1 dX6_usedBy_38 ?_
          refine j_iconst F.1 (1) dX6_usedBy_39 (by decide) ?_
          refine j_icmp_ne F.1 49 dX6_usedBy_40 (by decide) (fun h40 => ?_) (fun h40 => ?_)
          · have ho : ubb (v 1) c t = 0 := by unfold ubb; rw [ea]; exact if_neg h40
            refine j_iconst F.1 (0) dX6_usedBy_49 (by decide) ?_
            refine j_ior F.1 dX6_usedBy_50 ?_
            refine j_top (y := ubF (v 1) c (t + 1)) (congrArg (fun z => ubF (v 1) c t ||| z) ho.symm) ?_
            refine j_istore_n F.1 dX6_usedBy_51 (by rw [hn]; decide) ?_
            refine j_iinc F.1 (1) dX6_usedBy_52 (by decide) rfl (by rw [hn]; decide) ?_
            refine j_goto F.1 14 dX6_usedBy_55 (by decide) ?_
            refine j_loc [(3, .int (nI (t + 1))), (2, .int (ubF (v 1) c (t + 1))), (0, .ref (Y.2.1 0)), (1, .int c)] (by rw [← nI_1]; rfl) ?_
            exact ih (t + 1) (by omega) (by omega) u (frw.tr fr)
          · have ho : ubb (v 1) c t = bitI (nI t) := by unfold ubb; rw [ea]; exact if_pos h40
            refine j_iconst F.1 (1) dX6_usedBy_43 (by decide) ?_
            refine j_iload_n F.1 dX6_usedBy_44 rfl ?_
            refine j_ishl F.1 dX6_usedBy_45 ?_
            refine j_goto F.1 50 dX6_usedBy_46 (by decide) ?_
            refine j_ior F.1 dX6_usedBy_50 ?_
            refine j_top (y := ubF (v 1) c (t + 1)) (congrArg (fun z => ubF (v 1) c t ||| z) ho.symm) ?_
            refine j_istore_n F.1 dX6_usedBy_51 (by rw [hn]; decide) ?_
            refine j_iinc F.1 (1) dX6_usedBy_52 (by decide) rfl (by rw [hn]; decide) ?_
            refine j_goto F.1 14 dX6_usedBy_55 (by decide) ?_
            refine j_loc [(3, .int (nI (t + 1))), (2, .int (ubF (v 1) c (t + 1))), (0, .ref (Y.2.1 0)), (1, .int c)] (by rw [← nI_1]; rfl) ?_
            exact ih (t + 1) (by omega) (by omega) u (frw.tr fr)
  refine j_iload_n F.1 dX6_usedBy_0 rfl ?_
  refine j_callSi F (k_isCell) co_X6_isCell ml_X6_69 st_X6_isCell in_X6 rc_X6_isCell rfl (by decide) (by decide) rfl (Nat.le_of_ble_eq_true rfl) dX6_usedBy_1 ?_
  refine j_if_ne F.1 10 dX6_usedBy_4 (by decide) (fun h4 => ?_) (fun h4 => ?_)
  · rw [b2_0, Classical.not_not] at h4
    refine j_iconst F.1 (0) dX6_usedBy_10 (by decide) ?_
    refine j_istore_n F.1 dX6_usedBy_11 (by rw [hn]; decide) ?_
    refine j_iconst F.1 (0) dX6_usedBy_12 (by decide) ?_
    refine j_istore_n F.1 dX6_usedBy_13 (by rw [hn]; decide) ?_
    refine j_loc [(3, .int (nI (0))), (2, .int (ubF (v 1) c (0))), (0, .ref (Y.2.1 0)), (1, .int c)] rfl ?_
    exact loop h4 11 0 (by omega) (by omega) v FrA.rf
  · rw [b2_0] at h4
    refine j_ldc F cn_X6_50 dX6_usedBy_7 ?_
    exact j_iret F dX6_usedBy_9 ((by unfold S_usedBy; rw [if_neg h4]; exact FrA.rf.KQ hn3))
end
