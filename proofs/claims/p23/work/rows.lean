section
-- ===== PART A: goes FIRST, ahead of the names: the tables' words, and 'selects' of the private methods out of them =====
/-- a private method of a class that the tables say can be made, by its rows of tables_1 -/
def lw_okq (q : MethodName × Nat) : Prop := (q.1.cls ≠ "java/lang/invoke/MethodHandle" ∧ q.1.cls ≠ "java/lang/invoke/VarHandle") ∧ Cond.instantiable q.1.cls q.2 ∈ tables_1 ∧ Cond.privateMethod q.1 ∈ tables_1 ∧ Cond.instanceMethod q.1 ∈ tables_1
theorem lw_p0 : lw_okq (⟨"LetterSums$Page", "append", "(JI)V"⟩, 2) := ⟨⟨by decide +kernel, by decide +kernel⟩, List.mem_of_getElem? (i := 28) (by decide +kernel), List.mem_of_getElem? (i := 351) (by decide +kernel), List.mem_of_getElem? (i := 352) (by decide +kernel)⟩
theorem lw_p1 : lw_okq (⟨"LetterSums$Mason", "meet", "(LLetterSums$Custom;I)V"⟩, 3) := ⟨⟨by decide +kernel, by decide +kernel⟩, List.mem_of_getElem? (i := 287) (by decide +kernel), List.mem_of_getElem? (i := 487) (by decide +kernel), List.mem_of_getElem? (i := 488) (by decide +kernel)⟩
theorem lw_p2 : lw_okq (⟨"LetterSums$Custom", "allows", "(LLetterSums$Row;)Z"⟩, 3) := ⟨⟨by decide +kernel, by decide +kernel⟩, List.mem_of_getElem? (i := 110) (by decide +kernel), List.mem_of_getElem? (i := 491) (by decide +kernel), List.mem_of_getElem? (i := 492) (by decide +kernel)⟩
theorem lw_p3 : lw_okq (⟨"LetterSums$Custom", "after", "(II)I"⟩, 3) := ⟨⟨by decide +kernel, by decide +kernel⟩, List.mem_of_getElem? (i := 110) (by decide +kernel), List.mem_of_getElem? (i := 495) (by decide +kernel), List.mem_of_getElem? (i := 496) (by decide +kernel)⟩
theorem lw_p4 : lw_okq (⟨"LetterSums$Custom", "leaveOpen", "(III)I"⟩, 3) := ⟨⟨by decide +kernel, by decide +kernel⟩, List.mem_of_getElem? (i := 110) (by decide +kernel), List.mem_of_getElem? (i := 502) (by decide +kernel), List.mem_of_getElem? (i := 503) (by decide +kernel)⟩
theorem lw_p5 : lw_okq (⟨"LetterSums$Custom", "closeTaking", "(II)I"⟩, 3) := ⟨⟨by decide +kernel, by decide +kernel⟩, List.mem_of_getElem? (i := 110) (by decide +kernel), List.mem_of_getElem? (i := 515) (by decide +kernel), List.mem_of_getElem? (i := 516) (by decide +kernel)⟩
theorem lw_p6 : lw_okq (⟨"LetterSums$Custom", "mayTakeOnce", "(II)Z"⟩, 3) := ⟨⟨by decide +kernel, by decide +kernel⟩, List.mem_of_getElem? (i := 110) (by decide +kernel), List.mem_of_getElem? (i := 519) (by decide +kernel), List.mem_of_getElem? (i := 520) (by decide +kernel)⟩
theorem lw_p7 : lw_okq (⟨"LetterSums$Custom", "mayTakeTwice", "(II)Z"⟩, 3) := ⟨⟨by decide +kernel, by decide +kernel⟩, List.mem_of_getElem? (i := 110) (by decide +kernel), List.mem_of_getElem? (i := 523) (by decide +kernel), List.mem_of_getElem? (i := 524) (by decide +kernel)⟩
theorem lw_p8 : lw_okq (⟨"LetterSums$Custom", "closePlain", "(II)I"⟩, 3) := ⟨⟨by decide +kernel, by decide +kernel⟩, List.mem_of_getElem? (i := 110) (by decide +kernel), List.mem_of_getElem? (i := 527) (by decide +kernel), List.mem_of_getElem? (i := 528) (by decide +kernel)⟩
theorem lw_p9 : lw_okq (⟨"LetterSums$Custom", "isWhole", "(I)Z"⟩, 3) := ⟨⟨by decide +kernel, by decide +kernel⟩, List.mem_of_getElem? (i := 110) (by decide +kernel), List.mem_of_getElem? (i := 531) (by decide +kernel), List.mem_of_getElem? (i := 532) (by decide +kernel)⟩
theorem lw_p10 : lw_okq (⟨"LetterSums", "isCustom", "(I)Z"⟩, 11) := ⟨⟨by decide +kernel, by decide +kernel⟩, List.mem_of_getElem? (i := 20) (by decide +kernel), List.mem_of_getElem? (i := 539) (by decide +kernel), List.mem_of_getElem? (i := 540) (by decide +kernel)⟩
theorem lw_p11 : lw_okq (⟨"LetterSums$Page", "isRowOfSigns", "()Z"⟩, 2) := ⟨⟨by decide +kernel, by decide +kernel⟩, List.mem_of_getElem? (i := 28) (by decide +kernel), List.mem_of_getElem? (i := 550) (by decide +kernel), List.mem_of_getElem? (i := 551) (by decide +kernel)⟩
theorem lw_p12 : lw_okq (⟨"LetterSums$Page", "copySigns", "(LLetterSums$Row;)V"⟩, 2) := ⟨⟨by decide +kernel, by decide +kernel⟩, List.mem_of_getElem? (i := 28) (by decide +kernel), List.mem_of_getElem? (i := 555) (by decide +kernel), List.mem_of_getElem? (i := 556) (by decide +kernel)⟩
theorem lw_p13 : lw_okq (⟨"LetterSums$Row", "put", "(II)V"⟩, 2) := ⟨⟨by decide +kernel, by decide +kernel⟩, List.mem_of_getElem? (i := 85) (by decide +kernel), List.mem_of_getElem? (i := 559) (by decide +kernel), List.mem_of_getElem? (i := 560) (by decide +kernel)⟩
theorem lw_p14 : lw_okq (⟨"LetterSums$Row", "total", "()I"⟩, 2) := ⟨⟨by decide +kernel, by decide +kernel⟩, List.mem_of_getElem? (i := 85) (by decide +kernel), List.mem_of_getElem? (i := 571) (by decide +kernel), List.mem_of_getElem? (i := 572) (by decide +kernel)⟩
theorem lw_p15 : lw_okq (⟨"LetterSums$Row", "isTaken", "(IZ)Z"⟩, 2) := ⟨⟨by decide +kernel, by decide +kernel⟩, List.mem_of_getElem? (i := 85) (by decide +kernel), List.mem_of_getElem? (i := 575) (by decide +kernel), List.mem_of_getElem? (i := 576) (by decide +kernel)⟩
def lw_privs_1 : List (MethodName × Nat) := [(⟨"LetterSums$Page", "append", "(JI)V"⟩, 2), (⟨"LetterSums$Mason", "meet", "(LLetterSums$Custom;I)V"⟩, 3), (⟨"LetterSums$Custom", "allows", "(LLetterSums$Row;)Z"⟩, 3), (⟨"LetterSums$Custom", "after", "(II)I"⟩, 3), (⟨"LetterSums$Custom", "leaveOpen", "(III)I"⟩, 3), (⟨"LetterSums$Custom", "closeTaking", "(II)I"⟩, 3), (⟨"LetterSums$Custom", "mayTakeOnce", "(II)Z"⟩, 3), (⟨"LetterSums$Custom", "mayTakeTwice", "(II)Z"⟩, 3), (⟨"LetterSums$Custom", "closePlain", "(II)I"⟩, 3), (⟨"LetterSums$Custom", "isWhole", "(I)Z"⟩, 3), (⟨"LetterSums", "isCustom", "(I)Z"⟩, 11), (⟨"LetterSums$Page", "isRowOfSigns", "()Z"⟩, 2), (⟨"LetterSums$Page", "copySigns", "(LLetterSums$Row;)V"⟩, 2), (⟨"LetterSums$Row", "put", "(II)V"⟩, 2), (⟨"LetterSums$Row", "total", "()I"⟩, 2), (⟨"LetterSums$Row", "isTaken", "(IZ)Z"⟩, 2)]
theorem lw_r1 : ∀ q ∈ lw_privs_1, lw_okq q := List.forall_mem_cons.mpr ⟨lw_p0, List.forall_mem_cons.mpr ⟨lw_p1, List.forall_mem_cons.mpr ⟨lw_p2, List.forall_mem_cons.mpr ⟨lw_p3, List.forall_mem_cons.mpr ⟨lw_p4, List.forall_mem_cons.mpr ⟨lw_p5, List.forall_mem_cons.mpr ⟨lw_p6, List.forall_mem_cons.mpr ⟨lw_p7, List.forall_mem_cons.mpr ⟨lw_p8, List.forall_mem_cons.mpr ⟨lw_p9, List.forall_mem_cons.mpr ⟨lw_p10, List.forall_mem_cons.mpr ⟨lw_p11, List.forall_mem_cons.mpr ⟨lw_p12, List.forall_mem_cons.mpr ⟨lw_p13, List.forall_mem_cons.mpr ⟨lw_p14, List.forall_mem_cons.mpr ⟨lw_p15, fun _ h => absurd h List.not_mem_nil⟩⟩⟩⟩⟩⟩⟩⟩⟩⟩⟩⟩⟩⟩⟩⟩
theorem lw_p16 : lw_okq (⟨"LetterSums$Custom", "goodSigns", "(LLetterSums$Row;)I"⟩, 3) := ⟨⟨by decide +kernel, by decide +kernel⟩, List.mem_of_getElem? (i := 110) (by decide +kernel), List.mem_of_getElem? (i := 590) (by decide +kernel), List.mem_of_getElem? (i := 591) (by decide +kernel)⟩
theorem lw_p17 : lw_okq (⟨"LetterSums$Writings", "prepare", "(LLetterSums$Custom;II)V"⟩, 10) := ⟨⟨by decide +kernel, by decide +kernel⟩, List.mem_of_getElem? (i := 51) (by decide +kernel), List.mem_of_getElem? (i := 602) (by decide +kernel), List.mem_of_getElem? (i := 603) (by decide +kernel)⟩
theorem lw_p18 : lw_okq (⟨"LetterSums$Writings", "countTakings", "(I)V"⟩, 10) := ⟨⟨by decide +kernel, by decide +kernel⟩, List.mem_of_getElem? (i := 51) (by decide +kernel), List.mem_of_getElem? (i := 606) (by decide +kernel), List.mem_of_getElem? (i := 607) (by decide +kernel)⟩
theorem lw_p19 : lw_okq (⟨"LetterSums$Tally", "startOf", "(II)I"⟩, 4) := ⟨⟨by decide +kernel, by decide +kernel⟩, List.mem_of_getElem? (i := 57) (by decide +kernel), List.mem_of_getElem? (i := 611) (by decide +kernel), List.mem_of_getElem? (i := 612) (by decide +kernel)⟩
theorem lw_p20 : lw_okq (⟨"LetterSums$Tally", "clearAt", "(I)V"⟩, 4) := ⟨⟨by decide +kernel, by decide +kernel⟩, List.mem_of_getElem? (i := 57) (by decide +kernel), List.mem_of_getElem? (i := 615) (by decide +kernel), List.mem_of_getElem? (i := 616) (by decide +kernel)⟩
theorem lw_p21 : lw_okq (⟨"LetterSums$Tally", "addAt", "(ILLetterSums$Tally;III)V"⟩, 4) := ⟨⟨by decide +kernel, by decide +kernel⟩, List.mem_of_getElem? (i := 57) (by decide +kernel), List.mem_of_getElem? (i := 619) (by decide +kernel), List.mem_of_getElem? (i := 620) (by decide +kernel)⟩
theorem lw_p22 : lw_okq (⟨"LetterSums$Tally", "startFor", "(II)I"⟩, 4) := ⟨⟨by decide +kernel, by decide +kernel⟩, List.mem_of_getElem? (i := 57) (by decide +kernel), List.mem_of_getElem? (i := 623) (by decide +kernel), List.mem_of_getElem? (i := 624) (by decide +kernel)⟩
theorem lw_p23 : lw_okq (⟨"LetterSums$Writings", "countPlain", "(I)V"⟩, 10) := ⟨⟨by decide +kernel, by decide +kernel⟩, List.mem_of_getElem? (i := 51) (by decide +kernel), List.mem_of_getElem? (i := 629) (by decide +kernel), List.mem_of_getElem? (i := 630) (by decide +kernel)⟩
theorem lw_p24 : lw_okq (⟨"LetterSums$Writings", "inAll", "()I"⟩, 10) := ⟨⟨by decide +kernel, by decide +kernel⟩, List.mem_of_getElem? (i := 51) (by decide +kernel), List.mem_of_getElem? (i := 633) (by decide +kernel), List.mem_of_getElem? (i := 634) (by decide +kernel)⟩
theorem lw_p25 : lw_okq (⟨"LetterSums$Tally", "atMost", "(III)I"⟩, 4) := ⟨⟨by decide +kernel, by decide +kernel⟩, List.mem_of_getElem? (i := 57) (by decide +kernel), List.mem_of_getElem? (i := 637) (by decide +kernel), List.mem_of_getElem? (i := 638) (by decide +kernel)⟩
theorem lw_p26 : lw_okq (⟨"LetterSums$Writings", "findShortest", "()Z"⟩, 10) := ⟨⟨by decide +kernel, by decide +kernel⟩, List.mem_of_getElem? (i := 51) (by decide +kernel), List.mem_of_getElem? (i := 645) (by decide +kernel), List.mem_of_getElem? (i := 646) (by decide +kernel)⟩
theorem lw_p27 : lw_okq (⟨"LetterSums$Tally", "exactly", "(III)I"⟩, 4) := ⟨⟨by decide +kernel, by decide +kernel⟩, List.mem_of_getElem? (i := 57) (by decide +kernel), List.mem_of_getElem? (i := 649) (by decide +kernel), List.mem_of_getElem? (i := 650) (by decide +kernel)⟩
theorem lw_p28 : lw_okq (⟨"LetterSums$Writings", "walk", "(II)V"⟩, 10) := ⟨⟨by decide +kernel, by decide +kernel⟩, List.mem_of_getElem? (i := 51) (by decide +kernel), List.mem_of_getElem? (i := 653) (by decide +kernel), List.mem_of_getElem? (i := 654) (by decide +kernel)⟩
theorem lw_p29 : lw_okq (⟨"LetterSums$Writings", "choosePlain", "(I)V"⟩, 10) := ⟨⟨by decide +kernel, by decide +kernel⟩, List.mem_of_getElem? (i := 51) (by decide +kernel), List.mem_of_getElem? (i := 657) (by decide +kernel), List.mem_of_getElem? (i := 658) (by decide +kernel)⟩
theorem lw_p30 : lw_okq (⟨"LetterSums$Writings", "goes", "(LLetterSums$Tally;III)Z"⟩, 10) := ⟨⟨by decide +kernel, by decide +kernel⟩, List.mem_of_getElem? (i := 51) (by decide +kernel), List.mem_of_getElem? (i := 661) (by decide +kernel), List.mem_of_getElem? (i := 662) (by decide +kernel)⟩
theorem lw_p31 : lw_okq (⟨"LetterSums$Writings", "chooseTaking", "(I)I"⟩, 10) := ⟨⟨by decide +kernel, by decide +kernel⟩, List.mem_of_getElem? (i := 51) (by decide +kernel), List.mem_of_getElem? (i := 666) (by decide +kernel), List.mem_of_getElem? (i := 667) (by decide +kernel)⟩
def lw_privs_2 : List (MethodName × Nat) := [(⟨"LetterSums$Custom", "goodSigns", "(LLetterSums$Row;)I"⟩, 3), (⟨"LetterSums$Writings", "prepare", "(LLetterSums$Custom;II)V"⟩, 10), (⟨"LetterSums$Writings", "countTakings", "(I)V"⟩, 10), (⟨"LetterSums$Tally", "startOf", "(II)I"⟩, 4), (⟨"LetterSums$Tally", "clearAt", "(I)V"⟩, 4), (⟨"LetterSums$Tally", "addAt", "(ILLetterSums$Tally;III)V"⟩, 4), (⟨"LetterSums$Tally", "startFor", "(II)I"⟩, 4), (⟨"LetterSums$Writings", "countPlain", "(I)V"⟩, 10), (⟨"LetterSums$Writings", "inAll", "()I"⟩, 10), (⟨"LetterSums$Tally", "atMost", "(III)I"⟩, 4), (⟨"LetterSums$Writings", "findShortest", "()Z"⟩, 10), (⟨"LetterSums$Tally", "exactly", "(III)I"⟩, 4), (⟨"LetterSums$Writings", "walk", "(II)V"⟩, 10), (⟨"LetterSums$Writings", "choosePlain", "(I)V"⟩, 10), (⟨"LetterSums$Writings", "goes", "(LLetterSums$Tally;III)Z"⟩, 10), (⟨"LetterSums$Writings", "chooseTaking", "(I)I"⟩, 10)]
theorem lw_r2 : ∀ q ∈ lw_privs_2, lw_okq q := List.forall_mem_cons.mpr ⟨lw_p16, List.forall_mem_cons.mpr ⟨lw_p17, List.forall_mem_cons.mpr ⟨lw_p18, List.forall_mem_cons.mpr ⟨lw_p19, List.forall_mem_cons.mpr ⟨lw_p20, List.forall_mem_cons.mpr ⟨lw_p21, List.forall_mem_cons.mpr ⟨lw_p22, List.forall_mem_cons.mpr ⟨lw_p23, List.forall_mem_cons.mpr ⟨lw_p24, List.forall_mem_cons.mpr ⟨lw_p25, List.forall_mem_cons.mpr ⟨lw_p26, List.forall_mem_cons.mpr ⟨lw_p27, List.forall_mem_cons.mpr ⟨lw_p28, List.forall_mem_cons.mpr ⟨lw_p29, List.forall_mem_cons.mpr ⟨lw_p30, List.forall_mem_cons.mpr ⟨lw_p31, fun _ h => absurd h List.not_mem_nil⟩⟩⟩⟩⟩⟩⟩⟩⟩⟩⟩⟩⟩⟩⟩⟩
theorem lw_p32 : lw_okq (⟨"LetterSums$Writings", "findByOrder", "(I)Z"⟩, 10) := ⟨⟨by decide +kernel, by decide +kernel⟩, List.mem_of_getElem? (i := 51) (by decide +kernel), List.mem_of_getElem? (i := 670) (by decide +kernel), List.mem_of_getElem? (i := 671) (by decide +kernel)⟩
theorem lw_p33 : lw_okq (⟨"LetterSums$Row", "copy", "(LLetterSums$Row;)V"⟩, 2) := ⟨⟨by decide +kernel, by decide +kernel⟩, List.mem_of_getElem? (i := 85) (by decide +kernel), List.mem_of_getElem? (i := 675) (by decide +kernel), List.mem_of_getElem? (i := 676) (by decide +kernel)⟩
theorem lw_p34 : lw_okq (⟨"LetterSums$Abacus", "addRow", "(LLetterSums$Row;Z)Z"⟩, 6) := ⟨⟨by decide +kernel, by decide +kernel⟩, List.mem_of_getElem? (i := 165) (by decide +kernel), List.mem_of_getElem? (i := 690) (by decide +kernel), List.mem_of_getElem? (i := 691) (by decide +kernel)⟩
theorem lw_p35 : lw_okq (⟨"LetterSums$Abacus", "acceptMore", "()Z"⟩, 6) := ⟨⟨by decide +kernel, by decide +kernel⟩, List.mem_of_getElem? (i := 165) (by decide +kernel), List.mem_of_getElem? (i := 695) (by decide +kernel), List.mem_of_getElem? (i := 696) (by decide +kernel)⟩
theorem lw_p36 : lw_okq (⟨"LetterSums$Abacus", "pebbles", "()I"⟩, 6) := ⟨⟨by decide +kernel, by decide +kernel⟩, List.mem_of_getElem? (i := 165) (by decide +kernel), List.mem_of_getElem? (i := 699) (by decide +kernel), List.mem_of_getElem? (i := 700) (by decide +kernel)⟩
theorem lw_p37 : lw_okq (⟨"LetterSums$Abacus", "hasBundle", "(I)Z"⟩, 6) := ⟨⟨by decide +kernel, by decide +kernel⟩, List.mem_of_getElem? (i := 165) (by decide +kernel), List.mem_of_getElem? (i := 707) (by decide +kernel), List.mem_of_getElem? (i := 708) (by decide +kernel)⟩
theorem lw_p38 : lw_okq (⟨"LetterSums$Abacus", "tieUp", "(I)Z"⟩, 6) := ⟨⟨by decide +kernel, by decide +kernel⟩, List.mem_of_getElem? (i := 165) (by decide +kernel), List.mem_of_getElem? (i := 713) (by decide +kernel), List.mem_of_getElem? (i := 714) (by decide +kernel)⟩
theorem lw_p39 : lw_okq (⟨"LetterSums$Abacus", "untie", "(I)Z"⟩, 6) := ⟨⟨by decide +kernel, by decide +kernel⟩, List.mem_of_getElem? (i := 165) (by decide +kernel), List.mem_of_getElem? (i := 721) (by decide +kernel), List.mem_of_getElem? (i := 722) (by decide +kernel)⟩
theorem lw_p40 : lw_okq (⟨"LetterSums$Abacus", "settleAll", "()V"⟩, 6) := ⟨⟨by decide +kernel, by decide +kernel⟩, List.mem_of_getElem? (i := 165) (by decide +kernel), List.mem_of_getElem? (i := 729) (by decide +kernel), List.mem_of_getElem? (i := 730) (by decide +kernel)⟩
theorem lw_p41 : lw_okq (⟨"LetterSums$Abacus", "nextStep", "()I"⟩, 6) := ⟨⟨by decide +kernel, by decide +kernel⟩, List.mem_of_getElem? (i := 165) (by decide +kernel), List.mem_of_getElem? (i := 733) (by decide +kernel), List.mem_of_getElem? (i := 734) (by decide +kernel)⟩
theorem lw_p42 : lw_okq (⟨"LetterSums$Abacus", "leastOwed", "()I"⟩, 6) := ⟨⟨by decide +kernel, by decide +kernel⟩, List.mem_of_getElem? (i := 165) (by decide +kernel), List.mem_of_getElem? (i := 737) (by decide +kernel), List.mem_of_getElem? (i := 738) (by decide +kernel)⟩
theorem lw_p43 : lw_okq (⟨"LetterSums$Abacus", "carryOut", "(I)Z"⟩, 6) := ⟨⟨by decide +kernel, by decide +kernel⟩, List.mem_of_getElem? (i := 165) (by decide +kernel), List.mem_of_getElem? (i := 742) (by decide +kernel), List.mem_of_getElem? (i := 743) (by decide +kernel)⟩
theorem lw_p44 : lw_okq (⟨"LetterSums$Abacus", "total", "()I"⟩, 6) := ⟨⟨by decide +kernel, by decide +kernel⟩, List.mem_of_getElem? (i := 165) (by decide +kernel), List.mem_of_getElem? (i := 756) (by decide +kernel), List.mem_of_getElem? (i := 757) (by decide +kernel)⟩
theorem lw_p45 : lw_okq (⟨"LetterSums$Abacus", "canBeLifted", "()Z"⟩, 6) := ⟨⟨by decide +kernel, by decide +kernel⟩, List.mem_of_getElem? (i := 165) (by decide +kernel), List.mem_of_getElem? (i := 765) (by decide +kernel), List.mem_of_getElem? (i := 766) (by decide +kernel)⟩
theorem lw_p46 : lw_okq (⟨"LetterSums$Abacus", "copyGiven", "(LLetterSums$Row;)V"⟩, 6) := ⟨⟨by decide +kernel, by decide +kernel⟩, List.mem_of_getElem? (i := 165) (by decide +kernel), List.mem_of_getElem? (i := 770) (by decide +kernel), List.mem_of_getElem? (i := 771) (by decide +kernel)⟩
theorem lw_p47 : lw_okq (⟨"LetterSums$Abacus", "clear", "()V"⟩, 6) := ⟨⟨by decide +kernel, by decide +kernel⟩, List.mem_of_getElem? (i := 165) (by decide +kernel), List.mem_of_getElem? (i := 779) (by decide +kernel), List.mem_of_getElem? (i := 780) (by decide +kernel)⟩
def lw_privs_3 : List (MethodName × Nat) := [(⟨"LetterSums$Writings", "findByOrder", "(I)Z"⟩, 10), (⟨"LetterSums$Row", "copy", "(LLetterSums$Row;)V"⟩, 2), (⟨"LetterSums$Abacus", "addRow", "(LLetterSums$Row;Z)Z"⟩, 6), (⟨"LetterSums$Abacus", "acceptMore", "()Z"⟩, 6), (⟨"LetterSums$Abacus", "pebbles", "()I"⟩, 6), (⟨"LetterSums$Abacus", "hasBundle", "(I)Z"⟩, 6), (⟨"LetterSums$Abacus", "tieUp", "(I)Z"⟩, 6), (⟨"LetterSums$Abacus", "untie", "(I)Z"⟩, 6), (⟨"LetterSums$Abacus", "settleAll", "()V"⟩, 6), (⟨"LetterSums$Abacus", "nextStep", "()I"⟩, 6), (⟨"LetterSums$Abacus", "leastOwed", "()I"⟩, 6), (⟨"LetterSums$Abacus", "carryOut", "(I)Z"⟩, 6), (⟨"LetterSums$Abacus", "total", "()I"⟩, 6), (⟨"LetterSums$Abacus", "canBeLifted", "()Z"⟩, 6), (⟨"LetterSums$Abacus", "copyGiven", "(LLetterSums$Row;)V"⟩, 6), (⟨"LetterSums$Abacus", "clear", "()V"⟩, 6)]
theorem lw_r3 : ∀ q ∈ lw_privs_3, lw_okq q := List.forall_mem_cons.mpr ⟨lw_p32, List.forall_mem_cons.mpr ⟨lw_p33, List.forall_mem_cons.mpr ⟨lw_p34, List.forall_mem_cons.mpr ⟨lw_p35, List.forall_mem_cons.mpr ⟨lw_p36, List.forall_mem_cons.mpr ⟨lw_p37, List.forall_mem_cons.mpr ⟨lw_p38, List.forall_mem_cons.mpr ⟨lw_p39, List.forall_mem_cons.mpr ⟨lw_p40, List.forall_mem_cons.mpr ⟨lw_p41, List.forall_mem_cons.mpr ⟨lw_p42, List.forall_mem_cons.mpr ⟨lw_p43, List.forall_mem_cons.mpr ⟨lw_p44, List.forall_mem_cons.mpr ⟨lw_p45, List.forall_mem_cons.mpr ⟨lw_p46, List.forall_mem_cons.mpr ⟨lw_p47, fun _ h => absurd h List.not_mem_nil⟩⟩⟩⟩⟩⟩⟩⟩⟩⟩⟩⟩⟩⟩⟩⟩
theorem lw_p48 : lw_okq (⟨"LetterSums$Slab", "carve", "(LLetterSums$Page;)V"⟩, 9) := ⟨⟨by decide +kernel, by decide +kernel⟩, List.mem_of_getElem? (i := 194) (by decide +kernel), List.mem_of_getElem? (i := 814) (by decide +kernel), List.mem_of_getElem? (i := 815) (by decide +kernel)⟩
theorem lw_p49 : lw_okq (⟨"LetterSums", "readStone", "(I)Z"⟩, 11) := ⟨⟨by decide +kernel, by decide +kernel⟩, List.mem_of_getElem? (i := 20) (by decide +kernel), List.mem_of_getElem? (i := 822) (by decide +kernel), List.mem_of_getElem? (i := 823) (by decide +kernel)⟩
theorem lw_p50 : lw_okq (⟨"LetterSums$Slab", "fillBy", "(LLetterSums$Custom;I)V"⟩, 9) := ⟨⟨by decide +kernel, by decide +kernel⟩, List.mem_of_getElem? (i := 194) (by decide +kernel), List.mem_of_getElem? (i := 826) (by decide +kernel), List.mem_of_getElem? (i := 827) (by decide +kernel)⟩
theorem lw_p51 : lw_okq (⟨"LetterSums$Slab", "makeRoom", "()V"⟩, 9) := ⟨⟨by decide +kernel, by decide +kernel⟩, List.mem_of_getElem? (i := 194) (by decide +kernel), List.mem_of_getElem? (i := 830) (by decide +kernel), List.mem_of_getElem? (i := 831) (by decide +kernel)⟩
theorem lw_p52 : lw_okq (⟨"LetterSums$Slab", "keepFilling", "(I)V"⟩, 9) := ⟨⟨by decide +kernel, by decide +kernel⟩, List.mem_of_getElem? (i := 194) (by decide +kernel), List.mem_of_getElem? (i := 838) (by decide +kernel), List.mem_of_getElem? (i := 839) (by decide +kernel)⟩
theorem lw_p53 : lw_okq (⟨"LetterSums$Slab", "sortWorths", "()V"⟩, 9) := ⟨⟨by decide +kernel, by decide +kernel⟩, List.mem_of_getElem? (i := 194) (by decide +kernel), List.mem_of_getElem? (i := 844) (by decide +kernel), List.mem_of_getElem? (i := 845) (by decide +kernel)⟩
theorem lw_p54 : lw_okq (⟨"LetterSums$Slab", "dropLikeWorths", "()V"⟩, 9) := ⟨⟨by decide +kernel, by decide +kernel⟩, List.mem_of_getElem? (i := 194) (by decide +kernel), List.mem_of_getElem? (i := 848) (by decide +kernel), List.mem_of_getElem? (i := 849) (by decide +kernel)⟩
theorem lw_p55 : lw_okq (⟨"LetterSums", "customsAllowing", "(LLetterSums$Row;)I"⟩, 11) := ⟨⟨by decide +kernel, by decide +kernel⟩, List.mem_of_getElem? (i := 20) (by decide +kernel), List.mem_of_getElem? (i := 867) (by decide +kernel), List.mem_of_getElem? (i := 868) (by decide +kernel)⟩
theorem lw_p56 : lw_okq (⟨"LetterSums$Mason", "remember", "(LLetterSums$Row;I)V"⟩, 3) := ⟨⟨by decide +kernel, by decide +kernel⟩, List.mem_of_getElem? (i := 287) (by decide +kernel), List.mem_of_getElem? (i := 871) (by decide +kernel), List.mem_of_getElem? (i := 872) (by decide +kernel)⟩
theorem lw_p57 : lw_okq (⟨"LetterSums$Ledger", "append", "(LLetterSums$Row;LLetterSums$Row;)V"⟩, 12) := ⟨⟨by decide +kernel, by decide +kernel⟩, List.mem_of_getElem? (i := 236) (by decide +kernel), List.mem_of_getElem? (i := 888) (by decide +kernel), List.mem_of_getElem? (i := 889) (by decide +kernel)⟩
theorem lw_p58 : lw_okq (⟨"LetterSums$Ledger", "clear", "()V"⟩, 12) := ⟨⟨by decide +kernel, by decide +kernel⟩, List.mem_of_getElem? (i := 236) (by decide +kernel), List.mem_of_getElem? (i := 898) (by decide +kernel), List.mem_of_getElem? (i := 899) (by decide +kernel)⟩
theorem lw_p59 : lw_okq (⟨"LetterSums$Ledger", "firstWrong", "()I"⟩, 12) := ⟨⟨by decide +kernel, by decide +kernel⟩, List.mem_of_getElem? (i := 236) (by decide +kernel), List.mem_of_getElem? (i := 906) (by decide +kernel), List.mem_of_getElem? (i := 907) (by decide +kernel)⟩
theorem lw_p60 : lw_okq (⟨"LetterSums$Ledger", "totalAhead", "(I)I"⟩, 12) := ⟨⟨by decide +kernel, by decide +kernel⟩, List.mem_of_getElem? (i := 236) (by decide +kernel), List.mem_of_getElem? (i := 910) (by decide +kernel), List.mem_of_getElem? (i := 911) (by decide +kernel)⟩
theorem lw_p61 : lw_okq (⟨"LetterSums$Ledger", "firstMended", "()I"⟩, 12) := ⟨⟨by decide +kernel, by decide +kernel⟩, List.mem_of_getElem? (i := 236) (by decide +kernel), List.mem_of_getElem? (i := 918) (by decide +kernel), List.mem_of_getElem? (i := 919) (by decide +kernel)⟩
theorem lw_p62 : lw_okq (⟨"LetterSums$Ledger", "findSlip", "()Z"⟩, 12) := ⟨⟨by decide +kernel, by decide +kernel⟩, List.mem_of_getElem? (i := 236) (by decide +kernel), List.mem_of_getElem? (i := 927) (by decide +kernel), List.mem_of_getElem? (i := 928) (by decide +kernel)⟩
theorem lw_p63 : lw_okq (⟨"LetterSums$Ledger", "canBecome", "(ILLetterSums$Row;I)Z"⟩, 12) := ⟨⟨by decide +kernel, by decide +kernel⟩, List.mem_of_getElem? (i := 236) (by decide +kernel), List.mem_of_getElem? (i := 931) (by decide +kernel), List.mem_of_getElem? (i := 932) (by decide +kernel)⟩
def lw_privs_4 : List (MethodName × Nat) := [(⟨"LetterSums$Slab", "carve", "(LLetterSums$Page;)V"⟩, 9), (⟨"LetterSums", "readStone", "(I)Z"⟩, 11), (⟨"LetterSums$Slab", "fillBy", "(LLetterSums$Custom;I)V"⟩, 9), (⟨"LetterSums$Slab", "makeRoom", "()V"⟩, 9), (⟨"LetterSums$Slab", "keepFilling", "(I)V"⟩, 9), (⟨"LetterSums$Slab", "sortWorths", "()V"⟩, 9), (⟨"LetterSums$Slab", "dropLikeWorths", "()V"⟩, 9), (⟨"LetterSums", "customsAllowing", "(LLetterSums$Row;)I"⟩, 11), (⟨"LetterSums$Mason", "remember", "(LLetterSums$Row;I)V"⟩, 3), (⟨"LetterSums$Ledger", "append", "(LLetterSums$Row;LLetterSums$Row;)V"⟩, 12), (⟨"LetterSums$Ledger", "clear", "()V"⟩, 12), (⟨"LetterSums$Ledger", "firstWrong", "()I"⟩, 12), (⟨"LetterSums$Ledger", "totalAhead", "(I)I"⟩, 12), (⟨"LetterSums$Ledger", "firstMended", "()I"⟩, 12), (⟨"LetterSums$Ledger", "findSlip", "()Z"⟩, 12), (⟨"LetterSums$Ledger", "canBecome", "(ILLetterSums$Row;I)Z"⟩, 12)]
theorem lw_r4 : ∀ q ∈ lw_privs_4, lw_okq q := List.forall_mem_cons.mpr ⟨lw_p48, List.forall_mem_cons.mpr ⟨lw_p49, List.forall_mem_cons.mpr ⟨lw_p50, List.forall_mem_cons.mpr ⟨lw_p51, List.forall_mem_cons.mpr ⟨lw_p52, List.forall_mem_cons.mpr ⟨lw_p53, List.forall_mem_cons.mpr ⟨lw_p54, List.forall_mem_cons.mpr ⟨lw_p55, List.forall_mem_cons.mpr ⟨lw_p56, List.forall_mem_cons.mpr ⟨lw_p57, List.forall_mem_cons.mpr ⟨lw_p58, List.forall_mem_cons.mpr ⟨lw_p59, List.forall_mem_cons.mpr ⟨lw_p60, List.forall_mem_cons.mpr ⟨lw_p61, List.forall_mem_cons.mpr ⟨lw_p62, List.forall_mem_cons.mpr ⟨lw_p63, fun _ h => absurd h List.not_mem_nil⟩⟩⟩⟩⟩⟩⟩⟩⟩⟩⟩⟩⟩⟩⟩⟩
theorem lw_p64 : lw_okq (⟨"LetterSums$Ledger", "withOneMore", "(LLetterSums$Row;I)Z"⟩, 12) := ⟨⟨by decide +kernel, by decide +kernel⟩, List.mem_of_getElem? (i := 236) (by decide +kernel), List.mem_of_getElem? (i := 935) (by decide +kernel), List.mem_of_getElem? (i := 936) (by decide +kernel)⟩
theorem lw_p65 : lw_okq (⟨"LetterSums$Ledger", "anySignFits", "(III)Z"⟩, 12) := ⟨⟨by decide +kernel, by decide +kernel⟩, List.mem_of_getElem? (i := 236) (by decide +kernel), List.mem_of_getElem? (i := 939) (by decide +kernel), List.mem_of_getElem? (i := 940) (by decide +kernel)⟩
theorem lw_p66 : lw_okq (⟨"LetterSums$Ledger", "foundSlip", "(III)Z"⟩, 12) := ⟨⟨by decide +kernel, by decide +kernel⟩, List.mem_of_getElem? (i := 236) (by decide +kernel), List.mem_of_getElem? (i := 943) (by decide +kernel), List.mem_of_getElem? (i := 944) (by decide +kernel)⟩
theorem lw_p67 : lw_okq (⟨"LetterSums$Ledger", "withOneLess", "(LLetterSums$Row;I)Z"⟩, 12) := ⟨⟨by decide +kernel, by decide +kernel⟩, List.mem_of_getElem? (i := 236) (by decide +kernel), List.mem_of_getElem? (i := 947) (by decide +kernel), List.mem_of_getElem? (i := 948) (by decide +kernel)⟩
theorem lw_p68 : lw_okq (⟨"LetterSums$Ledger", "withOneOther", "(LLetterSums$Row;I)Z"⟩, 12) := ⟨⟨by decide +kernel, by decide +kernel⟩, List.mem_of_getElem? (i := 236) (by decide +kernel), List.mem_of_getElem? (i := 951) (by decide +kernel), List.mem_of_getElem? (i := 952) (by decide +kernel)⟩
theorem lw_p69 : lw_okq (⟨"LetterSums$Page", "digestOn", "(J)J"⟩, 2) := ⟨⟨by decide +kernel, by decide +kernel⟩, List.mem_of_getElem? (i := 28) (by decide +kernel), List.mem_of_getElem? (i := 964) (by decide +kernel), List.mem_of_getElem? (i := 965) (by decide +kernel)⟩
theorem lw_p70 : lw_okq (⟨"LetterSums$Custom", "digestOn", "(J)J"⟩, 3) := ⟨⟨by decide +kernel, by decide +kernel⟩, List.mem_of_getElem? (i := 110) (by decide +kernel), List.mem_of_getElem? (i := 972) (by decide +kernel), List.mem_of_getElem? (i := 973) (by decide +kernel)⟩
theorem lw_p71 : lw_okq (⟨"LetterSums$Row", "digestOn", "(J)J"⟩, 2) := ⟨⟨by decide +kernel, by decide +kernel⟩, List.mem_of_getElem? (i := 85) (by decide +kernel), List.mem_of_getElem? (i := 977) (by decide +kernel), List.mem_of_getElem? (i := 978) (by decide +kernel)⟩
theorem lw_p72 : lw_okq (⟨"LetterSums$Abacus", "digestOn", "(J)J"⟩, 6) := ⟨⟨by decide +kernel, by decide +kernel⟩, List.mem_of_getElem? (i := 165) (by decide +kernel), List.mem_of_getElem? (i := 982) (by decide +kernel), List.mem_of_getElem? (i := 983) (by decide +kernel)⟩
theorem lw_p73 : lw_okq (⟨"LetterSums$Slab", "digestOn", "(J)J"⟩, 9) := ⟨⟨by decide +kernel, by decide +kernel⟩, List.mem_of_getElem? (i := 194) (by decide +kernel), List.mem_of_getElem? (i := 987) (by decide +kernel), List.mem_of_getElem? (i := 988) (by decide +kernel)⟩
theorem lw_p74 : lw_okq (⟨"LetterSums$Ledger", "digestOn", "(J)J"⟩, 12) := ⟨⟨by decide +kernel, by decide +kernel⟩, List.mem_of_getElem? (i := 236) (by decide +kernel), List.mem_of_getElem? (i := 993) (by decide +kernel), List.mem_of_getElem? (i := 994) (by decide +kernel)⟩
theorem lw_p75 : lw_okq (⟨"LetterSumsModel", "readCustom", "()V"⟩, 48) := ⟨⟨by decide +kernel, by decide +kernel⟩, List.mem_of_getElem? (i := 998) (by decide +kernel), List.mem_of_getElem? (i := 1168) (by decide +kernel), List.mem_of_getElem? (i := 1169) (by decide +kernel)⟩
theorem lw_p76 : lw_okq (⟨"LetterSumsModel", "signOf", "(I)I"⟩, 48) := ⟨⟨by decide +kernel, by decide +kernel⟩, List.mem_of_getElem? (i := 998) (by decide +kernel), List.mem_of_getElem? (i := 1172) (by decide +kernel), List.mem_of_getElem? (i := 1173) (by decide +kernel)⟩
theorem lw_p77 : lw_okq (⟨"LetterSumsModel", "isMore", "(IIZ)Z"⟩, 48) := ⟨⟨by decide +kernel, by decide +kernel⟩, List.mem_of_getElem? (i := 998) (by decide +kernel), List.mem_of_getElem? (i := 1179) (by decide +kernel), List.mem_of_getElem? (i := 1180) (by decide +kernel)⟩
theorem lw_p78 : lw_okq (⟨"LetterSumsModel", "isCustom", "(I)Z"⟩, 48) := ⟨⟨by decide +kernel, by decide +kernel⟩, List.mem_of_getElem? (i := 998) (by decide +kernel), List.mem_of_getElem? (i := 1191) (by decide +kernel), List.mem_of_getElem? (i := 1192) (by decide +kernel)⟩
theorem lw_p79 : lw_okq (⟨"LetterSumsModel", "worthOf", "([III)I"⟩, 48) := ⟨⟨by decide +kernel, by decide +kernel⟩, List.mem_of_getElem? (i := 998) (by decide +kernel), List.mem_of_getElem? (i := 1210) (by decide +kernel), List.mem_of_getElem? (i := 1211) (by decide +kernel)⟩
def lw_privs_5 : List (MethodName × Nat) := [(⟨"LetterSums$Ledger", "withOneMore", "(LLetterSums$Row;I)Z"⟩, 12), (⟨"LetterSums$Ledger", "anySignFits", "(III)Z"⟩, 12), (⟨"LetterSums$Ledger", "foundSlip", "(III)Z"⟩, 12), (⟨"LetterSums$Ledger", "withOneLess", "(LLetterSums$Row;I)Z"⟩, 12), (⟨"LetterSums$Ledger", "withOneOther", "(LLetterSums$Row;I)Z"⟩, 12), (⟨"LetterSums$Page", "digestOn", "(J)J"⟩, 2), (⟨"LetterSums$Custom", "digestOn", "(J)J"⟩, 3), (⟨"LetterSums$Row", "digestOn", "(J)J"⟩, 2), (⟨"LetterSums$Abacus", "digestOn", "(J)J"⟩, 6), (⟨"LetterSums$Slab", "digestOn", "(J)J"⟩, 9), (⟨"LetterSums$Ledger", "digestOn", "(J)J"⟩, 12), (⟨"LetterSumsModel", "readCustom", "()V"⟩, 48), (⟨"LetterSumsModel", "signOf", "(I)I"⟩, 48), (⟨"LetterSumsModel", "isMore", "(IIZ)Z"⟩, 48), (⟨"LetterSumsModel", "isCustom", "(I)Z"⟩, 48), (⟨"LetterSumsModel", "worthOf", "([III)I"⟩, 48)]
theorem lw_r5 : ∀ q ∈ lw_privs_5, lw_okq q := List.forall_mem_cons.mpr ⟨lw_p64, List.forall_mem_cons.mpr ⟨lw_p65, List.forall_mem_cons.mpr ⟨lw_p66, List.forall_mem_cons.mpr ⟨lw_p67, List.forall_mem_cons.mpr ⟨lw_p68, List.forall_mem_cons.mpr ⟨lw_p69, List.forall_mem_cons.mpr ⟨lw_p70, List.forall_mem_cons.mpr ⟨lw_p71, List.forall_mem_cons.mpr ⟨lw_p72, List.forall_mem_cons.mpr ⟨lw_p73, List.forall_mem_cons.mpr ⟨lw_p74, List.forall_mem_cons.mpr ⟨lw_p75, List.forall_mem_cons.mpr ⟨lw_p76, List.forall_mem_cons.mpr ⟨lw_p77, List.forall_mem_cons.mpr ⟨lw_p78, List.forall_mem_cons.mpr ⟨lw_p79, fun _ h => absurd h List.not_mem_nil⟩⟩⟩⟩⟩⟩⟩⟩⟩⟩⟩⟩⟩⟩⟩⟩
theorem lw_p80 : lw_okq (⟨"LetterSumsModel", "keepsAll", "([IIIIZ)Z"⟩, 48) := ⟨⟨by decide +kernel, by decide +kernel⟩, List.mem_of_getElem? (i := 998) (by decide +kernel), List.mem_of_getElem? (i := 1222) (by decide +kernel), List.mem_of_getElem? (i := 1223) (by decide +kernel)⟩
theorem lw_p81 : lw_okq (⟨"LetterSumsModel", "mayTake", "(IIII)Z"⟩, 48) := ⟨⟨by decide +kernel, by decide +kernel⟩, List.mem_of_getElem? (i := 998) (by decide +kernel), List.mem_of_getElem? (i := 1226) (by decide +kernel), List.mem_of_getElem? (i := 1227) (by decide +kernel)⟩
theorem lw_p82 : lw_okq (⟨"LetterSumsModel", "mayBegin", "(IIIII)Z"⟩, 48) := ⟨⟨by decide +kernel, by decide +kernel⟩, List.mem_of_getElem? (i := 998) (by decide +kernel), List.mem_of_getElem? (i := 1230) (by decide +kernel), List.mem_of_getElem? (i := 1231) (by decide +kernel)⟩
theorem lw_p83 : lw_okq (⟨"LetterSumsModel", "seek", "(III)V"⟩, 48) := ⟨⟨by decide +kernel, by decide +kernel⟩, List.mem_of_getElem? (i := 998) (by decide +kernel), List.mem_of_getElem? (i := 1243) (by decide +kernel), List.mem_of_getElem? (i := 1244) (by decide +kernel)⟩
theorem lw_p84 : lw_okq (⟨"LetterSumsModel", "bound", "(I)V"⟩, 48) := ⟨⟨by decide +kernel, by decide +kernel⟩, List.mem_of_getElem? (i := 998) (by decide +kernel), List.mem_of_getElem? (i := 1247) (by decide +kernel), List.mem_of_getElem? (i := 1248) (by decide +kernel)⟩
theorem lw_p85 : lw_okq (⟨"LetterSumsModel", "open", "(II)V"⟩, 48) := ⟨⟨by decide +kernel, by decide +kernel⟩, List.mem_of_getElem? (i := 998) (by decide +kernel), List.mem_of_getElem? (i := 1254) (by decide +kernel), List.mem_of_getElem? (i := 1255) (by decide +kernel)⟩
theorem lw_p86 : lw_okq (⟨"LetterSumsModel", "nextWay", "(II)Z"⟩, 48) := ⟨⟨by decide +kernel, by decide +kernel⟩, List.mem_of_getElem? (i := 998) (by decide +kernel), List.mem_of_getElem? (i := 1258) (by decide +kernel), List.mem_of_getElem? (i := 1259) (by decide +kernel)⟩
theorem lw_p87 : lw_okq (⟨"LetterSumsModel", "isAllowed", "(II)Z"⟩, 48) := ⟨⟨by decide +kernel, by decide +kernel⟩, List.mem_of_getElem? (i := 998) (by decide +kernel), List.mem_of_getElem? (i := 1262) (by decide +kernel), List.mem_of_getElem? (i := 1263) (by decide +kernel)⟩
theorem lw_p88 : lw_okq (⟨"LetterSumsModel", "worthBy", "(I)I"⟩, 48) := ⟨⟨by decide +kernel, by decide +kernel⟩, List.mem_of_getElem? (i := 998) (by decide +kernel), List.mem_of_getElem? (i := 1266) (by decide +kernel), List.mem_of_getElem? (i := 1267) (by decide +kernel)⟩
theorem lw_p89 : lw_okq (⟨"LetterSumsModel", "mayCome", "(III)Z"⟩, 48) := ⟨⟨by decide +kernel, by decide +kernel⟩, List.mem_of_getElem? (i := 998) (by decide +kernel), List.mem_of_getElem? (i := 1273) (by decide +kernel), List.mem_of_getElem? (i := 1274) (by decide +kernel)⟩
theorem lw_p90 : lw_okq (⟨"LetterSumsModel", "noteOne", "(II)V"⟩, 48) := ⟨⟨by decide +kernel, by decide +kernel⟩, List.mem_of_getElem? (i := 998) (by decide +kernel), List.mem_of_getElem? (i := 1277) (by decide +kernel), List.mem_of_getElem? (i := 1278) (by decide +kernel)⟩
theorem lw_p91 : lw_okq (⟨"LetterSumsModel", "layRow", "()V"⟩, 48) := ⟨⟨by decide +kernel, by decide +kernel⟩, List.mem_of_getElem? (i := 998) (by decide +kernel), List.mem_of_getElem? (i := 1281) (by decide +kernel), List.mem_of_getElem? (i := 1282) (by decide +kernel)⟩
theorem lw_p92 : lw_okq (⟨"LetterSumsModel", "down", "(IIII)I"⟩, 48) := ⟨⟨by decide +kernel, by decide +kernel⟩, List.mem_of_getElem? (i := 998) (by decide +kernel), List.mem_of_getElem? (i := 1285) (by decide +kernel), List.mem_of_getElem? (i := 1286) (by decide +kernel)⟩
theorem lw_p93 : lw_okq (⟨"LetterSumsModel", "poured", "(IIZ)I"⟩, 48) := ⟨⟨by decide +kernel, by decide +kernel⟩, List.mem_of_getElem? (i := 998) (by decide +kernel), List.mem_of_getElem? (i := 1301) (by decide +kernel), List.mem_of_getElem? (i := 1302) (by decide +kernel)⟩
theorem lw_p94 : lw_okq (⟨"LetterSumsModel", "onBoard", "()I"⟩, 48) := ⟨⟨by decide +kernel, by decide +kernel⟩, List.mem_of_getElem? (i := 998) (by decide +kernel), List.mem_of_getElem? (i := 1305) (by decide +kernel), List.mem_of_getElem? (i := 1306) (by decide +kernel)⟩
theorem lw_p95 : lw_okq (⟨"LetterSumsModel", "firstStep", "()I"⟩, 48) := ⟨⟨by decide +kernel, by decide +kernel⟩, List.mem_of_getElem? (i := 998) (by decide +kernel), List.mem_of_getElem? (i := 1324) (by decide +kernel), List.mem_of_getElem? (i := 1325) (by decide +kernel)⟩
def lw_privs_6 : List (MethodName × Nat) := [(⟨"LetterSumsModel", "keepsAll", "([IIIIZ)Z"⟩, 48), (⟨"LetterSumsModel", "mayTake", "(IIII)Z"⟩, 48), (⟨"LetterSumsModel", "mayBegin", "(IIIII)Z"⟩, 48), (⟨"LetterSumsModel", "seek", "(III)V"⟩, 48), (⟨"LetterSumsModel", "bound", "(I)V"⟩, 48), (⟨"LetterSumsModel", "open", "(II)V"⟩, 48), (⟨"LetterSumsModel", "nextWay", "(II)Z"⟩, 48), (⟨"LetterSumsModel", "isAllowed", "(II)Z"⟩, 48), (⟨"LetterSumsModel", "worthBy", "(I)I"⟩, 48), (⟨"LetterSumsModel", "mayCome", "(III)Z"⟩, 48), (⟨"LetterSumsModel", "noteOne", "(II)V"⟩, 48), (⟨"LetterSumsModel", "layRow", "()V"⟩, 48), (⟨"LetterSumsModel", "down", "(IIII)I"⟩, 48), (⟨"LetterSumsModel", "poured", "(IIZ)I"⟩, 48), (⟨"LetterSumsModel", "onBoard", "()I"⟩, 48), (⟨"LetterSumsModel", "firstStep", "()I"⟩, 48)]
theorem lw_r6 : ∀ q ∈ lw_privs_6, lw_okq q := List.forall_mem_cons.mpr ⟨lw_p80, List.forall_mem_cons.mpr ⟨lw_p81, List.forall_mem_cons.mpr ⟨lw_p82, List.forall_mem_cons.mpr ⟨lw_p83, List.forall_mem_cons.mpr ⟨lw_p84, List.forall_mem_cons.mpr ⟨lw_p85, List.forall_mem_cons.mpr ⟨lw_p86, List.forall_mem_cons.mpr ⟨lw_p87, List.forall_mem_cons.mpr ⟨lw_p88, List.forall_mem_cons.mpr ⟨lw_p89, List.forall_mem_cons.mpr ⟨lw_p90, List.forall_mem_cons.mpr ⟨lw_p91, List.forall_mem_cons.mpr ⟨lw_p92, List.forall_mem_cons.mpr ⟨lw_p93, List.forall_mem_cons.mpr ⟨lw_p94, List.forall_mem_cons.mpr ⟨lw_p95, fun _ h => absurd h List.not_mem_nil⟩⟩⟩⟩⟩⟩⟩⟩⟩⟩⟩⟩⟩⟩⟩⟩
theorem lw_p96 : lw_okq (⟨"LetterSumsModel", "doStep", "(I)Z"⟩, 48) := ⟨⟨by decide +kernel, by decide +kernel⟩, List.mem_of_getElem? (i := 998) (by decide +kernel), List.mem_of_getElem? (i := 1328) (by decide +kernel), List.mem_of_getElem? (i := 1329) (by decide +kernel)⟩
theorem lw_p97 : lw_okq (⟨"LetterSumsModel", "isShut", "()Z"⟩, 48) := ⟨⟨by decide +kernel, by decide +kernel⟩, List.mem_of_getElem? (i := 998) (by decide +kernel), List.mem_of_getElem? (i := 1366) (by decide +kernel), List.mem_of_getElem? (i := 1367) (by decide +kernel)⟩
theorem lw_p98 : lw_okq (⟨"LetterSumsModel", "fillAll", "(I)V"⟩, 48) := ⟨⟨by decide +kernel, by decide +kernel⟩, List.mem_of_getElem? (i := 998) (by decide +kernel), List.mem_of_getElem? (i := 1370) (by decide +kernel), List.mem_of_getElem? (i := 1371) (by decide +kernel)⟩
theorem lw_p99 : lw_okq (⟨"LetterSumsModel", "fillTo", "(II)V"⟩, 48) := ⟨⟨by decide +kernel, by decide +kernel⟩, List.mem_of_getElem? (i := 998) (by decide +kernel), List.mem_of_getElem? (i := 1374) (by decide +kernel), List.mem_of_getElem? (i := 1375) (by decide +kernel)⟩
theorem lw_p100 : lw_okq (⟨"LetterSumsModel", "first", "(I)I"⟩, 48) := ⟨⟨by decide +kernel, by decide +kernel⟩, List.mem_of_getElem? (i := 998) (by decide +kernel), List.mem_of_getElem? (i := 1378) (by decide +kernel), List.mem_of_getElem? (i := 1379) (by decide +kernel)⟩
theorem lw_p101 : lw_okq (⟨"LetterSumsModel", "isOpen", "(I)Z"⟩, 48) := ⟨⟨by decide +kernel, by decide +kernel⟩, List.mem_of_getElem? (i := 998) (by decide +kernel), List.mem_of_getElem? (i := 1382) (by decide +kernel), List.mem_of_getElem? (i := 1383) (by decide +kernel)⟩
theorem lw_p102 : lw_okq (⟨"LetterSumsModel", "after", "(I)I"⟩, 48) := ⟨⟨by decide +kernel, by decide +kernel⟩, List.mem_of_getElem? (i := 998) (by decide +kernel), List.mem_of_getElem? (i := 1386) (by decide +kernel), List.mem_of_getElem? (i := 1387) (by decide +kernel)⟩
theorem lw_p103 : lw_okq (⟨"LetterSumsModel", "take", "(I)V"⟩, 48) := ⟨⟨by decide +kernel, by decide +kernel⟩, List.mem_of_getElem? (i := 998) (by decide +kernel), List.mem_of_getElem? (i := 1390) (by decide +kernel), List.mem_of_getElem? (i := 1391) (by decide +kernel)⟩
theorem lw_p104 : lw_okq (⟨"LetterSumsModel", "say", "(I)V"⟩, 48) := ⟨⟨by decide +kernel, by decide +kernel⟩, List.mem_of_getElem? (i := 998) (by decide +kernel), List.mem_of_getElem? (i := 1394) (by decide +kernel), List.mem_of_getElem? (i := 1395) (by decide +kernel)⟩
theorem lw_p105 : lw_okq (⟨"LetterSumsModel", "habitOf", "(I)I"⟩, 48) := ⟨⟨by decide +kernel, by decide +kernel⟩, List.mem_of_getElem? (i := 998) (by decide +kernel), List.mem_of_getElem? (i := 1420) (by decide +kernel), List.mem_of_getElem? (i := 1421) (by decide +kernel)⟩
theorem lw_p106 : lw_okq (⟨"LetterSumsModel", "layLine", "(II)V"⟩, 48) := ⟨⟨by decide +kernel, by decide +kernel⟩, List.mem_of_getElem? (i := 998) (by decide +kernel), List.mem_of_getElem? (i := 1432) (by decide +kernel), List.mem_of_getElem? (i := 1433) (by decide +kernel)⟩
theorem lw_p107 : lw_okq (⟨"LetterSumsModel", "wrongAt", "()I"⟩, 48) := ⟨⟨by decide +kernel, by decide +kernel⟩, List.mem_of_getElem? (i := 998) (by decide +kernel), List.mem_of_getElem? (i := 1444) (by decide +kernel), List.mem_of_getElem? (i := 1445) (by decide +kernel)⟩
theorem lw_p108 : lw_okq (⟨"LetterSumsModel", "lineWorth", "(I)I"⟩, 48) := ⟨⟨by decide +kernel, by decide +kernel⟩, List.mem_of_getElem? (i := 998) (by decide +kernel), List.mem_of_getElem? (i := 1448) (by decide +kernel), List.mem_of_getElem? (i := 1449) (by decide +kernel)⟩
theorem lw_p109 : lw_okq (⟨"LetterSumsModel", "ahead", "(I)I"⟩, 48) := ⟨⟨by decide +kernel, by decide +kernel⟩, List.mem_of_getElem? (i := 998) (by decide +kernel), List.mem_of_getElem? (i := 1452) (by decide +kernel), List.mem_of_getElem? (i := 1453) (by decide +kernel)⟩
theorem lw_p110 : lw_okq (⟨"LetterSumsModel", "seekSlip", "()Z"⟩, 48) := ⟨⟨by decide +kernel, by decide +kernel⟩, List.mem_of_getElem? (i := 998) (by decide +kernel), List.mem_of_getElem? (i := 1464) (by decide +kernel), List.mem_of_getElem? (i := 1465) (by decide +kernel)⟩
theorem lw_p111 : lw_okq (⟨"LetterSumsModel", "isBy", "(IIIII)Z"⟩, 48) := ⟨⟨by decide +kernel, by decide +kernel⟩, List.mem_of_getElem? (i := 998) (by decide +kernel), List.mem_of_getElem? (i := 1468) (by decide +kernel), List.mem_of_getElem? (i := 1469) (by decide +kernel)⟩
def lw_privs_7 : List (MethodName × Nat) := [(⟨"LetterSumsModel", "doStep", "(I)Z"⟩, 48), (⟨"LetterSumsModel", "isShut", "()Z"⟩, 48), (⟨"LetterSumsModel", "fillAll", "(I)V"⟩, 48), (⟨"LetterSumsModel", "fillTo", "(II)V"⟩, 48), (⟨"LetterSumsModel", "first", "(I)I"⟩, 48), (⟨"LetterSumsModel", "isOpen", "(I)Z"⟩, 48), (⟨"LetterSumsModel", "after", "(I)I"⟩, 48), (⟨"LetterSumsModel", "take", "(I)V"⟩, 48), (⟨"LetterSumsModel", "say", "(I)V"⟩, 48), (⟨"LetterSumsModel", "habitOf", "(I)I"⟩, 48), (⟨"LetterSumsModel", "layLine", "(II)V"⟩, 48), (⟨"LetterSumsModel", "wrongAt", "()I"⟩, 48), (⟨"LetterSumsModel", "lineWorth", "(I)I"⟩, 48), (⟨"LetterSumsModel", "ahead", "(I)I"⟩, 48), (⟨"LetterSumsModel", "seekSlip", "()Z"⟩, 48), (⟨"LetterSumsModel", "isBy", "(IIIII)Z"⟩, 48)]
theorem lw_r7 : ∀ q ∈ lw_privs_7, lw_okq q := List.forall_mem_cons.mpr ⟨lw_p96, List.forall_mem_cons.mpr ⟨lw_p97, List.forall_mem_cons.mpr ⟨lw_p98, List.forall_mem_cons.mpr ⟨lw_p99, List.forall_mem_cons.mpr ⟨lw_p100, List.forall_mem_cons.mpr ⟨lw_p101, List.forall_mem_cons.mpr ⟨lw_p102, List.forall_mem_cons.mpr ⟨lw_p103, List.forall_mem_cons.mpr ⟨lw_p104, List.forall_mem_cons.mpr ⟨lw_p105, List.forall_mem_cons.mpr ⟨lw_p106, List.forall_mem_cons.mpr ⟨lw_p107, List.forall_mem_cons.mpr ⟨lw_p108, List.forall_mem_cons.mpr ⟨lw_p109, List.forall_mem_cons.mpr ⟨lw_p110, List.forall_mem_cons.mpr ⟨lw_p111, fun _ h => absurd h List.not_mem_nil⟩⟩⟩⟩⟩⟩⟩⟩⟩⟩⟩⟩⟩⟩⟩⟩
theorem lw_p112 : lw_okq (⟨"LetterSumsModel", "putRight", "(IIII)I"⟩, 48) := ⟨⟨by decide +kernel, by decide +kernel⟩, List.mem_of_getElem? (i := 998) (by decide +kernel), List.mem_of_getElem? (i := 1472) (by decide +kernel), List.mem_of_getElem? (i := 1473) (by decide +kernel)⟩
theorem lw_p113 : lw_okq (⟨"LetterSumsModel", "mix", "(J)V"⟩, 48) := ⟨⟨by decide +kernel, by decide +kernel⟩, List.mem_of_getElem? (i := 998) (by decide +kernel), List.mem_of_getElem? (i := 1485) (by decide +kernel), List.mem_of_getElem? (i := 1486) (by decide +kernel)⟩
theorem lw_p114 : lw_okq (⟨"LetterSumsModel", "mixCustoms", "()V"⟩, 48) := ⟨⟨by decide +kernel, by decide +kernel⟩, List.mem_of_getElem? (i := 998) (by decide +kernel), List.mem_of_getElem? (i := 1490) (by decide +kernel), List.mem_of_getElem? (i := 1491) (by decide +kernel)⟩
def lw_privs_8 : List (MethodName × Nat) := [(⟨"LetterSumsModel", "putRight", "(IIII)I"⟩, 48), (⟨"LetterSumsModel", "mix", "(J)V"⟩, 48), (⟨"LetterSumsModel", "mixCustoms", "()V"⟩, 48)]
theorem lw_r8 : ∀ q ∈ lw_privs_8, lw_okq q := List.forall_mem_cons.mpr ⟨lw_p112, List.forall_mem_cons.mpr ⟨lw_p113, List.forall_mem_cons.mpr ⟨lw_p114, fun _ h => absurd h List.not_mem_nil⟩⟩⟩
def lw_privs : List (MethodName × Nat) := lw_privs_1 ++ (lw_privs_2 ++ (lw_privs_3 ++ (lw_privs_4 ++ (lw_privs_5 ++ (lw_privs_6 ++ (lw_privs_7 ++ (lw_privs_8)))))))
def lw_tbl : List Cond := k2_sels lw_privs ++ tables_1
theorem lw_privs_ok : ∀ q ∈ lw_privs, lw_okq q := by
  show ∀ q ∈ lw_privs_1 ++ (lw_privs_2 ++ (lw_privs_3 ++ (lw_privs_4 ++ (lw_privs_5 ++ (lw_privs_6 ++ (lw_privs_7 ++ (lw_privs_8))))))), lw_okq q
  exact List.forall_mem_append.mpr ⟨lw_r1, List.forall_mem_append.mpr ⟨lw_r2, List.forall_mem_append.mpr ⟨lw_r3, List.forall_mem_append.mpr ⟨lw_r4, List.forall_mem_append.mpr ⟨lw_r5, List.forall_mem_append.mpr ⟨lw_r6, List.forall_mem_append.mpr ⟨lw_r7, lw_r8⟩⟩⟩⟩⟩⟩⟩
end
section
def RX0 : String := "LetterSums$Abacus"
def TX0 : u_T := fun k => match k with
  | 0 => ("LetterSums$Abacus", "given", "[I", true)
  | 1 => ("LetterSums$Abacus", "owed", "[I", true)
  | 2 => ("LetterSums$Abacus", "moreGiven", "[I", true)
  | 3 => ("LetterSums$Abacus", "moreOwed", "[I", true)
  | 4 => ("LetterSums$Abacus", "steps", "[I", true)
  | _ => ("LetterSums$Abacus", "stepsDone", "I", false)
def tyX0 : Nat → FieldType := fun k => match k with
  | 0 => .array .int
  | 1 => .array .int
  | 2 => .array .int
  | 3 => .array .int
  | 4 => .array .int
  | _ => .int
theorem nmX0 : ∀ a, a < 6 → ∀ b, b < 6 → a ≠ b → (TX0 a).2.1 ≠ (TX0 b).2.1 := by decide +kernel
theorem tyX0_ok : ∀ k, k < 6 → parseFieldDescriptor (TX0 k).2.2.1 = some (tyX0 k) := by decide +kernel
abbrev cX0_init : ByteArray := prog_2_method_1_code
def yX0_init : MethodName := ⟨RX0, "<init>", "()V"⟩
abbrev cX0_hasColumns : ByteArray := prog_2_method_2_code
def yX0_hasColumns : MethodName := ⟨RX0, "hasColumns", "(LLetterSums$Row;)Z"⟩
abbrev cX0_addRow : ByteArray := prog_2_method_3_code
def yX0_addRow : MethodName := ⟨RX0, "addRow", "(LLetterSums$Row;Z)Z"⟩
abbrev cX0_acceptMore : ByteArray := prog_2_method_4_code
def yX0_acceptMore : MethodName := ⟨RX0, "acceptMore", "()Z"⟩
abbrev cX0_pebbles : ByteArray := prog_2_method_5_code
def yX0_pebbles : MethodName := ⟨RX0, "pebbles", "()I"⟩
abbrev cX0_total : ByteArray := prog_2_method_6_code
def yX0_total : MethodName := ⟨RX0, "total", "()I"⟩
abbrev cX0_clear : ByteArray := prog_2_method_7_code
def yX0_clear : MethodName := ⟨RX0, "clear", "()V"⟩
abbrev cX0_hasBundle : ByteArray := prog_2_method_8_code
def yX0_hasBundle : MethodName := ⟨RX0, "hasBundle", "(I)Z"⟩
abbrev cX0_tieUp : ByteArray := prog_2_method_9_code
def yX0_tieUp : MethodName := ⟨RX0, "tieUp", "(I)Z"⟩
abbrev cX0_untie : ByteArray := prog_2_method_10_code
def yX0_untie : MethodName := ⟨RX0, "untie", "(I)Z"⟩
abbrev cX0_settleAll : ByteArray := prog_2_method_11_code
def yX0_settleAll : MethodName := ⟨RX0, "settleAll", "()V"⟩
abbrev cX0_nextStep : ByteArray := prog_2_method_12_code
def yX0_nextStep : MethodName := ⟨RX0, "nextStep", "()I"⟩
abbrev cX0_leastOwed : ByteArray := prog_2_method_13_code
def yX0_leastOwed : MethodName := ⟨RX0, "leastOwed", "()I"⟩
abbrev cX0_carryOut : ByteArray := prog_2_method_14_code
def yX0_carryOut : MethodName := ⟨RX0, "carryOut", "(I)Z"⟩
abbrev cX0_canBeLifted : ByteArray := prog_2_method_15_code
def yX0_canBeLifted : MethodName := ⟨RX0, "canBeLifted", "()Z"⟩
abbrev cX0_copyGiven : ByteArray := prog_2_method_16_code
def yX0_copyGiven : MethodName := ⟨RX0, "copyGiven", "(LLetterSums$Row;)V"⟩
abbrev cX0_digestOn : ByteArray := prog_2_method_17_code
def yX0_digestOn : MethodName := ⟨RX0, "digestOn", "(J)J"⟩
def RX1 : String := "LetterSums$Custom"
def TX1 : u_T := fun k => match k with
  | 0 => ("LetterSums$Custom", "counts", "[I", true)
  | 1 => ("LetterSums$Custom", "once", "[I", true)
  | _ => ("LetterSums$Custom", "twice", "[I", true)
def tyX1 : Nat → FieldType := fun k => match k with
  | 0 => .array .int
  | 1 => .array .int
  | _ => .array .int
theorem nmX1 : ∀ a, a < 3 → ∀ b, b < 3 → a ≠ b → (TX1 a).2.1 ≠ (TX1 b).2.1 := by decide +kernel
theorem tyX1_ok : ∀ k, k < 3 → parseFieldDescriptor (TX1 k).2.2.1 = some (tyX1 k) := by decide +kernel
abbrev cX1_init : ByteArray := prog_3_method_1_code
def yX1_init : MethodName := ⟨RX1, "<init>", "()V"⟩
abbrev cX1_allows : ByteArray := prog_3_method_2_code
def yX1_allows : MethodName := ⟨RX1, "allows", "(LLetterSums$Row;)Z"⟩
abbrev cX1_goodSigns : ByteArray := prog_3_method_3_code
def yX1_goodSigns : MethodName := ⟨RX1, "goodSigns", "(LLetterSums$Row;)I"⟩
abbrev cX1_after : ByteArray := prog_3_method_4_code
def yX1_after : MethodName := ⟨RX1, "after", "(II)I"⟩
abbrev cX1_isWhole : ByteArray := prog_3_method_5_code
def yX1_isWhole : MethodName := ⟨RX1, "isWhole", "(I)Z"⟩
abbrev cX1_leaveOpen : ByteArray := prog_3_method_6_code
def yX1_leaveOpen : MethodName := ⟨RX1, "leaveOpen", "(III)I"⟩
abbrev cX1_closePlain : ByteArray := prog_3_method_7_code
def yX1_closePlain : MethodName := ⟨RX1, "closePlain", "(II)I"⟩
abbrev cX1_closeTaking : ByteArray := prog_3_method_8_code
def yX1_closeTaking : MethodName := ⟨RX1, "closeTaking", "(II)I"⟩
abbrev cX1_mayTakeOnce : ByteArray := prog_3_method_9_code
def yX1_mayTakeOnce : MethodName := ⟨RX1, "mayTakeOnce", "(II)Z"⟩
abbrev cX1_mayTakeTwice : ByteArray := prog_3_method_10_code
def yX1_mayTakeTwice : MethodName := ⟨RX1, "mayTakeTwice", "(II)Z"⟩
abbrev cX1_standingOf : ByteArray := prog_3_method_11_code
def yX1_standingOf : MethodName := ⟨RX1, "standingOf", "(II)I"⟩
abbrev cX1_belowIn : ByteArray := prog_3_method_12_code
def yX1_belowIn : MethodName := ⟨RX1, "belowIn", "(I)I"⟩
abbrev cX1_signIn : ByteArray := prog_3_method_13_code
def yX1_signIn : MethodName := ⟨RX1, "signIn", "(I)I"⟩
abbrev cX1_openIn : ByteArray := prog_3_method_14_code
def yX1_openIn : MethodName := ⟨RX1, "openIn", "(I)I"⟩
abbrev cX1_digestOn : ByteArray := prog_3_method_15_code
def yX1_digestOn : MethodName := ⟨RX1, "digestOn", "(J)J"⟩
def RX2 : String := "LetterSums$Ledger"
def TX2 : u_T := fun k => match k with
  | 0 => ("LetterSums$Ledger", "amounts", "[LLetterSums$Row;", true)
  | 1 => ("LetterSums$Ledger", "totals", "[LLetterSums$Row;", true)
  | 2 => ("LetterSums$Ledger", "amountWorths", "[I", true)
  | 3 => ("LetterSums$Ledger", "totalWorths", "[I", true)
  | 4 => ("LetterSums$Ledger", "lines", "I", false)
  | 5 => ("LetterSums$Ledger", "trial", "LLetterSums$Row;", true)
  | 6 => ("LetterSums$Ledger", "slipSought", "Z", false)
  | 7 => ("LetterSums$Ledger", "slipFound", "Z", false)
  | 8 => ("LetterSums$Ledger", "slipPart", "I", false)
  | 9 => ("LetterSums$Ledger", "slipSort", "I", false)
  | 10 => ("LetterSums$Ledger", "slipPlace", "I", false)
  | _ => ("LetterSums$Ledger", "slipSign", "I", false)
def tyX2 : Nat → FieldType := fun k => match k with
  | 0 => .array (.object "LetterSums$Row")
  | 1 => .array (.object "LetterSums$Row")
  | 2 => .array .int
  | 3 => .array .int
  | 4 => .int
  | 5 => .object "LetterSums$Row"
  | 6 => .boolean
  | 7 => .boolean
  | 8 => .int
  | 9 => .int
  | 10 => .int
  | _ => .int
theorem nmX2 : ∀ a, a < 12 → ∀ b, b < 12 → a ≠ b → (TX2 a).2.1 ≠ (TX2 b).2.1 := by decide +kernel
theorem tyX2_ok : ∀ k, k < 12 → parseFieldDescriptor (TX2 k).2.2.1 = some (tyX2 k) := by decide +kernel
abbrev cX2_init : ByteArray := prog_4_method_1_code
def yX2_init : MethodName := ⟨RX2, "<init>", "()V"⟩
abbrev cX2_append : ByteArray := prog_4_method_2_code
def yX2_append : MethodName := ⟨RX2, "append", "(LLetterSums$Row;LLetterSums$Row;)V"⟩
abbrev cX2_clear : ByteArray := prog_4_method_3_code
def yX2_clear : MethodName := ⟨RX2, "clear", "()V"⟩
abbrev cX2_totalAhead : ByteArray := prog_4_method_4_code
def yX2_totalAhead : MethodName := ⟨RX2, "totalAhead", "(I)I"⟩
abbrev cX2_firstWrong : ByteArray := prog_4_method_5_code
def yX2_firstWrong : MethodName := ⟨RX2, "firstWrong", "()I"⟩
abbrev cX2_firstMended : ByteArray := prog_4_method_6_code
def yX2_firstMended : MethodName := ⟨RX2, "firstMended", "()I"⟩
abbrev cX2_findSlip : ByteArray := prog_4_method_7_code
def yX2_findSlip : MethodName := ⟨RX2, "findSlip", "()Z"⟩
abbrev cX2_canBecome : ByteArray := prog_4_method_8_code
def yX2_canBecome : MethodName := ⟨RX2, "canBecome", "(ILLetterSums$Row;I)Z"⟩
abbrev cX2_withOneMore : ByteArray := prog_4_method_9_code
def yX2_withOneMore : MethodName := ⟨RX2, "withOneMore", "(LLetterSums$Row;I)Z"⟩
abbrev cX2_withOneLess : ByteArray := prog_4_method_10_code
def yX2_withOneLess : MethodName := ⟨RX2, "withOneLess", "(LLetterSums$Row;I)Z"⟩
abbrev cX2_withOneOther : ByteArray := prog_4_method_11_code
def yX2_withOneOther : MethodName := ⟨RX2, "withOneOther", "(LLetterSums$Row;I)Z"⟩
abbrev cX2_anySignFits : ByteArray := prog_4_method_12_code
def yX2_anySignFits : MethodName := ⟨RX2, "anySignFits", "(III)Z"⟩
abbrev cX2_foundSlip : ByteArray := prog_4_method_13_code
def yX2_foundSlip : MethodName := ⟨RX2, "foundSlip", "(III)Z"⟩
abbrev cX2_digestOn : ByteArray := prog_4_method_14_code
def yX2_digestOn : MethodName := ⟨RX2, "digestOn", "(J)J"⟩
def RX3 : String := "LetterSums$Mason"
def TX3 : u_T := fun k => match k with
  | 0 => ("LetterSums$Mason", "rows", "[LLetterSums$Row;", true)
  | 1 => ("LetterSums$Mason", "noted", "I", false)
  | _ => ("LetterSums$Mason", "customBits", "I", false)
def tyX3 : Nat → FieldType := fun k => match k with
  | 0 => .array (.object "LetterSums$Row")
  | 1 => .int
  | _ => .int
theorem nmX3 : ∀ a, a < 3 → ∀ b, b < 3 → a ≠ b → (TX3 a).2.1 ≠ (TX3 b).2.1 := by decide +kernel
theorem tyX3_ok : ∀ k, k < 3 → parseFieldDescriptor (TX3 k).2.2.1 = some (tyX3 k) := by decide +kernel
abbrev cX3_init : ByteArray := prog_5_method_1_code
def yX3_init : MethodName := ⟨RX3, "<init>", "()V"⟩
abbrev cX3_remember : ByteArray := prog_5_method_2_code
def yX3_remember : MethodName := ⟨RX3, "remember", "(LLetterSums$Row;I)V"⟩
abbrev cX3_meet : ByteArray := prog_5_method_3_code
def yX3_meet : MethodName := ⟨RX3, "meet", "(LLetterSums$Custom;I)V"⟩
def RX4 : String := "LetterSums$Page"
def TX4 : u_T := fun k => match k with
  | 0 => ("LetterSums$Page", "codes", "[I", true)
  | _ => ("LetterSums$Page", "length", "I", false)
def tyX4 : Nat → FieldType := fun k => match k with
  | 0 => .array .int
  | _ => .int
theorem nmX4 : ∀ a, a < 2 → ∀ b, b < 2 → a ≠ b → (TX4 a).2.1 ≠ (TX4 b).2.1 := by decide +kernel
theorem tyX4_ok : ∀ k, k < 2 → parseFieldDescriptor (TX4 k).2.2.1 = some (tyX4 k) := by decide +kernel
abbrev cX4_init : ByteArray := prog_6_method_1_code
def yX4_init : MethodName := ⟨RX4, "<init>", "()V"⟩
abbrev cX4_codeAt : ByteArray := prog_6_method_2_code
def yX4_codeAt : MethodName := ⟨RX4, "codeAt", "(JI)I"⟩
abbrev cX4_lettersIn : ByteArray := prog_6_method_3_code
def yX4_lettersIn : MethodName := ⟨RX4, "lettersIn", "(J)I"⟩
abbrev cX4_append : ByteArray := prog_6_method_4_code
def yX4_append : MethodName := ⟨RX4, "append", "(JI)V"⟩
abbrev cX4_isRowOfSigns : ByteArray := prog_6_method_5_code
def yX4_isRowOfSigns : MethodName := ⟨RX4, "isRowOfSigns", "()Z"⟩
abbrev cX4_copySigns : ByteArray := prog_6_method_6_code
def yX4_copySigns : MethodName := ⟨RX4, "copySigns", "(LLetterSums$Row;)V"⟩
abbrev cX4_digestOn : ByteArray := prog_6_method_7_code
def yX4_digestOn : MethodName := ⟨RX4, "digestOn", "(J)J"⟩
def RX5 : String := "LetterSums$Row"
def TX5 : u_T := fun k => match k with
  | 0 => ("LetterSums$Row", "signs", "[I", true)
  | _ => ("LetterSums$Row", "length", "I", false)
def tyX5 : Nat → FieldType := fun k => match k with
  | 0 => .array .int
  | _ => .int
theorem nmX5 : ∀ a, a < 2 → ∀ b, b < 2 → a ≠ b → (TX5 a).2.1 ≠ (TX5 b).2.1 := by decide +kernel
theorem tyX5_ok : ∀ k, k < 2 → parseFieldDescriptor (TX5 k).2.2.1 = some (tyX5 k) := by decide +kernel
abbrev cX5_init : ByteArray := prog_7_method_1_code
def yX5_init : MethodName := ⟨RX5, "<init>", "()V"⟩
abbrev cX5_copy : ByteArray := prog_7_method_2_code
def yX5_copy : MethodName := ⟨RX5, "copy", "(LLetterSums$Row;)V"⟩
abbrev cX5_put : ByteArray := prog_7_method_3_code
def yX5_put : MethodName := ⟨RX5, "put", "(II)V"⟩
abbrev cX5_isTaken : ByteArray := prog_7_method_4_code
def yX5_isTaken : MethodName := ⟨RX5, "isTaken", "(IZ)Z"⟩
abbrev cX5_total : ByteArray := prog_7_method_5_code
def yX5_total : MethodName := ⟨RX5, "total", "()I"⟩
abbrev cX5_digestOn : ByteArray := prog_7_method_6_code
def yX5_digestOn : MethodName := ⟨RX5, "digestOn", "(J)J"⟩
def RX6 : String := "LetterSums$Rules"
def TX6 : u_T := fun k => match k with
  | _ => ("", "", "", false)
def tyX6 : Nat → FieldType := fun k => match k with
  | _ => .int
theorem nmX6 : ∀ a, a < 0 → ∀ b, b < 0 → a ≠ b → (TX6 a).2.1 ≠ (TX6 b).2.1 := by decide +kernel
theorem tyX6_ok : ∀ k, k < 0 → parseFieldDescriptor (TX6 k).2.2.1 = some (tyX6 k) := by decide +kernel
abbrev cX6_goodLetters : ByteArray := prog_8_method_2_code
def yX6_goodLetters : MethodName := ⟨RX6, "goodLetters", "(LLetterSums$Page;)I"⟩
abbrev cX6_isWhole : ByteArray := prog_8_method_3_code
def yX6_isWhole : MethodName := ⟨RX6, "isWhole", "(LLetterSums$Page;)Z"⟩
abbrev cX6_read : ByteArray := prog_8_method_4_code
def yX6_read : MethodName := ⟨RX6, "read", "(LLetterSums$Page;LLetterSums$Custom;)V"⟩
abbrev cX6_keep : ByteArray := prog_8_method_5_code
def yX6_keep : MethodName := ⟨RX6, "keep", "(IILLetterSums$Custom;)V"⟩
abbrev cX6_endsRule : ByteArray := prog_8_method_6_code
def yX6_endsRule : MethodName := ⟨RX6, "endsRule", "(I)Z"⟩
abbrev cX6_after : ByteArray := prog_8_method_7_code
def yX6_after : MethodName := ⟨RX6, "after", "(II)I"⟩
abbrev cX6_behindMark : ByteArray := prog_8_method_8_code
def yX6_behindMark : MethodName := ⟨RX6, "behindMark", "(II)I"⟩
abbrev cX6_behindSign : ByteArray := prog_8_method_9_code
def yX6_behindSign : MethodName := ⟨RX6, "behindSign", "(III)I"⟩
abbrev cX6_outweighs : ByteArray := prog_8_method_10_code
def yX6_outweighs : MethodName := ⟨RX6, "outweighs", "(III)Z"⟩
abbrev cX6_at : ByteArray := prog_8_method_11_code
def yX6_at : MethodName := ⟨RX6, "at", "(II)I"⟩
def RX7 : String := "LetterSums$Slab"
def TX7 : u_T := fun k => match k with
  | 0 => ("LetterSums$Slab", "signs", "[I", true)
  | 1 => ("LetterSums$Slab", "places", "I", false)
  | 2 => ("LetterSums$Slab", "reach", "I", false)
  | 3 => ("LetterSums$Slab", "filling", "LLetterSums$Row;", true)
  | 4 => ("LetterSums$Slab", "worths", "[I", false)
  | 5 => ("LetterSums$Slab", "common", "[I", true)
  | 6 => ("LetterSums$Slab", "fillings", "I", false)
  | 7 => ("LetterSums$Slab", "worthsFound", "I", false)
  | _ => ("LetterSums$Slab", "filledBy", "I", false)
def tyX7 : Nat → FieldType := fun k => match k with
  | 0 => .array .int
  | 1 => .int
  | 2 => .int
  | 3 => .object "LetterSums$Row"
  | 4 => .array .int
  | 5 => .array .int
  | 6 => .int
  | 7 => .int
  | _ => .int
theorem nmX7 : ∀ a, a < 9 → ∀ b, b < 9 → a ≠ b → (TX7 a).2.1 ≠ (TX7 b).2.1 := by decide +kernel
theorem tyX7_ok : ∀ k, k < 9 → parseFieldDescriptor (TX7 k).2.2.1 = some (tyX7 k) := by decide +kernel
abbrev cX7_init : ByteArray := prog_9_method_1_code
def yX7_init : MethodName := ⟨RX7, "<init>", "()V"⟩
abbrev cX7_placesOn : ByteArray := prog_9_method_2_code
def yX7_placesOn : MethodName := ⟨RX7, "placesOn", "(LLetterSums$Page;)I"⟩
abbrev cX7_isStone : ByteArray := prog_9_method_3_code
def yX7_isStone : MethodName := ⟨RX7, "isStone", "(LLetterSums$Page;)Z"⟩
abbrev cX7_carve : ByteArray := prog_9_method_4_code
def yX7_carve : MethodName := ⟨RX7, "carve", "(LLetterSums$Page;)V"⟩
abbrev cX7_fillBy : ByteArray := prog_9_method_5_code
def yX7_fillBy : MethodName := ⟨RX7, "fillBy", "(LLetterSums$Custom;I)V"⟩
abbrev cX7_makeRoom : ByteArray := prog_9_method_6_code
def yX7_makeRoom : MethodName := ⟨RX7, "makeRoom", "()V"⟩
abbrev cX7_fillFrom : ByteArray := prog_9_method_7_code
def yX7_fillFrom : MethodName := ⟨RX7, "fillFrom", "(LLetterSums$Slab;ILLetterSums$Custom;I)V"⟩
abbrev cX7_keepFilling : ByteArray := prog_9_method_8_code
def yX7_keepFilling : MethodName := ⟨RX7, "keepFilling", "(I)V"⟩
abbrev cX7_sortWorths : ByteArray := prog_9_method_9_code
def yX7_sortWorths : MethodName := ⟨RX7, "sortWorths", "()V"⟩
abbrev cX7_dropLikeWorths : ByteArray := prog_9_method_10_code
def yX7_dropLikeWorths : MethodName := ⟨RX7, "dropLikeWorths", "()V"⟩
abbrev cX7_digestOn : ByteArray := prog_9_method_11_code
def yX7_digestOn : MethodName := ⟨RX7, "digestOn", "(J)J"⟩
def RX8 : String := "LetterSums$Tally"
def TX8 : u_T := fun k => match k with
  | 0 => ("LetterSums$Tally", "units", "[I", true)
  | 1 => ("LetterSums$Tally", "mostTimes", "[I", true)
  | 2 => ("LetterSums$Tally", "firstCell", "[I", true)
  | _ => ("LetterSums$Tally", "counts", "[I", true)
def tyX8 : Nat → FieldType := fun k => match k with
  | 0 => .array .int
  | 1 => .array .int
  | 2 => .array .int
  | _ => .array .int
theorem nmX8 : ∀ a, a < 4 → ∀ b, b < 4 → a ≠ b → (TX8 a).2.1 ≠ (TX8 b).2.1 := by decide +kernel
theorem tyX8_ok : ∀ k, k < 4 → parseFieldDescriptor (TX8 k).2.2.1 = some (tyX8 k) := by decide +kernel
abbrev cX8_init : ByteArray := prog_10_method_1_code
def yX8_init : MethodName := ⟨RX8, "<init>", "(I)V"⟩
abbrev cX8_startOf : ByteArray := prog_10_method_2_code
def yX8_startOf : MethodName := ⟨RX8, "startOf", "(II)I"⟩
abbrev cX8_startFor : ByteArray := prog_10_method_3_code
def yX8_startFor : MethodName := ⟨RX8, "startFor", "(II)I"⟩
abbrev cX8_clearAt : ByteArray := prog_10_method_4_code
def yX8_clearAt : MethodName := ⟨RX8, "clearAt", "(I)V"⟩
abbrev cX8_addAt : ByteArray := prog_10_method_5_code
def yX8_addAt : MethodName := ⟨RX8, "addAt", "(ILLetterSums$Tally;III)V"⟩
abbrev cX8_exactly : ByteArray := prog_10_method_6_code
def yX8_exactly : MethodName := ⟨RX8, "exactly", "(III)I"⟩
abbrev cX8_atMost : ByteArray := prog_10_method_7_code
def yX8_atMost : MethodName := ⟨RX8, "atMost", "(III)I"⟩
def RX9 : String := "LetterSums$Writings"
def TX9 : u_T := fun k => match k with
  | 0 => ("LetterSums$Writings", "lower", "LLetterSums$Tally;", true)
  | 1 => ("LetterSums$Writings", "unplain", "LLetterSums$Tally;", true)
  | 2 => ("LetterSums$Writings", "found", "LLetterSums$Row;", true)
  | 3 => ("LetterSums$Writings", "custom", "LLetterSums$Custom;", false)
  | 4 => ("LetterSums$Writings", "customNumber", "I", false)
  | 5 => ("LetterSums$Writings", "number", "I", false)
  | 6 => ("LetterSums$Writings", "left", "I", false)
  | 7 => ("LetterSums$Writings", "room", "I", false)
  | 8 => ("LetterSums$Writings", "due", "I", false)
  | _ => ("LetterSums$Writings", "rank", "I", false)
def tyX9 : Nat → FieldType := fun k => match k with
  | 0 => .object "LetterSums$Tally"
  | 1 => .object "LetterSums$Tally"
  | 2 => .object "LetterSums$Row"
  | 3 => .object "LetterSums$Custom"
  | 4 => .int
  | 5 => .int
  | 6 => .int
  | 7 => .int
  | 8 => .int
  | _ => .int
theorem nmX9 : ∀ a, a < 10 → ∀ b, b < 10 → a ≠ b → (TX9 a).2.1 ≠ (TX9 b).2.1 := by decide +kernel
theorem tyX9_ok : ∀ k, k < 10 → parseFieldDescriptor (TX9 k).2.2.1 = some (tyX9 k) := by decide +kernel
abbrev cX9_init : ByteArray := prog_11_method_1_code
def yX9_init : MethodName := ⟨RX9, "<init>", "()V"⟩
abbrev cX9_prepare : ByteArray := prog_11_method_2_code
def yX9_prepare : MethodName := ⟨RX9, "prepare", "(LLetterSums$Custom;II)V"⟩
abbrev cX9_countTakings : ByteArray := prog_11_method_3_code
def yX9_countTakings : MethodName := ⟨RX9, "countTakings", "(I)V"⟩
abbrev cX9_countPlain : ByteArray := prog_11_method_4_code
def yX9_countPlain : MethodName := ⟨RX9, "countPlain", "(I)V"⟩
abbrev cX9_inAll : ByteArray := prog_11_method_5_code
def yX9_inAll : MethodName := ⟨RX9, "inAll", "()I"⟩
abbrev cX9_findByOrder : ByteArray := prog_11_method_6_code
def yX9_findByOrder : MethodName := ⟨RX9, "findByOrder", "(I)Z"⟩
abbrev cX9_findShortest : ByteArray := prog_11_method_7_code
def yX9_findShortest : MethodName := ⟨RX9, "findShortest", "()Z"⟩
abbrev cX9_walk : ByteArray := prog_11_method_8_code
def yX9_walk : MethodName := ⟨RX9, "walk", "(II)V"⟩
abbrev cX9_choosePlain : ByteArray := prog_11_method_9_code
def yX9_choosePlain : MethodName := ⟨RX9, "choosePlain", "(I)V"⟩
abbrev cX9_chooseTaking : ByteArray := prog_11_method_10_code
def yX9_chooseTaking : MethodName := ⟨RX9, "chooseTaking", "(I)I"⟩
abbrev cX9_goes : ByteArray := prog_11_method_11_code
def yX9_goes : MethodName := ⟨RX9, "goes", "(LLetterSums$Tally;III)Z"⟩
def RX10 : String := "LetterSums"
def TX10 : u_T := fun k => match k with
  | 0 => ("LetterSums", "page", "LLetterSums$Page;", true)
  | 1 => ("LetterSums", "customs", "[LLetterSums$Custom;", true)
  | 2 => ("LetterSums", "rows", "[LLetterSums$Row;", true)
  | 3 => ("LetterSums", "writings", "LLetterSums$Writings;", true)
  | 4 => ("LetterSums", "abacus", "LLetterSums$Abacus;", true)
  | 5 => ("LetterSums", "slab", "LLetterSums$Slab;", true)
  | 6 => ("LetterSums", "masons", "[LLetterSums$Mason;", true)
  | 7 => ("LetterSums", "ledger", "LLetterSums$Ledger;", true)
  | 8 => ("LetterSums", "customsRead", "I", false)
  | 9 => ("LetterSums", "timesWritten", "I", false)
  | _ => ("LetterSums", "timesStoneRead", "I", false)
def tyX10 : Nat → FieldType := fun k => match k with
  | 0 => .object "LetterSums$Page"
  | 1 => .array (.object "LetterSums$Custom")
  | 2 => .array (.object "LetterSums$Row")
  | 3 => .object "LetterSums$Writings"
  | 4 => .object "LetterSums$Abacus"
  | 5 => .object "LetterSums$Slab"
  | 6 => .array (.object "LetterSums$Mason")
  | 7 => .object "LetterSums$Ledger"
  | 8 => .int
  | 9 => .int
  | _ => .int
theorem nmX10 : ∀ a, a < 11 → ∀ b, b < 11 → a ≠ b → (TX10 a).2.1 ≠ (TX10 b).2.1 := by decide +kernel
theorem tyX10_ok : ∀ k, k < 11 → parseFieldDescriptor (TX10 k).2.2.1 = some (tyX10 k) := by decide +kernel
abbrev cX10_init : ByteArray := prog_1_method_1_code
def yX10_init : MethodName := ⟨RX10, "<init>", "()V"⟩
abbrev cX10_letters : ByteArray := prog_1_method_2_code
def yX10_letters : MethodName := ⟨RX10, "letters", "(J)I"⟩
abbrev cX10_blank : ByteArray := prog_1_method_3_code
def yX10_blank : MethodName := ⟨RX10, "blank", "()I"⟩
abbrev cX10_good : ByteArray := prog_1_method_4_code
def yX10_good : MethodName := ⟨RX10, "good", "()I"⟩
abbrev cX10_custom : ByteArray := prog_1_method_5_code
def yX10_custom : MethodName := ⟨RX10, "custom", "()I"⟩
abbrev cX10_asks : ByteArray := prog_1_method_6_code
def yX10_asks : MethodName := ⟨RX10, "asks", "(III)I"⟩
abbrev cX10_row : ByteArray := prog_1_method_7_code
def yX10_row : MethodName := ⟨RX10, "row", "(I)I"⟩
abbrev cX10_sign : ByteArray := prog_1_method_8_code
def yX10_sign : MethodName := ⟨RX10, "sign", "(II)I"⟩
abbrev cX10_worth : ByteArray := prog_1_method_9_code
def yX10_worth : MethodName := ⟨RX10, "worth", "(I)I"⟩
abbrev cX10_keeps : ByteArray := prog_1_method_10_code
def yX10_keeps : MethodName := ⟨RX10, "keeps", "(II)I"⟩
abbrev cX10_begins : ByteArray := prog_1_method_11_code
def yX10_begins : MethodName := ⟨RX10, "begins", "(II)I"⟩
abbrev cX10_ways : ByteArray := prog_1_method_12_code
def yX10_ways : MethodName := ⟨RX10, "ways", "(II)I"⟩
abbrev cX10_write : ByteArray := prog_1_method_13_code
def yX10_write : MethodName := ⟨RX10, "write", "(IIII)I"⟩
abbrev cX10_board : ByteArray := prog_1_method_14_code
def yX10_board : MethodName := ⟨RX10, "board", "(II)I"⟩
abbrev cX10_pour : ByteArray := prog_1_method_15_code
def yX10_pour : MethodName := ⟨RX10, "pour", "(IZ)I"⟩
abbrev cX10_bundle : ByteArray := prog_1_method_16_code
def yX10_bundle : MethodName := ⟨RX10, "bundle", "(I)I"⟩
abbrev cX10_unbundle : ByteArray := prog_1_method_17_code
def yX10_unbundle : MethodName := ⟨RX10, "unbundle", "(I)I"⟩
abbrev cX10_settle : ByteArray := prog_1_method_18_code
def yX10_settle : MethodName := ⟨RX10, "settle", "()I"⟩
abbrev cX10_step : ByteArray := prog_1_method_19_code
def yX10_step : MethodName := ⟨RX10, "step", "(I)I"⟩
abbrev cX10_holds : ByteArray := prog_1_method_20_code
def yX10_holds : MethodName := ⟨RX10, "holds", "()I"⟩
abbrev cX10_lift : ByteArray := prog_1_method_21_code
def yX10_lift : MethodName := ⟨RX10, "lift", "(I)I"⟩
abbrev cX10_sweep : ByteArray := prog_1_method_22_code
def yX10_sweep : MethodName := ⟨RX10, "sweep", "()I"⟩
abbrev cX10_times : ByteArray := prog_1_method_23_code
def yX10_times : MethodName := ⟨RX10, "times", "(III)I"⟩
abbrev cX10_parts : ByteArray := prog_1_method_24_code
def yX10_parts : MethodName := ⟨RX10, "parts", "(III)I"⟩
abbrev cX10_stone : ByteArray := prog_1_method_25_code
def yX10_stone : MethodName := ⟨RX10, "stone", "()I"⟩
abbrev cX10_could : ByteArray := prog_1_method_26_code
def yX10_could : MethodName := ⟨RX10, "could", "(I)I"⟩
abbrev cX10_says : ByteArray := prog_1_method_27_code
def yX10_says : MethodName := ⟨RX10, "says", "(II)I"⟩
abbrev cX10_sure : ByteArray := prog_1_method_28_code
def yX10_sure : MethodName := ⟨RX10, "sure", "(II)I"⟩
abbrev cX10_note : ByteArray := prog_1_method_29_code
def yX10_note : MethodName := ⟨RX10, "note", "(II)I"⟩
abbrev cX10_habit : ByteArray := prog_1_method_30_code
def yX10_habit : MethodName := ⟨RX10, "habit", "(I)I"⟩
abbrev cX10_hands : ByteArray := prog_1_method_31_code
def yX10_hands : MethodName := ⟨RX10, "hands", "(I)I"⟩
abbrev cX10_line : ByteArray := prog_1_method_32_code
def yX10_line : MethodName := ⟨RX10, "line", "(II)I"⟩
abbrev cX10_tear : ByteArray := prog_1_method_33_code
def yX10_tear : MethodName := ⟨RX10, "tear", "()I"⟩
abbrev cX10_wrong : ByteArray := prog_1_method_34_code
def yX10_wrong : MethodName := ⟨RX10, "wrong", "()I"⟩
abbrev cX10_mended : ByteArray := prog_1_method_35_code
def yX10_mended : MethodName := ⟨RX10, "mended", "()I"⟩
abbrev cX10_slip : ByteArray := prog_1_method_36_code
def yX10_slip : MethodName := ⟨RX10, "slip", "(I)I"⟩
abbrev cX10_count : ByteArray := prog_1_method_37_code
def yX10_count : MethodName := ⟨RX10, "count", "(I)I"⟩
abbrev cX10_digest : ByteArray := prog_1_method_38_code
def yX10_digest : MethodName := ⟨RX10, "digest", "()J"⟩
abbrev cX10_mix : ByteArray := prog_1_method_39_code
def yX10_mix : MethodName := ⟨RX10, "mix", "(JJ)J"⟩
abbrev cX10_isRow : ByteArray := prog_1_method_40_code
def yX10_isRow : MethodName := ⟨RX10, "isRow", "(I)Z"⟩
abbrev cX10_isMason : ByteArray := prog_1_method_41_code
def yX10_isMason : MethodName := ⟨RX10, "isMason", "(I)Z"⟩
abbrev cX10_isNumber : ByteArray := prog_1_method_42_code
def yX10_isNumber : MethodName := ⟨RX10, "isNumber", "(I)Z"⟩
abbrev cX10_isCustom : ByteArray := prog_1_method_43_code
def yX10_isCustom : MethodName := ⟨RX10, "isCustom", "(I)Z"⟩
abbrev cX10_customsAllowing : ByteArray := prog_1_method_44_code
def yX10_customsAllowing : MethodName := ⟨RX10, "customsAllowing", "(LLetterSums$Row;)I"⟩
abbrev cX10_readStone : ByteArray := prog_1_method_45_code
def yX10_readStone : MethodName := ⟨RX10, "readStone", "(I)Z"⟩
abbrev cX10_halvings : ByteArray := prog_1_method_46_code
def yX10_halvings : MethodName := ⟨RX10, "halvings", "(I)I"⟩
abbrev cX10_product : ByteArray := prog_1_method_47_code
def yX10_product : MethodName := ⟨RX10, "product", "(II)I"⟩
abbrev cX10_doublings : ByteArray := prog_1_method_48_code
def yX10_doublings : MethodName := ⟨RX10, "doublings", "(II)I"⟩
abbrev cX10_linesTaken : ByteArray := prog_1_method_49_code
def yX10_linesTaken : MethodName := ⟨RX10, "linesTaken", "(II)I"⟩
abbrev cX10_signOf : ByteArray := prog_1_method_50_code
def yX10_signOf : MethodName := ⟨RX10, "signOf", "(I)I"⟩
def RX11 : String := "LetterSumsModel"
def TX11 : u_T := fun k => match k with
  | 0 => ("LetterSumsModel", "worths", "[I", true)
  | 1 => ("LetterSumsModel", "codes", "[I", true)
  | 2 => ("LetterSumsModel", "pageLength", "I", false)
  | 3 => ("LetterSumsModel", "page", "[B", true)
  | 4 => ("LetterSumsModel", "customs", "I", false)
  | 5 => ("LetterSumsModel", "counts", "[I", true)
  | 6 => ("LetterSumsModel", "once", "[I", true)
  | 7 => ("LetterSumsModel", "twiceOf", "[I", true)
  | 8 => ("LetterSumsModel", "sizes", "[I", true)
  | 9 => ("LetterSumsModel", "signs", "[I", true)
  | 10 => ("LetterSumsModel", "given", "[I", true)
  | 11 => ("LetterSumsModel", "owed", "[I", true)
  | 12 => ("LetterSumsModel", "stepMany", "I", false)
  | 13 => ("LetterSumsModel", "stepOf", "[I", true)
  | 14 => ("LetterSumsModel", "places", "I", false)
  | 15 => ("LetterSumsModel", "isBroken", "Z", false)
  | 16 => ("LetterSumsModel", "stoneOf", "[I", true)
  | 17 => ("LetterSumsModel", "noted", "[I", true)
  | 18 => ("LetterSumsModel", "notedSize", "[I", true)
  | 19 => ("LetterSumsModel", "notedSigns", "[I", true)
  | 20 => ("LetterSumsModel", "lines", "I", false)
  | 21 => ("LetterSumsModel", "lineSize", "[I", true)
  | 22 => ("LetterSumsModel", "lineSigns", "[I", true)
  | 23 => ("LetterSumsModel", "waysDone", "I", false)
  | 24 => ("LetterSumsModel", "stonesDone", "I", false)
  | 25 => ("LetterSumsModel", "good", "I", false)
  | 26 => ("LetterSumsModel", "isWhole", "Z", false)
  | 27 => ("LetterSumsModel", "plains", "[I", true)
  | 28 => ("LetterSumsModel", "takings", "[I", true)
  | 29 => ("LetterSumsModel", "caps", "[I", true)
  | 30 => ("LetterSumsModel", "lefts", "[I", true)
  | 31 => ("LetterSumsModel", "usedOf", "[I", true)
  | 32 => ("LetterSumsModel", "mostOf", "[I", true)
  | 33 => ("LetterSumsModel", "leastOf", "[I", true)
  | 34 => ("LetterSumsModel", "sharedOf", "[I", true)
  | 35 => ("LetterSumsModel", "found", "I", false)
  | 36 => ("LetterSumsModel", "shortest", "I", false)
  | 37 => ("LetterSumsModel", "saidMany", "I", false)
  | 38 => ("LetterSumsModel", "said", "[I", true)
  | 39 => ("LetterSumsModel", "hash", "[I", true)
  | 40 => ("LetterSumsModel", "sureOf", "[I", true)
  | 41 => ("LetterSumsModel", "fill", "[I", true)
  | 42 => ("LetterSumsModel", "right", "[I", true)
  | 43 => ("LetterSumsModel", "slipPart", "I", false)
  | 44 => ("LetterSumsModel", "slipSort", "I", false)
  | 45 => ("LetterSumsModel", "slipPlace", "I", false)
  | 46 => ("LetterSumsModel", "slipSign", "I", false)
  | _ => ("LetterSumsModel", "h", "J", false)
def tyX11 : Nat → FieldType := fun k => match k with
  | 0 => .array .int
  | 1 => .array .int
  | 2 => .int
  | 3 => .array .byte
  | 4 => .int
  | 5 => .array .int
  | 6 => .array .int
  | 7 => .array .int
  | 8 => .array .int
  | 9 => .array .int
  | 10 => .array .int
  | 11 => .array .int
  | 12 => .int
  | 13 => .array .int
  | 14 => .int
  | 15 => .boolean
  | 16 => .array .int
  | 17 => .array .int
  | 18 => .array .int
  | 19 => .array .int
  | 20 => .int
  | 21 => .array .int
  | 22 => .array .int
  | 23 => .int
  | 24 => .int
  | 25 => .int
  | 26 => .boolean
  | 27 => .array .int
  | 28 => .array .int
  | 29 => .array .int
  | 30 => .array .int
  | 31 => .array .int
  | 32 => .array .int
  | 33 => .array .int
  | 34 => .array .int
  | 35 => .int
  | 36 => .int
  | 37 => .int
  | 38 => .array .int
  | 39 => .array .int
  | 40 => .array .int
  | 41 => .array .int
  | 42 => .array .int
  | 43 => .int
  | 44 => .int
  | 45 => .int
  | 46 => .int
  | _ => .long
theorem nmX11 : ∀ a, a < 48 → ∀ b, b < 48 → a ≠ b → (TX11 a).2.1 ≠ (TX11 b).2.1 := by decide +kernel
theorem tyX11_ok : ∀ k, k < 48 → parseFieldDescriptor (TX11 k).2.2.1 = some (tyX11 k) := by decide +kernel
abbrev cX11_init : ByteArray := prog_13_method_1_code
def yX11_init : MethodName := ⟨RX11, "<init>", "()V"⟩
abbrev cX11_in : ByteArray := prog_13_method_3_code
def yX11_in : MethodName := ⟨RX11, "in", "(III)Z"⟩
abbrev cX11_letters : ByteArray := prog_13_method_4_code
def yX11_letters : MethodName := ⟨RX11, "letters", "(J)I"⟩
abbrev cX11_blank : ByteArray := prog_13_method_5_code
def yX11_blank : MethodName := ⟨RX11, "blank", "()I"⟩
abbrev cX11_signOf : ByteArray := prog_13_method_6_code
def yX11_signOf : MethodName := ⟨RX11, "signOf", "(I)I"⟩
abbrev cX11_readCustom : ByteArray := prog_13_method_7_code
def yX11_readCustom : MethodName := ⟨RX11, "readCustom", "()V"⟩
abbrev cX11_isMore : ByteArray := prog_13_method_8_code
def yX11_isMore : MethodName := ⟨RX11, "isMore", "(IIZ)Z"⟩
abbrev cX11_good : ByteArray := prog_13_method_9_code
def yX11_good : MethodName := ⟨RX11, "good", "()I"⟩
abbrev cX11_custom : ByteArray := prog_13_method_10_code
def yX11_custom : MethodName := ⟨RX11, "custom", "()I"⟩
abbrev cX11_isCustom : ByteArray := prog_13_method_11_code
def yX11_isCustom : MethodName := ⟨RX11, "isCustom", "(I)Z"⟩
abbrev cX11_asks : ByteArray := prog_13_method_12_code
def yX11_asks : MethodName := ⟨RX11, "asks", "(III)I"⟩
abbrev cX11_isRow : ByteArray := prog_13_method_13_code
def yX11_isRow : MethodName := ⟨RX11, "isRow", "(I)Z"⟩
abbrev cX11_row : ByteArray := prog_13_method_14_code
def yX11_row : MethodName := ⟨RX11, "row", "(I)I"⟩
abbrev cX11_sign : ByteArray := prog_13_method_15_code
def yX11_sign : MethodName := ⟨RX11, "sign", "(II)I"⟩
abbrev cX11_isTaken : ByteArray := prog_13_method_16_code
def yX11_isTaken : MethodName := ⟨RX11, "isTaken", "([IIII)Z"⟩
abbrev cX11_worthOf : ByteArray := prog_13_method_17_code
def yX11_worthOf : MethodName := ⟨RX11, "worthOf", "([III)I"⟩
abbrev cX11_worth : ByteArray := prog_13_method_18_code
def yX11_worth : MethodName := ⟨RX11, "worth", "(I)I"⟩
abbrev cX11_keepsAll : ByteArray := prog_13_method_19_code
def yX11_keepsAll : MethodName := ⟨RX11, "keepsAll", "([IIIIZ)Z"⟩
abbrev cX11_mayTake : ByteArray := prog_13_method_20_code
def yX11_mayTake : MethodName := ⟨RX11, "mayTake", "(IIII)Z"⟩
abbrev cX11_mayBegin : ByteArray := prog_13_method_21_code
def yX11_mayBegin : MethodName := ⟨RX11, "mayBegin", "(IIIII)Z"⟩
abbrev cX11_keeps : ByteArray := prog_13_method_22_code
def yX11_keeps : MethodName := ⟨RX11, "keeps", "(II)I"⟩
abbrev cX11_begins : ByteArray := prog_13_method_23_code
def yX11_begins : MethodName := ⟨RX11, "begins", "(II)I"⟩
abbrev cX11_shared : ByteArray := prog_13_method_24_code
def yX11_shared : MethodName := ⟨RX11, "shared", "(II)I"⟩
abbrev cX11_bound : ByteArray := prog_13_method_25_code
def yX11_bound : MethodName := ⟨RX11, "bound", "(I)V"⟩
abbrev cX11_mayCome : ByteArray := prog_13_method_26_code
def yX11_mayCome : MethodName := ⟨RX11, "mayCome", "(III)Z"⟩
abbrev cX11_signsOf : ByteArray := prog_13_method_27_code
def yX11_signsOf : MethodName := ⟨RX11, "signsOf", "(I)I"⟩
abbrev cX11_worthBy : ByteArray := prog_13_method_28_code
def yX11_worthBy : MethodName := ⟨RX11, "worthBy", "(I)I"⟩
abbrev cX11_isAllowed : ByteArray := prog_13_method_29_code
def yX11_isAllowed : MethodName := ⟨RX11, "isAllowed", "(II)Z"⟩
abbrev cX11_nextWay : ByteArray := prog_13_method_30_code
def yX11_nextWay : MethodName := ⟨RX11, "nextWay", "(II)Z"⟩
abbrev cX11_seek : ByteArray := prog_13_method_31_code
def yX11_seek : MethodName := ⟨RX11, "seek", "(III)V"⟩
abbrev cX11_down : ByteArray := prog_13_method_32_code
def yX11_down : MethodName := ⟨RX11, "down", "(IIII)I"⟩
abbrev cX11_open : ByteArray := prog_13_method_33_code
def yX11_open : MethodName := ⟨RX11, "open", "(II)V"⟩
abbrev cX11_noteOne : ByteArray := prog_13_method_34_code
def yX11_noteOne : MethodName := ⟨RX11, "noteOne", "(II)V"⟩
abbrev cX11_layRow : ByteArray := prog_13_method_35_code
def yX11_layRow : MethodName := ⟨RX11, "layRow", "()V"⟩
abbrev cX11_ways : ByteArray := prog_13_method_36_code
def yX11_ways : MethodName := ⟨RX11, "ways", "(II)I"⟩
abbrev cX11_write : ByteArray := prog_13_method_37_code
def yX11_write : MethodName := ⟨RX11, "write", "(IIII)I"⟩
abbrev cX11_board : ByteArray := prog_13_method_38_code
def yX11_board : MethodName := ⟨RX11, "board", "(II)I"⟩
abbrev cX11_onBoard : ByteArray := prog_13_method_39_code
def yX11_onBoard : MethodName := ⟨RX11, "onBoard", "()I"⟩
abbrev cX11_pour : ByteArray := prog_13_method_40_code
def yX11_pour : MethodName := ⟨RX11, "pour", "(IZ)I"⟩
abbrev cX11_poured : ByteArray := prog_13_method_41_code
def yX11_poured : MethodName := ⟨RX11, "poured", "(IIZ)I"⟩
abbrev cX11_bundleOf : ByteArray := prog_13_method_42_code
def yX11_bundleOf : MethodName := ⟨RX11, "bundleOf", "(I)I"⟩
abbrev cX11_bundle : ByteArray := prog_13_method_43_code
def yX11_bundle : MethodName := ⟨RX11, "bundle", "(I)I"⟩
abbrev cX11_unbundle : ByteArray := prog_13_method_44_code
def yX11_unbundle : MethodName := ⟨RX11, "unbundle", "(I)I"⟩
abbrev cX11_firstStep : ByteArray := prog_13_method_45_code
def yX11_firstStep : MethodName := ⟨RX11, "firstStep", "()I"⟩
abbrev cX11_doStep : ByteArray := prog_13_method_46_code
def yX11_doStep : MethodName := ⟨RX11, "doStep", "(I)Z"⟩
abbrev cX11_settle : ByteArray := prog_13_method_47_code
def yX11_settle : MethodName := ⟨RX11, "settle", "()I"⟩
abbrev cX11_step : ByteArray := prog_13_method_48_code
def yX11_step : MethodName := ⟨RX11, "step", "(I)I"⟩
abbrev cX11_holds : ByteArray := prog_13_method_49_code
def yX11_holds : MethodName := ⟨RX11, "holds", "()I"⟩
abbrev cX11_lift : ByteArray := prog_13_method_50_code
def yX11_lift : MethodName := ⟨RX11, "lift", "(I)I"⟩
abbrev cX11_sweep : ByteArray := prog_13_method_51_code
def yX11_sweep : MethodName := ⟨RX11, "sweep", "()I"⟩
abbrev cX11_times : ByteArray := prog_13_method_52_code
def yX11_times : MethodName := ⟨RX11, "times", "(III)I"⟩
abbrev cX11_parts : ByteArray := prog_13_method_53_code
def yX11_parts : MethodName := ⟨RX11, "parts", "(III)I"⟩
abbrev cX11_stone : ByteArray := prog_13_method_54_code
def yX11_stone : MethodName := ⟨RX11, "stone", "()I"⟩
abbrev cX11_say : ByteArray := prog_13_method_55_code
def yX11_say : MethodName := ⟨RX11, "say", "(I)V"⟩
abbrev cX11_fillAll : ByteArray := prog_13_method_56_code
def yX11_fillAll : MethodName := ⟨RX11, "fillAll", "(I)V"⟩
abbrev cX11_fillTo : ByteArray := prog_13_method_57_code
def yX11_fillTo : MethodName := ⟨RX11, "fillTo", "(II)V"⟩
abbrev cX11_isOpen : ByteArray := prog_13_method_58_code
def yX11_isOpen : MethodName := ⟨RX11, "isOpen", "(I)Z"⟩
abbrev cX11_first : ByteArray := prog_13_method_59_code
def yX11_first : MethodName := ⟨RX11, "first", "(I)I"⟩
abbrev cX11_after : ByteArray := prog_13_method_60_code
def yX11_after : MethodName := ⟨RX11, "after", "(I)I"⟩
abbrev cX11_take : ByteArray := prog_13_method_61_code
def yX11_take : MethodName := ⟨RX11, "take", "(I)V"⟩
abbrev cX11_isShut : ByteArray := prog_13_method_62_code
def yX11_isShut : MethodName := ⟨RX11, "isShut", "()Z"⟩
abbrev cX11_could : ByteArray := prog_13_method_63_code
def yX11_could : MethodName := ⟨RX11, "could", "(I)I"⟩
abbrev cX11_says : ByteArray := prog_13_method_64_code
def yX11_says : MethodName := ⟨RX11, "says", "(II)I"⟩
abbrev cX11_sure : ByteArray := prog_13_method_65_code
def yX11_sure : MethodName := ⟨RX11, "sure", "(II)I"⟩
abbrev cX11_isMason : ByteArray := prog_13_method_66_code
def yX11_isMason : MethodName := ⟨RX11, "isMason", "(I)Z"⟩
abbrev cX11_note : ByteArray := prog_13_method_67_code
def yX11_note : MethodName := ⟨RX11, "note", "(II)I"⟩
abbrev cX11_habitOf : ByteArray := prog_13_method_68_code
def yX11_habitOf : MethodName := ⟨RX11, "habitOf", "(I)I"⟩
abbrev cX11_habit : ByteArray := prog_13_method_69_code
def yX11_habit : MethodName := ⟨RX11, "habit", "(I)I"⟩
abbrev cX11_hands : ByteArray := prog_13_method_70_code
def yX11_hands : MethodName := ⟨RX11, "hands", "(I)I"⟩
abbrev cX11_line : ByteArray := prog_13_method_71_code
def yX11_line : MethodName := ⟨RX11, "line", "(II)I"⟩
abbrev cX11_layLine : ByteArray := prog_13_method_72_code
def yX11_layLine : MethodName := ⟨RX11, "layLine", "(II)V"⟩
abbrev cX11_tear : ByteArray := prog_13_method_73_code
def yX11_tear : MethodName := ⟨RX11, "tear", "()I"⟩
abbrev cX11_lineWorth : ByteArray := prog_13_method_74_code
def yX11_lineWorth : MethodName := ⟨RX11, "lineWorth", "(I)I"⟩
abbrev cX11_ahead : ByteArray := prog_13_method_75_code
def yX11_ahead : MethodName := ⟨RX11, "ahead", "(I)I"⟩
abbrev cX11_wrongAt : ByteArray := prog_13_method_76_code
def yX11_wrongAt : MethodName := ⟨RX11, "wrongAt", "()I"⟩
abbrev cX11_wrong : ByteArray := prog_13_method_77_code
def yX11_wrong : MethodName := ⟨RX11, "wrong", "()I"⟩
abbrev cX11_mended : ByteArray := prog_13_method_78_code
def yX11_mended : MethodName := ⟨RX11, "mended", "()I"⟩
abbrev cX11_putRight : ByteArray := prog_13_method_79_code
def yX11_putRight : MethodName := ⟨RX11, "putRight", "(IIII)I"⟩
abbrev cX11_isBy : ByteArray := prog_13_method_80_code
def yX11_isBy : MethodName := ⟨RX11, "isBy", "(IIIII)Z"⟩
abbrev cX11_seekSlip : ByteArray := prog_13_method_81_code
def yX11_seekSlip : MethodName := ⟨RX11, "seekSlip", "()Z"⟩
abbrev cX11_slip : ByteArray := prog_13_method_82_code
def yX11_slip : MethodName := ⟨RX11, "slip", "(I)I"⟩
abbrev cX11_count : ByteArray := prog_13_method_83_code
def yX11_count : MethodName := ⟨RX11, "count", "(I)I"⟩
abbrev cX11_mix : ByteArray := prog_13_method_84_code
def yX11_mix : MethodName := ⟨RX11, "mix", "(J)V"⟩
abbrev cX11_mixCustoms : ByteArray := prog_13_method_85_code
def yX11_mixCustoms : MethodName := ⟨RX11, "mixCustoms", "()V"⟩
abbrev cX11_digest : ByteArray := prog_13_method_86_code
def yX11_digest : MethodName := ⟨RX11, "digest", "()J"⟩
end
section
/-! ===== A memory of numbered cells: cell k lies at the address B + k; the cells below B are as they were at the law's start ===== -/
/-- the classes whose objects there are -/
def ax_cl : List vw_C := [(RX0, TX0, 6), (RX1, TX1, 3), (RX2, TX2, 12), (RX3, TX3, 3), (RX4, TX4, 2), (RX5, TX5, 2), (RX5, TX5, 2), (RX7, TX7, 9), (RX8, TX8, 4), (RX9, TX9, 10), (RX10, TX10, 11), (RX11, TX11, 48)]
def ax_ty (ci k : Nat) : FieldType := match ci with
  | 0 => tyX0 k | 1 => tyX1 k | 2 => tyX2 k | 3 => tyX3 k | 4 => tyX4 k | 5 => tyX5 k | 6 => tyX5 k | 7 => tyX7 k | 8 => tyX8 k | 9 => tyX9 k | 10 => tyX10 k | _ => tyX11 k
theorem ax_ty_ok {ci N : Nat} {C : String} {T : u_T} (h : ax_cl[ci]? = some (C, T, N)) : ∀ k, k < N → parseFieldDescriptor (T k).2.2.1 = some (ax_ty ci k) := by
  match ci, h with
  | 0, h => cases h; exact tyX0_ok
  | 1, h => cases h; exact tyX1_ok
  | 2, h => cases h; exact tyX2_ok
  | 3, h => cases h; exact tyX3_ok
  | 4, h => cases h; exact tyX4_ok
  | 5, h => cases h; exact tyX5_ok
  | 6, h => cases h; exact tyX5_ok
  | 7, h => cases h; exact tyX7_ok
  | 8, h => cases h; exact tyX8_ok
  | 9, h => cases h; exact tyX9_ok
  | 10, h => cases h; exact tyX10_ok
  | 11, h => cases h; exact tyX11_ok
  | n + 12, h => simp [ax_cl] at h
theorem ax_nm {ci N : Nat} {C : String} {T : u_T} (h : ax_cl[ci]? = some (C, T, N)) : ∀ a, a < N → ∀ b, b < N → a ≠ b → (T a).2.1 ≠ (T b).2.1 := by
  match ci, h with
  | 0, h => cases h; exact nmX0
  | 1, h => cases h; exact nmX1
  | 2, h => cases h; exact nmX2
  | 3, h => cases h; exact nmX3
  | 4, h => cases h; exact nmX4
  | 5, h => cases h; exact nmX5
  | 6, h => cases h; exact nmX5
  | 7, h => cases h; exact nmX7
  | 8, h => cases h; exact nmX8
  | 9, h => cases h; exact nmX9
  | 10, h => cases h; exact nmX10
  | 11, h => cases h; exact nmX11
  | n + 12, h => simp [ax_cl] at h
/-- the words that stay through calls -/
def ax_G : List Cond := lw_tbl.filter goodWord
theorem ax_G_in {w : Cond} (h : w ∈ lw_tbl) (hg : goodWord w = true) : w ∈ ax_G := List.mem_filter.mpr ⟨h, hg⟩
theorem ax_lays_all : ax_cl.all (fun q => (u_ws q.1 q.2.1 q.2.2).all (fun w => lw_tbl.contains w && goodWord w)) = true := by decide +kernel
theorem ax_lay {ci N : Nat} {C : String} {T : u_T} (h : ax_cl[ci]? = some (C, T, N)) : ∀ w ∈ u_ws C T N, w ∈ ax_G := by
  intro w hw
  have h1 := List.all_eq_true.mp (List.all_eq_true.mp ax_lays_all _ (List.mem_of_getElem? h)) w hw
  simp only [Bool.and_eq_true] at h1
  exact ax_G_in (by simpa using h1.1) h1.2
def ax_nest : Cond → Bool
  | .fieldLinkNest _ _ _ _ _ _ => true
  | .methodLinkNest _ _ _ _ => true
  | _ => false
/-- static arrays: class, field, contents -/
def ax_st : List (String × String × List Int32) := [("LetterSums", "WORTH", [1, 5, 10, 50, 100, 500, 1000, 1000, 5000, 10000, 50000, 100000, 500000, 1000000]), ("LetterSums$Abacus", "BUNDLE", [5, 2, 5, 2, 5, 2])]
/-- element types of the arrays that are made -/
def ax_tn : List FieldType := [.int, .byte, .object "LetterSums$Row", .object "LetterSums$Custom", .object "LetterSums$Mason"]
/-- an abstract cell: an array (number of its type, length, contents), or an object (number of its class, fields). References are numbers of cells -/
abbrev ax_C : Type := (Nat × Nat × ((Nat → Int32) ⊕ (Nat → Option Nat))) ⊕ (Nat × List Value)
/-- D, B, the heap at the law's start, what the symbols stand for, addresses of the static arrays, array classes -/
abbrev ax_T : Type := va_G × Nat × Heap × (Nat → Int32) × (Nat → Nat) × List (ClassId × FieldType)
/-- an abstract value: .ref k is cell k, .float u the symbol u (an int), .retAddr j static array j -/
def ax_v (G : ax_T) : Value → Value
  | .ref k => .ref (G.2.1 + k)
  | .float u => .int (G.2.2.2.1 u.toNat)
  | .retAddr j => .ref (G.2.2.2.2.1 j)
  | .int x => .int x
  | .long x => .long x
  | .double x => .double x
  | .null => .null
theorem ax_cat (G : ax_T) (v : Value) : (ax_v G v).category = v.category := by cases v <;> rfl
def ax_e (G : ax_T) : ax_C → va_E
  | .inl (t, n, .inl f) => .inl ((G.2.2.2.2.2.getD t (0, .int)).1, n, .inl f)
  | .inl (t, n, .inr f) => .inl ((G.2.2.2.2.2.getD t (0, .int)).1, n, .inr (.inr (.inr (.inr (fun j => (f j).map (G.2.1 + ·))))))
  | .inr (ci, fs) => .inr (ci, fs.map (ax_v G))
def ax_R (G : ax_T) (g : Nat → Option ax_C) (n : Nat) (H : Heap) : Prop :=
  H.size = G.2.1 + n ∧ (∀ (k : Nat) (c : ax_C), g k = some c → va_at G.1 ax_cl (G.2.1 + k, ax_e G c) H) ∧ ∀ q : Nat, q < G.2.1 → H[q]? = G.2.2.1[q]?
theorem ax_R.set {G : ax_T} {g g' : Nat → Option ax_C} {n k : Nat} {c : ax_C} {H H1 : Heap} (h : ax_R G g n H) (hz : H1.size = H.size) (ho : ∀ q : Nat, q ≠ G.2.1 + k → H1[q]? = H[q]?) (hc : va_at G.1 ax_cl (G.2.1 + k, ax_e G c) H1)
    (hg : ∀ (j : Nat) (d : ax_C), g' j = some d → (j = k ∧ d = c) ∨ (j ≠ k ∧ g j = some d)) : ax_R G g' n H1 := by
  refine ⟨hz.trans h.1, fun j d hd => ?_, fun q hq => ?_⟩
  · rcases hg j d hd with ⟨rfl, rfl⟩ | ⟨hj, hd⟩
    · exact hc
    · exact (h.2.1 j d hd).kept (ho _ (by simp only; omega))
  · rw [ho q (by omega)]; exact h.2.2 q hq
theorem ax_R.push {G : ax_T} {g g' : Nat → Option ax_C} {n : Nat} {c : ax_C} {H H1 : Heap} (h : ax_R G g n H) (hz : H1.size = H.size + 1) (ho : ∀ q : Nat, q < H.size → H1[q]? = H[q]?) (hc : va_at G.1 ax_cl (G.2.1 + n, ax_e G c) H1)
    (hg : ∀ (j : Nat) (d : ax_C), g' j = some d → (j = n ∧ d = c) ∨ g j = some d) : ax_R G g' (n + 1) H1 := by
  refine ⟨by rw [hz, h.1]; omega, fun j d hd => ?_, fun q hq => ?_⟩
  · rcases hg j d hd with ⟨rfl, rfl⟩ | hd
    · exact hc
    · exact (h.2.1 j d hd).kept (ho _ (h.2.1 j d hd).lt)
  · rw [ho q (by rw [h.1]; omega)]; exact h.2.2 q hq
/-- what stands through all: the classes, the nest mates' words, array classes, the static arrays -/
def ax_X (G : ax_T) (U : State) : Prop :=
  va_K G.1 ax_cl G.2.2.2.2.2 U ∧ (∀ w ∈ lw_tbl, ax_nest w = true → va_Nw w U) ∧ (va_AO "LetterSums$Row" U ∧ va_AO "LetterSums$Custom" U ∧ va_AO "LetterSums$Mason" U) ∧
  (∀ (j : Nat) (z : String × String × List Int32), ax_st[j]? = some z → va_Z z.1 z.2.1 "[I" (.ref (G.2.2.2.2.1 j)) (fun q => G.2.1 ≤ q) U G.2.2.1 ∧ va_T .int (G.2.2.2.2.1 j) z.2.2.length (fun i => .int (z.2.2.getD i 0)) (fun q => G.2.1 ≤ q) U G.2.2.1) ∧
  G.2.2.2.2.2.map (·.2) = ax_tn
theorem ax_Nw_warm {w : Cond} (hn : ax_nest w = true) {s U : State} (hW : s.WarmedH U.vm) (h : va_Nw w s) : va_Nw w U := by
  cases w <;> first | exact va_Nw.warmF hW h | exact va_Nw.warmM hW h | (simp [ax_nest] at hn)
theorem ax_X.warm {G : ax_T} {s U : State} (hW : s.WarmedH U.vm) (h : ax_X G s) : ax_X G U := by
  obtain ⟨h1, h2, ⟨h3, h4, h5⟩, h6, h7⟩ := h
  exact ⟨va_K.moved hW.alike h1, fun w hw hn => ax_Nw_warm hn hW (h2 w hw hn), ⟨h3.moved hW.alike, h4.moved hW.alike, h5.moved hW.alike⟩, fun j z hz => ⟨(h6 j z hz).1.moved hW.alike, (h6 j z hz).2.moved hW.alike⟩, h7⟩
theorem ax_X.same {G : ax_T} {s U : State} (hv : s.vm = U.vm) (h : ax_X G s) : ax_X G U := by
  obtain ⟨h1, h2, ⟨h3, h4, h5⟩, h6, h7⟩ := h
  have ha : s.vm.Alike U.vm := by rw [hv]; exact Vm.Alike.refl _
  refine ⟨va_K.moved ha h1, fun w hw hn => ?_, ⟨h3.moved ha, h4.moved ha, h5.moved ha⟩, fun j z hz => ⟨(h6 j z hz).1.moved ha, (h6 j z hz).2.moved ha⟩, h7⟩
  have hk := h2 w hw hn
  cases w <;> first | exact va_Nw.same rfl hv hk | (simp [ax_nest] at hn)
/-- what is known inside a method -/
def ax_M (G : ax_T) (p : Program) (s : State) (m : MethodId) (args : Array Value) (meth : Method) (c : Code) (own : String) (cc : ByteArray) (nL : Nat) : Prop :=
  p.tables.exec = Jvm.exec ∧ c.code = cc ∧ c.maxLocals = nL ∧ s.vm.findClass own = some m.cls ∧ (∀ w ∈ ax_G, w.before args s = true) ∧ meth.locks = false ∧ ax_X G s
section AXW
variable {G : ax_T} {p : Program} {l : Launch} {e : Env} {R : Room} {s : State} {m : MethodId} {args : Array Value} {below : List Frame} {meth : Method} {c : Code} {Q : State → Prop} {own : String} {cc : ByteArray} {nL : Nat}
/-- the machine, in a frame of the method, over the numbered cells g (n of them), comes to Q -/
def ax_W (G : ax_T) (p : Program) (l : Launch) (e : Env) (R : Room) (s : State) (m : MethodId) (args : Array Value) (below : List Frame) (meth : Method) (c : Code) (Q : State → Prop) (nL : Nat) (pc : Nat) (lv : List (Nat × Value)) (st : List Value) (g : Nat → Option ax_C) (n cs ss : Nat) : Prop :=
  ∀ (ls : Array Slot) (H : Heap) (locs : List Loc), lv_has ls nL (lv.map fun q => (q.1, ax_v G q.2)) → ax_R G g n H → (∀ q ∈ locs, G.2.1 ≤ q.base) → W p l e R s m args below meth c H locs cs ss Q (F0 m pc ls (st.map (ax_v G)))
theorem ax_P1 {D : va_G} {cl : List vw_C} {q : Nat × va_E} {H : Heap} (h : va_at D cl q H) : va_P D cl [q] H := by
  intro k r hk
  cases k with
  | zero => cases hk; exact h
  | succ k => simp at hk
variable {pc : Nat} {lv : List (Nat × Value)} {st : List Value} {g g' : Nat → Option ax_C} {n cs ss : Nat}
theorem ax_getf (M : ax_M G p s m args meth c own cc nL) {k ci j N idx : Nat} {fs : List Value} {C : String} {T : u_T} {v : Value} (hk : g k = some (.inr (ci, fs))) (hc : ax_cl[ci]? = some (C, T, N)) (hj : j < N) (hv : fs[j]? = some v)
    (hw : Cond.fieldLink own idx (T j).1 (T j).2.1 (T j).2.2.1 ∈ ax_G ∨ ∃ host, Cond.fieldLinkNest own idx (T j).1 (T j).2.1 (T j).2.2.1 host ∈ lw_tbl) (hd : decode cc pc = .ok (.getfield idx, 3))
    (kk : ax_W G p l e R s m args below meth c Q nL (pc + 3) lv (v :: st) g n cs ss) : ax_W G p l e R s m args below meth c Q nL pc lv (.ref k :: st) g n cs ss := by
  intro ls H locs hl hR hL
  obtain ⟨hx, hb, -, hown, hts, -, hX⟩ := M
  have hP := ax_P1 (hR.2.1 k _ hk)
  have hv' : (fs.map (ax_v G))[j]? = some (ax_v G v) := by rw [List.getElem?_map, hv]; rfl
  rcases hw with hw | ⟨host, hw⟩
  · exact va_get hx hb hts (ax_lay hc) hown hX.1 hP 0 rfl hc j hj (hts _ hw) (fun _ h => h) hv' hd (kk ls H locs hl hR hL)
  · exact va_getN hx hb hts (ax_lay hc) hown hX.1 hP 0 rfl hc j hj (va_Nw.use rfl (hX.2.1 _ hw rfl)) (fun _ h => h) hv' hd (kk ls H locs hl hR hL)
/-- a field is written (not final) -/
theorem ax_putf (M : ax_M G p s m args meth c own cc nL) {k ci j N idx : Nat} {fs : List Value} {C : String} {T : u_T} {v : Value} (hk : g k = some (.inr (ci, fs))) (hc : ax_cl[ci]? = some (C, T, N)) (hj : j < N) (hf : j < fs.length)
    (hw : (Cond.fieldLink own idx (T j).1 (T j).2.1 (T j).2.2.1 ∈ ax_G) ∨ ∃ host, Cond.fieldLinkNest own idx (T j).1 (T j).2.1 (T j).2.2.1 host ∈ lw_tbl) (hfin : (T j).2.2.2 = false)
    (hnar : narrow (ax_ty ci j) (ax_v G v) = ax_v G v) (hfit : fits (ax_ty ci j) (ax_v G v) = true) (hd : decode cc pc = .ok (.putfield idx, 3))
    (hg : ∀ (i : Nat) (d : ax_C), g' i = some d → (i = k ∧ d = .inr (ci, fs.set j v)) ∨ (i ≠ k ∧ g i = some d))
    (kk : ax_W G p l e R s m args below meth c Q nL (pc + 3) lv st g' n cs ss) : ax_W G p l e R s m args below meth c Q nL pc lv (v :: .ref k :: st) g n cs ss := by
  intro ls H locs hl hR hL
  obtain ⟨hx, hb, -, hown, hts, -, hX⟩ := M
  have hap := va_apart (own := own) hts (ax_lay hc) (ax_ty ci) (ax_ty_ok hc) (ax_nm hc) hX.1 hc
  obtain ⟨r, h1, cell, q1, q2, q3, q4⟩ := hR.2.1 k _ hk
  have hr : r = (C, T, N) := Option.some.inj (h1.symm.trans hc)
  subst hr
  obtain ⟨hS, hfc, kC, hkC, hkind⟩ := hX.1.1 ci _ hc
  obtain ⟨cf, kf, fi, f, hi, hsl⟩ := hS j hj
  have hlay := hts _ (ax_lay hc _ (u_in_lay hj))
  unfold u_lay at hlay
  rw [if_neg (by rw [hfin]; decide)] at hlay
  have hst := (u_facts hfc hkC (u_lays hts (ax_lay hc) hj) hi).1
  have h6 := u_store hfc hkC hkind hlay hi (ax_ty_ok hc j hj) hnar hfit
  have fin : ∀ H' : Heap, H'[G.2.1 + k]? = some (cell.setSlot f.slot (ax_v G v)) → H'.size = H.size → (∀ q, q ≠ G.2.1 + k → H'[q]? = H[q]?) → W p l e R s m args below meth c H' (locs ++ [⟨G.2.1 + k, f.slot⟩]) cs ss Q (F0 m (pc + 3) ls (st.map (ax_v G))) := by
    intro H' e1 e2 e3
    refine kk ls H' _ hl (hR.set (c := .inr (ci, fs.set j v)) e2 e3 ⟨_, hc, t_OB.to (V := updV (vp_V (fs.map (ax_v G))) j (ax_v G v)) ⟨_, e1, q2, q3, ?_⟩ (fun i _ => ?_)⟩ hg) ?_
    · rw [hsl]; exact t_set q4 hap hj _
    · rw [vp_updV_set (by simpa using hf)]; simp [List.map_set]
    · intro q hq
      rcases List.mem_append.mp hq with h | h
      · exact hL q h
      · rw [List.mem_singleton.mp h]; exact Nat.le_add_right _ _
  rcases hw with hw | ⟨host, hw⟩
  · exact W.putK hx hb (f := f) ⟨hown, hts _ hw, ⟨_, _, _, hi⟩, hst⟩ (by rw [q2]; exact h6) q1 q3 (by rw [hsl]; exact k2_hasslot (q4 j hj)) rfl rfl hd fin
  · exact va_WputK hx hb (f := f) hown (va_Nw.use rfl (hX.2.1 _ hw rfl)) hi hst (by rw [q2]; exact h6) q1 q3 (by rw [hsl]; exact k2_hasslot (q4 j hj)) rfl rfl hd fin
/-- a final field is written in its constructor -/
theorem ax_putF (M : ax_M G p s m args meth c own cc nL) {k ci j N idx : Nat} {fs : List Value} {C : String} {T : u_T} {v : Value} (hk : g k = some (.inr (ci, fs))) (hc : ax_cl[ci]? = some (C, T, N)) (hj : j < N) (hf : j < fs.length)
    (hw : Cond.fieldLink own idx (T j).1 (T j).2.1 (T j).2.2.1 ∈ ax_G) (hfin : (T j).2.2.2 = true) (hin : meth.name = "<init>") (hdecl : (T j).1 = own)
    (hnar : narrow (ax_ty ci j) (ax_v G v) = ax_v G v) (hfit : fits (ax_ty ci j) (ax_v G v) = true) (hd : decode cc pc = .ok (.putfield idx, 3))
    (hg : ∀ (i : Nat) (d : ax_C), g' i = some d → (i = k ∧ d = .inr (ci, fs.set j v)) ∨ (i ≠ k ∧ g i = some d))
    (kk : ax_W G p l e R s m args below meth c Q nL (pc + 3) lv st g' n cs ss) : ax_W G p l e R s m args below meth c Q nL pc lv (v :: .ref k :: st) g n cs ss := by
  intro ls H locs hl hR hL
  obtain ⟨hx, hb, -, hown, hts, -, hX⟩ := M
  have hap := va_apart (own := own) hts (ax_lay hc) (ax_ty ci) (ax_ty_ok hc) (ax_nm hc) hX.1 hc
  obtain ⟨r, h1, cell, q1, q2, q3, q4⟩ := hR.2.1 k _ hk
  have hr : r = (C, T, N) := Option.some.inj (h1.symm.trans hc)
  subst hr
  obtain ⟨hS, hfc, kC, hkC, hkind⟩ := hX.1.1 ci _ hc
  obtain ⟨cf, kf, fi, f, hi, hsl⟩ := hS j hj
  have hlay := hts _ (ax_lay hc _ (u_in_lay hj))
  unfold u_lay at hlay
  rw [if_pos hfin] at hlay
  have hst := (u_facts hfc hkC (u_lays hts (ax_lay hc) hj) hi).1
  have hcf : m.cls = cf := by
    obtain ⟨_, _, c', _, _, _, -, -, hf', -, -, -, hown2, -⟩ := Cond.laysFinal_spec hlay
    have e1 : c' = cf := by have := hi.symm.trans hf'; simp at this; exact this.1.symm
    rw [hdecl] at hown2
    rw [← e1]; exact Option.some.inj (hown.symm.trans hown2)
  have h6 := u_fits hfc hkC hkind (Or.inr hlay) hi (ax_ty_ok hc j hj) hnar hfit
  refine W.putFinK hx hb hown (hts _ hw) hi hst hcf hin (by rw [q2]; exact h6) q1 q3 (by rw [hsl]; exact k2_hasslot (q4 j hj)) rfl rfl hd fun H' e1 e2 e3 => ?_
  refine kk ls H' _ hl (hR.set (c := .inr (ci, fs.set j v)) e2 e3 ⟨_, hc, t_OB.to (V := updV (vp_V (fs.map (ax_v G))) j (ax_v G v)) ⟨_, e1, q2, q3, ?_⟩ (fun i _ => ?_)⟩ hg) ?_
  · rw [hsl]; exact t_set q4 hap hj _
  · rw [vp_updV_set (by simpa using hf)]; simp [List.map_set]
  · intro q hq
    rcases List.mem_append.mp hq with h | h
    · exact hL q h
    · rw [List.mem_singleton.mp h]; exact Nat.le_add_right _ _
end AXW
end
section
/-! ===== arrays, new cells, static arrays, locals, calls over the numbered cells ===== -/
section AXA
variable {G : ax_T} {p : Program} {l : Launch} {e : Env} {R : Room} {s : State} {m : MethodId} {args : Array Value} {below : List Frame} {meth : Method} {c : Code} {Q : State → Prop} {own : String} {cc : ByteArray} {nL : Nat}
variable {pc : Nat} {lv : List (Nat × Value)} {st : List Value} {g g' : Nat → Option ax_C} {n cs ss : Nat}
theorem ax_tt {U : State} (h : ax_X G U) {t : Nat} {ty : FieldType} (ht : ax_tn[t]? = some ty) : G.2.2.2.2.2[t]? = some ((G.2.2.2.2.2.getD t (0, .int)).1, ty) := by
  have h1 := h.2.2.2.2
  rw [← h1, List.getElem?_map] at ht
  cases h2 : G.2.2.2.2.2[t]? with
  | none => rw [h2] at ht; cases ht
  | some q =>
    rw [h2] at ht
    have h3 : q.2 = ty := Option.some.inj ht
    rw [List.getD_eq_getElem?_getD, h2]
    subst h3
    rfl
theorem ax_iald (M : ax_M G p s m args meth c own cc nL) {k t N : Nat} {f : Nat → Int32} (hk : g k = some (.inl (t, N, .inl f))) (ht : ax_tn[t]? = some .int) {i : Int32} (hi : vp_in i N) (hd : decode cc pc = .ok (.iaload, 1))
    (kk : ax_W G p l e R s m args below meth c Q nL (pc + 1) lv (.int (f i.toNatClampNeg) :: st) g n cs ss) : ax_W G p l e R s m args below meth c Q nL pc lv (.int i :: .ref k :: st) g n cs ss := by
  intro ls H locs hl hR hL
  obtain ⟨hx, hb, -, hown, hts, -, hX⟩ := M
  exact va_iald hx hb hX.1 (ax_P1 (hR.2.1 k _ hk)) 0 t rfl (ax_tt hX ht) hi hd (kk ls H locs hl hR hL)
theorem ax_bald (M : ax_M G p s m args meth c own cc nL) {k t N : Nat} {f : Nat → Int32} (hk : g k = some (.inl (t, N, .inl f))) (ht : ax_tn[t]? = some .byte) {i : Int32} (hi : vp_in i N) (hd : decode cc pc = .ok (.baload, 1))
    (kk : ax_W G p l e R s m args below meth c Q nL (pc + 1) lv (.int (f i.toNatClampNeg) :: st) g n cs ss) : ax_W G p l e R s m args below meth c Q nL pc lv (.int i :: .ref k :: st) g n cs ss := by
  intro ls H locs hl hR hL
  obtain ⟨hx, hb, -, hown, hts, -, hX⟩ := M
  exact va_bald hx hb hX.1 (ax_P1 (hR.2.1 k _ hk)) 0 t rfl (ax_tt hX ht) hi hd (kk ls H locs hl hR hL)
theorem ax_aald (M : ax_M G p s m args meth c own cc nL) {k t N k' : Nat} {C : String} {f : Nat → Option Nat} (hk : g k = some (.inl (t, N, .inr f))) (ht : ax_tn[t]? = some (.object C)) {i : Int32} (hi : vp_in i N) (hv : f i.toNatClampNeg = some k') (hd : decode cc pc = .ok (.aaload, 1))
    (kk : ax_W G p l e R s m args below meth c Q nL (pc + 1) lv (.ref k' :: st) g n cs ss) : ax_W G p l e R s m args below meth c Q nL pc lv (.int i :: .ref k :: st) g n cs ss := by
  intro ls H locs hl hR hL
  obtain ⟨hx, hb, -, hown, hts, -, hX⟩ := M
  refine va_aldq hx hb hX.1 (ax_P1 (hR.2.1 k _ hk)) 0 t rfl (ax_tt hX ht) hi hd ?_
  have h := kk ls H locs hl hR hL
  simp only [hv]
  exact h
theorem ax_locs {L : List Loc} {q : Loc} (hL : ∀ q ∈ L, G.2.1 ≤ q.base) (hq : G.2.1 ≤ q.base) : ∀ r ∈ L ++ [q], G.2.1 ≤ r.base := by
  intro r hr
  rcases List.mem_append.mp hr with h | h
  · exact hL r h
  · rw [List.mem_singleton.mp h]; exact hq
theorem ax_iast (M : ax_M G p s m args meth c own cc nL) {k t N : Nat} {f : Nat → Int32} (hk : g k = some (.inl (t, N, .inl f))) (ht : ax_tn[t]? = some .int) {i x : Int32} (hi : vp_in i N) (hd : decode cc pc = .ok (.iastore, 1))
    (hg : ∀ (j : Nat) (d : ax_C), g' j = some d → (j = k ∧ d = .inl (t, N, .inl (upd f i.toNatClampNeg x))) ∨ (j ≠ k ∧ g j = some d))
    (kk : ax_W G p l e R s m args below meth c Q nL (pc + 1) lv st g' n cs ss) : ax_W G p l e R s m args below meth c Q nL pc lv (.int x :: .int i :: .ref k :: st) g n cs ss := by
  intro ls H locs hl hR hL
  obtain ⟨hx, hb, -, hown, hts, -, hX⟩ := M
  refine W.iast hx hb (hR.2.1 k _ hk) ((hX.1.2 t _ (ax_tt hX ht)).1 N (fun j => .int (f j))) (fun q => by cases q) (by show ¬ (i < 0 ∨ (arrV _ _ _).slots.size ≤ _); rw [arrV_size]; exact hi) rfl rfl hd fun H1 e1 z oq => ?_
  refine kk ls H1 _ hl (hR.set (c := .inl (t, N, .inl (upd f i.toNatClampNeg x))) z oq ?_ hg) (ax_locs hL (Nat.le_add_right _ _))
  show H1[G.2.1 + k]? = some (vp_cell _ _)
  rw [e1, vp_cell_i, vp_cell_i, arrV_store]
  congr 2
  funext q
  by_cases hq : q = i.toNatClampNeg
  · subst hq; simp [updV, upd]
  · simp [updV, upd, hq]
theorem ax_bast (M : ax_M G p s m args meth c own cc nL) {k t N : Nat} {f : Nat → Int32} (hk : g k = some (.inl (t, N, .inl f))) (ht : ax_tn[t]? = some .byte) {i x : Int32} (hi : vp_in i N) (hd : decode cc pc = .ok (.bastore, 1))
    (hg : ∀ (j : Nat) (d : ax_C), g' j = some d → (j = k ∧ d = .inl (t, N, .inl (upd f i.toNatClampNeg (vp_nar .byte x)))) ∨ (j ≠ k ∧ g j = some d))
    (kk : ax_W G p l e R s m args below meth c Q nL (pc + 1) lv st g' n cs ss) : ax_W G p l e R s m args below meth c Q nL pc lv (.int x :: .int i :: .ref k :: st) g n cs ss := by
  intro ls H locs hl hR hL
  obtain ⟨hx, hb, -, hown, hts, -, hX⟩ := M
  refine W.bast hx hb (hR.2.1 k _ hk) ((hX.1.2 t _ (ax_tt hX ht)).1 N (fun j => .int (f j))) (fun q => by cases q) (by show ¬ (i < 0 ∨ (arrV _ _ _).slots.size ≤ _); rw [arrV_size]; exact hi) rfl rfl hd fun H1 e1 z oq => ?_
  refine kk ls H1 _ hl (hR.set (c := .inl (t, N, .inl (upd f i.toNatClampNeg (vp_nar .byte x)))) z oq ?_ hg) (ax_locs hL (Nat.le_add_right _ _))
  show H1[G.2.1 + k]? = some (vp_cell _ _)
  rw [e1, vp_cell_i, vp_cell_i, arrV_store]
  congr 2
  funext q
  by_cases hq : q = i.toNatClampNeg
  · subst hq; simp [updV, upd, vp_nar]; try rfl
  · simp [updV, upd, hq]
theorem ax_aast (M : ax_M G p s m args meth c own cc nL) {k t N k' ci : Nat} {C : String} {T : u_T} {N' : Nat} {fs : List Value} {f : Nat → Option Nat} (hk : g k = some (.inl (t, N, .inr f))) (ht : ax_tn[t]? = some (.object C)) (hk' : g k' = some (.inr (ci, fs))) (hc : ax_cl[ci]? = some (C, T, N')) {i : Int32} (hi : vp_in i N) (hd : decode cc pc = .ok (.aastore, 1))
    (hg : ∀ (j : Nat) (d : ax_C), g' j = some d → (j = k ∧ d = .inl (t, N, .inr (va_up f i.toNatClampNeg (some k')))) ∨ (j ≠ k ∧ g j = some d))
    (kk : ax_W G p l e R s m args below meth c Q nL (pc + 1) lv st g' n cs ss) : ax_W G p l e R s m args below meth c Q nL pc lv (.ref k' :: .int i :: .ref k :: st) g n cs ss := by
  intro ls H locs hl hR hL
  obtain ⟨hx, hb, -, hown, hts, -, hX⟩ := M
  have hlt : i.toNatClampNeg < N := Nat.not_le.mp fun q => hi (Or.inr q)
  have h0 : ¬ i < 0 := fun q => hi (Or.inl q)
  obtain ⟨r', hr', cellV, g1, g2, g3, -⟩ := hR.2.1 k' _ hk'
  have hcls := (hX.1.1 ci _ hc).2
  obtain ⟨kA, comp, k1, k2, k3, -⟩ := (hX.1.2 t _ (ax_tt hX ht)).2
  have hcomp : comp = G.1.1 ci := Option.some.inj (k3.symm.trans hcls.1)
  subst hcomp
  obtain ⟨kC, hkC, -⟩ := hcls.2
  refine W.aast hx hb (hR.2.1 k _ hk) (fun q h => by cases h) (fun h => by cases h) k1 k2 rfl hkC ⟨h0, by show _ < (arrV _ _ _).slots.size; rw [arrV_size]; exact hlt⟩ g1 (fun q h => by rw [g3] at h; cases h) (by rw [g2]; exact hkC) (by rw [g2]; exact va_assign hcls) rfl rfl hd fun H1 e1 z oq => ?_
  refine kk ls H1 _ hl (hR.set (c := .inl (t, N, .inr (va_up f i.toNatClampNeg (some k')))) z oq ?_ hg) (ax_locs hL (Nat.le_add_right _ _))
  show H1[G.2.1 + k]? = some (vp_cell _ _)
  rw [e1, vp_cell_q, vp_cell_q, arrV_store]
  congr 2
  funext q
  by_cases hq : q = i.toNatClampNeg
  · subst hq; simp [updV, va_up, va_rf]
  · simp [updV, va_up, hq]
/-- a new object, its fields as they begin -/
def ax_born (ci N : Nat) : List Value := (List.range N).map fun k => defaultValue (ax_ty ci k)
theorem ax_v_default (G : ax_T) {ty : FieldType} (h : ty ≠ .float) : ax_v G (defaultValue ty) = defaultValue ty := by
  cases ty <;> first | rfl | (exact absurd rfl h)
def ax_nofl (ci N : Nat) : Bool := (List.range N).all fun k => decide (ax_ty ci k ≠ .float)
theorem ax_new (M : ax_M G p s m args meth c own cc nL) {ci N idx : Nat} {C : String} {T : u_T} (hc : ax_cl[ci]? = some (C, T, N)) (hw : Cond.classLink own idx C ∈ ax_G) (hi : Cond.instantiable C N ∈ ax_G) (hn : Cond.initialized C ∈ ax_G) (hnf : ax_nofl ci N = true) (hcs : cs + 1 ≤ R.cells) (hss : ss + N ≤ R.slots) (hd : decode cc pc = .ok (.new idx, 3))
    (hg : ∀ (j : Nat) (d : ax_C), g' j = some d → (j = n ∧ d = .inr (ci, ax_born ci N)) ∨ g j = some d)
    (kk : ax_W G p l e R s m args below meth c Q nL (pc + 3) lv (.ref n :: st) g' (n + 1) (cs + 1) (ss + N)) : ax_W G p l e R s m args below meth c Q nL pc lv st g n cs ss := by
  intro ls H locs hl hR hL
  obtain ⟨hx, hb, -, hown, hts, -, hX⟩ := M
  have hKn := hX.1.1 ci _ hc
  refine W.newcK hx hb hown (hts _ hw) (hts _ hi) (hts _ hn) rfl hd hcs hss hKn.2.1 hR.1 fun H1 kC hkC e1 z1 o1 => ?_
  refine kk ls H1 locs hl (hR.push (c := .inr (ci, ax_born ci N)) (by rw [z1, hR.1]) (fun q hq => o1 q (by rw [← hR.1]; exact hq)) ⟨_, hc, (u_born (ax_ty ci) hts (ax_lay hc) hKn hkC e1 (ax_ty_ok hc)).to fun j hj => ?_⟩ hg) hL
  have h2 : ax_ty ci j ≠ .float := by
    have := List.all_eq_true.mp hnf j (List.mem_range.mpr hj)
    simpa using this
  show defaultValue (ax_ty ci j) = ((ax_born ci N).map (ax_v G)).getD j .null
  rw [List.getD_eq_getElem?_getD, List.getElem?_map, ax_born, List.getElem?_map, List.getElem?_range hj]
  simp [ax_v_default G h2]
theorem ax_newa (M : ax_M G p s m args meth c own cc nL) {at0 : ArrayType} {t : Nat} {i : Int32} (hw : Cond.arrayClass (newarray.typeOf at0) ∈ ax_G) (ht : ax_tn[t]? = some (newarray.typeOf at0)) (ha : at0 = .int ∨ at0 = .byte) (hi : ¬ i < 0) (hby : i.toNatClampNeg * 8 ≤ 536870912) (hcs : cs + 1 ≤ R.cells) (hss : ss + i.toNatClampNeg ≤ R.slots) (hd : decode cc pc = .ok (.newarray at0, 2))
    (hg : ∀ (j : Nat) (d : ax_C), g' j = some d → (j = n ∧ d = .inl (t, i.toNatClampNeg, .inl (fun _ => 0))) ∨ g j = some d)
    (kk : ax_W G p l e R s m args below meth c Q nL (pc + 2) lv (.ref n :: st) g' (n + 1) (cs + 1) (ss + i.toNatClampNeg)) : ax_W G p l e R s m args below meth c Q nL pc lv (.int i :: st) g n cs ss := by
  intro ls H locs hl hR hL
  obtain ⟨hx, hb, -, hown, hts, -, hX⟩ := M
  have hbb : i.toNatClampNeg * componentBytes (newarray.typeOf at0) ≤ 536870912 := by
    rcases ha with rfl | rfl <;> (refine Nat.le_trans (Nat.mul_le_mul_left _ ?_) hby; decide)
  refine va_newaK hx hb (hts _ hw) rfl hd rfl hi rfl hbb hcs hss hR.1 fun H1 cA e1 z1 o1 hAr hNm => ?_
  have hcA : (G.2.2.2.2.2.getD t (0, .int)).1 = cA := by
    have h1 := (hX.1.2 t _ (ax_tt hX ht)).2
    rcases ha with rfl | rfl
    · exact Option.some.inj ((show s.vm.findClass _ = _ from h1).symm.trans hNm)
    · exact Option.some.inj ((show s.vm.findClass _ = _ from h1).symm.trans hNm)
  refine kk ls H1 locs hl (hR.push (c := .inl (t, i.toNatClampNeg, .inl (fun _ => 0))) (by rw [z1, hR.1]) (fun q hq => o1 q (by rw [← hR.1]; exact hq)) ?_ hg) hL
  show H1[G.2.1 + n]? = some (vp_cell _ _)
  rw [e1, vp_cell_i, hcA]
  rcases ha with rfl | rfl <;> rfl
theorem ax_newq (M : ax_M G p s m args meth c own cc nL) {C : String} {t idx : Nat} {i : Int32} (hw : Cond.classLink own idx C ∈ ax_G) (ht : ax_tn[t]? = some (.object C)) (hC : C = "LetterSums$Row" ∨ C = "LetterSums$Custom" ∨ C = "LetterSums$Mason") (hi : ¬ i < 0) (hby : i.toNatClampNeg * 4 ≤ 536870912) (hcs : cs + 1 ≤ R.cells) (hss : ss + i.toNatClampNeg ≤ R.slots) (hd : decode cc pc = .ok (.anewarray idx, 3))
    (hg : ∀ (j : Nat) (d : ax_C), g' j = some d → (j = n ∧ d = .inl (t, i.toNatClampNeg, .inr (fun _ => none))) ∨ g j = some d)
    (kk : ax_W G p l e R s m args below meth c Q nL (pc + 3) lv (.ref n :: st) g' (n + 1) (cs + 1) (ss + i.toNatClampNeg)) : ax_W G p l e R s m args below meth c Q nL pc lv (.int i :: st) g n cs ss := by
  intro ls H locs hl hR hL
  obtain ⟨hx, hb, -, hown, hts, -, hX⟩ := M
  have hover : va_AO C s := by rcases hC with rfl | rfl | rfl <;> first | exact hX.2.2.1.1 | exact hX.2.2.1.2.1 | exact hX.2.2.1.2.2
  refine W.anew hx hb hown (hts _ hw) (va_AO.use hover) rfl hd rfl hi hby hcs hss fun cA kA comp f1 f2 f3 f4 => ?_
  have hcA : (G.2.2.2.2.2.getD t (0, .int)).1 = cA := by
    obtain ⟨kA', comp', -, -, -, h4⟩ := (hX.1.2 t _ (ax_tt hX ht)).2
    exact Option.some.inj (h4.symm.trans f1)
  have e0 : H.size = G.2.1 + n := hR.1
  rw [e0]
  refine kk ls _ locs hl (hR.push (c := .inl (t, i.toNatClampNeg, .inr (fun _ => none))) (by simp) (fun q hq => by rw [Array.getElem?_push, if_neg (Nat.ne_of_lt hq)]) ?_ hg) hL
  show (H.push _)[G.2.1 + n]? = some (vp_cell _ _)
  rw [← e0, Array.getElem?_push_size, vp_cell_q, hcA, arrV_new]
  rfl
theorem ax_gets (M : ax_M G p s m args meth c own cc nL) {j idx : Nat} {z : String × String × List Int32} (hz : ax_st[j]? = some z) (hw : Cond.fieldLink own idx z.1 z.2.1 "[I" ∈ ax_G ∨ ∃ host, Cond.fieldLinkNest own idx z.1 z.2.1 "[I" host ∈ lw_tbl) (hd : decode cc pc = .ok (.getstatic idx, 3))
    (kk : ax_W G p l e R s m args below meth c Q nL (pc + 3) lv (.retAddr j :: st) g n cs ss) : ax_W G p l e R s m args below meth c Q nL pc lv st g n cs ss := by
  intro ls H locs hl hR hL
  obtain ⟨hx, hb, -, hown, hts, -, hX⟩ := M
  obtain ⟨cf, kf, fi, f, a, cell, h1, h2, h3, h4, h5, h6, h7, h8⟩ := (hX.2.2.2.1 j z hz).1
  have h5' : H[a]? = some cell := by rw [hR.2.2 a (Nat.not_le.mp h8)]; exact h5
  rcases hw with hw | ⟨host, hw⟩
  · exact W.gets hx hb hown (hts _ hw) h1 h2 h3 h4 h5' (fun e => by rw [e] at h6; cases h6) h7 rfl hd (kk ls H locs hl hR hL)
  · exact va_WgetsN hx hb hown (va_Nw.use rfl (hX.2.1 _ hw rfl)) h1 h2 h3 h4 h5' (fun e => by rw [e] at h6; cases h6) h7 rfl hd (kk ls H locs hl hR hL)
/-- a place of a static array -/
theorem ax_sald (M : ax_M G p s m args meth c own cc nL) {j : Nat} {z : String × String × List Int32} (hz : ax_st[j]? = some z) {i : Int32} (hi : vp_in i z.2.2.length) (hd : decode cc pc = .ok (.iaload, 1))
    (kk : ax_W G p l e R s m args below meth c Q nL (pc + 1) lv (.int (z.2.2.getD i.toNatClampNeg 0) :: st) g n cs ss) : ax_W G p l e R s m args below meth c Q nL pc lv (.int i :: .retAddr j :: st) g n cs ss := by
  intro ls H locs hl hR hL
  obtain ⟨hx, hb, -, hown, hts, -, hX⟩ := M
  obtain ⟨cell, h1, h2, h3, h4, h5, h6, h7⟩ := (hX.2.2.2.1 j z hz).2
  have hlt : i.toNatClampNeg < z.2.2.length := Nat.not_le.mp fun q => hi (Or.inr q)
  have hin' : ¬ (i < 0 ∨ cell.slots.size ≤ i.toNatClampNeg) := by
    intro q
    rcases q with q | q
    · exact hi (Or.inl q)
    · omega
  have h1' : H[G.2.2.2.2.1 j]? = some cell := by rw [hR.2.2 _ (Nat.not_le.mp h7)]; exact h1
  exact W.iald hx hb h1' h2 h3 hin' (h6 _ hlt) rfl rfl hd (kk ls H locs hl hR hL)
/-! calls -/
def ax_Pc (G : ax_T) (as : List Value) (g : Nat → Option ax_C) (n : Nat) : Array Value → State → Prop := fun a U => a = (as.map (ax_v G)).toArray ∧ ax_X G U ∧ ax_R G g n U.heap
def ax_Qc (G : ax_T) (r : Option Value) (g : Nat → Option ax_C) (n : Nat) : Array Value → State → Outcome → State → Prop := fun _ _ o t => o = .returned (r.map (ax_v G)) ∧ ax_R G g n t.heap
def ax_rm (d mc ms : Nat) : Room := { frames := d, cells := mc, slots := ms, locals := 40 * d }
/-- a method's contract over the numbered cells: at these arguments and cells it answers r, and the cells are as told -/
def ax_Met (l : Launch) (G : ax_T) (y : MethodName) (bytes : ByteArray) (maxL : Nat) (ret : Option FieldType) (d : Nat) (as : List Value) (g : Nat → Option ax_C) (n : Nat) (r : Option Value) (g' : Nat → Option ax_C) (n' mc ms : Nat) : Prop :=
  Met l y (Cond.code y bytes maxL ret :: ax_G) (ax_rm d mc ms) (ax_Pc G as g n) (ax_Qc G r g' n') mc ms (fun q => G.2.1 ≤ q)
theorem ax_blind (G : ax_T) (as : List Value) (g : Nat → Option ax_C) (n : Nat) : FrameBlind (ax_Pc G as g n) := fun a U f mk h => ⟨h.1, ax_X.same (s := U) (U := U.calling f mk a) rfl h.2.1, h.2.2⟩
theorem ax_good {w : Cond} (h : w ∈ ax_G) : GoodIn ax_G (w :: ax_G) := by
  intro v hv
  rcases List.mem_cons.mp hv with rfl | hv
  · exact ⟨h, good_of_word (List.mem_filter.mp h).2⟩
  · exact ⟨hv, good_of_word (List.mem_filter.mp hv).2⟩
theorem ax_after {H : Heap} {locs : List Loc} {ls : Array Slot} {st0 rest : List Value} {a : Array Value} {r : Option Value} {n' mc ms : Nat}
    (hr : va_Run p l e R s m args below meth c H locs cs ss mc ms (F0 m pc ls st0) rest (ax_Qc G r g' n' a) (fun q => G.2.1 ≤ q)) (hL : ∀ q ∈ locs, G.2.1 ≤ q.base)
    (kk : ∀ (H1 : Heap) (locs1 : List Loc), ax_R G g' n' H1 → (∀ q ∈ locs1, G.2.1 ≤ q.base) → W p l e R s m args below meth c H1 locs1 (cs + mc) (ss + ms) Q (F0 m (pc + 3) ls ((r.map (ax_v G)).toList ++ rest))) : W p l e R s m args below meth c H locs cs ss Q (F0 m pc ls st0) := by
  intro T hT X
  obtain ⟨v, st₀, t, T', L, h0, X', hL', e1, e2, ⟨ho, hR'⟩, st1⟩ := hr T hT X
  have hv : v = r.map (ax_v G) := Outcome.returned.inj ho
  subst hv
  obtain ⟨t2, a1, b1⟩ := kk T'.heap (locs ++ L) (by rw [e1]; exact hR') (fun q hq => by
    rcases List.mem_append.mp hq with h | h
    · exact hL q h
    · exact hL' q h) T' rfl X'
  exact ⟨t2, st1 t2 a1, b1⟩
def ax_sum (st : List Value) : Nat := (st.map fun v => v.category).sum
theorem ax_sum_map (G : ax_T) (st : List Value) : ((st.map (ax_v G)).map fun v => v.category).sum = ax_sum st := by
  simp only [ax_sum, List.map_map]
  congr 1
  exact List.map_congr_left fun v _ => ax_cat G v
variable {y : MethodName} {bytes : ByteArray} {maxL d idx nA n' mc ms : Nat} {ret : Option FieldType} {as : List Value} {r : Option Value}
/-- what a call needs of the tables, but its link -/
def ax_callee (y : MethodName) (bytes : ByteArray) (maxL : Nat) (ret : Option FieldType) (nA : Nat) : Prop :=
  Cond.code y bytes maxL ret ∈ ax_G ∧ Cond.initialized y.cls ∈ ax_G ∧ (y.cls ≠ "java/lang/invoke/MethodHandle" ∧ y.cls ≠ "java/lang/invoke/VarHandle" ∧ (parseMethodDescriptor y.desc).map (fun d => d.parameters.length) = some nA) ∧ maxL ≤ 21
theorem ax_callS (M : ax_M G p s m args meth c own cc nL) (hM : ax_Met l G y bytes maxL ret d as g n r g' n' mc ms) (hy : ax_callee y bytes maxL ret nA) (hst : Cond.static y ∈ ax_G)
    (hw : Cond.methodLink own idx y ∈ ax_G ∨ ∃ host, Cond.methodLinkNest own idx y host ∈ lw_tbl) (hn : as.length = nA) (hf : d + 1 ≤ R.frames) (hlo : 40 * (d + 1) ≤ R.locals) (hcs : cs + mc ≤ R.cells) (hss : ss + ms ≤ R.slots) (hsum : ax_sum st ≤ 8)
    (hd : decode cc pc = .ok (.invokestatic idx, 3)) (kk : ax_W G p l e R s m args below meth c Q nL (pc + 3) lv (r.toList ++ st) g' n' (cs + mc) (ss + ms)) : ax_W G p l e R s m args below meth c Q nL pc lv (as.reverse ++ st) g n cs ss := by
  intro ls H locs hl hR hL
  obtain ⟨hx, hb, hml, hown, hts, -, hX⟩ := M
  obtain ⟨hcw, hin, hyy, hmx⟩ := hy
  have hp : PreS s H (ax_Pc G as g n) (as.map (ax_v G)) := ⟨ax_blind G as g n, fun U hU hW => ⟨rfl, hX.warm hW, by rw [hU]; exact hR⟩⟩
  have hroom : (ax_rm d mc ms).frames + 1 ≤ R.frames ∧ 8 + (maxL + 11) + (ax_rm d mc ms).locals ≤ R.locals := ⟨hf, by show 8 + (maxL + 11) + 40 * d ≤ R.locals; omega⟩
  have key : ∀ (hr : va_Run p l e R s m args below meth c H locs cs ss mc ms (F0 m pc ls ((as.reverse ++ st).map (ax_v G))) (st.map (ax_v G)) (ax_Qc G r g' n' (as.map (ax_v G)).toArray) (fun q => G.2.1 ≤ q)), W p l e R s m args below meth c H locs cs ss Q (F0 m pc ls ((as.reverse ++ st).map (ax_v G))) := fun hr => ax_after hr hL fun H1 locs1 hR1 hL1 => by
    have h := kk ls H1 locs1 hl hR1 hL1
    cases r <;> exact h
  have hlen : (as.map (ax_v G)).length = nA := by rw [List.length_map]; exact hn
  have hstk : (as.reverse ++ st).map (ax_v G) = (as.map (ax_v G)).reverse ++ st.map (ax_v G) := by rw [List.map_append, List.map_reverse]
  have hW8 : 2 * (F0 m pc ls ((as.reverse ++ st).map (ax_v G))).monitorRoom + ((st.map (ax_v G)).map fun v => v.category).sum ≤ 8 := by
    rw [ax_sum_map]; show 2 * 0 + _ ≤ 8; omega
  rcases hw with hw | ⟨host, hw⟩
  · exact key (va_runS ⟨hx, hb, hml, hown, hts⟩ hM ⟨callB_of nA hts (ax_good hcw) rfl rfl rfl (hts _ hin) (hts _ hw) hyy hroom, hts _ hst⟩ hp rfl hlen (hl.1) hstk hW8 hd ⟨hcs, hss⟩)
  · exact key (va_runSN ⟨hx, hb, hml, hown, hts⟩ hM ⟨va_cnB nA hts (ax_good hcw) rfl rfl rfl (hX.2.1 _ hw rfl) (hts _ hin) hyy hroom, hts _ hst, trivial⟩ hp rfl hlen (hl.1) hstk hW8 hd ⟨hcs, hss⟩)
theorem ax_callV (M : ax_M G p s m args meth c own cc nL) {k ci N : Nat} {T : u_T} {fs : List Value} (hk : g k = some (.inr (ci, fs))) (hc : ax_cl[ci]? = some (y.cls, T, N)) (hM : ax_Met l G y bytes maxL ret d (.ref k :: as) g n r g' n' mc ms) (hy : ax_callee y bytes maxL ret nA) (hst : Cond.instanceMethod y ∈ ax_G) (hse : Cond.selects y.cls y y ∈ ax_G)
    (hw : Cond.methodLink own idx y ∈ ax_G ∨ ∃ host, Cond.methodLinkNest own idx y host ∈ lw_tbl) (hn : as.length = nA) (hf : d + 1 ≤ R.frames) (hlo : 40 * (d + 1) ≤ R.locals) (hcs : cs + mc ≤ R.cells) (hss : ss + ms ≤ R.slots) (hsum : ax_sum st ≤ 8)
    (hd : decode cc pc = .ok (.invokevirtual idx, 3)) (kk : ax_W G p l e R s m args below meth c Q nL (pc + 3) lv (r.toList ++ st) g' n' (cs + mc) (ss + ms)) : ax_W G p l e R s m args below meth c Q nL pc lv (as.reverse ++ .ref k :: st) g n cs ss := by
  intro ls H locs hl hR hL
  obtain ⟨hx, hb, hml, hown, hts, -, hX⟩ := M
  obtain ⟨hcw, hin, hyy, hmx⟩ := hy
  have hrecv := va_recv hX.1 (ax_P1 (hR.2.1 k _ hk)) (ci := ci) (q0 := 0) hc rfl
  have hp : PreV s H y.cls (G.2.1 + k) (ax_Pc G (.ref k :: as) g n) (as.map (ax_v G)) := ⟨ax_blind G _ g n, hrecv, fun U hU hW => ⟨rfl, hX.warm hW, by rw [hU]; exact hR⟩⟩
  have hroom : (ax_rm d mc ms).frames + 1 ≤ R.frames ∧ 8 + (maxL + 11) + (ax_rm d mc ms).locals ≤ R.locals := ⟨hf, by show 8 + (maxL + 11) + 40 * d ≤ R.locals; omega⟩
  have key : ∀ (hr : va_Run p l e R s m args below meth c H locs cs ss mc ms (F0 m pc ls ((as.reverse ++ .ref k :: st).map (ax_v G))) (st.map (ax_v G)) (ax_Qc G r g' n' (Value.ref (G.2.1 + k) :: as.map (ax_v G)).toArray) (fun q => G.2.1 ≤ q)), W p l e R s m args below meth c H locs cs ss Q (F0 m pc ls ((as.reverse ++ .ref k :: st).map (ax_v G))) := fun hr => ax_after hr hL fun H1 locs1 hR1 hL1 => by
    have h := kk ls H1 locs1 hl hR1 hL1
    cases r <;> exact h
  have hlen : (as.map (ax_v G)).length = nA := by rw [List.length_map]; exact hn
  have hstk : (as.reverse ++ .ref k :: st).map (ax_v G) = (as.map (ax_v G)).reverse ++ .ref (G.2.1 + k) :: st.map (ax_v G) := by rw [List.map_append, List.map_reverse]; rfl
  have hW8 : 2 * (F0 m pc ls ((as.reverse ++ .ref k :: st).map (ax_v G))).monitorRoom + ((st.map (ax_v G)).map fun v => v.category).sum ≤ 8 := by
    rw [ax_sum_map]; show 2 * 0 + _ ≤ 8; omega
  rcases hw with hw | ⟨host, hw⟩
  · exact key (va_runV ⟨hx, hb, hml, hown, hts⟩ hM ⟨callB_of nA hts (ax_good hcw) rfl rfl rfl (hts _ hin) (hts _ hw) hyy hroom, hts _ hst, hts _ hse⟩ hp rfl hlen (hl.1) hstk hW8 hd ⟨hcs, hss⟩)
  · exact key (va_runVN ⟨hx, hb, hml, hown, hts⟩ hM ⟨va_cnB nA hts (ax_good hcw) rfl rfl rfl (hX.2.1 _ hw rfl) (hts _ hin) hyy hroom, hts _ hst, hts _ hse⟩ hp rfl hlen (hl.1) hstk hW8 hd ⟨hcs, hss⟩)
theorem ax_callI (M : ax_M G p s m args meth c own cc nL) {k : Nat} (hM : ax_Met l G y bytes maxL none d (.ref k :: as) g n none g' n' mc ms) (hy : ax_callee y bytes maxL none nA) (hst : Cond.instanceMethod y ∈ ax_G) (hy1 : y.name = "<init>")
    (hw : Cond.methodLink own idx y ∈ ax_G ∨ ∃ host, Cond.methodLinkNest own idx y host ∈ lw_tbl) (hn : as.length = nA) (hf : d + 1 ≤ R.frames) (hlo : 40 * (d + 1) ≤ R.locals) (hcs : cs + mc ≤ R.cells) (hss : ss + ms ≤ R.slots) (hsum : ax_sum st ≤ 8)
    (hd : decode cc pc = .ok (.invokespecial idx, 3)) (kk : ax_W G p l e R s m args below meth c Q nL (pc + 3) lv st g' n' (cs + mc) (ss + ms)) : ax_W G p l e R s m args below meth c Q nL pc lv (as.reverse ++ .ref k :: st) g n cs ss := by
  intro ls H locs hl hR hL
  obtain ⟨hx, hb, hml, hown, hts, -, hX⟩ := M
  obtain ⟨hcw, hin, hyy, hmx⟩ := hy
  have hp : PreS s H (ax_Pc G (.ref k :: as) g n) (.ref (G.2.1 + k) :: as.map (ax_v G)) := ⟨ax_blind G _ g n, fun U hU hW => ⟨rfl, hX.warm hW, by rw [hU]; exact hR⟩⟩
  have hroom : (ax_rm d mc ms).frames + 1 ≤ R.frames ∧ 8 + (maxL + 11) + (ax_rm d mc ms).locals ≤ R.locals := ⟨hf, by show 8 + (maxL + 11) + 40 * d ≤ R.locals; omega⟩
  have key : ∀ (hr : va_Run p l e R s m args below meth c H locs cs ss mc ms (F0 m pc ls ((as.reverse ++ .ref k :: st).map (ax_v G))) (st.map (ax_v G)) (ax_Qc G none g' n' (Value.ref (G.2.1 + k) :: as.map (ax_v G)).toArray) (fun q => G.2.1 ≤ q)), W p l e R s m args below meth c H locs cs ss Q (F0 m pc ls ((as.reverse ++ .ref k :: st).map (ax_v G))) := fun hr => ax_after hr hL fun H1 locs1 hR1 hL1 => kk ls H1 locs1 hl hR1 hL1
  have hlen : (as.map (ax_v G)).length = nA := by rw [List.length_map]; exact hn
  have hstk : (as.reverse ++ .ref k :: st).map (ax_v G) = (as.map (ax_v G)).reverse ++ .ref (G.2.1 + k) :: st.map (ax_v G) := by rw [List.map_append, List.map_reverse]; rfl
  have hW8 : 2 * (F0 m pc ls ((as.reverse ++ .ref k :: st).map (ax_v G))).monitorRoom + ((st.map (ax_v G)).map fun v => v.category).sum ≤ 8 := by
    rw [ax_sum_map]; show 2 * 0 + _ ≤ 8; omega
  rcases hw with hw | ⟨host, hw⟩
  · exact key (va_runI ⟨hx, hb, hml, hown, hts⟩ hM ⟨callB_of nA hts (ax_good hcw) rfl rfl rfl (hts _ hin) (hts _ hw) hyy hroom, hy1, hts _ hst⟩ hp rfl hlen (hl.1) hstk hW8 hd ⟨hcs, hss⟩)
  · exact key (va_runIN ⟨hx, hb, hml, hown, hts⟩ hM ⟨va_cnB nA hts (ax_good hcw) rfl rfl rfl (hX.2.1 _ hw rfl) (hts _ hin) hyy hroom, hy1, hts _ hst⟩ hp rfl hlen (hl.1) hstk hW8 hd ⟨hcs, hss⟩)
theorem ax_objInit (M : ax_M G p s m args meth c own cc nL) {k : Nat} (hw : Cond.methodLink own idx objectInit ∈ ax_G) (h1 : Cond.instanceMethod objectInit ∈ ax_G) (h2 : Cond.code objectInit ⟨#[0xb1]⟩ 1 none ∈ ax_G) (hf : 1 ≤ R.frames) (hlo : 20 ≤ R.locals) (hsum : ax_sum st ≤ 8)
    (hd : decode cc pc = .ok (.invokespecial idx, 3)) (kk : ax_W G p l e R s m args below meth c Q nL (pc + 3) lv st g n cs ss) : ax_W G p l e R s m args below meth c Q nL pc lv (.ref k :: st) g n cs ss := by
  intro ls H locs hl hR hL
  obtain ⟨hx, hb, hml, hown, hts, -, hX⟩ := M
  refine W.objInit hx hb hown (hts _ hw) (hts _ h1) (hts _ h2) rfl (by rw [hml]; exact hl.1) rfl hd hf ?_ (kk ls H locs hl hR hL)
  rw [ax_sum_map]; show 2 * 0 + _ + 12 ≤ R.locals; omega
end AXA
end
section
/-! ===== a machine over the numbered cells that a program can run: one step ===== -/
/-- resolved: kind (0 field, 1 nest mate's field, 2 static array, 3 method, 4 nest mate's method, 5 class, 6 int, 7 long, 8 Object's constructor, 9 Math.min, 10 Math.max), two numbers, a constant -/
abbrev ax_PE : Type := Nat × Nat × Nat × Int
/-- pc, instruction, its length, what it names, places of its words in the tables -/
abbrev ax_EN : Type := Nat × Instr × Nat × ax_PE × List Nat
/-- class, name, bytes, locals, answer's type, number of arguments, new cells, new slots, instructions in lists of pc / 32 -/
abbrev ax_MI : Type := String × MethodName × ByteArray × Nat × Option FieldType × Nat × Nat × Nat × List (List ax_EN)
/-- a cell as data: an array's contents as the list of what was stored, the latest first -/
abbrev ax_D : Type := (Nat × Nat × (List (Nat × Int32) ⊕ List (Nat × Option Nat))) ⊕ (Nat × List Value)
def ax_fi : List (Nat × Int32) → Nat → Int32
  | [] => fun _ => 0
  | q :: l => upd (ax_fi l) q.1 q.2
def ax_fr : List (Nat × Option Nat) → Nat → Option Nat
  | [] => fun _ => none
  | q :: l => va_up (ax_fr l) q.1 q.2
def ax_un : ax_D → ax_C
  | .inl (t, n, .inl l) => .inl (t, n, .inl (ax_fi l))
  | .inl (t, n, .inr l) => .inl (t, n, .inr (ax_fr l))
  | .inr o => .inr o
/-- cells in lists of 32 -/
abbrev ax_H : Type := List (List ax_D)
def ax_raw (h : ax_H) (k : Nat) : Option ax_D := (h.getD (k / 32) [])[k % 32]?
def ax_hget (h : ax_H) (k : Nat) : Option ax_C := (ax_raw h k).map ax_un
theorem ax_get_of {h : ax_H} {k : Nat} {d : ax_D} (hk : ax_raw h k = some d) : ax_hget h k = some (ax_un d) := by unfold ax_hget; rw [hk]; rfl
def ax_hset (h : ax_H) (k : Nat) (c : ax_D) : ax_H := h.set (k / 32) ((h.getD (k / 32) []).set (k % 32) c)
def ax_hpush (h : ax_H) (n : Nat) (c : ax_D) : ax_H :=
  bif (h.getD (n / 32) []).length == n % 32 then (bif Nat.blt (n / 32) h.length then h.set (n / 32) (h.getD (n / 32) [] ++ [c]) else bif n / 32 == h.length then h ++ [[c]] else h) else h
theorem ax_dm {j k : Nat} (h1 : j / 32 = k / 32) (h2 : j % 32 = k % 32) : j = k := by omega
theorem ax_raw_set {h : ax_H} {k : Nat} {c : ax_D} : ∀ (j : Nat) (d : ax_D), ax_raw (ax_hset h k c) j = some d → (j = k ∧ d = c) ∨ (j ≠ k ∧ ax_raw h j = some d) := by
  intro j d hd
  unfold ax_raw ax_hset at hd
  unfold ax_raw
  by_cases h1 : j / 32 = k / 32
  · by_cases hl : k / 32 < h.length
    · rw [h1, List.getD_eq_getElem?_getD, List.getElem?_set_self hl] at hd
      simp only [Option.getD_some] at hd
      by_cases h2 : j % 32 = k % 32
      · left
        refine ⟨ax_dm h1 h2, ?_⟩
        rw [h2] at hd
        have hlt : k % 32 < (h.getD (k / 32) []).length := by
          have := (List.getElem?_eq_some_iff.mp hd).1
          simpa using this
        rw [List.getElem?_set_self hlt] at hd
        exact (Option.some.inj hd).symm
      · right
        refine ⟨fun e => h2 (by rw [e]), ?_⟩
        rw [List.getElem?_set_ne (Ne.symm h2)] at hd
        rw [h1]; exact hd
    · rw [List.set_eq_of_length_le (by omega)] at hd
      have : h.getD (j / 32) [] = [] := by rw [List.getD_eq_getElem?_getD, List.getElem?_eq_none (by omega)]; rfl
      rw [this] at hd
      simp at hd
  · right
    refine ⟨fun e => h1 (by rw [e]), ?_⟩
    rw [List.getD_eq_getElem?_getD, List.getElem?_set_ne (Ne.symm h1), ← List.getD_eq_getElem?_getD] at hd
    exact hd
theorem ax_raw_push {h : ax_H} {n : Nat} {c : ax_D} : ∀ (j : Nat) (d : ax_D), ax_raw (ax_hpush h n c) j = some d → (j = n ∧ d = c) ∨ ax_raw h j = some d := by
  intro j d hd
  unfold ax_hpush at hd
  cases e1 : ((h.getD (n / 32) []).length == n % 32) with
  | false => rw [e1] at hd; exact Or.inr hd
  | true =>
    rw [e1] at hd
    simp only [cond_true] at hd
    have e1' : (h.getD (n / 32) []).length = n % 32 := by simpa using e1
    cases e2 : Nat.blt (n / 32) h.length with
    | true =>
      rw [e2] at hd
      simp only [cond_true] at hd
      have e2' : n / 32 < h.length := by simpa [Nat.blt_eq] using e2
      unfold ax_raw at hd ⊢
      by_cases h1 : j / 32 = n / 32
      · rw [h1, List.getD_eq_getElem?_getD, List.getElem?_set_self e2'] at hd
        simp only [Option.getD_some] at hd
        by_cases h2 : j % 32 < (h.getD (n / 32) []).length
        · rw [List.getElem?_append_left h2] at hd
          right; rw [h1]; exact hd
        · rw [List.getElem?_append_right (by omega)] at hd
          have hz : j % 32 - (h.getD (n / 32) []).length < 1 := (List.getElem?_eq_some_iff.mp hd).1
          have hz0 : j % 32 - (h.getD (n / 32) []).length = 0 := by omega
          rw [hz0] at hd
          left
          exact ⟨ax_dm h1 (by omega), (Option.some.inj hd).symm⟩
      · rw [List.getD_eq_getElem?_getD, List.getElem?_set_ne (Ne.symm h1), ← List.getD_eq_getElem?_getD] at hd
        exact Or.inr hd
    | false =>
      rw [e2] at hd
      simp only [cond_false] at hd
      cases e3 : (n / 32 == h.length) with
      | false => rw [e3] at hd; exact Or.inr hd
      | true =>
        rw [e3] at hd
        simp only [cond_true] at hd
        have e3' : n / 32 = h.length := by simpa using e3
        have e4 : n % 32 = 0 := by
          rw [← e1', e3', List.getD_eq_getElem?_getD, List.getElem?_eq_none (Nat.le_refl _)]; rfl
        unfold ax_raw at hd ⊢
        by_cases h1 : j / 32 < h.length
        · rw [List.getD_eq_getElem?_getD, List.getElem?_append_left h1, ← List.getD_eq_getElem?_getD] at hd
          exact Or.inr hd
        · rw [List.getD_eq_getElem?_getD, List.getElem?_append_right (by omega)] at hd
          by_cases h2 : j / 32 = h.length
          · rw [h2, Nat.sub_self] at hd
            simp only [List.getElem?_cons_zero, Option.getD_some] at hd
            have hz : j % 32 < 1 := (List.getElem?_eq_some_iff.mp hd).1
            have hz0 : j % 32 = 0 := by omega
            rw [hz0] at hd
            left
            exact ⟨ax_dm (by omega) (by omega), (Option.some.inj hd).symm⟩
          · rw [List.getElem?_eq_none (show [[c]].length ≤ j / 32 - h.length by show 1 ≤ _; omega)] at hd
            simp at hd
theorem ax_hget_set {h : ax_H} {k : Nat} {c : ax_D} : ∀ (j : Nat) (d : ax_C), ax_hget (ax_hset h k c) j = some d → (j = k ∧ d = ax_un c) ∨ (j ≠ k ∧ ax_hget h j = some d) := by
  intro j d hd
  unfold ax_hget at hd ⊢
  obtain ⟨x, hx, rfl⟩ := Option.map_eq_some_iff.mp hd
  rcases ax_raw_set j x hx with ⟨h1, rfl⟩ | ⟨h1, h2⟩
  · exact Or.inl ⟨h1, rfl⟩
  · exact Or.inr ⟨h1, by rw [h2]; rfl⟩
theorem ax_hget_push {h : ax_H} {n : Nat} {c : ax_D} : ∀ (j : Nat) (d : ax_C), ax_hget (ax_hpush h n c) j = some d → (j = n ∧ d = ax_un c) ∨ ax_hget h j = some d := by
  intro j d hd
  unfold ax_hget at hd ⊢
  obtain ⟨x, hx, rfl⟩ := Option.map_eq_some_iff.mp hd
  rcases ax_raw_push j x hx with ⟨h1, rfl⟩ | h2
  · exact Or.inl ⟨h1, rfl⟩
  · exact Or.inr (by rw [h2]; rfl)
/-- bounds of an int, exact or a symbol -/
def ax_rg (iv : Nat → Int × Int) : Value → Option (Int × Int)
  | .int x => some (x.toInt, x.toInt)
  | .float u => some (iv u.toNat)
  | _ => none
def ax_lt (a b : Int × Int) : Option Bool := bif decide (a.2 < b.1) then some true else bif decide (b.2 ≤ a.1) then some false else none
def ax_eq (a b : Int × Int) : Option Bool := bif decide (a.2 < b.1) || decide (b.2 < a.1) then some false else bif decide (a.1 = a.2) && (decide (b.1 = b.2) && decide (a.1 = b.1)) then some true else none
def ax_cmp (c : ClassFile.Cond) (a b : Int × Int) : Option Bool := match c with
  | .eq => ax_eq a b
  | .ne => (ax_eq a b).map (!·)
  | .lt => ax_lt a b
  | .ge => (ax_lt a b).map (!·)
  | .gt => ax_lt b a
  | .le => (ax_lt b a).map (!·)
def ax_holds (c : ClassFile.Cond) (x y : Int32) : Prop := match c with
  | .eq => x = y
  | .ne => ¬ x = y
  | .lt => x < y
  | .ge => y ≤ x
  | .gt => y < x
  | .le => x ≤ y
theorem ax_lt_ok {a b : Int × Int} {x y : Int32} (hx : a.1 ≤ x.toInt ∧ x.toInt ≤ a.2) (hy : b.1 ≤ y.toInt ∧ y.toInt ≤ b.2) {t : Bool} (h : ax_lt a b = some t) : (x < y ↔ t = true) := by
  unfold ax_lt at h
  rw [Int32.lt_iff_toInt_lt]
  cases e1 : decide (a.2 < b.1) with
  | true =>
    rw [e1] at h
    have := of_decide_eq_true e1
    cases h
    exact ⟨fun _ => rfl, fun _ => by omega⟩
  | false =>
    rw [e1] at h
    simp only [cond_false] at h
    cases e2 : decide (b.2 ≤ a.1) with
    | true =>
      rw [e2] at h
      have := of_decide_eq_true e2
      cases h
      exact ⟨fun _ => by omega, fun h => by cases h⟩
    | false => rw [e2] at h; cases h
theorem ax_eq_ok {a b : Int × Int} {x y : Int32} (hx : a.1 ≤ x.toInt ∧ x.toInt ≤ a.2) (hy : b.1 ≤ y.toInt ∧ y.toInt ≤ b.2) {t : Bool} (h : ax_eq a b = some t) : (x = y ↔ t = true) := by
  unfold ax_eq at h
  cases e1 : decide (a.2 < b.1) || decide (b.2 < a.1) with
  | true =>
    rw [e1] at h
    cases h
    refine ⟨fun e => ?_, fun h => by cases h⟩
    subst e
    simp only [Bool.or_eq_true, decide_eq_true_eq] at e1
    omega
  | false =>
    rw [e1] at h
    simp only [cond_false] at h
    cases e2 : decide (a.1 = a.2) && (decide (b.1 = b.2) && decide (a.1 = b.1)) with
    | true =>
      rw [e2] at h
      cases h
      simp only [Bool.and_eq_true, decide_eq_true_eq] at e2
      exact ⟨fun _ => rfl, fun _ => Int32.toInt_inj.mp (by omega)⟩
    | false => rw [e2] at h; cases h
theorem ax_cmp_ok {c : ClassFile.Cond} {a b : Int × Int} {x y : Int32} (hx : a.1 ≤ x.toInt ∧ x.toInt ≤ a.2) (hy : b.1 ≤ y.toInt ∧ y.toInt ≤ b.2) {t : Bool} (h : ax_cmp c a b = some t) : (ax_holds c x y ↔ t = true) := by
  cases c with
  | eq => exact ax_eq_ok hx hy h
  | ne =>
    simp only [ax_cmp, Option.map_eq_some_iff] at h
    obtain ⟨u, hu, rfl⟩ := h
    have := ax_eq_ok hx hy hu
    simp only [ax_holds, this]
    cases u <;> simp
  | lt => exact ax_lt_ok hx hy h
  | ge =>
    simp only [ax_cmp, Option.map_eq_some_iff] at h
    obtain ⟨u, hu, rfl⟩ := h
    have := ax_lt_ok hx hy hu
    simp only [ax_holds, ← Int32.not_lt, this]
    cases u <;> simp
  | gt => exact ax_lt_ok hy hx h
  | le =>
    simp only [ax_cmp, Option.map_eq_some_iff] at h
    obtain ⟨u, hu, rfl⟩ := h
    have := ax_lt_ok hy hx hu
    simp only [ax_holds, ← Int32.not_lt, this]
    cases u <;> simp
def ax_fit (ty : FieldType) : Value → Bool
  | .int x => decide (narrow ty (.int x) = .int x) && fits ty (.int x)
  | .long x => fits ty (.long x)
  | .ref _ => fits ty .null
  | .retAddr _ => fits ty .null
  | .null => fits ty .null
  | .float _ => decide (ty = .int)
  | .double _ => false
theorem ax_fit_ok (G : ax_T) {ty : FieldType} {v : Value} (h : ax_fit ty v = true) : narrow ty (ax_v G v) = ax_v G v ∧ fits ty (ax_v G v) = true := by
  cases v with
  | int x => simp only [ax_fit, Bool.and_eq_true, decide_eq_true_eq] at h; exact h
  | long x => refine ⟨by cases ty <;> rfl, h⟩
  | ref k => refine ⟨by cases ty <;> rfl, ?_⟩; cases ty <;> first | rfl | (cases h)
  | retAddr k => refine ⟨by cases ty <;> rfl, ?_⟩; cases ty <;> first | rfl | (cases h)
  | null => refine ⟨by cases ty <;> rfl, h⟩
  | float u => have := of_decide_eq_true h; subst this; exact ⟨rfl, rfl⟩
  | double u => cases h
def ax_look (lv : List (Nat × Value)) (k : Nat) : Option Value := (lv.find? fun q => q.1 == k).map (·.2)
theorem ax_look_ok {G : ax_T} {ls : Array Slot} {nL : Nat} {lv : List (Nat × Value)} (hl : lv_has ls nL (lv.map fun q => (q.1, ax_v G q.2))) {k : Nat} {v : Value} (h : ax_look lv k = some v) : ls[k]? = some (.val (ax_v G v)) := by
  unfold ax_look at h
  cases e : lv.find? (fun q => q.1 == k) with
  | none => rw [e] at h; cases h
  | some q =>
    rw [e] at h
    have h1 : q.2 = v := Option.some.inj h
    have h2 : q.1 = k := by simpa using List.find?_some e
    have := hl.2.2 (q.1, ax_v G q.2) (List.mem_map.mpr ⟨q, List.mem_of_find?_eq_some e, rfl⟩)
    rw [← h1, ← h2]; exact this
def ax_put1 (lv : List (Nat × Value)) (i : Nat) (v : Value) : List (Nat × Value) := (i, v) :: lv.filter (fun q => !(q.1 == i) && !(q.1 + 1 == i && q.2.category == 2))
def ax_put2 (lv : List (Nat × Value)) (i : Nat) (v : Value) : List (Nat × Value) := (i, v) :: lv.filter (fun q => !(q.1 == i) && (!(q.1 == i + 1) && !(q.1 + 1 == i && q.2.category == 2)))
theorem ax_put1_map (G : ax_T) (lv : List (Nat × Value)) (i : Nat) (v : Value) : (i, ax_v G v) :: (lv.map fun q => (q.1, ax_v G q.2)).filter (fun q => !(q.1 == i) && !(q.1 + 1 == i && q.2.category == 2)) = (ax_put1 lv i v).map fun q => (q.1, ax_v G q.2) := by
  unfold ax_put1
  rw [List.map_cons, List.filter_map]
  congr 2
  apply List.filter_congr
  intro q _
  simp [ax_cat]
theorem ax_put2_map (G : ax_T) (lv : List (Nat × Value)) (i : Nat) (v : Value) : (i, ax_v G v) :: (lv.map fun q => (q.1, ax_v G q.2)).filter (fun q => !(q.1 == i) && (!(q.1 == i + 1) && !(q.1 + 1 == i && q.2.category == 2))) = (ax_put2 lv i v).map fun q => (q.1, ax_v G q.2) := by
  unfold ax_put2
  rw [List.map_cons, List.filter_map]
  congr 2
  apply List.filter_congr
  intro q _
  simp [ax_cat]
/-- pc, locals, stack, cells, how many, new cells and slots so far -/
abbrev ax_F : Type := Nat × List (Nat × Value) × List Value × ax_H × Nat × Nat × Nat
def ax_to (pc : Nat) (off : Int) : Option Nat := bif decide (0 ≤ (pc : Int) + off) then some ((pc : Int) + off).toNat else none
theorem ax_to_ok {pc t : Nat} {off : Int} (h : ax_to pc off = some t) : (pc : Int) + off = (t : Int) := by
  unfold ax_to at h
  cases e : decide (0 ≤ (pc : Int) + off) with
  | false => rw [e] at h; cases h
  | true =>
    rw [e] at h
    have := of_decide_eq_true e
    cases h
    omega
def ax_inB (i : Int32) (N : Nat) : Bool := decide (0 ≤ i.toInt) && decide (i.toInt < N)
theorem ax_inB_ok {i : Int32} {N : Nat} (h : ax_inB i N = true) : vp_in i N := by
  simp only [ax_inB, Bool.and_eq_true, decide_eq_true_eq] at h
  exact vp_in_iff.mpr h
/-- class of the objects that an array of references holds, by the number of the array's type -/
def ax_tc : Nat → Option (Nat × String)
  | 2 => some (5, "LetterSums$Row")
  | 3 => some (1, "LetterSums$Custom")
  | 4 => some (3, "LetterSums$Mason")
  | _ => none
theorem ax_tc_ok {t ci : Nat} {C : String} (h : ax_tc t = some (ci, C)) : ax_tn[t]? = some (.object C) ∧ ∃ T N, ax_cl[ci]? = some (C, T, N) := by
  match t, h with
  | 2, h => cases h; exact ⟨rfl, _, _, rfl⟩
  | 3, h => cases h; exact ⟨rfl, _, _, rfl⟩
  | 4, h => cases h; exact ⟨rfl, _, _, rfl⟩
  | 0, h => cases h
  | 1, h => cases h
  | n + 5, h => cases h
section STEP
variable (iv : Nat → Int × Int) (nL : Nat) (pe : ax_PE) (pc : Nat) (lv : List (Nat × Value)) (st : List Value) (h : ax_H) (n cs ss : Nat)
def ax_s_push (len : Nat) (v : Value) : Option ax_F := some (pc + len, lv, v :: st, h, n, cs, ss)
def ax_s_ld (len k : Nat) (kind : Nat) : Option ax_F := match ax_look lv k with
  | some (.int x) => bif kind == 0 then some (pc + len, lv, .int x :: st, h, n, cs, ss) else none
  | some (.float x) => bif kind == 0 then some (pc + len, lv, .float x :: st, h, n, cs, ss) else none
  | some (.ref x) => bif kind == 1 then some (pc + len, lv, .ref x :: st, h, n, cs, ss) else none
  | some (.retAddr x) => bif kind == 1 then some (pc + len, lv, .retAddr x :: st, h, n, cs, ss) else none
  | some (.long x) => bif kind == 2 then some (pc + len, lv, .long x :: st, h, n, cs, ss) else none
  | _ => none
def ax_s_st (len k : Nat) (kind : Nat) : Option ax_F := match st with
  | .int x :: st => bif kind == 0 && Nat.blt k nL then some (pc + len, ax_put1 lv k (.int x), st, h, n, cs, ss) else none
  | .float x :: st => bif kind == 0 && Nat.blt k nL then some (pc + len, ax_put1 lv k (.float x), st, h, n, cs, ss) else none
  | .ref x :: st => bif kind == 1 && Nat.blt k nL then some (pc + len, ax_put1 lv k (.ref x), st, h, n, cs, ss) else none
  | .retAddr x :: st => bif kind == 1 && Nat.blt k nL then some (pc + len, ax_put1 lv k (.retAddr x), st, h, n, cs, ss) else none
  | .long x :: st => bif kind == 2 && Nat.blt (k + 1) nL then some (pc + len, ax_put2 lv k (.long x), st, h, n, cs, ss) else none
  | _ => none
def ax_s_i2 (op : Int32 → Int32 → Int32) : Option ax_F := match st with
  | .int y :: .int x :: st => some (pc + 1, lv, .int (op x y) :: st, h, n, cs, ss)
  | _ => none
def ax_s_l2 (op : Int64 → Int64 → Int64) : Option ax_F := match st with
  | .long y :: .long x :: st => some (pc + 1, lv, .long (op x y) :: st, h, n, cs, ss)
  | _ => none
def ax_s_div (op : Int32 → Int32 → Int32) : Option ax_F := match st with
  | .int y :: .int x :: st => bif decide (y = 0) then none else some (pc + 1, lv, .int (op x y) :: st, h, n, cs, ss)
  | _ => none
def ax_s_br (c : ClassFile.Cond) (off : Int) (a b : Value) (st : List Value) : Option ax_F := match ax_to pc off with
  | none => none
  | some tg => match ax_rg iv a, ax_rg iv b with
    | some ra, some rb => match ax_cmp c ra rb with
      | some true => some (tg, lv, st, h, n, cs, ss)
      | some false => some (pc + 3, lv, st, h, n, cs, ss)
      | none => none
    | _, _ => none
def ax_s_getf : Option ax_F := match st with
  | .ref k :: st => match ax_raw h k with
    | some (.inr (ci, fs)) => bif ci == pe.2.1 then (fs[pe.2.2.1]?).map fun v => (pc + 3, lv, v :: st, h, n, cs, ss) else none
    | _ => none
  | _ => none
def ax_s_putf : Option ax_F := match st with
  | v :: .ref k :: st => match ax_raw h k with
    | some (.inr (ci, fs)) => bif ci == pe.2.1 && (Nat.blt pe.2.2.1 fs.length && ax_fit (ax_ty pe.2.1 pe.2.2.1) v) then some (pc + 3, lv, st, ax_hset h k (.inr (ci, fs.set pe.2.2.1 v)), n, cs, ss) else none
    | _ => none
  | _ => none
def ax_s_iald : Option ax_F := match st with
  | .int i :: .ref k :: st => match ax_raw h k with
    | some (.inl (t, N, .inl f)) => bif t == 0 && ax_inB i N then some (pc + 1, lv, .int (ax_fi f i.toNatClampNeg) :: st, h, n, cs, ss) else none
    | _ => none
  | .int i :: .retAddr j :: st => match ax_st[j]? with
    | some z => bif ax_inB i z.2.2.length then some (pc + 1, lv, .int (z.2.2.getD i.toNatClampNeg 0) :: st, h, n, cs, ss) else none
    | none => none
  | _ => none
def ax_s_bald : Option ax_F := match st with
  | .int i :: .ref k :: st => match ax_raw h k with
    | some (.inl (t, N, .inl f)) => bif t == 1 && ax_inB i N then some (pc + 1, lv, .int (ax_fi f i.toNatClampNeg) :: st, h, n, cs, ss) else none
    | _ => none
  | _ => none
def ax_s_aald : Option ax_F := match st with
  | .int i :: .ref k :: st => match ax_raw h k with
    | some (.inl (t, N, .inr f)) => match ax_tc t with
      | some _ => bif ax_inB i N then (ax_fr f i.toNatClampNeg).map fun k' => (pc + 1, lv, .ref k' :: st, h, n, cs, ss) else none
      | none => none
    | _ => none
  | _ => none
def ax_s_iast : Option ax_F := match st with
  | .int x :: .int i :: .ref k :: st => match ax_raw h k with
    | some (.inl (t, N, .inl f)) => bif t == 0 && ax_inB i N then some (pc + 1, lv, st, ax_hset h k (.inl (t, N, .inl ((i.toNatClampNeg, x) :: f))), n, cs, ss) else none
    | _ => none
  | _ => none
def ax_s_aast : Option ax_F := match st with
  | .ref k' :: .int i :: .ref k :: st => match ax_raw h k, ax_raw h k' with
    | some (.inl (t, N, .inr f)), some (.inr (ci, _)) => match ax_tc t with
      | some q => bif ci == q.1 && ax_inB i N then some (pc + 1, lv, st, ax_hset h k (.inl (t, N, .inr ((i.toNatClampNeg, some k') :: f))), n, cs, ss) else none
      | none => none
    | _, _ => none
  | _ => none
def ax_s_newa : Option ax_F := match st with
  | .int i :: st => bif decide (0 ≤ i.toInt) && decide (i.toNatClampNeg * 8 ≤ 536870912) then some (pc + 2, lv, .ref n :: st, ax_hpush h n (.inl (pe.2.1, i.toNatClampNeg, .inl [])), n + 1, cs + 1, ss + i.toNatClampNeg) else none
  | _ => none
def ax_s_newq : Option ax_F := match st with
  | .int i :: st => bif decide (0 ≤ i.toInt) && decide (i.toNatClampNeg * 4 ≤ 536870912) then some (pc + 3, lv, .ref n :: st, ax_hpush h n (.inl (pe.2.1, i.toNatClampNeg, .inr [])), n + 1, cs + 1, ss + i.toNatClampNeg) else none
  | _ => none
def ax_s_table (d lo hi : Int) (offs : Array Int) : Option ax_F := match st with
  | .int x :: st => bif decide (x.toInt < lo) || decide (hi < x.toInt) then (ax_to pc d).map fun t => (t, lv, st, h, n, cs, ss)
      else match offs[(x.toInt - lo).toNat]? with
        | some off => (ax_to pc off).map fun t => (t, lv, st, h, n, cs, ss)
        | none => none
  | .float u :: st => bif decide ((iv u.toNat).2 < lo) || decide (hi < (iv u.toNat).1) then (ax_to pc d).map fun t => (t, lv, st, h, n, cs, ss) else none
  | _ => none
def ax_s_lookup (d : Int) (ps : Array (Int × Int)) : Option ax_F := bif (ps.toList.zip (ps.toList.drop 1)).all (fun (a, next) => a.1 < next.1) then (match st with
  | .int x :: st => (ax_to pc (Op.lookupswitch.offset ps.toList d x.toInt)).map fun t => (t, lv, st, h, n, cs, ss)
  | .float u :: st => bif ps.toList.all (fun q => decide ((iv u.toNat).2 < q.1) || decide (q.1 < (iv u.toNat).1)) then (ax_to pc d).map fun t => (t, lv, st, h, n, cs, ss) else none
  | _ => none) else none
end STEP
/-- one step, but calls and returns -/
def ax_step (iv : Nat → Int × Int) (nL : Nat) (i : Instr) (pe : ax_PE) (pc : Nat) (lv : List (Nat × Value)) (st : List Value) (h : ax_H) (n cs ss : Nat) : Option ax_F := match i with
  | .iconst k => ax_s_push pc lv st h n cs ss 1 (.int (Int32.ofInt k))
  | .bipush k => ax_s_push pc lv st h n cs ss 2 (.int (Int8.ofInt k).toInt32)
  | .sipush k => ax_s_push pc lv st h n cs ss 3 (.int (Int16.ofInt k).toInt32)
  | .lconst k => ax_s_push pc lv st h n cs ss 1 (.long (Int64.ofNat (k : Nat)))
  | .ldc _ => ax_s_push pc lv st h n cs ss 2 (.int (Int32.ofInt pe.2.2.2))
  | .ldc_w _ => ax_s_push pc lv st h n cs ss 3 (.int (Int32.ofInt pe.2.2.2))
  | .ldc2_w _ => ax_s_push pc lv st h n cs ss 3 (.long (Int64.ofInt pe.2.2.2))
  | .iload k => ax_s_ld pc lv st h n cs ss 2 k 0
  | .iload_n k => ax_s_ld pc lv st h n cs ss 1 k 0
  | .aload k => ax_s_ld pc lv st h n cs ss 2 k 1
  | .aload_n k => ax_s_ld pc lv st h n cs ss 1 k 1
  | .lload k => ax_s_ld pc lv st h n cs ss 2 k 2
  | .lload_n k => ax_s_ld pc lv st h n cs ss 1 k 2
  | .istore k => ax_s_st nL pc lv st h n cs ss 2 k 0
  | .istore_n k => ax_s_st nL pc lv st h n cs ss 1 k 0
  | .astore k => ax_s_st nL pc lv st h n cs ss 2 k 1
  | .astore_n k => ax_s_st nL pc lv st h n cs ss 1 k 1
  | .lstore k => ax_s_st nL pc lv st h n cs ss 2 k 2
  | .lstore_n k => ax_s_st nL pc lv st h n cs ss 1 k 2
  | .iinc k x => match ax_look lv k with
    | some (.int v) => bif Nat.blt k nL then some (pc + 3, ax_put1 lv k (.int (v + Int32.ofInt x)), st, h, n, cs, ss) else none
    | _ => none
  | .iadd => ax_s_i2 pc lv st h n cs ss (fun x y => x + y)
  | .isub => ax_s_i2 pc lv st h n cs ss (fun x y => x - y)
  | .imul => ax_s_i2 pc lv st h n cs ss (fun x y => x * y)
  | .iand => ax_s_i2 pc lv st h n cs ss (fun x y => x &&& y)
  | .ior => ax_s_i2 pc lv st h n cs ss (fun x y => x ||| y)
  | .ishl => ax_s_i2 pc lv st h n cs ss (fun x y => x <<< (y &&& 31))
  | .ishr => ax_s_i2 pc lv st h n cs ss (fun x y => x >>> (y &&& 31))
  | .idiv => ax_s_div pc lv st h n cs ss (fun x y => x / y)
  | .irem => ax_s_div pc lv st h n cs ss (fun x y => x - x / y * y)
  | .ineg => match st with
    | .int x :: st => some (pc + 1, lv, .int (-x) :: st, h, n, cs, ss)
    | _ => none
  | .ladd => ax_s_l2 pc lv st h n cs ss (fun x y => x + y)
  | .lmul => ax_s_l2 pc lv st h n cs ss (fun x y => x * y)
  | .i2l => match st with
    | .int x :: st => some (pc + 1, lv, .long x.toInt64 :: st, h, n, cs, ss)
    | _ => none
  | .dup => match st with
    | v :: st => bif v.category == 1 then some (pc + 1, lv, v :: v :: st, h, n, cs, ss) else none
    | _ => none
  | .dup2 => match st with
    | v :: w :: st => bif v.category == 1 && w.category == 1 then some (pc + 1, lv, v :: w :: v :: w :: st, h, n, cs, ss) else none
    | _ => none
  | .pop => match st with
    | v :: st => bif v.category == 1 then some (pc + 1, lv, st, h, n, cs, ss) else none
    | _ => none
  | .goto off => (ax_to pc off).map fun t => (t, lv, st, h, n, cs, ss)
  | .ifCond c off => match st with
    | a :: st => ax_s_br iv pc lv h n cs ss c off a (.int 0) st
    | _ => none
  | .if_icmp c off => match st with
    | b :: a :: st => ax_s_br iv pc lv h n cs ss c off a b st
    | _ => none
  | .getfield _ => ax_s_getf pe pc lv st h n cs ss
  | .putfield _ => ax_s_putf pe pc lv st h n cs ss
  | .getstatic _ => ax_s_push pc lv st h n cs ss 3 (.retAddr pe.2.1)
  | .iaload => ax_s_iald pc lv st h n cs ss
  | .baload => ax_s_bald pc lv st h n cs ss
  | .aaload => ax_s_aald pc lv st h n cs ss
  | .iastore => ax_s_iast pc lv st h n cs ss
  | .aastore => ax_s_aast pc lv st h n cs ss
  | .new _ => some (pc + 3, lv, .ref n :: st, ax_hpush h n (.inr (pe.2.1, ax_born pe.2.1 pe.2.2.1)), n + 1, cs + 1, ss + pe.2.2.1)
  | .newarray _ => ax_s_newa pe pc lv st h n cs ss
  | .anewarray _ => ax_s_newq pe pc lv st h n cs ss
  | .tableswitch d lo hi offs => ax_s_table iv pc lv st h n cs ss d lo hi offs
  | .lookupswitch d ps => ax_s_lookup iv pc lv st h n cs ss d ps
  | .invokespecial _ => match st with
    | .ref _ :: st => bif pe.1 == 8 && Nat.ble (ax_sum st) 8 then some (pc + 3, lv, st, h, n, cs, ss) else none
    | _ => none
  | .invokestatic _ => match st with
    | .int y :: .int x :: st => bif pe.1 == 9 && Nat.ble (ax_sum st) 8 then some (pc + 3, lv, .int (if y < x then y else x) :: st, h, n, cs, ss) else none
    | _ => none
  | _ => none
end
section
/-! ===== one step is the machine's ===== -/
def ax_len : Instr → Nat
  | .bipush _ => 2
  | .sipush _ => 3
  | .ldc _ => 2
  | .ldc_w _ => 3
  | .ldc2_w _ => 3
  | .iload _ => 2
  | .aload _ => 2
  | .lload _ => 2
  | .istore _ => 2
  | .astore _ => 2
  | .lstore _ => 2
  | .iinc _ _ => 3
  | .goto _ => 3
  | .ifCond _ _ => 3
  | .if_icmp _ _ => 3
  | .getfield _ => 3
  | .putfield _ => 3
  | .getstatic _ => 3
  | .new _ => 3
  | .newarray _ => 2
  | .anewarray _ => 3
  | .invokespecial _ => 3
  | .invokestatic _ => 3
  | .invokevirtual _ => 3
  | .tableswitch _ _ _ _ => 0
  | .lookupswitch _ _ => 0
  | _ => 1
def ax_OkW (prog : List ax_MI) (own nm : String) (i : Instr) (pe : ax_PE) : Prop := match i with
  | .getfield idx => ∃ C T N, ax_cl[pe.2.1]? = some (C, T, N) ∧ pe.2.2.1 < N ∧ (Cond.fieldLink own idx (T pe.2.2.1).1 (T pe.2.2.1).2.1 (T pe.2.2.1).2.2.1 ∈ ax_G ∨ ∃ host, Cond.fieldLinkNest own idx (T pe.2.2.1).1 (T pe.2.2.1).2.1 (T pe.2.2.1).2.2.1 host ∈ lw_tbl)
  | .putfield idx => ∃ C T N, ax_cl[pe.2.1]? = some (C, T, N) ∧ pe.2.2.1 < N ∧ (((T pe.2.2.1).2.2.2 = false ∧ (Cond.fieldLink own idx (T pe.2.2.1).1 (T pe.2.2.1).2.1 (T pe.2.2.1).2.2.1 ∈ ax_G ∨ ∃ host, Cond.fieldLinkNest own idx (T pe.2.2.1).1 (T pe.2.2.1).2.1 (T pe.2.2.1).2.2.1 host ∈ lw_tbl)) ∨
      ((T pe.2.2.1).2.2.2 = true ∧ Cond.fieldLink own idx (T pe.2.2.1).1 (T pe.2.2.1).2.1 (T pe.2.2.1).2.2.1 ∈ ax_G ∧ nm = "<init>" ∧ (T pe.2.2.1).1 = own))
  | .getstatic idx => ∃ z, ax_st[pe.2.1]? = some z ∧ (Cond.fieldLink own idx z.1 z.2.1 "[I" ∈ ax_G ∨ ∃ host, Cond.fieldLinkNest own idx z.1 z.2.1 "[I" host ∈ lw_tbl)
  | .new idx => ∃ C T, ax_cl[pe.2.1]? = some (C, T, pe.2.2.1) ∧ Cond.classLink own idx C ∈ ax_G ∧ Cond.instantiable C pe.2.2.1 ∈ ax_G ∧ Cond.initialized C ∈ ax_G ∧ ax_nofl pe.2.1 pe.2.2.1 = true
  | .newarray a => Cond.arrayClass (newarray.typeOf a) ∈ ax_G ∧ ax_tn[pe.2.1]? = some (newarray.typeOf a) ∧ (a = .int ∨ a = .byte)
  | .anewarray idx => ∃ C, Cond.classLink own idx C ∈ ax_G ∧ ax_tn[pe.2.1]? = some (.object C) ∧ (C = "LetterSums$Row" ∨ C = "LetterSums$Custom" ∨ C = "LetterSums$Mason")
  | .ldc idx => Cond.constant own idx (Int32.ofInt pe.2.2.2) ∈ ax_G
  | .ldc_w idx => Cond.constant own idx (Int32.ofInt pe.2.2.2) ∈ ax_G
  | .ldc2_w idx => Cond.constantLong own idx (Int64.ofInt pe.2.2.2) ∈ ax_G
  | .invokestatic idx => (pe.1 = 9 ∧ Cond.methodLink own idx Lib.Math.min.name ∈ ax_G ∧ Cond.static Lib.Math.min.name ∈ ax_G ∧ Cond.initialized "java/lang/Math" ∈ ax_G ∧ Cond.code Lib.Math.min.name Lib.Math.min.code 2 (some .int) ∈ ax_G) ∨
      (pe.1 ≠ 9 ∧ ∃ mi : ax_MI, prog[pe.2.1]? = some mi ∧ Cond.static mi.2.1 ∈ ax_G ∧ (Cond.methodLink own idx mi.2.1 ∈ ax_G ∨ ∃ host, Cond.methodLinkNest own idx mi.2.1 host ∈ lw_tbl))
  | .invokevirtual idx => ∃ (mi : ax_MI) (T : u_T) (N : Nat), prog[pe.2.1]? = some mi ∧ ax_cl[pe.2.2.1]? = some (mi.2.1.cls, T, N) ∧ Cond.instanceMethod mi.2.1 ∈ ax_G ∧ Cond.selects mi.2.1.cls mi.2.1 mi.2.1 ∈ ax_G ∧ (Cond.methodLink own idx mi.2.1 ∈ ax_G ∨ ∃ host, Cond.methodLinkNest own idx mi.2.1 host ∈ lw_tbl)
  | .invokespecial idx => (pe.1 = 8 ∧ Cond.methodLink own idx objectInit ∈ ax_G ∧ Cond.instanceMethod objectInit ∈ ax_G ∧ Cond.code objectInit ⟨#[0xb1]⟩ 1 none ∈ ax_G) ∨
      (pe.1 ≠ 8 ∧ ∃ mi : ax_MI, prog[pe.2.1]? = some mi ∧ mi.2.1.name = "<init>" ∧ mi.2.2.2.2.1 = none ∧ Cond.instanceMethod mi.2.1 ∈ ax_G ∧ (Cond.methodLink own idx mi.2.1 ∈ ax_G ∨ ∃ host, Cond.methodLinkNest own idx mi.2.1 host ∈ lw_tbl))
  | _ => True
def ax_Ok (prog : List ax_MI) (own nm : String) (cc : ByteArray) (pc : Nat) (i : Instr) (len : Nat) (pe : ax_PE) : Prop :=
  decode cc pc = .ok (i, len) ∧ (ax_len i = 0 ∨ len = ax_len i) ∧ ax_OkW prog own nm i pe
section AXS
variable {G : ax_T} {p : Program} {l : Launch} {e : Env} {R : Room} {s : State} {m : MethodId} {args : Array Value} {below : List Frame} {meth : Method} {c : Code} {Q : State → Prop} {own nm : String} {cc : ByteArray} {nL : Nat}
variable {pc : Nat} {lv : List (Nat × Value)} {st : List Value} {h : ax_H} {n cs ss : Nat} {iv : Nat → Int × Int} {pe : ax_PE} {F : ax_F}
def ax_WF (G : ax_T) (p : Program) (l : Launch) (e : Env) (R : Room) (s : State) (m : MethodId) (args : Array Value) (below : List Frame) (meth : Method) (c : Code) (Q : State → Prop) (nL : Nat) (F : ax_F) : Prop :=
  ax_W G p l e R s m args below meth c Q nL F.1 F.2.1 F.2.2.1 (ax_hget F.2.2.2.1) F.2.2.2.2.1 F.2.2.2.2.2.1 F.2.2.2.2.2.2
theorem ax_ld_ok {len k kind : Nat}
    (rI : kind = 0 → ∀ (ls : Array Slot) (H : Heap) (locs : List Loc) (x : Int32), ls[k]? = some (.val (.int x)) → W p l e R s m args below meth c H locs cs ss Q (F0 m (pc + len) ls (.int x :: st.map (ax_v G))) → W p l e R s m args below meth c H locs cs ss Q (F0 m pc ls (st.map (ax_v G))))
    (rA : kind = 1 → ∀ (ls : Array Slot) (H : Heap) (locs : List Loc) (x : Nat), ls[k]? = some (.val (.ref x)) → W p l e R s m args below meth c H locs cs ss Q (F0 m (pc + len) ls (.ref x :: st.map (ax_v G))) → W p l e R s m args below meth c H locs cs ss Q (F0 m pc ls (st.map (ax_v G))))
    (rL : kind = 2 → ∀ (ls : Array Slot) (H : Heap) (locs : List Loc) (x : Int64), ls[k]? = some (.val (.long x)) → W p l e R s m args below meth c H locs cs ss Q (F0 m (pc + len) ls (.long x :: st.map (ax_v G))) → W p l e R s m args below meth c H locs cs ss Q (F0 m pc ls (st.map (ax_v G))))
    (hs : ax_s_ld pc lv st h n cs ss len k kind = some F) (kk : ax_WF G p l e R s m args below meth c Q nL F) : ax_W G p l e R s m args below meth c Q nL pc lv st (ax_hget h) n cs ss := by
  intro ls H locs hl hR hL
  unfold ax_s_ld at hs
  cases e0 : ax_look lv k with
  | none => rw [e0] at hs; cases hs
  | some v =>
    rw [e0] at hs
    have h1 := ax_look_ok hl e0
    cases v with
    | int x =>
      cases e1 : kind == 0 with
      | false => simp only [e1, cond_false] at hs; cases hs
      | true =>
        simp only [e1, cond_true] at hs
        obtain rfl := Option.some.inj hs
        exact rI (by simpa using e1) ls H locs x h1 (kk ls H locs hl hR hL)
    | float x =>
      cases e1 : kind == 0 with
      | false => simp only [e1, cond_false] at hs; cases hs
      | true =>
        simp only [e1, cond_true] at hs
        obtain rfl := Option.some.inj hs
        exact rI (by simpa using e1) ls H locs _ h1 (kk ls H locs hl hR hL)
    | ref x =>
      cases e1 : kind == 1 with
      | false => simp only [e1, cond_false] at hs; cases hs
      | true =>
        simp only [e1, cond_true] at hs
        obtain rfl := Option.some.inj hs
        exact rA (by simpa using e1) ls H locs _ h1 (kk ls H locs hl hR hL)
    | retAddr x =>
      cases e1 : kind == 1 with
      | false => simp only [e1, cond_false] at hs; cases hs
      | true =>
        simp only [e1, cond_true] at hs
        obtain rfl := Option.some.inj hs
        exact rA (by simpa using e1) ls H locs _ h1 (kk ls H locs hl hR hL)
    | long x =>
      cases e1 : kind == 2 with
      | false => simp only [e1, cond_false] at hs; cases hs
      | true =>
        simp only [e1, cond_true] at hs
        obtain rfl := Option.some.inj hs
        exact rL (by simpa using e1) ls H locs _ h1 (kk ls H locs hl hR hL)
    | null => cases hs
    | double x => cases hs
theorem ax_st_ok {len k kind : Nat}
    (rI : kind = 0 → ∀ (ls : Array Slot) (H : Heap) (locs : List Loc) (rest : List Value) (x : Int32) (lw lw' : List (Nat × Value)), lv_has ls nL lw → k < nL → (k, Value.int x) :: lw.filter (fun q => !(q.1 == k) && !(q.1 + 1 == k && q.2.category == 2)) = lw' → (∀ ls' : Array Slot, lv_has ls' nL lw' → W p l e R s m args below meth c H locs cs ss Q (F0 m (pc + len) ls' rest)) → W p l e R s m args below meth c H locs cs ss Q (F0 m pc ls (.int x :: rest)))
    (rA : kind = 1 → ∀ (ls : Array Slot) (H : Heap) (locs : List Loc) (rest : List Value) (x : Nat) (lw lw' : List (Nat × Value)), lv_has ls nL lw → k < nL → (k, Value.ref x) :: lw.filter (fun q => !(q.1 == k) && !(q.1 + 1 == k && q.2.category == 2)) = lw' → (∀ ls' : Array Slot, lv_has ls' nL lw' → W p l e R s m args below meth c H locs cs ss Q (F0 m (pc + len) ls' rest)) → W p l e R s m args below meth c H locs cs ss Q (F0 m pc ls (.ref x :: rest)))
    (rL : kind = 2 → ∀ (ls : Array Slot) (H : Heap) (locs : List Loc) (rest : List Value) (x : Int64) (lw lw' : List (Nat × Value)), lv_has ls nL lw → k + 1 < nL → (k, Value.long x) :: lw.filter (fun q => !(q.1 == k) && (!(q.1 == k + 1) && !(q.1 + 1 == k && q.2.category == 2))) = lw' → (∀ ls' : Array Slot, lv_has ls' nL lw' → W p l e R s m args below meth c H locs cs ss Q (F0 m (pc + len) ls' rest)) → W p l e R s m args below meth c H locs cs ss Q (F0 m pc ls (.long x :: rest)))
    (hs : ax_s_st nL pc lv st h n cs ss len k kind = some F) (kk : ax_WF G p l e R s m args below meth c Q nL F) : ax_W G p l e R s m args below meth c Q nL pc lv st (ax_hget h) n cs ss := by
  intro ls H locs hl hR hL
  unfold ax_s_st at hs
  cases st with
  | nil => cases hs
  | cons v st =>
    cases v with
    | int x =>
      cases e1 : kind == 0 && Nat.blt k nL with
      | false => simp only [e1, cond_false] at hs; cases hs
      | true =>
        simp only [e1, cond_true] at hs
        obtain rfl := Option.some.inj hs
        simp only [Bool.and_eq_true, beq_iff_eq, Nat.blt_eq] at e1
        exact rI e1.1 ls H locs _ x _ _ hl e1.2 (ax_put1_map G lv k (.int x)) (fun ls' hl' => kk ls' H locs hl' hR hL)
    | float x =>
      cases e1 : kind == 0 && Nat.blt k nL with
      | false => simp only [e1, cond_false] at hs; cases hs
      | true =>
        simp only [e1, cond_true] at hs
        obtain rfl := Option.some.inj hs
        simp only [Bool.and_eq_true, beq_iff_eq, Nat.blt_eq] at e1
        exact rI e1.1 ls H locs _ _ _ _ hl e1.2 (ax_put1_map G lv k (.float x)) (fun ls' hl' => kk ls' H locs hl' hR hL)
    | ref x =>
      cases e1 : kind == 1 && Nat.blt k nL with
      | false => simp only [e1, cond_false] at hs; cases hs
      | true =>
        simp only [e1, cond_true] at hs
        obtain rfl := Option.some.inj hs
        simp only [Bool.and_eq_true, beq_iff_eq, Nat.blt_eq] at e1
        exact rA e1.1 ls H locs _ _ _ _ hl e1.2 (ax_put1_map G lv k (.ref x)) (fun ls' hl' => kk ls' H locs hl' hR hL)
    | retAddr x =>
      cases e1 : kind == 1 && Nat.blt k nL with
      | false => simp only [e1, cond_false] at hs; cases hs
      | true =>
        simp only [e1, cond_true] at hs
        obtain rfl := Option.some.inj hs
        simp only [Bool.and_eq_true, beq_iff_eq, Nat.blt_eq] at e1
        exact rA e1.1 ls H locs _ _ _ _ hl e1.2 (ax_put1_map G lv k (.retAddr x)) (fun ls' hl' => kk ls' H locs hl' hR hL)
    | long x =>
      cases e1 : kind == 2 && Nat.blt (k + 1) nL with
      | false => simp only [e1, cond_false] at hs; cases hs
      | true =>
        simp only [e1, cond_true] at hs
        obtain rfl := Option.some.inj hs
        simp only [Bool.and_eq_true, beq_iff_eq, Nat.blt_eq] at e1
        exact rL e1.1 ls H locs _ _ _ _ hl e1.2 (ax_put2_map G lv k (.long x)) (fun ls' hl' => kk ls' H locs hl' hR hL)
    | null => cases hs
    | double x => cases hs
theorem ax_i2_ok {op : Int32 → Int32 → Int32}
    (r : ∀ (ls : Array Slot) (H : Heap) (locs : List Loc) (rest : List Value) (x y : Int32), W p l e R s m args below meth c H locs cs ss Q (F0 m (pc + 1) ls (.int (op x y) :: rest)) → W p l e R s m args below meth c H locs cs ss Q (F0 m pc ls (.int y :: .int x :: rest)))
    (hs : ax_s_i2 pc lv st h n cs ss op = some F) (kk : ax_WF G p l e R s m args below meth c Q nL F) : ax_W G p l e R s m args below meth c Q nL pc lv st (ax_hget h) n cs ss := by
  intro ls H locs hl hR hL
  unfold ax_s_i2 at hs
  split at hs
  · obtain rfl := Option.some.inj hs
    exact r ls H locs _ _ _ (kk ls H locs hl hR hL)
  · cases hs
theorem ax_l2_ok {op : Int64 → Int64 → Int64}
    (r : ∀ (ls : Array Slot) (H : Heap) (locs : List Loc) (rest : List Value) (x y : Int64), W p l e R s m args below meth c H locs cs ss Q (F0 m (pc + 1) ls (.long (op x y) :: rest)) → W p l e R s m args below meth c H locs cs ss Q (F0 m pc ls (.long y :: .long x :: rest)))
    (hs : ax_s_l2 pc lv st h n cs ss op = some F) (kk : ax_WF G p l e R s m args below meth c Q nL F) : ax_W G p l e R s m args below meth c Q nL pc lv st (ax_hget h) n cs ss := by
  intro ls H locs hl hR hL
  unfold ax_s_l2 at hs
  split at hs
  · obtain rfl := Option.some.inj hs
    exact r ls H locs _ _ _ (kk ls H locs hl hR hL)
  · cases hs
theorem ax_div_ok {op : Int32 → Int32 → Int32}
    (r : ∀ (ls : Array Slot) (H : Heap) (locs : List Loc) (rest : List Value) (x y : Int32), ¬ y = 0 → W p l e R s m args below meth c H locs cs ss Q (F0 m (pc + 1) ls (.int (op x y) :: rest)) → W p l e R s m args below meth c H locs cs ss Q (F0 m pc ls (.int y :: .int x :: rest)))
    (hs : ax_s_div pc lv st h n cs ss op = some F) (kk : ax_WF G p l e R s m args below meth c Q nL F) : ax_W G p l e R s m args below meth c Q nL pc lv st (ax_hget h) n cs ss := by
  intro ls H locs hl hR hL
  unfold ax_s_div at hs
  split at hs
  · rename_i y x st'
    cases e1 : decide (y = 0) with
    | true => simp only [e1, cond_true] at hs; cases hs
    | false =>
      simp only [e1, cond_false] at hs
      obtain rfl := Option.some.inj hs
      exact r ls H locs _ _ _ (of_decide_eq_false e1) (kk ls H locs hl hR hL)
  · cases hs
theorem ax_rg_ok (hρ : ∀ u, (iv u).1 ≤ (G.2.2.2.1 u).toInt ∧ (G.2.2.2.1 u).toInt ≤ (iv u).2) {v : Value} {r : Int × Int} (h : ax_rg iv v = some r) : ∃ x : Int32, ax_v G v = .int x ∧ r.1 ≤ x.toInt ∧ x.toInt ≤ r.2 := by
  cases v with
  | int x => cases h; exact ⟨x, rfl, Int.le_refl _, Int.le_refl _⟩
  | float u => cases h; exact ⟨_, rfl, hρ _⟩
  | _ => cases h
theorem ax_br_ok (hρ : ∀ u, (iv u).1 ≤ (G.2.2.2.1 u).toInt ∧ (G.2.2.2.1 u).toInt ≤ (iv u).2) {cn : ClassFile.Cond} {off : Int} {a b : Value} {st0 : List Value}
    (r : ∀ (ls : Array Slot) (H : Heap) (locs : List Loc) (x y : Int32) (tgt : Nat), ax_v G a = .int x → ax_v G b = .int y → (pc : Int) + off = (tgt : Int) → (ax_holds cn x y → W p l e R s m args below meth c H locs cs ss Q (F0 m tgt ls (st.map (ax_v G)))) → (¬ ax_holds cn x y → W p l e R s m args below meth c H locs cs ss Q (F0 m (pc + 3) ls (st.map (ax_v G)))) → W p l e R s m args below meth c H locs cs ss Q (F0 m pc ls (st0.map (ax_v G))))
    (hs : ax_s_br iv pc lv h n cs ss cn off a b st = some F) (kk : ax_WF G p l e R s m args below meth c Q nL F) : ax_W G p l e R s m args below meth c Q nL pc lv st0 (ax_hget h) n cs ss := by
  intro ls H locs hl hR hL
  unfold ax_s_br at hs
  cases htg : ax_to pc off with
  | none => simp only [htg] at hs; cases hs
  | some tg =>
  simp only [htg] at hs
  cases ea : ax_rg iv a with
  | none => simp only [ea] at hs; cases hs
  | some ra =>
    cases eb : ax_rg iv b with
    | none => simp only [ea, eb] at hs; cases hs
    | some rb =>
      simp only [ea, eb] at hs
      obtain ⟨x, hx, hx2⟩ := ax_rg_ok hρ ea
      obtain ⟨y, hy, hy2⟩ := ax_rg_ok hρ eb
      cases ec : ax_cmp cn ra rb with
      | none => simp only [ec] at hs; cases hs
      | some t =>
        have hc := ax_cmp_ok hx2 hy2 ec
        cases t with
        | true =>
          simp only [ec] at hs
          obtain rfl := Option.some.inj hs
          exact r ls H locs x y tg hx hy (ax_to_ok htg) (fun _ => kk ls H locs hl hR hL) (fun hn => absurd (hc.mpr rfl) hn)
        | false =>
          simp only [ec] at hs
          obtain rfl := Option.some.inj hs
          exact r ls H locs x y tg hx hy (ax_to_ok htg) (fun hh => by have := hc.mp hh; cases this) (fun _ => kk ls H locs hl hR hL)
theorem ax_lookup_dflt {ps : List (Int × Int)} {d x : Int} (h : ∀ q ∈ ps, q.1 ≠ x) : Op.lookupswitch.offset ps d x = d := by
  induction ps with
  | nil => rfl
  | cons q ps ih =>
    obtain ⟨a, o⟩ := q
    rw [Op.lookupswitch.offset_cons, if_neg (h (a, o) List.mem_cons_self)]
    exact ih fun q hq => h q (List.mem_cons_of_mem _ hq)
end AXS
end
section
/-! ===== one step is the machine's: all instructions ===== -/
section AXT
variable {G : ax_T} {p : Program} {l : Launch} {e : Env} {R : Room} {s : State} {m : MethodId} {args : Array Value} {below : List Frame} {meth : Method} {c : Code} {Q : State → Prop} {own nm : String} {cc : ByteArray} {nL : Nat}
variable {pc : Nat} {lv : List (Nat × Value)} {st : List Value} {h : ax_H} {n cs ss : Nat} {iv : Nat → Int × Int} {pe : ax_PE} {F : ax_F}
theorem ax_nneg {i : Int32} (h : 0 ≤ i.toInt) : ¬ i < 0 := by
  rw [Int32.lt_iff_toInt_lt]
  exact Int.not_lt.mpr h
theorem ax_iinc (hx : p.tables.exec = Jvm.exec) (hb : c.code = cc) {k : Nat} {x : Int} {v : Int32} {ls : Array Slot} {H : Heap} {locs : List Loc} {rest : List Value} (hd : decode cc pc = .ok (.iinc k x, 3)) (hl : lv_has ls nL (lv.map fun q => (q.1, ax_v G q.2))) (hv : ax_look lv k = some (.int v)) (hk : k < nL)
    (kk : ∀ ls' : Array Slot, lv_has ls' nL ((ax_put1 lv k (.int (v + Int32.ofInt x))).map fun q => (q.1, ax_v G q.2)) → W p l e R s m args below meth c H locs cs ss Q (F0 m (pc + 3) ls' rest)) : W p l e R s m args below meth c H locs cs ss Q (F0 m pc ls rest) := by
  unfold ax_look at hv
  cases e0 : lv.find? (fun q => q.1 == k) with
  | none => rw [e0] at hv; cases hv
  | some q =>
    rw [e0] at hv
    have h1 : q.2 = .int v := Option.some.inj hv
    have h2 : q.1 = k := by simpa using List.find?_some e0
    obtain ⟨j, hj⟩ := List.getElem?_of_mem (List.mem_of_find?_eq_some e0)
    have h3 : (lv.map fun q => (q.1, ax_v G q.2))[j]? = some (k, .int v) := by rw [List.getElem?_map, hj]; simp only [Option.map_some, h1, h2]; rfl
    exact lv_iinc (v := v + Int32.ofInt x) hx hb hd hl h3 rfl hk (ax_put1_map G lv k (.int (v + Int32.ofInt x))) kk
set_option maxHeartbeats 4000000 in
theorem ax_step_ok {prog : List ax_MI} (M : ax_M G p s m args meth c own cc nL) (hnm : meth.name = nm) (hρ : ∀ u, (iv u).1 ≤ (G.2.2.2.1 u).toInt ∧ (G.2.2.2.1 u).toInt ≤ (iv u).2) {i : Instr} {len : Nat} (hok : ax_Ok prog own nm cc pc i len pe)
    (hs : ax_step iv nL i pe pc lv st h n cs ss = some F) (hr : F.2.2.2.2.2.1 ≤ R.cells ∧ F.2.2.2.2.2.2 ≤ R.slots ∧ 1 ≤ R.frames ∧ 40 ≤ R.locals) (kk : ax_WF G p l e R s m args below meth c Q nL F) : ax_W G p l e R s m args below meth c Q nL pc lv st (ax_hget h) n cs ss := by
  obtain ⟨hd, hlen, hw⟩ := hok
  obtain ⟨hx, hb, hml, hown, hts, hlocks, hX⟩ := id M
  cases i with
  | iconst k =>
    obtain rfl : len = 1 := hlen.elim (fun q => absurd q (Nat.succ_ne_zero _)) (fun q => q)
    obtain rfl := Option.some.inj hs
    exact fun ls H locs hl hR hL => lv_iconst hx hb hd rfl (kk ls H locs hl hR hL)
  | bipush k =>
    obtain rfl : len = 2 := hlen.elim (fun q => absurd q (Nat.succ_ne_zero _)) (fun q => q)
    obtain rfl := Option.some.inj hs
    exact fun ls H locs hl hR hL => lv_bipush hx hb hd rfl (kk ls H locs hl hR hL)
  | sipush k =>
    obtain rfl : len = 3 := hlen.elim (fun q => absurd q (Nat.succ_ne_zero _)) (fun q => q)
    obtain rfl := Option.some.inj hs
    exact fun ls H locs hl hR hL => lv_sipush hx hb hd rfl (kk ls H locs hl hR hL)
  | lconst k =>
    obtain rfl : len = 1 := hlen.elim (fun q => absurd q (Nat.succ_ne_zero _)) (fun q => q)
    obtain rfl := Option.some.inj hs
    exact fun ls H locs hl hR hL => lv_lconst hx hb hd rfl (kk ls H locs hl hR hL)
  | ldc k =>
    obtain rfl : len = 2 := hlen.elim (fun q => absurd q (Nat.succ_ne_zero _)) (fun q => q)
    obtain rfl := Option.some.inj hs
    exact fun ls H locs hl hR hL => lv_ldc hx hb hown (hts _ hw) hd (kk ls H locs hl hR hL)
  | ldc_w k =>
    obtain rfl : len = 3 := hlen.elim (fun q => absurd q (Nat.succ_ne_zero _)) (fun q => q)
    obtain rfl := Option.some.inj hs
    exact fun ls H locs hl hR hL => lv_ldcw hx hb hown (hts _ hw) hd (kk ls H locs hl hR hL)
  | ldc2_w k =>
    obtain rfl : len = 3 := hlen.elim (fun q => absurd q (Nat.succ_ne_zero _)) (fun q => q)
    obtain rfl := Option.some.inj hs
    exact fun ls H locs hl hR hL => lv_ldc2 hx hb hown (hts _ hw) hd (kk ls H locs hl hR hL)
  | iload k =>
    obtain rfl : len = 2 := hlen.elim (fun q => absurd q (Nat.succ_ne_zero _)) (fun q => q)
    exact ax_ld_ok (fun _ ls H locs x hxx w => lv_iload hx hb hd hxx w) (fun h => absurd h (by decide)) (fun h => absurd h (by decide)) hs kk
  | iload_n k =>
    obtain rfl : len = 1 := hlen.elim (fun q => absurd q (Nat.succ_ne_zero _)) (fun q => q)
    exact ax_ld_ok (fun _ ls H locs x hxx w => lv_iload_n hx hb hd rfl hxx w) (fun h => absurd h (by decide)) (fun h => absurd h (by decide)) hs kk
  | aload k =>
    obtain rfl : len = 2 := hlen.elim (fun q => absurd q (Nat.succ_ne_zero _)) (fun q => q)
    exact ax_ld_ok (fun h => absurd h (by decide)) (fun _ ls H locs x hxx w => lv_aload hx hb hd hxx w) (fun h => absurd h (by decide)) hs kk
  | aload_n k =>
    obtain rfl : len = 1 := hlen.elim (fun q => absurd q (Nat.succ_ne_zero _)) (fun q => q)
    exact ax_ld_ok (fun h => absurd h (by decide)) (fun _ ls H locs x hxx w => lv_aload_n hx hb hd rfl hxx w) (fun h => absurd h (by decide)) hs kk
  | lload k =>
    obtain rfl : len = 2 := hlen.elim (fun q => absurd q (Nat.succ_ne_zero _)) (fun q => q)
    exact ax_ld_ok (fun h => absurd h (by decide)) (fun h => absurd h (by decide)) (fun _ ls H locs x hxx w => lv_lload hx hb hd hxx w) hs kk
  | lload_n k =>
    obtain rfl : len = 1 := hlen.elim (fun q => absurd q (Nat.succ_ne_zero _)) (fun q => q)
    exact ax_ld_ok (fun h => absurd h (by decide)) (fun h => absurd h (by decide)) (fun _ ls H locs x hxx w => lv_lload_n hx hb hd rfl hxx w) hs kk
  | istore k =>
    obtain rfl : len = 2 := hlen.elim (fun q => absurd q (Nat.succ_ne_zero _)) (fun q => q)
    exact ax_st_ok (fun _ ls H locs rest x lw lw' hl hn he w => lv_istore hx hb hd hl hn he w) (fun h => absurd h (by decide)) (fun h => absurd h (by decide)) hs kk
  | istore_n k =>
    obtain rfl : len = 1 := hlen.elim (fun q => absurd q (Nat.succ_ne_zero _)) (fun q => q)
    exact ax_st_ok (fun _ ls H locs rest x lw lw' hl hn he w => lv_istore_n hx hb hd rfl hl hn he w) (fun h => absurd h (by decide)) (fun h => absurd h (by decide)) hs kk
  | astore k =>
    obtain rfl : len = 2 := hlen.elim (fun q => absurd q (Nat.succ_ne_zero _)) (fun q => q)
    exact ax_st_ok (fun h => absurd h (by decide)) (fun _ ls H locs rest x lw lw' hl hn he w => lv_astore hx hb hd hl hn he w) (fun h => absurd h (by decide)) hs kk
  | astore_n k =>
    obtain rfl : len = 1 := hlen.elim (fun q => absurd q (Nat.succ_ne_zero _)) (fun q => q)
    exact ax_st_ok (fun h => absurd h (by decide)) (fun _ ls H locs rest x lw lw' hl hn he w => lv_astore_n hx hb hd rfl hl hn he w) (fun h => absurd h (by decide)) hs kk
  | lstore k =>
    obtain rfl : len = 2 := hlen.elim (fun q => absurd q (Nat.succ_ne_zero _)) (fun q => q)
    exact ax_st_ok (fun h => absurd h (by decide)) (fun h => absurd h (by decide)) (fun _ ls H locs rest x lw lw' hl hn he w => lv_lstore hx hb hd hl hn he w) hs kk
  | lstore_n k =>
    obtain rfl : len = 1 := hlen.elim (fun q => absurd q (Nat.succ_ne_zero _)) (fun q => q)
    exact ax_st_ok (fun h => absurd h (by decide)) (fun h => absurd h (by decide)) (fun _ ls H locs rest x lw lw' hl hn he w => lv_lstore_n hx hb hd rfl hl hn he w) hs kk
  | iinc k x =>
    obtain rfl : len = 3 := hlen.elim (fun q => absurd q (Nat.succ_ne_zero _)) (fun q => q)
    simp only [ax_step] at hs
    split at hs
    · rename_i v hv
      cases e1 : Nat.blt k nL with
      | false => simp only [e1, cond_false] at hs; cases hs
      | true =>
        simp only [e1, cond_true] at hs
        obtain rfl := Option.some.inj hs
        intro ls H locs hl hR hL
        exact ax_iinc hx hb hd hl hv (by simpa [Nat.blt_eq] using e1) (fun ls' hl' => kk ls' H locs hl' hR hL)
    · cases hs
  | iadd =>
    obtain rfl : len = 1 := hlen.elim (fun q => absurd q (Nat.succ_ne_zero _)) (fun q => q)
    exact ax_i2_ok (fun ls H locs rest x y w => lv_iadd hx hb hd w) hs kk
  | isub =>
    obtain rfl : len = 1 := hlen.elim (fun q => absurd q (Nat.succ_ne_zero _)) (fun q => q)
    exact ax_i2_ok (fun ls H locs rest x y w => lv_isub hx hb hd w) hs kk
  | imul =>
    obtain rfl : len = 1 := hlen.elim (fun q => absurd q (Nat.succ_ne_zero _)) (fun q => q)
    exact ax_i2_ok (fun ls H locs rest x y w => lv_imul hx hb hd w) hs kk
  | iand =>
    obtain rfl : len = 1 := hlen.elim (fun q => absurd q (Nat.succ_ne_zero _)) (fun q => q)
    exact ax_i2_ok (fun ls H locs rest x y w => lv_iand hx hb hd w) hs kk
  | ior =>
    obtain rfl : len = 1 := hlen.elim (fun q => absurd q (Nat.succ_ne_zero _)) (fun q => q)
    exact ax_i2_ok (fun ls H locs rest x y w => lv_ior hx hb hd w) hs kk
  | ishl =>
    obtain rfl : len = 1 := hlen.elim (fun q => absurd q (Nat.succ_ne_zero _)) (fun q => q)
    exact ax_i2_ok (fun ls H locs rest x y w => lv_ishl hx hb hd w) hs kk
  | ishr =>
    obtain rfl : len = 1 := hlen.elim (fun q => absurd q (Nat.succ_ne_zero _)) (fun q => q)
    exact ax_i2_ok (fun ls H locs rest x y w => lv_ishr hx hb hd w) hs kk
  | idiv =>
    obtain rfl : len = 1 := hlen.elim (fun q => absurd q (Nat.succ_ne_zero _)) (fun q => q)
    exact ax_div_ok (fun ls H locs rest x y hy w => lv_idiv hx hb hd hy w) hs kk
  | irem =>
    obtain rfl : len = 1 := hlen.elim (fun q => absurd q (Nat.succ_ne_zero _)) (fun q => q)
    exact ax_div_ok (fun ls H locs rest x y hy w => lv_irem hx hb hd hy w) hs kk
  | ladd =>
    obtain rfl : len = 1 := hlen.elim (fun q => absurd q (Nat.succ_ne_zero _)) (fun q => q)
    exact ax_l2_ok (fun ls H locs rest x y w => lv_ladd hx hb hd w) hs kk
  | lmul =>
    obtain rfl : len = 1 := hlen.elim (fun q => absurd q (Nat.succ_ne_zero _)) (fun q => q)
    exact ax_l2_ok (fun ls H locs rest x y w => lv_lmul hx hb hd w) hs kk
  | ineg =>
    obtain rfl : len = 1 := hlen.elim (fun q => absurd q (Nat.succ_ne_zero _)) (fun q => q)
    simp only [ax_step] at hs
    split at hs
    · obtain rfl := Option.some.inj hs
      exact fun ls H locs hl hR hL => lv_ineg hx hb hd (kk ls H locs hl hR hL)
    · cases hs
  | i2l =>
    obtain rfl : len = 1 := hlen.elim (fun q => absurd q (Nat.succ_ne_zero _)) (fun q => q)
    simp only [ax_step] at hs
    split at hs
    · obtain rfl := Option.some.inj hs
      exact fun ls H locs hl hR hL => lv_i2l hx hb hd rfl (kk ls H locs hl hR hL)
    · cases hs
  | dup =>
    obtain rfl : len = 1 := hlen.elim (fun q => absurd q (Nat.succ_ne_zero _)) (fun q => q)
    simp only [ax_step] at hs
    split at hs
    · rename_i v st'
      cases e1 : v.category == 1 with
      | false => simp only [e1, cond_false] at hs; cases hs
      | true =>
        simp only [e1, cond_true] at hs
        obtain rfl := Option.some.inj hs
        exact fun ls H locs hl hR hL => lv_dup hx hb hd (by rw [ax_cat]; simpa using e1) (kk ls H locs hl hR hL)
    · cases hs
  | pop =>
    obtain rfl : len = 1 := hlen.elim (fun q => absurd q (Nat.succ_ne_zero _)) (fun q => q)
    simp only [ax_step] at hs
    split at hs
    · rename_i v st'
      cases e1 : v.category == 1 with
      | false => simp only [e1, cond_false] at hs; cases hs
      | true =>
        simp only [e1, cond_true] at hs
        obtain rfl := Option.some.inj hs
        exact fun ls H locs hl hR hL => lv_pop hx hb hd (by rw [ax_cat]; simpa using e1) (kk ls H locs hl hR hL)
    · cases hs
  | dup2 =>
    obtain rfl : len = 1 := hlen.elim (fun q => absurd q (Nat.succ_ne_zero _)) (fun q => q)
    simp only [ax_step] at hs
    split at hs
    · rename_i v w st'
      cases e1 : (v.category == 1 && w.category == 1) with
      | false => simp only [e1, cond_false] at hs; cases hs
      | true =>
        simp only [e1, cond_true] at hs
        obtain rfl := Option.some.inj hs
        simp only [Bool.and_eq_true, beq_iff_eq] at e1
        exact fun ls H locs hl hR hL => lv_dup2_11 hx hb hd (by rw [ax_cat]; exact e1.1) (by rw [ax_cat]; exact e1.2) (kk ls H locs hl hR hL)
    · cases hs
  | goto off =>
    obtain rfl : len = 3 := hlen.elim (fun q => absurd q (Nat.succ_ne_zero _)) (fun q => q)
    simp only [ax_step, Option.map_eq_some_iff] at hs
    obtain ⟨t, ht, rfl⟩ := hs
    exact fun ls H locs hl hR hL => lv_goto hx hb hd (ax_to_ok ht) (kk ls H locs hl hR hL)
  | ifCond cn off =>
    obtain rfl : len = 3 := hlen.elim (fun q => absurd q (Nat.succ_ne_zero _)) (fun q => q)
    simp only [ax_step] at hs
    split at hs
    · refine ax_br_ok hρ (fun ls H locs x y tgt ha hb0 ht kt kf => ?_) hs kk
      have hy : y = 0 := by cases hb0; rfl
      subst hy
      simp only [List.map_cons, ha]
      cases cn with
      | eq => exact lv_if_eq hx hb hd ht kt kf
      | ne => exact lv_if_ne hx hb hd ht kt (fun hh => kf (fun hn => hn hh))
      | lt => exact lv_if_lt hx hb hd ht kt kf
      | ge => exact lv_if_ge hx hb hd ht kt kf
      | gt => exact lv_if_gt hx hb hd ht kt kf
      | le => exact lv_if_le hx hb hd ht kt kf
    · cases hs
  | if_icmp cn off =>
    obtain rfl : len = 3 := hlen.elim (fun q => absurd q (Nat.succ_ne_zero _)) (fun q => q)
    simp only [ax_step] at hs
    split at hs
    · refine ax_br_ok hρ (fun ls H locs x y tgt ha hb0 ht kt kf => ?_) hs kk
      simp only [List.map_cons, ha, hb0]
      cases cn with
      | eq => exact lv_icmp_eq hx hb hd ht kt kf
      | ne => exact lv_icmp_ne hx hb hd ht kt (fun hh => kf (fun hn => hn hh))
      | lt => exact lv_icmp_lt hx hb hd ht kt kf
      | ge => exact lv_icmp_ge hx hb hd ht kt kf
      | gt => exact lv_icmp_gt hx hb hd ht kt kf
      | le => exact lv_icmp_le hx hb hd ht kt kf
    · cases hs
  | getfield idx =>
    obtain rfl : len = 3 := hlen.elim (fun q => absurd q (Nat.succ_ne_zero _)) (fun q => q)
    obtain ⟨C, T, N, hc, hj, hlk⟩ := hw
    simp only [ax_step, ax_s_getf] at hs
    split at hs
    · rename_i k st'
      split at hs
      · rename_i ci fs hk
        cases e1 : ci == pe.2.1 with
        | false => simp only [e1, cond_false] at hs; cases hs
        | true =>
          simp only [e1, cond_true, Option.map_eq_some_iff] at hs
          obtain ⟨v, hv, rfl⟩ := hs
          have e2 : ci = pe.2.1 := by simpa using e1
          subst e2
          exact ax_getf M (ax_get_of hk) hc hj hv hlk hd kk
      · cases hs
    · cases hs
  | putfield idx =>
    obtain rfl : len = 3 := hlen.elim (fun q => absurd q (Nat.succ_ne_zero _)) (fun q => q)
    obtain ⟨C, T, N, hc, hj, hlk⟩ := hw
    simp only [ax_step, ax_s_putf] at hs
    split at hs
    · rename_i v k st'
      split at hs
      · rename_i ci fs hk
        cases e1 : (ci == pe.2.1 && (Nat.blt pe.2.2.1 fs.length && ax_fit (ax_ty pe.2.1 pe.2.2.1) v)) with
        | false => simp only [e1, cond_false] at hs; cases hs
        | true =>
          simp only [e1, cond_true] at hs
          obtain rfl := Option.some.inj hs
          simp only [Bool.and_eq_true, beq_iff_eq, Nat.blt_eq] at e1
          obtain ⟨rfl, hf, hfit⟩ := e1
          rcases hlk with ⟨hfin, hlk⟩ | ⟨hfin, hlk, hn, hdecl⟩
          · exact ax_putf M (ax_get_of hk) hc hj hf hlk hfin (ax_fit_ok G hfit).1 (ax_fit_ok G hfit).2 hd ax_hget_set kk
          · exact ax_putF M (ax_get_of hk) hc hj hf hlk hfin (hnm.trans hn) hdecl (ax_fit_ok G hfit).1 (ax_fit_ok G hfit).2 hd ax_hget_set kk
      · cases hs
    · cases hs
  | getstatic idx =>
    obtain rfl : len = 3 := hlen.elim (fun q => absurd q (Nat.succ_ne_zero _)) (fun q => q)
    obtain ⟨z, hz, hlk⟩ := hw
    obtain rfl := Option.some.inj hs
    exact ax_gets M hz hlk hd kk
  | iaload =>
    obtain rfl : len = 1 := hlen.elim (fun q => absurd q (Nat.succ_ne_zero _)) (fun q => q)
    simp only [ax_step, ax_s_iald] at hs
    split at hs
    · rename_i i k st'
      split at hs
      · rename_i t N f hk
        cases e1 : (t == 0 && ax_inB i N) with
        | false => simp only [e1, cond_false] at hs; cases hs
        | true =>
          simp only [e1, cond_true] at hs
          obtain rfl := Option.some.inj hs
          simp only [Bool.and_eq_true, beq_iff_eq] at e1
          obtain ⟨rfl, hi⟩ := e1
          exact ax_iald M (ax_get_of hk) rfl (ax_inB_ok hi) hd kk
      · cases hs
    · rename_i i j st'
      split at hs
      · rename_i z hz
        cases e1 : ax_inB i z.2.2.length with
        | false => simp only [e1, cond_false] at hs; cases hs
        | true =>
          simp only [e1, cond_true] at hs
          obtain rfl := Option.some.inj hs
          exact ax_sald M hz (ax_inB_ok e1) hd kk
      · cases hs
    · cases hs
  | baload =>
    obtain rfl : len = 1 := hlen.elim (fun q => absurd q (Nat.succ_ne_zero _)) (fun q => q)
    simp only [ax_step, ax_s_bald] at hs
    split at hs
    · rename_i i k st'
      split at hs
      · rename_i t N f hk
        cases e1 : (t == 1 && ax_inB i N) with
        | false => simp only [e1, cond_false] at hs; cases hs
        | true =>
          simp only [e1, cond_true] at hs
          obtain rfl := Option.some.inj hs
          simp only [Bool.and_eq_true, beq_iff_eq] at e1
          obtain ⟨rfl, hi⟩ := e1
          exact ax_bald M (ax_get_of hk) rfl (ax_inB_ok hi) hd kk
      · cases hs
    · cases hs
  | aaload =>
    obtain rfl : len = 1 := hlen.elim (fun q => absurd q (Nat.succ_ne_zero _)) (fun q => q)
    simp only [ax_step, ax_s_aald] at hs
    split at hs
    · rename_i i k st'
      split at hs
      · rename_i t N f hk
        cases et : ax_tc t with
        | none => simp only [et] at hs; cases hs
        | some q =>
          cases e1 : ax_inB i N with
          | false => simp only [et, e1, cond_false] at hs; cases hs
          | true =>
            simp only [et, e1, cond_true, Option.map_eq_some_iff] at hs
            obtain ⟨k', hk', rfl⟩ := hs
            exact ax_aald M (ax_get_of hk) (ax_tc_ok et).1 (ax_inB_ok e1) hk' hd kk
      · cases hs
    · cases hs
  | iastore =>
    obtain rfl : len = 1 := hlen.elim (fun q => absurd q (Nat.succ_ne_zero _)) (fun q => q)
    simp only [ax_step, ax_s_iast] at hs
    split at hs
    · rename_i x i k st'
      split at hs
      · rename_i t N f hk
        cases e1 : (t == 0 && ax_inB i N) with
        | false => simp only [e1, cond_false] at hs; cases hs
        | true =>
          simp only [e1, cond_true] at hs
          obtain rfl := Option.some.inj hs
          simp only [Bool.and_eq_true, beq_iff_eq] at e1
          obtain ⟨rfl, hi⟩ := e1
          exact ax_iast M (ax_get_of hk) rfl (ax_inB_ok hi) hd ax_hget_set kk
      · cases hs
    · cases hs
  | aastore =>
    obtain rfl : len = 1 := hlen.elim (fun q => absurd q (Nat.succ_ne_zero _)) (fun q => q)
    simp only [ax_step, ax_s_aast] at hs
    split at hs
    · rename_i k' i k st'
      split at hs
      · rename_i t N f ci fs hk hk'
        cases et : ax_tc t with
        | none => simp only [et] at hs; cases hs
        | some q =>
          cases e1 : (ci == q.1 && ax_inB i N) with
          | false => simp only [et, e1, cond_false] at hs; cases hs
          | true =>
            simp only [et, e1, cond_true] at hs
            obtain rfl := Option.some.inj hs
            simp only [Bool.and_eq_true, beq_iff_eq] at e1
            obtain ⟨rfl, hi⟩ := e1
            obtain ⟨h1, T, N', h2⟩ := ax_tc_ok et
            exact ax_aast M (ax_get_of hk) h1 (ax_get_of hk') h2 (ax_inB_ok hi) hd ax_hget_set kk
      · cases hs
    · cases hs
  | new idx =>
    obtain rfl : len = 3 := hlen.elim (fun q => absurd q (Nat.succ_ne_zero _)) (fun q => q)
    obtain ⟨C, T, hc, hw1, hw2, hw3, hnf⟩ := hw
    obtain rfl := Option.some.inj hs
    exact ax_new M hc hw1 hw2 hw3 hnf hr.1 hr.2.1 hd ax_hget_push kk
  | newarray a =>
    obtain rfl : len = 2 := hlen.elim (fun q => absurd q (Nat.succ_ne_zero _)) (fun q => q)
    obtain ⟨hw1, ht, ha⟩ := hw
    simp only [ax_step, ax_s_newa] at hs
    split at hs
    · rename_i i st'
      cases e1 : (decide (0 ≤ i.toInt) && decide (i.toNatClampNeg * 8 ≤ 536870912)) with
      | false => simp only [e1, cond_false] at hs; cases hs
      | true =>
        simp only [e1, cond_true] at hs
        obtain rfl := Option.some.inj hs
        simp only [Bool.and_eq_true, decide_eq_true_eq] at e1
        exact ax_newa M hw1 ht ha (ax_nneg e1.1) e1.2 hr.1 hr.2.1 hd ax_hget_push kk
    · cases hs
  | anewarray idx =>
    obtain rfl : len = 3 := hlen.elim (fun q => absurd q (Nat.succ_ne_zero _)) (fun q => q)
    obtain ⟨C, hw1, ht, ha⟩ := hw
    simp only [ax_step, ax_s_newq] at hs
    split at hs
    · rename_i i st'
      cases e1 : (decide (0 ≤ i.toInt) && decide (i.toNatClampNeg * 4 ≤ 536870912)) with
      | false => simp only [e1, cond_false] at hs; cases hs
      | true =>
        simp only [e1, cond_true] at hs
        obtain rfl := Option.some.inj hs
        simp only [Bool.and_eq_true, decide_eq_true_eq] at e1
        exact ax_newq M hw1 ht ha (ax_nneg e1.1) e1.2 hr.1 hr.2.1 hd ax_hget_push kk
    · cases hs
  | tableswitch d lo hi offs =>
    simp only [ax_step, ax_s_table] at hs
    split at hs
    · rename_i x st'
      cases e1 : (decide (x.toInt < lo) || decide (hi < x.toInt)) with
      | true =>
        simp only [e1, cond_true, Option.map_eq_some_iff] at hs
        obtain ⟨t, ht, rfl⟩ := hs
        simp only [Bool.or_eq_true, decide_eq_true_eq] at e1
        exact fun ls H locs hl hR hL => lv_tableOut hx hb hd e1 (ax_to_ok ht) (kk ls H locs hl hR hL)
      | false =>
        simp only [e1, cond_false] at hs
        simp only [Bool.or_eq_false_iff, decide_eq_false_iff_not] at e1
        split at hs
        · rename_i off ho
          simp only [Option.map_eq_some_iff] at hs
          obtain ⟨t, ht, rfl⟩ := hs
          exact fun ls H locs hl hR hL => lv_tableIn hx hb hd e1.1 e1.2 ho (ax_to_ok ht) (kk ls H locs hl hR hL)
        · cases hs
    · rename_i u st'
      cases e1 : (decide ((iv u.toNat).2 < lo) || decide (hi < (iv u.toNat).1)) with
      | false => simp only [e1, cond_false] at hs; cases hs
      | true =>
        simp only [e1, cond_true, Option.map_eq_some_iff] at hs
        obtain ⟨t, ht, rfl⟩ := hs
        simp only [Bool.or_eq_true, decide_eq_true_eq] at e1
        have h2 := hρ u.toNat
        exact fun ls H locs hl hR hL => lv_tableOut hx hb hd (by omega) (ax_to_ok ht) (kk ls H locs hl hR hL)
    · cases hs
  | lookupswitch d ps =>
    simp only [ax_step, ax_s_lookup] at hs
    cases e0 : (ps.toList.zip (ps.toList.drop 1)).all (fun (a, next) => a.1 < next.1) with
    | false => rw [e0] at hs; cases hs
    | true =>
    rw [e0] at hs
    simp only [cond_true] at hs
    split at hs
    · rename_i x st'
      simp only [Option.map_eq_some_iff] at hs
      obtain ⟨t, ht, rfl⟩ := hs
      exact fun ls H locs hl hR hL => lv_lookup hx hb hd e0 rfl (ax_to_ok ht) (kk ls H locs hl hR hL)
    · rename_i u st'
      cases e1 : ps.toList.all (fun q => decide ((iv u.toNat).2 < q.1) || decide (q.1 < (iv u.toNat).1)) with
      | false => simp only [e1, cond_false] at hs; cases hs
      | true =>
        simp only [e1, cond_true, Option.map_eq_some_iff] at hs
        obtain ⟨t, ht, rfl⟩ := hs
        have h2 := hρ u.toNat
        have h3 : Op.lookupswitch.offset ps.toList d (G.2.2.2.1 u.toNat).toInt = d := ax_lookup_dflt (fun q hq => by
          have h4 := List.all_eq_true.mp e1 q hq
          simp only [Bool.or_eq_true, decide_eq_true_eq] at h4
          omega)
        exact fun ls H locs hl hR hL => lv_lookup hx hb hd e0 h3 (ax_to_ok ht) (kk ls H locs hl hR hL)
    · cases hs
  | invokespecial idx =>
    obtain rfl : len = 3 := hlen.elim (fun q => absurd q (Nat.succ_ne_zero _)) (fun q => q)
    simp only [ax_step] at hs
    split at hs
    · rename_i k st'
      cases e1 : (pe.1 == 8 && Nat.ble (ax_sum st') 8) with
      | false => simp only [e1, cond_false] at hs; cases hs
      | true =>
        simp only [e1, cond_true] at hs
        obtain rfl := Option.some.inj hs
        simp only [Bool.and_eq_true, beq_iff_eq, Nat.ble_eq] at e1
        rcases hw with ⟨-, hw1, hw2, hw3⟩ | ⟨hw1, -⟩
        · exact ax_objInit M hw1 hw2 hw3 hr.2.2.1 (Nat.le_trans (by decide) hr.2.2.2) e1.2 hd kk
        · exact absurd e1.1 hw1
    · cases hs
  | invokestatic idx =>
    obtain rfl : len = 3 := hlen.elim (fun q => absurd q (Nat.succ_ne_zero _)) (fun q => q)
    simp only [ax_step] at hs
    split at hs
    · rename_i y x st'
      cases e1 : (pe.1 == 9 && Nat.ble (ax_sum st') 8) with
      | false => simp only [e1, cond_false] at hs; cases hs
      | true =>
        simp only [e1, cond_true] at hs
        obtain rfl := Option.some.inj hs
        simp only [Bool.and_eq_true, beq_iff_eq, Nat.ble_eq] at e1
        rcases hw with ⟨-, hw1, hw2, hw3, hw4⟩ | ⟨hw1, -⟩
        · intro ls H locs hl hR hL
          exact va_mmin hx hb (by rw [hml]; exact hl.1.symm) hown (hts _ hw1) (hts _ hw2) (hts _ hw3) (hts _ hw4) hr.2.2.1 (by rw [ax_sum_map]; have := hr.2.2.2; omega) hr.1 hr.2.1 hd (kk ls H locs hl hR hL)
        · exact absurd e1.1 hw1
    · cases hs
  | _ => cases hs
end AXT
end
section
/-! ===== runs: a method's body, with its calls ===== -/
def ax_pop (k : Nat) (st : List Value) : Option (List Value × List Value) := bif Nat.ble k st.length then some ((st.take k).reverse, st.drop k) else none
theorem ax_pop_ok {k : Nat} {st as rest : List Value} (h : ax_pop k st = some (as, rest)) : st = as.reverse ++ rest ∧ as.length = k := by
  unfold ax_pop at h
  cases e : Nat.ble k st.length with
  | false => rw [e] at h; cases h
  | true =>
    rw [e] at h
    have hk : k ≤ st.length := by simpa [Nat.ble_eq] using e
    cases h
    refine ⟨by rw [List.reverse_reverse, List.take_append_drop], by simp [hk]⟩
def ax_at (tab : List (List ax_EN)) (pc : Nat) : Option ax_EN := (tab.getD (pc / 32) []).find? fun e => e.1 == pc
theorem ax_at_ok {tab : List (List ax_EN)} {pc : Nat} {e : ax_EN} (h : ax_at tab pc = some e) : e.1 = pc ∧ ∃ ch ∈ tab, e ∈ ch := by
  unfold ax_at at h
  refine ⟨by simpa using List.find?_some h, ?_⟩
  have hm := List.mem_of_find?_eq_some h
  rw [List.getD_eq_getElem?_getD] at hm
  cases e1 : tab[pc / 32]? with
  | none => rw [e1] at hm; simp at hm
  | some ch => rw [e1] at hm; exact ⟨ch, List.mem_of_getElem? e1, hm⟩
/-- answer, cells, how many -/
abbrev ax_O : Type := Option Value × ax_H × Nat
def ax_inv (prog : List ax_MI) (i : Instr) (pe : ax_PE) (st : List Value) (h : ax_H) : Option (ax_MI × List Value × List Value) := match i with
  | .invokestatic _ => bif pe.1 == 9 then none else match prog[pe.2.1]? with
    | some mi => match ax_pop mi.2.2.2.2.2.1 st with
      | some (as, rest) => bif Nat.ble (ax_sum rest) 8 then some (mi, as, rest) else none
      | none => none
    | none => none
  | .invokevirtual _ => match prog[pe.2.1]? with
    | some mi => match ax_pop mi.2.2.2.2.2.1 st with
      | some (as, .ref k :: rest) => match ax_raw h k with
        | some (.inr (ci, _)) => bif ci == pe.2.2.1 && Nat.ble (ax_sum rest) 8 then some (mi, .ref k :: as, rest) else none
        | _ => none
      | _ => none
    | none => none
  | .invokespecial _ => bif pe.1 == 8 then none else match prog[pe.2.1]? with
    | some mi => match ax_pop mi.2.2.2.2.2.1 st with
      | some (as, .ref k :: rest) => bif Nat.ble (ax_sum rest) 8 then some (mi, .ref k :: as, rest) else none
      | _ => none
    | none => none
  | _ => none
def ax_rets (i : Instr) (st : List Value) : Option (Option Value) := match i with
  | .ireturn => match st with
    | [.int x] => some (some (.int x))
    | [.float u] => some (some (.float u))
    | _ => none
  | .lreturn => match st with
    | [.long x] => some (some (.long x))
    | _ => none
  | .return_ => match st with
    | [] => some none
    | _ => none
  | _ => none
def ax_retT (ret : Option FieldType) (r : Option Value) : Bool := match ret, r with
  | none, none => true
  | some .int, some (.int _) => true
  | some .int, some (.float _) => true
  | some .boolean, some (.int v) => v == 0 || v == 1
  | some .long, some (.long _) => true
  | _, _ => false
def ax_body (iv : Nat → Int × Int) (prog : List ax_MI) (callee : ax_MI → List Value → ax_H → Nat → Option ax_O) (mi : ax_MI) : Nat → Nat → List (Nat × Value) → List Value → ax_H → Nat → Nat → Nat → Option ax_O
  | 0, _, _, _, _, _, _, _ => none
  | f + 1, pc, lv, st, h, n, cs, ss => match ax_at mi.2.2.2.2.2.2.2.2 pc with
    | none => none
    | some e => match ax_rets e.2.1 st with
      | some r => bif ax_retT mi.2.2.2.2.1 r then some (r, h, n) else none
      | none => match ax_inv prog e.2.1 e.2.2.2.1 st h with
        | some q => bif Nat.ble (cs + q.1.2.2.2.2.2.2.1) mi.2.2.2.2.2.2.1 && Nat.ble (ss + q.1.2.2.2.2.2.2.2.1) mi.2.2.2.2.2.2.2.1 then (match callee q.1 q.2.1 h n with
            | some o => ax_body iv prog callee mi f (pc + 3) lv (o.1.toList ++ q.2.2) o.2.1 o.2.2 (cs + q.1.2.2.2.2.2.2.1) (ss + q.1.2.2.2.2.2.2.2.1)
            | none => none) else none
        | none => match ax_step iv mi.2.2.2.1 e.2.1 e.2.2.2.1 pc lv st h n cs ss with
          | some F => bif Nat.ble F.2.2.2.2.2.1 mi.2.2.2.2.2.2.1 && Nat.ble F.2.2.2.2.2.2 mi.2.2.2.2.2.2.2.1 then ax_body iv prog callee mi f F.1 F.2.1 F.2.2.1 F.2.2.2.1 F.2.2.2.2.1 F.2.2.2.2.2.1 F.2.2.2.2.2.2 else none
          | none => none
def ax_call (iv : Nat → Int × Int) (prog : List ax_MI) : Nat → ax_MI → List Value → ax_H → Nat → Option ax_O
  | 0, _, _, _, _ => none
  | d + 1, mi, as, h, n => bif Nat.ble (lg_sl as).length mi.2.2.2.1 then ax_body iv prog (ax_call iv prog d) mi 5000 0 (lv_args 0 as) [] h n 0 0 else none
theorem ax_inv_in {prog : List ax_MI} {i : Instr} {pe : ax_PE} {st : List Value} {h : ax_H} {q : ax_MI × List Value × List Value} (hq : ax_inv prog i pe st h = some q) : q.1 ∈ prog := by
  cases i with
  | invokestatic idx =>
    cases e0 : pe.1 == 9 with
    | true => simp only [ax_inv, e0, cond_true] at hq; cases hq
    | false =>
      simp only [ax_inv, e0, cond_false] at hq
      split at hq
      · rename_i mi hmi
        split at hq
        · rename_i as rest hp
          cases e1 : Nat.ble (ax_sum rest) 8 with
          | false => rw [e1] at hq; cases hq
          | true => rw [e1] at hq; obtain rfl := Option.some.inj hq; exact List.mem_of_getElem? hmi
        · cases hq
      · cases hq
  | invokevirtual idx =>
    simp only [ax_inv] at hq
    split at hq
    · rename_i mi hmi
      split at hq
      · rename_i as k rest hp
        split at hq
        · rename_i ci fs hk
          cases e1 : (ci == pe.2.2.1 && Nat.ble (ax_sum rest) 8) with
          | false => rw [e1] at hq; cases hq
          | true => rw [e1] at hq; obtain rfl := Option.some.inj hq; exact List.mem_of_getElem? hmi
        · cases hq
      · cases hq
    · cases hq
  | invokespecial idx =>
    cases e0 : pe.1 == 8 with
    | true => simp only [ax_inv, e0, cond_true] at hq; cases hq
    | false =>
      simp only [ax_inv, e0, cond_false] at hq
      split at hq
      · rename_i mi hmi
        split at hq
        · rename_i as k rest hp
          cases e1 : Nat.ble (ax_sum rest) 8 with
          | false => rw [e1] at hq; cases hq
          | true => rw [e1] at hq; obtain rfl := Option.some.inj hq; exact List.mem_of_getElem? hmi
        · cases hq
      · cases hq
  | _ => cases hq
section AXR
variable {G : ax_T} {p : Program} {l : Launch} {e : Env} {R : Room} {s : State} {m : MethodId} {args : Array Value} {below : List Frame} {meth : Method} {c : Code} {Q : State → Prop} {own nm : String} {cc : ByteArray} {nL : Nat}
variable {pc : Nat} {lv : List (Nat × Value)} {st : List Value} {g : Nat → Option ax_C} {h : ax_H} {n cs ss mc ms : Nat} {iv : Nat → Int × Int}
theorem ax_ret_ok (M : ax_M G p s m args meth c own cc nL) {ret : Option FieldType} (hrt : meth.sig.returnType = ret) {i : Instr} {len : Nat} (hd : decode cc pc = .ok (i, len)) (hlen : ax_len i = 0 ∨ len = ax_len i) {r : Option Value} (h1 : ax_rets i st = some r) (h2 : ax_retT ret r = true) (hc : cs ≤ mc) (hs : ss ≤ ms) :
    ax_W G p l e R s m args below meth c (MQ below (ax_Qc G r g n) args s mc ms (fun q => G.2.1 ≤ q)) nL pc lv st g n cs ss := by
  intro ls H locs hl hR hL
  obtain ⟨hx, hb, hml, hown, hts, hlocks, hX⟩ := M
  refine W.widen hc hs ?_
  cases i with
  | ireturn =>
    obtain rfl : len = 1 := hlen.elim (fun q => absurd q (Nat.succ_ne_zero _)) (fun q => q)
    simp only [ax_rets] at h1
    split at h1
    · rename_i x
      cases h1
      cases ret with
      | none => cases h2
      | some ty =>
        cases ty with
        | int => exact W.iret hx hb hrt (fun t ht hW => ⟨rfl, by rw [ht]; exact hR⟩) hL hd hlocks
        | boolean =>
          refine W.zret hx hb hrt ?_ (fun t ht hW => ⟨rfl, by rw [ht]; exact hR⟩) hL hd hlocks
          simp only [ax_retT, Bool.or_eq_true, beq_iff_eq] at h2
          rcases h2 with rfl | rfl <;> decide
        | _ => cases h2
    · rename_i u
      cases h1
      cases ret with
      | none => cases h2
      | some ty =>
        cases ty with
        | int => exact W.iret hx hb hrt (fun t ht hW => ⟨rfl, by rw [ht]; exact hR⟩) hL hd hlocks
        | _ => cases h2
    · cases h1
  | lreturn =>
    obtain rfl : len = 1 := hlen.elim (fun q => absurd q (Nat.succ_ne_zero _)) (fun q => q)
    simp only [ax_rets] at h1
    split at h1
    · cases h1
      cases ret with
      | none => cases h2
      | some ty =>
        cases ty with
        | long => exact W.lret hx hb hrt (fun t ht hW => ⟨rfl, by rw [ht]; exact hR⟩) hL hd hlocks
        | _ => cases h2
    · cases h1
  | return_ =>
    obtain rfl : len = 1 := hlen.elim (fun q => absurd q (Nat.succ_ne_zero _)) (fun q => q)
    simp only [ax_rets] at h1
    split at h1
    · cases h1
      cases ret with
      | none => exact W.vret hx hb hrt (fun t ht hW => ⟨rfl, by rw [ht]; exact hR⟩) hL hd hlocks
      | some ty => cases ty <;> cases h2
    · cases h1
  | _ => cases h1
/-- what is checked of a program's table -/
def ax_Prog (prog : List ax_MI) : Prop := ∀ mi ∈ prog, ax_callee mi.2.1 mi.2.2.1 mi.2.2.2.1 mi.2.2.2.2.1 mi.2.2.2.2.2.1 ∧ mi.1 = mi.2.1.cls ∧ plainName mi.2.1.cls = true ∧ ∀ ch ∈ mi.2.2.2.2.2.2.2.2, ∀ en ∈ ch, ax_Ok prog mi.1 mi.2.1.name mi.2.2.1 en.1 en.2.1 en.2.2.1 en.2.2.2.1
theorem ax_inv_ok {prog : List ax_MI} (hprog : ax_Prog prog) {d : Nat} (M : ax_M G p s m args meth c own cc nL) {i : Instr} {len : Nat} {pe : ax_PE} (hok : ax_Ok prog own nm cc pc i len pe) {q : ax_MI × List Value × List Value} (hq : ax_inv prog i pe st h = some q) {o : ax_O}
    (hM : q.1 ∈ prog → ax_Met l G q.1.2.1 q.1.2.2.1 q.1.2.2.2.1 q.1.2.2.2.2.1 d q.2.1 (ax_hget h) n o.1 (ax_hget o.2.1) o.2.2 q.1.2.2.2.2.2.2.1 q.1.2.2.2.2.2.2.2.1)
    (hf : d + 1 ≤ R.frames) (hlo : 40 * (d + 1) ≤ R.locals) (hcs : cs + q.1.2.2.2.2.2.2.1 ≤ R.cells) (hss : ss + q.1.2.2.2.2.2.2.2.1 ≤ R.slots)
    (kk : ax_W G p l e R s m args below meth c Q nL (pc + 3) lv (o.1.toList ++ q.2.2) (ax_hget o.2.1) o.2.2 (cs + q.1.2.2.2.2.2.2.1) (ss + q.1.2.2.2.2.2.2.2.1)) (hret : q.1.2.2.2.2.1 = none → o.1 = none) : ax_W G p l e R s m args below meth c Q nL pc lv st (ax_hget h) n cs ss := by
  obtain ⟨hd, hlen, hw⟩ := hok
  cases i with
  | invokestatic idx =>
    obtain rfl : len = 3 := hlen.elim (fun q => absurd q (Nat.succ_ne_zero _)) (fun q => q)
    cases e0 : pe.1 == 9 with
    | true => simp only [ax_inv, e0, cond_true] at hq; cases hq
    | false =>
      have e0' : pe.1 ≠ 9 := by simpa using e0
      rcases hw with ⟨hw, -⟩ | ⟨-, mi, hmi, hst, hlk⟩
      · exact absurd hw e0'
      · have hin := List.mem_of_getElem? hmi
        simp only [ax_inv, e0, cond_false, hmi] at hq
        split at hq
        · rename_i as rest hp
          cases e1 : Nat.ble (ax_sum rest) 8 with
          | false => rw [e1] at hq; cases hq
          | true =>
            rw [e1] at hq
            obtain rfl := Option.some.inj hq
            obtain ⟨rfl, hn⟩ := ax_pop_ok hp
            exact ax_callS M (hM hin) (hprog _ hin).1 hst hlk hn hf hlo hcs hss (by simpa [Nat.ble_eq] using e1) hd kk
        · cases hq
  | invokevirtual idx =>
    obtain rfl : len = 3 := hlen.elim (fun q => absurd q (Nat.succ_ne_zero _)) (fun q => q)
    obtain ⟨mi, T, N, hmi, hc, hst, hse, hlk⟩ := hw
    have hin := List.mem_of_getElem? hmi
    simp only [ax_inv, hmi] at hq
    split at hq
    · rename_i as k rest hp
      split at hq
      · rename_i ci fs hk
        cases e1 : (ci == pe.2.2.1 && Nat.ble (ax_sum rest) 8) with
        | false => rw [e1] at hq; cases hq
        | true =>
          rw [e1] at hq
          obtain rfl := Option.some.inj hq
          obtain ⟨rfl, hn⟩ := ax_pop_ok hp
          simp only [Bool.and_eq_true, beq_iff_eq, Nat.ble_eq] at e1
          obtain ⟨rfl, e2⟩ := e1
          exact ax_callV M (ax_get_of hk) hc (hM hin) (hprog _ hin).1 hst hse hlk hn hf hlo hcs hss e2 hd kk
      · cases hq
    · cases hq
  | invokespecial idx =>
    obtain rfl : len = 3 := hlen.elim (fun q => absurd q (Nat.succ_ne_zero _)) (fun q => q)
    cases e0 : pe.1 == 8 with
    | true => simp only [ax_inv, e0, cond_true] at hq; cases hq
    | false =>
      have e0' : pe.1 ≠ 8 := by simpa using e0
      rcases hw with ⟨hw, -⟩ | ⟨-, mi, hmi, hnm, hrt, hst, hlk⟩
      · exact absurd hw e0'
      · have hin := List.mem_of_getElem? hmi
        simp only [ax_inv, e0, cond_false, hmi] at hq
        split at hq
        · rename_i as k rest hp
          cases e1 : Nat.ble (ax_sum rest) 8 with
          | false => rw [e1] at hq; cases hq
          | true =>
            rw [e1] at hq
            obtain rfl := Option.some.inj hq
            obtain ⟨rfl, hn⟩ := ax_pop_ok hp
            have ho : o.1 = none := hret hrt
            have hM' := hM hin
            have hy := (hprog _ hin).1
            rw [ho] at hM' kk
            rw [hrt] at hM' hy
            exact ax_callI M hM' hy hst hnm hlk hn hf hlo hcs hss (by simpa [Nat.ble_eq] using e1) hd kk
        · cases hq
  | _ => cases hq
theorem ax_body_ok {prog : List ax_MI} (hprog : ax_Prog prog) {mi : ax_MI} (hmi : mi ∈ prog) {d : Nat} {callee : ax_MI → List Value → ax_H → Nat → Option ax_O}
    (hcal : ∀ (q : ax_MI) (as : List Value) (h : ax_H) (n : Nat) (o : ax_O), q ∈ prog → callee q as h n = some o → ax_Met l G q.2.1 q.2.2.1 q.2.2.2.1 q.2.2.2.2.1 d as (ax_hget h) n o.1 (ax_hget o.2.1) o.2.2 q.2.2.2.2.2.2.1 q.2.2.2.2.2.2.2.1 ∧ (q.2.2.2.2.1 = none → o.1 = none))
    (M : ax_M G p s m args meth c mi.1 mi.2.2.1 mi.2.2.2.1) (hnm : meth.name = mi.2.1.name) (hrt : meth.sig.returnType = mi.2.2.2.2.1) (hρ : ∀ u, (iv u).1 ≤ (G.2.2.2.1 u).toInt ∧ (G.2.2.2.1 u).toInt ≤ (iv u).2)
    (hR : R = ax_rm (d + 1) mi.2.2.2.2.2.2.1 mi.2.2.2.2.2.2.2.1) :
    ∀ (f pc : Nat) (lv : List (Nat × Value)) (st : List Value) (h : ax_H) (n cs ss : Nat) (o : ax_O), ax_body iv prog callee mi f pc lv st h n cs ss = some o → cs ≤ mi.2.2.2.2.2.2.1 → ss ≤ mi.2.2.2.2.2.2.2.1 →
      ax_W G p l e R s m args below meth c (MQ below (ax_Qc G o.1 (ax_hget o.2.1) o.2.2) args s mi.2.2.2.2.2.2.1 mi.2.2.2.2.2.2.2.1 (fun q => G.2.1 ≤ q)) mi.2.2.2.1 pc lv st (ax_hget h) n cs ss := by
  intro f
  induction f with
  | zero => intro pc lv st h n cs ss o ho; cases ho
  | succ f ih =>
    intro pc lv st h n cs ss o ho hcs hss
    rw [ax_body] at ho
    cases ea : ax_at mi.2.2.2.2.2.2.2.2 pc with
    | none => rw [ea] at ho; cases ho
    | some en =>
      simp only [ea] at ho
      obtain ⟨hpc, ch, hch, hen⟩ := ax_at_ok ea
      have hok := (hprog mi hmi).2.2.2 ch hch en hen
      rw [hpc] at hok
      cases er : ax_rets en.2.1 st with
      | some r =>
        simp only [er] at ho
        cases et : ax_retT mi.2.2.2.2.1 r with
        | false => rw [et] at ho; cases ho
        | true =>
          rw [et] at ho
          obtain rfl := Option.some.inj ho
          exact ax_ret_ok M hrt hok.1 hok.2.1 er et hcs hss
      | none =>
        simp only [er] at ho
        cases ei : ax_inv prog en.2.1 en.2.2.2.1 st h with
        | some q =>
          simp only [ei] at ho
          cases eb : (Nat.ble (cs + q.1.2.2.2.2.2.2.1) mi.2.2.2.2.2.2.1 && Nat.ble (ss + q.1.2.2.2.2.2.2.2.1) mi.2.2.2.2.2.2.2.1) with
          | false => rw [eb] at ho; cases ho
          | true =>
            rw [eb] at ho
            simp only [cond_true] at ho
            simp only [Bool.and_eq_true, Nat.ble_eq] at eb
            cases ec : callee q.1 q.2.1 h n with
            | none => rw [ec] at ho; cases ho
            | some o1 =>
              simp only [ec] at ho
              have hin : q.1 ∈ prog := ax_inv_in ei
              obtain ⟨hM, hn1⟩ := hcal q.1 q.2.1 h n o1 hin ec
              refine ax_inv_ok hprog M hok ei (fun _ => hM) ?_ ?_ ?_ ?_ (ih _ _ _ _ _ _ _ o ho eb.1 eb.2) hn1
              · rw [hR]; exact Nat.le_refl _
              · rw [hR]; exact Nat.le_refl _
              · rw [hR]; exact eb.1
              · rw [hR]; exact eb.2
        | none =>
          simp only [ei] at ho
          cases es : ax_step iv mi.2.2.2.1 en.2.1 en.2.2.2.1 pc lv st h n cs ss with
          | none => rw [es] at ho; cases ho
          | some F =>
            simp only [es] at ho
            cases eb : (Nat.ble F.2.2.2.2.2.1 mi.2.2.2.2.2.2.1 && Nat.ble F.2.2.2.2.2.2 mi.2.2.2.2.2.2.2.1) with
            | false => rw [eb] at ho; cases ho
            | true =>
              rw [eb] at ho
              simp only [cond_true] at ho
              simp only [Bool.and_eq_true, Nat.ble_eq] at eb
              refine ax_step_ok M hnm hρ hok es ?_ (ih _ _ _ _ _ _ _ o ho eb.1 eb.2)
              rw [hR]
              exact ⟨eb.1, eb.2, Nat.le_add_left 1 d, by show 40 ≤ 40 * (d + 1); omega⟩
theorem ax_body_ret {prog : List ax_MI} {mi : ax_MI} {callee : ax_MI → List Value → ax_H → Nat → Option ax_O} : ∀ (f pc : Nat) (lv : List (Nat × Value)) (st : List Value) (h : ax_H) (n cs ss : Nat) (o : ax_O), ax_body iv prog callee mi f pc lv st h n cs ss = some o → ax_retT mi.2.2.2.2.1 o.1 = true := by
  intro f
  induction f with
  | zero => intro pc lv st h n cs ss o ho; cases ho
  | succ f ih =>
    intro pc lv st h n cs ss o ho
    rw [ax_body] at ho
    cases ea : ax_at mi.2.2.2.2.2.2.2.2 pc with
    | none => rw [ea] at ho; cases ho
    | some en =>
      simp only [ea] at ho
      cases er : ax_rets en.2.1 st with
      | some r =>
        simp only [er] at ho
        cases et : ax_retT mi.2.2.2.2.1 r with
        | false => rw [et] at ho; cases ho
        | true => rw [et] at ho; obtain rfl := Option.some.inj ho; exact et
      | none =>
        simp only [er] at ho
        cases ei : ax_inv prog en.2.1 en.2.2.2.1 st h with
        | some q =>
          simp only [ei] at ho
          cases eb : (Nat.ble (cs + q.1.2.2.2.2.2.2.1) mi.2.2.2.2.2.2.1 && Nat.ble (ss + q.1.2.2.2.2.2.2.2.1) mi.2.2.2.2.2.2.2.1) with
          | false => rw [eb] at ho; cases ho
          | true =>
            rw [eb] at ho
            simp only [cond_true] at ho
            cases ec : callee q.1 q.2.1 h n with
            | none => rw [ec] at ho; cases ho
            | some o1 => simp only [ec] at ho; exact ih _ _ _ _ _ _ _ o ho
        | none =>
          simp only [ei] at ho
          cases es : ax_step iv mi.2.2.2.1 en.2.1 en.2.2.2.1 pc lv st h n cs ss with
          | none => rw [es] at ho; cases ho
          | some F =>
            simp only [es] at ho
            cases eb : (Nat.ble F.2.2.2.2.2.1 mi.2.2.2.2.2.2.1 && Nat.ble F.2.2.2.2.2.2 mi.2.2.2.2.2.2.2.1) with
            | false => rw [eb] at ho; cases ho
            | true => rw [eb] at ho; exact ih _ _ _ _ _ _ _ o ho
theorem ax_sl_len (G : ax_T) (as : List Value) : (lg_sl (as.map (ax_v G))).length = (lg_sl as).length := by
  induction as with
  | nil => rfl
  | cons v vs ih =>
    simp only [lg_sl, List.map_cons, List.flatMap_cons, List.length_append, ax_cat] at ih ⊢
    rw [ih]
    split <;> rfl
theorem ax_args_map (G : ax_T) (as : List Value) : ∀ j : Nat, lv_args j (as.map (ax_v G)) = (lv_args j as).map fun q => (q.1, ax_v G q.2) := by
  induction as with
  | nil => intro j; rfl
  | cons v vs ih =>
    intro j
    simp only [List.map_cons, lv_args, ax_cat]
    rw [ih]
/-- what a run answers, the method answers -/
theorem ax_call_ok {prog : List ax_MI} (hprog : ax_Prog prog) (hρ : ∀ u, (iv u).1 ≤ (G.2.2.2.1 u).toInt ∧ (G.2.2.2.1 u).toInt ≤ (iv u).2) : ∀ (d : Nat) (mi : ax_MI) (as : List Value) (h : ax_H) (n : Nat) (o : ax_O), mi ∈ prog → ax_call iv prog d mi as h n = some o →
    ax_Met l G mi.2.1 mi.2.2.1 mi.2.2.2.1 mi.2.2.2.2.1 d as (ax_hget h) n o.1 (ax_hget o.2.1) o.2.2 mi.2.2.2.2.2.2.1 mi.2.2.2.2.2.2.2.1 ∧ (mi.2.2.2.2.1 = none → o.1 = none) := by
  intro d
  induction d with
  | zero => intro mi as h n o _ ho; cases ho
  | succ d ih =>
    intro mi as h n o hmi ho
    rw [ax_call] at ho
    cases el : Nat.ble (lg_sl as).length mi.2.2.2.1 with
    | false => rw [el] at ho; cases ho
    | true =>
      rw [el] at ho
      simp only [cond_true] at ho
      have hlen : (lg_sl (as.map (ax_v G))).length ≤ mi.2.2.2.1 := by rw [ax_sl_len]; simpa [Nat.ble_eq] using el
      obtain ⟨hcal, hcls, hplain, -⟩ := hprog mi hmi
      refine ⟨?_, fun hn => ?_⟩
      · unfold ax_Met
        refine Met.ofW (cc := mi.2.2.1) (maxL := mi.2.2.2.1) (ret := mi.2.2.2.2.1) hplain rfl ?_
        intro p e s m args below meth c s₁ B hml hv
        obtain ⟨rfl, hX, hRel⟩ := hv
        have hts := atoms_spec (ws := Cond.code mi.2.1 mi.2.2.1 mi.2.2.2.1 mi.2.2.2.2.1 :: ax_G) B.pre
        have hown : s.vm.findClass mi.2.1.cls = some m.cls := findClass_of_methodNamed B.named
        have M : ax_M G p s m (as.map (ax_v G)).toArray meth c mi.1 mi.2.2.1 mi.2.2.2.1 := ⟨B.exec, B.bytes, hml, by rw [hcls]; exact hown, fun w hw => hts w (List.mem_cons_of_mem _ hw), B.notSynchronized, hX⟩
        have hl := lv_entry (as.map (ax_v G)) (n := mi.2.2.2.1) hlen
        rw [lg_entry_eq]
        rw [ax_args_map] at hl
        exact ax_body_ok hprog hmi (fun q as h n o hq hc => ih q as h n o hq hc) M (name_of_methodNamed B.named B.method).1 B.returns hρ rfl 5000 0 _ [] h n 0 0 o ho (Nat.zero_le _) (Nat.zero_le _) _ s.heap [] hl hRel (fun q hq => by cases hq)
      · have := ax_body_ret _ _ _ _ _ _ _ _ o ho
        rw [hn] at this
        cases e1 : o.1 with
        | none => rfl
        | some v => rw [e1] at this; cases this
end AXR
end
section
/-! ===== the law's own body, run likewise: the script is .retAddr 2 ===== -/
/-- one step of the law: sc what the script's places hold, L its length, opv the first masked by 63 -/
def ax_stepL (iv : Nat → Int × Int) (L : Nat) (sc : Nat → Value) (opv : Value) (i : Instr) (pe : ax_PE) (pc : Nat) (lv : List (Nat × Value)) (st : List Value) (h : ax_H) (n cs ss : Nat) : Option ax_F := match i with
  | .arraylength => match st with
    | .retAddr 2 :: st => some (pc + 1, lv, .int (Int32.ofNat L) :: st, h, n, cs, ss)
    | _ => none
  | .iaload => match st with
    | .int k :: .retAddr 2 :: st => bif ax_inB k L then some (pc + 1, lv, sc k.toNatClampNeg :: st, h, n, cs, ss) else none
    | _ => none
  | .iand => match st with
    | .int k :: v :: st => bif decide (k = 63) && decide (v = sc 0) then some (pc + 1, lv, opv :: st, h, n, cs, ss) else none
    | _ => none
  | .lcmp => match st with
    | .long y :: .long x :: st => some (pc + 1, lv, .int (lg_cmp x y) :: st, h, n, cs, ss)
    | _ => none
  | i => ax_step iv 4 i pe pc lv st h n cs ss
/-- runs on to a pc, by a given step -/
def ax_lgo (iv : Nat → Int × Int) (prog : List ax_MI) (stp : Instr → ax_PE → Nat → List (Nat × Value) → List Value → ax_H → Nat → Nat → Nat → Option ax_F) (tab : List (List ax_EN)) (stop : Nat) : Nat → Nat → List (Nat × Value) → List Value → ax_H → Nat → Nat → Nat → Option ax_F
  | 0, _, _, _, _, _, _, _ => none
  | f + 1, pc, lv, st, h, n, cs, ss => bif Nat.beq pc stop then some (pc, lv, st, h, n, cs, ss) else match ax_at tab pc with
    | none => none
    | some e => match ax_inv prog e.2.1 e.2.2.2.1 st h with
      | some q => bif Nat.ble (cs + q.1.2.2.2.2.2.2.1) 600000 && Nat.ble (ss + q.1.2.2.2.2.2.2.2.1) 7302250 then (match ax_call iv prog 20 q.1 q.2.1 h n with
          | some o => ax_lgo iv prog stp tab stop f (pc + 3) lv (o.1.toList ++ q.2.2) o.2.1 o.2.2 (cs + q.1.2.2.2.2.2.2.1) (ss + q.1.2.2.2.2.2.2.2.1)
          | none => none) else none
      | none => match stp e.2.1 e.2.2.2.1 pc lv st h n cs ss with
        | some F => bif Nat.ble F.2.2.2.2.2.1 600000 && Nat.ble F.2.2.2.2.2.2 7302250 then ax_lgo iv prog stp tab stop f F.1 F.2.1 F.2.2.1 F.2.2.2.1 F.2.2.2.2.1 F.2.2.2.2.2.1 F.2.2.2.2.2.2 else none
        | none => none
section AXL
variable {G : ax_T} {p : Program} {l : Launch} {e : Env} {s : State} {m : MethodId} {args : Array Value} {below : List Frame} {meth : Method} {c : Code} {Q : State → Prop} {own nm : String} {cc : ByteArray}
variable {pc : Nat} {lv : List (Nat × Value)} {st : List Value} {h : ax_H} {n cs ss : Nat} {iv : Nat → Int × Int} {pe : ax_PE} {F : ax_F} {b L : Nat} {xs : Nat → Int32} {sc : Nat → Value} {opv : Value}
/-- the script, among the cells below B -/
theorem ax_scr {H : Heap} {g : Nat → Option ax_C} (hX : va_X b L xs s G.2.2.1) (hb : b < G.2.1) (hR : ax_R G g n H) : va_X b L xs s H := hX.kept (hR.2.2 b hb)
theorem ax_scr_len {ls : Array Slot} {H : Heap} {locs : List Loc} {R : Room} {rest : List Value} (hx : p.tables.exec = Jvm.exec) (hbb : c.code = cc) (hX : va_X b L xs s H) (hd : decode cc pc = .ok (.arraylength, 1))
    (kk : W p l e R s m args below meth c H locs cs ss Q (F0 m (pc + 1) ls (.int (Int32.ofNat L) :: rest))) : W p l e R s m args below meth c H locs cs ss Q (F0 m pc ls (.ref b :: rest)) := by
  obtain ⟨scr, h1, h2, h3, h4, h5⟩ := hX
  exact W.alen (n := Int32.ofNat L) hx hbb h1 h2 (by rw [h4] <;> rfl) rfl rfl hd kk
theorem ax_scr_at {ls : Array Slot} {H : Heap} {locs : List Loc} {R : Room} {rest : List Value} (hx : p.tables.exec = Jvm.exec) (hbb : c.code = cc) (hX : va_X b L xs s H) {i : Int32} (hin : vp_in i L) (hd : decode cc pc = .ok (.iaload, 1))
    (kk : W p l e R s m args below meth c H locs cs ss Q (F0 m (pc + 1) ls (.int (xs i.toNatClampNeg) :: rest))) : W p l e R s m args below meth c H locs cs ss Q (F0 m pc ls (.int i :: .ref b :: rest)) := by
  obtain ⟨scr, h1, h2, h3, h4, h5⟩ := hX
  have hlt : i.toNatClampNeg < L := Nat.not_le.mp fun q => hin (Or.inr q)
  exact W.iald (v := .int (xs i.toNatClampNeg)) hx hbb h1 h2 h3 (by rw [h4]; exact hin) (h5 _ hlt) rfl rfl hd kk
theorem ax_stepL_ok {prog : List ax_MI} {R : Room} (M : ax_M G p s m args meth c own cc 4) (hnm : meth.name = nm) (hρ : ∀ u, (iv u).1 ≤ (G.2.2.2.1 u).toInt ∧ (G.2.2.2.1 u).toInt ≤ (iv u).2)
    (hX : va_X b L xs s G.2.2.1) (hbB : b < G.2.1) (hso : G.2.2.2.2.1 2 = b) (hsc : ∀ j, ax_v G (sc j) = .int (xs j)) (hop : ax_v G opv = .int (xs 0 &&& 63))
    {i : Instr} {len : Nat} (hok : ax_Ok prog own nm cc pc i len pe) (hs : ax_stepL iv L sc opv i pe pc lv st h n cs ss = some F) (hr : F.2.2.2.2.2.1 ≤ R.cells ∧ F.2.2.2.2.2.2 ≤ R.slots ∧ 1 ≤ R.frames ∧ 40 ≤ R.locals)
    (kk : ax_WF G p l e R s m args below meth c Q 4 F) : ax_W G p l e R s m args below meth c Q 4 pc lv st (ax_hget h) n cs ss := by
  obtain ⟨hx, hb, hml, hown, hts, hlocks, hXX⟩ := id M
  cases i with
  | arraylength =>
    obtain ⟨hd, hlen, hw⟩ := hok
    obtain rfl : len = 1 := hlen.elim (fun q => absurd q (Nat.succ_ne_zero _)) (fun q => q)
    simp only [ax_stepL] at hs
    split at hs
    · obtain rfl := Option.some.inj hs
      intro ls H locs hl hR hL
      have hv : ax_v G (.retAddr 2) = .ref b := by show Value.ref _ = _; rw [hso]
      simp only [List.map_cons, hv]
      exact ax_scr_len hx hb (ax_scr hX hbB hR) hd (kk ls H locs hl hR hL)
    · cases hs
  | iaload =>
    obtain ⟨hd, hlen, hw⟩ := hok
    obtain rfl : len = 1 := hlen.elim (fun q => absurd q (Nat.succ_ne_zero _)) (fun q => q)
    simp only [ax_stepL] at hs
    split at hs
    · rename_i k st'
      cases e1 : ax_inB k L with
      | false => simp only [e1, cond_false] at hs; cases hs
      | true =>
        simp only [e1, cond_true] at hs
        obtain rfl := Option.some.inj hs
        intro ls H locs hl hR hL
        have hv : ax_v G (.retAddr 2) = .ref b := by show Value.ref _ = _; rw [hso]
        have hin := ax_inB_ok e1
        have hk := kk ls H locs hl hR hL
        simp only [List.map_cons, hsc] at hk
        simp only [List.map_cons, hv]
        exact ax_scr_at hx hb (ax_scr hX hbB hR) hin hd hk
    · cases hs
  | iand =>
    obtain ⟨hd, hlen, hw⟩ := hok
    obtain rfl : len = 1 := hlen.elim (fun q => absurd q (Nat.succ_ne_zero _)) (fun q => q)
    simp only [ax_stepL] at hs
    split at hs
    · rename_i k v st'
      cases e1 : (decide (k = 63) && decide (v = sc 0)) with
      | false => simp only [e1, cond_false] at hs; cases hs
      | true =>
        simp only [e1, cond_true] at hs
        obtain rfl := Option.some.inj hs
        simp only [Bool.and_eq_true, decide_eq_true_eq] at e1
        obtain ⟨rfl, rfl⟩ := e1
        intro ls H locs hl hR hL
        have hk := kk ls H locs hl hR hL
        simp only [List.map_cons, hop] at hk
        simp only [List.map_cons, hsc]
        exact lv_iand hx hb hd hk
    · cases hs
  | lcmp =>
    obtain ⟨hd, hlen, hw⟩ := hok
    obtain rfl : len = 1 := hlen.elim (fun q => absurd q (Nat.succ_ne_zero _)) (fun q => q)
    simp only [ax_stepL] at hs
    split at hs
    · obtain rfl := Option.some.inj hs
      exact fun ls H locs hl hR hL => W.lcmp hx hb hd (kk ls H locs hl hR hL)
    · cases hs
  | _ => exact ax_step_ok M hnm hρ hok hs hr kk
theorem ax_lgo_ok {prog : List ax_MI} (hprog : ax_Prog prog) {tab : List (List ax_EN)} (htab : ∀ ch ∈ tab, ∀ en ∈ ch, ax_Ok prog own nm cc en.1 en.2.1 en.2.2.1 en.2.2.2.1) (M : ax_M G p s m args meth c own cc 4) (hρ : ∀ u, (iv u).1 ≤ (G.2.2.2.1 u).toInt ∧ (G.2.2.2.1 u).toInt ≤ (iv u).2)
    {stp : Instr → ax_PE → Nat → List (Nat × Value) → List Value → ax_H → Nat → Nat → Nat → Option ax_F}
    (hstp : ∀ (i : Instr) (len : Nat) (pe : ax_PE) (pc : Nat) (lv : List (Nat × Value)) (st : List Value) (h : ax_H) (n cs ss : Nat) (F : ax_F), ax_Ok prog own nm cc pc i len pe → stp i pe pc lv st h n cs ss = some F → F.2.2.2.2.2.1 ≤ room_1.cells ∧ F.2.2.2.2.2.2 ≤ room_1.slots ∧ 1 ≤ room_1.frames ∧ 40 ≤ room_1.locals → ax_WF G p l e room_1 s m args below meth c Q 4 F → ax_W G p l e room_1 s m args below meth c Q 4 pc lv st (ax_hget h) n cs ss) {stop : Nat} :
    ∀ (f pc : Nat) (lv : List (Nat × Value)) (st : List Value) (h : ax_H) (n cs ss : Nat) (F : ax_F), ax_lgo iv prog stp tab stop f pc lv st h n cs ss = some F → ax_WF G p l e room_1 s m args below meth c Q 4 F → ax_W G p l e room_1 s m args below meth c Q 4 pc lv st (ax_hget h) n cs ss := by
  intro f
  induction f with
  | zero => intro pc lv st h n cs ss F ho; cases ho
  | succ f ih =>
    intro pc lv st h n cs ss F ho kk
    rw [ax_lgo] at ho
    cases es : Nat.beq pc stop with
    | true =>
      rw [es] at ho
      obtain rfl := Option.some.inj ho
      exact kk
    | false =>
      rw [es] at ho
      simp only [cond_false] at ho
      cases ea : ax_at tab pc with
      | none => rw [ea] at ho; cases ho
      | some en =>
        simp only [ea] at ho
        obtain ⟨hpc, ch, hch, hen⟩ := ax_at_ok ea
        have hok := htab ch hch en hen
        rw [hpc] at hok
        cases ei : ax_inv prog en.2.1 en.2.2.2.1 st h with
        | some q =>
          simp only [ei] at ho
          cases eb : (Nat.ble (cs + q.1.2.2.2.2.2.2.1) 600000 && Nat.ble (ss + q.1.2.2.2.2.2.2.2.1) 7302250) with
          | false => rw [eb] at ho; cases ho
          | true =>
            rw [eb] at ho
            simp only [cond_true] at ho
            simp only [Bool.and_eq_true, Nat.ble_eq] at eb
            cases ec : ax_call iv prog 20 q.1 q.2.1 h n with
            | none => rw [ec] at ho; cases ho
            | some o1 =>
              simp only [ec] at ho
              obtain ⟨hM, hn1⟩ := ax_call_ok (l := l) (G := G) hprog hρ 20 q.1 q.2.1 h n o1 (ax_inv_in ei) ec
              exact ax_inv_ok hprog M hok ei (fun _ => hM) (Nat.le_of_ble_eq_true rfl) (Nat.le_of_ble_eq_true rfl) eb.1 eb.2 (ih _ _ _ _ _ _ _ F ho kk) hn1
        | none =>
          simp only [ei] at ho
          cases et : stp en.2.1 en.2.2.2.1 pc lv st h n cs ss with
          | none => rw [et] at ho; cases ho
          | some F1 =>
            simp only [et] at ho
            cases eb : (Nat.ble F1.2.2.2.2.2.1 600000 && Nat.ble F1.2.2.2.2.2.2 7302250) with
            | false => rw [eb] at ho; cases ho
            | true =>
              rw [eb] at ho
              simp only [cond_true] at ho
              simp only [Bool.and_eq_true, Nat.ble_eq] at eb
              exact hstp _ _ _ _ _ _ _ _ _ _ _ hok et ⟨eb.1, eb.2, Nat.le_of_ble_eq_true rfl, Nat.le_of_ble_eq_true rfl⟩ (ih _ _ _ _ _ _ _ F ho kk)
end AXL
end
section
/-! ===== a table of instructions, checked by the kernel ===== -/
def ax_has (j : Nat) (w : Cond) : Bool := decide (lw_tbl[j]? = some w) && goodWord w
theorem ax_has_ok {j : Nat} {w : Cond} (h : ax_has j w = true) : w ∈ ax_G := by
  simp only [ax_has, Bool.and_eq_true, decide_eq_true_eq] at h
  exact ax_G_in (List.mem_of_getElem? h.1) h.2
def ax_hasN (j : Nat) (w : Cond) : Bool := decide (lw_tbl[j]? = some w)
theorem ax_hasN_ok {j : Nat} {w : Cond} (h : ax_hasN j w = true) : w ∈ lw_tbl := List.mem_of_getElem? (of_decide_eq_true h)
def ax_lnk (plain : Bool) (j : Nat) (w wn : Cond) : Bool := bif plain then ax_has j w else ax_hasN j wn
theorem ax_lnkF_ok {b : Bool} {j idx : Nat} {own a1 a2 a3 host : String} (h : ax_lnk b j (.fieldLink own idx a1 a2 a3) (.fieldLinkNest own idx a1 a2 a3 host) = true) : Cond.fieldLink own idx a1 a2 a3 ∈ ax_G ∨ ∃ host, Cond.fieldLinkNest own idx a1 a2 a3 host ∈ lw_tbl := by
  cases b with
  | true => exact Or.inl (ax_has_ok h)
  | false => exact Or.inr ⟨host, ax_hasN_ok h⟩
theorem ax_lnkM_ok {b : Bool} {j idx : Nat} {own host : String} {y : MethodName} (h : ax_lnk b j (.methodLink own idx y) (.methodLinkNest own idx y host) = true) : Cond.methodLink own idx y ∈ ax_G ∨ ∃ host, Cond.methodLinkNest own idx y host ∈ lw_tbl := by
  cases b with
  | true => exact Or.inl (ax_has_ok h)
  | false => exact Or.inr ⟨host, ax_hasN_ok h⟩
def ax_chkW (prog : List ax_MI) (own nm : String) (i : Instr) (pe : ax_PE) (hs : List Nat) : Bool := match i with
  | .getfield idx => match ax_cl[pe.2.1]? with
    | some q => Nat.blt pe.2.2.1 q.2.2 && ax_lnk (pe.1 == 0) (hs.getD 0 0) (.fieldLink own idx (q.2.1 pe.2.2.1).1 (q.2.1 pe.2.2.1).2.1 (q.2.1 pe.2.2.1).2.2.1) (.fieldLinkNest own idx (q.2.1 pe.2.2.1).1 (q.2.1 pe.2.2.1).2.1 (q.2.1 pe.2.2.1).2.2.1 "LetterSums")
    | none => false
  | .putfield idx => match ax_cl[pe.2.1]? with
    | some q => Nat.blt pe.2.2.1 q.2.2 && (bif (q.2.1 pe.2.2.1).2.2.2 then ax_has (hs.getD 0 0) (.fieldLink own idx (q.2.1 pe.2.2.1).1 (q.2.1 pe.2.2.1).2.1 (q.2.1 pe.2.2.1).2.2.1) && (decide (nm = "<init>") && decide ((q.2.1 pe.2.2.1).1 = own))
        else ax_lnk (pe.1 == 0) (hs.getD 0 0) (.fieldLink own idx (q.2.1 pe.2.2.1).1 (q.2.1 pe.2.2.1).2.1 (q.2.1 pe.2.2.1).2.2.1) (.fieldLinkNest own idx (q.2.1 pe.2.2.1).1 (q.2.1 pe.2.2.1).2.1 (q.2.1 pe.2.2.1).2.2.1 "LetterSums"))
    | none => false
  | .getstatic idx => match ax_st[pe.2.1]? with
    | some z => ax_lnk (pe.1 == 0) (hs.getD 0 0) (.fieldLink own idx z.1 z.2.1 "[I") (.fieldLinkNest own idx z.1 z.2.1 "[I" "LetterSums")
    | none => false
  | .new idx => match ax_cl[pe.2.1]? with
    | some q => decide (q.2.2 = pe.2.2.1) && (ax_has (hs.getD 0 0) (.classLink own idx q.1) && (ax_has (hs.getD 1 0) (.instantiable q.1 pe.2.2.1) && (ax_has (hs.getD 2 0) (.initialized q.1) && ax_nofl pe.2.1 pe.2.2.1)))
    | none => false
  | .newarray a => ax_has (hs.getD 0 0) (.arrayClass (newarray.typeOf a)) && (decide (ax_tn[pe.2.1]? = some (newarray.typeOf a)) && (decide (a = .int) || decide (a = .byte)))
  | .anewarray idx => match ax_tc pe.2.1 with
    | some q => ax_has (hs.getD 0 0) (.classLink own idx q.2)
    | none => false
  | .ldc idx => ax_has (hs.getD 0 0) (.constant own idx (Int32.ofInt pe.2.2.2))
  | .ldc_w idx => ax_has (hs.getD 0 0) (.constant own idx (Int32.ofInt pe.2.2.2))
  | .ldc2_w idx => ax_has (hs.getD 0 0) (.constantLong own idx (Int64.ofInt pe.2.2.2))
  | .invokestatic idx => bif pe.1 == 9 then ax_has (hs.getD 0 0) (.methodLink own idx Lib.Math.min.name) && (ax_has (hs.getD 1 0) (.static Lib.Math.min.name) && (ax_has (hs.getD 2 0) (.initialized "java/lang/Math") && ax_has (hs.getD 3 0) (.code Lib.Math.min.name Lib.Math.min.code 2 (some .int))))
      else match prog[pe.2.1]? with
        | some mi => ax_has (hs.getD 0 0) (.static mi.2.1) && ax_lnk (pe.1 == 3) (hs.getD 1 0) (.methodLink own idx mi.2.1) (.methodLinkNest own idx mi.2.1 "LetterSums")
        | none => false
  | .invokevirtual idx => match prog[pe.2.1]?, ax_cl[pe.2.2.1]? with
    | some mi, some q => decide (q.1 = mi.2.1.cls) && (ax_has (hs.getD 0 0) (.instanceMethod mi.2.1) && (ax_has (hs.getD 1 0) (.selects mi.2.1.cls mi.2.1 mi.2.1) && ax_lnk (pe.1 == 3) (hs.getD 2 0) (.methodLink own idx mi.2.1) (.methodLinkNest own idx mi.2.1 "LetterSums")))
    | _, _ => false
  | .invokespecial idx => bif pe.1 == 8 then ax_has (hs.getD 0 0) (.methodLink own idx objectInit) && (ax_has (hs.getD 1 0) (.instanceMethod objectInit) && ax_has (hs.getD 2 0) (.code objectInit ⟨#[0xb1]⟩ 1 none))
      else match prog[pe.2.1]? with
        | some mi => decide (mi.2.1.name = "<init>") && (decide (mi.2.2.2.2.1 = none) && (ax_has (hs.getD 0 0) (.instanceMethod mi.2.1) && ax_lnk (pe.1 == 3) (hs.getD 1 0) (.methodLink own idx mi.2.1) (.methodLinkNest own idx mi.2.1 "LetterSums")))
        | none => false
  | _ => true
theorem ax_chkW_ok {prog : List ax_MI} {own nm : String} {i : Instr} {pe : ax_PE} {hs : List Nat} (h : ax_chkW prog own nm i pe hs = true) : ax_OkW prog own nm i pe := by
  cases i with
  | getfield idx =>
    simp only [ax_chkW] at h
    split at h
    · rename_i q hq
      simp only [Bool.and_eq_true, Nat.blt_eq] at h
      exact ⟨q.1, q.2.1, q.2.2, hq, h.1, ax_lnkF_ok h.2⟩
    · cases h
  | putfield idx =>
    simp only [ax_chkW] at h
    split at h
    · rename_i q hq
      simp only [Bool.and_eq_true, Nat.blt_eq] at h
      refine ⟨q.1, q.2.1, q.2.2, hq, h.1, ?_⟩
      have h2 := h.2
      cases e1 : (q.2.1 pe.2.2.1).2.2.2 with
      | true =>
        rw [e1] at h2
        simp only [cond_true, Bool.and_eq_true, decide_eq_true_eq] at h2
        exact Or.inr ⟨rfl, ax_has_ok h2.1, h2.2.1, h2.2.2⟩
      | false =>
        rw [e1] at h2
        exact Or.inl ⟨rfl, ax_lnkF_ok h2⟩
    · cases h
  | getstatic idx =>
    simp only [ax_chkW] at h
    split at h
    · rename_i z hz
      exact ⟨z, hz, ax_lnkF_ok h⟩
    · cases h
  | new idx =>
    simp only [ax_chkW] at h
    split at h
    · rename_i q hq
      simp only [Bool.and_eq_true, decide_eq_true_eq] at h
      obtain ⟨h1, h2, h3, h4, h5⟩ := h
      refine ⟨q.1, q.2.1, ?_, ax_has_ok h2, ax_has_ok h3, ax_has_ok h4, h5⟩
      rw [hq, ← h1]
    · cases h
  | newarray a =>
    simp only [ax_chkW, Bool.and_eq_true, Bool.or_eq_true, decide_eq_true_eq] at h
    exact ⟨ax_has_ok h.1, h.2.1, h.2.2⟩
  | anewarray idx =>
    simp only [ax_chkW] at h
    split at h
    · rename_i q hq
      refine ⟨q.2, ax_has_ok h, (ax_tc_ok (ci := q.1) hq).1, ?_⟩
      unfold ax_tc at hq
      split at hq
      · cases hq; exact Or.inl rfl
      · cases hq; exact Or.inr (Or.inl rfl)
      · cases hq; exact Or.inr (Or.inr rfl)
      · cases hq
    · cases h
  | ldc idx => exact ax_has_ok h
  | ldc_w idx => exact ax_has_ok h
  | ldc2_w idx => exact ax_has_ok h
  | invokestatic idx =>
    simp only [ax_chkW] at h
    cases e0 : pe.1 == 9 with
    | true =>
      simp only [e0, cond_true, Bool.and_eq_true] at h
      obtain ⟨h1, h2, h3, h4⟩ := h
      exact Or.inl ⟨by simpa using e0, ax_has_ok h1, ax_has_ok h2, ax_has_ok h3, ax_has_ok h4⟩
    | false =>
      simp only [e0, cond_false] at h
      split at h
      · rename_i mi hmi
        simp only [Bool.and_eq_true] at h
        exact Or.inr ⟨by simpa using e0, mi, hmi, ax_has_ok h.1, ax_lnkM_ok h.2⟩
      · cases h
  | invokevirtual idx =>
    simp only [ax_chkW] at h
    split at h
    · rename_i mi q hmi hq
      simp only [Bool.and_eq_true, decide_eq_true_eq] at h
      obtain ⟨h1, h2, h3, h4⟩ := h
      exact ⟨mi, q.2.1, q.2.2, hmi, by rw [hq, ← h1], ax_has_ok h2, ax_has_ok h3, ax_lnkM_ok h4⟩
    · cases h
  | invokespecial idx =>
    simp only [ax_chkW] at h
    cases e0 : pe.1 == 8 with
    | true =>
      simp only [e0, cond_true, Bool.and_eq_true] at h
      exact Or.inl ⟨by simpa using e0, ax_has_ok h.1, ax_has_ok h.2.1, ax_has_ok h.2.2⟩
    | false =>
      simp only [e0, cond_false] at h
      split at h
      · rename_i mi hmi
        simp only [Bool.and_eq_true, decide_eq_true_eq] at h
        obtain ⟨h1, h2, h3, h4⟩ := h
        exact Or.inr ⟨by simpa using e0, mi, hmi, h1, h2, ax_has_ok h3, ax_lnkM_ok h4⟩
      · cases h
  | _ => trivial
def ax_chkE (prog : List ax_MI) (own nm : String) (cc : ByteArray) (en : ax_EN) : Bool :=
  decide (decode cc en.1 = .ok (en.2.1, en.2.2.1)) && ((Nat.beq (ax_len en.2.1) 0 || Nat.beq en.2.2.1 (ax_len en.2.1)) && ax_chkW prog own nm en.2.1 en.2.2.2.1 en.2.2.2.2)
theorem ax_chkE_ok {prog : List ax_MI} {own nm : String} {cc : ByteArray} {en : ax_EN} (h : ax_chkE prog own nm cc en = true) : ax_Ok prog own nm cc en.1 en.2.1 en.2.2.1 en.2.2.2.1 := by
  simp only [ax_chkE, Bool.and_eq_true, Bool.or_eq_true, decide_eq_true_eq, Nat.beq_eq] at h
  exact ⟨h.1, h.2.1, ax_chkW_ok h.2.2⟩
/-- a method, with the places of its code and of its class among the tables' words -/
def ax_chkH (q : ax_MI × Nat × Nat) : Bool :=
  ax_has q.2.1 (.code q.1.2.1 q.1.2.2.1 q.1.2.2.2.1 q.1.2.2.2.2.1) && (ax_has q.2.2 (.initialized q.1.2.1.cls) && (decide (q.1.2.1.cls ≠ "java/lang/invoke/MethodHandle" ∧ q.1.2.1.cls ≠ "java/lang/invoke/VarHandle" ∧ (parseMethodDescriptor q.1.2.1.desc).map (fun d => d.parameters.length) = some q.1.2.2.2.2.2.1) && (Nat.ble q.1.2.2.2.1 21 &&
    (decide (q.1.1 = q.1.2.1.cls) && plainName q.1.2.1.cls))))
def ax_MOk (prog : List ax_MI) (mi : ax_MI) : Prop := ax_callee mi.2.1 mi.2.2.1 mi.2.2.2.1 mi.2.2.2.2.1 mi.2.2.2.2.2.1 ∧ mi.1 = mi.2.1.cls ∧ plainName mi.2.1.cls = true ∧ ∀ ch ∈ mi.2.2.2.2.2.2.2.2, ∀ en ∈ ch, ax_Ok prog mi.1 mi.2.1.name mi.2.2.1 en.1 en.2.1 en.2.2.1 en.2.2.2.1
theorem ax_MOk_of {prog : List ax_MI} {mi : ax_MI} {a b : Nat} (h : ax_chkH (mi, a, b) = true) (ht : ∀ ch ∈ mi.2.2.2.2.2.2.2.2, ch.all (ax_chkE prog mi.1 mi.2.1.name mi.2.2.1) = true) : ax_MOk prog mi := by
  simp only [ax_chkH, Bool.and_eq_true, decide_eq_true_eq, Nat.ble_eq] at h
  obtain ⟨h1, h2, h3, h4, h5, h6⟩ := h
  exact ⟨⟨ax_has_ok h1, ax_has_ok h2, h3, h4⟩, h5, h6, fun ch hch en hen => ax_chkE_ok (List.all_eq_true.mp (ht ch hch) en hen)⟩
end
section
/-! ===== the instructions of the methods that runs reach (printed by wip/mktab.py out of the claim's words) ===== -/
def mc_X0_init_0 : List ax_EN := [(0, .aload_n 0, 1, (0, 0, 0, 0), []), (1, .invokespecial 3, 3, (8, 0, 0, 0), [284, 140, 141]), (4, .aload_n 0, 1, (0, 0, 0, 0), []), (5, .bipush 7, 2, (0, 0, 0, 0), []), (7, .newarray .int, 2, (5, 0, 0, 0), [160]), (9, .putfield 11, 3, (0, 0, 0, 0), [285]), (12, .aload_n 0, 1, (0, 0, 0, 0), []), (13, .bipush 7, 2, (0, 0, 0, 0), []), (15, .newarray .int, 2, (5, 0, 0, 0), [160]), (17, .putfield 15, 3, (0, 0, 1, 0), [287]), (20, .aload_n 0, 1, (0, 0, 0, 0), []), (21, .bipush 7, 2, (0, 0, 0, 0), []), (23, .newarray .int, 2, (5, 0, 0, 0), [160]), (25, .putfield 18, 3, (0, 0, 2, 0), [289]), (28, .aload_n 0, 1, (0, 0, 0, 0), []), (29, .bipush 7, 2, (0, 0, 0, 0), []), (31, .newarray .int, 2, (5, 0, 0, 0), [160])]
def mc_X0_init_1 : List ax_EN := [(33, .putfield 21, 3, (0, 0, 3, 0), [290]), (36, .aload_n 0, 1, (0, 0, 0, 0), []), (37, .sipush 300, 3, (0, 0, 0, 0), []), (40, .newarray .int, 2, (5, 0, 0, 0), [160]), (42, .putfield 24, 3, (0, 0, 4, 0), [291]), (45, .aload_n 0, 1, (0, 0, 0, 0), []), (46, .iconst 0, 1, (0, 0, 0, 0), []), (47, .putfield 27, 3, (0, 0, 5, 0), [293]), (50, .return_, 1, (0, 0, 0, 0), [])]
def mt_X0_init : ax_MI := (RX0, yX0_init, cX0_init, 1, none, 0, 5, 328, [mc_X0_init_0, mc_X0_init_1])
def mc_X0_hasColumns_0 : List ax_EN := [(0, .iconst 0, 1, (0, 0, 0, 0), []), (1, .istore_n 1, 1, (0, 0, 0, 0), []), (2, .iload_n 1, 1, (0, 0, 0, 0), []), (3, .aload_n 0, 1, (0, 0, 0, 0), []), (4, .getfield 31, 3, (1, 5, 1, 0), [212]), (7, .if_icmp .ge 22, 3, (0, 0, 0, 0), []), (10, .aload_n 0, 1, (0, 0, 0, 0), []), (11, .getfield 36, 3, (1, 5, 0, 0), [206]), (14, .iload_n 1, 1, (0, 0, 0, 0), []), (15, .iaload, 1, (0, 0, 0, 0), []), (16, .bipush 7, 2, (0, 0, 0, 0), []), (18, .if_icmp .lt 5, 3, (0, 0, 0, 0), []), (21, .iconst 0, 1, (0, 0, 0, 0), []), (22, .ireturn, 1, (0, 0, 0, 0), []), (23, .iinc 1 1, 3, (0, 0, 0, 0), []), (26, .goto (-24), 3, (0, 0, 0, 0), []), (29, .iconst 1, 1, (0, 0, 0, 0), []), (30, .ireturn, 1, (0, 0, 0, 0), [])]
def mt_X0_hasColumns : ax_MI := (RX0, yX0_hasColumns, cX0_hasColumns, 2, (some .boolean), 1, 0, 0, [mc_X0_hasColumns_0])
def mc_X0_addRow_0 : List ax_EN := [(0, .iconst 0, 1, (0, 0, 0, 0), []), (1, .istore_n 3, 1, (0, 0, 0, 0), []), (2, .iload_n 3, 1, (0, 0, 0, 0), []), (3, .bipush 7, 2, (0, 0, 0, 0), []), (5, .if_icmp .ge 33, 3, (0, 0, 0, 0), []), (8, .aload_n 0, 1, (0, 0, 0, 0), []), (9, .getfield 18, 3, (0, 0, 2, 0), [289]), (12, .iload_n 3, 1, (0, 0, 0, 0), []), (13, .aload_n 0, 1, (0, 0, 0, 0), []), (14, .getfield 11, 3, (0, 0, 0, 0), [285]), (17, .iload_n 3, 1, (0, 0, 0, 0), []), (18, .iaload, 1, (0, 0, 0, 0), []), (19, .iastore, 1, (0, 0, 0, 0), []), (20, .aload_n 0, 1, (0, 0, 0, 0), []), (21, .getfield 21, 3, (0, 0, 3, 0), [290]), (24, .iload_n 3, 1, (0, 0, 0, 0), []), (25, .aload_n 0, 1, (0, 0, 0, 0), []), (26, .getfield 15, 3, (0, 0, 1, 0), [287]), (29, .iload_n 3, 1, (0, 0, 0, 0), []), (30, .iaload, 1, (0, 0, 0, 0), []), (31, .iastore, 1, (0, 0, 0, 0), [])]
def mc_X0_addRow_1 : List ax_EN := [(32, .iinc 3 1, 3, (0, 0, 0, 0), []), (35, .goto (-33), 3, (0, 0, 0, 0), []), (38, .iconst 0, 1, (0, 0, 0, 0), []), (39, .istore_n 3, 1, (0, 0, 0, 0), []), (40, .aload_n 1, 1, (0, 0, 0, 0), []), (41, .getfield 31, 3, (1, 5, 1, 0), [212]), (44, .iconst 1, 1, (0, 0, 0, 0), []), (45, .isub, 1, (0, 0, 0, 0), []), (46, .istore 4, 2, (0, 0, 0, 0), []), (48, .iload 4, 2, (0, 0, 0, 0), []), (50, .ifCond .lt 56, 3, (0, 0, 0, 0), []), (53, .aload_n 1, 1, (0, 0, 0, 0), []), (54, .iload 4, 2, (0, 0, 0, 0), []), (56, .iload_n 3, 1, (0, 0, 0, 0), []), (57, .invokevirtual 39, 3, (4, 59, 5, 0), [691, 15, 808]), (60, .istore_n 3, 1, (0, 0, 0, 0), []), (61, .aload_n 1, 1, (0, 0, 0, 0), []), (62, .getfield 36, 3, (1, 5, 0, 0), [206])]
def mc_X0_addRow_2 : List ax_EN := [(65, .iload 4, 2, (0, 0, 0, 0), []), (67, .iaload, 1, (0, 0, 0, 0), []), (68, .istore 5, 2, (0, 0, 0, 0), []), (70, .iload_n 3, 1, (0, 0, 0, 0), []), (71, .iload_n 2, 1, (0, 0, 0, 0), []), (72, .if_icmp .ne 17, 3, (0, 0, 0, 0), []), (75, .aload_n 0, 1, (0, 0, 0, 0), []), (76, .getfield 21, 3, (0, 0, 3, 0), [290]), (79, .iload 5, 2, (0, 0, 0, 0), []), (81, .dup2, 1, (0, 0, 0, 0), []), (82, .iaload, 1, (0, 0, 0, 0), []), (83, .iconst 1, 1, (0, 0, 0, 0), []), (84, .iadd, 1, (0, 0, 0, 0), []), (85, .iastore, 1, (0, 0, 0, 0), []), (86, .goto 14, 3, (0, 0, 0, 0), []), (89, .aload_n 0, 1, (0, 0, 0, 0), []), (90, .getfield 18, 3, (0, 0, 2, 0), [289]), (93, .iload 5, 2, (0, 0, 0, 0), []), (95, .dup2, 1, (0, 0, 0, 0), [])]
def mc_X0_addRow_3 : List ax_EN := [(96, .iaload, 1, (0, 0, 0, 0), []), (97, .iconst 1, 1, (0, 0, 0, 0), []), (98, .iadd, 1, (0, 0, 0, 0), []), (99, .iastore, 1, (0, 0, 0, 0), []), (100, .iinc 4 (-1), 3, (0, 0, 0, 0), []), (103, .goto (-55), 3, (0, 0, 0, 0), []), (106, .aload_n 0, 1, (0, 0, 0, 0), []), (107, .invokevirtual 43, 3, (3, 3, 0, 0), [811, 35, 809]), (110, .ireturn, 1, (0, 0, 0, 0), [])]
def mt_X0_addRow : ax_MI := (RX0, yX0_addRow, cX0_addRow, 6, (some .boolean), 2, 0, 0, [mc_X0_addRow_0, mc_X0_addRow_1, mc_X0_addRow_2, mc_X0_addRow_3])
def mc_X0_acceptMore_0 : List ax_EN := [(0, .iconst 0, 1, (0, 0, 0, 0), []), (1, .istore_n 1, 1, (0, 0, 0, 0), []), (2, .iload_n 1, 1, (0, 0, 0, 0), []), (3, .bipush 7, 2, (0, 0, 0, 0), []), (5, .if_icmp .ge 33, 3, (0, 0, 0, 0), []), (8, .aload_n 0, 1, (0, 0, 0, 0), []), (9, .getfield 18, 3, (0, 0, 2, 0), [289]), (12, .iload_n 1, 1, (0, 0, 0, 0), []), (13, .iaload, 1, (0, 0, 0, 0), []), (14, .bipush 99, 2, (0, 0, 0, 0), []), (16, .if_icmp .gt 14, 3, (0, 0, 0, 0), []), (19, .aload_n 0, 1, (0, 0, 0, 0), []), (20, .getfield 21, 3, (0, 0, 3, 0), [290]), (23, .iload_n 1, 1, (0, 0, 0, 0), []), (24, .iaload, 1, (0, 0, 0, 0), []), (25, .bipush 99, 2, (0, 0, 0, 0), []), (27, .if_icmp .le 5, 3, (0, 0, 0, 0), []), (30, .iconst 0, 1, (0, 0, 0, 0), []), (31, .ireturn, 1, (0, 0, 0, 0), [])]
def mc_X0_acceptMore_1 : List ax_EN := [(32, .iinc 1 1, 3, (0, 0, 0, 0), []), (35, .goto (-33), 3, (0, 0, 0, 0), []), (38, .iconst 0, 1, (0, 0, 0, 0), []), (39, .istore_n 1, 1, (0, 0, 0, 0), []), (40, .iload_n 1, 1, (0, 0, 0, 0), []), (41, .bipush 7, 2, (0, 0, 0, 0), []), (43, .if_icmp .ge 33, 3, (0, 0, 0, 0), []), (46, .aload_n 0, 1, (0, 0, 0, 0), []), (47, .getfield 11, 3, (0, 0, 0, 0), [285]), (50, .iload_n 1, 1, (0, 0, 0, 0), []), (51, .aload_n 0, 1, (0, 0, 0, 0), []), (52, .getfield 18, 3, (0, 0, 2, 0), [289]), (55, .iload_n 1, 1, (0, 0, 0, 0), []), (56, .iaload, 1, (0, 0, 0, 0), []), (57, .iastore, 1, (0, 0, 0, 0), []), (58, .aload_n 0, 1, (0, 0, 0, 0), []), (59, .getfield 15, 3, (0, 0, 1, 0), [287]), (62, .iload_n 1, 1, (0, 0, 0, 0), []), (63, .aload_n 0, 1, (0, 0, 0, 0), [])]
def mc_X0_acceptMore_2 : List ax_EN := [(64, .getfield 21, 3, (0, 0, 3, 0), [290]), (67, .iload_n 1, 1, (0, 0, 0, 0), []), (68, .iaload, 1, (0, 0, 0, 0), []), (69, .iastore, 1, (0, 0, 0, 0), []), (70, .iinc 1 1, 3, (0, 0, 0, 0), []), (73, .goto (-33), 3, (0, 0, 0, 0), []), (76, .iconst 1, 1, (0, 0, 0, 0), []), (77, .ireturn, 1, (0, 0, 0, 0), [])]
def mt_X0_acceptMore : ax_MI := (RX0, yX0_acceptMore, cX0_acceptMore, 2, (some .boolean), 0, 0, 0, [mc_X0_acceptMore_0, mc_X0_acceptMore_1, mc_X0_acceptMore_2])
def mc_X0_pebbles_0 : List ax_EN := [(0, .iconst 0, 1, (0, 0, 0, 0), []), (1, .istore_n 1, 1, (0, 0, 0, 0), []), (2, .iconst 0, 1, (0, 0, 0, 0), []), (3, .istore_n 2, 1, (0, 0, 0, 0), []), (4, .iload_n 2, 1, (0, 0, 0, 0), []), (5, .bipush 7, 2, (0, 0, 0, 0), []), (7, .if_icmp .ge 25, 3, (0, 0, 0, 0), []), (10, .iload_n 1, 1, (0, 0, 0, 0), []), (11, .aload_n 0, 1, (0, 0, 0, 0), []), (12, .getfield 11, 3, (0, 0, 0, 0), [285]), (15, .iload_n 2, 1, (0, 0, 0, 0), []), (16, .iaload, 1, (0, 0, 0, 0), []), (17, .aload_n 0, 1, (0, 0, 0, 0), []), (18, .getfield 15, 3, (0, 0, 1, 0), [287]), (21, .iload_n 2, 1, (0, 0, 0, 0), []), (22, .iaload, 1, (0, 0, 0, 0), []), (23, .iadd, 1, (0, 0, 0, 0), []), (24, .iadd, 1, (0, 0, 0, 0), []), (25, .istore_n 1, 1, (0, 0, 0, 0), []), (26, .iinc 2 1, 3, (0, 0, 0, 0), []), (29, .goto (-25), 3, (0, 0, 0, 0), [])]
def mc_X0_pebbles_1 : List ax_EN := [(32, .iload_n 1, 1, (0, 0, 0, 0), []), (33, .ireturn, 1, (0, 0, 0, 0), [])]
def mt_X0_pebbles : ax_MI := (RX0, yX0_pebbles, cX0_pebbles, 3, (some .int), 0, 0, 0, [mc_X0_pebbles_0, mc_X0_pebbles_1])
def mc_X0_total_0 : List ax_EN := [(0, .iconst 0, 1, (0, 0, 0, 0), []), (1, .istore_n 1, 1, (0, 0, 0, 0), []), (2, .iconst 0, 1, (0, 0, 0, 0), []), (3, .istore_n 2, 1, (0, 0, 0, 0), []), (4, .iload_n 2, 1, (0, 0, 0, 0), []), (5, .bipush 7, 2, (0, 0, 0, 0), []), (7, .if_icmp .ge 31, 3, (0, 0, 0, 0), []), (10, .iload_n 1, 1, (0, 0, 0, 0), []), (11, .getstatic 47, 3, (1, 0, 0, 0), [874]), (14, .iload_n 2, 1, (0, 0, 0, 0), []), (15, .iaload, 1, (0, 0, 0, 0), []), (16, .aload_n 0, 1, (0, 0, 0, 0), []), (17, .getfield 11, 3, (0, 0, 0, 0), [285]), (20, .iload_n 2, 1, (0, 0, 0, 0), []), (21, .iaload, 1, (0, 0, 0, 0), []), (22, .aload_n 0, 1, (0, 0, 0, 0), []), (23, .getfield 15, 3, (0, 0, 1, 0), [287]), (26, .iload_n 2, 1, (0, 0, 0, 0), []), (27, .iaload, 1, (0, 0, 0, 0), []), (28, .isub, 1, (0, 0, 0, 0), []), (29, .imul, 1, (0, 0, 0, 0), []), (30, .iadd, 1, (0, 0, 0, 0), []), (31, .istore_n 1, 1, (0, 0, 0, 0), [])]
def mc_X0_total_1 : List ax_EN := [(32, .iinc 2 1, 3, (0, 0, 0, 0), []), (35, .goto (-31), 3, (0, 0, 0, 0), []), (38, .iload_n 1, 1, (0, 0, 0, 0), []), (39, .ireturn, 1, (0, 0, 0, 0), [])]
def mt_X0_total : ax_MI := (RX0, yX0_total, cX0_total, 3, (some .int), 0, 0, 0, [mc_X0_total_0, mc_X0_total_1])
def mc_X0_clear_0 : List ax_EN := [(0, .iconst 0, 1, (0, 0, 0, 0), []), (1, .istore_n 1, 1, (0, 0, 0, 0), []), (2, .iload_n 1, 1, (0, 0, 0, 0), []), (3, .bipush 7, 2, (0, 0, 0, 0), []), (5, .if_icmp .ge 23, 3, (0, 0, 0, 0), []), (8, .aload_n 0, 1, (0, 0, 0, 0), []), (9, .getfield 11, 3, (0, 0, 0, 0), [285]), (12, .iload_n 1, 1, (0, 0, 0, 0), []), (13, .iconst 0, 1, (0, 0, 0, 0), []), (14, .iastore, 1, (0, 0, 0, 0), []), (15, .aload_n 0, 1, (0, 0, 0, 0), []), (16, .getfield 15, 3, (0, 0, 1, 0), [287]), (19, .iload_n 1, 1, (0, 0, 0, 0), []), (20, .iconst 0, 1, (0, 0, 0, 0), []), (21, .iastore, 1, (0, 0, 0, 0), []), (22, .iinc 1 1, 3, (0, 0, 0, 0), []), (25, .goto (-23), 3, (0, 0, 0, 0), []), (28, .return_, 1, (0, 0, 0, 0), [])]
def mt_X0_clear : ax_MI := (RX0, yX0_clear, cX0_clear, 2, none, 0, 0, 0, [mc_X0_clear_0])
def mc_X0_hasBundle_0 : List ax_EN := [(0, .aload_n 0, 1, (0, 0, 0, 0), []), (1, .getfield 11, 3, (0, 0, 0, 0), [285]), (4, .iload_n 1, 1, (0, 0, 0, 0), []), (5, .iaload, 1, (0, 0, 0, 0), []), (6, .getstatic 50, 3, (0, 1, 0, 0), [825]), (9, .iload_n 1, 1, (0, 0, 0, 0), []), (10, .iaload, 1, (0, 0, 0, 0), []), (11, .if_icmp .lt 7, 3, (0, 0, 0, 0), []), (14, .iconst 1, 1, (0, 0, 0, 0), []), (15, .goto 4, 3, (0, 0, 0, 0), []), (18, .iconst 0, 1, (0, 0, 0, 0), []), (19, .ireturn, 1, (0, 0, 0, 0), [])]
def mt_X0_hasBundle : ax_MI := (RX0, yX0_hasBundle, cX0_hasBundle, 2, (some .boolean), 1, 0, 0, [mc_X0_hasBundle_0])
def mc_X0_tieUp_0 : List ax_EN := [(0, .aload_n 0, 1, (0, 0, 0, 0), []), (1, .getfield 11, 3, (0, 0, 0, 0), [285]), (4, .iload_n 1, 1, (0, 0, 0, 0), []), (5, .iconst 1, 1, (0, 0, 0, 0), []), (6, .iadd, 1, (0, 0, 0, 0), []), (7, .iaload, 1, (0, 0, 0, 0), []), (8, .iconst 1, 1, (0, 0, 0, 0), []), (9, .iadd, 1, (0, 0, 0, 0), []), (10, .bipush 99, 2, (0, 0, 0, 0), []), (12, .if_icmp .le 5, 3, (0, 0, 0, 0), []), (15, .iconst 0, 1, (0, 0, 0, 0), []), (16, .ireturn, 1, (0, 0, 0, 0), []), (17, .aload_n 0, 1, (0, 0, 0, 0), []), (18, .getfield 11, 3, (0, 0, 0, 0), [285]), (21, .iload_n 1, 1, (0, 0, 0, 0), []), (22, .dup2, 1, (0, 0, 0, 0), []), (23, .iaload, 1, (0, 0, 0, 0), []), (24, .getstatic 50, 3, (0, 1, 0, 0), [825]), (27, .iload_n 1, 1, (0, 0, 0, 0), []), (28, .iaload, 1, (0, 0, 0, 0), []), (29, .isub, 1, (0, 0, 0, 0), []), (30, .iastore, 1, (0, 0, 0, 0), []), (31, .aload_n 0, 1, (0, 0, 0, 0), [])]
def mc_X0_tieUp_1 : List ax_EN := [(32, .getfield 11, 3, (0, 0, 0, 0), [285]), (35, .iload_n 1, 1, (0, 0, 0, 0), []), (36, .iconst 1, 1, (0, 0, 0, 0), []), (37, .iadd, 1, (0, 0, 0, 0), []), (38, .dup2, 1, (0, 0, 0, 0), []), (39, .iaload, 1, (0, 0, 0, 0), []), (40, .iconst 1, 1, (0, 0, 0, 0), []), (41, .iadd, 1, (0, 0, 0, 0), []), (42, .iastore, 1, (0, 0, 0, 0), []), (43, .iconst 1, 1, (0, 0, 0, 0), []), (44, .ireturn, 1, (0, 0, 0, 0), [])]
def mt_X0_tieUp : ax_MI := (RX0, yX0_tieUp, cX0_tieUp, 2, (some .boolean), 1, 0, 0, [mc_X0_tieUp_0, mc_X0_tieUp_1])
def mc_X0_untie_0 : List ax_EN := [(0, .aload_n 0, 1, (0, 0, 0, 0), []), (1, .getfield 11, 3, (0, 0, 0, 0), [285]), (4, .iload_n 1, 1, (0, 0, 0, 0), []), (5, .iconst 1, 1, (0, 0, 0, 0), []), (6, .isub, 1, (0, 0, 0, 0), []), (7, .iaload, 1, (0, 0, 0, 0), []), (8, .getstatic 50, 3, (0, 1, 0, 0), [825]), (11, .iload_n 1, 1, (0, 0, 0, 0), []), (12, .iconst 1, 1, (0, 0, 0, 0), []), (13, .isub, 1, (0, 0, 0, 0), []), (14, .iaload, 1, (0, 0, 0, 0), []), (15, .iadd, 1, (0, 0, 0, 0), []), (16, .bipush 99, 2, (0, 0, 0, 0), []), (18, .if_icmp .le 5, 3, (0, 0, 0, 0), []), (21, .iconst 0, 1, (0, 0, 0, 0), []), (22, .ireturn, 1, (0, 0, 0, 0), []), (23, .aload_n 0, 1, (0, 0, 0, 0), []), (24, .getfield 11, 3, (0, 0, 0, 0), [285]), (27, .iload_n 1, 1, (0, 0, 0, 0), []), (28, .dup2, 1, (0, 0, 0, 0), []), (29, .iaload, 1, (0, 0, 0, 0), []), (30, .iconst 1, 1, (0, 0, 0, 0), []), (31, .isub, 1, (0, 0, 0, 0), [])]
def mc_X0_untie_1 : List ax_EN := [(32, .iastore, 1, (0, 0, 0, 0), []), (33, .aload_n 0, 1, (0, 0, 0, 0), []), (34, .getfield 11, 3, (0, 0, 0, 0), [285]), (37, .iload_n 1, 1, (0, 0, 0, 0), []), (38, .iconst 1, 1, (0, 0, 0, 0), []), (39, .isub, 1, (0, 0, 0, 0), []), (40, .dup2, 1, (0, 0, 0, 0), []), (41, .iaload, 1, (0, 0, 0, 0), []), (42, .getstatic 50, 3, (0, 1, 0, 0), [825]), (45, .iload_n 1, 1, (0, 0, 0, 0), []), (46, .iconst 1, 1, (0, 0, 0, 0), []), (47, .isub, 1, (0, 0, 0, 0), []), (48, .iaload, 1, (0, 0, 0, 0), []), (49, .iadd, 1, (0, 0, 0, 0), []), (50, .iastore, 1, (0, 0, 0, 0), []), (51, .iconst 1, 1, (0, 0, 0, 0), []), (52, .ireturn, 1, (0, 0, 0, 0), [])]
def mt_X0_untie : ax_MI := (RX0, yX0_untie, cX0_untie, 2, (some .boolean), 1, 0, 0, [mc_X0_untie_0, mc_X0_untie_1])
def mc_X0_settleAll_0 : List ax_EN := [(0, .aload_n 0, 1, (0, 0, 0, 0), []), (1, .iconst 0, 1, (0, 0, 0, 0), []), (2, .putfield 27, 3, (0, 0, 5, 0), [293]), (5, .aload_n 0, 1, (0, 0, 0, 0), []), (6, .getfield 27, 3, (0, 0, 5, 0), [293]), (9, .sipush 300, 3, (0, 0, 0, 0), []), (12, .if_icmp .ge 45, 3, (0, 0, 0, 0), []), (15, .aload_n 0, 1, (0, 0, 0, 0), []), (16, .invokevirtual 53, 3, (3, 11, 0, 0), [849, 41, 847]), (19, .istore_n 1, 1, (0, 0, 0, 0), []), (20, .iload_n 1, 1, (0, 0, 0, 0), []), (21, .iconst (-1), 1, (0, 0, 0, 0), []), (22, .if_icmp .eq 11, 3, (0, 0, 0, 0), []), (25, .aload_n 0, 1, (0, 0, 0, 0), []), (26, .iload_n 1, 1, (0, 0, 0, 0), []), (27, .invokevirtual 57, 3, (3, 13, 0, 0), [858, 43, 856]), (30, .ifCond .ne 4, 3, (0, 0, 0, 0), [])]
def mc_X0_settleAll_1 : List ax_EN := [(33, .return_, 1, (0, 0, 0, 0), []), (34, .aload_n 0, 1, (0, 0, 0, 0), []), (35, .getfield 24, 3, (0, 0, 4, 0), [291]), (38, .aload_n 0, 1, (0, 0, 0, 0), []), (39, .getfield 27, 3, (0, 0, 5, 0), [293]), (42, .iload_n 1, 1, (0, 0, 0, 0), []), (43, .iastore, 1, (0, 0, 0, 0), []), (44, .aload_n 0, 1, (0, 0, 0, 0), []), (45, .dup, 1, (0, 0, 0, 0), []), (46, .getfield 27, 3, (0, 0, 5, 0), [293]), (49, .iconst 1, 1, (0, 0, 0, 0), []), (50, .iadd, 1, (0, 0, 0, 0), []), (51, .putfield 27, 3, (0, 0, 5, 0), [293]), (54, .goto (-49), 3, (0, 0, 0, 0), []), (57, .return_, 1, (0, 0, 0, 0), [])]
def mt_X0_settleAll : ax_MI := (RX0, yX0_settleAll, cX0_settleAll, 2, none, 0, 0, 0, [mc_X0_settleAll_0, mc_X0_settleAll_1])
def mc_X0_nextStep_0 : List ax_EN := [(0, .iconst 0, 1, (0, 0, 0, 0), []), (1, .istore_n 1, 1, (0, 0, 0, 0), []), (2, .iload_n 1, 1, (0, 0, 0, 0), []), (3, .bipush 7, 2, (0, 0, 0, 0), []), (5, .if_icmp .ge 31, 3, (0, 0, 0, 0), []), (8, .aload_n 0, 1, (0, 0, 0, 0), []), (9, .getfield 11, 3, (0, 0, 0, 0), [285]), (12, .iload_n 1, 1, (0, 0, 0, 0), []), (13, .iaload, 1, (0, 0, 0, 0), []), (14, .ifCond .le 16, 3, (0, 0, 0, 0), []), (17, .aload_n 0, 1, (0, 0, 0, 0), []), (18, .getfield 15, 3, (0, 0, 1, 0), [287]), (21, .iload_n 1, 1, (0, 0, 0, 0), []), (22, .iaload, 1, (0, 0, 0, 0), []), (23, .ifCond .le 7, 3, (0, 0, 0, 0), []), (26, .iconst 0, 1, (0, 0, 0, 0), []), (27, .iload_n 1, 1, (0, 0, 0, 0), []), (28, .iadd, 1, (0, 0, 0, 0), []), (29, .ireturn, 1, (0, 0, 0, 0), []), (30, .iinc 1 1, 3, (0, 0, 0, 0), [])]
def mc_X0_nextStep_1 : List ax_EN := [(33, .goto (-31), 3, (0, 0, 0, 0), []), (36, .aload_n 0, 1, (0, 0, 0, 0), []), (37, .invokevirtual 61, 3, (3, 12, 0, 0), [853, 42, 851]), (40, .iconst 1, 1, (0, 0, 0, 0), []), (41, .iadd, 1, (0, 0, 0, 0), []), (42, .istore_n 1, 1, (0, 0, 0, 0), []), (43, .iload_n 1, 1, (0, 0, 0, 0), []), (44, .bipush 7, 2, (0, 0, 0, 0), []), (46, .if_icmp .ge 23, 3, (0, 0, 0, 0), []), (49, .aload_n 0, 1, (0, 0, 0, 0), []), (50, .getfield 11, 3, (0, 0, 0, 0), [285]), (53, .iload_n 1, 1, (0, 0, 0, 0), []), (54, .iaload, 1, (0, 0, 0, 0), []), (55, .ifCond .le 8, 3, (0, 0, 0, 0), []), (58, .bipush 10, 2, (0, 0, 0, 0), []), (60, .iload_n 1, 1, (0, 0, 0, 0), []), (61, .iadd, 1, (0, 0, 0, 0), []), (62, .ireturn, 1, (0, 0, 0, 0), []), (63, .iinc 1 1, 3, (0, 0, 0, 0), [])]
def mc_X0_nextStep_2 : List ax_EN := [(66, .goto (-23), 3, (0, 0, 0, 0), []), (69, .iconst 0, 1, (0, 0, 0, 0), []), (70, .istore_n 1, 1, (0, 0, 0, 0), []), (71, .iload_n 1, 1, (0, 0, 0, 0), []), (72, .bipush 6, 2, (0, 0, 0, 0), []), (74, .if_icmp .ge 22, 3, (0, 0, 0, 0), []), (77, .aload_n 0, 1, (0, 0, 0, 0), []), (78, .iload_n 1, 1, (0, 0, 0, 0), []), (79, .invokevirtual 64, 3, (3, 7, 0, 0), [823, 37, 855]), (82, .ifCond .eq 8, 3, (0, 0, 0, 0), []), (85, .bipush 20, 2, (0, 0, 0, 0), []), (87, .iload_n 1, 1, (0, 0, 0, 0), []), (88, .iadd, 1, (0, 0, 0, 0), []), (89, .ireturn, 1, (0, 0, 0, 0), []), (90, .iinc 1 1, 3, (0, 0, 0, 0), []), (93, .goto (-22), 3, (0, 0, 0, 0), [])]
def mc_X0_nextStep_3 : List ax_EN := [(96, .iconst (-1), 1, (0, 0, 0, 0), []), (97, .ireturn, 1, (0, 0, 0, 0), [])]
def mt_X0_nextStep : ax_MI := (RX0, yX0_nextStep, cX0_nextStep, 2, (some .int), 0, 0, 0, [mc_X0_nextStep_0, mc_X0_nextStep_1, mc_X0_nextStep_2, mc_X0_nextStep_3])
def mc_X0_leastOwed_0 : List ax_EN := [(0, .iconst 0, 1, (0, 0, 0, 0), []), (1, .istore_n 1, 1, (0, 0, 0, 0), []), (2, .iload_n 1, 1, (0, 0, 0, 0), []), (3, .bipush 7, 2, (0, 0, 0, 0), []), (5, .if_icmp .ge 20, 3, (0, 0, 0, 0), []), (8, .aload_n 0, 1, (0, 0, 0, 0), []), (9, .getfield 15, 3, (0, 0, 1, 0), [287]), (12, .iload_n 1, 1, (0, 0, 0, 0), []), (13, .iaload, 1, (0, 0, 0, 0), []), (14, .ifCond .le 5, 3, (0, 0, 0, 0), []), (17, .iload_n 1, 1, (0, 0, 0, 0), []), (18, .ireturn, 1, (0, 0, 0, 0), []), (19, .iinc 1 1, 3, (0, 0, 0, 0), []), (22, .goto (-20), 3, (0, 0, 0, 0), []), (25, .bipush 7, 2, (0, 0, 0, 0), []), (27, .ireturn, 1, (0, 0, 0, 0), [])]
def mt_X0_leastOwed : ax_MI := (RX0, yX0_leastOwed, cX0_leastOwed, 2, (some .int), 0, 0, 0, [mc_X0_leastOwed_0])
def mc_X0_carryOut_0 : List ax_EN := [(0, .iload_n 1, 1, (0, 0, 0, 0), []), (1, .bipush 20, 2, (0, 0, 0, 0), []), (3, .if_icmp .lt 12, 3, (0, 0, 0, 0), []), (6, .aload_n 0, 1, (0, 0, 0, 0), []), (7, .iload_n 1, 1, (0, 0, 0, 0), []), (8, .bipush 20, 2, (0, 0, 0, 0), []), (10, .isub, 1, (0, 0, 0, 0), []), (11, .invokevirtual 67, 3, (3, 8, 0, 0), [829, 38, 860]), (14, .ireturn, 1, (0, 0, 0, 0), []), (15, .iload_n 1, 1, (0, 0, 0, 0), []), (16, .bipush 10, 2, (0, 0, 0, 0), []), (18, .if_icmp .lt 12, 3, (0, 0, 0, 0), []), (21, .aload_n 0, 1, (0, 0, 0, 0), []), (22, .iload_n 1, 1, (0, 0, 0, 0), []), (23, .bipush 10, 2, (0, 0, 0, 0), []), (25, .isub, 1, (0, 0, 0, 0), []), (26, .invokevirtual 70, 3, (3, 9, 0, 0), [837, 39, 861]), (29, .ireturn, 1, (0, 0, 0, 0), []), (30, .aload_n 0, 1, (0, 0, 0, 0), []), (31, .getfield 11, 3, (0, 0, 0, 0), [285])]
def mc_X0_carryOut_1 : List ax_EN := [(34, .iload_n 1, 1, (0, 0, 0, 0), []), (35, .iconst 0, 1, (0, 0, 0, 0), []), (36, .isub, 1, (0, 0, 0, 0), []), (37, .dup2, 1, (0, 0, 0, 0), []), (38, .iaload, 1, (0, 0, 0, 0), []), (39, .iconst 1, 1, (0, 0, 0, 0), []), (40, .isub, 1, (0, 0, 0, 0), []), (41, .iastore, 1, (0, 0, 0, 0), []), (42, .aload_n 0, 1, (0, 0, 0, 0), []), (43, .getfield 15, 3, (0, 0, 1, 0), [287]), (46, .iload_n 1, 1, (0, 0, 0, 0), []), (47, .iconst 0, 1, (0, 0, 0, 0), []), (48, .isub, 1, (0, 0, 0, 0), []), (49, .dup2, 1, (0, 0, 0, 0), []), (50, .iaload, 1, (0, 0, 0, 0), []), (51, .iconst 1, 1, (0, 0, 0, 0), []), (52, .isub, 1, (0, 0, 0, 0), []), (53, .iastore, 1, (0, 0, 0, 0), []), (54, .iconst 1, 1, (0, 0, 0, 0), []), (55, .ireturn, 1, (0, 0, 0, 0), [])]
def mt_X0_carryOut : ax_MI := (RX0, yX0_carryOut, cX0_carryOut, 2, (some .boolean), 1, 0, 0, [mc_X0_carryOut_0, mc_X0_carryOut_1])
def mc_X0_canBeLifted_0 : List ax_EN := [(0, .aload_n 0, 1, (0, 0, 0, 0), []), (1, .invokevirtual 73, 3, (3, 4, 0, 0), [815, 36, 883]), (4, .istore_n 1, 1, (0, 0, 0, 0), []), (5, .aload_n 0, 1, (0, 0, 0, 0), []), (6, .invokevirtual 61, 3, (3, 12, 0, 0), [853, 42, 851]), (9, .bipush 7, 2, (0, 0, 0, 0), []), (11, .if_icmp .ne 18, 3, (0, 0, 0, 0), []), (14, .iload_n 1, 1, (0, 0, 0, 0), []), (15, .iconst 1, 1, (0, 0, 0, 0), []), (16, .if_icmp .lt 13, 3, (0, 0, 0, 0), []), (19, .iload_n 1, 1, (0, 0, 0, 0), []), (20, .bipush 24, 2, (0, 0, 0, 0), []), (22, .if_icmp .gt 7, 3, (0, 0, 0, 0), []), (25, .iconst 1, 1, (0, 0, 0, 0), []), (26, .goto 4, 3, (0, 0, 0, 0), []), (29, .iconst 0, 1, (0, 0, 0, 0), []), (30, .ireturn, 1, (0, 0, 0, 0), [])]
def mt_X0_canBeLifted : ax_MI := (RX0, yX0_canBeLifted, cX0_canBeLifted, 2, (some .boolean), 0, 0, 0, [mc_X0_canBeLifted_0])
def mc_X0_copyGiven_0 : List ax_EN := [(0, .aload_n 1, 1, (0, 0, 0, 0), []), (1, .iconst 0, 1, (0, 0, 0, 0), []), (2, .putfield 31, 3, (1, 5, 1, 0), [212]), (5, .bipush 6, 2, (0, 0, 0, 0), []), (7, .istore_n 2, 1, (0, 0, 0, 0), []), (8, .iload_n 2, 1, (0, 0, 0, 0), []), (9, .ifCond .lt 20, 3, (0, 0, 0, 0), []), (12, .aload_n 1, 1, (0, 0, 0, 0), []), (13, .iload_n 2, 1, (0, 0, 0, 0), []), (14, .aload_n 0, 1, (0, 0, 0, 0), []), (15, .getfield 11, 3, (0, 0, 0, 0), [285]), (18, .iload_n 2, 1, (0, 0, 0, 0), []), (19, .iaload, 1, (0, 0, 0, 0), []), (20, .invokevirtual 76, 3, (4, 58, 5, 0), [675, 13, 888]), (23, .iinc 2 (-1), 3, (0, 0, 0, 0), []), (26, .goto (-18), 3, (0, 0, 0, 0), []), (29, .return_, 1, (0, 0, 0, 0), [])]
def mt_X0_copyGiven : ax_MI := (RX0, yX0_copyGiven, cX0_copyGiven, 3, none, 1, 0, 0, [mc_X0_copyGiven_0])
def mc_X0_digestOn_0 : List ax_EN := [(0, .iconst 0, 1, (0, 0, 0, 0), []), (1, .istore_n 3, 1, (0, 0, 0, 0), []), (2, .iload_n 3, 1, (0, 0, 0, 0), []), (3, .bipush 7, 2, (0, 0, 0, 0), []), (5, .if_icmp .ge 31, 3, (0, 0, 0, 0), []), (8, .lload_n 1, 1, (0, 0, 0, 0), []), (9, .aload_n 0, 1, (0, 0, 0, 0), []), (10, .getfield 11, 3, (0, 0, 0, 0), [285]), (13, .iload_n 3, 1, (0, 0, 0, 0), []), (14, .iaload, 1, (0, 0, 0, 0), []), (15, .i2l, 1, (0, 0, 0, 0), []), (16, .invokestatic 80, 3, (4, 139, 0, 0), [1083, 1100]), (19, .aload_n 0, 1, (0, 0, 0, 0), []), (20, .getfield 15, 3, (0, 0, 1, 0), [287]), (23, .iload_n 3, 1, (0, 0, 0, 0), []), (24, .iaload, 1, (0, 0, 0, 0), []), (25, .i2l, 1, (0, 0, 0, 0), []), (26, .invokestatic 80, 3, (4, 139, 0, 0), [1083, 1100]), (29, .lstore_n 1, 1, (0, 0, 0, 0), []), (30, .iinc 3 1, 3, (0, 0, 0, 0), [])]
def mc_X0_digestOn_1 : List ax_EN := [(33, .goto (-31), 3, (0, 0, 0, 0), []), (36, .lload_n 1, 1, (0, 0, 0, 0), []), (37, .lreturn, 1, (0, 0, 0, 0), [])]
def mt_X0_digestOn : ax_MI := (RX0, yX0_digestOn, cX0_digestOn, 4, (some .long), 1, 0, 0, [mc_X0_digestOn_0, mc_X0_digestOn_1])
def mc_X1_init_0 : List ax_EN := [(0, .aload_n 0, 1, (0, 0, 0, 0), []), (1, .invokespecial 3, 3, (8, 0, 0, 0), [229, 140, 141]), (4, .aload_n 0, 1, (0, 0, 0, 0), []), (5, .bipush 14, 2, (0, 0, 0, 0), []), (7, .newarray .int, 2, (5, 0, 0, 0), [160]), (9, .putfield 9, 3, (0, 1, 0, 0), [230]), (12, .aload_n 0, 1, (0, 0, 0, 0), []), (13, .bipush 14, 2, (0, 0, 0, 0), []), (15, .newarray .int, 2, (5, 0, 0, 0), [160]), (17, .putfield 15, 3, (0, 1, 1, 0), [234]), (20, .aload_n 0, 1, (0, 0, 0, 0), []), (21, .bipush 14, 2, (0, 0, 0, 0), []), (23, .newarray .int, 2, (5, 0, 0, 0), [160]), (25, .putfield 18, 3, (0, 1, 2, 0), [237]), (28, .return_, 1, (0, 0, 0, 0), [])]
def mt_X1_init : ax_MI := (RX1, yX1_init, cX1_init, 1, none, 0, 3, 42, [mc_X1_init_0])
def mc_X1_allows_0 : List ax_EN := [(0, .bipush 14, 2, (0, 0, 0, 0), []), (2, .istore_n 2, 1, (0, 0, 0, 0), []), (3, .iconst 0, 1, (0, 0, 0, 0), []), (4, .istore_n 3, 1, (0, 0, 0, 0), []), (5, .iload_n 3, 1, (0, 0, 0, 0), []), (6, .aload_n 1, 1, (0, 0, 0, 0), []), (7, .getfield 21, 3, (1, 5, 1, 0), [213]), (10, .if_icmp .ge 28, 3, (0, 0, 0, 0), []), (13, .aload_n 0, 1, (0, 0, 0, 0), []), (14, .iload_n 2, 1, (0, 0, 0, 0), []), (15, .aload_n 1, 1, (0, 0, 0, 0), []), (16, .getfield 27, 3, (1, 5, 0, 0), [207]), (19, .iload_n 3, 1, (0, 0, 0, 0), []), (20, .iaload, 1, (0, 0, 0, 0), []), (21, .invokevirtual 30, 3, (3, 20, 1, 0), [611, 3, 609]), (24, .istore_n 2, 1, (0, 0, 0, 0), []), (25, .iload_n 2, 1, (0, 0, 0, 0), []), (26, .iconst (-1), 1, (0, 0, 0, 0), []), (27, .if_icmp .ne 5, 3, (0, 0, 0, 0), []), (30, .iconst 0, 1, (0, 0, 0, 0), []), (31, .ireturn, 1, (0, 0, 0, 0), [])]
def mc_X1_allows_1 : List ax_EN := [(32, .iinc 3 1, 3, (0, 0, 0, 0), []), (35, .goto (-30), 3, (0, 0, 0, 0), []), (38, .aload_n 0, 1, (0, 0, 0, 0), []), (39, .iload_n 2, 1, (0, 0, 0, 0), []), (40, .invokevirtual 34, 3, (3, 21, 1, 0), [647, 9, 645]), (43, .ireturn, 1, (0, 0, 0, 0), [])]
def mt_X1_allows : ax_MI := (RX1, yX1_allows, cX1_allows, 4, (some .boolean), 1, 0, 0, [mc_X1_allows_0, mc_X1_allows_1])
def mc_X1_goodSigns_0 : List ax_EN := [(0, .bipush 14, 2, (0, 0, 0, 0), []), (2, .istore_n 2, 1, (0, 0, 0, 0), []), (3, .iconst 0, 1, (0, 0, 0, 0), []), (4, .istore_n 3, 1, (0, 0, 0, 0), []), (5, .iload_n 3, 1, (0, 0, 0, 0), []), (6, .aload_n 1, 1, (0, 0, 0, 0), []), (7, .getfield 21, 3, (1, 5, 1, 0), [213]), (10, .if_icmp .ge 28, 3, (0, 0, 0, 0), []), (13, .aload_n 0, 1, (0, 0, 0, 0), []), (14, .iload_n 2, 1, (0, 0, 0, 0), []), (15, .aload_n 1, 1, (0, 0, 0, 0), []), (16, .getfield 27, 3, (1, 5, 0, 0), [207]), (19, .iload_n 3, 1, (0, 0, 0, 0), []), (20, .iaload, 1, (0, 0, 0, 0), []), (21, .invokevirtual 30, 3, (3, 20, 1, 0), [611, 3, 609]), (24, .istore_n 2, 1, (0, 0, 0, 0), []), (25, .iload_n 2, 1, (0, 0, 0, 0), []), (26, .iconst (-1), 1, (0, 0, 0, 0), []), (27, .if_icmp .ne 5, 3, (0, 0, 0, 0), []), (30, .iload_n 3, 1, (0, 0, 0, 0), []), (31, .ireturn, 1, (0, 0, 0, 0), [])]
def mc_X1_goodSigns_1 : List ax_EN := [(32, .iinc 3 1, 3, (0, 0, 0, 0), []), (35, .goto (-30), 3, (0, 0, 0, 0), []), (38, .aload_n 1, 1, (0, 0, 0, 0), []), (39, .getfield 21, 3, (1, 5, 1, 0), [213]), (42, .ireturn, 1, (0, 0, 0, 0), [])]
def mt_X1_goodSigns : ax_MI := (RX1, yX1_goodSigns, cX1_goodSigns, 4, (some .int), 1, 0, 0, [mc_X1_goodSigns_0, mc_X1_goodSigns_1])
def mc_X1_after_0 : List ax_EN := [(0, .iload_n 1, 1, (0, 0, 0, 0), []), (1, .invokestatic 38, 3, (3, 30, 0, 0), [614, 613]), (4, .istore_n 3, 1, (0, 0, 0, 0), []), (5, .iload_n 3, 1, (0, 0, 0, 0), []), (6, .ifCond .ne 11, 3, (0, 0, 0, 0), []), (9, .aload_n 0, 1, (0, 0, 0, 0), []), (10, .iload_n 1, 1, (0, 0, 0, 0), []), (11, .iload_n 2, 1, (0, 0, 0, 0), []), (12, .iconst 1, 1, (0, 0, 0, 0), []), (13, .invokevirtual 42, 3, (3, 22, 1, 0), [618, 4, 616]), (16, .ireturn, 1, (0, 0, 0, 0), []), (17, .iload_n 1, 1, (0, 0, 0, 0), []), (18, .invokestatic 46, 3, (3, 29, 0, 0), [627, 626]), (21, .istore 4, 2, (0, 0, 0, 0), []), (23, .iload_n 2, 1, (0, 0, 0, 0), []), (24, .iload 4, 2, (0, 0, 0, 0), []), (26, .if_icmp .le 10, 3, (0, 0, 0, 0), []), (29, .aload_n 0, 1, (0, 0, 0, 0), []), (30, .iload_n 1, 1, (0, 0, 0, 0), []), (31, .iload_n 2, 1, (0, 0, 0, 0), [])]
def mc_X1_after_1 : List ax_EN := [(32, .invokevirtual 49, 3, (3, 24, 1, 0), [631, 5, 629]), (35, .ireturn, 1, (0, 0, 0, 0), []), (36, .iload_n 2, 1, (0, 0, 0, 0), []), (37, .iload 4, 2, (0, 0, 0, 0), []), (39, .if_icmp .ne 16, 3, (0, 0, 0, 0), []), (42, .iload_n 3, 1, (0, 0, 0, 0), []), (43, .iconst 1, 1, (0, 0, 0, 0), []), (44, .if_icmp .ne 11, 3, (0, 0, 0, 0), []), (47, .aload_n 0, 1, (0, 0, 0, 0), []), (48, .iload_n 1, 1, (0, 0, 0, 0), []), (49, .iload_n 2, 1, (0, 0, 0, 0), []), (50, .iconst 2, 1, (0, 0, 0, 0), []), (51, .invokevirtual 42, 3, (3, 22, 1, 0), [618, 4, 616]), (54, .ireturn, 1, (0, 0, 0, 0), []), (55, .iload_n 2, 1, (0, 0, 0, 0), []), (56, .iload 4, 2, (0, 0, 0, 0), []), (58, .if_icmp .ne 10, 3, (0, 0, 0, 0), []), (61, .aload_n 0, 1, (0, 0, 0, 0), []), (62, .iload_n 1, 1, (0, 0, 0, 0), []), (63, .iconst 3, 1, (0, 0, 0, 0), [])]
def mc_X1_after_2 : List ax_EN := [(64, .invokevirtual 52, 3, (3, 23, 1, 0), [643, 8, 641]), (67, .ireturn, 1, (0, 0, 0, 0), []), (68, .aload_n 0, 1, (0, 0, 0, 0), []), (69, .iload_n 1, 1, (0, 0, 0, 0), []), (70, .iload_n 3, 1, (0, 0, 0, 0), []), (71, .invokevirtual 52, 3, (3, 23, 1, 0), [643, 8, 641]), (74, .istore 5, 2, (0, 0, 0, 0), []), (76, .iload 5, 2, (0, 0, 0, 0), []), (78, .iconst (-1), 1, (0, 0, 0, 0), []), (79, .if_icmp .ne 7, 3, (0, 0, 0, 0), []), (82, .iconst (-1), 1, (0, 0, 0, 0), []), (83, .goto 11, 3, (0, 0, 0, 0), []), (86, .aload_n 0, 1, (0, 0, 0, 0), []), (87, .iload 5, 2, (0, 0, 0, 0), []), (89, .iload_n 2, 1, (0, 0, 0, 0), []), (90, .iconst 1, 1, (0, 0, 0, 0), []), (91, .invokevirtual 42, 3, (3, 22, 1, 0), [618, 4, 616]), (94, .ireturn, 1, (0, 0, 0, 0), [])]
def mt_X1_after : ax_MI := (RX1, yX1_after, cX1_after, 6, (some .int), 2, 0, 0, [mc_X1_after_0, mc_X1_after_1, mc_X1_after_2])
def mc_X1_isWhole_0 : List ax_EN := [(0, .iload_n 1, 1, (0, 0, 0, 0), []), (1, .invokestatic 38, 3, (3, 30, 0, 0), [614, 613]), (4, .istore_n 2, 1, (0, 0, 0, 0), []), (5, .iload_n 1, 1, (0, 0, 0, 0), []), (6, .invokestatic 46, 3, (3, 29, 0, 0), [627, 626]), (9, .istore_n 3, 1, (0, 0, 0, 0), []), (10, .iload_n 2, 1, (0, 0, 0, 0), []), (11, .ifCond .eq 19, 3, (0, 0, 0, 0), []), (14, .iload_n 1, 1, (0, 0, 0, 0), []), (15, .iload_n 3, 1, (0, 0, 0, 0), []), (16, .invokestatic 55, 3, (3, 27, 0, 0), [624, 623]), (19, .iload_n 2, 1, (0, 0, 0, 0), []), (20, .iadd, 1, (0, 0, 0, 0), []), (21, .aload_n 0, 1, (0, 0, 0, 0), []), (22, .getfield 9, 3, (0, 1, 0, 0), [230]), (25, .iload_n 3, 1, (0, 0, 0, 0), []), (26, .iaload, 1, (0, 0, 0, 0), []), (27, .if_icmp .gt 7, 3, (0, 0, 0, 0), []), (30, .iconst 1, 1, (0, 0, 0, 0), []), (31, .goto 4, 3, (0, 0, 0, 0), [])]
def mc_X1_isWhole_1 : List ax_EN := [(34, .iconst 0, 1, (0, 0, 0, 0), []), (35, .ireturn, 1, (0, 0, 0, 0), [])]
def mt_X1_isWhole : ax_MI := (RX1, yX1_isWhole, cX1_isWhole, 4, (some .boolean), 1, 0, 0, [mc_X1_isWhole_0, mc_X1_isWhole_1])
def mc_X1_leaveOpen_0 : List ax_EN := [(0, .iload_n 1, 1, (0, 0, 0, 0), []), (1, .invokestatic 58, 3, (3, 28, 0, 0), [621, 620]), (4, .istore 4, 2, (0, 0, 0, 0), []), (6, .iload_n 2, 1, (0, 0, 0, 0), []), (7, .iload 4, 2, (0, 0, 0, 0), []), (9, .if_icmp .lt 5, 3, (0, 0, 0, 0), []), (12, .iconst (-1), 1, (0, 0, 0, 0), []), (13, .ireturn, 1, (0, 0, 0, 0), []), (14, .iload_n 3, 1, (0, 0, 0, 0), []), (15, .iconst 1, 1, (0, 0, 0, 0), []), (16, .if_icmp .ne 19, 3, (0, 0, 0, 0), []), (19, .aload_n 0, 1, (0, 0, 0, 0), []), (20, .getfield 15, 3, (0, 1, 1, 0), [234]), (23, .iload_n 2, 1, (0, 0, 0, 0), []), (24, .iaload, 1, (0, 0, 0, 0), []), (25, .aload_n 0, 1, (0, 0, 0, 0), []), (26, .getfield 18, 3, (0, 1, 2, 0), [237]), (29, .iload_n 2, 1, (0, 0, 0, 0), []), (30, .iaload, 1, (0, 0, 0, 0), []), (31, .ior, 1, (0, 0, 0, 0), [])]
def mc_X1_leaveOpen_1 : List ax_EN := [(32, .goto 9, 3, (0, 0, 0, 0), []), (35, .aload_n 0, 1, (0, 0, 0, 0), []), (36, .getfield 18, 3, (0, 1, 2, 0), [237]), (39, .iload_n 2, 1, (0, 0, 0, 0), []), (40, .iaload, 1, (0, 0, 0, 0), []), (41, .istore 5, 2, (0, 0, 0, 0), []), (43, .iload 5, 2, (0, 0, 0, 0), []), (45, .iconst 1, 1, (0, 0, 0, 0), []), (46, .iload 4, 2, (0, 0, 0, 0), []), (48, .ishl, 1, (0, 0, 0, 0), []), (49, .iconst 1, 1, (0, 0, 0, 0), []), (50, .isub, 1, (0, 0, 0, 0), []), (51, .iand, 1, (0, 0, 0, 0), []), (52, .ifCond .eq 7, 3, (0, 0, 0, 0), []), (55, .iconst 1, 1, (0, 0, 0, 0), []), (56, .goto 4, 3, (0, 0, 0, 0), []), (59, .iconst 0, 1, (0, 0, 0, 0), []), (60, .istore 6, 2, (0, 0, 0, 0), []), (62, .iload_n 1, 1, (0, 0, 0, 0), []), (63, .iload_n 2, 1, (0, 0, 0, 0), [])]
def mc_X1_leaveOpen_2 : List ax_EN := [(64, .invokestatic 55, 3, (3, 27, 0, 0), [624, 623]), (67, .iload_n 3, 1, (0, 0, 0, 0), []), (68, .iadd, 1, (0, 0, 0, 0), []), (69, .aload_n 0, 1, (0, 0, 0, 0), []), (70, .getfield 9, 3, (0, 1, 0, 0), [230]), (73, .iload_n 2, 1, (0, 0, 0, 0), []), (74, .iaload, 1, (0, 0, 0, 0), []), (75, .if_icmp .gt 7, 3, (0, 0, 0, 0), []), (78, .iconst 1, 1, (0, 0, 0, 0), []), (79, .goto 4, 3, (0, 0, 0, 0), []), (82, .iconst 0, 1, (0, 0, 0, 0), []), (83, .istore 7, 2, (0, 0, 0, 0), []), (85, .iload 6, 2, (0, 0, 0, 0), []), (87, .ifCond .ne 10, 3, (0, 0, 0, 0), []), (90, .iload 7, 2, (0, 0, 0, 0), []), (92, .ifCond .ne 5, 3, (0, 0, 0, 0), []), (95, .iconst (-1), 1, (0, 0, 0, 0), [])]
def mc_X1_leaveOpen_3 : List ax_EN := [(96, .ireturn, 1, (0, 0, 0, 0), []), (97, .iload_n 1, 1, (0, 0, 0, 0), []), (98, .sipush 255, 3, (0, 0, 0, 0), []), (101, .iand, 1, (0, 0, 0, 0), []), (102, .istore 8, 2, (0, 0, 0, 0), []), (104, .iload 8, 2, (0, 0, 0, 0), []), (106, .iload_n 2, 1, (0, 0, 0, 0), []), (107, .bipush 8, 2, (0, 0, 0, 0), []), (109, .ishl, 1, (0, 0, 0, 0), []), (110, .ior, 1, (0, 0, 0, 0), []), (111, .iload_n 3, 1, (0, 0, 0, 0), []), (112, .bipush 12, 2, (0, 0, 0, 0), []), (114, .ishl, 1, (0, 0, 0, 0), []), (115, .ior, 1, (0, 0, 0, 0), []), (116, .ireturn, 1, (0, 0, 0, 0), [])]
def mt_X1_leaveOpen : ax_MI := (RX1, yX1_leaveOpen, cX1_leaveOpen, 9, (some .int), 3, 0, 0, [mc_X1_leaveOpen_0, mc_X1_leaveOpen_1, mc_X1_leaveOpen_2, mc_X1_leaveOpen_3])
def mc_X1_closePlain_0 : List ax_EN := [(0, .iload_n 1, 1, (0, 0, 0, 0), []), (1, .invokestatic 46, 3, (3, 29, 0, 0), [627, 626]), (4, .istore_n 3, 1, (0, 0, 0, 0), []), (5, .iload_n 1, 1, (0, 0, 0, 0), []), (6, .iload_n 3, 1, (0, 0, 0, 0), []), (7, .invokestatic 55, 3, (3, 27, 0, 0), [624, 623]), (10, .iload_n 2, 1, (0, 0, 0, 0), []), (11, .iadd, 1, (0, 0, 0, 0), []), (12, .istore 4, 2, (0, 0, 0, 0), []), (14, .iload 4, 2, (0, 0, 0, 0), []), (16, .aload_n 0, 1, (0, 0, 0, 0), []), (17, .getfield 9, 3, (0, 1, 0, 0), [230]), (20, .iload_n 3, 1, (0, 0, 0, 0), []), (21, .iaload, 1, (0, 0, 0, 0), []), (22, .if_icmp .gt 14, 3, (0, 0, 0, 0), []), (25, .iload_n 3, 1, (0, 0, 0, 0), []), (26, .iconst 1, 1, (0, 0, 0, 0), []), (27, .iadd, 1, (0, 0, 0, 0), []), (28, .iload 4, 2, (0, 0, 0, 0), []), (30, .iconst 4, 1, (0, 0, 0, 0), []), (31, .ishl, 1, (0, 0, 0, 0), [])]
def mc_X1_closePlain_1 : List ax_EN := [(32, .ior, 1, (0, 0, 0, 0), []), (33, .goto 4, 3, (0, 0, 0, 0), []), (36, .iconst (-1), 1, (0, 0, 0, 0), []), (37, .ireturn, 1, (0, 0, 0, 0), [])]
def mt_X1_closePlain : ax_MI := (RX1, yX1_closePlain, cX1_closePlain, 5, (some .int), 2, 0, 0, [mc_X1_closePlain_0, mc_X1_closePlain_1])
def mc_X1_closeTaking_0 : List ax_EN := [(0, .iload_n 1, 1, (0, 0, 0, 0), []), (1, .invokestatic 46, 3, (3, 29, 0, 0), [627, 626]), (4, .istore_n 3, 1, (0, 0, 0, 0), []), (5, .iload_n 1, 1, (0, 0, 0, 0), []), (6, .invokestatic 38, 3, (3, 30, 0, 0), [614, 613]), (9, .iconst 1, 1, (0, 0, 0, 0), []), (10, .if_icmp .ne 12, 3, (0, 0, 0, 0), []), (13, .aload_n 0, 1, (0, 0, 0, 0), []), (14, .iload_n 3, 1, (0, 0, 0, 0), []), (15, .iload_n 2, 1, (0, 0, 0, 0), []), (16, .invokevirtual 61, 3, (3, 25, 1, 0), [635, 6, 633]), (19, .goto 9, 3, (0, 0, 0, 0), []), (22, .aload_n 0, 1, (0, 0, 0, 0), []), (23, .iload_n 3, 1, (0, 0, 0, 0), []), (24, .iload_n 2, 1, (0, 0, 0, 0), []), (25, .invokevirtual 65, 3, (3, 26, 1, 0), [639, 7, 637]), (28, .istore 4, 2, (0, 0, 0, 0), []), (30, .iload 4, 2, (0, 0, 0, 0), [])]
def mc_X1_closeTaking_1 : List ax_EN := [(32, .ifCond .eq 15, 3, (0, 0, 0, 0), []), (35, .iload_n 2, 1, (0, 0, 0, 0), []), (36, .iload_n 1, 1, (0, 0, 0, 0), []), (37, .invokestatic 58, 3, (3, 28, 0, 0), [621, 620]), (40, .if_icmp .ge 7, 3, (0, 0, 0, 0), []), (43, .iload_n 3, 1, (0, 0, 0, 0), []), (44, .goto 4, 3, (0, 0, 0, 0), []), (47, .iconst (-1), 1, (0, 0, 0, 0), []), (48, .ireturn, 1, (0, 0, 0, 0), [])]
def mt_X1_closeTaking : ax_MI := (RX1, yX1_closeTaking, cX1_closeTaking, 5, (some .int), 2, 0, 0, [mc_X1_closeTaking_0, mc_X1_closeTaking_1])
def mc_X1_mayTakeOnce_0 : List ax_EN := [(0, .aload_n 0, 1, (0, 0, 0, 0), []), (1, .getfield 15, 3, (0, 1, 1, 0), [234]), (4, .iload_n 1, 1, (0, 0, 0, 0), []), (5, .iaload, 1, (0, 0, 0, 0), []), (6, .iload_n 2, 1, (0, 0, 0, 0), []), (7, .ishr, 1, (0, 0, 0, 0), []), (8, .iconst 1, 1, (0, 0, 0, 0), []), (9, .iand, 1, (0, 0, 0, 0), []), (10, .iconst 1, 1, (0, 0, 0, 0), []), (11, .if_icmp .ne 7, 3, (0, 0, 0, 0), []), (14, .iconst 1, 1, (0, 0, 0, 0), []), (15, .goto 4, 3, (0, 0, 0, 0), []), (18, .iconst 0, 1, (0, 0, 0, 0), []), (19, .ireturn, 1, (0, 0, 0, 0), [])]
def mt_X1_mayTakeOnce : ax_MI := (RX1, yX1_mayTakeOnce, cX1_mayTakeOnce, 3, (some .boolean), 2, 0, 0, [mc_X1_mayTakeOnce_0])
def mc_X1_mayTakeTwice_0 : List ax_EN := [(0, .aload_n 0, 1, (0, 0, 0, 0), []), (1, .getfield 18, 3, (0, 1, 2, 0), [237]), (4, .iload_n 1, 1, (0, 0, 0, 0), []), (5, .iaload, 1, (0, 0, 0, 0), []), (6, .iload_n 2, 1, (0, 0, 0, 0), []), (7, .ishr, 1, (0, 0, 0, 0), []), (8, .iconst 1, 1, (0, 0, 0, 0), []), (9, .iand, 1, (0, 0, 0, 0), []), (10, .iconst 1, 1, (0, 0, 0, 0), []), (11, .if_icmp .ne 7, 3, (0, 0, 0, 0), []), (14, .iconst 1, 1, (0, 0, 0, 0), []), (15, .goto 4, 3, (0, 0, 0, 0), []), (18, .iconst 0, 1, (0, 0, 0, 0), []), (19, .ireturn, 1, (0, 0, 0, 0), [])]
def mt_X1_mayTakeTwice : ax_MI := (RX1, yX1_mayTakeTwice, cX1_mayTakeTwice, 3, (some .boolean), 2, 0, 0, [mc_X1_mayTakeTwice_0])
def mc_X1_standingOf_0 : List ax_EN := [(0, .iload_n 1, 1, (0, 0, 0, 0), []), (1, .iconst 1, 1, (0, 0, 0, 0), []), (2, .iadd, 1, (0, 0, 0, 0), []), (3, .iload_n 0, 1, (0, 0, 0, 0), []), (4, .bipush 15, 2, (0, 0, 0, 0), []), (6, .iand, 1, (0, 0, 0, 0), []), (7, .if_icmp .ne 7, 3, (0, 0, 0, 0), []), (10, .iconst 1, 1, (0, 0, 0, 0), []), (11, .goto 4, 3, (0, 0, 0, 0), []), (14, .iconst 0, 1, (0, 0, 0, 0), []), (15, .istore_n 2, 1, (0, 0, 0, 0), []), (16, .iload_n 2, 1, (0, 0, 0, 0), []), (17, .ifCond .eq 12, 3, (0, 0, 0, 0), []), (20, .iload_n 0, 1, (0, 0, 0, 0), []), (21, .iconst 4, 1, (0, 0, 0, 0), []), (22, .ishr, 1, (0, 0, 0, 0), []), (23, .bipush 15, 2, (0, 0, 0, 0), []), (25, .iand, 1, (0, 0, 0, 0), []), (26, .goto 4, 3, (0, 0, 0, 0), []), (29, .iconst 0, 1, (0, 0, 0, 0), []), (30, .ireturn, 1, (0, 0, 0, 0), [])]
def mt_X1_standingOf : ax_MI := (RX1, yX1_standingOf, cX1_standingOf, 3, (some .int), 2, 0, 0, [mc_X1_standingOf_0])
def mc_X1_belowIn_0 : List ax_EN := [(0, .iload_n 0, 1, (0, 0, 0, 0), []), (1, .bipush 15, 2, (0, 0, 0, 0), []), (3, .iand, 1, (0, 0, 0, 0), []), (4, .ireturn, 1, (0, 0, 0, 0), [])]
def mt_X1_belowIn : ax_MI := (RX1, yX1_belowIn, cX1_belowIn, 1, (some .int), 1, 0, 0, [mc_X1_belowIn_0])
def mc_X1_signIn_0 : List ax_EN := [(0, .iload_n 0, 1, (0, 0, 0, 0), []), (1, .bipush 8, 2, (0, 0, 0, 0), []), (3, .ishr, 1, (0, 0, 0, 0), []), (4, .bipush 15, 2, (0, 0, 0, 0), []), (6, .iand, 1, (0, 0, 0, 0), []), (7, .ireturn, 1, (0, 0, 0, 0), [])]
def mt_X1_signIn : ax_MI := (RX1, yX1_signIn, cX1_signIn, 1, (some .int), 1, 0, 0, [mc_X1_signIn_0])
def mc_X1_openIn_0 : List ax_EN := [(0, .iload_n 0, 1, (0, 0, 0, 0), []), (1, .bipush 12, 2, (0, 0, 0, 0), []), (3, .ishr, 1, (0, 0, 0, 0), []), (4, .ireturn, 1, (0, 0, 0, 0), [])]
def mt_X1_openIn : ax_MI := (RX1, yX1_openIn, cX1_openIn, 1, (some .int), 1, 0, 0, [mc_X1_openIn_0])
def mc_X1_digestOn_0 : List ax_EN := [(0, .iconst 0, 1, (0, 0, 0, 0), []), (1, .istore_n 3, 1, (0, 0, 0, 0), []), (2, .iload_n 3, 1, (0, 0, 0, 0), []), (3, .bipush 14, 2, (0, 0, 0, 0), []), (5, .if_icmp .ge 41, 3, (0, 0, 0, 0), []), (8, .lload_n 1, 1, (0, 0, 0, 0), []), (9, .aload_n 0, 1, (0, 0, 0, 0), []), (10, .getfield 9, 3, (0, 1, 0, 0), [230]), (13, .iload_n 3, 1, (0, 0, 0, 0), []), (14, .iaload, 1, (0, 0, 0, 0), []), (15, .i2l, 1, (0, 0, 0, 0), []), (16, .invokestatic 68, 3, (4, 139, 0, 0), [1083, 1090]), (19, .aload_n 0, 1, (0, 0, 0, 0), []), (20, .getfield 15, 3, (0, 1, 1, 0), [234]), (23, .iload_n 3, 1, (0, 0, 0, 0), []), (24, .iaload, 1, (0, 0, 0, 0), []), (25, .i2l, 1, (0, 0, 0, 0), []), (26, .invokestatic 68, 3, (4, 139, 0, 0), [1083, 1090]), (29, .aload_n 0, 1, (0, 0, 0, 0), []), (30, .getfield 18, 3, (0, 1, 2, 0), [237])]
def mc_X1_digestOn_1 : List ax_EN := [(33, .iload_n 3, 1, (0, 0, 0, 0), []), (34, .iaload, 1, (0, 0, 0, 0), []), (35, .i2l, 1, (0, 0, 0, 0), []), (36, .invokestatic 68, 3, (4, 139, 0, 0), [1083, 1090]), (39, .lstore_n 1, 1, (0, 0, 0, 0), []), (40, .iinc 3 1, 3, (0, 0, 0, 0), []), (43, .goto (-41), 3, (0, 0, 0, 0), []), (46, .lload_n 1, 1, (0, 0, 0, 0), []), (47, .lreturn, 1, (0, 0, 0, 0), [])]
def mt_X1_digestOn : ax_MI := (RX1, yX1_digestOn, cX1_digestOn, 4, (some .long), 1, 0, 0, [mc_X1_digestOn_0, mc_X1_digestOn_1])
def mc_X2_init_0 : List ax_EN := [(0, .aload_n 0, 1, (0, 0, 0, 0), []), (1, .invokespecial 3, 3, (8, 0, 0, 0), [355, 140, 141]), (4, .aload_n 0, 1, (0, 0, 0, 0), []), (5, .bipush 20, 2, (0, 0, 0, 0), []), (7, .anewarray 11, 3, (5, 2, 0, 0), [356]), (10, .putfield 13, 3, (0, 2, 0, 0), [358]), (13, .aload_n 0, 1, (0, 0, 0, 0), []), (14, .bipush 20, 2, (0, 0, 0, 0), []), (16, .anewarray 11, 3, (5, 2, 0, 0), [356]), (19, .putfield 17, 3, (0, 2, 1, 0), [359]), (22, .aload_n 0, 1, (0, 0, 0, 0), []), (23, .bipush 20, 2, (0, 0, 0, 0), []), (25, .newarray .int, 2, (5, 0, 0, 0), [160]), (27, .putfield 20, 3, (0, 2, 2, 0), [360]), (30, .aload_n 0, 1, (0, 0, 0, 0), []), (31, .bipush 20, 2, (0, 0, 0, 0), [])]
def mc_X2_init_1 : List ax_EN := [(33, .newarray .int, 2, (5, 0, 0, 0), [160]), (35, .putfield 24, 3, (0, 2, 3, 0), [361]), (38, .aload_n 0, 1, (0, 0, 0, 0), []), (39, .iconst 0, 1, (0, 0, 0, 0), []), (40, .putfield 27, 3, (0, 2, 4, 0), [362]), (43, .aload_n 0, 1, (0, 0, 0, 0), []), (44, .new 11, 3, (5, 5, 2, 0), [356, 200, 121]), (47, .dup, 1, (0, 0, 0, 0), []), (48, .invokespecial 31, 3, (4, 56, 0, 0), [202, 357]), (51, .putfield 32, 3, (0, 2, 5, 0), [364]), (54, .aload_n 0, 1, (0, 0, 0, 0), []), (55, .iconst 0, 1, (0, 0, 0, 0), []), (56, .putfield 36, 3, (0, 2, 6, 0), [365]), (59, .aload_n 0, 1, (0, 0, 0, 0), []), (60, .iconst 0, 1, (0, 0, 0, 0), []), (61, .putfield 40, 3, (0, 2, 7, 0), [366])]
def mc_X2_init_2 : List ax_EN := [(64, .aload_n 0, 1, (0, 0, 0, 0), []), (65, .iconst (-1), 1, (0, 0, 0, 0), []), (66, .putfield 43, 3, (0, 2, 8, 0), [367]), (69, .aload_n 0, 1, (0, 0, 0, 0), []), (70, .iconst (-1), 1, (0, 0, 0, 0), []), (71, .putfield 46, 3, (0, 2, 9, 0), [369]), (74, .aload_n 0, 1, (0, 0, 0, 0), []), (75, .iconst (-1), 1, (0, 0, 0, 0), []), (76, .putfield 49, 3, (0, 2, 10, 0), [371]), (79, .aload_n 0, 1, (0, 0, 0, 0), []), (80, .iconst (-1), 1, (0, 0, 0, 0), []), (81, .putfield 52, 3, (0, 2, 11, 0), [373]), (84, .iconst 0, 1, (0, 0, 0, 0), []), (85, .istore_n 1, 1, (0, 0, 0, 0), []), (86, .iload_n 1, 1, (0, 0, 0, 0), []), (87, .bipush 20, 2, (0, 0, 0, 0), []), (89, .if_icmp .ge 35, 3, (0, 0, 0, 0), []), (92, .aload_n 0, 1, (0, 0, 0, 0), []), (93, .getfield 13, 3, (0, 2, 0, 0), [358])]
def mc_X2_init_3 : List ax_EN := [(96, .iload_n 1, 1, (0, 0, 0, 0), []), (97, .new 11, 3, (5, 5, 2, 0), [356, 200, 121]), (100, .dup, 1, (0, 0, 0, 0), []), (101, .invokespecial 31, 3, (4, 56, 0, 0), [202, 357]), (104, .aastore, 1, (0, 0, 0, 0), []), (105, .aload_n 0, 1, (0, 0, 0, 0), []), (106, .getfield 17, 3, (0, 2, 1, 0), [359]), (109, .iload_n 1, 1, (0, 0, 0, 0), []), (110, .new 11, 3, (5, 5, 2, 0), [356, 200, 121]), (113, .dup, 1, (0, 0, 0, 0), []), (114, .invokespecial 31, 3, (4, 56, 0, 0), [202, 357]), (117, .aastore, 1, (0, 0, 0, 0), []), (118, .iinc 1 1, 3, (0, 0, 0, 0), []), (121, .goto (-35), 3, (0, 0, 0, 0), []), (124, .return_, 1, (0, 0, 0, 0), [])]
def mt_X2_init : ax_MI := (RX2, yX2_init, cX2_init, 2, none, 0, 86, 1146, [mc_X2_init_0, mc_X2_init_1, mc_X2_init_2, mc_X2_init_3])
def mc_X2_append_0 : List ax_EN := [(0, .aload_n 0, 1, (0, 0, 0, 0), []), (1, .getfield 27, 3, (0, 2, 4, 0), [362]), (4, .bipush 20, 2, (0, 0, 0, 0), []), (6, .if_icmp .lt 4, 3, (0, 0, 0, 0), []), (9, .return_, 1, (0, 0, 0, 0), []), (10, .aload_n 0, 1, (0, 0, 0, 0), []), (11, .getfield 13, 3, (0, 2, 0, 0), [358]), (14, .aload_n 0, 1, (0, 0, 0, 0), []), (15, .getfield 27, 3, (0, 2, 4, 0), [362]), (18, .aaload, 1, (0, 0, 0, 0), []), (19, .aload_n 1, 1, (0, 0, 0, 0), []), (20, .invokevirtual 55, 3, (4, 57, 5, 0), [791, 33, 1006]), (23, .aload_n 0, 1, (0, 0, 0, 0), []), (24, .getfield 17, 3, (0, 2, 1, 0), [359]), (27, .aload_n 0, 1, (0, 0, 0, 0), []), (28, .getfield 27, 3, (0, 2, 4, 0), [362]), (31, .aaload, 1, (0, 0, 0, 0), [])]
def mc_X2_append_1 : List ax_EN := [(32, .aload_n 2, 1, (0, 0, 0, 0), []), (33, .invokevirtual 55, 3, (4, 57, 5, 0), [791, 33, 1006]), (36, .aload_n 0, 1, (0, 0, 0, 0), []), (37, .getfield 20, 3, (0, 2, 2, 0), [360]), (40, .aload_n 0, 1, (0, 0, 0, 0), []), (41, .getfield 27, 3, (0, 2, 4, 0), [362]), (44, .aload_n 1, 1, (0, 0, 0, 0), []), (45, .invokevirtual 59, 3, (4, 60, 5, 0), [687, 14, 1007]), (48, .iastore, 1, (0, 0, 0, 0), []), (49, .aload_n 0, 1, (0, 0, 0, 0), []), (50, .getfield 24, 3, (0, 2, 3, 0), [361]), (53, .aload_n 0, 1, (0, 0, 0, 0), []), (54, .getfield 27, 3, (0, 2, 4, 0), [362]), (57, .aload_n 2, 1, (0, 0, 0, 0), []), (58, .invokevirtual 59, 3, (4, 60, 5, 0), [687, 14, 1007]), (61, .iastore, 1, (0, 0, 0, 0), []), (62, .aload_n 0, 1, (0, 0, 0, 0), []), (63, .dup, 1, (0, 0, 0, 0), [])]
def mc_X2_append_2 : List ax_EN := [(64, .getfield 27, 3, (0, 2, 4, 0), [362]), (67, .iconst 1, 1, (0, 0, 0, 0), []), (68, .iadd, 1, (0, 0, 0, 0), []), (69, .putfield 27, 3, (0, 2, 4, 0), [362]), (72, .aload_n 0, 1, (0, 0, 0, 0), []), (73, .iconst 0, 1, (0, 0, 0, 0), []), (74, .putfield 36, 3, (0, 2, 6, 0), [365]), (77, .return_, 1, (0, 0, 0, 0), [])]
def mt_X2_append : ax_MI := (RX2, yX2_append, cX2_append, 3, none, 2, 0, 0, [mc_X2_append_0, mc_X2_append_1, mc_X2_append_2])
def mc_X2_clear_0 : List ax_EN := [(0, .aload_n 0, 1, (0, 0, 0, 0), []), (1, .iconst 0, 1, (0, 0, 0, 0), []), (2, .putfield 27, 3, (0, 2, 4, 0), [362]), (5, .aload_n 0, 1, (0, 0, 0, 0), []), (6, .iconst 0, 1, (0, 0, 0, 0), []), (7, .putfield 36, 3, (0, 2, 6, 0), [365]), (10, .return_, 1, (0, 0, 0, 0), [])]
def mt_X2_clear : ax_MI := (RX2, yX2_clear, cX2_clear, 1, none, 0, 0, 0, [mc_X2_clear_0])
def mc_X2_totalAhead_0 : List ax_EN := [(0, .iload_n 1, 1, (0, 0, 0, 0), []), (1, .ifCond .ne 7, 3, (0, 0, 0, 0), []), (4, .iconst 0, 1, (0, 0, 0, 0), []), (5, .goto 11, 3, (0, 0, 0, 0), []), (8, .aload_n 0, 1, (0, 0, 0, 0), []), (9, .getfield 24, 3, (0, 2, 3, 0), [361]), (12, .iload_n 1, 1, (0, 0, 0, 0), []), (13, .iconst 1, 1, (0, 0, 0, 0), []), (14, .isub, 1, (0, 0, 0, 0), []), (15, .iaload, 1, (0, 0, 0, 0), []), (16, .ireturn, 1, (0, 0, 0, 0), [])]
def mt_X2_totalAhead : ax_MI := (RX2, yX2_totalAhead, cX2_totalAhead, 2, (some .int), 1, 0, 0, [mc_X2_totalAhead_0])
def mc_X2_firstWrong_0 : List ax_EN := [(0, .iconst 0, 1, (0, 0, 0, 0), []), (1, .istore_n 1, 1, (0, 0, 0, 0), []), (2, .iload_n 1, 1, (0, 0, 0, 0), []), (3, .aload_n 0, 1, (0, 0, 0, 0), []), (4, .getfield 27, 3, (0, 2, 4, 0), [362]), (7, .if_icmp .ge 32, 3, (0, 0, 0, 0), []), (10, .aload_n 0, 1, (0, 0, 0, 0), []), (11, .getfield 24, 3, (0, 2, 3, 0), [361]), (14, .iload_n 1, 1, (0, 0, 0, 0), []), (15, .iaload, 1, (0, 0, 0, 0), []), (16, .aload_n 0, 1, (0, 0, 0, 0), []), (17, .iload_n 1, 1, (0, 0, 0, 0), []), (18, .invokevirtual 63, 3, (3, 35, 2, 0), [1026, 60, 1024]), (21, .aload_n 0, 1, (0, 0, 0, 0), []), (22, .getfield 20, 3, (0, 2, 2, 0), [360]), (25, .iload_n 1, 1, (0, 0, 0, 0), []), (26, .iaload, 1, (0, 0, 0, 0), []), (27, .iadd, 1, (0, 0, 0, 0), []), (28, .if_icmp .eq 5, 3, (0, 0, 0, 0), []), (31, .iload_n 1, 1, (0, 0, 0, 0), [])]
def mc_X2_firstWrong_1 : List ax_EN := [(32, .ireturn, 1, (0, 0, 0, 0), []), (33, .iinc 1 1, 3, (0, 0, 0, 0), []), (36, .goto (-34), 3, (0, 0, 0, 0), []), (39, .iconst (-1), 1, (0, 0, 0, 0), []), (40, .ireturn, 1, (0, 0, 0, 0), [])]
def mt_X2_firstWrong : ax_MI := (RX2, yX2_firstWrong, cX2_firstWrong, 2, (some .int), 0, 0, 0, [mc_X2_firstWrong_0, mc_X2_firstWrong_1])
def mc_X2_firstMended_0 : List ax_EN := [(0, .aload_n 0, 1, (0, 0, 0, 0), []), (1, .invokevirtual 67, 3, (3, 36, 2, 0), [1022, 59, 1036]), (4, .istore_n 1, 1, (0, 0, 0, 0), []), (5, .iconst 0, 1, (0, 0, 0, 0), []), (6, .istore_n 2, 1, (0, 0, 0, 0), []), (7, .iconst 0, 1, (0, 0, 0, 0), []), (8, .istore_n 3, 1, (0, 0, 0, 0), []), (9, .iload_n 3, 1, (0, 0, 0, 0), []), (10, .aload_n 0, 1, (0, 0, 0, 0), []), (11, .getfield 27, 3, (0, 2, 4, 0), [362]), (14, .if_icmp .ge 40, 3, (0, 0, 0, 0), []), (17, .iload_n 2, 1, (0, 0, 0, 0), []), (18, .aload_n 0, 1, (0, 0, 0, 0), []), (19, .getfield 20, 3, (0, 2, 2, 0), [360]), (22, .iload_n 3, 1, (0, 0, 0, 0), []), (23, .iaload, 1, (0, 0, 0, 0), []), (24, .iadd, 1, (0, 0, 0, 0), []), (25, .istore_n 2, 1, (0, 0, 0, 0), []), (26, .iload_n 1, 1, (0, 0, 0, 0), []), (27, .iconst (-1), 1, (0, 0, 0, 0), []), (28, .if_icmp .eq 20, 3, (0, 0, 0, 0), []), (31, .iload_n 3, 1, (0, 0, 0, 0), [])]
def mc_X2_firstMended_1 : List ax_EN := [(32, .iload_n 1, 1, (0, 0, 0, 0), []), (33, .if_icmp .le 15, 3, (0, 0, 0, 0), []), (36, .aload_n 0, 1, (0, 0, 0, 0), []), (37, .getfield 24, 3, (0, 2, 3, 0), [361]), (40, .iload_n 3, 1, (0, 0, 0, 0), []), (41, .iaload, 1, (0, 0, 0, 0), []), (42, .iload_n 2, 1, (0, 0, 0, 0), []), (43, .if_icmp .ne 5, 3, (0, 0, 0, 0), []), (46, .iload_n 3, 1, (0, 0, 0, 0), []), (47, .ireturn, 1, (0, 0, 0, 0), []), (48, .iinc 3 1, 3, (0, 0, 0, 0), []), (51, .goto (-42), 3, (0, 0, 0, 0), []), (54, .iconst (-1), 1, (0, 0, 0, 0), []), (55, .ireturn, 1, (0, 0, 0, 0), [])]
def mt_X2_firstMended : ax_MI := (RX2, yX2_firstMended, cX2_firstMended, 4, (some .int), 0, 0, 0, [mc_X2_firstMended_0, mc_X2_firstMended_1])
def mc_X2_findSlip_0 : List ax_EN := [(0, .aload_n 0, 1, (0, 0, 0, 0), []), (1, .getfield 36, 3, (0, 2, 6, 0), [365]), (4, .ifCond .ne 79, 3, (0, 0, 0, 0), []), (7, .aload_n 0, 1, (0, 0, 0, 0), []), (8, .iconst 1, 1, (0, 0, 0, 0), []), (9, .putfield 36, 3, (0, 2, 6, 0), [365]), (12, .aload_n 0, 1, (0, 0, 0, 0), []), (13, .invokevirtual 67, 3, (3, 36, 2, 0), [1022, 59, 1036]), (16, .istore_n 1, 1, (0, 0, 0, 0), []), (17, .aload_n 0, 1, (0, 0, 0, 0), []), (18, .iload_n 1, 1, (0, 0, 0, 0), []), (19, .iconst (-1), 1, (0, 0, 0, 0), []), (20, .if_icmp .eq 59, 3, (0, 0, 0, 0), []), (23, .aload_n 0, 1, (0, 0, 0, 0), []), (24, .iconst 0, 1, (0, 0, 0, 0), []), (25, .aload_n 0, 1, (0, 0, 0, 0), []), (26, .getfield 13, 3, (0, 2, 0, 0), [358]), (29, .iload_n 1, 1, (0, 0, 0, 0), []), (30, .aaload, 1, (0, 0, 0, 0), []), (31, .aload_n 0, 1, (0, 0, 0, 0), [])]
def mc_X2_findSlip_1 : List ax_EN := [(32, .getfield 24, 3, (0, 2, 3, 0), [361]), (35, .iload_n 1, 1, (0, 0, 0, 0), []), (36, .iaload, 1, (0, 0, 0, 0), []), (37, .aload_n 0, 1, (0, 0, 0, 0), []), (38, .iload_n 1, 1, (0, 0, 0, 0), []), (39, .invokevirtual 63, 3, (3, 35, 2, 0), [1026, 60, 1024]), (42, .isub, 1, (0, 0, 0, 0), []), (43, .invokevirtual 70, 3, (3, 39, 2, 0), [1047, 63, 1045]), (46, .ifCond .ne 29, 3, (0, 0, 0, 0), []), (49, .aload_n 0, 1, (0, 0, 0, 0), []), (50, .iconst 1, 1, (0, 0, 0, 0), []), (51, .aload_n 0, 1, (0, 0, 0, 0), []), (52, .getfield 17, 3, (0, 2, 1, 0), [359]), (55, .iload_n 1, 1, (0, 0, 0, 0), []), (56, .aaload, 1, (0, 0, 0, 0), []), (57, .aload_n 0, 1, (0, 0, 0, 0), []), (58, .iload_n 1, 1, (0, 0, 0, 0), []), (59, .invokevirtual 63, 3, (3, 35, 2, 0), [1026, 60, 1024]), (62, .aload_n 0, 1, (0, 0, 0, 0), []), (63, .getfield 20, 3, (0, 2, 2, 0), [360])]
def mc_X2_findSlip_2 : List ax_EN := [(66, .iload_n 1, 1, (0, 0, 0, 0), []), (67, .iaload, 1, (0, 0, 0, 0), []), (68, .iadd, 1, (0, 0, 0, 0), []), (69, .invokevirtual 70, 3, (3, 39, 2, 0), [1047, 63, 1045]), (72, .ifCond .eq 7, 3, (0, 0, 0, 0), []), (75, .iconst 1, 1, (0, 0, 0, 0), []), (76, .goto 4, 3, (0, 0, 0, 0), []), (79, .iconst 0, 1, (0, 0, 0, 0), []), (80, .putfield 40, 3, (0, 2, 7, 0), [366]), (83, .aload_n 0, 1, (0, 0, 0, 0), []), (84, .getfield 40, 3, (0, 2, 7, 0), [366]), (87, .ireturn, 1, (0, 0, 0, 0), [])]
def mt_X2_findSlip : ax_MI := (RX2, yX2_findSlip, cX2_findSlip, 2, (some .boolean), 0, 0, 0, [mc_X2_findSlip_0, mc_X2_findSlip_1, mc_X2_findSlip_2])
def mc_X2_canBecome_0 : List ax_EN := [(0, .aload_n 0, 1, (0, 0, 0, 0), []), (1, .iload_n 1, 1, (0, 0, 0, 0), []), (2, .putfield 43, 3, (0, 2, 8, 0), [367]), (5, .aload_n 0, 1, (0, 0, 0, 0), []), (6, .aload_n 2, 1, (0, 0, 0, 0), []), (7, .iload_n 3, 1, (0, 0, 0, 0), []), (8, .invokevirtual 74, 3, (3, 40, 2, 0), [1051, 64, 1049]), (11, .ifCond .ne 21, 3, (0, 0, 0, 0), []), (14, .aload_n 0, 1, (0, 0, 0, 0), []), (15, .aload_n 2, 1, (0, 0, 0, 0), []), (16, .iload_n 3, 1, (0, 0, 0, 0), []), (17, .invokevirtual 78, 3, (3, 41, 2, 0), [1063, 67, 1061]), (20, .ifCond .ne 12, 3, (0, 0, 0, 0), []), (23, .aload_n 0, 1, (0, 0, 0, 0), []), (24, .aload_n 2, 1, (0, 0, 0, 0), []), (25, .iload_n 3, 1, (0, 0, 0, 0), []), (26, .invokevirtual 81, 3, (3, 42, 2, 0), [1067, 68, 1065]), (29, .ifCond .eq 7, 3, (0, 0, 0, 0), [])]
def mc_X2_canBecome_1 : List ax_EN := [(32, .iconst 1, 1, (0, 0, 0, 0), []), (33, .goto 4, 3, (0, 0, 0, 0), []), (36, .iconst 0, 1, (0, 0, 0, 0), []), (37, .ireturn, 1, (0, 0, 0, 0), [])]
def mt_X2_canBecome : ax_MI := (RX2, yX2_canBecome, cX2_canBecome, 4, (some .boolean), 3, 0, 0, [mc_X2_canBecome_0, mc_X2_canBecome_1])
def mc_X2_withOneMore_0 : List ax_EN := [(0, .aload_n 1, 1, (0, 0, 0, 0), []), (1, .getfield 84, 3, (1, 5, 1, 0), [218]), (4, .bipush 24, 2, (0, 0, 0, 0), []), (6, .if_icmp .lt 5, 3, (0, 0, 0, 0), []), (9, .iconst 0, 1, (0, 0, 0, 0), []), (10, .ireturn, 1, (0, 0, 0, 0), []), (11, .aload_n 0, 1, (0, 0, 0, 0), []), (12, .getfield 32, 3, (0, 2, 5, 0), [364]), (15, .aload_n 1, 1, (0, 0, 0, 0), []), (16, .getfield 84, 3, (1, 5, 1, 0), [218]), (19, .iconst 1, 1, (0, 0, 0, 0), []), (20, .iadd, 1, (0, 0, 0, 0), []), (21, .putfield 84, 3, (1, 5, 1, 0), [218]), (24, .iconst 0, 1, (0, 0, 0, 0), []), (25, .istore_n 3, 1, (0, 0, 0, 0), []), (26, .iload_n 3, 1, (0, 0, 0, 0), []), (27, .aload_n 1, 1, (0, 0, 0, 0), []), (28, .getfield 84, 3, (1, 5, 1, 0), [218]), (31, .if_icmp .ge 26, 3, (0, 0, 0, 0), [])]
def mc_X2_withOneMore_1 : List ax_EN := [(34, .aload_n 0, 1, (0, 0, 0, 0), []), (35, .getfield 32, 3, (0, 2, 5, 0), [364]), (38, .getfield 87, 3, (1, 5, 0, 0), [210]), (41, .iload_n 3, 1, (0, 0, 0, 0), []), (42, .iconst 1, 1, (0, 0, 0, 0), []), (43, .iadd, 1, (0, 0, 0, 0), []), (44, .aload_n 1, 1, (0, 0, 0, 0), []), (45, .getfield 87, 3, (1, 5, 0, 0), [210]), (48, .iload_n 3, 1, (0, 0, 0, 0), []), (49, .iaload, 1, (0, 0, 0, 0), []), (50, .iastore, 1, (0, 0, 0, 0), []), (51, .iinc 3 1, 3, (0, 0, 0, 0), []), (54, .goto (-28), 3, (0, 0, 0, 0), []), (57, .iconst 0, 1, (0, 0, 0, 0), []), (58, .istore_n 3, 1, (0, 0, 0, 0), []), (59, .iload_n 3, 1, (0, 0, 0, 0), []), (60, .aload_n 1, 1, (0, 0, 0, 0), []), (61, .getfield 84, 3, (1, 5, 1, 0), [218])]
def mc_X2_withOneMore_2 : List ax_EN := [(64, .if_icmp .gt 58, 3, (0, 0, 0, 0), []), (67, .aload_n 0, 1, (0, 0, 0, 0), []), (68, .iload_n 3, 1, (0, 0, 0, 0), []), (69, .iconst (-1), 1, (0, 0, 0, 0), []), (70, .iload_n 2, 1, (0, 0, 0, 0), []), (71, .invokevirtual 90, 3, (3, 43, 2, 0), [1055, 65, 1053]), (74, .ifCond .eq 19, 3, (0, 0, 0, 0), []), (77, .aload_n 0, 1, (0, 0, 0, 0), []), (78, .iconst 0, 1, (0, 0, 0, 0), []), (79, .iload_n 3, 1, (0, 0, 0, 0), []), (80, .aload_n 0, 1, (0, 0, 0, 0), []), (81, .getfield 32, 3, (0, 2, 5, 0), [364]), (84, .getfield 87, 3, (1, 5, 0, 0), [210]), (87, .iload_n 3, 1, (0, 0, 0, 0), []), (88, .iaload, 1, (0, 0, 0, 0), []), (89, .invokevirtual 94, 3, (3, 44, 2, 0), [1059, 66, 1057]), (92, .ireturn, 1, (0, 0, 0, 0), []), (93, .iload_n 3, 1, (0, 0, 0, 0), []), (94, .aload_n 1, 1, (0, 0, 0, 0), []), (95, .getfield 84, 3, (1, 5, 1, 0), [218])]
def mc_X2_withOneMore_3 : List ax_EN := [(98, .if_icmp .ge 18, 3, (0, 0, 0, 0), []), (101, .aload_n 0, 1, (0, 0, 0, 0), []), (102, .getfield 32, 3, (0, 2, 5, 0), [364]), (105, .getfield 87, 3, (1, 5, 0, 0), [210]), (108, .iload_n 3, 1, (0, 0, 0, 0), []), (109, .aload_n 1, 1, (0, 0, 0, 0), []), (110, .getfield 87, 3, (1, 5, 0, 0), [210]), (113, .iload_n 3, 1, (0, 0, 0, 0), []), (114, .iaload, 1, (0, 0, 0, 0), []), (115, .iastore, 1, (0, 0, 0, 0), []), (116, .iinc 3 1, 3, (0, 0, 0, 0), []), (119, .goto (-60), 3, (0, 0, 0, 0), []), (122, .iconst 0, 1, (0, 0, 0, 0), []), (123, .ireturn, 1, (0, 0, 0, 0), [])]
def mt_X2_withOneMore : ax_MI := (RX2, yX2_withOneMore, cX2_withOneMore, 4, (some .boolean), 2, 0, 0, [mc_X2_withOneMore_0, mc_X2_withOneMore_1, mc_X2_withOneMore_2, mc_X2_withOneMore_3])
def mc_X2_withOneLess_0 : List ax_EN := [(0, .aload_n 1, 1, (0, 0, 0, 0), []), (1, .getfield 84, 3, (1, 5, 1, 0), [218]), (4, .iconst 2, 1, (0, 0, 0, 0), []), (5, .if_icmp .ge 5, 3, (0, 0, 0, 0), []), (8, .iconst 0, 1, (0, 0, 0, 0), []), (9, .ireturn, 1, (0, 0, 0, 0), []), (10, .aload_n 0, 1, (0, 0, 0, 0), []), (11, .getfield 32, 3, (0, 2, 5, 0), [364]), (14, .aload_n 1, 1, (0, 0, 0, 0), []), (15, .getfield 84, 3, (1, 5, 1, 0), [218]), (18, .iconst 1, 1, (0, 0, 0, 0), []), (19, .isub, 1, (0, 0, 0, 0), []), (20, .putfield 84, 3, (1, 5, 1, 0), [218]), (23, .iconst 1, 1, (0, 0, 0, 0), []), (24, .istore_n 3, 1, (0, 0, 0, 0), []), (25, .iload_n 3, 1, (0, 0, 0, 0), []), (26, .aload_n 1, 1, (0, 0, 0, 0), []), (27, .getfield 84, 3, (1, 5, 1, 0), [218]), (30, .if_icmp .ge 26, 3, (0, 0, 0, 0), [])]
def mc_X2_withOneLess_1 : List ax_EN := [(33, .aload_n 0, 1, (0, 0, 0, 0), []), (34, .getfield 32, 3, (0, 2, 5, 0), [364]), (37, .getfield 87, 3, (1, 5, 0, 0), [210]), (40, .iload_n 3, 1, (0, 0, 0, 0), []), (41, .iconst 1, 1, (0, 0, 0, 0), []), (42, .isub, 1, (0, 0, 0, 0), []), (43, .aload_n 1, 1, (0, 0, 0, 0), []), (44, .getfield 87, 3, (1, 5, 0, 0), [210]), (47, .iload_n 3, 1, (0, 0, 0, 0), []), (48, .iaload, 1, (0, 0, 0, 0), []), (49, .iastore, 1, (0, 0, 0, 0), []), (50, .iinc 3 1, 3, (0, 0, 0, 0), []), (53, .goto (-28), 3, (0, 0, 0, 0), []), (56, .iconst 0, 1, (0, 0, 0, 0), []), (57, .istore_n 3, 1, (0, 0, 0, 0), []), (58, .iload_n 3, 1, (0, 0, 0, 0), []), (59, .aload_n 1, 1, (0, 0, 0, 0), []), (60, .getfield 84, 3, (1, 5, 1, 0), [218]), (63, .if_icmp .ge 43, 3, (0, 0, 0, 0), [])]
def mc_X2_withOneLess_2 : List ax_EN := [(66, .aload_n 0, 1, (0, 0, 0, 0), []), (67, .getfield 32, 3, (0, 2, 5, 0), [364]), (70, .invokevirtual 59, 3, (4, 60, 5, 0), [687, 14, 1007]), (73, .iload_n 2, 1, (0, 0, 0, 0), []), (74, .if_icmp .ne 11, 3, (0, 0, 0, 0), []), (77, .aload_n 0, 1, (0, 0, 0, 0), []), (78, .iconst 1, 1, (0, 0, 0, 0), []), (79, .iload_n 3, 1, (0, 0, 0, 0), []), (80, .iconst (-1), 1, (0, 0, 0, 0), []), (81, .invokevirtual 94, 3, (3, 44, 2, 0), [1059, 66, 1057]), (84, .ireturn, 1, (0, 0, 0, 0), []), (85, .aload_n 0, 1, (0, 0, 0, 0), []), (86, .getfield 32, 3, (0, 2, 5, 0), [364]), (89, .getfield 87, 3, (1, 5, 0, 0), [210]), (92, .iload_n 3, 1, (0, 0, 0, 0), []), (93, .aload_n 1, 1, (0, 0, 0, 0), []), (94, .getfield 87, 3, (1, 5, 0, 0), [210])]
def mc_X2_withOneLess_3 : List ax_EN := [(97, .iload_n 3, 1, (0, 0, 0, 0), []), (98, .iaload, 1, (0, 0, 0, 0), []), (99, .iastore, 1, (0, 0, 0, 0), []), (100, .iinc 3 1, 3, (0, 0, 0, 0), []), (103, .goto (-45), 3, (0, 0, 0, 0), []), (106, .iconst 0, 1, (0, 0, 0, 0), []), (107, .ireturn, 1, (0, 0, 0, 0), [])]
def mt_X2_withOneLess : ax_MI := (RX2, yX2_withOneLess, cX2_withOneLess, 4, (some .boolean), 2, 0, 0, [mc_X2_withOneLess_0, mc_X2_withOneLess_1, mc_X2_withOneLess_2, mc_X2_withOneLess_3])
def mc_X2_withOneOther_0 : List ax_EN := [(0, .aload_n 0, 1, (0, 0, 0, 0), []), (1, .getfield 32, 3, (0, 2, 5, 0), [364]), (4, .aload_n 1, 1, (0, 0, 0, 0), []), (5, .invokevirtual 55, 3, (4, 57, 5, 0), [791, 33, 1006]), (8, .iconst 0, 1, (0, 0, 0, 0), []), (9, .istore_n 3, 1, (0, 0, 0, 0), []), (10, .iload_n 3, 1, (0, 0, 0, 0), []), (11, .aload_n 1, 1, (0, 0, 0, 0), []), (12, .getfield 84, 3, (1, 5, 1, 0), [218]), (15, .if_icmp .ge 55, 3, (0, 0, 0, 0), []), (18, .aload_n 0, 1, (0, 0, 0, 0), []), (19, .iload_n 3, 1, (0, 0, 0, 0), []), (20, .aload_n 1, 1, (0, 0, 0, 0), []), (21, .getfield 87, 3, (1, 5, 0, 0), [210]), (24, .iload_n 3, 1, (0, 0, 0, 0), []), (25, .iaload, 1, (0, 0, 0, 0), []), (26, .iload_n 2, 1, (0, 0, 0, 0), []), (27, .invokevirtual 90, 3, (3, 43, 2, 0), [1055, 65, 1053]), (30, .ifCond .eq 19, 3, (0, 0, 0, 0), [])]
def mc_X2_withOneOther_1 : List ax_EN := [(33, .aload_n 0, 1, (0, 0, 0, 0), []), (34, .iconst 2, 1, (0, 0, 0, 0), []), (35, .iload_n 3, 1, (0, 0, 0, 0), []), (36, .aload_n 0, 1, (0, 0, 0, 0), []), (37, .getfield 32, 3, (0, 2, 5, 0), [364]), (40, .getfield 87, 3, (1, 5, 0, 0), [210]), (43, .iload_n 3, 1, (0, 0, 0, 0), []), (44, .iaload, 1, (0, 0, 0, 0), []), (45, .invokevirtual 94, 3, (3, 44, 2, 0), [1059, 66, 1057]), (48, .ireturn, 1, (0, 0, 0, 0), []), (49, .aload_n 0, 1, (0, 0, 0, 0), []), (50, .getfield 32, 3, (0, 2, 5, 0), [364]), (53, .getfield 87, 3, (1, 5, 0, 0), [210]), (56, .iload_n 3, 1, (0, 0, 0, 0), []), (57, .aload_n 1, 1, (0, 0, 0, 0), []), (58, .getfield 87, 3, (1, 5, 0, 0), [210]), (61, .iload_n 3, 1, (0, 0, 0, 0), []), (62, .iaload, 1, (0, 0, 0, 0), []), (63, .iastore, 1, (0, 0, 0, 0), [])]
def mc_X2_withOneOther_2 : List ax_EN := [(64, .iinc 3 1, 3, (0, 0, 0, 0), []), (67, .goto (-57), 3, (0, 0, 0, 0), []), (70, .iconst 0, 1, (0, 0, 0, 0), []), (71, .ireturn, 1, (0, 0, 0, 0), [])]
def mt_X2_withOneOther : ax_MI := (RX2, yX2_withOneOther, cX2_withOneOther, 4, (some .boolean), 2, 0, 0, [mc_X2_withOneOther_0, mc_X2_withOneOther_1, mc_X2_withOneOther_2])
def mc_X2_anySignFits_0 : List ax_EN := [(0, .iconst 0, 1, (0, 0, 0, 0), []), (1, .istore 4, 2, (0, 0, 0, 0), []), (3, .iload 4, 2, (0, 0, 0, 0), []), (5, .bipush 14, 2, (0, 0, 0, 0), []), (7, .if_icmp .ge 39, 3, (0, 0, 0, 0), []), (10, .aload_n 0, 1, (0, 0, 0, 0), []), (11, .getfield 32, 3, (0, 2, 5, 0), [364]), (14, .getfield 87, 3, (1, 5, 0, 0), [210]), (17, .iload_n 1, 1, (0, 0, 0, 0), []), (18, .iload 4, 2, (0, 0, 0, 0), []), (20, .iastore, 1, (0, 0, 0, 0), []), (21, .iload 4, 2, (0, 0, 0, 0), []), (23, .iload_n 2, 1, (0, 0, 0, 0), []), (24, .if_icmp .eq 16, 3, (0, 0, 0, 0), []), (27, .aload_n 0, 1, (0, 0, 0, 0), []), (28, .getfield 32, 3, (0, 2, 5, 0), [364]), (31, .invokevirtual 59, 3, (4, 60, 5, 0), [687, 14, 1007])]
def mc_X2_anySignFits_1 : List ax_EN := [(34, .iload_n 3, 1, (0, 0, 0, 0), []), (35, .if_icmp .ne 5, 3, (0, 0, 0, 0), []), (38, .iconst 1, 1, (0, 0, 0, 0), []), (39, .ireturn, 1, (0, 0, 0, 0), []), (40, .iinc 4 1, 3, (0, 0, 0, 0), []), (43, .goto (-40), 3, (0, 0, 0, 0), []), (46, .iconst 0, 1, (0, 0, 0, 0), []), (47, .ireturn, 1, (0, 0, 0, 0), [])]
def mt_X2_anySignFits : ax_MI := (RX2, yX2_anySignFits, cX2_anySignFits, 5, (some .boolean), 3, 0, 0, [mc_X2_anySignFits_0, mc_X2_anySignFits_1])
def mc_X2_foundSlip_0 : List ax_EN := [(0, .aload_n 0, 1, (0, 0, 0, 0), []), (1, .iload_n 1, 1, (0, 0, 0, 0), []), (2, .putfield 46, 3, (0, 2, 9, 0), [369]), (5, .aload_n 0, 1, (0, 0, 0, 0), []), (6, .iload_n 2, 1, (0, 0, 0, 0), []), (7, .putfield 49, 3, (0, 2, 10, 0), [371]), (10, .aload_n 0, 1, (0, 0, 0, 0), []), (11, .iload_n 3, 1, (0, 0, 0, 0), []), (12, .putfield 52, 3, (0, 2, 11, 0), [373]), (15, .iconst 1, 1, (0, 0, 0, 0), []), (16, .ireturn, 1, (0, 0, 0, 0), [])]
def mt_X2_foundSlip : ax_MI := (RX2, yX2_foundSlip, cX2_foundSlip, 4, (some .boolean), 3, 0, 0, [mc_X2_foundSlip_0])
def mc_X2_digestOn_0 : List ax_EN := [(0, .iconst 0, 1, (0, 0, 0, 0), []), (1, .istore_n 3, 1, (0, 0, 0, 0), []), (2, .iload_n 3, 1, (0, 0, 0, 0), []), (3, .aload_n 0, 1, (0, 0, 0, 0), []), (4, .getfield 27, 3, (0, 2, 4, 0), [362]), (7, .if_icmp .ge 31, 3, (0, 0, 0, 0), []), (10, .lload_n 1, 1, (0, 0, 0, 0), []), (11, .aload_n 0, 1, (0, 0, 0, 0), []), (12, .getfield 20, 3, (0, 2, 2, 0), [360]), (15, .iload_n 3, 1, (0, 0, 0, 0), []), (16, .iaload, 1, (0, 0, 0, 0), []), (17, .i2l, 1, (0, 0, 0, 0), []), (18, .invokestatic 97, 3, (4, 139, 0, 0), [1083, 1111]), (21, .aload_n 0, 1, (0, 0, 0, 0), []), (22, .getfield 24, 3, (0, 2, 3, 0), [361]), (25, .iload_n 3, 1, (0, 0, 0, 0), []), (26, .iaload, 1, (0, 0, 0, 0), []), (27, .i2l, 1, (0, 0, 0, 0), []), (28, .invokestatic 97, 3, (4, 139, 0, 0), [1083, 1111]), (31, .lstore_n 1, 1, (0, 0, 0, 0), [])]
def mc_X2_digestOn_1 : List ax_EN := [(32, .iinc 3 1, 3, (0, 0, 0, 0), []), (35, .goto (-33), 3, (0, 0, 0, 0), []), (38, .lload_n 1, 1, (0, 0, 0, 0), []), (39, .lreturn, 1, (0, 0, 0, 0), [])]
def mt_X2_digestOn : ax_MI := (RX2, yX2_digestOn, cX2_digestOn, 4, (some .long), 1, 0, 0, [mc_X2_digestOn_0, mc_X2_digestOn_1])
def mc_X3_init_0 : List ax_EN := [(0, .aload_n 0, 1, (0, 0, 0, 0), []), (1, .invokespecial 1, 3, (8, 0, 0, 0), [406, 140, 141]), (4, .aload_n 0, 1, (0, 0, 0, 0), []), (5, .bipush 30, 2, (0, 0, 0, 0), []), (7, .anewarray 9, 3, (5, 2, 0, 0), [407]), (10, .putfield 11, 3, (0, 3, 0, 0), [409]), (13, .aload_n 0, 1, (0, 0, 0, 0), []), (14, .iconst 0, 1, (0, 0, 0, 0), []), (15, .putfield 15, 3, (0, 3, 1, 0), [410]), (18, .aload_n 0, 1, (0, 0, 0, 0), []), (19, .iconst 0, 1, (0, 0, 0, 0), []), (20, .putfield 19, 3, (0, 3, 2, 0), [412]), (23, .iconst 0, 1, (0, 0, 0, 0), []), (24, .istore_n 1, 1, (0, 0, 0, 0), []), (25, .iload_n 1, 1, (0, 0, 0, 0), []), (26, .bipush 30, 2, (0, 0, 0, 0), []), (28, .if_icmp .ge 22, 3, (0, 0, 0, 0), []), (31, .aload_n 0, 1, (0, 0, 0, 0), [])]
def mc_X3_init_1 : List ax_EN := [(32, .getfield 11, 3, (0, 3, 0, 0), [409]), (35, .iload_n 1, 1, (0, 0, 0, 0), []), (36, .new 9, 3, (5, 5, 2, 0), [407, 200, 121]), (39, .dup, 1, (0, 0, 0, 0), []), (40, .invokespecial 22, 3, (4, 56, 0, 0), [202, 408]), (43, .aastore, 1, (0, 0, 0, 0), []), (44, .iinc 1 1, 3, (0, 0, 0, 0), []), (47, .goto (-22), 3, (0, 0, 0, 0), []), (50, .return_, 1, (0, 0, 0, 0), [])]
def mt_X3_init : ax_MI := (RX3, yX3_init, cX3_init, 2, none, 0, 61, 810, [mc_X3_init_0, mc_X3_init_1])
def mc_X3_remember_0 : List ax_EN := [(0, .aload_n 0, 1, (0, 0, 0, 0), []), (1, .getfield 15, 3, (0, 3, 1, 0), [410]), (4, .bipush 30, 2, (0, 0, 0, 0), []), (6, .if_icmp .lt 4, 3, (0, 0, 0, 0), []), (9, .return_, 1, (0, 0, 0, 0), []), (10, .aload_n 0, 1, (0, 0, 0, 0), []), (11, .getfield 11, 3, (0, 3, 0, 0), [409]), (14, .aload_n 0, 1, (0, 0, 0, 0), []), (15, .getfield 15, 3, (0, 3, 1, 0), [410]), (18, .aaload, 1, (0, 0, 0, 0), []), (19, .aload_n 1, 1, (0, 0, 0, 0), []), (20, .invokevirtual 23, 3, (4, 57, 5, 0), [791, 33, 989]), (23, .aload_n 0, 1, (0, 0, 0, 0), []), (24, .dup, 1, (0, 0, 0, 0), []), (25, .getfield 15, 3, (0, 3, 1, 0), [410]), (28, .iconst 1, 1, (0, 0, 0, 0), []), (29, .iadd, 1, (0, 0, 0, 0), []), (30, .putfield 15, 3, (0, 3, 1, 0), [410])]
def mc_X3_remember_1 : List ax_EN := [(33, .aload_n 0, 1, (0, 0, 0, 0), []), (34, .dup, 1, (0, 0, 0, 0), []), (35, .getfield 19, 3, (0, 3, 2, 0), [412]), (38, .iload_n 2, 1, (0, 0, 0, 0), []), (39, .iand, 1, (0, 0, 0, 0), []), (40, .putfield 19, 3, (0, 3, 2, 0), [412]), (43, .return_, 1, (0, 0, 0, 0), [])]
def mt_X3_remember : ax_MI := (RX3, yX3_remember, cX3_remember, 3, none, 2, 0, 0, [mc_X3_remember_0, mc_X3_remember_1])
def mc_X3_meet_0 : List ax_EN := [(0, .iconst 0, 1, (0, 0, 0, 0), []), (1, .istore_n 3, 1, (0, 0, 0, 0), []), (2, .iload_n 3, 1, (0, 0, 0, 0), []), (3, .aload_n 0, 1, (0, 0, 0, 0), []), (4, .getfield 15, 3, (0, 3, 1, 0), [410]), (7, .if_icmp .ge 23, 3, (0, 0, 0, 0), []), (10, .aload_n 1, 1, (0, 0, 0, 0), []), (11, .aload_n 0, 1, (0, 0, 0, 0), []), (12, .getfield 11, 3, (0, 3, 0, 0), [409]), (15, .iload_n 3, 1, (0, 0, 0, 0), []), (16, .aaload, 1, (0, 0, 0, 0), []), (17, .invokevirtual 27, 3, (4, 18, 1, 0), [607, 2, 605]), (20, .ifCond .ne 4, 3, (0, 0, 0, 0), []), (23, .return_, 1, (0, 0, 0, 0), []), (24, .iinc 3 1, 3, (0, 0, 0, 0), []), (27, .goto (-25), 3, (0, 0, 0, 0), []), (30, .aload_n 0, 1, (0, 0, 0, 0), []), (31, .dup, 1, (0, 0, 0, 0), [])]
def mc_X3_meet_1 : List ax_EN := [(32, .getfield 19, 3, (0, 3, 2, 0), [412]), (35, .iconst 1, 1, (0, 0, 0, 0), []), (36, .iload_n 2, 1, (0, 0, 0, 0), []), (37, .ishl, 1, (0, 0, 0, 0), []), (38, .ior, 1, (0, 0, 0, 0), []), (39, .putfield 19, 3, (0, 3, 2, 0), [412]), (42, .return_, 1, (0, 0, 0, 0), [])]
def mt_X3_meet : ax_MI := (RX3, yX3_meet, cX3_meet, 4, none, 2, 0, 0, [mc_X3_meet_0, mc_X3_meet_1])
def mc_X4_init_0 : List ax_EN := [(0, .aload_n 0, 1, (0, 0, 0, 0), []), (1, .invokespecial 3, 3, (8, 0, 0, 0), [147, 140, 141]), (4, .aload_n 0, 1, (0, 0, 0, 0), []), (5, .bipush 80, 2, (0, 0, 0, 0), []), (7, .newarray .int, 2, (5, 0, 0, 0), [160]), (9, .putfield 11, 3, (0, 4, 0, 0), [148]), (12, .aload_n 0, 1, (0, 0, 0, 0), []), (13, .iconst 0, 1, (0, 0, 0, 0), []), (14, .putfield 15, 3, (0, 4, 1, 0), [151]), (17, .return_, 1, (0, 0, 0, 0), [])]
def mt_X4_init : ax_MI := (RX4, yX4_init, cX4_init, 1, none, 0, 1, 80, [mc_X4_init_0])
def mc_X4_codeAt_0 : List ax_EN := [(0, .lload_n 0, 1, (0, 0, 0, 0), []), (1, .bipush 8, 2, (0, 0, 0, 0), []), (3, .iload_n 2, 1, (0, 0, 0, 0), []), (4, .imul, 1, (0, 0, 0, 0), []), (5, .lushr, 1, (0, 0, 0, 0), []), (6, .l2i, 1, (0, 0, 0, 0), []), (7, .sipush 255, 3, (0, 0, 0, 0), []), (10, .iand, 1, (0, 0, 0, 0), []), (11, .ireturn, 1, (0, 0, 0, 0), [])]
def mt_X4_codeAt : ax_MI := (RX4, yX4_codeAt, cX4_codeAt, 3, (some .int), 2, 0, 0, [mc_X4_codeAt_0])
def mc_X4_lettersIn_0 : List ax_EN := [(0, .iconst 0, 1, (0, 0, 0, 0), []), (1, .istore_n 2, 1, (0, 0, 0, 0), []), (2, .iconst 0, 1, (0, 0, 0, 0), []), (3, .istore_n 3, 1, (0, 0, 0, 0), []), (4, .iload_n 3, 1, (0, 0, 0, 0), []), (5, .bipush 8, 2, (0, 0, 0, 0), []), (7, .if_icmp .ge 43, 3, (0, 0, 0, 0), []), (10, .lload_n 0, 1, (0, 0, 0, 0), []), (11, .iload_n 3, 1, (0, 0, 0, 0), []), (12, .invokestatic 19, 3, (3, 50, 0, 0), [463, 462]), (15, .istore 4, 2, (0, 0, 0, 0), []), (17, .iload 4, 2, (0, 0, 0, 0), []), (19, .bipush 126, 2, (0, 0, 0, 0), []), (21, .if_icmp .gt 13, 3, (0, 0, 0, 0), []), (24, .iload 4, 2, (0, 0, 0, 0), []), (26, .ifCond .eq 10, 3, (0, 0, 0, 0), []), (29, .iload_n 2, 1, (0, 0, 0, 0), []), (30, .iload_n 3, 1, (0, 0, 0, 0), []), (31, .if_icmp .ge 5, 3, (0, 0, 0, 0), [])]
def mc_X4_lettersIn_1 : List ax_EN := [(34, .iconst (-1), 1, (0, 0, 0, 0), []), (35, .ireturn, 1, (0, 0, 0, 0), []), (36, .iload 4, 2, (0, 0, 0, 0), []), (38, .ifCond .eq 6, 3, (0, 0, 0, 0), []), (41, .iinc 2 1, 3, (0, 0, 0, 0), []), (44, .iinc 3 1, 3, (0, 0, 0, 0), []), (47, .goto (-43), 3, (0, 0, 0, 0), []), (50, .iload_n 2, 1, (0, 0, 0, 0), []), (51, .ireturn, 1, (0, 0, 0, 0), [])]
def mt_X4_lettersIn : ax_MI := (RX4, yX4_lettersIn, cX4_lettersIn, 5, (some .int), 1, 0, 0, [mc_X4_lettersIn_0, mc_X4_lettersIn_1])
def mc_X4_append_0 : List ax_EN := [(0, .iconst 0, 1, (0, 0, 0, 0), []), (1, .istore 4, 2, (0, 0, 0, 0), []), (3, .iload 4, 2, (0, 0, 0, 0), []), (5, .iload_n 3, 1, (0, 0, 0, 0), []), (6, .if_icmp .ge 43, 3, (0, 0, 0, 0), []), (9, .aload_n 0, 1, (0, 0, 0, 0), []), (10, .getfield 15, 3, (0, 4, 1, 0), [151]), (13, .bipush 80, 2, (0, 0, 0, 0), []), (15, .if_icmp .ge 34, 3, (0, 0, 0, 0), []), (18, .aload_n 0, 1, (0, 0, 0, 0), []), (19, .getfield 11, 3, (0, 4, 0, 0), [148]), (22, .aload_n 0, 1, (0, 0, 0, 0), []), (23, .getfield 15, 3, (0, 4, 1, 0), [151]), (26, .lload_n 1, 1, (0, 0, 0, 0), []), (27, .iload 4, 2, (0, 0, 0, 0), []), (29, .invokestatic 19, 3, (3, 50, 0, 0), [463, 462])]
def mc_X4_append_1 : List ax_EN := [(32, .iastore, 1, (0, 0, 0, 0), []), (33, .aload_n 0, 1, (0, 0, 0, 0), []), (34, .dup, 1, (0, 0, 0, 0), []), (35, .getfield 15, 3, (0, 4, 1, 0), [151]), (38, .iconst 1, 1, (0, 0, 0, 0), []), (39, .iadd, 1, (0, 0, 0, 0), []), (40, .putfield 15, 3, (0, 4, 1, 0), [151]), (43, .iinc 4 1, 3, (0, 0, 0, 0), []), (46, .goto (-43), 3, (0, 0, 0, 0), []), (49, .return_, 1, (0, 0, 0, 0), [])]
def mt_X4_append : ax_MI := (RX4, yX4_append, cX4_append, 5, none, 2, 0, 0, [mc_X4_append_0, mc_X4_append_1])
def mc_X4_isRowOfSigns_0 : List ax_EN := [(0, .aload_n 0, 1, (0, 0, 0, 0), []), (1, .getfield 15, 3, (0, 4, 1, 0), [151]), (4, .iconst 1, 1, (0, 0, 0, 0), []), (5, .if_icmp .lt 12, 3, (0, 0, 0, 0), []), (8, .aload_n 0, 1, (0, 0, 0, 0), []), (9, .getfield 15, 3, (0, 4, 1, 0), [151]), (12, .bipush 24, 2, (0, 0, 0, 0), []), (14, .if_icmp .le 5, 3, (0, 0, 0, 0), []), (17, .iconst 0, 1, (0, 0, 0, 0), []), (18, .ireturn, 1, (0, 0, 0, 0), []), (19, .iconst 0, 1, (0, 0, 0, 0), []), (20, .istore_n 1, 1, (0, 0, 0, 0), []), (21, .iload_n 1, 1, (0, 0, 0, 0), []), (22, .aload_n 0, 1, (0, 0, 0, 0), []), (23, .getfield 15, 3, (0, 4, 1, 0), [151]), (26, .if_icmp .ge 23, 3, (0, 0, 0, 0), []), (29, .aload_n 0, 1, (0, 0, 0, 0), []), (30, .getfield 11, 3, (0, 4, 0, 0), [148])]
def mc_X4_isRowOfSigns_1 : List ax_EN := [(33, .iload_n 1, 1, (0, 0, 0, 0), []), (34, .iaload, 1, (0, 0, 0, 0), []), (35, .invokestatic 23, 3, (4, 150, 0, 0), [497, 668]), (38, .ifCond .ge 5, 3, (0, 0, 0, 0), []), (41, .iconst 0, 1, (0, 0, 0, 0), []), (42, .ireturn, 1, (0, 0, 0, 0), []), (43, .iinc 1 1, 3, (0, 0, 0, 0), []), (46, .goto (-25), 3, (0, 0, 0, 0), []), (49, .iconst 1, 1, (0, 0, 0, 0), []), (50, .ireturn, 1, (0, 0, 0, 0), [])]
def mt_X4_isRowOfSigns : ax_MI := (RX4, yX4_isRowOfSigns, cX4_isRowOfSigns, 2, (some .boolean), 0, 0, 0, [mc_X4_isRowOfSigns_0, mc_X4_isRowOfSigns_1])
def mc_X4_copySigns_0 : List ax_EN := [(0, .aload_n 1, 1, (0, 0, 0, 0), []), (1, .iconst 0, 1, (0, 0, 0, 0), []), (2, .putfield 27, 3, (1, 5, 1, 0), [214]), (5, .iconst 0, 1, (0, 0, 0, 0), []), (6, .istore_n 2, 1, (0, 0, 0, 0), []), (7, .iload_n 2, 1, (0, 0, 0, 0), []), (8, .aload_n 0, 1, (0, 0, 0, 0), []), (9, .getfield 15, 3, (0, 4, 1, 0), [151]), (12, .if_icmp .ge 23, 3, (0, 0, 0, 0), []), (15, .aload_n 1, 1, (0, 0, 0, 0), []), (16, .aload_n 0, 1, (0, 0, 0, 0), []), (17, .getfield 11, 3, (0, 4, 0, 0), [148]), (20, .iload_n 2, 1, (0, 0, 0, 0), []), (21, .iaload, 1, (0, 0, 0, 0), []), (22, .invokestatic 23, 3, (4, 150, 0, 0), [497, 668]), (25, .iconst 1, 1, (0, 0, 0, 0), []), (26, .invokevirtual 30, 3, (4, 58, 5, 0), [675, 13, 673]), (29, .iinc 2 1, 3, (0, 0, 0, 0), [])]
def mc_X4_copySigns_1 : List ax_EN := [(32, .goto (-25), 3, (0, 0, 0, 0), []), (35, .return_, 1, (0, 0, 0, 0), [])]
def mt_X4_copySigns : ax_MI := (RX4, yX4_copySigns, cX4_copySigns, 3, none, 1, 0, 0, [mc_X4_copySigns_0, mc_X4_copySigns_1])
def mc_X4_digestOn_0 : List ax_EN := [(0, .iconst 0, 1, (0, 0, 0, 0), []), (1, .istore_n 3, 1, (0, 0, 0, 0), []), (2, .iload_n 3, 1, (0, 0, 0, 0), []), (3, .aload_n 0, 1, (0, 0, 0, 0), []), (4, .getfield 15, 3, (0, 4, 1, 0), [151]), (7, .if_icmp .ge 21, 3, (0, 0, 0, 0), []), (10, .lload_n 1, 1, (0, 0, 0, 0), []), (11, .aload_n 0, 1, (0, 0, 0, 0), []), (12, .getfield 11, 3, (0, 4, 0, 0), [148]), (15, .iload_n 3, 1, (0, 0, 0, 0), []), (16, .iaload, 1, (0, 0, 0, 0), []), (17, .i2l, 1, (0, 0, 0, 0), []), (18, .invokestatic 34, 3, (4, 139, 0, 0), [1083, 1082]), (21, .lstore_n 1, 1, (0, 0, 0, 0), []), (22, .iinc 3 1, 3, (0, 0, 0, 0), []), (25, .goto (-23), 3, (0, 0, 0, 0), []), (28, .lload_n 1, 1, (0, 0, 0, 0), []), (29, .lreturn, 1, (0, 0, 0, 0), [])]
def mt_X4_digestOn : ax_MI := (RX4, yX4_digestOn, cX4_digestOn, 4, (some .long), 1, 0, 0, [mc_X4_digestOn_0])
def mc_X5_init_0 : List ax_EN := [(0, .aload_n 0, 1, (0, 0, 0, 0), []), (1, .invokespecial 3, 3, (8, 0, 0, 0), [204, 140, 141]), (4, .aload_n 0, 1, (0, 0, 0, 0), []), (5, .bipush 24, 2, (0, 0, 0, 0), []), (7, .newarray .int, 2, (5, 0, 0, 0), [160]), (9, .putfield 9, 3, (0, 5, 0, 0), [205]), (12, .aload_n 0, 1, (0, 0, 0, 0), []), (13, .iconst 1, 1, (0, 0, 0, 0), []), (14, .putfield 15, 3, (0, 5, 1, 0), [211]), (17, .return_, 1, (0, 0, 0, 0), [])]
def mt_X5_init : ax_MI := (RX5, yX5_init, cX5_init, 1, none, 0, 1, 24, [mc_X5_init_0])
def mc_X5_copy_0 : List ax_EN := [(0, .iconst 0, 1, (0, 0, 0, 0), []), (1, .istore_n 2, 1, (0, 0, 0, 0), []), (2, .iload_n 2, 1, (0, 0, 0, 0), []), (3, .aload_n 1, 1, (0, 0, 0, 0), []), (4, .getfield 15, 3, (0, 5, 1, 0), [211]), (7, .if_icmp .ge 21, 3, (0, 0, 0, 0), []), (10, .aload_n 0, 1, (0, 0, 0, 0), []), (11, .getfield 9, 3, (0, 5, 0, 0), [205]), (14, .iload_n 2, 1, (0, 0, 0, 0), []), (15, .aload_n 1, 1, (0, 0, 0, 0), []), (16, .getfield 9, 3, (0, 5, 0, 0), [205]), (19, .iload_n 2, 1, (0, 0, 0, 0), []), (20, .iaload, 1, (0, 0, 0, 0), []), (21, .iastore, 1, (0, 0, 0, 0), []), (22, .iinc 2 1, 3, (0, 0, 0, 0), []), (25, .goto (-23), 3, (0, 0, 0, 0), []), (28, .aload_n 0, 1, (0, 0, 0, 0), []), (29, .aload_n 1, 1, (0, 0, 0, 0), []), (30, .getfield 15, 3, (0, 5, 1, 0), [211])]
def mc_X5_copy_1 : List ax_EN := [(33, .putfield 15, 3, (0, 5, 1, 0), [211]), (36, .return_, 1, (0, 0, 0, 0), [])]
def mt_X5_copy : ax_MI := (RX5, yX5_copy, cX5_copy, 3, none, 1, 0, 0, [mc_X5_copy_0, mc_X5_copy_1])
def mc_X5_put_0 : List ax_EN := [(0, .iconst 0, 1, (0, 0, 0, 0), []), (1, .istore_n 3, 1, (0, 0, 0, 0), []), (2, .iload_n 3, 1, (0, 0, 0, 0), []), (3, .iload_n 2, 1, (0, 0, 0, 0), []), (4, .if_icmp .ge 38, 3, (0, 0, 0, 0), []), (7, .aload_n 0, 1, (0, 0, 0, 0), []), (8, .getfield 15, 3, (0, 5, 1, 0), [211]), (11, .bipush 24, 2, (0, 0, 0, 0), []), (13, .if_icmp .ge 29, 3, (0, 0, 0, 0), []), (16, .aload_n 0, 1, (0, 0, 0, 0), []), (17, .getfield 9, 3, (0, 5, 0, 0), [205]), (20, .aload_n 0, 1, (0, 0, 0, 0), []), (21, .getfield 15, 3, (0, 5, 1, 0), [211]), (24, .iload_n 1, 1, (0, 0, 0, 0), []), (25, .iastore, 1, (0, 0, 0, 0), []), (26, .aload_n 0, 1, (0, 0, 0, 0), []), (27, .dup, 1, (0, 0, 0, 0), []), (28, .getfield 15, 3, (0, 5, 1, 0), [211]), (31, .iconst 1, 1, (0, 0, 0, 0), [])]
def mc_X5_put_1 : List ax_EN := [(32, .iadd, 1, (0, 0, 0, 0), []), (33, .putfield 15, 3, (0, 5, 1, 0), [211]), (36, .iinc 3 1, 3, (0, 0, 0, 0), []), (39, .goto (-37), 3, (0, 0, 0, 0), []), (42, .return_, 1, (0, 0, 0, 0), [])]
def mt_X5_put : ax_MI := (RX5, yX5_put, cX5_put, 4, none, 2, 0, 0, [mc_X5_put_0, mc_X5_put_1])
def mc_X5_isTaken_0 : List ax_EN := [(0, .iload_n 1, 1, (0, 0, 0, 0), []), (1, .iconst 1, 1, (0, 0, 0, 0), []), (2, .iadd, 1, (0, 0, 0, 0), []), (3, .aload_n 0, 1, (0, 0, 0, 0), []), (4, .getfield 15, 3, (0, 5, 1, 0), [211]), (7, .if_icmp .lt 5, 3, (0, 0, 0, 0), []), (10, .iconst 0, 1, (0, 0, 0, 0), []), (11, .ireturn, 1, (0, 0, 0, 0), []), (12, .aload_n 0, 1, (0, 0, 0, 0), []), (13, .getfield 9, 3, (0, 5, 0, 0), [205]), (16, .iload_n 1, 1, (0, 0, 0, 0), []), (17, .iaload, 1, (0, 0, 0, 0), []), (18, .aload_n 0, 1, (0, 0, 0, 0), []), (19, .getfield 9, 3, (0, 5, 0, 0), [205]), (22, .iload_n 1, 1, (0, 0, 0, 0), []), (23, .iconst 1, 1, (0, 0, 0, 0), []), (24, .iadd, 1, (0, 0, 0, 0), []), (25, .iaload, 1, (0, 0, 0, 0), []), (26, .if_icmp .ne 7, 3, (0, 0, 0, 0), []), (29, .iload_n 2, 1, (0, 0, 0, 0), []), (30, .goto 25, 3, (0, 0, 0, 0), [])]
def mc_X5_isTaken_1 : List ax_EN := [(33, .aload_n 0, 1, (0, 0, 0, 0), []), (34, .getfield 9, 3, (0, 5, 0, 0), [205]), (37, .iload_n 1, 1, (0, 0, 0, 0), []), (38, .iaload, 1, (0, 0, 0, 0), []), (39, .aload_n 0, 1, (0, 0, 0, 0), []), (40, .getfield 9, 3, (0, 5, 0, 0), [205]), (43, .iload_n 1, 1, (0, 0, 0, 0), []), (44, .iconst 1, 1, (0, 0, 0, 0), []), (45, .iadd, 1, (0, 0, 0, 0), []), (46, .iaload, 1, (0, 0, 0, 0), []), (47, .if_icmp .ge 7, 3, (0, 0, 0, 0), []), (50, .iconst 1, 1, (0, 0, 0, 0), []), (51, .goto 4, 3, (0, 0, 0, 0), []), (54, .iconst 0, 1, (0, 0, 0, 0), []), (55, .ireturn, 1, (0, 0, 0, 0), [])]
def mt_X5_isTaken : ax_MI := (RX5, yX5_isTaken, cX5_isTaken, 3, (some .boolean), 2, 0, 0, [mc_X5_isTaken_0, mc_X5_isTaken_1])
def mc_X5_total_0 : List ax_EN := [(0, .iconst 0, 1, (0, 0, 0, 0), []), (1, .istore_n 1, 1, (0, 0, 0, 0), []), (2, .iconst 0, 1, (0, 0, 0, 0), []), (3, .istore_n 2, 1, (0, 0, 0, 0), []), (4, .aload_n 0, 1, (0, 0, 0, 0), []), (5, .getfield 15, 3, (0, 5, 1, 0), [211]), (8, .iconst 1, 1, (0, 0, 0, 0), []), (9, .isub, 1, (0, 0, 0, 0), []), (10, .istore_n 3, 1, (0, 0, 0, 0), []), (11, .iload_n 3, 1, (0, 0, 0, 0), []), (12, .ifCond .lt 47, 3, (0, 0, 0, 0), []), (15, .aload_n 0, 1, (0, 0, 0, 0), []), (16, .iload_n 3, 1, (0, 0, 0, 0), []), (17, .iload_n 2, 1, (0, 0, 0, 0), []), (18, .invokevirtual 19, 3, (3, 59, 5, 0), [691, 15, 689]), (21, .istore_n 2, 1, (0, 0, 0, 0), []), (22, .iload_n 1, 1, (0, 0, 0, 0), []), (23, .iload_n 2, 1, (0, 0, 0, 0), []), (24, .ifCond .eq 17, 3, (0, 0, 0, 0), []), (27, .getstatic 23, 3, (1, 0, 0, 0), [693]), (30, .aload_n 0, 1, (0, 0, 0, 0), []), (31, .getfield 9, 3, (0, 5, 0, 0), [205])]
def mc_X5_total_1 : List ax_EN := [(34, .iload_n 3, 1, (0, 0, 0, 0), []), (35, .iaload, 1, (0, 0, 0, 0), []), (36, .iaload, 1, (0, 0, 0, 0), []), (37, .ineg, 1, (0, 0, 0, 0), []), (38, .goto 13, 3, (0, 0, 0, 0), []), (41, .getstatic 23, 3, (1, 0, 0, 0), [693]), (44, .aload_n 0, 1, (0, 0, 0, 0), []), (45, .getfield 9, 3, (0, 5, 0, 0), [205]), (48, .iload_n 3, 1, (0, 0, 0, 0), []), (49, .iaload, 1, (0, 0, 0, 0), []), (50, .iaload, 1, (0, 0, 0, 0), []), (51, .iadd, 1, (0, 0, 0, 0), []), (52, .istore_n 1, 1, (0, 0, 0, 0), []), (53, .iinc 3 (-1), 3, (0, 0, 0, 0), []), (56, .goto (-45), 3, (0, 0, 0, 0), []), (59, .iload_n 1, 1, (0, 0, 0, 0), []), (60, .ireturn, 1, (0, 0, 0, 0), [])]
def mt_X5_total : ax_MI := (RX5, yX5_total, cX5_total, 4, (some .int), 0, 0, 0, [mc_X5_total_0, mc_X5_total_1])
def mc_X5_digestOn_0 : List ax_EN := [(0, .lload_n 1, 1, (0, 0, 0, 0), []), (1, .aload_n 0, 1, (0, 0, 0, 0), []), (2, .getfield 15, 3, (0, 5, 1, 0), [211]), (5, .i2l, 1, (0, 0, 0, 0), []), (6, .invokestatic 26, 3, (4, 139, 0, 0), [1083, 1095]), (9, .lstore_n 1, 1, (0, 0, 0, 0), []), (10, .iconst 0, 1, (0, 0, 0, 0), []), (11, .istore_n 3, 1, (0, 0, 0, 0), []), (12, .iload_n 3, 1, (0, 0, 0, 0), []), (13, .aload_n 0, 1, (0, 0, 0, 0), []), (14, .getfield 15, 3, (0, 5, 1, 0), [211]), (17, .if_icmp .ge 21, 3, (0, 0, 0, 0), []), (20, .lload_n 1, 1, (0, 0, 0, 0), []), (21, .aload_n 0, 1, (0, 0, 0, 0), []), (22, .getfield 9, 3, (0, 5, 0, 0), [205]), (25, .iload_n 3, 1, (0, 0, 0, 0), []), (26, .iaload, 1, (0, 0, 0, 0), []), (27, .i2l, 1, (0, 0, 0, 0), []), (28, .invokestatic 26, 3, (4, 139, 0, 0), [1083, 1095]), (31, .lstore_n 1, 1, (0, 0, 0, 0), [])]
def mc_X5_digestOn_1 : List ax_EN := [(32, .iinc 3 1, 3, (0, 0, 0, 0), []), (35, .goto (-23), 3, (0, 0, 0, 0), []), (38, .lload_n 1, 1, (0, 0, 0, 0), []), (39, .lreturn, 1, (0, 0, 0, 0), [])]
def mt_X5_digestOn : ax_MI := (RX5, yX5_digestOn, cX5_digestOn, 4, (some .long), 1, 0, 0, [mc_X5_digestOn_0, mc_X5_digestOn_1])
def mc_X6_goodLetters_0 : List ax_EN := [(0, .iconst 0, 1, (0, 0, 0, 0), []), (1, .istore_n 1, 1, (0, 0, 0, 0), []), (2, .iconst 0, 1, (0, 0, 0, 0), []), (3, .istore_n 2, 1, (0, 0, 0, 0), []), (4, .iload_n 2, 1, (0, 0, 0, 0), []), (5, .aload_n 0, 1, (0, 0, 0, 0), []), (6, .getfield 11, 3, (1, 4, 1, 0), [153]), (9, .if_icmp .ge 27, 3, (0, 0, 0, 0), []), (12, .iload_n 1, 1, (0, 0, 0, 0), []), (13, .aload_n 0, 1, (0, 0, 0, 0), []), (14, .getfield 17, 3, (1, 4, 0, 0), [150]), (17, .iload_n 2, 1, (0, 0, 0, 0), []), (18, .iaload, 1, (0, 0, 0, 0), []), (19, .invokestatic 21, 3, (3, 67, 0, 0), [481, 480]), (22, .istore_n 1, 1, (0, 0, 0, 0), []), (23, .iload_n 1, 1, (0, 0, 0, 0), []), (24, .iconst (-1), 1, (0, 0, 0, 0), []), (25, .if_icmp .ne 5, 3, (0, 0, 0, 0), []), (28, .iload_n 2, 1, (0, 0, 0, 0), []), (29, .ireturn, 1, (0, 0, 0, 0), []), (30, .iinc 2 1, 3, (0, 0, 0, 0), [])]
def mc_X6_goodLetters_1 : List ax_EN := [(33, .goto (-29), 3, (0, 0, 0, 0), []), (36, .aload_n 0, 1, (0, 0, 0, 0), []), (37, .getfield 11, 3, (1, 4, 1, 0), [153]), (40, .ireturn, 1, (0, 0, 0, 0), [])]
def mt_X6_goodLetters : ax_MI := (RX6, yX6_goodLetters, cX6_goodLetters, 3, (some .int), 1, 0, 0, [mc_X6_goodLetters_0, mc_X6_goodLetters_1])
def mc_X6_isWhole_0 : List ax_EN := [(0, .iconst 0, 1, (0, 0, 0, 0), []), (1, .istore_n 1, 1, (0, 0, 0, 0), []), (2, .iconst 0, 1, (0, 0, 0, 0), []), (3, .istore_n 2, 1, (0, 0, 0, 0), []), (4, .iload_n 2, 1, (0, 0, 0, 0), []), (5, .aload_n 0, 1, (0, 0, 0, 0), []), (6, .getfield 11, 3, (1, 4, 1, 0), [153]), (9, .if_icmp .ge 25, 3, (0, 0, 0, 0), []), (12, .iload_n 1, 1, (0, 0, 0, 0), []), (13, .iconst (-1), 1, (0, 0, 0, 0), []), (14, .if_icmp .eq 20, 3, (0, 0, 0, 0), []), (17, .iload_n 1, 1, (0, 0, 0, 0), []), (18, .aload_n 0, 1, (0, 0, 0, 0), []), (19, .getfield 17, 3, (1, 4, 0, 0), [150]), (22, .iload_n 2, 1, (0, 0, 0, 0), []), (23, .iaload, 1, (0, 0, 0, 0), []), (24, .invokestatic 21, 3, (3, 67, 0, 0), [481, 480]), (27, .istore_n 1, 1, (0, 0, 0, 0), []), (28, .iinc 2 1, 3, (0, 0, 0, 0), []), (31, .goto (-27), 3, (0, 0, 0, 0), [])]
def mc_X6_isWhole_1 : List ax_EN := [(34, .iload_n 1, 1, (0, 0, 0, 0), []), (35, .iconst (-1), 1, (0, 0, 0, 0), []), (36, .if_icmp .eq 17, 3, (0, 0, 0, 0), []), (39, .iload_n 1, 1, (0, 0, 0, 0), []), (40, .bipush 7, 2, (0, 0, 0, 0), []), (42, .iand, 1, (0, 0, 0, 0), []), (43, .invokestatic 25, 3, (3, 66, 0, 0), [484, 483]), (46, .ifCond .eq 7, 3, (0, 0, 0, 0), []), (49, .iconst 1, 1, (0, 0, 0, 0), []), (50, .goto 4, 3, (0, 0, 0, 0), []), (53, .iconst 0, 1, (0, 0, 0, 0), []), (54, .ireturn, 1, (0, 0, 0, 0), [])]
def mt_X6_isWhole : ax_MI := (RX6, yX6_isWhole, cX6_isWhole, 3, (some .boolean), 1, 0, 0, [mc_X6_isWhole_0, mc_X6_isWhole_1])
def mc_X6_read_0 : List ax_EN := [(0, .iconst 0, 1, (0, 0, 0, 0), []), (1, .istore_n 2, 1, (0, 0, 0, 0), []), (2, .iconst 0, 1, (0, 0, 0, 0), []), (3, .istore_n 3, 1, (0, 0, 0, 0), []), (4, .iload_n 3, 1, (0, 0, 0, 0), []), (5, .aload_n 0, 1, (0, 0, 0, 0), []), (6, .getfield 11, 3, (1, 4, 1, 0), [153]), (9, .if_icmp .ge 41, 3, (0, 0, 0, 0), []), (12, .iload_n 2, 1, (0, 0, 0, 0), []), (13, .iconst (-1), 1, (0, 0, 0, 0), []), (14, .if_icmp .eq 36, 3, (0, 0, 0, 0), []), (17, .iload_n 2, 1, (0, 0, 0, 0), []), (18, .aload_n 0, 1, (0, 0, 0, 0), []), (19, .getfield 17, 3, (1, 4, 0, 0), [150]), (22, .iload_n 3, 1, (0, 0, 0, 0), []), (23, .iaload, 1, (0, 0, 0, 0), []), (24, .invokestatic 21, 3, (3, 67, 0, 0), [481, 480]), (27, .istore_n 2, 1, (0, 0, 0, 0), []), (28, .iload_n 2, 1, (0, 0, 0, 0), []), (29, .iconst (-1), 1, (0, 0, 0, 0), []), (30, .if_icmp .eq 14, 3, (0, 0, 0, 0), [])]
def mc_X6_read_1 : List ax_EN := [(33, .iload_n 2, 1, (0, 0, 0, 0), []), (34, .aload_n 0, 1, (0, 0, 0, 0), []), (35, .getfield 17, 3, (1, 4, 0, 0), [150]), (38, .iload_n 3, 1, (0, 0, 0, 0), []), (39, .iaload, 1, (0, 0, 0, 0), []), (40, .aload_n 1, 1, (0, 0, 0, 0), []), (41, .invokestatic 29, 3, (3, 65, 0, 0), [599, 598]), (44, .iinc 3 1, 3, (0, 0, 0, 0), []), (47, .goto (-43), 3, (0, 0, 0, 0), []), (50, .return_, 1, (0, 0, 0, 0), [])]
def mt_X6_read : ax_MI := (RX6, yX6_read, cX6_read, 4, none, 2, 0, 0, [mc_X6_read_0, mc_X6_read_1])
def mc_X6_keep_0 : List ax_EN := [(0, .iload_n 0, 1, (0, 0, 0, 0), []), (1, .iconst 3, 1, (0, 0, 0, 0), []), (2, .ishr, 1, (0, 0, 0, 0), []), (3, .istore_n 3, 1, (0, 0, 0, 0), []), (4, .iload_n 0, 1, (0, 0, 0, 0), []), (5, .bipush 7, 2, (0, 0, 0, 0), []), (7, .iand, 1, (0, 0, 0, 0), []), (8, .tableswitch 85 2 6 #[36, 85, 85, 49, 67], 36, (0, 0, 0, 0), [])]
def mc_X6_keep_1 : List ax_EN := [(44, .aload_n 2, 1, (0, 0, 0, 0), []), (45, .getfield 33, 3, (1, 1, 0, 0), [232]), (48, .iload_n 3, 1, (0, 0, 0, 0), []), (49, .iload_n 1, 1, (0, 0, 0, 0), []), (50, .bipush 48, 2, (0, 0, 0, 0), []), (52, .isub, 1, (0, 0, 0, 0), []), (53, .iastore, 1, (0, 0, 0, 0), []), (54, .goto 39, 3, (0, 0, 0, 0), []), (57, .aload_n 2, 1, (0, 0, 0, 0), []), (58, .getfield 38, 3, (1, 1, 1, 0), [235]), (61, .iload_n 3, 1, (0, 0, 0, 0), []), (62, .dup2, 1, (0, 0, 0, 0), []), (63, .iaload, 1, (0, 0, 0, 0), [])]
def mc_X6_keep_2 : List ax_EN := [(64, .iconst 1, 1, (0, 0, 0, 0), []), (65, .iload_n 1, 1, (0, 0, 0, 0), []), (66, .invokestatic 41, 3, (4, 150, 0, 0), [497, 496]), (69, .ishl, 1, (0, 0, 0, 0), []), (70, .ior, 1, (0, 0, 0, 0), []), (71, .iastore, 1, (0, 0, 0, 0), []), (72, .goto 21, 3, (0, 0, 0, 0), []), (75, .aload_n 2, 1, (0, 0, 0, 0), []), (76, .getfield 45, 3, (1, 1, 2, 0), [238]), (79, .iload_n 3, 1, (0, 0, 0, 0), []), (80, .dup2, 1, (0, 0, 0, 0), []), (81, .iaload, 1, (0, 0, 0, 0), []), (82, .iconst 1, 1, (0, 0, 0, 0), []), (83, .iload_n 1, 1, (0, 0, 0, 0), []), (84, .invokestatic 41, 3, (4, 150, 0, 0), [497, 496]), (87, .ishl, 1, (0, 0, 0, 0), []), (88, .ior, 1, (0, 0, 0, 0), []), (89, .iastore, 1, (0, 0, 0, 0), []), (90, .goto 3, 3, (0, 0, 0, 0), []), (93, .return_, 1, (0, 0, 0, 0), [])]
def mt_X6_keep : ax_MI := (RX6, yX6_keep, cX6_keep, 4, none, 3, 0, 0, [mc_X6_keep_0, mc_X6_keep_1, mc_X6_keep_2])
def mc_X6_endsRule_0 : List ax_EN := [(0, .iload_n 0, 1, (0, 0, 0, 0), []), (1, .iconst 2, 1, (0, 0, 0, 0), []), (2, .if_icmp .eq 14, 3, (0, 0, 0, 0), []), (5, .iload_n 0, 1, (0, 0, 0, 0), []), (6, .iconst 5, 1, (0, 0, 0, 0), []), (7, .if_icmp .eq 9, 3, (0, 0, 0, 0), []), (10, .iload_n 0, 1, (0, 0, 0, 0), []), (11, .bipush 6, 2, (0, 0, 0, 0), []), (13, .if_icmp .ne 7, 3, (0, 0, 0, 0), []), (16, .iconst 1, 1, (0, 0, 0, 0), []), (17, .goto 4, 3, (0, 0, 0, 0), []), (20, .iconst 0, 1, (0, 0, 0, 0), []), (21, .ireturn, 1, (0, 0, 0, 0), [])]
def mt_X6_endsRule : ax_MI := (RX6, yX6_endsRule, cX6_endsRule, 1, (some .boolean), 1, 0, 0, [mc_X6_endsRule_0])
def mc_X6_after_0 : List ax_EN := [(0, .iload_n 0, 1, (0, 0, 0, 0), []), (1, .bipush 7, 2, (0, 0, 0, 0), []), (3, .iand, 1, (0, 0, 0, 0), []), (4, .istore_n 2, 1, (0, 0, 0, 0), []), (5, .iload_n 0, 1, (0, 0, 0, 0), []), (6, .iconst 3, 1, (0, 0, 0, 0), []), (7, .ishr, 1, (0, 0, 0, 0), []), (8, .istore_n 3, 1, (0, 0, 0, 0), []), (9, .iload_n 1, 1, (0, 0, 0, 0), []), (10, .bipush 44, 2, (0, 0, 0, 0), []), (12, .if_icmp .ne 16, 3, (0, 0, 0, 0), []), (15, .iload_n 2, 1, (0, 0, 0, 0), []), (16, .invokestatic 25, 3, (3, 66, 0, 0), [484, 483]), (19, .ifCond .eq 7, 3, (0, 0, 0, 0), []), (22, .iconst 0, 1, (0, 0, 0, 0), []), (23, .goto 4, 3, (0, 0, 0, 0), []), (26, .iconst (-1), 1, (0, 0, 0, 0), []), (27, .ireturn, 1, (0, 0, 0, 0), []), (28, .iload_n 1, 1, (0, 0, 0, 0), []), (29, .bipush 60, 2, (0, 0, 0, 0), []), (31, .if_icmp .ne 9, 3, (0, 0, 0, 0), [])]
def mc_X6_after_1 : List ax_EN := [(34, .iload_n 2, 1, (0, 0, 0, 0), []), (35, .iload_n 3, 1, (0, 0, 0, 0), []), (36, .invokestatic 48, 3, (3, 68, 0, 0), [487, 486]), (39, .ireturn, 1, (0, 0, 0, 0), []), (40, .iload_n 1, 1, (0, 0, 0, 0), []), (41, .bipush 49, 2, (0, 0, 0, 0), []), (43, .if_icmp .lt 24, 3, (0, 0, 0, 0), []), (46, .iload_n 1, 1, (0, 0, 0, 0), []), (47, .bipush 57, 2, (0, 0, 0, 0), []), (49, .if_icmp .gt 18, 3, (0, 0, 0, 0), []), (52, .iload_n 2, 1, (0, 0, 0, 0), []), (53, .iconst 1, 1, (0, 0, 0, 0), []), (54, .if_icmp .ne 11, 3, (0, 0, 0, 0), []), (57, .iconst 2, 1, (0, 0, 0, 0), []), (58, .iload_n 3, 1, (0, 0, 0, 0), []), (59, .invokestatic 51, 3, (3, 71, 0, 0), [494, 493]), (62, .goto 4, 3, (0, 0, 0, 0), [])]
def mc_X6_after_2 : List ax_EN := [(65, .iconst (-1), 1, (0, 0, 0, 0), []), (66, .ireturn, 1, (0, 0, 0, 0), []), (67, .iload_n 1, 1, (0, 0, 0, 0), []), (68, .invokestatic 41, 3, (4, 150, 0, 0), [497, 496]), (71, .istore 4, 2, (0, 0, 0, 0), []), (73, .iload 4, 2, (0, 0, 0, 0), []), (75, .ifCond .ge 7, 3, (0, 0, 0, 0), []), (78, .iconst (-1), 1, (0, 0, 0, 0), []), (79, .goto 10, 3, (0, 0, 0, 0), []), (82, .iload_n 2, 1, (0, 0, 0, 0), []), (83, .iload_n 3, 1, (0, 0, 0, 0), []), (84, .iload 4, 2, (0, 0, 0, 0), []), (86, .invokestatic 54, 3, (3, 69, 0, 0), [585, 584]), (89, .ireturn, 1, (0, 0, 0, 0), [])]
def mt_X6_after : ax_MI := (RX6, yX6_after, cX6_after, 5, (some .int), 2, 0, 0, [mc_X6_after_0, mc_X6_after_1, mc_X6_after_2])
def mc_X6_behindMark_0 : List ax_EN := [(0, .iload_n 0, 1, (0, 0, 0, 0), []), (1, .iconst 1, 1, (0, 0, 0, 0), []), (2, .if_icmp .ne 19, 3, (0, 0, 0, 0), []), (5, .bipush 13, 2, (0, 0, 0, 0), []), (7, .iconst 1, 1, (0, 0, 0, 0), []), (8, .iload_n 1, 1, (0, 0, 0, 0), []), (9, .invokestatic 58, 3, (3, 70, 0, 0), [490, 489]), (12, .ifCond .eq 9, 3, (0, 0, 0, 0), []), (15, .iconst 3, 1, (0, 0, 0, 0), []), (16, .iload_n 1, 1, (0, 0, 0, 0), []), (17, .invokestatic 51, 3, (3, 71, 0, 0), [494, 493]), (20, .ireturn, 1, (0, 0, 0, 0), []), (21, .iload_n 0, 1, (0, 0, 0, 0), []), (22, .iconst 3, 1, (0, 0, 0, 0), []), (23, .if_icmp .ne 19, 3, (0, 0, 0, 0), []), (26, .bipush 13, 2, (0, 0, 0, 0), []), (28, .iconst 2, 1, (0, 0, 0, 0), []), (29, .iload_n 1, 1, (0, 0, 0, 0), []), (30, .invokestatic 58, 3, (3, 70, 0, 0), [490, 489])]
def mc_X6_behindMark_1 : List ax_EN := [(33, .ifCond .eq 9, 3, (0, 0, 0, 0), []), (36, .iconst 4, 1, (0, 0, 0, 0), []), (37, .iload_n 1, 1, (0, 0, 0, 0), []), (38, .invokestatic 51, 3, (3, 71, 0, 0), [494, 493]), (41, .ireturn, 1, (0, 0, 0, 0), []), (42, .iconst (-1), 1, (0, 0, 0, 0), []), (43, .ireturn, 1, (0, 0, 0, 0), [])]
def mt_X6_behindMark : ax_MI := (RX6, yX6_behindMark, cX6_behindMark, 2, (some .int), 2, 0, 0, [mc_X6_behindMark_0, mc_X6_behindMark_1])
def mc_X6_behindSign_0 : List ax_EN := [(0, .iload_n 0, 1, (0, 0, 0, 0), []), (1, .tableswitch 88 0 6 #[43, 88, 88, 49, 68, 49, 68], 43, (0, 0, 0, 0), [])]
def mc_X6_behindSign_1 : List ax_EN := [(44, .iconst 1, 1, (0, 0, 0, 0), []), (45, .iload_n 2, 1, (0, 0, 0, 0), []), (46, .invokestatic 51, 3, (3, 71, 0, 0), [494, 493]), (49, .ireturn, 1, (0, 0, 0, 0), []), (50, .iload_n 2, 1, (0, 0, 0, 0), []), (51, .iconst 1, 1, (0, 0, 0, 0), []), (52, .iload_n 1, 1, (0, 0, 0, 0), []), (53, .invokestatic 58, 3, (3, 70, 0, 0), [490, 489]), (56, .ifCond .eq 11, 3, (0, 0, 0, 0), []), (59, .iconst 5, 1, (0, 0, 0, 0), []), (60, .iload_n 1, 1, (0, 0, 0, 0), []), (61, .invokestatic 51, 3, (3, 71, 0, 0), [494, 493])]
def mc_X6_behindSign_2 : List ax_EN := [(64, .goto 4, 3, (0, 0, 0, 0), []), (67, .iconst (-1), 1, (0, 0, 0, 0), []), (68, .ireturn, 1, (0, 0, 0, 0), []), (69, .iload_n 2, 1, (0, 0, 0, 0), []), (70, .iconst 2, 1, (0, 0, 0, 0), []), (71, .iload_n 1, 1, (0, 0, 0, 0), []), (72, .invokestatic 58, 3, (3, 70, 0, 0), [490, 489]), (75, .ifCond .eq 12, 3, (0, 0, 0, 0), []), (78, .bipush 6, 2, (0, 0, 0, 0), []), (80, .iload_n 1, 1, (0, 0, 0, 0), []), (81, .invokestatic 51, 3, (3, 71, 0, 0), [494, 493]), (84, .goto 4, 3, (0, 0, 0, 0), []), (87, .iconst (-1), 1, (0, 0, 0, 0), []), (88, .ireturn, 1, (0, 0, 0, 0), []), (89, .iconst (-1), 1, (0, 0, 0, 0), []), (90, .ireturn, 1, (0, 0, 0, 0), [])]
def mt_X6_behindSign : ax_MI := (RX6, yX6_behindSign, cX6_behindSign, 3, (some .int), 3, 0, 0, [mc_X6_behindSign_0, mc_X6_behindSign_1, mc_X6_behindSign_2])
def mc_X6_outweighs_0 : List ax_EN := [(0, .getstatic 62, 3, (1, 0, 0, 0), [492]), (3, .iload_n 0, 1, (0, 0, 0, 0), []), (4, .iaload, 1, (0, 0, 0, 0), []), (5, .iload_n 1, 1, (0, 0, 0, 0), []), (6, .getstatic 62, 3, (1, 0, 0, 0), [492]), (9, .iload_n 2, 1, (0, 0, 0, 0), []), (10, .iaload, 1, (0, 0, 0, 0), []), (11, .imul, 1, (0, 0, 0, 0), []), (12, .if_icmp .le 7, 3, (0, 0, 0, 0), []), (15, .iconst 1, 1, (0, 0, 0, 0), []), (16, .goto 4, 3, (0, 0, 0, 0), []), (19, .iconst 0, 1, (0, 0, 0, 0), []), (20, .ireturn, 1, (0, 0, 0, 0), [])]
def mt_X6_outweighs : ax_MI := (RX6, yX6_outweighs, cX6_outweighs, 3, (some .boolean), 3, 0, 0, [mc_X6_outweighs_0])
def mc_X6_at_0 : List ax_EN := [(0, .iload_n 0, 1, (0, 0, 0, 0), []), (1, .iload_n 1, 1, (0, 0, 0, 0), []), (2, .iconst 3, 1, (0, 0, 0, 0), []), (3, .ishl, 1, (0, 0, 0, 0), []), (4, .ior, 1, (0, 0, 0, 0), []), (5, .ireturn, 1, (0, 0, 0, 0), [])]
def mt_X6_at : ax_MI := (RX6, yX6_at, cX6_at, 2, (some .int), 2, 0, 0, [mc_X6_at_0])
def mc_X7_init_0 : List ax_EN := [(0, .aload_n 0, 1, (0, 0, 0, 0), []), (1, .invokespecial 3, 3, (8, 0, 0, 0), [313, 140, 141]), (4, .aload_n 0, 1, (0, 0, 0, 0), []), (5, .bipush 21, 2, (0, 0, 0, 0), []), (7, .newarray .int, 2, (5, 0, 0, 0), [160]), (9, .putfield 11, 3, (0, 7, 0, 0), [316]), (12, .aload_n 0, 1, (0, 0, 0, 0), []), (13, .iconst 0, 1, (0, 0, 0, 0), []), (14, .putfield 15, 3, (0, 7, 1, 0), [317]), (17, .aload_n 0, 1, (0, 0, 0, 0), []), (18, .iconst 0, 1, (0, 0, 0, 0), []), (19, .putfield 19, 3, (0, 7, 2, 0), [319]), (22, .aload_n 0, 1, (0, 0, 0, 0), []), (23, .new 22, 3, (5, 5, 2, 0), [314, 200, 121]), (26, .dup, 1, (0, 0, 0, 0), []), (27, .invokespecial 24, 3, (4, 56, 0, 0), [202, 315]), (30, .putfield 25, 3, (0, 7, 3, 0), [320])]
def mc_X7_init_1 : List ax_EN := [(33, .aload_n 0, 1, (0, 0, 0, 0), []), (34, .iconst 1, 1, (0, 0, 0, 0), []), (35, .newarray .int, 2, (5, 0, 0, 0), [160]), (37, .putfield 29, 3, (0, 7, 4, 0), [321]), (40, .aload_n 0, 1, (0, 0, 0, 0), []), (41, .bipush 20, 2, (0, 0, 0, 0), []), (43, .newarray .int, 2, (5, 0, 0, 0), [160]), (45, .putfield 32, 3, (0, 7, 5, 0), [323]), (48, .aload_n 0, 1, (0, 0, 0, 0), []), (49, .iconst 0, 1, (0, 0, 0, 0), []), (50, .putfield 35, 3, (0, 7, 6, 0), [325]), (53, .aload_n 0, 1, (0, 0, 0, 0), []), (54, .iconst 0, 1, (0, 0, 0, 0), []), (55, .putfield 38, 3, (0, 7, 7, 0), [326]), (58, .aload_n 0, 1, (0, 0, 0, 0), []), (59, .iconst (-1), 1, (0, 0, 0, 0), []), (60, .putfield 41, 3, (0, 7, 8, 0), [328]), (63, .return_, 1, (0, 0, 0, 0), [])]
def mt_X7_init : ax_MI := (RX7, yX7_init, cX7_init, 1, none, 0, 5, 68, [mc_X7_init_0, mc_X7_init_1])
def mc_X7_placesOn_0 : List ax_EN := [(0, .aload_n 0, 1, (0, 0, 0, 0), []), (1, .getfield 44, 3, (1, 4, 1, 0), [152]), (4, .ifCond .le 23, 3, (0, 0, 0, 0), []), (7, .aload_n 0, 1, (0, 0, 0, 0), []), (8, .getfield 49, 3, (1, 4, 0, 0), [149]), (11, .aload_n 0, 1, (0, 0, 0, 0), []), (12, .getfield 44, 3, (1, 4, 1, 0), [152]), (15, .iconst 1, 1, (0, 0, 0, 0), []), (16, .isub, 1, (0, 0, 0, 0), []), (17, .iaload, 1, (0, 0, 0, 0), []), (18, .bipush 42, 2, (0, 0, 0, 0), []), (20, .if_icmp .ne 7, 3, (0, 0, 0, 0), []), (23, .iconst 1, 1, (0, 0, 0, 0), []), (24, .goto 4, 3, (0, 0, 0, 0), []), (27, .iconst 0, 1, (0, 0, 0, 0), []), (28, .istore_n 1, 1, (0, 0, 0, 0), []), (29, .iload_n 1, 1, (0, 0, 0, 0), []), (30, .ifCond .eq 12, 3, (0, 0, 0, 0), [])]
def mc_X7_placesOn_1 : List ax_EN := [(33, .aload_n 0, 1, (0, 0, 0, 0), []), (34, .getfield 44, 3, (1, 4, 1, 0), [152]), (37, .iconst 1, 1, (0, 0, 0, 0), []), (38, .isub, 1, (0, 0, 0, 0), []), (39, .goto 7, 3, (0, 0, 0, 0), []), (42, .aload_n 0, 1, (0, 0, 0, 0), []), (43, .getfield 44, 3, (1, 4, 1, 0), [152]), (46, .ireturn, 1, (0, 0, 0, 0), [])]
def mt_X7_placesOn : ax_MI := (RX7, yX7_placesOn, cX7_placesOn, 2, (some .int), 1, 0, 0, [mc_X7_placesOn_0, mc_X7_placesOn_1])
def mc_X7_isStone_0 : List ax_EN := [(0, .aload_n 0, 1, (0, 0, 0, 0), []), (1, .invokestatic 52, 3, (3, 73, 0, 0), [925, 924]), (4, .istore_n 1, 1, (0, 0, 0, 0), []), (5, .iload_n 1, 1, (0, 0, 0, 0), []), (6, .iconst 1, 1, (0, 0, 0, 0), []), (7, .if_icmp .lt 9, 3, (0, 0, 0, 0), []), (10, .iload_n 1, 1, (0, 0, 0, 0), []), (11, .bipush 20, 2, (0, 0, 0, 0), []), (13, .if_icmp .le 5, 3, (0, 0, 0, 0), []), (16, .iconst 0, 1, (0, 0, 0, 0), []), (17, .ireturn, 1, (0, 0, 0, 0), []), (18, .iconst 0, 1, (0, 0, 0, 0), []), (19, .istore_n 2, 1, (0, 0, 0, 0), []), (20, .iconst 0, 1, (0, 0, 0, 0), []), (21, .istore_n 3, 1, (0, 0, 0, 0), []), (22, .iload_n 3, 1, (0, 0, 0, 0), []), (23, .iload_n 1, 1, (0, 0, 0, 0), []), (24, .if_icmp .ge 40, 3, (0, 0, 0, 0), []), (27, .aload_n 0, 1, (0, 0, 0, 0), []), (28, .getfield 49, 3, (1, 4, 0, 0), [149]), (31, .iload_n 3, 1, (0, 0, 0, 0), [])]
def mc_X7_isStone_1 : List ax_EN := [(32, .iaload, 1, (0, 0, 0, 0), []), (33, .bipush 46, 2, (0, 0, 0, 0), []), (35, .if_icmp .ne 9, 3, (0, 0, 0, 0), []), (38, .iinc 2 1, 3, (0, 0, 0, 0), []), (41, .goto 17, 3, (0, 0, 0, 0), []), (44, .aload_n 0, 1, (0, 0, 0, 0), []), (45, .getfield 49, 3, (1, 4, 0, 0), [149]), (48, .iload_n 3, 1, (0, 0, 0, 0), []), (49, .iaload, 1, (0, 0, 0, 0), []), (50, .invokestatic 56, 3, (4, 150, 0, 0), [497, 927]), (53, .ifCond .ge 5, 3, (0, 0, 0, 0), []), (56, .iconst 0, 1, (0, 0, 0, 0), []), (57, .ireturn, 1, (0, 0, 0, 0), []), (58, .iinc 3 1, 3, (0, 0, 0, 0), []), (61, .goto (-39), 3, (0, 0, 0, 0), [])]
def mc_X7_isStone_2 : List ax_EN := [(64, .iload_n 2, 1, (0, 0, 0, 0), []), (65, .iconst 3, 1, (0, 0, 0, 0), []), (66, .if_icmp .gt 7, 3, (0, 0, 0, 0), []), (69, .iconst 1, 1, (0, 0, 0, 0), []), (70, .goto 4, 3, (0, 0, 0, 0), []), (73, .iconst 0, 1, (0, 0, 0, 0), []), (74, .ireturn, 1, (0, 0, 0, 0), [])]
def mt_X7_isStone : ax_MI := (RX7, yX7_isStone, cX7_isStone, 4, (some .boolean), 1, 0, 0, [mc_X7_isStone_0, mc_X7_isStone_1, mc_X7_isStone_2])
def mc_X7_carve_0 : List ax_EN := [(0, .aload_n 0, 1, (0, 0, 0, 0), []), (1, .aload_n 1, 1, (0, 0, 0, 0), []), (2, .invokestatic 52, 3, (3, 73, 0, 0), [925, 924]), (5, .putfield 15, 3, (0, 7, 1, 0), [317]), (8, .aload_n 0, 1, (0, 0, 0, 0), []), (9, .aload_n 1, 1, (0, 0, 0, 0), []), (10, .getfield 44, 3, (1, 4, 1, 0), [152]), (13, .putfield 19, 3, (0, 7, 2, 0), [319]), (16, .iconst 0, 1, (0, 0, 0, 0), []), (17, .istore_n 2, 1, (0, 0, 0, 0), []), (18, .iload_n 2, 1, (0, 0, 0, 0), []), (19, .aload_n 0, 1, (0, 0, 0, 0), []), (20, .getfield 15, 3, (0, 7, 1, 0), [317]), (23, .if_icmp .ge 40, 3, (0, 0, 0, 0), []), (26, .aload_n 0, 1, (0, 0, 0, 0), []), (27, .getfield 11, 3, (0, 7, 0, 0), [316]), (30, .iload_n 2, 1, (0, 0, 0, 0), []), (31, .aload_n 1, 1, (0, 0, 0, 0), [])]
def mc_X7_carve_1 : List ax_EN := [(32, .getfield 49, 3, (1, 4, 0, 0), [149]), (35, .iload_n 2, 1, (0, 0, 0, 0), []), (36, .iaload, 1, (0, 0, 0, 0), []), (37, .bipush 46, 2, (0, 0, 0, 0), []), (39, .if_icmp .ne 8, 3, (0, 0, 0, 0), []), (42, .bipush 14, 2, (0, 0, 0, 0), []), (44, .goto 12, 3, (0, 0, 0, 0), []), (47, .aload_n 1, 1, (0, 0, 0, 0), []), (48, .getfield 49, 3, (1, 4, 0, 0), [149]), (51, .iload_n 2, 1, (0, 0, 0, 0), []), (52, .iaload, 1, (0, 0, 0, 0), []), (53, .invokestatic 56, 3, (4, 150, 0, 0), [497, 927]), (56, .iastore, 1, (0, 0, 0, 0), []), (57, .iinc 2 1, 3, (0, 0, 0, 0), []), (60, .goto (-42), 3, (0, 0, 0, 0), []), (63, .aload_n 0, 1, (0, 0, 0, 0), [])]
def mc_X7_carve_2 : List ax_EN := [(64, .getfield 19, 3, (0, 7, 2, 0), [319]), (67, .aload_n 0, 1, (0, 0, 0, 0), []), (68, .getfield 15, 3, (0, 7, 1, 0), [317]), (71, .if_icmp .le 14, 3, (0, 0, 0, 0), []), (74, .aload_n 0, 1, (0, 0, 0, 0), []), (75, .getfield 11, 3, (0, 7, 0, 0), [316]), (78, .aload_n 0, 1, (0, 0, 0, 0), []), (79, .getfield 15, 3, (0, 7, 1, 0), [317]), (82, .bipush 14, 2, (0, 0, 0, 0), []), (84, .iastore, 1, (0, 0, 0, 0), []), (85, .aload_n 0, 1, (0, 0, 0, 0), []), (86, .iconst (-1), 1, (0, 0, 0, 0), []), (87, .putfield 41, 3, (0, 7, 8, 0), [328]), (90, .return_, 1, (0, 0, 0, 0), [])]
def mt_X7_carve : ax_MI := (RX7, yX7_carve, cX7_carve, 3, none, 1, 0, 0, [mc_X7_carve_0, mc_X7_carve_1, mc_X7_carve_2])
def mc_X7_fillBy_0 : List ax_EN := [(0, .aload_n 0, 1, (0, 0, 0, 0), []), (1, .getfield 41, 3, (0, 7, 8, 0), [328]), (4, .iload_n 2, 1, (0, 0, 0, 0), []), (5, .if_icmp .ne 4, 3, (0, 0, 0, 0), []), (8, .return_, 1, (0, 0, 0, 0), []), (9, .aload_n 0, 1, (0, 0, 0, 0), []), (10, .iload_n 2, 1, (0, 0, 0, 0), []), (11, .putfield 41, 3, (0, 7, 8, 0), [328]), (14, .aload_n 0, 1, (0, 0, 0, 0), []), (15, .invokevirtual 60, 3, (3, 77, 7, 0), [946, 51, 944]), (18, .aload_n 0, 1, (0, 0, 0, 0), []), (19, .iconst 0, 1, (0, 0, 0, 0), []), (20, .putfield 35, 3, (0, 7, 6, 0), [325]), (23, .iconst 0, 1, (0, 0, 0, 0), []), (24, .istore_n 3, 1, (0, 0, 0, 0), []), (25, .iload_n 3, 1, (0, 0, 0, 0), []), (26, .aload_n 0, 1, (0, 0, 0, 0), []), (27, .getfield 15, 3, (0, 7, 1, 0), [317]), (30, .if_icmp .ge 16, 3, (0, 0, 0, 0), [])]
def mc_X7_fillBy_1 : List ax_EN := [(33, .aload_n 0, 1, (0, 0, 0, 0), []), (34, .getfield 32, 3, (0, 7, 5, 0), [323]), (37, .iload_n 3, 1, (0, 0, 0, 0), []), (38, .iconst (-1), 1, (0, 0, 0, 0), []), (39, .iastore, 1, (0, 0, 0, 0), []), (40, .iinc 3 1, 3, (0, 0, 0, 0), []), (43, .goto (-18), 3, (0, 0, 0, 0), []), (46, .aload_n 0, 1, (0, 0, 0, 0), []), (47, .iconst 0, 1, (0, 0, 0, 0), []), (48, .aload_n 1, 1, (0, 0, 0, 0), []), (49, .bipush 14, 2, (0, 0, 0, 0), []), (51, .invokestatic 65, 3, (3, 78, 0, 0), [949, 948]), (54, .aload_n 0, 1, (0, 0, 0, 0), []), (55, .invokevirtual 69, 3, (3, 80, 7, 0), [960, 53, 958]), (58, .aload_n 0, 1, (0, 0, 0, 0), []), (59, .invokevirtual 72, 3, (3, 81, 7, 0), [964, 54, 962]), (62, .return_, 1, (0, 0, 0, 0), [])]
def mt_X7_fillBy : ax_MI := (RX7, yX7_fillBy, cX7_fillBy, 4, none, 2, 1, 41160, [mc_X7_fillBy_0, mc_X7_fillBy_1])
def mc_X7_makeRoom_0 : List ax_EN := [(0, .aload_n 0, 1, (0, 0, 0, 0), []), (1, .getfield 19, 3, (0, 7, 2, 0), [319]), (4, .aload_n 0, 1, (0, 0, 0, 0), []), (5, .getfield 15, 3, (0, 7, 1, 0), [317]), (8, .if_icmp .le 8, 3, (0, 0, 0, 0), []), (11, .bipush 15, 2, (0, 0, 0, 0), []), (13, .goto 4, 3, (0, 0, 0, 0), []), (16, .iconst 1, 1, (0, 0, 0, 0), []), (17, .istore_n 1, 1, (0, 0, 0, 0), []), (18, .iconst 0, 1, (0, 0, 0, 0), []), (19, .istore_n 2, 1, (0, 0, 0, 0), []), (20, .iload_n 2, 1, (0, 0, 0, 0), []), (21, .aload_n 0, 1, (0, 0, 0, 0), []), (22, .getfield 15, 3, (0, 7, 1, 0), [317]), (25, .if_icmp .ge 29, 3, (0, 0, 0, 0), []), (28, .iload_n 1, 1, (0, 0, 0, 0), []), (29, .aload_n 0, 1, (0, 0, 0, 0), []), (30, .getfield 11, 3, (0, 7, 0, 0), [316])]
def mc_X7_makeRoom_1 : List ax_EN := [(33, .iload_n 2, 1, (0, 0, 0, 0), []), (34, .iaload, 1, (0, 0, 0, 0), []), (35, .bipush 14, 2, (0, 0, 0, 0), []), (37, .if_icmp .ne 8, 3, (0, 0, 0, 0), []), (40, .bipush 14, 2, (0, 0, 0, 0), []), (42, .goto 4, 3, (0, 0, 0, 0), []), (45, .iconst 1, 1, (0, 0, 0, 0), []), (46, .imul, 1, (0, 0, 0, 0), []), (47, .istore_n 1, 1, (0, 0, 0, 0), []), (48, .iinc 2 1, 3, (0, 0, 0, 0), []), (51, .goto (-31), 3, (0, 0, 0, 0), []), (54, .iload_n 1, 1, (0, 0, 0, 0), []), (55, .aload_n 0, 1, (0, 0, 0, 0), []), (56, .getfield 29, 3, (0, 7, 4, 0), [321]), (59, .arraylength, 1, (0, 0, 0, 0), []), (60, .if_icmp .le 10, 3, (0, 0, 0, 0), []), (63, .aload_n 0, 1, (0, 0, 0, 0), [])]
def mc_X7_makeRoom_2 : List ax_EN := [(64, .iload_n 1, 1, (0, 0, 0, 0), []), (65, .newarray .int, 2, (5, 0, 0, 0), [160]), (67, .putfield 29, 3, (0, 7, 4, 0), [321]), (70, .return_, 1, (0, 0, 0, 0), [])]
def mt_X7_makeRoom : ax_MI := (RX7, yX7_makeRoom, cX7_makeRoom, 3, none, 0, 1, 41160, [mc_X7_makeRoom_0, mc_X7_makeRoom_1, mc_X7_makeRoom_2])
def mc_X7_fillFrom_0 : List ax_EN := [(0, .iload_n 1, 1, (0, 0, 0, 0), []), (1, .aload_n 0, 1, (0, 0, 0, 0), []), (2, .getfield 15, 3, (0, 7, 1, 0), [317]), (5, .if_icmp .lt 16, 3, (0, 0, 0, 0), []), (8, .aload_n 2, 1, (0, 0, 0, 0), []), (9, .iload_n 3, 1, (0, 0, 0, 0), []), (10, .invokevirtual 75, 3, (4, 21, 1, 0), [647, 9, 951]), (13, .ifCond .eq 8, 3, (0, 0, 0, 0), []), (16, .aload_n 0, 1, (0, 0, 0, 0), []), (17, .iload_n 1, 1, (0, 0, 0, 0), []), (18, .invokevirtual 79, 3, (3, 79, 7, 0), [954, 52, 952]), (21, .iload_n 1, 1, (0, 0, 0, 0), []), (22, .aload_n 0, 1, (0, 0, 0, 0), []), (23, .getfield 19, 3, (0, 7, 2, 0), [319]), (26, .if_icmp .ge 9, 3, (0, 0, 0, 0), []), (29, .iload_n 1, 1, (0, 0, 0, 0), []), (30, .bipush 20, 2, (0, 0, 0, 0), [])]
def mc_X7_fillFrom_1 : List ax_EN := [(32, .if_icmp .le 4, 3, (0, 0, 0, 0), []), (35, .return_, 1, (0, 0, 0, 0), []), (36, .aload_n 0, 1, (0, 0, 0, 0), []), (37, .getfield 11, 3, (0, 7, 0, 0), [316]), (40, .iload_n 1, 1, (0, 0, 0, 0), []), (41, .iaload, 1, (0, 0, 0, 0), []), (42, .istore 4, 2, (0, 0, 0, 0), []), (44, .iload 4, 2, (0, 0, 0, 0), []), (46, .bipush 14, 2, (0, 0, 0, 0), []), (48, .if_icmp .ne 7, 3, (0, 0, 0, 0), []), (51, .iconst 0, 1, (0, 0, 0, 0), []), (52, .goto 5, 3, (0, 0, 0, 0), []), (55, .iload 4, 2, (0, 0, 0, 0), []), (57, .istore 5, 2, (0, 0, 0, 0), []), (59, .iload 4, 2, (0, 0, 0, 0), []), (61, .bipush 14, 2, (0, 0, 0, 0), []), (63, .if_icmp .ne 8, 3, (0, 0, 0, 0), [])]
def mc_X7_fillFrom_2 : List ax_EN := [(66, .bipush 13, 2, (0, 0, 0, 0), []), (68, .goto 5, 3, (0, 0, 0, 0), []), (71, .iload 4, 2, (0, 0, 0, 0), []), (73, .istore 6, 2, (0, 0, 0, 0), []), (75, .iload 5, 2, (0, 0, 0, 0), []), (77, .istore 7, 2, (0, 0, 0, 0), []), (79, .iload 7, 2, (0, 0, 0, 0), []), (81, .iload 6, 2, (0, 0, 0, 0), []), (83, .if_icmp .gt 45, 3, (0, 0, 0, 0), []), (86, .aload_n 2, 1, (0, 0, 0, 0), []), (87, .iload_n 3, 1, (0, 0, 0, 0), []), (88, .iload 7, 2, (0, 0, 0, 0), []), (90, .invokevirtual 83, 3, (4, 20, 1, 0), [611, 3, 957]), (93, .istore 8, 2, (0, 0, 0, 0), []), (95, .iload 8, 2, (0, 0, 0, 0), [])]
def mc_X7_fillFrom_3 : List ax_EN := [(97, .iconst (-1), 1, (0, 0, 0, 0), []), (98, .if_icmp .eq 24, 3, (0, 0, 0, 0), []), (101, .aload_n 0, 1, (0, 0, 0, 0), []), (102, .getfield 25, 3, (0, 7, 3, 0), [320]), (105, .getfield 87, 3, (1, 5, 0, 0), [208]), (108, .iload_n 1, 1, (0, 0, 0, 0), []), (109, .iload 7, 2, (0, 0, 0, 0), []), (111, .iastore, 1, (0, 0, 0, 0), []), (112, .aload_n 0, 1, (0, 0, 0, 0), []), (113, .iload_n 1, 1, (0, 0, 0, 0), []), (114, .iconst 1, 1, (0, 0, 0, 0), []), (115, .iadd, 1, (0, 0, 0, 0), []), (116, .aload_n 2, 1, (0, 0, 0, 0), []), (117, .iload 8, 2, (0, 0, 0, 0), []), (119, .invokestatic 65, 3, (3, 78, 0, 0), [949, 948]), (122, .iinc 7 1, 3, (0, 0, 0, 0), []), (125, .goto (-46), 3, (0, 0, 0, 0), [])]
def mc_X7_fillFrom_4 : List ax_EN := [(128, .return_, 1, (0, 0, 0, 0), [])]
def mt_X7_fillFrom : ax_MI := (RX7, yX7_fillFrom, cX7_fillFrom, 9, none, 4, 0, 0, [mc_X7_fillFrom_0, mc_X7_fillFrom_1, mc_X7_fillFrom_2, mc_X7_fillFrom_3, mc_X7_fillFrom_4])
def mc_X7_keepFilling_0 : List ax_EN := [(0, .aload_n 0, 1, (0, 0, 0, 0), []), (1, .getfield 35, 3, (0, 7, 6, 0), [325]), (4, .aload_n 0, 1, (0, 0, 0, 0), []), (5, .getfield 29, 3, (0, 7, 4, 0), [321]), (8, .arraylength, 1, (0, 0, 0, 0), []), (9, .if_icmp .lt 4, 3, (0, 0, 0, 0), []), (12, .return_, 1, (0, 0, 0, 0), []), (13, .aload_n 0, 1, (0, 0, 0, 0), []), (14, .getfield 25, 3, (0, 7, 3, 0), [320]), (17, .iload_n 1, 1, (0, 0, 0, 0), []), (18, .putfield 88, 3, (1, 5, 1, 0), [216]), (21, .aload_n 0, 1, (0, 0, 0, 0), []), (22, .getfield 29, 3, (0, 7, 4, 0), [321]), (25, .aload_n 0, 1, (0, 0, 0, 0), []), (26, .getfield 35, 3, (0, 7, 6, 0), [325]), (29, .aload_n 0, 1, (0, 0, 0, 0), []), (30, .getfield 25, 3, (0, 7, 3, 0), [320])]
def mc_X7_keepFilling_1 : List ax_EN := [(33, .invokevirtual 89, 3, (4, 60, 5, 0), [687, 14, 956]), (36, .iastore, 1, (0, 0, 0, 0), []), (37, .iconst 0, 1, (0, 0, 0, 0), []), (38, .istore_n 2, 1, (0, 0, 0, 0), []), (39, .iload_n 2, 1, (0, 0, 0, 0), []), (40, .aload_n 0, 1, (0, 0, 0, 0), []), (41, .getfield 15, 3, (0, 7, 1, 0), [317]), (44, .if_icmp .ge 59, 3, (0, 0, 0, 0), []), (47, .aload_n 0, 1, (0, 0, 0, 0), []), (48, .getfield 35, 3, (0, 7, 6, 0), [325]), (51, .ifCond .ne 21, 3, (0, 0, 0, 0), []), (54, .aload_n 0, 1, (0, 0, 0, 0), []), (55, .getfield 32, 3, (0, 7, 5, 0), [323]), (58, .iload_n 2, 1, (0, 0, 0, 0), []), (59, .aload_n 0, 1, (0, 0, 0, 0), []), (60, .getfield 25, 3, (0, 7, 3, 0), [320]), (63, .getfield 87, 3, (1, 5, 0, 0), [208])]
def mc_X7_keepFilling_2 : List ax_EN := [(66, .iload_n 2, 1, (0, 0, 0, 0), []), (67, .iaload, 1, (0, 0, 0, 0), []), (68, .iastore, 1, (0, 0, 0, 0), []), (69, .goto 28, 3, (0, 0, 0, 0), []), (72, .aload_n 0, 1, (0, 0, 0, 0), []), (73, .getfield 32, 3, (0, 7, 5, 0), [323]), (76, .iload_n 2, 1, (0, 0, 0, 0), []), (77, .iaload, 1, (0, 0, 0, 0), []), (78, .aload_n 0, 1, (0, 0, 0, 0), []), (79, .getfield 25, 3, (0, 7, 3, 0), [320]), (82, .getfield 87, 3, (1, 5, 0, 0), [208]), (85, .iload_n 2, 1, (0, 0, 0, 0), []), (86, .iaload, 1, (0, 0, 0, 0), []), (87, .if_icmp .eq 10, 3, (0, 0, 0, 0), []), (90, .aload_n 0, 1, (0, 0, 0, 0), []), (91, .getfield 32, 3, (0, 7, 5, 0), [323]), (94, .iload_n 2, 1, (0, 0, 0, 0), []), (95, .iconst (-1), 1, (0, 0, 0, 0), [])]
def mc_X7_keepFilling_3 : List ax_EN := [(96, .iastore, 1, (0, 0, 0, 0), []), (97, .iinc 2 1, 3, (0, 0, 0, 0), []), (100, .goto (-61), 3, (0, 0, 0, 0), []), (103, .aload_n 0, 1, (0, 0, 0, 0), []), (104, .dup, 1, (0, 0, 0, 0), []), (105, .getfield 35, 3, (0, 7, 6, 0), [325]), (108, .iconst 1, 1, (0, 0, 0, 0), []), (109, .iadd, 1, (0, 0, 0, 0), []), (110, .putfield 35, 3, (0, 7, 6, 0), [325]), (113, .return_, 1, (0, 0, 0, 0), [])]
def mt_X7_keepFilling : ax_MI := (RX7, yX7_keepFilling, cX7_keepFilling, 3, none, 1, 0, 0, [mc_X7_keepFilling_0, mc_X7_keepFilling_1, mc_X7_keepFilling_2, mc_X7_keepFilling_3])
def mc_X7_sortWorths_0 : List ax_EN := [(0, .aload_n 0, 1, (0, 0, 0, 0), []), (1, .getfield 35, 3, (0, 7, 6, 0), [325]), (4, .iconst 2, 1, (0, 0, 0, 0), []), (5, .idiv, 1, (0, 0, 0, 0), []), (6, .istore_n 1, 1, (0, 0, 0, 0), []), (7, .iload_n 1, 1, (0, 0, 0, 0), []), (8, .ifCond .le 88, 3, (0, 0, 0, 0), []), (11, .iload_n 1, 1, (0, 0, 0, 0), []), (12, .istore_n 2, 1, (0, 0, 0, 0), []), (13, .iload_n 2, 1, (0, 0, 0, 0), []), (14, .aload_n 0, 1, (0, 0, 0, 0), []), (15, .getfield 35, 3, (0, 7, 6, 0), [325]), (18, .if_icmp .ge 71, 3, (0, 0, 0, 0), []), (21, .aload_n 0, 1, (0, 0, 0, 0), []), (22, .getfield 29, 3, (0, 7, 4, 0), [321]), (25, .iload_n 2, 1, (0, 0, 0, 0), []), (26, .iaload, 1, (0, 0, 0, 0), []), (27, .istore_n 3, 1, (0, 0, 0, 0), []), (28, .iload_n 2, 1, (0, 0, 0, 0), []), (29, .istore 4, 2, (0, 0, 0, 0), []), (31, .iload 4, 2, (0, 0, 0, 0), [])]
def mc_X7_sortWorths_1 : List ax_EN := [(33, .iload_n 1, 1, (0, 0, 0, 0), []), (34, .if_icmp .lt 41, 3, (0, 0, 0, 0), []), (37, .aload_n 0, 1, (0, 0, 0, 0), []), (38, .getfield 29, 3, (0, 7, 4, 0), [321]), (41, .iload 4, 2, (0, 0, 0, 0), []), (43, .iload_n 1, 1, (0, 0, 0, 0), []), (44, .isub, 1, (0, 0, 0, 0), []), (45, .iaload, 1, (0, 0, 0, 0), []), (46, .iload_n 3, 1, (0, 0, 0, 0), []), (47, .if_icmp .le 28, 3, (0, 0, 0, 0), []), (50, .aload_n 0, 1, (0, 0, 0, 0), []), (51, .getfield 29, 3, (0, 7, 4, 0), [321]), (54, .iload 4, 2, (0, 0, 0, 0), []), (56, .aload_n 0, 1, (0, 0, 0, 0), []), (57, .getfield 29, 3, (0, 7, 4, 0), [321]), (60, .iload 4, 2, (0, 0, 0, 0), []), (62, .iload_n 1, 1, (0, 0, 0, 0), []), (63, .isub, 1, (0, 0, 0, 0), [])]
def mc_X7_sortWorths_2 : List ax_EN := [(64, .iaload, 1, (0, 0, 0, 0), []), (65, .iastore, 1, (0, 0, 0, 0), []), (66, .iload 4, 2, (0, 0, 0, 0), []), (68, .iload_n 1, 1, (0, 0, 0, 0), []), (69, .isub, 1, (0, 0, 0, 0), []), (70, .istore 4, 2, (0, 0, 0, 0), []), (72, .goto (-41), 3, (0, 0, 0, 0), []), (75, .aload_n 0, 1, (0, 0, 0, 0), []), (76, .getfield 29, 3, (0, 7, 4, 0), [321]), (79, .iload 4, 2, (0, 0, 0, 0), []), (81, .iload_n 3, 1, (0, 0, 0, 0), []), (82, .iastore, 1, (0, 0, 0, 0), []), (83, .iinc 2 1, 3, (0, 0, 0, 0), []), (86, .goto (-73), 3, (0, 0, 0, 0), []), (89, .iload_n 1, 1, (0, 0, 0, 0), []), (90, .iconst 2, 1, (0, 0, 0, 0), []), (91, .idiv, 1, (0, 0, 0, 0), []), (92, .istore_n 1, 1, (0, 0, 0, 0), []), (93, .goto (-86), 3, (0, 0, 0, 0), [])]
def mc_X7_sortWorths_3 : List ax_EN := [(96, .return_, 1, (0, 0, 0, 0), [])]
def mt_X7_sortWorths : ax_MI := (RX7, yX7_sortWorths, cX7_sortWorths, 5, none, 0, 0, 0, [mc_X7_sortWorths_0, mc_X7_sortWorths_1, mc_X7_sortWorths_2, mc_X7_sortWorths_3])
def mc_X7_dropLikeWorths_0 : List ax_EN := [(0, .aload_n 0, 1, (0, 0, 0, 0), []), (1, .iconst 0, 1, (0, 0, 0, 0), []), (2, .putfield 38, 3, (0, 7, 7, 0), [326]), (5, .iconst 0, 1, (0, 0, 0, 0), []), (6, .istore_n 1, 1, (0, 0, 0, 0), []), (7, .iload_n 1, 1, (0, 0, 0, 0), []), (8, .aload_n 0, 1, (0, 0, 0, 0), []), (9, .getfield 35, 3, (0, 7, 6, 0), [325]), (12, .if_icmp .ge 61, 3, (0, 0, 0, 0), []), (15, .aload_n 0, 1, (0, 0, 0, 0), []), (16, .getfield 38, 3, (0, 7, 7, 0), [326]), (19, .ifCond .eq 23, 3, (0, 0, 0, 0), []), (22, .aload_n 0, 1, (0, 0, 0, 0), []), (23, .getfield 29, 3, (0, 7, 4, 0), [321]), (26, .iload_n 1, 1, (0, 0, 0, 0), []), (27, .iaload, 1, (0, 0, 0, 0), []), (28, .aload_n 0, 1, (0, 0, 0, 0), []), (29, .getfield 29, 3, (0, 7, 4, 0), [321])]
def mc_X7_dropLikeWorths_1 : List ax_EN := [(32, .aload_n 0, 1, (0, 0, 0, 0), []), (33, .getfield 38, 3, (0, 7, 7, 0), [326]), (36, .iconst 1, 1, (0, 0, 0, 0), []), (37, .isub, 1, (0, 0, 0, 0), []), (38, .iaload, 1, (0, 0, 0, 0), []), (39, .if_icmp .eq 28, 3, (0, 0, 0, 0), []), (42, .aload_n 0, 1, (0, 0, 0, 0), []), (43, .getfield 29, 3, (0, 7, 4, 0), [321]), (46, .aload_n 0, 1, (0, 0, 0, 0), []), (47, .getfield 38, 3, (0, 7, 7, 0), [326]), (50, .aload_n 0, 1, (0, 0, 0, 0), []), (51, .getfield 29, 3, (0, 7, 4, 0), [321]), (54, .iload_n 1, 1, (0, 0, 0, 0), []), (55, .iaload, 1, (0, 0, 0, 0), []), (56, .iastore, 1, (0, 0, 0, 0), []), (57, .aload_n 0, 1, (0, 0, 0, 0), []), (58, .dup, 1, (0, 0, 0, 0), []), (59, .getfield 38, 3, (0, 7, 7, 0), [326]), (62, .iconst 1, 1, (0, 0, 0, 0), []), (63, .iadd, 1, (0, 0, 0, 0), [])]
def mc_X7_dropLikeWorths_2 : List ax_EN := [(64, .putfield 38, 3, (0, 7, 7, 0), [326]), (67, .iinc 1 1, 3, (0, 0, 0, 0), []), (70, .goto (-63), 3, (0, 0, 0, 0), []), (73, .return_, 1, (0, 0, 0, 0), [])]
def mt_X7_dropLikeWorths : ax_MI := (RX7, yX7_dropLikeWorths, cX7_dropLikeWorths, 2, none, 0, 0, 0, [mc_X7_dropLikeWorths_0, mc_X7_dropLikeWorths_1, mc_X7_dropLikeWorths_2])
def mc_X7_digestOn_0 : List ax_EN := [(0, .iconst 0, 1, (0, 0, 0, 0), []), (1, .istore_n 3, 1, (0, 0, 0, 0), []), (2, .iload_n 3, 1, (0, 0, 0, 0), []), (3, .aload_n 0, 1, (0, 0, 0, 0), []), (4, .getfield 15, 3, (0, 7, 1, 0), [317]), (7, .if_icmp .ge 21, 3, (0, 0, 0, 0), []), (10, .lload_n 1, 1, (0, 0, 0, 0), []), (11, .aload_n 0, 1, (0, 0, 0, 0), []), (12, .getfield 11, 3, (0, 7, 0, 0), [316]), (15, .iload_n 3, 1, (0, 0, 0, 0), []), (16, .iaload, 1, (0, 0, 0, 0), []), (17, .i2l, 1, (0, 0, 0, 0), []), (18, .invokestatic 93, 3, (4, 139, 0, 0), [1083, 1105]), (21, .lstore_n 1, 1, (0, 0, 0, 0), []), (22, .iinc 3 1, 3, (0, 0, 0, 0), []), (25, .goto (-23), 3, (0, 0, 0, 0), []), (28, .lload_n 1, 1, (0, 0, 0, 0), []), (29, .aload_n 0, 1, (0, 0, 0, 0), []), (30, .getfield 19, 3, (0, 7, 2, 0), [319])]
def mc_X7_digestOn_1 : List ax_EN := [(33, .aload_n 0, 1, (0, 0, 0, 0), []), (34, .getfield 15, 3, (0, 7, 1, 0), [317]), (37, .if_icmp .le 7, 3, (0, 0, 0, 0), []), (40, .lconst 1, 1, (0, 0, 0, 0), []), (41, .goto 4, 3, (0, 0, 0, 0), []), (44, .lconst 0, 1, (0, 0, 0, 0), []), (45, .invokestatic 93, 3, (4, 139, 0, 0), [1083, 1105]), (48, .lreturn, 1, (0, 0, 0, 0), [])]
def mt_X7_digestOn : ax_MI := (RX7, yX7_digestOn, cX7_digestOn, 4, (some .long), 1, 0, 0, [mc_X7_digestOn_0, mc_X7_digestOn_1])
def mc_X8_init_0 : List ax_EN := [(0, .aload_n 0, 1, (0, 0, 0, 0), []), (1, .invokespecial 3, 3, (8, 0, 0, 0), [176, 140, 141]), (4, .aload_n 0, 1, (0, 0, 0, 0), []), (5, .bipush 15, 2, (0, 0, 0, 0), []), (7, .newarray .int, 2, (5, 0, 0, 0), [160]), (9, .putfield 9, 3, (0, 8, 0, 0), [183]), (12, .aload_n 0, 1, (0, 0, 0, 0), []), (13, .bipush 15, 2, (0, 0, 0, 0), []), (15, .newarray .int, 2, (5, 0, 0, 0), [160]), (17, .putfield 15, 3, (0, 8, 1, 0), [185]), (20, .aload_n 0, 1, (0, 0, 0, 0), []), (21, .bipush 15, 2, (0, 0, 0, 0), []), (23, .newarray .int, 2, (5, 0, 0, 0), [160]), (25, .putfield 18, 3, (0, 8, 2, 0), [187]), (28, .iconst 0, 1, (0, 0, 0, 0), []), (29, .istore_n 2, 1, (0, 0, 0, 0), []), (30, .iconst 0, 1, (0, 0, 0, 0), []), (31, .istore_n 3, 1, (0, 0, 0, 0), [])]
def mc_X8_init_1 : List ax_EN := [(32, .iload_n 3, 1, (0, 0, 0, 0), []), (33, .bipush 14, 2, (0, 0, 0, 0), []), (35, .if_icmp .gt 92, 3, (0, 0, 0, 0), []), (38, .aload_n 0, 1, (0, 0, 0, 0), []), (39, .getfield 9, 3, (0, 8, 0, 0), [183]), (42, .iload_n 3, 1, (0, 0, 0, 0), []), (43, .iload_n 3, 1, (0, 0, 0, 0), []), (44, .bipush 14, 2, (0, 0, 0, 0), []), (46, .if_icmp .ge 11, 3, (0, 0, 0, 0), []), (49, .getstatic 21, 3, (1, 0, 0, 0), [177]), (52, .iload_n 3, 1, (0, 0, 0, 0), []), (53, .iaload, 1, (0, 0, 0, 0), []), (54, .goto 5, 3, (0, 0, 0, 0), []), (57, .ldc 24, 2, (6, 0, 0, 10000000), [179]), (59, .iastore, 1, (0, 0, 0, 0), []), (60, .iload_n 3, 1, (0, 0, 0, 0), []), (61, .ifCond .ne 7, 3, (0, 0, 0, 0), [])]
def mc_X8_init_2 : List ax_EN := [(64, .iconst 0, 1, (0, 0, 0, 0), []), (65, .goto 21, 3, (0, 0, 0, 0), []), (68, .bipush 24, 2, (0, 0, 0, 0), []), (70, .aload_n 0, 1, (0, 0, 0, 0), []), (71, .getfield 9, 3, (0, 8, 0, 0), [183]), (74, .iload_n 3, 1, (0, 0, 0, 0), []), (75, .iconst 1, 1, (0, 0, 0, 0), []), (76, .isub, 1, (0, 0, 0, 0), []), (77, .iaload, 1, (0, 0, 0, 0), []), (78, .imul, 1, (0, 0, 0, 0), []), (79, .aload_n 0, 1, (0, 0, 0, 0), []), (80, .getfield 9, 3, (0, 8, 0, 0), [183]), (83, .iload_n 3, 1, (0, 0, 0, 0), []), (84, .iaload, 1, (0, 0, 0, 0), []), (85, .idiv, 1, (0, 0, 0, 0), []), (86, .istore 4, 2, (0, 0, 0, 0), []), (88, .aload_n 0, 1, (0, 0, 0, 0), []), (89, .getfield 15, 3, (0, 8, 1, 0), [185]), (92, .iload_n 3, 1, (0, 0, 0, 0), []), (93, .bipush 24, 2, (0, 0, 0, 0), []), (95, .iload 4, 2, (0, 0, 0, 0), [])]
def mc_X8_init_3 : List ax_EN := [(97, .iload_n 1, 1, (0, 0, 0, 0), []), (98, .iadd, 1, (0, 0, 0, 0), []), (99, .invokestatic 25, 3, (9, 0, 0, 0), [180, 181, 120, 182]), (102, .iastore, 1, (0, 0, 0, 0), []), (103, .aload_n 0, 1, (0, 0, 0, 0), []), (104, .getfield 18, 3, (0, 8, 2, 0), [187]), (107, .iload_n 3, 1, (0, 0, 0, 0), []), (108, .iload_n 2, 1, (0, 0, 0, 0), []), (109, .iastore, 1, (0, 0, 0, 0), []), (110, .iload_n 2, 1, (0, 0, 0, 0), []), (111, .aload_n 0, 1, (0, 0, 0, 0), []), (112, .getfield 15, 3, (0, 8, 1, 0), [185]), (115, .iload_n 3, 1, (0, 0, 0, 0), []), (116, .iaload, 1, (0, 0, 0, 0), []), (117, .iconst 1, 1, (0, 0, 0, 0), []), (118, .iadd, 1, (0, 0, 0, 0), []), (119, .iadd, 1, (0, 0, 0, 0), []), (120, .istore_n 2, 1, (0, 0, 0, 0), []), (121, .iinc 3 1, 3, (0, 0, 0, 0), []), (124, .goto (-92), 3, (0, 0, 0, 0), []), (127, .aload_n 0, 1, (0, 0, 0, 0), [])]
def mc_X8_init_4 : List ax_EN := [(128, .iload_n 2, 1, (0, 0, 0, 0), []), (129, .bipush 25, 2, (0, 0, 0, 0), []), (131, .imul, 1, (0, 0, 0, 0), []), (132, .newarray .int, 2, (5, 0, 0, 0), [160]), (134, .putfield 31, 3, (0, 8, 3, 0), [188]), (137, .return_, 1, (0, 0, 0, 0), [])]
def mt_X8_init : ax_MI := (RX8, yX8_init, cX8_init, 5, none, 1, 4, 3820, [mc_X8_init_0, mc_X8_init_1, mc_X8_init_2, mc_X8_init_3, mc_X8_init_4])
def mc_X8_startOf_0 : List ax_EN := [(0, .aload_n 0, 1, (0, 0, 0, 0), []), (1, .getfield 18, 3, (0, 8, 2, 0), [187]), (4, .iload_n 1, 1, (0, 0, 0, 0), []), (5, .iaload, 1, (0, 0, 0, 0), []), (6, .iload_n 2, 1, (0, 0, 0, 0), []), (7, .iadd, 1, (0, 0, 0, 0), []), (8, .bipush 25, 2, (0, 0, 0, 0), []), (10, .imul, 1, (0, 0, 0, 0), []), (11, .ireturn, 1, (0, 0, 0, 0), [])]
def mt_X8_startOf : ax_MI := (RX8, yX8_startOf, cX8_startOf, 3, (some .int), 2, 0, 0, [mc_X8_startOf_0])
def mc_X8_startFor_0 : List ax_EN := [(0, .iload_n 2, 1, (0, 0, 0, 0), []), (1, .ifCond .ge 5, 3, (0, 0, 0, 0), []), (4, .iconst (-1), 1, (0, 0, 0, 0), []), (5, .ireturn, 1, (0, 0, 0, 0), []), (6, .iload_n 2, 1, (0, 0, 0, 0), []), (7, .aload_n 0, 1, (0, 0, 0, 0), []), (8, .getfield 9, 3, (0, 8, 0, 0), [183]), (11, .iload_n 1, 1, (0, 0, 0, 0), []), (12, .iaload, 1, (0, 0, 0, 0), []), (13, .idiv, 1, (0, 0, 0, 0), []), (14, .istore_n 3, 1, (0, 0, 0, 0), []), (15, .iload_n 3, 1, (0, 0, 0, 0), []), (16, .aload_n 0, 1, (0, 0, 0, 0), []), (17, .getfield 15, 3, (0, 8, 1, 0), [185]), (20, .iload_n 1, 1, (0, 0, 0, 0), []), (21, .iaload, 1, (0, 0, 0, 0), []), (22, .if_icmp .le 7, 3, (0, 0, 0, 0), []), (25, .iconst (-1), 1, (0, 0, 0, 0), []), (26, .goto 14, 3, (0, 0, 0, 0), []), (29, .aload_n 0, 1, (0, 0, 0, 0), []), (30, .getfield 18, 3, (0, 8, 2, 0), [187])]
def mc_X8_startFor_1 : List ax_EN := [(33, .iload_n 1, 1, (0, 0, 0, 0), []), (34, .iaload, 1, (0, 0, 0, 0), []), (35, .iload_n 3, 1, (0, 0, 0, 0), []), (36, .iadd, 1, (0, 0, 0, 0), []), (37, .bipush 25, 2, (0, 0, 0, 0), []), (39, .imul, 1, (0, 0, 0, 0), []), (40, .ireturn, 1, (0, 0, 0, 0), [])]
def mt_X8_startFor : ax_MI := (RX8, yX8_startFor, cX8_startFor, 4, (some .int), 2, 0, 0, [mc_X8_startFor_0, mc_X8_startFor_1])
def mc_X8_clearAt_0 : List ax_EN := [(0, .iconst 0, 1, (0, 0, 0, 0), []), (1, .istore_n 2, 1, (0, 0, 0, 0), []), (2, .iload_n 2, 1, (0, 0, 0, 0), []), (3, .bipush 25, 2, (0, 0, 0, 0), []), (5, .if_icmp .ge 18, 3, (0, 0, 0, 0), []), (8, .aload_n 0, 1, (0, 0, 0, 0), []), (9, .getfield 31, 3, (0, 8, 3, 0), [188]), (12, .iload_n 1, 1, (0, 0, 0, 0), []), (13, .iload_n 2, 1, (0, 0, 0, 0), []), (14, .iadd, 1, (0, 0, 0, 0), []), (15, .iconst 0, 1, (0, 0, 0, 0), []), (16, .iastore, 1, (0, 0, 0, 0), []), (17, .iinc 2 1, 3, (0, 0, 0, 0), []), (20, .goto (-18), 3, (0, 0, 0, 0), []), (23, .return_, 1, (0, 0, 0, 0), [])]
def mt_X8_clearAt : ax_MI := (RX8, yX8_clearAt, cX8_clearAt, 3, none, 1, 0, 0, [mc_X8_clearAt_0])
def mc_X8_addAt_0 : List ax_EN := [(0, .aload_n 2, 1, (0, 0, 0, 0), []), (1, .iload_n 3, 1, (0, 0, 0, 0), []), (2, .iload 4, 2, (0, 0, 0, 0), []), (4, .invokevirtual 34, 3, (3, 85, 8, 0), [739, 22, 737]), (7, .istore 6, 2, (0, 0, 0, 0), []), (9, .iload 6, 2, (0, 0, 0, 0), []), (11, .iconst (-1), 1, (0, 0, 0, 0), []), (12, .if_icmp .ne 4, 3, (0, 0, 0, 0), []), (15, .return_, 1, (0, 0, 0, 0), []), (16, .iload 5, 2, (0, 0, 0, 0), []), (18, .istore 7, 2, (0, 0, 0, 0), []), (20, .iload 7, 2, (0, 0, 0, 0), []), (22, .bipush 25, 2, (0, 0, 0, 0), []), (24, .if_icmp .ge 51, 3, (0, 0, 0, 0), []), (27, .aload_n 0, 1, (0, 0, 0, 0), []), (28, .getfield 31, 3, (0, 8, 3, 0), [188]), (31, .iload_n 1, 1, (0, 0, 0, 0), [])]
def mc_X8_addAt_1 : List ax_EN := [(32, .iload 7, 2, (0, 0, 0, 0), []), (34, .iadd, 1, (0, 0, 0, 0), []), (35, .iaload, 1, (0, 0, 0, 0), []), (36, .aload_n 2, 1, (0, 0, 0, 0), []), (37, .getfield 31, 3, (0, 8, 3, 0), [188]), (40, .iload 6, 2, (0, 0, 0, 0), []), (42, .iload 7, 2, (0, 0, 0, 0), []), (44, .iadd, 1, (0, 0, 0, 0), []), (45, .iload 5, 2, (0, 0, 0, 0), []), (47, .isub, 1, (0, 0, 0, 0), []), (48, .iaload, 1, (0, 0, 0, 0), []), (49, .iadd, 1, (0, 0, 0, 0), []), (50, .istore 8, 2, (0, 0, 0, 0), []), (52, .aload_n 0, 1, (0, 0, 0, 0), []), (53, .getfield 31, 3, (0, 8, 3, 0), [188]), (56, .iload_n 1, 1, (0, 0, 0, 0), []), (57, .iload 7, 2, (0, 0, 0, 0), []), (59, .iadd, 1, (0, 0, 0, 0), []), (60, .sipush 5000, 3, (0, 0, 0, 0), []), (63, .iload 8, 2, (0, 0, 0, 0), [])]
def mc_X8_addAt_2 : List ax_EN := [(65, .invokestatic 25, 3, (9, 0, 0, 0), [180, 181, 120, 182]), (68, .iastore, 1, (0, 0, 0, 0), []), (69, .iinc 7 1, 3, (0, 0, 0, 0), []), (72, .goto (-52), 3, (0, 0, 0, 0), []), (75, .return_, 1, (0, 0, 0, 0), [])]
def mt_X8_addAt : ax_MI := (RX8, yX8_addAt, cX8_addAt, 9, none, 5, 0, 0, [mc_X8_addAt_0, mc_X8_addAt_1, mc_X8_addAt_2])
def mc_X8_exactly_0 : List ax_EN := [(0, .aload_n 0, 1, (0, 0, 0, 0), []), (1, .iload_n 1, 1, (0, 0, 0, 0), []), (2, .iload_n 2, 1, (0, 0, 0, 0), []), (3, .invokevirtual 34, 3, (3, 85, 8, 0), [739, 22, 737]), (6, .istore 4, 2, (0, 0, 0, 0), []), (8, .iload 4, 2, (0, 0, 0, 0), []), (10, .iconst (-1), 1, (0, 0, 0, 0), []), (11, .if_icmp .eq 13, 3, (0, 0, 0, 0), []), (14, .iload_n 3, 1, (0, 0, 0, 0), []), (15, .ifCond .lt 9, 3, (0, 0, 0, 0), []), (18, .iload_n 3, 1, (0, 0, 0, 0), []), (19, .bipush 24, 2, (0, 0, 0, 0), []), (21, .if_icmp .le 7, 3, (0, 0, 0, 0), []), (24, .iconst 0, 1, (0, 0, 0, 0), []), (25, .goto 12, 3, (0, 0, 0, 0), []), (28, .aload_n 0, 1, (0, 0, 0, 0), []), (29, .getfield 31, 3, (0, 8, 3, 0), [188])]
def mc_X8_exactly_1 : List ax_EN := [(32, .iload 4, 2, (0, 0, 0, 0), []), (34, .iload_n 3, 1, (0, 0, 0, 0), []), (35, .iadd, 1, (0, 0, 0, 0), []), (36, .iaload, 1, (0, 0, 0, 0), []), (37, .ireturn, 1, (0, 0, 0, 0), [])]
def mt_X8_exactly : ax_MI := (RX8, yX8_exactly, cX8_exactly, 5, (some .int), 3, 0, 0, [mc_X8_exactly_0, mc_X8_exactly_1])
def mc_X8_atMost_0 : List ax_EN := [(0, .aload_n 0, 1, (0, 0, 0, 0), []), (1, .iload_n 1, 1, (0, 0, 0, 0), []), (2, .iload_n 2, 1, (0, 0, 0, 0), []), (3, .invokevirtual 34, 3, (3, 85, 8, 0), [739, 22, 737]), (6, .istore 4, 2, (0, 0, 0, 0), []), (8, .iload 4, 2, (0, 0, 0, 0), []), (10, .iconst (-1), 1, (0, 0, 0, 0), []), (11, .if_icmp .ne 5, 3, (0, 0, 0, 0), []), (14, .iconst 0, 1, (0, 0, 0, 0), []), (15, .ireturn, 1, (0, 0, 0, 0), []), (16, .iconst 0, 1, (0, 0, 0, 0), []), (17, .istore 5, 2, (0, 0, 0, 0), []), (19, .iconst 0, 1, (0, 0, 0, 0), []), (20, .istore 6, 2, (0, 0, 0, 0), []), (22, .iload 6, 2, (0, 0, 0, 0), []), (24, .iload_n 3, 1, (0, 0, 0, 0), []), (25, .if_icmp .gt 31, 3, (0, 0, 0, 0), []), (28, .iload 6, 2, (0, 0, 0, 0), []), (30, .bipush 24, 2, (0, 0, 0, 0), [])]
def mc_X8_atMost_1 : List ax_EN := [(32, .if_icmp .gt 24, 3, (0, 0, 0, 0), []), (35, .iload 5, 2, (0, 0, 0, 0), []), (37, .aload_n 0, 1, (0, 0, 0, 0), []), (38, .getfield 31, 3, (0, 8, 3, 0), [188]), (41, .iload 4, 2, (0, 0, 0, 0), []), (43, .iload 6, 2, (0, 0, 0, 0), []), (45, .iadd, 1, (0, 0, 0, 0), []), (46, .iaload, 1, (0, 0, 0, 0), []), (47, .iadd, 1, (0, 0, 0, 0), []), (48, .istore 5, 2, (0, 0, 0, 0), []), (50, .iinc 6 1, 3, (0, 0, 0, 0), []), (53, .goto (-31), 3, (0, 0, 0, 0), []), (56, .sipush 5000, 3, (0, 0, 0, 0), []), (59, .iload 5, 2, (0, 0, 0, 0), []), (61, .invokestatic 25, 3, (9, 0, 0, 0), [180, 181, 120, 182])]
def mc_X8_atMost_2 : List ax_EN := [(64, .ireturn, 1, (0, 0, 0, 0), [])]
def mt_X8_atMost : ax_MI := (RX8, yX8_atMost, cX8_atMost, 7, (some .int), 3, 0, 0, [mc_X8_atMost_0, mc_X8_atMost_1, mc_X8_atMost_2])
def mc_X9_init_0 : List ax_EN := [(0, .aload_n 0, 1, (0, 0, 0, 0), []), (1, .invokespecial 3, 3, (8, 0, 0, 0), [170, 140, 141]), (4, .aload_n 0, 1, (0, 0, 0, 0), []), (5, .new 9, 3, (5, 8, 4, 0), [171, 172, 119]), (8, .dup, 1, (0, 0, 0, 0), []), (9, .iconst 0, 1, (0, 0, 0, 0), []), (10, .invokespecial 11, 3, (4, 83, 0, 0), [174, 173]), (13, .putfield 14, 3, (0, 9, 0, 0), [247]), (16, .aload_n 0, 1, (0, 0, 0, 0), []), (17, .new 9, 3, (5, 8, 4, 0), [171, 172, 119]), (20, .dup, 1, (0, 0, 0, 0), []), (21, .iconst 1, 1, (0, 0, 0, 0), []), (22, .invokespecial 11, 3, (4, 83, 0, 0), [174, 173]), (25, .putfield 20, 3, (0, 9, 1, 0), [248]), (28, .aload_n 0, 1, (0, 0, 0, 0), []), (29, .new 23, 3, (5, 5, 2, 0), [199, 200, 121])]
def mc_X9_init_1 : List ax_EN := [(32, .dup, 1, (0, 0, 0, 0), []), (33, .invokespecial 25, 3, (4, 56, 0, 0), [202, 201]), (36, .putfield 26, 3, (0, 9, 2, 0), [249]), (39, .aload_n 0, 1, (0, 0, 0, 0), []), (40, .new 30, 3, (5, 1, 3, 0), [224, 225, 122]), (43, .dup, 1, (0, 0, 0, 0), []), (44, .invokespecial 32, 3, (4, 17, 0, 0), [227, 226]), (47, .putfield 33, 3, (0, 9, 3, 0), [251]), (50, .aload_n 0, 1, (0, 0, 0, 0), []), (51, .iconst (-1), 1, (0, 0, 0, 0), []), (52, .putfield 37, 3, (0, 9, 4, 0), [252]), (55, .aload_n 0, 1, (0, 0, 0, 0), []), (56, .iconst 0, 1, (0, 0, 0, 0), []), (57, .putfield 41, 3, (0, 9, 5, 0), [253]), (60, .aload_n 0, 1, (0, 0, 0, 0), []), (61, .iconst 0, 1, (0, 0, 0, 0), []), (62, .putfield 44, 3, (0, 9, 6, 0), [254])]
def mc_X9_init_2 : List ax_EN := [(65, .aload_n 0, 1, (0, 0, 0, 0), []), (66, .iconst 0, 1, (0, 0, 0, 0), []), (67, .putfield 47, 3, (0, 9, 7, 0), [255]), (70, .aload_n 0, 1, (0, 0, 0, 0), []), (71, .iconst (-1), 1, (0, 0, 0, 0), []), (72, .putfield 50, 3, (0, 9, 8, 0), [256]), (75, .aload_n 0, 1, (0, 0, 0, 0), []), (76, .iconst 0, 1, (0, 0, 0, 0), []), (77, .putfield 53, 3, (0, 9, 9, 0), [257]), (80, .return_, 1, (0, 0, 0, 0), [])]
def mt_X9_init : ax_MI := (RX9, yX9_init, cX9_init, 1, none, 0, 16, 7719, [mc_X9_init_0, mc_X9_init_1, mc_X9_init_2])
def mc_X9_prepare_0 : List ax_EN := [(0, .iload_n 2, 1, (0, 0, 0, 0), []), (1, .aload_n 0, 1, (0, 0, 0, 0), []), (2, .getfield 37, 3, (0, 9, 4, 0), [252]), (5, .if_icmp .ne 12, 3, (0, 0, 0, 0), []), (8, .iload_n 3, 1, (0, 0, 0, 0), []), (9, .aload_n 0, 1, (0, 0, 0, 0), []), (10, .getfield 41, 3, (0, 9, 5, 0), [253]), (13, .if_icmp .ne 4, 3, (0, 0, 0, 0), []), (16, .return_, 1, (0, 0, 0, 0), []), (17, .aload_n 0, 1, (0, 0, 0, 0), []), (18, .aload_n 1, 1, (0, 0, 0, 0), []), (19, .putfield 33, 3, (0, 9, 3, 0), [251]), (22, .aload_n 0, 1, (0, 0, 0, 0), []), (23, .iload_n 2, 1, (0, 0, 0, 0), []), (24, .putfield 37, 3, (0, 9, 4, 0), [252]), (27, .aload_n 0, 1, (0, 0, 0, 0), []), (28, .iload_n 3, 1, (0, 0, 0, 0), []), (29, .putfield 41, 3, (0, 9, 5, 0), [253])]
def mc_X9_prepare_1 : List ax_EN := [(32, .aload_n 0, 1, (0, 0, 0, 0), []), (33, .getfield 14, 3, (0, 9, 0, 0), [247]), (36, .getfield 56, 3, (1, 8, 3, 0), [189]), (39, .iconst 0, 1, (0, 0, 0, 0), []), (40, .iconst 1, 1, (0, 0, 0, 0), []), (41, .iastore, 1, (0, 0, 0, 0), []), (42, .iconst 0, 1, (0, 0, 0, 0), []), (43, .istore 4, 2, (0, 0, 0, 0), []), (45, .iload 4, 2, (0, 0, 0, 0), []), (47, .bipush 14, 2, (0, 0, 0, 0), []), (49, .if_icmp .ge 21, 3, (0, 0, 0, 0), []), (52, .aload_n 0, 1, (0, 0, 0, 0), []), (53, .iload 4, 2, (0, 0, 0, 0), []), (55, .invokevirtual 60, 3, (3, 92, 9, 0), [722, 18, 720]), (58, .aload_n 0, 1, (0, 0, 0, 0), []), (59, .iload 4, 2, (0, 0, 0, 0), []), (61, .invokevirtual 63, 3, (3, 93, 9, 0), [745, 23, 743])]
def mc_X9_prepare_2 : List ax_EN := [(64, .iinc 4 1, 3, (0, 0, 0, 0), []), (67, .goto (-22), 3, (0, 0, 0, 0), []), (70, .return_, 1, (0, 0, 0, 0), [])]
def mt_X9_prepare : ax_MI := (RX9, yX9_prepare, cX9_prepare, 5, none, 3, 0, 0, [mc_X9_prepare_0, mc_X9_prepare_1, mc_X9_prepare_2])
def mc_X9_countTakings_0 : List ax_EN := [(0, .getstatic 66, 3, (1, 0, 0, 0), [724]), (3, .iload_n 1, 1, (0, 0, 0, 0), []), (4, .iaload, 1, (0, 0, 0, 0), []), (5, .istore_n 2, 1, (0, 0, 0, 0), []), (6, .iconst 0, 1, (0, 0, 0, 0), []), (7, .istore_n 3, 1, (0, 0, 0, 0), []), (8, .iload_n 3, 1, (0, 0, 0, 0), []), (9, .aload_n 0, 1, (0, 0, 0, 0), []), (10, .getfield 20, 3, (0, 9, 1, 0), [248]), (13, .getfield 69, 3, (1, 8, 1, 0), [186]), (16, .iload_n 1, 1, (0, 0, 0, 0), []), (17, .iaload, 1, (0, 0, 0, 0), []), (18, .if_icmp .gt 155, 3, (0, 0, 0, 0), []), (21, .aload_n 0, 1, (0, 0, 0, 0), []), (22, .getfield 41, 3, (0, 9, 5, 0), [253]), (25, .iload_n 2, 1, (0, 0, 0, 0), []), (26, .irem, 1, (0, 0, 0, 0), []), (27, .iload_n 3, 1, (0, 0, 0, 0), []), (28, .iload_n 2, 1, (0, 0, 0, 0), []), (29, .imul, 1, (0, 0, 0, 0), []), (30, .iadd, 1, (0, 0, 0, 0), []), (31, .istore 4, 2, (0, 0, 0, 0), [])]
def mc_X9_countTakings_1 : List ax_EN := [(33, .aload_n 0, 1, (0, 0, 0, 0), []), (34, .getfield 20, 3, (0, 9, 1, 0), [248]), (37, .iload_n 1, 1, (0, 0, 0, 0), []), (38, .iload_n 3, 1, (0, 0, 0, 0), []), (39, .invokevirtual 72, 3, (4, 84, 8, 0), [727, 19, 725]), (42, .istore 5, 2, (0, 0, 0, 0), []), (44, .aload_n 0, 1, (0, 0, 0, 0), []), (45, .getfield 20, 3, (0, 9, 1, 0), [248]), (48, .iload 5, 2, (0, 0, 0, 0), []), (50, .invokevirtual 76, 3, (4, 86, 8, 0), [731, 20, 729]), (53, .aload_n 0, 1, (0, 0, 0, 0), []), (54, .getfield 20, 3, (0, 9, 1, 0), [248]), (57, .iload 5, 2, (0, 0, 0, 0), []), (59, .aload_n 0, 1, (0, 0, 0, 0), []), (60, .getfield 14, 3, (0, 9, 0, 0), [247]), (63, .iload_n 1, 1, (0, 0, 0, 0), [])]
def mc_X9_countTakings_2 : List ax_EN := [(64, .iload 4, 2, (0, 0, 0, 0), []), (66, .iconst 0, 1, (0, 0, 0, 0), []), (67, .invokevirtual 79, 3, (4, 87, 8, 0), [735, 21, 733]), (70, .iconst 0, 1, (0, 0, 0, 0), []), (71, .istore 6, 2, (0, 0, 0, 0), []), (73, .iload 6, 2, (0, 0, 0, 0), []), (75, .iload_n 1, 1, (0, 0, 0, 0), []), (76, .if_icmp .ge 91, 3, (0, 0, 0, 0), []), (79, .aload_n 0, 1, (0, 0, 0, 0), []), (80, .getfield 33, 3, (0, 9, 3, 0), [251]), (83, .iload 6, 2, (0, 0, 0, 0), []), (85, .iload_n 1, 1, (0, 0, 0, 0), []), (86, .invokevirtual 83, 3, (4, 25, 1, 0), [635, 6, 741]), (89, .ifCond .eq 30, 3, (0, 0, 0, 0), []), (92, .aload_n 0, 1, (0, 0, 0, 0), []), (93, .getfield 20, 3, (0, 9, 1, 0), [248])]
def mc_X9_countTakings_3 : List ax_EN := [(96, .iload 5, 2, (0, 0, 0, 0), []), (98, .aload_n 0, 1, (0, 0, 0, 0), []), (99, .getfield 14, 3, (0, 9, 0, 0), [247]), (102, .iload 6, 2, (0, 0, 0, 0), []), (104, .iload 4, 2, (0, 0, 0, 0), []), (106, .iload_n 2, 1, (0, 0, 0, 0), []), (107, .isub, 1, (0, 0, 0, 0), []), (108, .getstatic 66, 3, (1, 0, 0, 0), [724]), (111, .iload 6, 2, (0, 0, 0, 0), []), (113, .iaload, 1, (0, 0, 0, 0), []), (114, .iadd, 1, (0, 0, 0, 0), []), (115, .iconst 2, 1, (0, 0, 0, 0), []), (116, .invokevirtual 79, 3, (4, 87, 8, 0), [735, 21, 733]), (119, .aload_n 0, 1, (0, 0, 0, 0), []), (120, .getfield 33, 3, (0, 9, 3, 0), [251]), (123, .iload 6, 2, (0, 0, 0, 0), []), (125, .iload_n 1, 1, (0, 0, 0, 0), []), (126, .invokevirtual 87, 3, (4, 26, 1, 0), [639, 7, 742])]
def mc_X9_countTakings_4 : List ax_EN := [(129, .ifCond .eq 32, 3, (0, 0, 0, 0), []), (132, .aload_n 0, 1, (0, 0, 0, 0), []), (133, .getfield 20, 3, (0, 9, 1, 0), [248]), (136, .iload 5, 2, (0, 0, 0, 0), []), (138, .aload_n 0, 1, (0, 0, 0, 0), []), (139, .getfield 14, 3, (0, 9, 0, 0), [247]), (142, .iload 6, 2, (0, 0, 0, 0), []), (144, .iload 4, 2, (0, 0, 0, 0), []), (146, .iload_n 2, 1, (0, 0, 0, 0), []), (147, .isub, 1, (0, 0, 0, 0), []), (148, .iconst 2, 1, (0, 0, 0, 0), []), (149, .getstatic 66, 3, (1, 0, 0, 0), [724]), (152, .iload 6, 2, (0, 0, 0, 0), []), (154, .iaload, 1, (0, 0, 0, 0), []), (155, .imul, 1, (0, 0, 0, 0), []), (156, .iadd, 1, (0, 0, 0, 0), []), (157, .iconst 3, 1, (0, 0, 0, 0), []), (158, .invokevirtual 79, 3, (4, 87, 8, 0), [735, 21, 733])]
def mc_X9_countTakings_5 : List ax_EN := [(161, .iinc 6 1, 3, (0, 0, 0, 0), []), (164, .goto (-91), 3, (0, 0, 0, 0), []), (167, .iinc 3 1, 3, (0, 0, 0, 0), []), (170, .goto (-162), 3, (0, 0, 0, 0), []), (173, .return_, 1, (0, 0, 0, 0), [])]
def mt_X9_countTakings : ax_MI := (RX9, yX9_countTakings, cX9_countTakings, 7, none, 1, 0, 0, [mc_X9_countTakings_0, mc_X9_countTakings_1, mc_X9_countTakings_2, mc_X9_countTakings_3, mc_X9_countTakings_4, mc_X9_countTakings_5])
def mc_X9_countPlain_0 : List ax_EN := [(0, .aload_n 0, 1, (0, 0, 0, 0), []), (1, .getfield 14, 3, (0, 9, 0, 0), [247]), (4, .getfield 90, 3, (1, 8, 0, 0), [184]), (7, .iload_n 1, 1, (0, 0, 0, 0), []), (8, .iconst 1, 1, (0, 0, 0, 0), []), (9, .iadd, 1, (0, 0, 0, 0), []), (10, .iaload, 1, (0, 0, 0, 0), []), (11, .istore_n 2, 1, (0, 0, 0, 0), []), (12, .iconst 0, 1, (0, 0, 0, 0), []), (13, .istore_n 3, 1, (0, 0, 0, 0), []), (14, .iload_n 3, 1, (0, 0, 0, 0), []), (15, .aload_n 0, 1, (0, 0, 0, 0), []), (16, .getfield 14, 3, (0, 9, 0, 0), [247]), (19, .getfield 69, 3, (1, 8, 1, 0), [186]), (22, .iload_n 1, 1, (0, 0, 0, 0), []), (23, .iconst 1, 1, (0, 0, 0, 0), []), (24, .iadd, 1, (0, 0, 0, 0), []), (25, .iaload, 1, (0, 0, 0, 0), []), (26, .if_icmp .gt 93, 3, (0, 0, 0, 0), []), (29, .aload_n 0, 1, (0, 0, 0, 0), []), (30, .getfield 41, 3, (0, 9, 5, 0), [253])]
def mc_X9_countPlain_1 : List ax_EN := [(33, .iload_n 2, 1, (0, 0, 0, 0), []), (34, .irem, 1, (0, 0, 0, 0), []), (35, .iload_n 3, 1, (0, 0, 0, 0), []), (36, .iload_n 2, 1, (0, 0, 0, 0), []), (37, .imul, 1, (0, 0, 0, 0), []), (38, .iadd, 1, (0, 0, 0, 0), []), (39, .istore 4, 2, (0, 0, 0, 0), []), (41, .aload_n 0, 1, (0, 0, 0, 0), []), (42, .getfield 14, 3, (0, 9, 0, 0), [247]), (45, .iload_n 1, 1, (0, 0, 0, 0), []), (46, .iconst 1, 1, (0, 0, 0, 0), []), (47, .iadd, 1, (0, 0, 0, 0), []), (48, .iload_n 3, 1, (0, 0, 0, 0), []), (49, .invokevirtual 72, 3, (4, 84, 8, 0), [727, 19, 725]), (52, .istore 5, 2, (0, 0, 0, 0), []), (54, .aload_n 0, 1, (0, 0, 0, 0), []), (55, .getfield 14, 3, (0, 9, 0, 0), [247]), (58, .iload 5, 2, (0, 0, 0, 0), []), (60, .invokevirtual 76, 3, (4, 86, 8, 0), [731, 20, 729]), (63, .iconst 0, 1, (0, 0, 0, 0), [])]
def mc_X9_countPlain_2 : List ax_EN := [(64, .istore 6, 2, (0, 0, 0, 0), []), (66, .iload 6, 2, (0, 0, 0, 0), []), (68, .aload_n 0, 1, (0, 0, 0, 0), []), (69, .getfield 33, 3, (0, 9, 3, 0), [251]), (72, .getfield 93, 3, (1, 1, 0, 0), [231]), (75, .iload_n 1, 1, (0, 0, 0, 0), []), (76, .iaload, 1, (0, 0, 0, 0), []), (77, .if_icmp .gt 36, 3, (0, 0, 0, 0), []), (80, .aload_n 0, 1, (0, 0, 0, 0), []), (81, .getfield 14, 3, (0, 9, 0, 0), [247]), (84, .iload 5, 2, (0, 0, 0, 0), []), (86, .aload_n 0, 1, (0, 0, 0, 0), []), (87, .getfield 20, 3, (0, 9, 1, 0), [248]), (90, .iload_n 1, 1, (0, 0, 0, 0), []), (91, .iload 4, 2, (0, 0, 0, 0), []), (93, .iload 6, 2, (0, 0, 0, 0), []), (95, .getstatic 66, 3, (1, 0, 0, 0), [724])]
def mc_X9_countPlain_3 : List ax_EN := [(98, .iload_n 1, 1, (0, 0, 0, 0), []), (99, .iaload, 1, (0, 0, 0, 0), []), (100, .imul, 1, (0, 0, 0, 0), []), (101, .isub, 1, (0, 0, 0, 0), []), (102, .iload 6, 2, (0, 0, 0, 0), []), (104, .invokevirtual 79, 3, (4, 87, 8, 0), [735, 21, 733]), (107, .iinc 6 1, 3, (0, 0, 0, 0), []), (110, .goto (-44), 3, (0, 0, 0, 0), []), (113, .iinc 3 1, 3, (0, 0, 0, 0), []), (116, .goto (-102), 3, (0, 0, 0, 0), []), (119, .return_, 1, (0, 0, 0, 0), [])]
def mt_X9_countPlain : ax_MI := (RX9, yX9_countPlain, cX9_countPlain, 7, none, 1, 0, 0, [mc_X9_countPlain_0, mc_X9_countPlain_1, mc_X9_countPlain_2, mc_X9_countPlain_3])
def mc_X9_inAll_0 : List ax_EN := [(0, .aload_n 0, 1, (0, 0, 0, 0), []), (1, .getfield 14, 3, (0, 9, 0, 0), [247]), (4, .bipush 14, 2, (0, 0, 0, 0), []), (6, .aload_n 0, 1, (0, 0, 0, 0), []), (7, .getfield 41, 3, (0, 9, 5, 0), [253]), (10, .bipush 24, 2, (0, 0, 0, 0), []), (12, .invokevirtual 94, 3, (4, 89, 8, 0), [753, 25, 751]), (15, .ireturn, 1, (0, 0, 0, 0), [])]
def mt_X9_inAll : ax_MI := (RX9, yX9_inAll, cX9_inAll, 1, (some .int), 0, 0, 0, [mc_X9_inAll_0])
def mc_X9_findByOrder_0 : List ax_EN := [(0, .iload_n 1, 1, (0, 0, 0, 0), []), (1, .aload_n 0, 1, (0, 0, 0, 0), []), (2, .invokevirtual 98, 3, (3, 94, 9, 0), [749, 24, 788]), (5, .if_icmp .lt 5, 3, (0, 0, 0, 0), []), (8, .iconst 0, 1, (0, 0, 0, 0), []), (9, .ireturn, 1, (0, 0, 0, 0), []), (10, .aload_n 0, 1, (0, 0, 0, 0), []), (11, .iconst (-1), 1, (0, 0, 0, 0), []), (12, .iload_n 1, 1, (0, 0, 0, 0), []), (13, .invokevirtual 102, 3, (3, 97, 9, 0), [769, 28, 767]), (16, .iconst 1, 1, (0, 0, 0, 0), []), (17, .ireturn, 1, (0, 0, 0, 0), [])]
def mt_X9_findByOrder : ax_MI := (RX9, yX9_findByOrder, cX9_findByOrder, 2, (some .boolean), 1, 0, 0, [mc_X9_findByOrder_0])
def mc_X9_findShortest_0 : List ax_EN := [(0, .iconst 1, 1, (0, 0, 0, 0), []), (1, .istore_n 1, 1, (0, 0, 0, 0), []), (2, .iload_n 1, 1, (0, 0, 0, 0), []), (3, .bipush 24, 2, (0, 0, 0, 0), []), (5, .if_icmp .gt 44, 3, (0, 0, 0, 0), []), (8, .aload_n 0, 1, (0, 0, 0, 0), []), (9, .getfield 14, 3, (0, 9, 0, 0), [247]), (12, .bipush 14, 2, (0, 0, 0, 0), []), (14, .aload_n 0, 1, (0, 0, 0, 0), []), (15, .getfield 41, 3, (0, 9, 5, 0), [253]), (18, .iload_n 1, 1, (0, 0, 0, 0), []), (19, .invokevirtual 106, 3, (4, 88, 8, 0), [765, 27, 763]), (22, .ifCond .le 21, 3, (0, 0, 0, 0), []), (25, .aload_n 0, 1, (0, 0, 0, 0), []), (26, .iload_n 1, 1, (0, 0, 0, 0), []), (27, .iconst 0, 1, (0, 0, 0, 0), []), (28, .invokevirtual 102, 3, (3, 97, 9, 0), [769, 28, 767]), (31, .aload_n 0, 1, (0, 0, 0, 0), [])]
def mc_X9_findShortest_1 : List ax_EN := [(32, .getfield 53, 3, (0, 9, 9, 0), [257]), (35, .sipush 5000, 3, (0, 0, 0, 0), []), (38, .if_icmp .ge 5, 3, (0, 0, 0, 0), []), (41, .iconst 1, 1, (0, 0, 0, 0), []), (42, .ireturn, 1, (0, 0, 0, 0), []), (43, .iinc 1 1, 3, (0, 0, 0, 0), []), (46, .goto (-44), 3, (0, 0, 0, 0), []), (49, .iconst 0, 1, (0, 0, 0, 0), []), (50, .ireturn, 1, (0, 0, 0, 0), [])]
def mt_X9_findShortest : ax_MI := (RX9, yX9_findShortest, cX9_findShortest, 2, (some .boolean), 0, 0, 0, [mc_X9_findShortest_0, mc_X9_findShortest_1])
def mc_X9_walk_0 : List ax_EN := [(0, .aload_n 0, 1, (0, 0, 0, 0), []), (1, .aload_n 0, 1, (0, 0, 0, 0), []), (2, .getfield 41, 3, (0, 9, 5, 0), [253]), (5, .putfield 44, 3, (0, 9, 6, 0), [254]), (8, .aload_n 0, 1, (0, 0, 0, 0), []), (9, .bipush 24, 2, (0, 0, 0, 0), []), (11, .putfield 47, 3, (0, 9, 7, 0), [255]), (14, .aload_n 0, 1, (0, 0, 0, 0), []), (15, .iload_n 1, 1, (0, 0, 0, 0), []), (16, .putfield 50, 3, (0, 9, 8, 0), [256]), (19, .aload_n 0, 1, (0, 0, 0, 0), []), (20, .iload_n 2, 1, (0, 0, 0, 0), []), (21, .putfield 53, 3, (0, 9, 9, 0), [257]), (24, .aload_n 0, 1, (0, 0, 0, 0), []), (25, .getfield 26, 3, (0, 9, 2, 0), [249]), (28, .iconst 0, 1, (0, 0, 0, 0), []), (29, .putfield 109, 3, (1, 5, 1, 0), [217])]
def mc_X9_walk_1 : List ax_EN := [(32, .bipush 14, 2, (0, 0, 0, 0), []), (34, .istore_n 3, 1, (0, 0, 0, 0), []), (35, .bipush 13, 2, (0, 0, 0, 0), []), (37, .istore 4, 2, (0, 0, 0, 0), []), (39, .iload 4, 2, (0, 0, 0, 0), []), (41, .ifCond .lt 28, 3, (0, 0, 0, 0), []), (44, .iload 4, 2, (0, 0, 0, 0), []), (46, .iload_n 3, 1, (0, 0, 0, 0), []), (47, .if_icmp .ge 16, 3, (0, 0, 0, 0), []), (50, .aload_n 0, 1, (0, 0, 0, 0), []), (51, .iload 4, 2, (0, 0, 0, 0), []), (53, .invokevirtual 112, 3, (3, 98, 9, 0), [773, 29, 771]), (56, .aload_n 0, 1, (0, 0, 0, 0), []), (57, .iload 4, 2, (0, 0, 0, 0), []), (59, .invokevirtual 115, 3, (3, 99, 9, 0), [782, 31, 780]), (62, .istore_n 3, 1, (0, 0, 0, 0), []), (63, .iinc 4 (-1), 3, (0, 0, 0, 0), [])]
def mc_X9_walk_2 : List ax_EN := [(66, .goto (-27), 3, (0, 0, 0, 0), []), (69, .return_, 1, (0, 0, 0, 0), [])]
def mt_X9_walk : ax_MI := (RX9, yX9_walk, cX9_walk, 5, none, 2, 0, 0, [mc_X9_walk_0, mc_X9_walk_1, mc_X9_walk_2])
def mc_X9_choosePlain_0 : List ax_EN := [(0, .aload_n 0, 1, (0, 0, 0, 0), []), (1, .getfield 33, 3, (0, 9, 3, 0), [251]), (4, .getfield 93, 3, (1, 1, 0, 0), [231]), (7, .iload_n 1, 1, (0, 0, 0, 0), []), (8, .iaload, 1, (0, 0, 0, 0), []), (9, .istore_n 2, 1, (0, 0, 0, 0), []), (10, .iload_n 2, 1, (0, 0, 0, 0), []), (11, .ifCond .lt 39, 3, (0, 0, 0, 0), []), (14, .aload_n 0, 1, (0, 0, 0, 0), []), (15, .aload_n 0, 1, (0, 0, 0, 0), []), (16, .getfield 20, 3, (0, 9, 1, 0), [248]), (19, .iload_n 1, 1, (0, 0, 0, 0), []), (20, .iload_n 2, 1, (0, 0, 0, 0), []), (21, .getstatic 66, 3, (1, 0, 0, 0), [724]), (24, .iload_n 1, 1, (0, 0, 0, 0), []), (25, .iaload, 1, (0, 0, 0, 0), []), (26, .imul, 1, (0, 0, 0, 0), []), (27, .iload_n 2, 1, (0, 0, 0, 0), []), (28, .invokevirtual 119, 3, (3, 100, 9, 0), [777, 30, 775]), (31, .ifCond .eq 13, 3, (0, 0, 0, 0), [])]
def mc_X9_choosePlain_1 : List ax_EN := [(34, .aload_n 0, 1, (0, 0, 0, 0), []), (35, .getfield 26, 3, (0, 9, 2, 0), [249]), (38, .iload_n 1, 1, (0, 0, 0, 0), []), (39, .iload_n 2, 1, (0, 0, 0, 0), []), (40, .invokevirtual 123, 3, (4, 58, 5, 0), [675, 13, 779]), (43, .return_, 1, (0, 0, 0, 0), []), (44, .iinc 2 (-1), 3, (0, 0, 0, 0), []), (47, .goto (-37), 3, (0, 0, 0, 0), []), (50, .return_, 1, (0, 0, 0, 0), [])]
def mt_X9_choosePlain : ax_MI := (RX9, yX9_choosePlain, cX9_choosePlain, 3, none, 1, 0, 0, [mc_X9_choosePlain_0, mc_X9_choosePlain_1])
def mc_X9_chooseTaking_0 : List ax_EN := [(0, .aload_n 0, 1, (0, 0, 0, 0), []), (1, .aload_n 0, 1, (0, 0, 0, 0), []), (2, .getfield 14, 3, (0, 9, 0, 0), [247]), (5, .iload_n 1, 1, (0, 0, 0, 0), []), (6, .iconst 0, 1, (0, 0, 0, 0), []), (7, .iconst 0, 1, (0, 0, 0, 0), []), (8, .invokevirtual 119, 3, (3, 100, 9, 0), [777, 30, 775]), (11, .ifCond .eq 5, 3, (0, 0, 0, 0), []), (14, .iload_n 1, 1, (0, 0, 0, 0), []), (15, .ireturn, 1, (0, 0, 0, 0), []), (16, .iload_n 1, 1, (0, 0, 0, 0), []), (17, .iconst 1, 1, (0, 0, 0, 0), []), (18, .isub, 1, (0, 0, 0, 0), []), (19, .istore_n 2, 1, (0, 0, 0, 0), []), (20, .iload_n 2, 1, (0, 0, 0, 0), []), (21, .ifCond .lt 65, 3, (0, 0, 0, 0), []), (24, .aload_n 0, 1, (0, 0, 0, 0), []), (25, .getfield 33, 3, (0, 9, 3, 0), [251]), (28, .iload_n 2, 1, (0, 0, 0, 0), []), (29, .iload_n 1, 1, (0, 0, 0, 0), []), (30, .invokevirtual 83, 3, (4, 25, 1, 0), [635, 6, 741])]
def mc_X9_chooseTaking_1 : List ax_EN := [(33, .ifCond .eq 47, 3, (0, 0, 0, 0), []), (36, .aload_n 0, 1, (0, 0, 0, 0), []), (37, .aload_n 0, 1, (0, 0, 0, 0), []), (38, .getfield 14, 3, (0, 9, 0, 0), [247]), (41, .iload_n 2, 1, (0, 0, 0, 0), []), (42, .getstatic 66, 3, (1, 0, 0, 0), [724]), (45, .iload_n 1, 1, (0, 0, 0, 0), []), (46, .iaload, 1, (0, 0, 0, 0), []), (47, .getstatic 66, 3, (1, 0, 0, 0), [724]), (50, .iload_n 2, 1, (0, 0, 0, 0), []), (51, .iaload, 1, (0, 0, 0, 0), []), (52, .isub, 1, (0, 0, 0, 0), []), (53, .iconst 2, 1, (0, 0, 0, 0), []), (54, .invokevirtual 119, 3, (3, 100, 9, 0), [777, 30, 775]), (57, .ifCond .eq 23, 3, (0, 0, 0, 0), []), (60, .aload_n 0, 1, (0, 0, 0, 0), []), (61, .getfield 26, 3, (0, 9, 2, 0), [249])]
def mc_X9_chooseTaking_2 : List ax_EN := [(64, .iload_n 2, 1, (0, 0, 0, 0), []), (65, .iconst 1, 1, (0, 0, 0, 0), []), (66, .invokevirtual 123, 3, (4, 58, 5, 0), [675, 13, 779]), (69, .aload_n 0, 1, (0, 0, 0, 0), []), (70, .getfield 26, 3, (0, 9, 2, 0), [249]), (73, .iload_n 1, 1, (0, 0, 0, 0), []), (74, .iconst 1, 1, (0, 0, 0, 0), []), (75, .invokevirtual 123, 3, (4, 58, 5, 0), [675, 13, 779]), (78, .iload_n 2, 1, (0, 0, 0, 0), []), (79, .ireturn, 1, (0, 0, 0, 0), []), (80, .iinc 2 (-1), 3, (0, 0, 0, 0), []), (83, .goto (-63), 3, (0, 0, 0, 0), []), (86, .iload_n 1, 1, (0, 0, 0, 0), []), (87, .iconst 1, 1, (0, 0, 0, 0), []), (88, .isub, 1, (0, 0, 0, 0), []), (89, .istore_n 2, 1, (0, 0, 0, 0), []), (90, .iload_n 2, 1, (0, 0, 0, 0), []), (91, .ifCond .lt 67, 3, (0, 0, 0, 0), []), (94, .aload_n 0, 1, (0, 0, 0, 0), []), (95, .getfield 33, 3, (0, 9, 3, 0), [251])]
def mc_X9_chooseTaking_3 : List ax_EN := [(98, .iload_n 2, 1, (0, 0, 0, 0), []), (99, .iload_n 1, 1, (0, 0, 0, 0), []), (100, .invokevirtual 87, 3, (4, 26, 1, 0), [639, 7, 742]), (103, .ifCond .eq 49, 3, (0, 0, 0, 0), []), (106, .aload_n 0, 1, (0, 0, 0, 0), []), (107, .aload_n 0, 1, (0, 0, 0, 0), []), (108, .getfield 14, 3, (0, 9, 0, 0), [247]), (111, .iload_n 2, 1, (0, 0, 0, 0), []), (112, .getstatic 66, 3, (1, 0, 0, 0), [724]), (115, .iload_n 1, 1, (0, 0, 0, 0), []), (116, .iaload, 1, (0, 0, 0, 0), []), (117, .iconst 2, 1, (0, 0, 0, 0), []), (118, .getstatic 66, 3, (1, 0, 0, 0), [724]), (121, .iload_n 2, 1, (0, 0, 0, 0), []), (122, .iaload, 1, (0, 0, 0, 0), []), (123, .imul, 1, (0, 0, 0, 0), []), (124, .isub, 1, (0, 0, 0, 0), []), (125, .iconst 3, 1, (0, 0, 0, 0), []), (126, .invokevirtual 119, 3, (3, 100, 9, 0), [777, 30, 775])]
def mc_X9_chooseTaking_4 : List ax_EN := [(129, .ifCond .eq 23, 3, (0, 0, 0, 0), []), (132, .aload_n 0, 1, (0, 0, 0, 0), []), (133, .getfield 26, 3, (0, 9, 2, 0), [249]), (136, .iload_n 2, 1, (0, 0, 0, 0), []), (137, .iconst 2, 1, (0, 0, 0, 0), []), (138, .invokevirtual 123, 3, (4, 58, 5, 0), [675, 13, 779]), (141, .aload_n 0, 1, (0, 0, 0, 0), []), (142, .getfield 26, 3, (0, 9, 2, 0), [249]), (145, .iload_n 1, 1, (0, 0, 0, 0), []), (146, .iconst 1, 1, (0, 0, 0, 0), []), (147, .invokevirtual 123, 3, (4, 58, 5, 0), [675, 13, 779]), (150, .iload_n 2, 1, (0, 0, 0, 0), []), (151, .ireturn, 1, (0, 0, 0, 0), []), (152, .iinc 2 (-1), 3, (0, 0, 0, 0), []), (155, .goto (-65), 3, (0, 0, 0, 0), []), (158, .iload_n 1, 1, (0, 0, 0, 0), []), (159, .ireturn, 1, (0, 0, 0, 0), [])]
def mt_X9_chooseTaking : ax_MI := (RX9, yX9_chooseTaking, cX9_chooseTaking, 3, (some .int), 1, 0, 0, [mc_X9_chooseTaking_0, mc_X9_chooseTaking_1, mc_X9_chooseTaking_2, mc_X9_chooseTaking_3, mc_X9_chooseTaking_4])
def mc_X9_goes_0 : List ax_EN := [(0, .aload_n 1, 1, (0, 0, 0, 0), []), (1, .iload_n 2, 1, (0, 0, 0, 0), []), (2, .aload_n 0, 1, (0, 0, 0, 0), []), (3, .getfield 44, 3, (0, 9, 6, 0), [254]), (6, .iload_n 3, 1, (0, 0, 0, 0), []), (7, .isub, 1, (0, 0, 0, 0), []), (8, .aload_n 0, 1, (0, 0, 0, 0), []), (9, .getfield 47, 3, (0, 9, 7, 0), [255]), (12, .iload 4, 2, (0, 0, 0, 0), []), (14, .isub, 1, (0, 0, 0, 0), []), (15, .invokevirtual 94, 3, (4, 89, 8, 0), [753, 25, 751]), (18, .istore 5, 2, (0, 0, 0, 0), []), (20, .aload_n 0, 1, (0, 0, 0, 0), []), (21, .getfield 50, 3, (0, 9, 8, 0), [256]), (24, .iconst (-1), 1, (0, 0, 0, 0), []), (25, .if_icmp .ne 7, 3, (0, 0, 0, 0), []), (28, .iconst 1, 1, (0, 0, 0, 0), []), (29, .goto 4, 3, (0, 0, 0, 0), [])]
def mc_X9_goes_1 : List ax_EN := [(32, .iconst 0, 1, (0, 0, 0, 0), []), (33, .istore 6, 2, (0, 0, 0, 0), []), (35, .iload 6, 2, (0, 0, 0, 0), []), (37, .ifCond .eq 15, 3, (0, 0, 0, 0), []), (40, .aload_n 0, 1, (0, 0, 0, 0), []), (41, .getfield 53, 3, (0, 9, 9, 0), [257]), (44, .iload 5, 2, (0, 0, 0, 0), []), (46, .if_icmp .lt 51, 3, (0, 0, 0, 0), []), (49, .goto 24, 3, (0, 0, 0, 0), []), (52, .aload_n 1, 1, (0, 0, 0, 0), []), (53, .iload_n 2, 1, (0, 0, 0, 0), []), (54, .aload_n 0, 1, (0, 0, 0, 0), []), (55, .getfield 44, 3, (0, 9, 6, 0), [254]), (58, .iload_n 3, 1, (0, 0, 0, 0), []), (59, .isub, 1, (0, 0, 0, 0), []), (60, .aload_n 0, 1, (0, 0, 0, 0), []), (61, .getfield 50, 3, (0, 9, 8, 0), [256])]
def mc_X9_goes_2 : List ax_EN := [(64, .iload 4, 2, (0, 0, 0, 0), []), (66, .isub, 1, (0, 0, 0, 0), []), (67, .invokevirtual 106, 3, (4, 88, 8, 0), [765, 27, 763]), (70, .ifCond .ne 27, 3, (0, 0, 0, 0), []), (73, .aload_n 0, 1, (0, 0, 0, 0), []), (74, .dup, 1, (0, 0, 0, 0), []), (75, .getfield 53, 3, (0, 9, 9, 0), [257]), (78, .iload 6, 2, (0, 0, 0, 0), []), (80, .ifCond .eq 9, 3, (0, 0, 0, 0), []), (83, .iload 5, 2, (0, 0, 0, 0), []), (85, .ineg, 1, (0, 0, 0, 0), []), (86, .goto 5, 3, (0, 0, 0, 0), []), (89, .iload 5, 2, (0, 0, 0, 0), []), (91, .iadd, 1, (0, 0, 0, 0), []), (92, .putfield 53, 3, (0, 9, 9, 0), [257]), (95, .iconst 0, 1, (0, 0, 0, 0), [])]
def mc_X9_goes_3 : List ax_EN := [(96, .ireturn, 1, (0, 0, 0, 0), []), (97, .aload_n 0, 1, (0, 0, 0, 0), []), (98, .dup, 1, (0, 0, 0, 0), []), (99, .getfield 44, 3, (0, 9, 6, 0), [254]), (102, .iload_n 3, 1, (0, 0, 0, 0), []), (103, .isub, 1, (0, 0, 0, 0), []), (104, .putfield 44, 3, (0, 9, 6, 0), [254]), (107, .aload_n 0, 1, (0, 0, 0, 0), []), (108, .dup, 1, (0, 0, 0, 0), []), (109, .getfield 47, 3, (0, 9, 7, 0), [255]), (112, .iload 4, 2, (0, 0, 0, 0), []), (114, .isub, 1, (0, 0, 0, 0), []), (115, .putfield 47, 3, (0, 9, 7, 0), [255]), (118, .aload_n 0, 1, (0, 0, 0, 0), []), (119, .dup, 1, (0, 0, 0, 0), []), (120, .getfield 50, 3, (0, 9, 8, 0), [256]), (123, .iload 6, 2, (0, 0, 0, 0), []), (125, .ifCond .eq 7, 3, (0, 0, 0, 0), [])]
def mc_X9_goes_4 : List ax_EN := [(128, .iconst 0, 1, (0, 0, 0, 0), []), (129, .goto 5, 3, (0, 0, 0, 0), []), (132, .iload 4, 2, (0, 0, 0, 0), []), (134, .isub, 1, (0, 0, 0, 0), []), (135, .putfield 50, 3, (0, 9, 8, 0), [256]), (138, .iconst 1, 1, (0, 0, 0, 0), []), (139, .ireturn, 1, (0, 0, 0, 0), [])]
def mt_X9_goes : ax_MI := (RX9, yX9_goes, cX9_goes, 7, (some .boolean), 4, 0, 0, [mc_X9_goes_0, mc_X9_goes_1, mc_X9_goes_2, mc_X9_goes_3, mc_X9_goes_4])
def mc_X10_init_0 : List ax_EN := [(0, .aload_n 0, 1, (0, 0, 0, 0), []), (1, .invokespecial 1, 3, (8, 0, 0, 0), [139, 140, 141]), (4, .aload_n 0, 1, (0, 0, 0, 0), []), (5, .new 7, 3, (5, 4, 2, 0), [142, 143, 117]), (8, .dup, 1, (0, 0, 0, 0), []), (9, .invokespecial 9, 3, (4, 49, 0, 0), [145, 144]), (12, .putfield 10, 3, (0, 10, 0, 0), [421]), (15, .aload_n 0, 1, (0, 0, 0, 0), []), (16, .bipush 6, 2, (0, 0, 0, 0), []), (18, .anewarray 16, 3, (5, 3, 0, 0), [161]), (21, .putfield 18, 3, (0, 10, 1, 0), [422]), (24, .aload_n 0, 1, (0, 0, 0, 0), []), (25, .bipush 12, 2, (0, 0, 0, 0), []), (27, .anewarray 22, 3, (5, 2, 0, 0), [163]), (30, .putfield 24, 3, (0, 10, 2, 0), [423])]
def mc_X10_init_1 : List ax_EN := [(33, .aload_n 0, 1, (0, 0, 0, 0), []), (34, .new 28, 3, (5, 9, 10, 0), [165, 166, 118]), (37, .dup, 1, (0, 0, 0, 0), []), (38, .invokespecial 30, 3, (4, 90, 0, 0), [168, 167]), (41, .putfield 31, 3, (0, 10, 3, 0), [424]), (44, .aload_n 0, 1, (0, 0, 0, 0), []), (45, .new 35, 3, (5, 0, 6, 0), [279, 280, 123]), (48, .dup, 1, (0, 0, 0, 0), []), (49, .invokespecial 37, 3, (4, 0, 0, 0), [282, 281]), (52, .putfield 38, 3, (0, 10, 4, 0), [425]), (55, .aload_n 0, 1, (0, 0, 0, 0), []), (56, .new 42, 3, (5, 7, 9, 0), [308, 309, 124]), (59, .dup, 1, (0, 0, 0, 0), []), (60, .invokespecial 44, 3, (4, 72, 0, 0), [311, 310]), (63, .putfield 45, 3, (0, 10, 5, 0), [426])]
def mc_X10_init_2 : List ax_EN := [(66, .aload_n 0, 1, (0, 0, 0, 0), []), (67, .bipush 6, 2, (0, 0, 0, 0), []), (69, .anewarray 49, 3, (5, 4, 0, 0), [348]), (72, .putfield 51, 3, (0, 10, 6, 0), [427]), (75, .aload_n 0, 1, (0, 0, 0, 0), []), (76, .new 55, 3, (5, 2, 12, 0), [350, 351, 125]), (79, .dup, 1, (0, 0, 0, 0), []), (80, .invokespecial 57, 3, (4, 32, 0, 0), [353, 352]), (83, .putfield 58, 3, (0, 10, 7, 0), [428]), (86, .aload_n 0, 1, (0, 0, 0, 0), []), (87, .iconst 0, 1, (0, 0, 0, 0), []), (88, .putfield 62, 3, (0, 10, 8, 0), [429]), (91, .aload_n 0, 1, (0, 0, 0, 0), []), (92, .iconst 0, 1, (0, 0, 0, 0), []), (93, .putfield 66, 3, (0, 10, 9, 0), [430])]
def mc_X10_init_3 : List ax_EN := [(96, .aload_n 0, 1, (0, 0, 0, 0), []), (97, .iconst 0, 1, (0, 0, 0, 0), []), (98, .putfield 69, 3, (0, 10, 10, 0), [431]), (101, .iconst 0, 1, (0, 0, 0, 0), []), (102, .istore_n 1, 1, (0, 0, 0, 0), []), (103, .iload_n 1, 1, (0, 0, 0, 0), []), (104, .bipush 6, 2, (0, 0, 0, 0), []), (106, .if_icmp .ge 22, 3, (0, 0, 0, 0), []), (109, .aload_n 0, 1, (0, 0, 0, 0), []), (110, .getfield 18, 3, (0, 10, 1, 0), [422]), (113, .iload_n 1, 1, (0, 0, 0, 0), []), (114, .new 16, 3, (5, 1, 3, 0), [161, 225, 122]), (117, .dup, 1, (0, 0, 0, 0), []), (118, .invokespecial 72, 3, (4, 17, 0, 0), [227, 400]), (121, .aastore, 1, (0, 0, 0, 0), []), (122, .iinc 1 1, 3, (0, 0, 0, 0), []), (125, .goto (-22), 3, (0, 0, 0, 0), [])]
def mc_X10_init_4 : List ax_EN := [(128, .iconst 0, 1, (0, 0, 0, 0), []), (129, .istore_n 1, 1, (0, 0, 0, 0), []), (130, .iload_n 1, 1, (0, 0, 0, 0), []), (131, .bipush 12, 2, (0, 0, 0, 0), []), (133, .if_icmp .ge 22, 3, (0, 0, 0, 0), []), (136, .aload_n 0, 1, (0, 0, 0, 0), []), (137, .getfield 24, 3, (0, 10, 2, 0), [423]), (140, .iload_n 1, 1, (0, 0, 0, 0), []), (141, .new 22, 3, (5, 5, 2, 0), [163, 200, 121]), (144, .dup, 1, (0, 0, 0, 0), []), (145, .invokespecial 73, 3, (4, 56, 0, 0), [202, 401]), (148, .aastore, 1, (0, 0, 0, 0), []), (149, .iinc 1 1, 3, (0, 0, 0, 0), []), (152, .goto (-22), 3, (0, 0, 0, 0), []), (155, .iconst 0, 1, (0, 0, 0, 0), []), (156, .istore_n 1, 1, (0, 0, 0, 0), []), (157, .iload_n 1, 1, (0, 0, 0, 0), []), (158, .bipush 6, 2, (0, 0, 0, 0), [])]
def mc_X10_init_5 : List ax_EN := [(160, .if_icmp .ge 22, 3, (0, 0, 0, 0), []), (163, .aload_n 0, 1, (0, 0, 0, 0), []), (164, .getfield 51, 3, (0, 10, 6, 0), [427]), (167, .iload_n 1, 1, (0, 0, 0, 0), []), (168, .new 49, 3, (5, 3, 3, 0), [348, 402, 126]), (171, .dup, 1, (0, 0, 0, 0), []), (172, .invokespecial 74, 3, (4, 46, 0, 0), [404, 403]), (175, .aastore, 1, (0, 0, 0, 0), []), (176, .iinc 1 1, 3, (0, 0, 0, 0), []), (179, .goto (-22), 3, (0, 0, 0, 0), []), (182, .return_, 1, (0, 0, 0, 0), [])]
def mt_X10_init : ax_MI := (RX10, yX10_init, cX10_init, 2, none, 0, 541, 14864, [mc_X10_init_0, mc_X10_init_1, mc_X10_init_2, mc_X10_init_3, mc_X10_init_4, mc_X10_init_5])
def mc_X10_letters_0 : List ax_EN := [(0, .lload_n 1, 1, (0, 0, 0, 0), []), (1, .invokestatic 75, 3, (4, 51, 0, 0), [460, 459]), (4, .istore_n 3, 1, (0, 0, 0, 0), []), (5, .iload_n 3, 1, (0, 0, 0, 0), []), (6, .ifCond .ge 6, 3, (0, 0, 0, 0), []), (9, .bipush (-102), 2, (0, 0, 0, 0), []), (11, .ireturn, 1, (0, 0, 0, 0), []), (12, .aload_n 0, 1, (0, 0, 0, 0), []), (13, .getfield 10, 3, (0, 10, 0, 0), [421]), (16, .getfield 79, 3, (1, 4, 1, 0), [154]), (19, .iload_n 3, 1, (0, 0, 0, 0), []), (20, .iadd, 1, (0, 0, 0, 0), []), (21, .bipush 80, 2, (0, 0, 0, 0), []), (23, .if_icmp .le 6, 3, (0, 0, 0, 0), []), (26, .bipush (-104), 2, (0, 0, 0, 0), []), (28, .ireturn, 1, (0, 0, 0, 0), []), (29, .aload_n 0, 1, (0, 0, 0, 0), []), (30, .getfield 10, 3, (0, 10, 0, 0), [421])]
def mc_X10_letters_1 : List ax_EN := [(33, .lload_n 1, 1, (0, 0, 0, 0), []), (34, .iload_n 3, 1, (0, 0, 0, 0), []), (35, .invokevirtual 82, 3, (4, 52, 4, 0), [467, 0, 465]), (38, .aload_n 0, 1, (0, 0, 0, 0), []), (39, .getfield 10, 3, (0, 10, 0, 0), [421]), (42, .getfield 79, 3, (1, 4, 1, 0), [154]), (45, .ireturn, 1, (0, 0, 0, 0), [])]
def mt_X10_letters : ax_MI := (RX10, yX10_letters, cX10_letters, 4, (some .int), 1, 0, 0, [mc_X10_letters_0, mc_X10_letters_1])
def mc_X10_blank_0 : List ax_EN := [(0, .aload_n 0, 1, (0, 0, 0, 0), []), (1, .getfield 10, 3, (0, 10, 0, 0), [421]), (4, .getfield 79, 3, (1, 4, 1, 0), [154]), (7, .istore_n 1, 1, (0, 0, 0, 0), []), (8, .aload_n 0, 1, (0, 0, 0, 0), []), (9, .getfield 10, 3, (0, 10, 0, 0), [421]), (12, .iconst 0, 1, (0, 0, 0, 0), []), (13, .putfield 79, 3, (1, 4, 1, 0), [154]), (16, .iload_n 1, 1, (0, 0, 0, 0), []), (17, .ireturn, 1, (0, 0, 0, 0), [])]
def mt_X10_blank : ax_MI := (RX10, yX10_blank, cX10_blank, 2, (some .int), 0, 0, 0, [mc_X10_blank_0])
def mc_X10_good_0 : List ax_EN := [(0, .aload_n 0, 1, (0, 0, 0, 0), []), (1, .getfield 10, 3, (0, 10, 0, 0), [421]), (4, .invokestatic 86, 3, (4, 62, 0, 0), [478, 477]), (7, .ireturn, 1, (0, 0, 0, 0), [])]
def mt_X10_good : ax_MI := (RX10, yX10_good, cX10_good, 1, (some .int), 0, 0, 0, [mc_X10_good_0])
def mc_X10_custom_0 : List ax_EN := [(0, .aload_n 0, 1, (0, 0, 0, 0), []), (1, .getfield 10, 3, (0, 10, 0, 0), [421]), (4, .invokestatic 92, 3, (4, 63, 0, 0), [593, 592]), (7, .ifCond .ne 6, 3, (0, 0, 0, 0), []), (10, .bipush (-103), 2, (0, 0, 0, 0), []), (12, .ireturn, 1, (0, 0, 0, 0), []), (13, .aload_n 0, 1, (0, 0, 0, 0), []), (14, .getfield 62, 3, (0, 10, 8, 0), [429]), (17, .bipush 6, 2, (0, 0, 0, 0), []), (19, .if_icmp .lt 6, 3, (0, 0, 0, 0), []), (22, .bipush (-104), 2, (0, 0, 0, 0), []), (24, .ireturn, 1, (0, 0, 0, 0), []), (25, .aload_n 0, 1, (0, 0, 0, 0), []), (26, .getfield 62, 3, (0, 10, 8, 0), [429]), (29, .istore_n 1, 1, (0, 0, 0, 0), []), (30, .aload_n 0, 1, (0, 0, 0, 0), []), (31, .getfield 10, 3, (0, 10, 0, 0), [421])]
def mc_X10_custom_1 : List ax_EN := [(34, .aload_n 0, 1, (0, 0, 0, 0), []), (35, .getfield 18, 3, (0, 10, 1, 0), [422]), (38, .iload_n 1, 1, (0, 0, 0, 0), []), (39, .aaload, 1, (0, 0, 0, 0), []), (40, .invokestatic 96, 3, (4, 64, 0, 0), [596, 595]), (43, .aload_n 0, 1, (0, 0, 0, 0), []), (44, .dup, 1, (0, 0, 0, 0), []), (45, .getfield 62, 3, (0, 10, 8, 0), [429]), (48, .iconst 1, 1, (0, 0, 0, 0), []), (49, .iadd, 1, (0, 0, 0, 0), []), (50, .putfield 62, 3, (0, 10, 8, 0), [429]), (53, .aload_n 0, 1, (0, 0, 0, 0), []), (54, .getfield 10, 3, (0, 10, 0, 0), [421]), (57, .iconst 0, 1, (0, 0, 0, 0), []), (58, .putfield 79, 3, (1, 4, 1, 0), [154]), (61, .iconst 0, 1, (0, 0, 0, 0), []), (62, .istore_n 2, 1, (0, 0, 0, 0), []), (63, .iload_n 2, 1, (0, 0, 0, 0), [])]
def mc_X10_custom_2 : List ax_EN := [(64, .bipush 6, 2, (0, 0, 0, 0), []), (66, .if_icmp .ge 25, 3, (0, 0, 0, 0), []), (69, .aload_n 0, 1, (0, 0, 0, 0), []), (70, .getfield 51, 3, (0, 10, 6, 0), [427]), (73, .iload_n 2, 1, (0, 0, 0, 0), []), (74, .aaload, 1, (0, 0, 0, 0), []), (75, .aload_n 0, 1, (0, 0, 0, 0), []), (76, .getfield 18, 3, (0, 10, 1, 0), [422]), (79, .iload_n 1, 1, (0, 0, 0, 0), []), (80, .aaload, 1, (0, 0, 0, 0), []), (81, .iload_n 1, 1, (0, 0, 0, 0), []), (82, .invokevirtual 100, 3, (4, 48, 3, 0), [603, 1, 601]), (85, .iinc 2 1, 3, (0, 0, 0, 0), []), (88, .goto (-25), 3, (0, 0, 0, 0), []), (91, .iload_n 1, 1, (0, 0, 0, 0), []), (92, .ireturn, 1, (0, 0, 0, 0), [])]
def mt_X10_custom : ax_MI := (RX10, yX10_custom, cX10_custom, 3, (some .int), 0, 0, 0, [mc_X10_custom_0, mc_X10_custom_1, mc_X10_custom_2])
def mc_X10_asks_0 : List ax_EN := [(0, .aload_n 0, 1, (0, 0, 0, 0), []), (1, .iload_n 1, 1, (0, 0, 0, 0), []), (2, .invokevirtual 104, 3, (3, 143, 10, 0), [655, 10, 653]), (5, .ifCond .eq 13, 3, (0, 0, 0, 0), []), (8, .iload_n 2, 1, (0, 0, 0, 0), []), (9, .ifCond .lt 9, 3, (0, 0, 0, 0), []), (12, .iload_n 2, 1, (0, 0, 0, 0), []), (13, .bipush 14, 2, (0, 0, 0, 0), []), (15, .if_icmp .lt 6, 3, (0, 0, 0, 0), []), (18, .bipush (-101), 2, (0, 0, 0, 0), []), (20, .ireturn, 1, (0, 0, 0, 0), []), (21, .iload_n 3, 1, (0, 0, 0, 0), []), (22, .tableswitch 62 0 2 #[26, 38, 50], 26, (0, 0, 0, 0), [])]
def mc_X10_asks_1 : List ax_EN := [(48, .aload_n 0, 1, (0, 0, 0, 0), []), (49, .getfield 18, 3, (0, 10, 1, 0), [422]), (52, .iload_n 1, 1, (0, 0, 0, 0), []), (53, .aaload, 1, (0, 0, 0, 0), []), (54, .getfield 108, 3, (1, 1, 0, 0), [233]), (57, .iload_n 2, 1, (0, 0, 0, 0), []), (58, .iaload, 1, (0, 0, 0, 0), []), (59, .ireturn, 1, (0, 0, 0, 0), []), (60, .aload_n 0, 1, (0, 0, 0, 0), []), (61, .getfield 18, 3, (0, 10, 1, 0), [422])]
def mc_X10_asks_2 : List ax_EN := [(64, .iload_n 1, 1, (0, 0, 0, 0), []), (65, .aaload, 1, (0, 0, 0, 0), []), (66, .getfield 112, 3, (1, 1, 1, 0), [236]), (69, .iload_n 2, 1, (0, 0, 0, 0), []), (70, .iaload, 1, (0, 0, 0, 0), []), (71, .ireturn, 1, (0, 0, 0, 0), []), (72, .aload_n 0, 1, (0, 0, 0, 0), []), (73, .getfield 18, 3, (0, 10, 1, 0), [422]), (76, .iload_n 1, 1, (0, 0, 0, 0), []), (77, .aaload, 1, (0, 0, 0, 0), []), (78, .getfield 115, 3, (1, 1, 2, 0), [239]), (81, .iload_n 2, 1, (0, 0, 0, 0), []), (82, .iaload, 1, (0, 0, 0, 0), []), (83, .ireturn, 1, (0, 0, 0, 0), []), (84, .bipush (-102), 2, (0, 0, 0, 0), []), (86, .ireturn, 1, (0, 0, 0, 0), [])]
def mt_X10_asks : ax_MI := (RX10, yX10_asks, cX10_asks, 4, (some .int), 3, 0, 0, [mc_X10_asks_0, mc_X10_asks_1, mc_X10_asks_2])
def mc_X10_row_0 : List ax_EN := [(0, .iload_n 1, 1, (0, 0, 0, 0), []), (1, .invokestatic 118, 3, (3, 140, 0, 0), [662, 661]), (4, .ifCond .ne 6, 3, (0, 0, 0, 0), []), (7, .bipush (-101), 2, (0, 0, 0, 0), []), (9, .ireturn, 1, (0, 0, 0, 0), []), (10, .aload_n 0, 1, (0, 0, 0, 0), []), (11, .getfield 10, 3, (0, 10, 0, 0), [421]), (14, .invokevirtual 121, 3, (4, 53, 4, 0), [666, 11, 664]), (17, .ifCond .ne 6, 3, (0, 0, 0, 0), []), (20, .bipush (-103), 2, (0, 0, 0, 0), []), (22, .ireturn, 1, (0, 0, 0, 0), []), (23, .aload_n 0, 1, (0, 0, 0, 0), []), (24, .getfield 10, 3, (0, 10, 0, 0), [421]), (27, .aload_n 0, 1, (0, 0, 0, 0), []), (28, .getfield 24, 3, (0, 10, 2, 0), [423]), (31, .iload_n 1, 1, (0, 0, 0, 0), [])]
def mc_X10_row_1 : List ax_EN := [(32, .aaload, 1, (0, 0, 0, 0), []), (33, .invokevirtual 125, 3, (4, 54, 4, 0), [671, 12, 669]), (36, .aload_n 0, 1, (0, 0, 0, 0), []), (37, .getfield 10, 3, (0, 10, 0, 0), [421]), (40, .iconst 0, 1, (0, 0, 0, 0), []), (41, .putfield 79, 3, (1, 4, 1, 0), [154]), (44, .aload_n 0, 1, (0, 0, 0, 0), []), (45, .getfield 24, 3, (0, 10, 2, 0), [423]), (48, .iload_n 1, 1, (0, 0, 0, 0), []), (49, .aaload, 1, (0, 0, 0, 0), []), (50, .getfield 129, 3, (1, 5, 1, 0), [215]), (53, .ireturn, 1, (0, 0, 0, 0), [])]
def mt_X10_row : ax_MI := (RX10, yX10_row, cX10_row, 2, (some .int), 1, 0, 0, [mc_X10_row_0, mc_X10_row_1])
def mc_X10_sign_0 : List ax_EN := [(0, .iload_n 1, 1, (0, 0, 0, 0), []), (1, .invokestatic 118, 3, (3, 140, 0, 0), [662, 661]), (4, .ifCond .ne 6, 3, (0, 0, 0, 0), []), (7, .bipush (-101), 2, (0, 0, 0, 0), []), (9, .ireturn, 1, (0, 0, 0, 0), []), (10, .iload_n 2, 1, (0, 0, 0, 0), []), (11, .ifCond .lt 16, 3, (0, 0, 0, 0), []), (14, .iload_n 2, 1, (0, 0, 0, 0), []), (15, .aload_n 0, 1, (0, 0, 0, 0), []), (16, .getfield 24, 3, (0, 10, 2, 0), [423]), (19, .iload_n 1, 1, (0, 0, 0, 0), []), (20, .aaload, 1, (0, 0, 0, 0), []), (21, .getfield 129, 3, (1, 5, 1, 0), [215]), (24, .if_icmp .lt 7, 3, (0, 0, 0, 0), []), (27, .iconst (-1), 1, (0, 0, 0, 0), []), (28, .goto 14, 3, (0, 0, 0, 0), []), (31, .aload_n 0, 1, (0, 0, 0, 0), [])]
def mc_X10_sign_1 : List ax_EN := [(32, .getfield 24, 3, (0, 10, 2, 0), [423]), (35, .iload_n 1, 1, (0, 0, 0, 0), []), (36, .aaload, 1, (0, 0, 0, 0), []), (37, .getfield 130, 3, (1, 5, 0, 0), [209]), (40, .iload_n 2, 1, (0, 0, 0, 0), []), (41, .iaload, 1, (0, 0, 0, 0), []), (42, .ireturn, 1, (0, 0, 0, 0), [])]
def mt_X10_sign : ax_MI := (RX10, yX10_sign, cX10_sign, 3, (some .int), 2, 0, 0, [mc_X10_sign_0, mc_X10_sign_1])
def mc_X10_worth_0 : List ax_EN := [(0, .iload_n 1, 1, (0, 0, 0, 0), []), (1, .invokestatic 118, 3, (3, 140, 0, 0), [662, 661]), (4, .ifCond .eq 15, 3, (0, 0, 0, 0), []), (7, .aload_n 0, 1, (0, 0, 0, 0), []), (8, .getfield 24, 3, (0, 10, 2, 0), [423]), (11, .iload_n 1, 1, (0, 0, 0, 0), []), (12, .aaload, 1, (0, 0, 0, 0), []), (13, .invokevirtual 133, 3, (4, 60, 5, 0), [687, 14, 685]), (16, .goto 5, 3, (0, 0, 0, 0), []), (19, .ldc 137, 2, (6, 0, 0, (-100000001)), [694]), (21, .ireturn, 1, (0, 0, 0, 0), [])]
def mt_X10_worth : ax_MI := (RX10, yX10_worth, cX10_worth, 2, (some .int), 1, 0, 0, [mc_X10_worth_0])
def mc_X10_keeps_0 : List ax_EN := [(0, .iload_n 1, 1, (0, 0, 0, 0), []), (1, .invokestatic 118, 3, (3, 140, 0, 0), [662, 661]), (4, .ifCond .eq 11, 3, (0, 0, 0, 0), []), (7, .aload_n 0, 1, (0, 0, 0, 0), []), (8, .iload_n 2, 1, (0, 0, 0, 0), []), (9, .invokevirtual 104, 3, (3, 143, 10, 0), [655, 10, 653]), (12, .ifCond .ne 6, 3, (0, 0, 0, 0), []), (15, .bipush (-101), 2, (0, 0, 0, 0), []), (17, .ireturn, 1, (0, 0, 0, 0), []), (18, .aload_n 0, 1, (0, 0, 0, 0), []), (19, .getfield 18, 3, (0, 10, 1, 0), [422]), (22, .iload_n 2, 1, (0, 0, 0, 0), []), (23, .aaload, 1, (0, 0, 0, 0), []), (24, .aload_n 0, 1, (0, 0, 0, 0), []), (25, .getfield 24, 3, (0, 10, 2, 0), [423]), (28, .iload_n 1, 1, (0, 0, 0, 0), []), (29, .aaload, 1, (0, 0, 0, 0), []), (30, .invokevirtual 138, 3, (4, 18, 1, 0), [607, 2, 699])]
def mc_X10_keeps_1 : List ax_EN := [(33, .ifCond .eq 7, 3, (0, 0, 0, 0), []), (36, .iconst 1, 1, (0, 0, 0, 0), []), (37, .goto 4, 3, (0, 0, 0, 0), []), (40, .iconst 0, 1, (0, 0, 0, 0), []), (41, .ireturn, 1, (0, 0, 0, 0), [])]
def mt_X10_keeps : ax_MI := (RX10, yX10_keeps, cX10_keeps, 3, (some .int), 2, 0, 0, [mc_X10_keeps_0, mc_X10_keeps_1])
def mc_X10_begins_0 : List ax_EN := [(0, .iload_n 1, 1, (0, 0, 0, 0), []), (1, .invokestatic 118, 3, (3, 140, 0, 0), [662, 661]), (4, .ifCond .eq 11, 3, (0, 0, 0, 0), []), (7, .aload_n 0, 1, (0, 0, 0, 0), []), (8, .iload_n 2, 1, (0, 0, 0, 0), []), (9, .invokevirtual 104, 3, (3, 143, 10, 0), [655, 10, 653]), (12, .ifCond .ne 6, 3, (0, 0, 0, 0), []), (15, .bipush (-101), 2, (0, 0, 0, 0), []), (17, .ireturn, 1, (0, 0, 0, 0), []), (18, .aload_n 0, 1, (0, 0, 0, 0), []), (19, .getfield 18, 3, (0, 10, 1, 0), [422]), (22, .iload_n 2, 1, (0, 0, 0, 0), []), (23, .aaload, 1, (0, 0, 0, 0), []), (24, .aload_n 0, 1, (0, 0, 0, 0), []), (25, .getfield 24, 3, (0, 10, 2, 0), [423]), (28, .iload_n 1, 1, (0, 0, 0, 0), []), (29, .aaload, 1, (0, 0, 0, 0), []), (30, .invokevirtual 142, 3, (4, 19, 1, 0), [706, 16, 704])]
def mc_X10_begins_1 : List ax_EN := [(33, .ireturn, 1, (0, 0, 0, 0), [])]
def mt_X10_begins : ax_MI := (RX10, yX10_begins, cX10_begins, 3, (some .int), 2, 0, 0, [mc_X10_begins_0, mc_X10_begins_1])
def mc_X10_ways_0 : List ax_EN := [(0, .aload_n 0, 1, (0, 0, 0, 0), []), (1, .iload_n 1, 1, (0, 0, 0, 0), []), (2, .invokevirtual 104, 3, (3, 143, 10, 0), [655, 10, 653]), (5, .ifCond .ne 6, 3, (0, 0, 0, 0), []), (8, .bipush (-101), 2, (0, 0, 0, 0), []), (10, .ireturn, 1, (0, 0, 0, 0), []), (11, .iload_n 2, 1, (0, 0, 0, 0), []), (12, .invokestatic 146, 3, (3, 142, 0, 0), [713, 712]), (15, .ifCond .ne 6, 3, (0, 0, 0, 0), []), (18, .bipush (-102), 2, (0, 0, 0, 0), []), (20, .ireturn, 1, (0, 0, 0, 0), []), (21, .aload_n 0, 1, (0, 0, 0, 0), []), (22, .getfield 66, 3, (0, 10, 9, 0), [430]), (25, .bipush 40, 2, (0, 0, 0, 0), []), (27, .if_icmp .lt 6, 3, (0, 0, 0, 0), []), (30, .bipush (-103), 2, (0, 0, 0, 0), [])]
def mc_X10_ways_1 : List ax_EN := [(32, .ireturn, 1, (0, 0, 0, 0), []), (33, .aload_n 0, 1, (0, 0, 0, 0), []), (34, .dup, 1, (0, 0, 0, 0), []), (35, .getfield 66, 3, (0, 10, 9, 0), [430]), (38, .iconst 1, 1, (0, 0, 0, 0), []), (39, .iadd, 1, (0, 0, 0, 0), []), (40, .putfield 66, 3, (0, 10, 9, 0), [430]), (43, .aload_n 0, 1, (0, 0, 0, 0), []), (44, .getfield 31, 3, (0, 10, 3, 0), [424]), (47, .aload_n 0, 1, (0, 0, 0, 0), []), (48, .getfield 18, 3, (0, 10, 1, 0), [422]), (51, .iload_n 1, 1, (0, 0, 0, 0), []), (52, .aaload, 1, (0, 0, 0, 0), []), (53, .iload_n 1, 1, (0, 0, 0, 0), []), (54, .iload_n 2, 1, (0, 0, 0, 0), []), (55, .invokevirtual 149, 3, (4, 91, 9, 0), [718, 17, 716]), (58, .aload_n 0, 1, (0, 0, 0, 0), []), (59, .getfield 31, 3, (0, 10, 3, 0), [424]), (62, .invokevirtual 153, 3, (4, 94, 9, 0), [749, 24, 747])]
def mc_X10_ways_2 : List ax_EN := [(65, .ireturn, 1, (0, 0, 0, 0), [])]
def mt_X10_ways : ax_MI := (RX10, yX10_ways, cX10_ways, 3, (some .int), 2, 0, 0, [mc_X10_ways_0, mc_X10_ways_1, mc_X10_ways_2])
def mc_X10_write_0 : List ax_EN := [(0, .iload_n 1, 1, (0, 0, 0, 0), []), (1, .invokestatic 118, 3, (3, 140, 0, 0), [662, 661]), (4, .ifCond .eq 11, 3, (0, 0, 0, 0), []), (7, .aload_n 0, 1, (0, 0, 0, 0), []), (8, .iload_n 2, 1, (0, 0, 0, 0), []), (9, .invokevirtual 104, 3, (3, 143, 10, 0), [655, 10, 653]), (12, .ifCond .ne 6, 3, (0, 0, 0, 0), []), (15, .bipush (-101), 2, (0, 0, 0, 0), []), (17, .ireturn, 1, (0, 0, 0, 0), []), (18, .iload_n 3, 1, (0, 0, 0, 0), []), (19, .invokestatic 146, 3, (3, 142, 0, 0), [713, 712]), (22, .ifCond .eq 9, 3, (0, 0, 0, 0), []), (25, .iload 4, 2, (0, 0, 0, 0), []), (27, .iconst (-1), 1, (0, 0, 0, 0), []), (28, .if_icmp .ge 6, 3, (0, 0, 0, 0), []), (31, .bipush (-102), 2, (0, 0, 0, 0), [])]
def mc_X10_write_1 : List ax_EN := [(33, .ireturn, 1, (0, 0, 0, 0), []), (34, .aload_n 0, 1, (0, 0, 0, 0), []), (35, .getfield 66, 3, (0, 10, 9, 0), [430]), (38, .bipush 40, 2, (0, 0, 0, 0), []), (40, .if_icmp .lt 6, 3, (0, 0, 0, 0), []), (43, .bipush (-103), 2, (0, 0, 0, 0), []), (45, .ireturn, 1, (0, 0, 0, 0), []), (46, .aload_n 0, 1, (0, 0, 0, 0), []), (47, .dup, 1, (0, 0, 0, 0), []), (48, .getfield 66, 3, (0, 10, 9, 0), [430]), (51, .iconst 1, 1, (0, 0, 0, 0), []), (52, .iadd, 1, (0, 0, 0, 0), []), (53, .putfield 66, 3, (0, 10, 9, 0), [430]), (56, .aload_n 0, 1, (0, 0, 0, 0), []), (57, .getfield 31, 3, (0, 10, 3, 0), [424]), (60, .aload_n 0, 1, (0, 0, 0, 0), []), (61, .getfield 18, 3, (0, 10, 1, 0), [422])]
def mc_X10_write_2 : List ax_EN := [(64, .iload_n 2, 1, (0, 0, 0, 0), []), (65, .aaload, 1, (0, 0, 0, 0), []), (66, .iload_n 2, 1, (0, 0, 0, 0), []), (67, .iload_n 3, 1, (0, 0, 0, 0), []), (68, .invokevirtual 149, 3, (4, 91, 9, 0), [718, 17, 716]), (71, .iload 4, 2, (0, 0, 0, 0), []), (73, .iconst (-1), 1, (0, 0, 0, 0), []), (74, .if_icmp .ne 13, 3, (0, 0, 0, 0), []), (77, .aload_n 0, 1, (0, 0, 0, 0), []), (78, .getfield 31, 3, (0, 10, 3, 0), [424]), (81, .invokevirtual 156, 3, (4, 96, 9, 0), [761, 26, 759]), (84, .goto 12, 3, (0, 0, 0, 0), []), (87, .aload_n 0, 1, (0, 0, 0, 0), []), (88, .getfield 31, 3, (0, 10, 3, 0), [424]), (91, .iload 4, 2, (0, 0, 0, 0), []), (93, .invokevirtual 159, 3, (4, 95, 9, 0), [786, 32, 784])]
def mc_X10_write_3 : List ax_EN := [(96, .istore 5, 2, (0, 0, 0, 0), []), (98, .iload 5, 2, (0, 0, 0, 0), []), (100, .ifCond .ne 5, 3, (0, 0, 0, 0), []), (103, .iconst 0, 1, (0, 0, 0, 0), []), (104, .ireturn, 1, (0, 0, 0, 0), []), (105, .aload_n 0, 1, (0, 0, 0, 0), []), (106, .getfield 24, 3, (0, 10, 2, 0), [423]), (109, .iload_n 1, 1, (0, 0, 0, 0), []), (110, .aaload, 1, (0, 0, 0, 0), []), (111, .aload_n 0, 1, (0, 0, 0, 0), []), (112, .getfield 31, 3, (0, 10, 3, 0), [424]), (115, .getfield 162, 3, (1, 9, 2, 0), [250]), (118, .invokevirtual 166, 3, (4, 57, 5, 0), [791, 33, 789]), (121, .aload_n 0, 1, (0, 0, 0, 0), []), (122, .getfield 24, 3, (0, 10, 2, 0), [423]), (125, .iload_n 1, 1, (0, 0, 0, 0), []), (126, .aaload, 1, (0, 0, 0, 0), []), (127, .getfield 129, 3, (1, 5, 1, 0), [215])]
def mc_X10_write_4 : List ax_EN := [(130, .ireturn, 1, (0, 0, 0, 0), [])]
def mt_X10_write : ax_MI := (RX10, yX10_write, cX10_write, 6, (some .int), 4, 0, 0, [mc_X10_write_0, mc_X10_write_1, mc_X10_write_2, mc_X10_write_3, mc_X10_write_4])
def mc_X10_board_0 : List ax_EN := [(0, .iload_n 1, 1, (0, 0, 0, 0), []), (1, .ifCond .lt 9, 3, (0, 0, 0, 0), []), (4, .iload_n 1, 1, (0, 0, 0, 0), []), (5, .bipush 7, 2, (0, 0, 0, 0), []), (7, .if_icmp .lt 6, 3, (0, 0, 0, 0), []), (10, .bipush (-101), 2, (0, 0, 0, 0), []), (12, .ireturn, 1, (0, 0, 0, 0), []), (13, .iload_n 2, 1, (0, 0, 0, 0), []), (14, .lookupswitch 46 #[(0, 26), (1, 36)], 26, (0, 0, 0, 0), [])]
def mc_X10_board_1 : List ax_EN := [(40, .aload_n 0, 1, (0, 0, 0, 0), []), (41, .getfield 38, 3, (0, 10, 4, 0), [425]), (44, .getfield 169, 3, (1, 0, 0, 0), [286]), (47, .iload_n 1, 1, (0, 0, 0, 0), []), (48, .iaload, 1, (0, 0, 0, 0), []), (49, .ireturn, 1, (0, 0, 0, 0), []), (50, .aload_n 0, 1, (0, 0, 0, 0), []), (51, .getfield 38, 3, (0, 10, 4, 0), [425]), (54, .getfield 172, 3, (1, 0, 1, 0), [288]), (57, .iload_n 1, 1, (0, 0, 0, 0), []), (58, .iaload, 1, (0, 0, 0, 0), []), (59, .ireturn, 1, (0, 0, 0, 0), []), (60, .bipush (-102), 2, (0, 0, 0, 0), []), (62, .ireturn, 1, (0, 0, 0, 0), [])]
def mt_X10_board : ax_MI := (RX10, yX10_board, cX10_board, 3, (some .int), 2, 0, 0, [mc_X10_board_0, mc_X10_board_1])
def mc_X10_pour_0 : List ax_EN := [(0, .iload_n 1, 1, (0, 0, 0, 0), []), (1, .invokestatic 118, 3, (3, 140, 0, 0), [662, 661]), (4, .ifCond .ne 6, 3, (0, 0, 0, 0), []), (7, .bipush (-101), 2, (0, 0, 0, 0), []), (9, .ireturn, 1, (0, 0, 0, 0), []), (10, .aload_n 0, 1, (0, 0, 0, 0), []), (11, .getfield 24, 3, (0, 10, 2, 0), [423]), (14, .iload_n 1, 1, (0, 0, 0, 0), []), (15, .aaload, 1, (0, 0, 0, 0), []), (16, .invokestatic 175, 3, (4, 1, 0, 0), [802, 801]), (19, .ifCond .ne 6, 3, (0, 0, 0, 0), []), (22, .bipush (-102), 2, (0, 0, 0, 0), []), (24, .ireturn, 1, (0, 0, 0, 0), []), (25, .aload_n 0, 1, (0, 0, 0, 0), []), (26, .getfield 38, 3, (0, 10, 4, 0), [425]), (29, .aload_n 0, 1, (0, 0, 0, 0), []), (30, .getfield 24, 3, (0, 10, 2, 0), [423])]
def mc_X10_pour_1 : List ax_EN := [(33, .iload_n 1, 1, (0, 0, 0, 0), []), (34, .aaload, 1, (0, 0, 0, 0), []), (35, .iload_n 2, 1, (0, 0, 0, 0), []), (36, .invokevirtual 178, 3, (4, 2, 0, 0), [806, 34, 804]), (39, .ifCond .eq 13, 3, (0, 0, 0, 0), []), (42, .aload_n 0, 1, (0, 0, 0, 0), []), (43, .getfield 38, 3, (0, 10, 4, 0), [425]), (46, .invokevirtual 182, 3, (4, 4, 0, 0), [815, 36, 813]), (49, .goto 5, 3, (0, 0, 0, 0), []), (52, .bipush (-104), 2, (0, 0, 0, 0), []), (54, .ireturn, 1, (0, 0, 0, 0), [])]
def mt_X10_pour : ax_MI := (RX10, yX10_pour, cX10_pour, 3, (some .int), 2, 0, 0, [mc_X10_pour_0, mc_X10_pour_1])
def mc_X10_bundle_0 : List ax_EN := [(0, .iload_n 1, 1, (0, 0, 0, 0), []), (1, .ifCond .lt 9, 3, (0, 0, 0, 0), []), (4, .iload_n 1, 1, (0, 0, 0, 0), []), (5, .bipush 6, 2, (0, 0, 0, 0), []), (7, .if_icmp .lt 6, 3, (0, 0, 0, 0), []), (10, .bipush (-101), 2, (0, 0, 0, 0), []), (12, .ireturn, 1, (0, 0, 0, 0), []), (13, .aload_n 0, 1, (0, 0, 0, 0), []), (14, .getfield 38, 3, (0, 10, 4, 0), [425]), (17, .iload_n 1, 1, (0, 0, 0, 0), []), (18, .invokevirtual 185, 3, (4, 7, 0, 0), [823, 37, 821]), (21, .ifCond .ne 6, 3, (0, 0, 0, 0), []), (24, .bipush (-103), 2, (0, 0, 0, 0), []), (26, .ireturn, 1, (0, 0, 0, 0), []), (27, .aload_n 0, 1, (0, 0, 0, 0), []), (28, .getfield 38, 3, (0, 10, 4, 0), [425]), (31, .iload_n 1, 1, (0, 0, 0, 0), [])]
def mc_X10_bundle_1 : List ax_EN := [(32, .invokevirtual 188, 3, (4, 8, 0, 0), [829, 38, 827]), (35, .ifCond .eq 17, 3, (0, 0, 0, 0), []), (38, .aload_n 0, 1, (0, 0, 0, 0), []), (39, .getfield 38, 3, (0, 10, 4, 0), [425]), (42, .getfield 169, 3, (1, 0, 0, 0), [286]), (45, .iload_n 1, 1, (0, 0, 0, 0), []), (46, .iconst 1, 1, (0, 0, 0, 0), []), (47, .iadd, 1, (0, 0, 0, 0), []), (48, .iaload, 1, (0, 0, 0, 0), []), (49, .goto 5, 3, (0, 0, 0, 0), []), (52, .bipush (-104), 2, (0, 0, 0, 0), []), (54, .ireturn, 1, (0, 0, 0, 0), [])]
def mt_X10_bundle : ax_MI := (RX10, yX10_bundle, cX10_bundle, 2, (some .int), 1, 0, 0, [mc_X10_bundle_0, mc_X10_bundle_1])
def mc_X10_unbundle_0 : List ax_EN := [(0, .iload_n 1, 1, (0, 0, 0, 0), []), (1, .iconst 1, 1, (0, 0, 0, 0), []), (2, .if_icmp .lt 9, 3, (0, 0, 0, 0), []), (5, .iload_n 1, 1, (0, 0, 0, 0), []), (6, .bipush 7, 2, (0, 0, 0, 0), []), (8, .if_icmp .lt 6, 3, (0, 0, 0, 0), []), (11, .bipush (-101), 2, (0, 0, 0, 0), []), (13, .ireturn, 1, (0, 0, 0, 0), []), (14, .aload_n 0, 1, (0, 0, 0, 0), []), (15, .getfield 38, 3, (0, 10, 4, 0), [425]), (18, .getfield 169, 3, (1, 0, 0, 0), [286]), (21, .iload_n 1, 1, (0, 0, 0, 0), []), (22, .iaload, 1, (0, 0, 0, 0), []), (23, .ifCond .ne 6, 3, (0, 0, 0, 0), []), (26, .bipush (-103), 2, (0, 0, 0, 0), []), (28, .ireturn, 1, (0, 0, 0, 0), []), (29, .aload_n 0, 1, (0, 0, 0, 0), []), (30, .getfield 38, 3, (0, 10, 4, 0), [425])]
def mc_X10_unbundle_1 : List ax_EN := [(33, .iload_n 1, 1, (0, 0, 0, 0), []), (34, .invokevirtual 191, 3, (4, 9, 0, 0), [837, 39, 835]), (37, .ifCond .eq 17, 3, (0, 0, 0, 0), []), (40, .aload_n 0, 1, (0, 0, 0, 0), []), (41, .getfield 38, 3, (0, 10, 4, 0), [425]), (44, .getfield 169, 3, (1, 0, 0, 0), [286]), (47, .iload_n 1, 1, (0, 0, 0, 0), []), (48, .iconst 1, 1, (0, 0, 0, 0), []), (49, .isub, 1, (0, 0, 0, 0), []), (50, .iaload, 1, (0, 0, 0, 0), []), (51, .goto 5, 3, (0, 0, 0, 0), []), (54, .bipush (-104), 2, (0, 0, 0, 0), []), (56, .ireturn, 1, (0, 0, 0, 0), [])]
def mt_X10_unbundle : ax_MI := (RX10, yX10_unbundle, cX10_unbundle, 2, (some .int), 1, 0, 0, [mc_X10_unbundle_0, mc_X10_unbundle_1])
def mc_X10_settle_0 : List ax_EN := [(0, .aload_n 0, 1, (0, 0, 0, 0), []), (1, .getfield 38, 3, (0, 10, 4, 0), [425]), (4, .invokevirtual 194, 3, (4, 10, 0, 0), [845, 40, 843]), (7, .aload_n 0, 1, (0, 0, 0, 0), []), (8, .getfield 38, 3, (0, 10, 4, 0), [425]), (11, .getfield 197, 3, (1, 0, 5, 0), [294]), (14, .ireturn, 1, (0, 0, 0, 0), [])]
def mt_X10_settle : ax_MI := (RX10, yX10_settle, cX10_settle, 1, (some .int), 0, 0, 0, [mc_X10_settle_0])
def mc_X10_step_0 : List ax_EN := [(0, .iload_n 1, 1, (0, 0, 0, 0), []), (1, .ifCond .lt 14, 3, (0, 0, 0, 0), []), (4, .iload_n 1, 1, (0, 0, 0, 0), []), (5, .aload_n 0, 1, (0, 0, 0, 0), []), (6, .getfield 38, 3, (0, 10, 4, 0), [425]), (9, .getfield 197, 3, (1, 0, 5, 0), [294]), (12, .if_icmp .lt 7, 3, (0, 0, 0, 0), []), (15, .iconst (-1), 1, (0, 0, 0, 0), []), (16, .goto 12, 3, (0, 0, 0, 0), []), (19, .aload_n 0, 1, (0, 0, 0, 0), []), (20, .getfield 38, 3, (0, 10, 4, 0), [425]), (23, .getfield 200, 3, (1, 0, 4, 0), [292]), (26, .iload_n 1, 1, (0, 0, 0, 0), []), (27, .iaload, 1, (0, 0, 0, 0), []), (28, .ireturn, 1, (0, 0, 0, 0), [])]
def mt_X10_step : ax_MI := (RX10, yX10_step, cX10_step, 2, (some .int), 1, 0, 0, [mc_X10_step_0])
def mc_X10_holds_0 : List ax_EN := [(0, .aload_n 0, 1, (0, 0, 0, 0), []), (1, .getfield 38, 3, (0, 10, 4, 0), [425]), (4, .invokevirtual 203, 3, (4, 5, 0, 0), [872, 44, 870]), (7, .ireturn, 1, (0, 0, 0, 0), [])]
def mt_X10_holds : ax_MI := (RX10, yX10_holds, cX10_holds, 1, (some .int), 0, 0, 0, [mc_X10_holds_0])
def mc_X10_lift_0 : List ax_EN := [(0, .iload_n 1, 1, (0, 0, 0, 0), []), (1, .invokestatic 118, 3, (3, 140, 0, 0), [662, 661]), (4, .ifCond .ne 6, 3, (0, 0, 0, 0), []), (7, .bipush (-101), 2, (0, 0, 0, 0), []), (9, .ireturn, 1, (0, 0, 0, 0), []), (10, .aload_n 0, 1, (0, 0, 0, 0), []), (11, .getfield 38, 3, (0, 10, 4, 0), [425]), (14, .invokevirtual 204, 3, (4, 14, 0, 0), [881, 45, 879]), (17, .ifCond .ne 6, 3, (0, 0, 0, 0), []), (20, .bipush (-103), 2, (0, 0, 0, 0), []), (22, .ireturn, 1, (0, 0, 0, 0), []), (23, .aload_n 0, 1, (0, 0, 0, 0), []), (24, .getfield 38, 3, (0, 10, 4, 0), [425]), (27, .aload_n 0, 1, (0, 0, 0, 0), []), (28, .getfield 24, 3, (0, 10, 2, 0), [423]), (31, .iload_n 1, 1, (0, 0, 0, 0), [])]
def mc_X10_lift_1 : List ax_EN := [(32, .aaload, 1, (0, 0, 0, 0), []), (33, .invokevirtual 207, 3, (4, 15, 0, 0), [886, 46, 884]), (36, .aload_n 0, 1, (0, 0, 0, 0), []), (37, .getfield 24, 3, (0, 10, 2, 0), [423]), (40, .iload_n 1, 1, (0, 0, 0, 0), []), (41, .aaload, 1, (0, 0, 0, 0), []), (42, .getfield 129, 3, (1, 5, 1, 0), [215]), (45, .ireturn, 1, (0, 0, 0, 0), [])]
def mt_X10_lift : ax_MI := (RX10, yX10_lift, cX10_lift, 2, (some .int), 1, 0, 0, [mc_X10_lift_0, mc_X10_lift_1])
def mc_X10_sweep_0 : List ax_EN := [(0, .aload_n 0, 1, (0, 0, 0, 0), []), (1, .getfield 38, 3, (0, 10, 4, 0), [425]), (4, .invokevirtual 182, 3, (4, 4, 0, 0), [815, 36, 813]), (7, .istore_n 1, 1, (0, 0, 0, 0), []), (8, .aload_n 0, 1, (0, 0, 0, 0), []), (9, .getfield 38, 3, (0, 10, 4, 0), [425]), (12, .invokevirtual 210, 3, (4, 6, 0, 0), [895, 47, 893]), (15, .iload_n 1, 1, (0, 0, 0, 0), []), (16, .ireturn, 1, (0, 0, 0, 0), [])]
def mt_X10_sweep : ax_MI := (RX10, yX10_sweep, cX10_sweep, 2, (some .int), 0, 0, 0, [mc_X10_sweep_0])
def mc_X10_times_0 : List ax_EN := [(0, .iload_n 1, 1, (0, 0, 0, 0), []), (1, .iconst 1, 1, (0, 0, 0, 0), []), (2, .if_icmp .lt 22, 3, (0, 0, 0, 0), []), (5, .iload_n 1, 1, (0, 0, 0, 0), []), (6, .sipush 9999, 3, (0, 0, 0, 0), []), (9, .if_icmp .gt 15, 3, (0, 0, 0, 0), []), (12, .iload_n 2, 1, (0, 0, 0, 0), []), (13, .iconst 1, 1, (0, 0, 0, 0), []), (14, .if_icmp .lt 10, 3, (0, 0, 0, 0), []), (17, .iload_n 2, 1, (0, 0, 0, 0), []), (18, .sipush 9999, 3, (0, 0, 0, 0), []), (21, .if_icmp .le 6, 3, (0, 0, 0, 0), []), (24, .bipush (-102), 2, (0, 0, 0, 0), []), (26, .ireturn, 1, (0, 0, 0, 0), []), (27, .iload_n 3, 1, (0, 0, 0, 0), []), (28, .ifCond .ne 9, 3, (0, 0, 0, 0), []), (31, .iload_n 1, 1, (0, 0, 0, 0), [])]
def mc_X10_times_1 : List ax_EN := [(32, .iload_n 2, 1, (0, 0, 0, 0), []), (33, .invokestatic 213, 3, (3, 147, 0, 0), [902, 901]), (36, .ireturn, 1, (0, 0, 0, 0), []), (37, .iload_n 3, 1, (0, 0, 0, 0), []), (38, .iconst 1, 1, (0, 0, 0, 0), []), (39, .if_icmp .ne 8, 3, (0, 0, 0, 0), []), (42, .iload_n 1, 1, (0, 0, 0, 0), []), (43, .invokestatic 217, 3, (3, 146, 0, 0), [905, 904]), (46, .ireturn, 1, (0, 0, 0, 0), []), (47, .iload_n 3, 1, (0, 0, 0, 0), []), (48, .bipush 10, 2, (0, 0, 0, 0), []), (50, .if_icmp .lt 33, 3, (0, 0, 0, 0), []), (53, .iload_n 3, 1, (0, 0, 0, 0), []), (54, .bipush 30, 2, (0, 0, 0, 0), []), (56, .if_icmp .ge 27, 3, (0, 0, 0, 0), []), (59, .iload_n 3, 1, (0, 0, 0, 0), []), (60, .bipush 10, 2, (0, 0, 0, 0), []), (62, .isub, 1, (0, 0, 0, 0), []), (63, .istore 4, 2, (0, 0, 0, 0), [])]
def mc_X10_times_2 : List ax_EN := [(65, .iload 4, 2, (0, 0, 0, 0), []), (67, .iload_n 1, 1, (0, 0, 0, 0), []), (68, .invokestatic 217, 3, (3, 146, 0, 0), [905, 904]), (71, .if_icmp .ge 10, 3, (0, 0, 0, 0), []), (74, .iload_n 1, 1, (0, 0, 0, 0), []), (75, .iload 4, 2, (0, 0, 0, 0), []), (77, .ishr, 1, (0, 0, 0, 0), []), (78, .goto 4, 3, (0, 0, 0, 0), []), (81, .iconst (-1), 1, (0, 0, 0, 0), []), (82, .ireturn, 1, (0, 0, 0, 0), []), (83, .iload_n 3, 1, (0, 0, 0, 0), []), (84, .bipush 30, 2, (0, 0, 0, 0), []), (86, .if_icmp .lt 33, 3, (0, 0, 0, 0), []), (89, .iload_n 3, 1, (0, 0, 0, 0), []), (90, .bipush 50, 2, (0, 0, 0, 0), []), (92, .if_icmp .ge 27, 3, (0, 0, 0, 0), []), (95, .iload_n 3, 1, (0, 0, 0, 0), [])]
def mc_X10_times_3 : List ax_EN := [(96, .bipush 30, 2, (0, 0, 0, 0), []), (98, .isub, 1, (0, 0, 0, 0), []), (99, .istore 4, 2, (0, 0, 0, 0), []), (101, .iload 4, 2, (0, 0, 0, 0), []), (103, .iload_n 1, 1, (0, 0, 0, 0), []), (104, .invokestatic 217, 3, (3, 146, 0, 0), [905, 904]), (107, .if_icmp .ge 10, 3, (0, 0, 0, 0), []), (110, .iload_n 2, 1, (0, 0, 0, 0), []), (111, .iload 4, 2, (0, 0, 0, 0), []), (113, .ishl, 1, (0, 0, 0, 0), []), (114, .goto 4, 3, (0, 0, 0, 0), []), (117, .iconst (-1), 1, (0, 0, 0, 0), []), (118, .ireturn, 1, (0, 0, 0, 0), []), (119, .bipush (-102), 2, (0, 0, 0, 0), []), (121, .ireturn, 1, (0, 0, 0, 0), [])]
def mt_X10_times : ax_MI := (RX10, yX10_times, cX10_times, 5, (some .int), 3, 0, 0, [mc_X10_times_0, mc_X10_times_1, mc_X10_times_2, mc_X10_times_3])
def mc_X10_parts_0 : List ax_EN := [(0, .iload_n 1, 1, (0, 0, 0, 0), []), (1, .ifCond .lt 22, 3, (0, 0, 0, 0), []), (4, .iload_n 1, 1, (0, 0, 0, 0), []), (5, .sipush 9999, 3, (0, 0, 0, 0), []), (8, .if_icmp .gt 15, 3, (0, 0, 0, 0), []), (11, .iload_n 2, 1, (0, 0, 0, 0), []), (12, .iconst 1, 1, (0, 0, 0, 0), []), (13, .if_icmp .lt 10, 3, (0, 0, 0, 0), []), (16, .iload_n 2, 1, (0, 0, 0, 0), []), (17, .sipush 9999, 3, (0, 0, 0, 0), []), (20, .if_icmp .le 6, 3, (0, 0, 0, 0), []), (23, .bipush (-102), 2, (0, 0, 0, 0), []), (25, .ireturn, 1, (0, 0, 0, 0), []), (26, .iload_n 1, 1, (0, 0, 0, 0), []), (27, .iload_n 2, 1, (0, 0, 0, 0), []), (28, .invokestatic 221, 3, (3, 149, 0, 0), [912, 911]), (31, .istore 4, 2, (0, 0, 0, 0), [])]
def mc_X10_parts_1 : List ax_EN := [(33, .iload_n 3, 1, (0, 0, 0, 0), []), (34, .tableswitch 49 0 3 #[30, 33, 40, 46], 30, (0, 0, 0, 0), [])]
def mc_X10_parts_2 : List ax_EN := [(64, .iload 4, 2, (0, 0, 0, 0), []), (66, .ireturn, 1, (0, 0, 0, 0), []), (67, .iload_n 1, 1, (0, 0, 0, 0), []), (68, .iload 4, 2, (0, 0, 0, 0), []), (70, .iload_n 2, 1, (0, 0, 0, 0), []), (71, .imul, 1, (0, 0, 0, 0), []), (72, .isub, 1, (0, 0, 0, 0), []), (73, .ireturn, 1, (0, 0, 0, 0), []), (74, .iload_n 1, 1, (0, 0, 0, 0), []), (75, .iload_n 2, 1, (0, 0, 0, 0), []), (76, .invokestatic 224, 3, (3, 148, 0, 0), [915, 914]), (79, .ireturn, 1, (0, 0, 0, 0), []), (80, .iload 4, 2, (0, 0, 0, 0), []), (82, .ireturn, 1, (0, 0, 0, 0), []), (83, .bipush (-102), 2, (0, 0, 0, 0), []), (85, .ireturn, 1, (0, 0, 0, 0), [])]
def mt_X10_parts : ax_MI := (RX10, yX10_parts, cX10_parts, 5, (some .int), 3, 0, 0, [mc_X10_parts_0, mc_X10_parts_1, mc_X10_parts_2])
def mc_X10_stone_0 : List ax_EN := [(0, .aload_n 0, 1, (0, 0, 0, 0), []), (1, .getfield 10, 3, (0, 10, 0, 0), [421]), (4, .invokestatic 227, 3, (4, 74, 0, 0), [922, 921]), (7, .ifCond .ne 6, 3, (0, 0, 0, 0), []), (10, .bipush (-103), 2, (0, 0, 0, 0), []), (12, .ireturn, 1, (0, 0, 0, 0), []), (13, .aload_n 0, 1, (0, 0, 0, 0), []), (14, .getfield 45, 3, (0, 10, 5, 0), [426]), (17, .aload_n 0, 1, (0, 0, 0, 0), []), (18, .getfield 10, 3, (0, 10, 0, 0), [421]), (21, .invokevirtual 230, 3, (4, 75, 7, 0), [930, 48, 928]), (24, .aload_n 0, 1, (0, 0, 0, 0), []), (25, .getfield 10, 3, (0, 10, 0, 0), [421]), (28, .iconst 0, 1, (0, 0, 0, 0), []), (29, .putfield 79, 3, (1, 4, 1, 0), [154])]
def mc_X10_stone_1 : List ax_EN := [(32, .aload_n 0, 1, (0, 0, 0, 0), []), (33, .getfield 45, 3, (0, 10, 5, 0), [426]), (36, .getfield 234, 3, (1, 7, 1, 0), [318]), (39, .ireturn, 1, (0, 0, 0, 0), [])]
def mt_X10_stone : ax_MI := (RX10, yX10_stone, cX10_stone, 1, (some .int), 0, 0, 0, [mc_X10_stone_0, mc_X10_stone_1])
def mc_X10_could_0 : List ax_EN := [(0, .aload_n 0, 1, (0, 0, 0, 0), []), (1, .iload_n 1, 1, (0, 0, 0, 0), []), (2, .invokevirtual 104, 3, (3, 143, 10, 0), [655, 10, 653]), (5, .ifCond .ne 6, 3, (0, 0, 0, 0), []), (8, .bipush (-101), 2, (0, 0, 0, 0), []), (10, .ireturn, 1, (0, 0, 0, 0), []), (11, .aload_n 0, 1, (0, 0, 0, 0), []), (12, .iload_n 1, 1, (0, 0, 0, 0), []), (13, .invokevirtual 237, 3, (3, 145, 10, 0), [938, 49, 936]), (16, .ifCond .ne 6, 3, (0, 0, 0, 0), []), (19, .bipush (-103), 2, (0, 0, 0, 0), []), (21, .ireturn, 1, (0, 0, 0, 0), []), (22, .aload_n 0, 1, (0, 0, 0, 0), []), (23, .getfield 45, 3, (0, 10, 5, 0), [426]), (26, .getfield 240, 3, (1, 7, 7, 0), [327]), (29, .ireturn, 1, (0, 0, 0, 0), [])]
def mt_X10_could : ax_MI := (RX10, yX10_could, cX10_could, 2, (some .int), 1, 1, 41160, [mc_X10_could_0])
def mc_X10_says_0 : List ax_EN := [(0, .aload_n 0, 1, (0, 0, 0, 0), []), (1, .iload_n 1, 1, (0, 0, 0, 0), []), (2, .invokevirtual 104, 3, (3, 143, 10, 0), [655, 10, 653]), (5, .ifCond .ne 6, 3, (0, 0, 0, 0), []), (8, .bipush (-101), 2, (0, 0, 0, 0), []), (10, .ireturn, 1, (0, 0, 0, 0), []), (11, .aload_n 0, 1, (0, 0, 0, 0), []), (12, .iload_n 1, 1, (0, 0, 0, 0), []), (13, .invokevirtual 237, 3, (3, 145, 10, 0), [938, 49, 936]), (16, .ifCond .ne 6, 3, (0, 0, 0, 0), []), (19, .bipush (-103), 2, (0, 0, 0, 0), []), (21, .ireturn, 1, (0, 0, 0, 0), []), (22, .iload_n 2, 1, (0, 0, 0, 0), []), (23, .ifCond .lt 14, 3, (0, 0, 0, 0), []), (26, .iload_n 2, 1, (0, 0, 0, 0), []), (27, .aload_n 0, 1, (0, 0, 0, 0), []), (28, .getfield 45, 3, (0, 10, 5, 0), [426]), (31, .getfield 240, 3, (1, 7, 7, 0), [327])]
def mc_X10_says_1 : List ax_EN := [(34, .if_icmp .lt 7, 3, (0, 0, 0, 0), []), (37, .iconst (-1), 1, (0, 0, 0, 0), []), (38, .goto 12, 3, (0, 0, 0, 0), []), (41, .aload_n 0, 1, (0, 0, 0, 0), []), (42, .getfield 45, 3, (0, 10, 5, 0), [426]), (45, .getfield 243, 3, (1, 7, 4, 0), [322]), (48, .iload_n 2, 1, (0, 0, 0, 0), []), (49, .iaload, 1, (0, 0, 0, 0), []), (50, .ireturn, 1, (0, 0, 0, 0), [])]
def mt_X10_says : ax_MI := (RX10, yX10_says, cX10_says, 3, (some .int), 2, 1, 41160, [mc_X10_says_0, mc_X10_says_1])
def mc_X10_sure_0 : List ax_EN := [(0, .aload_n 0, 1, (0, 0, 0, 0), []), (1, .iload_n 1, 1, (0, 0, 0, 0), []), (2, .invokevirtual 104, 3, (3, 143, 10, 0), [655, 10, 653]), (5, .ifCond .ne 6, 3, (0, 0, 0, 0), []), (8, .bipush (-101), 2, (0, 0, 0, 0), []), (10, .ireturn, 1, (0, 0, 0, 0), []), (11, .iload_n 2, 1, (0, 0, 0, 0), []), (12, .ifCond .lt 9, 3, (0, 0, 0, 0), []), (15, .iload_n 2, 1, (0, 0, 0, 0), []), (16, .bipush 20, 2, (0, 0, 0, 0), []), (18, .if_icmp .lt 6, 3, (0, 0, 0, 0), []), (21, .bipush (-102), 2, (0, 0, 0, 0), []), (23, .ireturn, 1, (0, 0, 0, 0), []), (24, .aload_n 0, 1, (0, 0, 0, 0), []), (25, .iload_n 1, 1, (0, 0, 0, 0), []), (26, .invokevirtual 237, 3, (3, 145, 10, 0), [938, 49, 936]), (29, .ifCond .ne 6, 3, (0, 0, 0, 0), [])]
def mc_X10_sure_1 : List ax_EN := [(32, .bipush (-103), 2, (0, 0, 0, 0), []), (34, .ireturn, 1, (0, 0, 0, 0), []), (35, .iload_n 2, 1, (0, 0, 0, 0), []), (36, .aload_n 0, 1, (0, 0, 0, 0), []), (37, .getfield 45, 3, (0, 10, 5, 0), [426]), (40, .getfield 234, 3, (1, 7, 1, 0), [318]), (43, .if_icmp .ge 15, 3, (0, 0, 0, 0), []), (46, .aload_n 0, 1, (0, 0, 0, 0), []), (47, .getfield 45, 3, (0, 10, 5, 0), [426]), (50, .getfield 246, 3, (1, 7, 5, 0), [324]), (53, .iload_n 2, 1, (0, 0, 0, 0), []), (54, .iaload, 1, (0, 0, 0, 0), []), (55, .goto 4, 3, (0, 0, 0, 0), []), (58, .iconst (-1), 1, (0, 0, 0, 0), []), (59, .ireturn, 1, (0, 0, 0, 0), [])]
def mt_X10_sure : ax_MI := (RX10, yX10_sure, cX10_sure, 3, (some .int), 2, 1, 41160, [mc_X10_sure_0, mc_X10_sure_1])
def mc_X10_note_0 : List ax_EN := [(0, .iload_n 1, 1, (0, 0, 0, 0), []), (1, .invokestatic 249, 3, (3, 141, 0, 0), [979, 978]), (4, .ifCond .eq 10, 3, (0, 0, 0, 0), []), (7, .iload_n 2, 1, (0, 0, 0, 0), []), (8, .invokestatic 118, 3, (3, 140, 0, 0), [662, 661]), (11, .ifCond .ne 6, 3, (0, 0, 0, 0), []), (14, .bipush (-101), 2, (0, 0, 0, 0), []), (16, .ireturn, 1, (0, 0, 0, 0), []), (17, .aload_n 0, 1, (0, 0, 0, 0), []), (18, .getfield 51, 3, (0, 10, 6, 0), [427]), (21, .iload_n 1, 1, (0, 0, 0, 0), []), (22, .aaload, 1, (0, 0, 0, 0), []), (23, .getfield 252, 3, (1, 3, 1, 0), [411]), (26, .bipush 30, 2, (0, 0, 0, 0), []), (28, .if_icmp .lt 6, 3, (0, 0, 0, 0), []), (31, .bipush (-104), 2, (0, 0, 0, 0), [])]
def mc_X10_note_1 : List ax_EN := [(33, .ireturn, 1, (0, 0, 0, 0), []), (34, .aload_n 0, 1, (0, 0, 0, 0), []), (35, .getfield 51, 3, (0, 10, 6, 0), [427]), (38, .iload_n 1, 1, (0, 0, 0, 0), []), (39, .aaload, 1, (0, 0, 0, 0), []), (40, .aload_n 0, 1, (0, 0, 0, 0), []), (41, .getfield 24, 3, (0, 10, 2, 0), [423]), (44, .iload_n 2, 1, (0, 0, 0, 0), []), (45, .aaload, 1, (0, 0, 0, 0), []), (46, .aload_n 0, 1, (0, 0, 0, 0), []), (47, .aload_n 0, 1, (0, 0, 0, 0), []), (48, .getfield 24, 3, (0, 10, 2, 0), [423]), (51, .iload_n 2, 1, (0, 0, 0, 0), []), (52, .aaload, 1, (0, 0, 0, 0), []), (53, .invokevirtual 255, 3, (3, 144, 10, 0), [983, 55, 981]), (56, .invokevirtual 258, 3, (4, 47, 3, 0), [987, 56, 985]), (59, .aload_n 0, 1, (0, 0, 0, 0), []), (60, .getfield 51, 3, (0, 10, 6, 0), [427]), (63, .iload_n 1, 1, (0, 0, 0, 0), [])]
def mc_X10_note_2 : List ax_EN := [(64, .aaload, 1, (0, 0, 0, 0), []), (65, .getfield 252, 3, (1, 3, 1, 0), [411]), (68, .ireturn, 1, (0, 0, 0, 0), [])]
def mt_X10_note : ax_MI := (RX10, yX10_note, cX10_note, 3, (some .int), 2, 0, 0, [mc_X10_note_0, mc_X10_note_1, mc_X10_note_2])
def mc_X10_habit_0 : List ax_EN := [(0, .iload_n 1, 1, (0, 0, 0, 0), []), (1, .invokestatic 249, 3, (3, 141, 0, 0), [979, 978]), (4, .ifCond .eq 15, 3, (0, 0, 0, 0), []), (7, .aload_n 0, 1, (0, 0, 0, 0), []), (8, .getfield 51, 3, (0, 10, 6, 0), [427]), (11, .iload_n 1, 1, (0, 0, 0, 0), []), (12, .aaload, 1, (0, 0, 0, 0), []), (13, .getfield 262, 3, (1, 3, 2, 0), [413]), (16, .goto 5, 3, (0, 0, 0, 0), []), (19, .bipush (-101), 2, (0, 0, 0, 0), []), (21, .ireturn, 1, (0, 0, 0, 0), [])]
def mt_X10_habit : ax_MI := (RX10, yX10_habit, cX10_habit, 2, (some .int), 1, 0, 0, [mc_X10_habit_0])
def mc_X10_hands_0 : List ax_EN := [(0, .iload_n 1, 1, (0, 0, 0, 0), []), (1, .invokestatic 118, 3, (3, 140, 0, 0), [662, 661]), (4, .ifCond .ne 6, 3, (0, 0, 0, 0), []), (7, .bipush (-101), 2, (0, 0, 0, 0), []), (9, .ireturn, 1, (0, 0, 0, 0), []), (10, .aload_n 0, 1, (0, 0, 0, 0), []), (11, .aload_n 0, 1, (0, 0, 0, 0), []), (12, .getfield 24, 3, (0, 10, 2, 0), [423]), (15, .iload_n 1, 1, (0, 0, 0, 0), []), (16, .aaload, 1, (0, 0, 0, 0), []), (17, .invokevirtual 255, 3, (3, 144, 10, 0), [983, 55, 981]), (20, .istore_n 2, 1, (0, 0, 0, 0), []), (21, .iconst 0, 1, (0, 0, 0, 0), []), (22, .istore_n 3, 1, (0, 0, 0, 0), []), (23, .iconst 0, 1, (0, 0, 0, 0), []), (24, .istore 4, 2, (0, 0, 0, 0), []), (26, .iload 4, 2, (0, 0, 0, 0), []), (28, .bipush 6, 2, (0, 0, 0, 0), []), (30, .if_icmp .ge 31, 3, (0, 0, 0, 0), [])]
def mc_X10_hands_1 : List ax_EN := [(33, .aload_n 0, 1, (0, 0, 0, 0), []), (34, .getfield 51, 3, (0, 10, 6, 0), [427]), (37, .iload 4, 2, (0, 0, 0, 0), []), (39, .aaload, 1, (0, 0, 0, 0), []), (40, .getfield 262, 3, (1, 3, 2, 0), [413]), (43, .iload_n 2, 1, (0, 0, 0, 0), []), (44, .iand, 1, (0, 0, 0, 0), []), (45, .ifCond .eq 10, 3, (0, 0, 0, 0), []), (48, .iload_n 3, 1, (0, 0, 0, 0), []), (49, .iconst 1, 1, (0, 0, 0, 0), []), (50, .iload 4, 2, (0, 0, 0, 0), []), (52, .ishl, 1, (0, 0, 0, 0), []), (53, .ior, 1, (0, 0, 0, 0), []), (54, .istore_n 3, 1, (0, 0, 0, 0), []), (55, .iinc 4 1, 3, (0, 0, 0, 0), []), (58, .goto (-32), 3, (0, 0, 0, 0), []), (61, .iload_n 3, 1, (0, 0, 0, 0), []), (62, .ireturn, 1, (0, 0, 0, 0), [])]
def mt_X10_hands : ax_MI := (RX10, yX10_hands, cX10_hands, 5, (some .int), 1, 0, 0, [mc_X10_hands_0, mc_X10_hands_1])
def mc_X10_line_0 : List ax_EN := [(0, .iload_n 1, 1, (0, 0, 0, 0), []), (1, .invokestatic 118, 3, (3, 140, 0, 0), [662, 661]), (4, .ifCond .eq 10, 3, (0, 0, 0, 0), []), (7, .iload_n 2, 1, (0, 0, 0, 0), []), (8, .invokestatic 118, 3, (3, 140, 0, 0), [662, 661]), (11, .ifCond .ne 6, 3, (0, 0, 0, 0), []), (14, .bipush (-101), 2, (0, 0, 0, 0), []), (16, .ireturn, 1, (0, 0, 0, 0), []), (17, .aload_n 0, 1, (0, 0, 0, 0), []), (18, .getfield 58, 3, (0, 10, 7, 0), [428]), (21, .getfield 265, 3, (1, 2, 4, 0), [363]), (24, .bipush 20, 2, (0, 0, 0, 0), []), (26, .if_icmp .lt 6, 3, (0, 0, 0, 0), []), (29, .bipush (-104), 2, (0, 0, 0, 0), []), (31, .ireturn, 1, (0, 0, 0, 0), [])]
def mc_X10_line_1 : List ax_EN := [(32, .aload_n 0, 1, (0, 0, 0, 0), []), (33, .getfield 58, 3, (0, 10, 7, 0), [428]), (36, .aload_n 0, 1, (0, 0, 0, 0), []), (37, .getfield 24, 3, (0, 10, 2, 0), [423]), (40, .iload_n 1, 1, (0, 0, 0, 0), []), (41, .aaload, 1, (0, 0, 0, 0), []), (42, .aload_n 0, 1, (0, 0, 0, 0), []), (43, .getfield 24, 3, (0, 10, 2, 0), [423]), (46, .iload_n 2, 1, (0, 0, 0, 0), []), (47, .aaload, 1, (0, 0, 0, 0), []), (48, .invokevirtual 268, 3, (4, 33, 2, 0), [1004, 57, 1002]), (51, .aload_n 0, 1, (0, 0, 0, 0), []), (52, .getfield 58, 3, (0, 10, 7, 0), [428]), (55, .getfield 265, 3, (1, 2, 4, 0), [363]), (58, .ireturn, 1, (0, 0, 0, 0), [])]
def mt_X10_line : ax_MI := (RX10, yX10_line, cX10_line, 3, (some .int), 2, 0, 0, [mc_X10_line_0, mc_X10_line_1])
def mc_X10_tear_0 : List ax_EN := [(0, .aload_n 0, 1, (0, 0, 0, 0), []), (1, .getfield 58, 3, (0, 10, 7, 0), [428]), (4, .getfield 265, 3, (1, 2, 4, 0), [363]), (7, .istore_n 1, 1, (0, 0, 0, 0), []), (8, .aload_n 0, 1, (0, 0, 0, 0), []), (9, .getfield 58, 3, (0, 10, 7, 0), [428]), (12, .invokevirtual 271, 3, (4, 34, 2, 0), [1014, 58, 1012]), (15, .iload_n 1, 1, (0, 0, 0, 0), []), (16, .ireturn, 1, (0, 0, 0, 0), [])]
def mt_X10_tear : ax_MI := (RX10, yX10_tear, cX10_tear, 2, (some .int), 0, 0, 0, [mc_X10_tear_0])
def mc_X10_wrong_0 : List ax_EN := [(0, .aload_n 0, 1, (0, 0, 0, 0), []), (1, .getfield 58, 3, (0, 10, 7, 0), [428]), (4, .invokevirtual 272, 3, (4, 36, 2, 0), [1022, 59, 1020]), (7, .ireturn, 1, (0, 0, 0, 0), [])]
def mt_X10_wrong : ax_MI := (RX10, yX10_wrong, cX10_wrong, 1, (some .int), 0, 0, 0, [mc_X10_wrong_0])
def mc_X10_mended_0 : List ax_EN := [(0, .aload_n 0, 1, (0, 0, 0, 0), []), (1, .getfield 58, 3, (0, 10, 7, 0), [428]), (4, .invokevirtual 275, 3, (4, 37, 2, 0), [1034, 61, 1032]), (7, .ireturn, 1, (0, 0, 0, 0), [])]
def mt_X10_mended : ax_MI := (RX10, yX10_mended, cX10_mended, 1, (some .int), 0, 0, 0, [mc_X10_mended_0])
def mc_X10_slip_0 : List ax_EN := [(0, .iload_n 1, 1, (0, 0, 0, 0), []), (1, .ifCond .lt 8, 3, (0, 0, 0, 0), []), (4, .iload_n 1, 1, (0, 0, 0, 0), []), (5, .iconst 3, 1, (0, 0, 0, 0), []), (6, .if_icmp .le 6, 3, (0, 0, 0, 0), []), (9, .bipush (-102), 2, (0, 0, 0, 0), []), (11, .ireturn, 1, (0, 0, 0, 0), []), (12, .aload_n 0, 1, (0, 0, 0, 0), []), (13, .getfield 58, 3, (0, 10, 7, 0), [428]), (16, .invokevirtual 278, 3, (4, 38, 2, 0), [1043, 62, 1041]), (19, .ifCond .ne 5, 3, (0, 0, 0, 0), []), (22, .iconst (-1), 1, (0, 0, 0, 0), []), (23, .ireturn, 1, (0, 0, 0, 0), []), (24, .iload_n 1, 1, (0, 0, 0, 0), []), (25, .tableswitch 51 0 2 #[27, 35, 43], 27, (0, 0, 0, 0), [])]
def mc_X10_slip_1 : List ax_EN := [(52, .aload_n 0, 1, (0, 0, 0, 0), []), (53, .getfield 58, 3, (0, 10, 7, 0), [428]), (56, .getfield 281, 3, (1, 2, 8, 0), [368]), (59, .ireturn, 1, (0, 0, 0, 0), []), (60, .aload_n 0, 1, (0, 0, 0, 0), []), (61, .getfield 58, 3, (0, 10, 7, 0), [428])]
def mc_X10_slip_2 : List ax_EN := [(64, .getfield 284, 3, (1, 2, 9, 0), [370]), (67, .ireturn, 1, (0, 0, 0, 0), []), (68, .aload_n 0, 1, (0, 0, 0, 0), []), (69, .getfield 58, 3, (0, 10, 7, 0), [428]), (72, .getfield 287, 3, (1, 2, 10, 0), [372]), (75, .ireturn, 1, (0, 0, 0, 0), []), (76, .aload_n 0, 1, (0, 0, 0, 0), []), (77, .getfield 58, 3, (0, 10, 7, 0), [428]), (80, .getfield 290, 3, (1, 2, 11, 0), [374]), (83, .ireturn, 1, (0, 0, 0, 0), [])]
def mt_X10_slip : ax_MI := (RX10, yX10_slip, cX10_slip, 2, (some .int), 1, 0, 0, [mc_X10_slip_0, mc_X10_slip_1, mc_X10_slip_2])
def mc_X10_count_0 : List ax_EN := [(0, .iload_n 1, 1, (0, 0, 0, 0), []), (1, .tableswitch 90 0 6 #[43, 48, 56, 64, 72, 77, 82], 43, (0, 0, 0, 0), [])]
def mc_X10_count_1 : List ax_EN := [(44, .aload_n 0, 1, (0, 0, 0, 0), []), (45, .getfield 62, 3, (0, 10, 8, 0), [429]), (48, .ireturn, 1, (0, 0, 0, 0), []), (49, .aload_n 0, 1, (0, 0, 0, 0), []), (50, .getfield 10, 3, (0, 10, 0, 0), [421]), (53, .getfield 79, 3, (1, 4, 1, 0), [154]), (56, .ireturn, 1, (0, 0, 0, 0), []), (57, .aload_n 0, 1, (0, 0, 0, 0), []), (58, .getfield 45, 3, (0, 10, 5, 0), [426]), (61, .getfield 234, 3, (1, 7, 1, 0), [318])]
def mc_X10_count_2 : List ax_EN := [(64, .ireturn, 1, (0, 0, 0, 0), []), (65, .aload_n 0, 1, (0, 0, 0, 0), []), (66, .getfield 58, 3, (0, 10, 7, 0), [428]), (69, .getfield 265, 3, (1, 2, 4, 0), [363]), (72, .ireturn, 1, (0, 0, 0, 0), []), (73, .aload_n 0, 1, (0, 0, 0, 0), []), (74, .getfield 66, 3, (0, 10, 9, 0), [430]), (77, .ireturn, 1, (0, 0, 0, 0), []), (78, .aload_n 0, 1, (0, 0, 0, 0), []), (79, .getfield 69, 3, (0, 10, 10, 0), [431]), (82, .ireturn, 1, (0, 0, 0, 0), []), (83, .aload_n 0, 1, (0, 0, 0, 0), []), (84, .getfield 38, 3, (0, 10, 4, 0), [425]), (87, .getfield 197, 3, (1, 0, 5, 0), [294]), (90, .ireturn, 1, (0, 0, 0, 0), []), (91, .bipush (-102), 2, (0, 0, 0, 0), []), (93, .ireturn, 1, (0, 0, 0, 0), [])]
def mt_X10_count : ax_MI := (RX10, yX10_count, cX10_count, 2, (some .int), 1, 0, 0, [mc_X10_count_0, mc_X10_count_1, mc_X10_count_2])
def mc_X10_digest_0 : List ax_EN := [(0, .ldc2_w 293, 3, (7, 0, 0, 223), [1077]), (3, .lstore_n 1, 1, (0, 0, 0, 0), []), (4, .aload_n 0, 1, (0, 0, 0, 0), []), (5, .getfield 10, 3, (0, 10, 0, 0), [421]), (8, .lload_n 1, 1, (0, 0, 0, 0), []), (9, .invokevirtual 295, 3, (4, 55, 4, 0), [1080, 69, 1078]), (12, .lstore_n 1, 1, (0, 0, 0, 0), []), (13, .iconst 0, 1, (0, 0, 0, 0), []), (14, .istore_n 3, 1, (0, 0, 0, 0), []), (15, .iload_n 3, 1, (0, 0, 0, 0), []), (16, .aload_n 0, 1, (0, 0, 0, 0), []), (17, .getfield 62, 3, (0, 10, 8, 0), [429]), (20, .if_icmp .ge 20, 3, (0, 0, 0, 0), []), (23, .aload_n 0, 1, (0, 0, 0, 0), []), (24, .getfield 18, 3, (0, 10, 1, 0), [422]), (27, .iload_n 3, 1, (0, 0, 0, 0), []), (28, .aaload, 1, (0, 0, 0, 0), []), (29, .lload_n 1, 1, (0, 0, 0, 0), []), (30, .invokevirtual 299, 3, (4, 31, 1, 0), [1088, 70, 1086])]
def mc_X10_digest_1 : List ax_EN := [(33, .lstore_n 1, 1, (0, 0, 0, 0), []), (34, .iinc 3 1, 3, (0, 0, 0, 0), []), (37, .goto (-22), 3, (0, 0, 0, 0), []), (40, .iconst 0, 1, (0, 0, 0, 0), []), (41, .istore_n 3, 1, (0, 0, 0, 0), []), (42, .iload_n 3, 1, (0, 0, 0, 0), []), (43, .bipush 12, 2, (0, 0, 0, 0), []), (45, .if_icmp .ge 20, 3, (0, 0, 0, 0), []), (48, .aload_n 0, 1, (0, 0, 0, 0), []), (49, .getfield 24, 3, (0, 10, 2, 0), [423]), (52, .iload_n 3, 1, (0, 0, 0, 0), []), (53, .aaload, 1, (0, 0, 0, 0), []), (54, .lload_n 1, 1, (0, 0, 0, 0), []), (55, .invokevirtual 300, 3, (4, 61, 5, 0), [1093, 71, 1091]), (58, .lstore_n 1, 1, (0, 0, 0, 0), []), (59, .iinc 3 1, 3, (0, 0, 0, 0), []), (62, .goto (-20), 3, (0, 0, 0, 0), [])]
def mc_X10_digest_2 : List ax_EN := [(65, .aload_n 0, 1, (0, 0, 0, 0), []), (66, .getfield 38, 3, (0, 10, 4, 0), [425]), (69, .lload_n 1, 1, (0, 0, 0, 0), []), (70, .invokevirtual 301, 3, (4, 16, 0, 0), [1098, 72, 1096]), (73, .lstore_n 1, 1, (0, 0, 0, 0), []), (74, .aload_n 0, 1, (0, 0, 0, 0), []), (75, .getfield 45, 3, (0, 10, 5, 0), [426]), (78, .lload_n 1, 1, (0, 0, 0, 0), []), (79, .invokevirtual 302, 3, (4, 82, 7, 0), [1103, 73, 1101]), (82, .lstore_n 1, 1, (0, 0, 0, 0), []), (83, .iconst 0, 1, (0, 0, 0, 0), []), (84, .istore_n 3, 1, (0, 0, 0, 0), []), (85, .iload_n 3, 1, (0, 0, 0, 0), []), (86, .bipush 6, 2, (0, 0, 0, 0), []), (88, .if_icmp .ge 37, 3, (0, 0, 0, 0), []), (91, .lload_n 1, 1, (0, 0, 0, 0), []), (92, .aload_n 0, 1, (0, 0, 0, 0), []), (93, .getfield 51, 3, (0, 10, 6, 0), [427])]
def mc_X10_digest_3 : List ax_EN := [(96, .iload_n 3, 1, (0, 0, 0, 0), []), (97, .aaload, 1, (0, 0, 0, 0), []), (98, .getfield 252, 3, (1, 3, 1, 0), [411]), (101, .i2l, 1, (0, 0, 0, 0), []), (102, .invokestatic 303, 3, (3, 139, 0, 0), [1083, 1106]), (105, .aload_n 0, 1, (0, 0, 0, 0), []), (106, .getfield 51, 3, (0, 10, 6, 0), [427]), (109, .iload_n 3, 1, (0, 0, 0, 0), []), (110, .aaload, 1, (0, 0, 0, 0), []), (111, .getfield 262, 3, (1, 3, 2, 0), [413]), (114, .i2l, 1, (0, 0, 0, 0), []), (115, .invokestatic 303, 3, (3, 139, 0, 0), [1083, 1106]), (118, .lstore_n 1, 1, (0, 0, 0, 0), []), (119, .iinc 3 1, 3, (0, 0, 0, 0), []), (122, .goto (-37), 3, (0, 0, 0, 0), []), (125, .aload_n 0, 1, (0, 0, 0, 0), []), (126, .getfield 58, 3, (0, 10, 7, 0), [428])]
def mc_X10_digest_4 : List ax_EN := [(129, .lload_n 1, 1, (0, 0, 0, 0), []), (130, .invokevirtual 307, 3, (4, 45, 2, 0), [1109, 74, 1107]), (133, .lstore_n 1, 1, (0, 0, 0, 0), []), (134, .lload_n 1, 1, (0, 0, 0, 0), []), (135, .aload_n 0, 1, (0, 0, 0, 0), []), (136, .getfield 66, 3, (0, 10, 9, 0), [430]), (139, .i2l, 1, (0, 0, 0, 0), []), (140, .invokestatic 303, 3, (3, 139, 0, 0), [1083, 1106]), (143, .lstore_n 1, 1, (0, 0, 0, 0), []), (144, .lload_n 1, 1, (0, 0, 0, 0), []), (145, .aload_n 0, 1, (0, 0, 0, 0), []), (146, .getfield 69, 3, (0, 10, 10, 0), [431]), (149, .i2l, 1, (0, 0, 0, 0), []), (150, .invokestatic 303, 3, (3, 139, 0, 0), [1083, 1106]), (153, .lstore_n 1, 1, (0, 0, 0, 0), []), (154, .lload_n 1, 1, (0, 0, 0, 0), []), (155, .aload_n 0, 1, (0, 0, 0, 0), []), (156, .getfield 38, 3, (0, 10, 4, 0), [425]), (159, .getfield 197, 3, (1, 0, 5, 0), [294])]
def mc_X10_digest_5 : List ax_EN := [(162, .i2l, 1, (0, 0, 0, 0), []), (163, .invokestatic 303, 3, (3, 139, 0, 0), [1083, 1106]), (166, .lreturn, 1, (0, 0, 0, 0), [])]
def mt_X10_digest : ax_MI := (RX10, yX10_digest, cX10_digest, 4, (some .long), 0, 0, 0, [mc_X10_digest_0, mc_X10_digest_1, mc_X10_digest_2, mc_X10_digest_3, mc_X10_digest_4, mc_X10_digest_5])
def mc_X10_mix_0 : List ax_EN := [(0, .ldc2_w 308, 3, (7, 0, 0, 31), [1085]), (3, .lload_n 0, 1, (0, 0, 0, 0), []), (4, .lmul, 1, (0, 0, 0, 0), []), (5, .lload_n 2, 1, (0, 0, 0, 0), []), (6, .ladd, 1, (0, 0, 0, 0), []), (7, .lreturn, 1, (0, 0, 0, 0), [])]
def mt_X10_mix : ax_MI := (RX10, yX10_mix, cX10_mix, 4, (some .long), 2, 0, 0, [mc_X10_mix_0])
def mc_X10_isRow_0 : List ax_EN := [(0, .iload_n 0, 1, (0, 0, 0, 0), []), (1, .ifCond .lt 13, 3, (0, 0, 0, 0), []), (4, .iload_n 0, 1, (0, 0, 0, 0), []), (5, .bipush 12, 2, (0, 0, 0, 0), []), (7, .if_icmp .ge 7, 3, (0, 0, 0, 0), []), (10, .iconst 1, 1, (0, 0, 0, 0), []), (11, .goto 4, 3, (0, 0, 0, 0), []), (14, .iconst 0, 1, (0, 0, 0, 0), []), (15, .ireturn, 1, (0, 0, 0, 0), [])]
def mt_X10_isRow : ax_MI := (RX10, yX10_isRow, cX10_isRow, 1, (some .boolean), 1, 0, 0, [mc_X10_isRow_0])
def mc_X10_isMason_0 : List ax_EN := [(0, .iload_n 0, 1, (0, 0, 0, 0), []), (1, .ifCond .lt 13, 3, (0, 0, 0, 0), []), (4, .iload_n 0, 1, (0, 0, 0, 0), []), (5, .bipush 6, 2, (0, 0, 0, 0), []), (7, .if_icmp .ge 7, 3, (0, 0, 0, 0), []), (10, .iconst 1, 1, (0, 0, 0, 0), []), (11, .goto 4, 3, (0, 0, 0, 0), []), (14, .iconst 0, 1, (0, 0, 0, 0), []), (15, .ireturn, 1, (0, 0, 0, 0), [])]
def mt_X10_isMason : ax_MI := (RX10, yX10_isMason, cX10_isMason, 1, (some .boolean), 1, 0, 0, [mc_X10_isMason_0])
def mc_X10_isNumber_0 : List ax_EN := [(0, .iload_n 0, 1, (0, 0, 0, 0), []), (1, .iconst 1, 1, (0, 0, 0, 0), []), (2, .if_icmp .lt 14, 3, (0, 0, 0, 0), []), (5, .iload_n 0, 1, (0, 0, 0, 0), []), (6, .ldc_w 310, 3, (6, 0, 0, 9999999), [715]), (9, .if_icmp .gt 7, 3, (0, 0, 0, 0), []), (12, .iconst 1, 1, (0, 0, 0, 0), []), (13, .goto 4, 3, (0, 0, 0, 0), []), (16, .iconst 0, 1, (0, 0, 0, 0), []), (17, .ireturn, 1, (0, 0, 0, 0), [])]
def mt_X10_isNumber : ax_MI := (RX10, yX10_isNumber, cX10_isNumber, 1, (some .boolean), 1, 0, 0, [mc_X10_isNumber_0])
def mc_X10_isCustom_0 : List ax_EN := [(0, .iload_n 1, 1, (0, 0, 0, 0), []), (1, .ifCond .lt 15, 3, (0, 0, 0, 0), []), (4, .iload_n 1, 1, (0, 0, 0, 0), []), (5, .aload_n 0, 1, (0, 0, 0, 0), []), (6, .getfield 62, 3, (0, 10, 8, 0), [429]), (9, .if_icmp .ge 7, 3, (0, 0, 0, 0), []), (12, .iconst 1, 1, (0, 0, 0, 0), []), (13, .goto 4, 3, (0, 0, 0, 0), []), (16, .iconst 0, 1, (0, 0, 0, 0), []), (17, .ireturn, 1, (0, 0, 0, 0), [])]
def mt_X10_isCustom : ax_MI := (RX10, yX10_isCustom, cX10_isCustom, 2, (some .boolean), 1, 0, 0, [mc_X10_isCustom_0])
def mc_X10_customsAllowing_0 : List ax_EN := [(0, .iconst 0, 1, (0, 0, 0, 0), []), (1, .istore_n 2, 1, (0, 0, 0, 0), []), (2, .iconst 0, 1, (0, 0, 0, 0), []), (3, .istore_n 3, 1, (0, 0, 0, 0), []), (4, .iload_n 3, 1, (0, 0, 0, 0), []), (5, .aload_n 0, 1, (0, 0, 0, 0), []), (6, .getfield 62, 3, (0, 10, 8, 0), [429]), (9, .if_icmp .ge 28, 3, (0, 0, 0, 0), []), (12, .aload_n 0, 1, (0, 0, 0, 0), []), (13, .getfield 18, 3, (0, 10, 1, 0), [422]), (16, .iload_n 3, 1, (0, 0, 0, 0), []), (17, .aaload, 1, (0, 0, 0, 0), []), (18, .aload_n 1, 1, (0, 0, 0, 0), []), (19, .invokevirtual 138, 3, (4, 18, 1, 0), [607, 2, 699]), (22, .ifCond .eq 9, 3, (0, 0, 0, 0), []), (25, .iload_n 2, 1, (0, 0, 0, 0), []), (26, .iconst 1, 1, (0, 0, 0, 0), []), (27, .iload_n 3, 1, (0, 0, 0, 0), []), (28, .ishl, 1, (0, 0, 0, 0), []), (29, .ior, 1, (0, 0, 0, 0), []), (30, .istore_n 2, 1, (0, 0, 0, 0), []), (31, .iinc 3 1, 3, (0, 0, 0, 0), [])]
def mc_X10_customsAllowing_1 : List ax_EN := [(34, .goto (-30), 3, (0, 0, 0, 0), []), (37, .iload_n 2, 1, (0, 0, 0, 0), []), (38, .ireturn, 1, (0, 0, 0, 0), [])]
def mt_X10_customsAllowing : ax_MI := (RX10, yX10_customsAllowing, cX10_customsAllowing, 4, (some .int), 1, 0, 0, [mc_X10_customsAllowing_0, mc_X10_customsAllowing_1])
def mc_X10_readStone_0 : List ax_EN := [(0, .aload_n 0, 1, (0, 0, 0, 0), []), (1, .getfield 45, 3, (0, 10, 5, 0), [426]), (4, .getfield 234, 3, (1, 7, 1, 0), [318]), (7, .ifCond .eq 12, 3, (0, 0, 0, 0), []), (10, .aload_n 0, 1, (0, 0, 0, 0), []), (11, .getfield 69, 3, (0, 10, 10, 0), [431]), (14, .bipush 30, 2, (0, 0, 0, 0), []), (16, .if_icmp .lt 5, 3, (0, 0, 0, 0), []), (19, .iconst 0, 1, (0, 0, 0, 0), []), (20, .ireturn, 1, (0, 0, 0, 0), []), (21, .aload_n 0, 1, (0, 0, 0, 0), []), (22, .dup, 1, (0, 0, 0, 0), []), (23, .getfield 69, 3, (0, 10, 10, 0), [431]), (26, .iconst 1, 1, (0, 0, 0, 0), []), (27, .iadd, 1, (0, 0, 0, 0), []), (28, .putfield 69, 3, (0, 10, 10, 0), [431]), (31, .aload_n 0, 1, (0, 0, 0, 0), [])]
def mc_X10_readStone_1 : List ax_EN := [(32, .getfield 45, 3, (0, 10, 5, 0), [426]), (35, .aload_n 0, 1, (0, 0, 0, 0), []), (36, .getfield 18, 3, (0, 10, 1, 0), [422]), (39, .iload_n 1, 1, (0, 0, 0, 0), []), (40, .aaload, 1, (0, 0, 0, 0), []), (41, .iload_n 1, 1, (0, 0, 0, 0), []), (42, .invokevirtual 311, 3, (4, 76, 7, 0), [942, 50, 940]), (45, .iconst 1, 1, (0, 0, 0, 0), []), (46, .ireturn, 1, (0, 0, 0, 0), [])]
def mt_X10_readStone : ax_MI := (RX10, yX10_readStone, cX10_readStone, 2, (some .boolean), 1, 1, 41160, [mc_X10_readStone_0, mc_X10_readStone_1])
def mc_X10_halvings_0 : List ax_EN := [(0, .iconst 0, 1, (0, 0, 0, 0), []), (1, .istore_n 1, 1, (0, 0, 0, 0), []), (2, .iload_n 0, 1, (0, 0, 0, 0), []), (3, .istore_n 2, 1, (0, 0, 0, 0), []), (4, .iload_n 2, 1, (0, 0, 0, 0), []), (5, .ifCond .le 13, 3, (0, 0, 0, 0), []), (8, .iinc 1 1, 3, (0, 0, 0, 0), []), (11, .iload_n 2, 1, (0, 0, 0, 0), []), (12, .iconst 1, 1, (0, 0, 0, 0), []), (13, .ishr, 1, (0, 0, 0, 0), []), (14, .istore_n 2, 1, (0, 0, 0, 0), []), (15, .goto (-11), 3, (0, 0, 0, 0), []), (18, .iload_n 1, 1, (0, 0, 0, 0), []), (19, .ireturn, 1, (0, 0, 0, 0), [])]
def mt_X10_halvings : ax_MI := (RX10, yX10_halvings, cX10_halvings, 3, (some .int), 1, 0, 0, [mc_X10_halvings_0])
def mc_X10_product_0 : List ax_EN := [(0, .iconst 0, 1, (0, 0, 0, 0), []), (1, .istore_n 2, 1, (0, 0, 0, 0), []), (2, .iconst 0, 1, (0, 0, 0, 0), []), (3, .istore_n 3, 1, (0, 0, 0, 0), []), (4, .iload_n 3, 1, (0, 0, 0, 0), []), (5, .iload_n 0, 1, (0, 0, 0, 0), []), (6, .invokestatic 217, 3, (3, 146, 0, 0), [905, 904]), (9, .if_icmp .ge 24, 3, (0, 0, 0, 0), []), (12, .iload_n 0, 1, (0, 0, 0, 0), []), (13, .iload_n 3, 1, (0, 0, 0, 0), []), (14, .ishr, 1, (0, 0, 0, 0), []), (15, .iconst 1, 1, (0, 0, 0, 0), []), (16, .iand, 1, (0, 0, 0, 0), []), (17, .iconst 1, 1, (0, 0, 0, 0), []), (18, .if_icmp .ne 9, 3, (0, 0, 0, 0), []), (21, .iload_n 2, 1, (0, 0, 0, 0), []), (22, .iload_n 1, 1, (0, 0, 0, 0), []), (23, .iload_n 3, 1, (0, 0, 0, 0), []), (24, .ishl, 1, (0, 0, 0, 0), []), (25, .iadd, 1, (0, 0, 0, 0), []), (26, .istore_n 2, 1, (0, 0, 0, 0), []), (27, .iinc 3 1, 3, (0, 0, 0, 0), []), (30, .goto (-26), 3, (0, 0, 0, 0), [])]
def mc_X10_product_1 : List ax_EN := [(33, .iload_n 2, 1, (0, 0, 0, 0), []), (34, .ireturn, 1, (0, 0, 0, 0), [])]
def mt_X10_product : ax_MI := (RX10, yX10_product, cX10_product, 4, (some .int), 2, 0, 0, [mc_X10_product_0, mc_X10_product_1])
def mc_X10_doublings_0 : List ax_EN := [(0, .iconst 0, 1, (0, 0, 0, 0), []), (1, .istore_n 2, 1, (0, 0, 0, 0), []), (2, .iload_n 2, 1, (0, 0, 0, 0), []), (3, .bipush 20, 2, (0, 0, 0, 0), []), (5, .if_icmp .ge 16, 3, (0, 0, 0, 0), []), (8, .iload_n 1, 1, (0, 0, 0, 0), []), (9, .iload_n 2, 1, (0, 0, 0, 0), []), (10, .ishl, 1, (0, 0, 0, 0), []), (11, .iload_n 0, 1, (0, 0, 0, 0), []), (12, .if_icmp .gt 9, 3, (0, 0, 0, 0), []), (15, .iinc 2 1, 3, (0, 0, 0, 0), []), (18, .goto (-16), 3, (0, 0, 0, 0), []), (21, .iload_n 2, 1, (0, 0, 0, 0), []), (22, .ireturn, 1, (0, 0, 0, 0), [])]
def mt_X10_doublings : ax_MI := (RX10, yX10_doublings, cX10_doublings, 3, (some .int), 2, 0, 0, [mc_X10_doublings_0])
def mc_X10_linesTaken_0 : List ax_EN := [(0, .iload_n 0, 1, (0, 0, 0, 0), []), (1, .istore_n 2, 1, (0, 0, 0, 0), []), (2, .iconst 0, 1, (0, 0, 0, 0), []), (3, .istore_n 3, 1, (0, 0, 0, 0), []), (4, .iload_n 0, 1, (0, 0, 0, 0), []), (5, .iload_n 1, 1, (0, 0, 0, 0), []), (6, .invokestatic 224, 3, (3, 148, 0, 0), [915, 914]), (9, .iconst 1, 1, (0, 0, 0, 0), []), (10, .isub, 1, (0, 0, 0, 0), []), (11, .istore 4, 2, (0, 0, 0, 0), []), (13, .iload 4, 2, (0, 0, 0, 0), []), (15, .ifCond .lt 31, 3, (0, 0, 0, 0), []), (18, .iload_n 1, 1, (0, 0, 0, 0), []), (19, .iload 4, 2, (0, 0, 0, 0), []), (21, .ishl, 1, (0, 0, 0, 0), []), (22, .iload_n 2, 1, (0, 0, 0, 0), []), (23, .if_icmp .gt 17, 3, (0, 0, 0, 0), []), (26, .iload_n 2, 1, (0, 0, 0, 0), []), (27, .iload_n 1, 1, (0, 0, 0, 0), []), (28, .iload 4, 2, (0, 0, 0, 0), []), (30, .ishl, 1, (0, 0, 0, 0), []), (31, .isub, 1, (0, 0, 0, 0), [])]
def mc_X10_linesTaken_1 : List ax_EN := [(32, .istore_n 2, 1, (0, 0, 0, 0), []), (33, .iload_n 3, 1, (0, 0, 0, 0), []), (34, .iconst 1, 1, (0, 0, 0, 0), []), (35, .iload 4, 2, (0, 0, 0, 0), []), (37, .ishl, 1, (0, 0, 0, 0), []), (38, .ior, 1, (0, 0, 0, 0), []), (39, .istore_n 3, 1, (0, 0, 0, 0), []), (40, .iinc 4 (-1), 3, (0, 0, 0, 0), []), (43, .goto (-30), 3, (0, 0, 0, 0), []), (46, .iload_n 3, 1, (0, 0, 0, 0), []), (47, .ireturn, 1, (0, 0, 0, 0), [])]
def mt_X10_linesTaken : ax_MI := (RX10, yX10_linesTaken, cX10_linesTaken, 5, (some .int), 2, 0, 0, [mc_X10_linesTaken_0, mc_X10_linesTaken_1])
def mc_X10_signOf_0 : List ax_EN := [(3, .iload_n 0, 1, (0, 0, 0, 0), []), (4, .i2c, 1, (0, 0, 0, 0), []), (8, .ireturn, 1, (0, 0, 0, 0), [])]
def mt_X10_signOf : ax_MI := (RX10, yX10_signOf, cX10_signOf, 1, (some .int), 1, 0, 0, [mc_X10_signOf_0])
def mc_X11_init_0 : List ax_EN := [(0, .aload_n 0, 1, (0, 0, 0, 0), []), (1, .invokespecial 1, 3, (8, 0, 0, 0), [1117, 140, 141]), (4, .aload_n 0, 1, (0, 0, 0, 0), []), (5, .bipush 14, 2, (0, 0, 0, 0), []), (7, .newarray .int, 2, (5, 0, 0, 0), [160]), (9, .dup, 1, (0, 0, 0, 0), []), (10, .iconst 0, 1, (0, 0, 0, 0), []), (11, .iconst 1, 1, (0, 0, 0, 0), []), (12, .iastore, 1, (0, 0, 0, 0), []), (13, .dup, 1, (0, 0, 0, 0), []), (14, .iconst 1, 1, (0, 0, 0, 0), []), (15, .iconst 5, 1, (0, 0, 0, 0), []), (16, .iastore, 1, (0, 0, 0, 0), []), (17, .dup, 1, (0, 0, 0, 0), []), (18, .iconst 2, 1, (0, 0, 0, 0), []), (19, .bipush 10, 2, (0, 0, 0, 0), []), (21, .iastore, 1, (0, 0, 0, 0), []), (22, .dup, 1, (0, 0, 0, 0), []), (23, .iconst 3, 1, (0, 0, 0, 0), []), (24, .bipush 50, 2, (0, 0, 0, 0), []), (26, .iastore, 1, (0, 0, 0, 0), []), (27, .dup, 1, (0, 0, 0, 0), []), (28, .iconst 4, 1, (0, 0, 0, 0), []), (29, .bipush 100, 2, (0, 0, 0, 0), []), (31, .iastore, 1, (0, 0, 0, 0), [])]
def mc_X11_init_1 : List ax_EN := [(32, .dup, 1, (0, 0, 0, 0), []), (33, .iconst 5, 1, (0, 0, 0, 0), []), (34, .sipush 500, 3, (0, 0, 0, 0), []), (37, .iastore, 1, (0, 0, 0, 0), []), (38, .dup, 1, (0, 0, 0, 0), []), (39, .bipush 6, 2, (0, 0, 0, 0), []), (41, .sipush 1000, 3, (0, 0, 0, 0), []), (44, .iastore, 1, (0, 0, 0, 0), []), (45, .dup, 1, (0, 0, 0, 0), []), (46, .bipush 7, 2, (0, 0, 0, 0), []), (48, .sipush 1000, 3, (0, 0, 0, 0), []), (51, .iastore, 1, (0, 0, 0, 0), []), (52, .dup, 1, (0, 0, 0, 0), []), (53, .bipush 8, 2, (0, 0, 0, 0), []), (55, .sipush 5000, 3, (0, 0, 0, 0), []), (58, .iastore, 1, (0, 0, 0, 0), []), (59, .dup, 1, (0, 0, 0, 0), []), (60, .bipush 9, 2, (0, 0, 0, 0), []), (62, .sipush 10000, 3, (0, 0, 0, 0), [])]
def mc_X11_init_2 : List ax_EN := [(65, .iastore, 1, (0, 0, 0, 0), []), (66, .dup, 1, (0, 0, 0, 0), []), (67, .bipush 10, 2, (0, 0, 0, 0), []), (69, .ldc 7, 2, (6, 0, 0, 50000), [1118]), (71, .iastore, 1, (0, 0, 0, 0), []), (72, .dup, 1, (0, 0, 0, 0), []), (73, .bipush 11, 2, (0, 0, 0, 0), []), (75, .ldc 8, 2, (6, 0, 0, 100000), [1119]), (77, .iastore, 1, (0, 0, 0, 0), []), (78, .dup, 1, (0, 0, 0, 0), []), (79, .bipush 12, 2, (0, 0, 0, 0), []), (81, .ldc 9, 2, (6, 0, 0, 500000), [1120]), (83, .iastore, 1, (0, 0, 0, 0), []), (84, .dup, 1, (0, 0, 0, 0), []), (85, .bipush 13, 2, (0, 0, 0, 0), []), (87, .ldc 10, 2, (6, 0, 0, 1000000), [1121]), (89, .iastore, 1, (0, 0, 0, 0), []), (90, .putfield 11, 3, (0, 11, 0, 0), [1124]), (93, .aload_n 0, 1, (0, 0, 0, 0), []), (94, .bipush 14, 2, (0, 0, 0, 0), [])]
def mc_X11_init_3 : List ax_EN := [(96, .newarray .int, 2, (5, 0, 0, 0), [160]), (98, .dup, 1, (0, 0, 0, 0), []), (99, .iconst 0, 1, (0, 0, 0, 0), []), (100, .bipush 73, 2, (0, 0, 0, 0), []), (102, .iastore, 1, (0, 0, 0, 0), []), (103, .dup, 1, (0, 0, 0, 0), []), (104, .iconst 1, 1, (0, 0, 0, 0), []), (105, .bipush 86, 2, (0, 0, 0, 0), []), (107, .iastore, 1, (0, 0, 0, 0), []), (108, .dup, 1, (0, 0, 0, 0), []), (109, .iconst 2, 1, (0, 0, 0, 0), []), (110, .bipush 88, 2, (0, 0, 0, 0), []), (112, .iastore, 1, (0, 0, 0, 0), []), (113, .dup, 1, (0, 0, 0, 0), []), (114, .iconst 3, 1, (0, 0, 0, 0), []), (115, .bipush 76, 2, (0, 0, 0, 0), []), (117, .iastore, 1, (0, 0, 0, 0), []), (118, .dup, 1, (0, 0, 0, 0), []), (119, .iconst 4, 1, (0, 0, 0, 0), []), (120, .bipush 67, 2, (0, 0, 0, 0), []), (122, .iastore, 1, (0, 0, 0, 0), []), (123, .dup, 1, (0, 0, 0, 0), []), (124, .iconst 5, 1, (0, 0, 0, 0), []), (125, .bipush 68, 2, (0, 0, 0, 0), []), (127, .iastore, 1, (0, 0, 0, 0), [])]
def mc_X11_init_4 : List ax_EN := [(128, .dup, 1, (0, 0, 0, 0), []), (129, .bipush 6, 2, (0, 0, 0, 0), []), (131, .bipush 77, 2, (0, 0, 0, 0), []), (133, .iastore, 1, (0, 0, 0, 0), []), (134, .dup, 1, (0, 0, 0, 0), []), (135, .bipush 7, 2, (0, 0, 0, 0), []), (137, .bipush 105, 2, (0, 0, 0, 0), []), (139, .iastore, 1, (0, 0, 0, 0), []), (140, .dup, 1, (0, 0, 0, 0), []), (141, .bipush 8, 2, (0, 0, 0, 0), []), (143, .bipush 118, 2, (0, 0, 0, 0), []), (145, .iastore, 1, (0, 0, 0, 0), []), (146, .dup, 1, (0, 0, 0, 0), []), (147, .bipush 9, 2, (0, 0, 0, 0), []), (149, .bipush 120, 2, (0, 0, 0, 0), []), (151, .iastore, 1, (0, 0, 0, 0), []), (152, .dup, 1, (0, 0, 0, 0), []), (153, .bipush 10, 2, (0, 0, 0, 0), []), (155, .bipush 108, 2, (0, 0, 0, 0), []), (157, .iastore, 1, (0, 0, 0, 0), []), (158, .dup, 1, (0, 0, 0, 0), []), (159, .bipush 11, 2, (0, 0, 0, 0), [])]
def mc_X11_init_5 : List ax_EN := [(161, .bipush 99, 2, (0, 0, 0, 0), []), (163, .iastore, 1, (0, 0, 0, 0), []), (164, .dup, 1, (0, 0, 0, 0), []), (165, .bipush 12, 2, (0, 0, 0, 0), []), (167, .bipush 100, 2, (0, 0, 0, 0), []), (169, .iastore, 1, (0, 0, 0, 0), []), (170, .dup, 1, (0, 0, 0, 0), []), (171, .bipush 13, 2, (0, 0, 0, 0), []), (173, .bipush 109, 2, (0, 0, 0, 0), []), (175, .iastore, 1, (0, 0, 0, 0), []), (176, .putfield 17, 3, (0, 11, 1, 0), [1125]), (179, .aload_n 0, 1, (0, 0, 0, 0), []), (180, .bipush 80, 2, (0, 0, 0, 0), []), (182, .newarray .byte, 2, (5, 1, 0, 0), [587]), (184, .putfield 20, 3, (0, 11, 3, 0), [1127]), (187, .aload_n 0, 1, (0, 0, 0, 0), []), (188, .bipush 84, 2, (0, 0, 0, 0), []), (190, .newarray .int, 2, (5, 0, 0, 0), [160])]
def mc_X11_init_6 : List ax_EN := [(192, .putfield 24, 3, (0, 11, 5, 0), [1129]), (195, .aload_n 0, 1, (0, 0, 0, 0), []), (196, .bipush 84, 2, (0, 0, 0, 0), []), (198, .newarray .int, 2, (5, 0, 0, 0), [160]), (200, .putfield 27, 3, (0, 11, 6, 0), [1130]), (203, .aload_n 0, 1, (0, 0, 0, 0), []), (204, .bipush 84, 2, (0, 0, 0, 0), []), (206, .newarray .int, 2, (5, 0, 0, 0), [160]), (208, .putfield 30, 3, (0, 11, 7, 0), [1131]), (211, .aload_n 0, 1, (0, 0, 0, 0), []), (212, .bipush 13, 2, (0, 0, 0, 0), []), (214, .newarray .int, 2, (5, 0, 0, 0), [160]), (216, .putfield 33, 3, (0, 11, 8, 0), [1132]), (219, .aload_n 0, 1, (0, 0, 0, 0), []), (220, .sipush 312, 3, (0, 0, 0, 0), []), (223, .newarray .int, 2, (5, 0, 0, 0), [160])]
def mc_X11_init_7 : List ax_EN := [(225, .putfield 36, 3, (0, 11, 9, 0), [1133]), (228, .aload_n 0, 1, (0, 0, 0, 0), []), (229, .bipush 7, 2, (0, 0, 0, 0), []), (231, .newarray .int, 2, (5, 0, 0, 0), [160]), (233, .putfield 39, 3, (0, 11, 10, 0), [1134]), (236, .aload_n 0, 1, (0, 0, 0, 0), []), (237, .bipush 7, 2, (0, 0, 0, 0), []), (239, .newarray .int, 2, (5, 0, 0, 0), [160]), (241, .putfield 42, 3, (0, 11, 11, 0), [1135]), (244, .aload_n 0, 1, (0, 0, 0, 0), []), (245, .sipush 300, 3, (0, 0, 0, 0), []), (248, .newarray .int, 2, (5, 0, 0, 0), [160]), (250, .putfield 45, 3, (0, 11, 13, 0), [1137]), (253, .aload_n 0, 1, (0, 0, 0, 0), []), (254, .bipush 20, 2, (0, 0, 0, 0), [])]
def mc_X11_init_8 : List ax_EN := [(256, .newarray .int, 2, (5, 0, 0, 0), [160]), (258, .putfield 48, 3, (0, 11, 16, 0), [1140]), (261, .aload_n 0, 1, (0, 0, 0, 0), []), (262, .bipush 6, 2, (0, 0, 0, 0), []), (264, .newarray .int, 2, (5, 0, 0, 0), [160]), (266, .putfield 51, 3, (0, 11, 17, 0), [1141]), (269, .aload_n 0, 1, (0, 0, 0, 0), []), (270, .sipush 180, 3, (0, 0, 0, 0), []), (273, .newarray .int, 2, (5, 0, 0, 0), [160]), (275, .putfield 54, 3, (0, 11, 18, 0), [1142]), (278, .aload_n 0, 1, (0, 0, 0, 0), []), (279, .sipush 4320, 3, (0, 0, 0, 0), []), (282, .newarray .int, 2, (5, 0, 0, 0), [160]), (284, .putfield 57, 3, (0, 11, 19, 0), [1143]), (287, .aload_n 0, 1, (0, 0, 0, 0), [])]
def mc_X11_init_9 : List ax_EN := [(288, .bipush 40, 2, (0, 0, 0, 0), []), (290, .newarray .int, 2, (5, 0, 0, 0), [160]), (292, .putfield 60, 3, (0, 11, 21, 0), [1145]), (295, .aload_n 0, 1, (0, 0, 0, 0), []), (296, .sipush 960, 3, (0, 0, 0, 0), []), (299, .newarray .int, 2, (5, 0, 0, 0), [160]), (301, .putfield 63, 3, (0, 11, 22, 0), [1146]), (304, .aload_n 0, 1, (0, 0, 0, 0), []), (305, .bipush 15, 2, (0, 0, 0, 0), []), (307, .newarray .int, 2, (5, 0, 0, 0), [160]), (309, .putfield 66, 3, (0, 11, 27, 0), [1151]), (312, .aload_n 0, 1, (0, 0, 0, 0), []), (313, .bipush 15, 2, (0, 0, 0, 0), []), (315, .newarray .int, 2, (5, 0, 0, 0), [160]), (317, .putfield 69, 3, (0, 11, 28, 0), [1152])]
def mc_X11_init_10 : List ax_EN := [(320, .aload_n 0, 1, (0, 0, 0, 0), []), (321, .bipush 15, 2, (0, 0, 0, 0), []), (323, .newarray .int, 2, (5, 0, 0, 0), [160]), (325, .putfield 72, 3, (0, 11, 29, 0), [1153]), (328, .aload_n 0, 1, (0, 0, 0, 0), []), (329, .bipush 15, 2, (0, 0, 0, 0), []), (331, .newarray .int, 2, (5, 0, 0, 0), [160]), (333, .putfield 75, 3, (0, 11, 30, 0), [1154]), (336, .aload_n 0, 1, (0, 0, 0, 0), []), (337, .bipush 15, 2, (0, 0, 0, 0), []), (339, .newarray .int, 2, (5, 0, 0, 0), [160]), (341, .putfield 78, 3, (0, 11, 31, 0), [1155]), (344, .aload_n 0, 1, (0, 0, 0, 0), []), (345, .bipush 15, 2, (0, 0, 0, 0), []), (347, .newarray .int, 2, (5, 0, 0, 0), [160]), (349, .putfield 81, 3, (0, 11, 32, 0), [1156])]
def mc_X11_init_11 : List ax_EN := [(352, .aload_n 0, 1, (0, 0, 0, 0), []), (353, .bipush 15, 2, (0, 0, 0, 0), []), (355, .newarray .int, 2, (5, 0, 0, 0), [160]), (357, .putfield 84, 3, (0, 11, 33, 0), [1157]), (360, .aload_n 0, 1, (0, 0, 0, 0), []), (361, .bipush 15, 2, (0, 0, 0, 0), []), (363, .newarray .int, 2, (5, 0, 0, 0), [160]), (365, .putfield 87, 3, (0, 11, 34, 0), [1158]), (368, .aload_n 0, 1, (0, 0, 0, 0), []), (369, .ldc 90, 2, (6, 0, 0, 40000), [1122]), (371, .newarray .int, 2, (5, 0, 0, 0), [160]), (373, .putfield 91, 3, (0, 11, 38, 0), [1162]), (376, .aload_n 0, 1, (0, 0, 0, 0), []), (377, .ldc 94, 2, (6, 0, 0, 131072), [1123]), (379, .newarray .int, 2, (5, 0, 0, 0), [160]), (381, .putfield 95, 3, (0, 11, 39, 0), [1163])]
def mc_X11_init_12 : List ax_EN := [(384, .aload_n 0, 1, (0, 0, 0, 0), []), (385, .bipush 20, 2, (0, 0, 0, 0), []), (387, .newarray .int, 2, (5, 0, 0, 0), [160]), (389, .putfield 98, 3, (0, 11, 40, 0), [1164]), (392, .aload_n 0, 1, (0, 0, 0, 0), []), (393, .bipush 21, 2, (0, 0, 0, 0), []), (395, .newarray .int, 2, (5, 0, 0, 0), [160]), (397, .putfield 101, 3, (0, 11, 41, 0), [1165]), (400, .aload_n 0, 1, (0, 0, 0, 0), []), (401, .bipush 25, 2, (0, 0, 0, 0), []), (403, .newarray .int, 2, (5, 0, 0, 0), [160]), (405, .putfield 104, 3, (0, 11, 42, 0), [1166]), (408, .iconst 0, 1, (0, 0, 0, 0), []), (409, .istore_n 1, 1, (0, 0, 0, 0), []), (410, .iload_n 1, 1, (0, 0, 0, 0), []), (411, .bipush 12, 2, (0, 0, 0, 0), []), (413, .if_icmp .ge 16, 3, (0, 0, 0, 0), [])]
def mc_X11_init_13 : List ax_EN := [(416, .aload_n 0, 1, (0, 0, 0, 0), []), (417, .getfield 33, 3, (0, 11, 8, 0), [1132]), (420, .iload_n 1, 1, (0, 0, 0, 0), []), (421, .iconst 1, 1, (0, 0, 0, 0), []), (422, .iastore, 1, (0, 0, 0, 0), []), (423, .iinc 1 1, 3, (0, 0, 0, 0), []), (426, .goto (-16), 3, (0, 0, 0, 0), []), (429, .return_, 1, (0, 0, 0, 0), [])]
def mt_X11_init : ax_MI := (RX11, yX11_init, cX11_init, 2, none, 0, 30, 177783, [mc_X11_init_0, mc_X11_init_1, mc_X11_init_2, mc_X11_init_3, mc_X11_init_4, mc_X11_init_5, mc_X11_init_6, mc_X11_init_7, mc_X11_init_8, mc_X11_init_9, mc_X11_init_10, mc_X11_init_11, mc_X11_init_12, mc_X11_init_13])
def mc_X11_in_0 : List ax_EN := [(0, .iload_n 0, 1, (0, 0, 0, 0), []), (1, .iload_n 1, 1, (0, 0, 0, 0), []), (2, .if_icmp .lt 12, 3, (0, 0, 0, 0), []), (5, .iload_n 0, 1, (0, 0, 0, 0), []), (6, .iload_n 2, 1, (0, 0, 0, 0), []), (7, .if_icmp .gt 7, 3, (0, 0, 0, 0), []), (10, .iconst 1, 1, (0, 0, 0, 0), []), (11, .goto 4, 3, (0, 0, 0, 0), []), (14, .iconst 0, 1, (0, 0, 0, 0), []), (15, .ireturn, 1, (0, 0, 0, 0), [])]
def mt_X11_in : ax_MI := (RX11, yX11_in, cX11_in, 3, (some .boolean), 3, 0, 0, [mc_X11_in_0])
def mc_X11_letters_0 : List ax_EN := [(0, .iconst 0, 1, (0, 0, 0, 0), []), (1, .istore_n 3, 1, (0, 0, 0, 0), []), (2, .iconst 0, 1, (0, 0, 0, 0), []), (3, .istore 4, 2, (0, 0, 0, 0), []), (5, .iconst 0, 1, (0, 0, 0, 0), []), (6, .istore 5, 2, (0, 0, 0, 0), []), (8, .iload 5, 2, (0, 0, 0, 0), []), (10, .bipush 8, 2, (0, 0, 0, 0), []), (12, .if_icmp .ge 73, 3, (0, 0, 0, 0), []), (15, .lload_n 1, 1, (0, 0, 0, 0), []), (16, .bipush 8, 2, (0, 0, 0, 0), []), (18, .iload 5, 2, (0, 0, 0, 0), []), (20, .imul, 1, (0, 0, 0, 0), []), (21, .lshr, 1, (0, 0, 0, 0), []), (22, .ldc2_w 107, 3, (7, 0, 0, 255), [1273]), (25, .land, 1, (0, 0, 0, 0), []), (26, .l2i, 1, (0, 0, 0, 0), []), (27, .istore 6, 2, (0, 0, 0, 0), []), (29, .iload 6, 2, (0, 0, 0, 0), []), (31, .bipush 126, 2, (0, 0, 0, 0), [])]
def mc_X11_letters_1 : List ax_EN := [(33, .if_icmp .gt 13, 3, (0, 0, 0, 0), []), (36, .iload 4, 2, (0, 0, 0, 0), []), (38, .ifCond .eq 11, 3, (0, 0, 0, 0), []), (41, .iload 6, 2, (0, 0, 0, 0), []), (43, .ifCond .eq 6, 3, (0, 0, 0, 0), []), (46, .bipush (-102), 2, (0, 0, 0, 0), []), (48, .ireturn, 1, (0, 0, 0, 0), []), (49, .iload 4, 2, (0, 0, 0, 0), []), (51, .ifCond .ne 8, 3, (0, 0, 0, 0), []), (54, .iload 6, 2, (0, 0, 0, 0), []), (56, .ifCond .ne 7, 3, (0, 0, 0, 0), []), (59, .iconst 1, 1, (0, 0, 0, 0), []), (60, .goto 4, 3, (0, 0, 0, 0), []), (63, .iconst 0, 1, (0, 0, 0, 0), [])]
def mc_X11_letters_2 : List ax_EN := [(64, .istore 4, 2, (0, 0, 0, 0), []), (66, .iload_n 3, 1, (0, 0, 0, 0), []), (67, .iload 6, 2, (0, 0, 0, 0), []), (69, .ifCond .ne 7, 3, (0, 0, 0, 0), []), (72, .iconst 0, 1, (0, 0, 0, 0), []), (73, .goto 4, 3, (0, 0, 0, 0), []), (76, .iconst 1, 1, (0, 0, 0, 0), []), (77, .iadd, 1, (0, 0, 0, 0), []), (78, .istore_n 3, 1, (0, 0, 0, 0), []), (79, .iinc 5 1, 3, (0, 0, 0, 0), []), (82, .goto (-74), 3, (0, 0, 0, 0), []), (85, .aload_n 0, 1, (0, 0, 0, 0), []), (86, .getfield 109, 3, (0, 11, 2, 0), [1126]), (89, .iload_n 3, 1, (0, 0, 0, 0), []), (90, .iadd, 1, (0, 0, 0, 0), []), (91, .bipush 80, 2, (0, 0, 0, 0), []), (93, .if_icmp .le 6, 3, (0, 0, 0, 0), [])]
def mc_X11_letters_3 : List ax_EN := [(96, .bipush (-104), 2, (0, 0, 0, 0), []), (98, .ireturn, 1, (0, 0, 0, 0), []), (99, .iconst 0, 1, (0, 0, 0, 0), []), (100, .istore 5, 2, (0, 0, 0, 0), []), (102, .iload 5, 2, (0, 0, 0, 0), []), (104, .iload_n 3, 1, (0, 0, 0, 0), []), (105, .if_icmp .ge 30, 3, (0, 0, 0, 0), []), (108, .aload_n 0, 1, (0, 0, 0, 0), []), (109, .getfield 20, 3, (0, 11, 3, 0), [1127]), (112, .aload_n 0, 1, (0, 0, 0, 0), []), (113, .getfield 109, 3, (0, 11, 2, 0), [1126]), (116, .iload 5, 2, (0, 0, 0, 0), []), (118, .iadd, 1, (0, 0, 0, 0), []), (119, .lload_n 1, 1, (0, 0, 0, 0), []), (120, .bipush 8, 2, (0, 0, 0, 0), []), (122, .iload 5, 2, (0, 0, 0, 0), []), (124, .imul, 1, (0, 0, 0, 0), []), (125, .lshr, 1, (0, 0, 0, 0), []), (126, .l2i, 1, (0, 0, 0, 0), []), (127, .i2b, 1, (0, 0, 0, 0), [])]
def mc_X11_letters_4 : List ax_EN := [(128, .bastore, 1, (0, 0, 0, 0), []), (129, .iinc 5 1, 3, (0, 0, 0, 0), []), (132, .goto (-30), 3, (0, 0, 0, 0), []), (135, .aload_n 0, 1, (0, 0, 0, 0), []), (136, .dup, 1, (0, 0, 0, 0), []), (137, .getfield 109, 3, (0, 11, 2, 0), [1126]), (140, .iload_n 3, 1, (0, 0, 0, 0), []), (141, .iadd, 1, (0, 0, 0, 0), []), (142, .putfield 109, 3, (0, 11, 2, 0), [1126]), (145, .aload_n 0, 1, (0, 0, 0, 0), []), (146, .getfield 109, 3, (0, 11, 2, 0), [1126]), (149, .ireturn, 1, (0, 0, 0, 0), [])]
def mt_X11_letters : ax_MI := (RX11, yX11_letters, cX11_letters, 7, (some .int), 1, 0, 0, [mc_X11_letters_0, mc_X11_letters_1, mc_X11_letters_2, mc_X11_letters_3, mc_X11_letters_4])
def mc_X11_blank_0 : List ax_EN := [(0, .aload_n 0, 1, (0, 0, 0, 0), []), (1, .getfield 109, 3, (0, 11, 2, 0), [1126]), (4, .istore_n 1, 1, (0, 0, 0, 0), []), (5, .aload_n 0, 1, (0, 0, 0, 0), []), (6, .iconst 0, 1, (0, 0, 0, 0), []), (7, .putfield 109, 3, (0, 11, 2, 0), [1126]), (10, .iload_n 1, 1, (0, 0, 0, 0), []), (11, .ireturn, 1, (0, 0, 0, 0), [])]
def mt_X11_blank : ax_MI := (RX11, yX11_blank, cX11_blank, 2, (some .int), 0, 0, 0, [mc_X11_blank_0])
def mc_X11_signOf_0 : List ax_EN := [(0, .iconst 0, 1, (0, 0, 0, 0), []), (1, .istore_n 2, 1, (0, 0, 0, 0), []), (2, .iload_n 2, 1, (0, 0, 0, 0), []), (3, .bipush 14, 2, (0, 0, 0, 0), []), (5, .if_icmp .ge 21, 3, (0, 0, 0, 0), []), (8, .aload_n 0, 1, (0, 0, 0, 0), []), (9, .getfield 17, 3, (0, 11, 1, 0), [1125]), (12, .iload_n 2, 1, (0, 0, 0, 0), []), (13, .iaload, 1, (0, 0, 0, 0), []), (14, .iload_n 1, 1, (0, 0, 0, 0), []), (15, .if_icmp .ne 5, 3, (0, 0, 0, 0), []), (18, .iload_n 2, 1, (0, 0, 0, 0), []), (19, .ireturn, 1, (0, 0, 0, 0), []), (20, .iinc 2 1, 3, (0, 0, 0, 0), []), (23, .goto (-21), 3, (0, 0, 0, 0), []), (26, .iconst (-1), 1, (0, 0, 0, 0), []), (27, .ireturn, 1, (0, 0, 0, 0), [])]
def mt_X11_signOf : ax_MI := (RX11, yX11_signOf, cX11_signOf, 3, (some .int), 1, 0, 0, [mc_X11_signOf_0])
def mc_X11_readCustom_0 : List ax_EN := [(0, .bipush 14, 2, (0, 0, 0, 0), []), (2, .aload_n 0, 1, (0, 0, 0, 0), []), (3, .getfield 113, 3, (0, 11, 4, 0), [1128]), (6, .imul, 1, (0, 0, 0, 0), []), (7, .istore_n 1, 1, (0, 0, 0, 0), []), (8, .aload_n 0, 1, (0, 0, 0, 0), []), (9, .getfield 113, 3, (0, 11, 4, 0), [1128]), (12, .bipush 6, 2, (0, 0, 0, 0), []), (14, .if_icmp .ge 7, 3, (0, 0, 0, 0), []), (17, .iconst 1, 1, (0, 0, 0, 0), []), (18, .goto 4, 3, (0, 0, 0, 0), []), (21, .iconst 0, 1, (0, 0, 0, 0), []), (22, .istore_n 2, 1, (0, 0, 0, 0), []), (23, .iconst 0, 1, (0, 0, 0, 0), []), (24, .istore_n 3, 1, (0, 0, 0, 0), []), (25, .iload_n 3, 1, (0, 0, 0, 0), []), (26, .bipush 14, 2, (0, 0, 0, 0), []), (28, .if_icmp .ge 40, 3, (0, 0, 0, 0), []), (31, .iload_n 2, 1, (0, 0, 0, 0), [])]
def mc_X11_readCustom_1 : List ax_EN := [(32, .ifCond .eq 36, 3, (0, 0, 0, 0), []), (35, .aload_n 0, 1, (0, 0, 0, 0), []), (36, .getfield 24, 3, (0, 11, 5, 0), [1129]), (39, .iload_n 1, 1, (0, 0, 0, 0), []), (40, .iload_n 3, 1, (0, 0, 0, 0), []), (41, .iadd, 1, (0, 0, 0, 0), []), (42, .iconst 0, 1, (0, 0, 0, 0), []), (43, .iastore, 1, (0, 0, 0, 0), []), (44, .aload_n 0, 1, (0, 0, 0, 0), []), (45, .getfield 27, 3, (0, 11, 6, 0), [1130]), (48, .iload_n 1, 1, (0, 0, 0, 0), []), (49, .iload_n 3, 1, (0, 0, 0, 0), []), (50, .iadd, 1, (0, 0, 0, 0), []), (51, .iconst 0, 1, (0, 0, 0, 0), []), (52, .iastore, 1, (0, 0, 0, 0), []), (53, .aload_n 0, 1, (0, 0, 0, 0), []), (54, .getfield 30, 3, (0, 11, 7, 0), [1131]), (57, .iload_n 1, 1, (0, 0, 0, 0), []), (58, .iload_n 3, 1, (0, 0, 0, 0), []), (59, .iadd, 1, (0, 0, 0, 0), []), (60, .iconst 0, 1, (0, 0, 0, 0), []), (61, .iastore, 1, (0, 0, 0, 0), []), (62, .iinc 3 1, 3, (0, 0, 0, 0), [])]
def mc_X11_readCustom_2 : List ax_EN := [(65, .goto (-40), 3, (0, 0, 0, 0), []), (68, .iconst 0, 1, (0, 0, 0, 0), []), (69, .istore_n 3, 1, (0, 0, 0, 0), []), (70, .iconst 0, 1, (0, 0, 0, 0), []), (71, .istore 4, 2, (0, 0, 0, 0), []), (73, .iconst 0, 1, (0, 0, 0, 0), []), (74, .istore 5, 2, (0, 0, 0, 0), []), (76, .iconst 1, 1, (0, 0, 0, 0), []), (77, .istore 6, 2, (0, 0, 0, 0), []), (79, .iconst 0, 1, (0, 0, 0, 0), []), (80, .istore 7, 2, (0, 0, 0, 0), []), (82, .iload 7, 2, (0, 0, 0, 0), []), (84, .aload_n 0, 1, (0, 0, 0, 0), []), (85, .getfield 109, 3, (0, 11, 2, 0), [1126]), (88, .if_icmp .ge 283, 3, (0, 0, 0, 0), []), (91, .iload 6, 2, (0, 0, 0, 0), []), (93, .ifCond .eq 278, 3, (0, 0, 0, 0), [])]
def mc_X11_readCustom_3 : List ax_EN := [(96, .aload_n 0, 1, (0, 0, 0, 0), []), (97, .getfield 20, 3, (0, 11, 3, 0), [1127]), (100, .iload 7, 2, (0, 0, 0, 0), []), (102, .baload, 1, (0, 0, 0, 0), []), (103, .istore 8, 2, (0, 0, 0, 0), []), (105, .aload_n 0, 1, (0, 0, 0, 0), []), (106, .iload 8, 2, (0, 0, 0, 0), []), (108, .invokevirtual 116, 3, (3, 155, 11, 0), [1288, 76, 1286]), (111, .istore 9, 2, (0, 0, 0, 0), []), (113, .iconst 0, 1, (0, 0, 0, 0), []), (114, .istore 6, 2, (0, 0, 0, 0), []), (116, .iload_n 3, 1, (0, 0, 0, 0), []), (117, .ifCond .ne 21, 3, (0, 0, 0, 0), []), (120, .iload 9, 2, (0, 0, 0, 0), []), (122, .iconst (-1), 1, (0, 0, 0, 0), []), (123, .if_icmp .eq 15, 3, (0, 0, 0, 0), []), (126, .iload 9, 2, (0, 0, 0, 0), [])]
def mc_X11_readCustom_4 : List ax_EN := [(128, .istore 4, 2, (0, 0, 0, 0), []), (130, .iconst 1, 1, (0, 0, 0, 0), []), (131, .istore_n 3, 1, (0, 0, 0, 0), []), (132, .iconst 1, 1, (0, 0, 0, 0), []), (133, .istore 6, 2, (0, 0, 0, 0), []), (135, .goto 218, 3, (0, 0, 0, 0), []), (138, .iload_n 3, 1, (0, 0, 0, 0), []), (139, .iconst 1, 1, (0, 0, 0, 0), []), (140, .if_icmp .ne 41, 3, (0, 0, 0, 0), []), (143, .iload 8, 2, (0, 0, 0, 0), []), (145, .bipush 49, 2, (0, 0, 0, 0), []), (147, .bipush 57, 2, (0, 0, 0, 0), []), (149, .invokestatic 120, 3, (3, 152, 0, 0), [1291, 1290]), (152, .ifCond .eq 29, 3, (0, 0, 0, 0), []), (155, .iload_n 2, 1, (0, 0, 0, 0), []), (156, .ifCond .eq 17, 3, (0, 0, 0, 0), []), (159, .aload_n 0, 1, (0, 0, 0, 0), [])]
def mc_X11_readCustom_5 : List ax_EN := [(160, .getfield 24, 3, (0, 11, 5, 0), [1129]), (163, .iload_n 1, 1, (0, 0, 0, 0), []), (164, .iload 4, 2, (0, 0, 0, 0), []), (166, .iadd, 1, (0, 0, 0, 0), []), (167, .iload 8, 2, (0, 0, 0, 0), []), (169, .bipush 48, 2, (0, 0, 0, 0), []), (171, .isub, 1, (0, 0, 0, 0), []), (172, .iastore, 1, (0, 0, 0, 0), []), (173, .iconst 2, 1, (0, 0, 0, 0), []), (174, .istore_n 3, 1, (0, 0, 0, 0), []), (175, .iconst 1, 1, (0, 0, 0, 0), []), (176, .istore 6, 2, (0, 0, 0, 0), []), (178, .goto 175, 3, (0, 0, 0, 0), []), (181, .iload_n 3, 1, (0, 0, 0, 0), []), (182, .iconst 1, 1, (0, 0, 0, 0), []), (183, .if_icmp .ne 33, 3, (0, 0, 0, 0), []), (186, .iload 8, 2, (0, 0, 0, 0), []), (188, .bipush 60, 2, (0, 0, 0, 0), []), (190, .if_icmp .ne 26, 3, (0, 0, 0, 0), [])]
def mc_X11_readCustom_6 : List ax_EN := [(193, .aload_n 0, 1, (0, 0, 0, 0), []), (194, .bipush 13, 2, (0, 0, 0, 0), []), (196, .iload 4, 2, (0, 0, 0, 0), []), (198, .iconst 0, 1, (0, 0, 0, 0), []), (199, .invokevirtual 124, 3, (3, 157, 11, 0), [1295, 77, 1293]), (202, .ifCond .eq 14, 3, (0, 0, 0, 0), []), (205, .iconst 0, 1, (0, 0, 0, 0), []), (206, .istore 5, 2, (0, 0, 0, 0), []), (208, .iconst 3, 1, (0, 0, 0, 0), []), (209, .istore_n 3, 1, (0, 0, 0, 0), []), (210, .iconst 1, 1, (0, 0, 0, 0), []), (211, .istore 6, 2, (0, 0, 0, 0), []), (213, .goto 140, 3, (0, 0, 0, 0), []), (216, .iload_n 3, 1, (0, 0, 0, 0), []), (217, .iconst 3, 1, (0, 0, 0, 0), []), (218, .if_icmp .ne 33, 3, (0, 0, 0, 0), []), (221, .iload 8, 2, (0, 0, 0, 0), []), (223, .bipush 60, 2, (0, 0, 0, 0), [])]
def mc_X11_readCustom_7 : List ax_EN := [(225, .if_icmp .ne 26, 3, (0, 0, 0, 0), []), (228, .aload_n 0, 1, (0, 0, 0, 0), []), (229, .bipush 13, 2, (0, 0, 0, 0), []), (231, .iload 4, 2, (0, 0, 0, 0), []), (233, .iconst 1, 1, (0, 0, 0, 0), []), (234, .invokevirtual 124, 3, (3, 157, 11, 0), [1295, 77, 1293]), (237, .ifCond .eq 14, 3, (0, 0, 0, 0), []), (240, .iconst 1, 1, (0, 0, 0, 0), []), (241, .istore 5, 2, (0, 0, 0, 0), []), (243, .iconst 4, 1, (0, 0, 0, 0), []), (244, .istore_n 3, 1, (0, 0, 0, 0), []), (245, .iconst 1, 1, (0, 0, 0, 0), []), (246, .istore 6, 2, (0, 0, 0, 0), []), (248, .goto 105, 3, (0, 0, 0, 0), []), (251, .iload_n 3, 1, (0, 0, 0, 0), []), (252, .iconst 3, 1, (0, 0, 0, 0), []), (253, .if_icmp .lt 78, 3, (0, 0, 0, 0), [])]
def mc_X11_readCustom_8 : List ax_EN := [(256, .iload 9, 2, (0, 0, 0, 0), []), (258, .iconst (-1), 1, (0, 0, 0, 0), []), (259, .if_icmp .eq 72, 3, (0, 0, 0, 0), []), (262, .aload_n 0, 1, (0, 0, 0, 0), []), (263, .iload 9, 2, (0, 0, 0, 0), []), (265, .iload 4, 2, (0, 0, 0, 0), []), (267, .iload 5, 2, (0, 0, 0, 0), []), (269, .invokevirtual 124, 3, (3, 157, 11, 0), [1295, 77, 1293]), (272, .ifCond .eq 59, 3, (0, 0, 0, 0), []), (275, .iload_n 2, 1, (0, 0, 0, 0), []), (276, .ifCond .eq 27, 3, (0, 0, 0, 0), []), (279, .iload 5, 2, (0, 0, 0, 0), []), (281, .ifCond .eq 22, 3, (0, 0, 0, 0), []), (284, .aload_n 0, 1, (0, 0, 0, 0), []), (285, .getfield 30, 3, (0, 11, 7, 0), [1131])]
def mc_X11_readCustom_9 : List ax_EN := [(288, .iload_n 1, 1, (0, 0, 0, 0), []), (289, .iload 4, 2, (0, 0, 0, 0), []), (291, .iadd, 1, (0, 0, 0, 0), []), (292, .dup2, 1, (0, 0, 0, 0), []), (293, .iaload, 1, (0, 0, 0, 0), []), (294, .iconst 1, 1, (0, 0, 0, 0), []), (295, .iload 9, 2, (0, 0, 0, 0), []), (297, .ishl, 1, (0, 0, 0, 0), []), (298, .ior, 1, (0, 0, 0, 0), []), (299, .iastore, 1, (0, 0, 0, 0), []), (300, .goto 23, 3, (0, 0, 0, 0), []), (303, .iload_n 2, 1, (0, 0, 0, 0), []), (304, .ifCond .eq 19, 3, (0, 0, 0, 0), []), (307, .aload_n 0, 1, (0, 0, 0, 0), []), (308, .getfield 27, 3, (0, 11, 6, 0), [1130]), (311, .iload_n 1, 1, (0, 0, 0, 0), []), (312, .iload 4, 2, (0, 0, 0, 0), []), (314, .iadd, 1, (0, 0, 0, 0), []), (315, .dup2, 1, (0, 0, 0, 0), []), (316, .iaload, 1, (0, 0, 0, 0), []), (317, .iconst 1, 1, (0, 0, 0, 0), []), (318, .iload 9, 2, (0, 0, 0, 0), [])]
def mc_X11_readCustom_10 : List ax_EN := [(320, .ishl, 1, (0, 0, 0, 0), []), (321, .ior, 1, (0, 0, 0, 0), []), (322, .iastore, 1, (0, 0, 0, 0), []), (323, .iconst 5, 1, (0, 0, 0, 0), []), (324, .istore_n 3, 1, (0, 0, 0, 0), []), (325, .iconst 1, 1, (0, 0, 0, 0), []), (326, .istore 6, 2, (0, 0, 0, 0), []), (328, .goto 25, 3, (0, 0, 0, 0), []), (331, .iload_n 3, 1, (0, 0, 0, 0), []), (332, .iconst 2, 1, (0, 0, 0, 0), []), (333, .if_icmp .eq 8, 3, (0, 0, 0, 0), []), (336, .iload_n 3, 1, (0, 0, 0, 0), []), (337, .iconst 5, 1, (0, 0, 0, 0), []), (338, .if_icmp .ne 15, 3, (0, 0, 0, 0), []), (341, .iload 8, 2, (0, 0, 0, 0), []), (343, .bipush 44, 2, (0, 0, 0, 0), []), (345, .if_icmp .ne 8, 3, (0, 0, 0, 0), []), (348, .iconst 0, 1, (0, 0, 0, 0), []), (349, .istore_n 3, 1, (0, 0, 0, 0), []), (350, .iconst 1, 1, (0, 0, 0, 0), []), (351, .istore 6, 2, (0, 0, 0, 0), [])]
def mc_X11_readCustom_11 : List ax_EN := [(353, .iload 7, 2, (0, 0, 0, 0), []), (355, .iload 6, 2, (0, 0, 0, 0), []), (357, .ifCond .eq 7, 3, (0, 0, 0, 0), []), (360, .iconst 1, 1, (0, 0, 0, 0), []), (361, .goto 4, 3, (0, 0, 0, 0), []), (364, .iconst 0, 1, (0, 0, 0, 0), []), (365, .iadd, 1, (0, 0, 0, 0), []), (366, .istore 7, 2, (0, 0, 0, 0), []), (368, .goto (-286), 3, (0, 0, 0, 0), []), (371, .aload_n 0, 1, (0, 0, 0, 0), []), (372, .iload 7, 2, (0, 0, 0, 0), []), (374, .putfield 128, 3, (0, 11, 25, 0), [1149]), (377, .aload_n 0, 1, (0, 0, 0, 0), []), (378, .iload 7, 2, (0, 0, 0, 0), []), (380, .aload_n 0, 1, (0, 0, 0, 0), []), (381, .getfield 109, 3, (0, 11, 2, 0), [1126])]
def mc_X11_readCustom_12 : List ax_EN := [(384, .if_icmp .ne 17, 3, (0, 0, 0, 0), []), (387, .iload_n 3, 1, (0, 0, 0, 0), []), (388, .iconst 2, 1, (0, 0, 0, 0), []), (389, .if_icmp .eq 8, 3, (0, 0, 0, 0), []), (392, .iload_n 3, 1, (0, 0, 0, 0), []), (393, .iconst 5, 1, (0, 0, 0, 0), []), (394, .if_icmp .ne 7, 3, (0, 0, 0, 0), []), (397, .iconst 1, 1, (0, 0, 0, 0), []), (398, .goto 4, 3, (0, 0, 0, 0), []), (401, .iconst 0, 1, (0, 0, 0, 0), []), (402, .putfield 131, 3, (0, 11, 26, 0), [1150]), (405, .return_, 1, (0, 0, 0, 0), [])]
def mt_X11_readCustom : ax_MI := (RX11, yX11_readCustom, cX11_readCustom, 10, none, 0, 0, 0, [mc_X11_readCustom_0, mc_X11_readCustom_1, mc_X11_readCustom_2, mc_X11_readCustom_3, mc_X11_readCustom_4, mc_X11_readCustom_5, mc_X11_readCustom_6, mc_X11_readCustom_7, mc_X11_readCustom_8, mc_X11_readCustom_9, mc_X11_readCustom_10, mc_X11_readCustom_11, mc_X11_readCustom_12])
def mc_X11_isMore_0 : List ax_EN := [(0, .aload_n 0, 1, (0, 0, 0, 0), []), (1, .getfield 11, 3, (0, 11, 0, 0), [1124]), (4, .iload_n 1, 1, (0, 0, 0, 0), []), (5, .iaload, 1, (0, 0, 0, 0), []), (6, .iload_n 3, 1, (0, 0, 0, 0), []), (7, .ifCond .eq 7, 3, (0, 0, 0, 0), []), (10, .iconst 2, 1, (0, 0, 0, 0), []), (11, .goto 4, 3, (0, 0, 0, 0), []), (14, .iconst 1, 1, (0, 0, 0, 0), []), (15, .aload_n 0, 1, (0, 0, 0, 0), []), (16, .getfield 11, 3, (0, 11, 0, 0), [1124]), (19, .iload_n 2, 1, (0, 0, 0, 0), []), (20, .iaload, 1, (0, 0, 0, 0), []), (21, .imul, 1, (0, 0, 0, 0), []), (22, .if_icmp .le 7, 3, (0, 0, 0, 0), []), (25, .iconst 1, 1, (0, 0, 0, 0), []), (26, .goto 4, 3, (0, 0, 0, 0), []), (29, .iconst 0, 1, (0, 0, 0, 0), []), (30, .ireturn, 1, (0, 0, 0, 0), [])]
def mt_X11_isMore : ax_MI := (RX11, yX11_isMore, cX11_isMore, 4, (some .boolean), 3, 0, 0, [mc_X11_isMore_0])
def mc_X11_good_0 : List ax_EN := [(0, .aload_n 0, 1, (0, 0, 0, 0), []), (1, .invokevirtual 135, 3, (3, 156, 11, 0), [1284, 75, 1282]), (4, .aload_n 0, 1, (0, 0, 0, 0), []), (5, .getfield 128, 3, (0, 11, 25, 0), [1149]), (8, .ireturn, 1, (0, 0, 0, 0), [])]
def mt_X11_good : ax_MI := (RX11, yX11_good, cX11_good, 1, (some .int), 0, 0, 0, [mc_X11_good_0])
def mc_X11_custom_0 : List ax_EN := [(0, .aload_n 0, 1, (0, 0, 0, 0), []), (1, .invokevirtual 135, 3, (3, 156, 11, 0), [1284, 75, 1282]), (4, .aload_n 0, 1, (0, 0, 0, 0), []), (5, .getfield 131, 3, (0, 11, 26, 0), [1150]), (8, .ifCond .ne 6, 3, (0, 0, 0, 0), []), (11, .bipush (-103), 2, (0, 0, 0, 0), []), (13, .ireturn, 1, (0, 0, 0, 0), []), (14, .aload_n 0, 1, (0, 0, 0, 0), []), (15, .getfield 113, 3, (0, 11, 4, 0), [1128]), (18, .bipush 6, 2, (0, 0, 0, 0), []), (20, .if_icmp .ne 6, 3, (0, 0, 0, 0), []), (23, .bipush (-104), 2, (0, 0, 0, 0), []), (25, .ireturn, 1, (0, 0, 0, 0), []), (26, .aload_n 0, 1, (0, 0, 0, 0), []), (27, .dup, 1, (0, 0, 0, 0), []), (28, .getfield 113, 3, (0, 11, 4, 0), [1128]), (31, .iconst 1, 1, (0, 0, 0, 0), [])]
def mc_X11_custom_1 : List ax_EN := [(32, .iadd, 1, (0, 0, 0, 0), []), (33, .putfield 113, 3, (0, 11, 4, 0), [1128]), (36, .aload_n 0, 1, (0, 0, 0, 0), []), (37, .iconst 0, 1, (0, 0, 0, 0), []), (38, .putfield 109, 3, (0, 11, 2, 0), [1126]), (41, .aload_n 0, 1, (0, 0, 0, 0), []), (42, .getfield 113, 3, (0, 11, 4, 0), [1128]), (45, .iconst 1, 1, (0, 0, 0, 0), []), (46, .isub, 1, (0, 0, 0, 0), []), (47, .ireturn, 1, (0, 0, 0, 0), [])]
def mt_X11_custom : ax_MI := (RX11, yX11_custom, cX11_custom, 1, (some .int), 0, 0, 0, [mc_X11_custom_0, mc_X11_custom_1])
def mc_X11_isCustom_0 : List ax_EN := [(0, .iload_n 1, 1, (0, 0, 0, 0), []), (1, .iconst 0, 1, (0, 0, 0, 0), []), (2, .aload_n 0, 1, (0, 0, 0, 0), []), (3, .getfield 113, 3, (0, 11, 4, 0), [1128]), (6, .iconst 1, 1, (0, 0, 0, 0), []), (7, .isub, 1, (0, 0, 0, 0), []), (8, .invokestatic 120, 3, (3, 152, 0, 0), [1291, 1290]), (11, .ireturn, 1, (0, 0, 0, 0), [])]
def mt_X11_isCustom : ax_MI := (RX11, yX11_isCustom, cX11_isCustom, 2, (some .boolean), 1, 0, 0, [mc_X11_isCustom_0])
def mc_X11_asks_0 : List ax_EN := [(0, .aload_n 0, 1, (0, 0, 0, 0), []), (1, .iload_n 1, 1, (0, 0, 0, 0), []), (2, .invokevirtual 138, 3, (3, 160, 11, 0), [1307, 78, 1305]), (5, .ifCond .eq 13, 3, (0, 0, 0, 0), []), (8, .iload_n 2, 1, (0, 0, 0, 0), []), (9, .iconst 0, 1, (0, 0, 0, 0), []), (10, .bipush 13, 2, (0, 0, 0, 0), []), (12, .invokestatic 120, 3, (3, 152, 0, 0), [1291, 1290]), (15, .ifCond .ne 6, 3, (0, 0, 0, 0), []), (18, .bipush (-101), 2, (0, 0, 0, 0), []), (20, .ireturn, 1, (0, 0, 0, 0), []), (21, .iload_n 3, 1, (0, 0, 0, 0), []), (22, .ifCond .ne 17, 3, (0, 0, 0, 0), []), (25, .aload_n 0, 1, (0, 0, 0, 0), []), (26, .getfield 24, 3, (0, 11, 5, 0), [1129]), (29, .bipush 14, 2, (0, 0, 0, 0), []), (31, .iload_n 1, 1, (0, 0, 0, 0), [])]
def mc_X11_asks_1 : List ax_EN := [(32, .imul, 1, (0, 0, 0, 0), []), (33, .iload_n 2, 1, (0, 0, 0, 0), []), (34, .iadd, 1, (0, 0, 0, 0), []), (35, .iaload, 1, (0, 0, 0, 0), []), (36, .goto 43, 3, (0, 0, 0, 0), []), (39, .iload_n 3, 1, (0, 0, 0, 0), []), (40, .iconst 1, 1, (0, 0, 0, 0), []), (41, .if_icmp .ne 17, 3, (0, 0, 0, 0), []), (44, .aload_n 0, 1, (0, 0, 0, 0), []), (45, .getfield 27, 3, (0, 11, 6, 0), [1130]), (48, .bipush 14, 2, (0, 0, 0, 0), []), (50, .iload_n 1, 1, (0, 0, 0, 0), []), (51, .imul, 1, (0, 0, 0, 0), []), (52, .iload_n 2, 1, (0, 0, 0, 0), []), (53, .iadd, 1, (0, 0, 0, 0), []), (54, .iaload, 1, (0, 0, 0, 0), []), (55, .goto 24, 3, (0, 0, 0, 0), []), (58, .iload_n 3, 1, (0, 0, 0, 0), []), (59, .iconst 2, 1, (0, 0, 0, 0), []), (60, .if_icmp .ne 17, 3, (0, 0, 0, 0), []), (63, .aload_n 0, 1, (0, 0, 0, 0), [])]
def mc_X11_asks_2 : List ax_EN := [(64, .getfield 30, 3, (0, 11, 7, 0), [1131]), (67, .bipush 14, 2, (0, 0, 0, 0), []), (69, .iload_n 1, 1, (0, 0, 0, 0), []), (70, .imul, 1, (0, 0, 0, 0), []), (71, .iload_n 2, 1, (0, 0, 0, 0), []), (72, .iadd, 1, (0, 0, 0, 0), []), (73, .iaload, 1, (0, 0, 0, 0), []), (74, .goto 5, 3, (0, 0, 0, 0), []), (77, .bipush (-102), 2, (0, 0, 0, 0), []), (79, .ireturn, 1, (0, 0, 0, 0), [])]
def mt_X11_asks : ax_MI := (RX11, yX11_asks, cX11_asks, 4, (some .int), 3, 0, 0, [mc_X11_asks_0, mc_X11_asks_1, mc_X11_asks_2])
def mc_X11_isRow_0 : List ax_EN := [(0, .iload_n 0, 1, (0, 0, 0, 0), []), (1, .iconst 0, 1, (0, 0, 0, 0), []), (2, .bipush 11, 2, (0, 0, 0, 0), []), (4, .invokestatic 120, 3, (3, 152, 0, 0), [1291, 1290]), (7, .ireturn, 1, (0, 0, 0, 0), [])]
def mt_X11_isRow : ax_MI := (RX11, yX11_isRow, cX11_isRow, 1, (some .boolean), 1, 0, 0, [mc_X11_isRow_0])
def mc_X11_row_0 : List ax_EN := [(0, .iload_n 1, 1, (0, 0, 0, 0), []), (1, .invokestatic 142, 3, (3, 162, 0, 0), [1314, 1313]), (4, .ifCond .ne 6, 3, (0, 0, 0, 0), []), (7, .bipush (-101), 2, (0, 0, 0, 0), []), (9, .ireturn, 1, (0, 0, 0, 0), []), (10, .aload_n 0, 1, (0, 0, 0, 0), []), (11, .getfield 109, 3, (0, 11, 2, 0), [1126]), (14, .iconst 1, 1, (0, 0, 0, 0), []), (15, .bipush 24, 2, (0, 0, 0, 0), []), (17, .invokestatic 120, 3, (3, 152, 0, 0), [1291, 1290]), (20, .istore_n 2, 1, (0, 0, 0, 0), []), (21, .iconst 0, 1, (0, 0, 0, 0), []), (22, .istore_n 3, 1, (0, 0, 0, 0), []), (23, .iload_n 3, 1, (0, 0, 0, 0), []), (24, .aload_n 0, 1, (0, 0, 0, 0), []), (25, .getfield 109, 3, (0, 11, 2, 0), [1126]), (28, .if_icmp .ge 33, 3, (0, 0, 0, 0), []), (31, .iload_n 2, 1, (0, 0, 0, 0), [])]
def mc_X11_row_1 : List ax_EN := [(32, .ifCond .eq 29, 3, (0, 0, 0, 0), []), (35, .aload_n 0, 1, (0, 0, 0, 0), []), (36, .aload_n 0, 1, (0, 0, 0, 0), []), (37, .getfield 20, 3, (0, 11, 3, 0), [1127]), (40, .iload_n 3, 1, (0, 0, 0, 0), []), (41, .baload, 1, (0, 0, 0, 0), []), (42, .invokevirtual 116, 3, (3, 155, 11, 0), [1288, 76, 1286]), (45, .iconst (-1), 1, (0, 0, 0, 0), []), (46, .if_icmp .eq 7, 3, (0, 0, 0, 0), []), (49, .iconst 1, 1, (0, 0, 0, 0), []), (50, .goto 4, 3, (0, 0, 0, 0), []), (53, .iconst 0, 1, (0, 0, 0, 0), []), (54, .istore_n 2, 1, (0, 0, 0, 0), []), (55, .iinc 3 1, 3, (0, 0, 0, 0), []), (58, .goto (-35), 3, (0, 0, 0, 0), []), (61, .iload_n 2, 1, (0, 0, 0, 0), []), (62, .ifCond .ne 6, 3, (0, 0, 0, 0), [])]
def mc_X11_row_2 : List ax_EN := [(65, .bipush (-103), 2, (0, 0, 0, 0), []), (67, .ireturn, 1, (0, 0, 0, 0), []), (68, .aload_n 0, 1, (0, 0, 0, 0), []), (69, .getfield 33, 3, (0, 11, 8, 0), [1132]), (72, .iload_n 1, 1, (0, 0, 0, 0), []), (73, .aload_n 0, 1, (0, 0, 0, 0), []), (74, .getfield 109, 3, (0, 11, 2, 0), [1126]), (77, .iastore, 1, (0, 0, 0, 0), []), (78, .iconst 0, 1, (0, 0, 0, 0), []), (79, .istore_n 3, 1, (0, 0, 0, 0), []), (80, .iload_n 3, 1, (0, 0, 0, 0), []), (81, .aload_n 0, 1, (0, 0, 0, 0), []), (82, .getfield 109, 3, (0, 11, 2, 0), [1126]), (85, .if_icmp .ge 30, 3, (0, 0, 0, 0), []), (88, .aload_n 0, 1, (0, 0, 0, 0), []), (89, .getfield 36, 3, (0, 11, 9, 0), [1133]), (92, .bipush 24, 2, (0, 0, 0, 0), []), (94, .iload_n 1, 1, (0, 0, 0, 0), []), (95, .imul, 1, (0, 0, 0, 0), [])]
def mc_X11_row_3 : List ax_EN := [(96, .iload_n 3, 1, (0, 0, 0, 0), []), (97, .iadd, 1, (0, 0, 0, 0), []), (98, .aload_n 0, 1, (0, 0, 0, 0), []), (99, .aload_n 0, 1, (0, 0, 0, 0), []), (100, .getfield 20, 3, (0, 11, 3, 0), [1127]), (103, .iload_n 3, 1, (0, 0, 0, 0), []), (104, .baload, 1, (0, 0, 0, 0), []), (105, .invokevirtual 116, 3, (3, 155, 11, 0), [1288, 76, 1286]), (108, .iastore, 1, (0, 0, 0, 0), []), (109, .iinc 3 1, 3, (0, 0, 0, 0), []), (112, .goto (-32), 3, (0, 0, 0, 0), []), (115, .aload_n 0, 1, (0, 0, 0, 0), []), (116, .iconst 0, 1, (0, 0, 0, 0), []), (117, .putfield 109, 3, (0, 11, 2, 0), [1126]), (120, .aload_n 0, 1, (0, 0, 0, 0), []), (121, .getfield 33, 3, (0, 11, 8, 0), [1132]), (124, .iload_n 1, 1, (0, 0, 0, 0), []), (125, .iaload, 1, (0, 0, 0, 0), []), (126, .ireturn, 1, (0, 0, 0, 0), [])]
def mt_X11_row : ax_MI := (RX11, yX11_row, cX11_row, 4, (some .int), 1, 0, 0, [mc_X11_row_0, mc_X11_row_1, mc_X11_row_2, mc_X11_row_3])
def mc_X11_sign_0 : List ax_EN := [(0, .iload_n 1, 1, (0, 0, 0, 0), []), (1, .invokestatic 142, 3, (3, 162, 0, 0), [1314, 1313]), (4, .ifCond .ne 6, 3, (0, 0, 0, 0), []), (7, .bipush (-101), 2, (0, 0, 0, 0), []), (9, .ireturn, 1, (0, 0, 0, 0), []), (10, .iload_n 2, 1, (0, 0, 0, 0), []), (11, .iconst 0, 1, (0, 0, 0, 0), []), (12, .aload_n 0, 1, (0, 0, 0, 0), []), (13, .getfield 33, 3, (0, 11, 8, 0), [1132]), (16, .iload_n 1, 1, (0, 0, 0, 0), []), (17, .iaload, 1, (0, 0, 0, 0), []), (18, .iconst 1, 1, (0, 0, 0, 0), []), (19, .isub, 1, (0, 0, 0, 0), []), (20, .invokestatic 120, 3, (3, 152, 0, 0), [1291, 1290]), (23, .ifCond .eq 17, 3, (0, 0, 0, 0), []), (26, .aload_n 0, 1, (0, 0, 0, 0), []), (27, .getfield 36, 3, (0, 11, 9, 0), [1133]), (30, .bipush 24, 2, (0, 0, 0, 0), [])]
def mc_X11_sign_1 : List ax_EN := [(32, .iload_n 1, 1, (0, 0, 0, 0), []), (33, .imul, 1, (0, 0, 0, 0), []), (34, .iload_n 2, 1, (0, 0, 0, 0), []), (35, .iadd, 1, (0, 0, 0, 0), []), (36, .iaload, 1, (0, 0, 0, 0), []), (37, .goto 4, 3, (0, 0, 0, 0), []), (40, .iconst (-1), 1, (0, 0, 0, 0), []), (41, .ireturn, 1, (0, 0, 0, 0), [])]
def mt_X11_sign : ax_MI := (RX11, yX11_sign, cX11_sign, 3, (some .int), 2, 0, 0, [mc_X11_sign_0, mc_X11_sign_1])
def mc_X11_isTaken_0 : List ax_EN := [(0, .iload_n 3, 1, (0, 0, 0, 0), []), (1, .iconst 1, 1, (0, 0, 0, 0), []), (2, .iadd, 1, (0, 0, 0, 0), []), (3, .istore 4, 2, (0, 0, 0, 0), []), (5, .iload 4, 2, (0, 0, 0, 0), []), (7, .iload_n 2, 1, (0, 0, 0, 0), []), (8, .if_icmp .ge 23, 3, (0, 0, 0, 0), []), (11, .aload_n 0, 1, (0, 0, 0, 0), []), (12, .iload_n 1, 1, (0, 0, 0, 0), []), (13, .iload 4, 2, (0, 0, 0, 0), []), (15, .iadd, 1, (0, 0, 0, 0), []), (16, .iaload, 1, (0, 0, 0, 0), []), (17, .aload_n 0, 1, (0, 0, 0, 0), []), (18, .iload_n 1, 1, (0, 0, 0, 0), []), (19, .iload_n 3, 1, (0, 0, 0, 0), []), (20, .iadd, 1, (0, 0, 0, 0), []), (21, .iaload, 1, (0, 0, 0, 0), []), (22, .if_icmp .ne 9, 3, (0, 0, 0, 0), []), (25, .iinc 4 1, 3, (0, 0, 0, 0), []), (28, .goto (-23), 3, (0, 0, 0, 0), []), (31, .iload 4, 2, (0, 0, 0, 0), [])]
def mc_X11_isTaken_1 : List ax_EN := [(33, .iload_n 2, 1, (0, 0, 0, 0), []), (34, .if_icmp .ge 21, 3, (0, 0, 0, 0), []), (37, .aload_n 0, 1, (0, 0, 0, 0), []), (38, .iload_n 1, 1, (0, 0, 0, 0), []), (39, .iload 4, 2, (0, 0, 0, 0), []), (41, .iadd, 1, (0, 0, 0, 0), []), (42, .iaload, 1, (0, 0, 0, 0), []), (43, .aload_n 0, 1, (0, 0, 0, 0), []), (44, .iload_n 1, 1, (0, 0, 0, 0), []), (45, .iload_n 3, 1, (0, 0, 0, 0), []), (46, .iadd, 1, (0, 0, 0, 0), []), (47, .iaload, 1, (0, 0, 0, 0), []), (48, .if_icmp .le 7, 3, (0, 0, 0, 0), []), (51, .iconst 1, 1, (0, 0, 0, 0), []), (52, .goto 4, 3, (0, 0, 0, 0), []), (55, .iconst 0, 1, (0, 0, 0, 0), []), (56, .ireturn, 1, (0, 0, 0, 0), [])]
def mt_X11_isTaken : ax_MI := (RX11, yX11_isTaken, cX11_isTaken, 5, (some .boolean), 4, 0, 0, [mc_X11_isTaken_0, mc_X11_isTaken_1])
def mc_X11_worthOf_0 : List ax_EN := [(0, .iconst 0, 1, (0, 0, 0, 0), []), (1, .istore 4, 2, (0, 0, 0, 0), []), (3, .iconst 0, 1, (0, 0, 0, 0), []), (4, .istore 5, 2, (0, 0, 0, 0), []), (6, .iload 5, 2, (0, 0, 0, 0), []), (8, .iload_n 3, 1, (0, 0, 0, 0), []), (9, .if_icmp .ge 51, 3, (0, 0, 0, 0), []), (12, .iload 4, 2, (0, 0, 0, 0), []), (14, .aload_n 1, 1, (0, 0, 0, 0), []), (15, .iload_n 2, 1, (0, 0, 0, 0), []), (16, .iload_n 3, 1, (0, 0, 0, 0), []), (17, .iload 5, 2, (0, 0, 0, 0), []), (19, .invokestatic 145, 3, (3, 165, 0, 0), [1329, 1328]), (22, .ifCond .eq 18, 3, (0, 0, 0, 0), []), (25, .aload_n 0, 1, (0, 0, 0, 0), []), (26, .getfield 11, 3, (0, 11, 0, 0), [1124]), (29, .aload_n 1, 1, (0, 0, 0, 0), []), (30, .iload_n 2, 1, (0, 0, 0, 0), []), (31, .iload 5, 2, (0, 0, 0, 0), [])]
def mc_X11_worthOf_1 : List ax_EN := [(33, .iadd, 1, (0, 0, 0, 0), []), (34, .iaload, 1, (0, 0, 0, 0), []), (35, .iaload, 1, (0, 0, 0, 0), []), (36, .ineg, 1, (0, 0, 0, 0), []), (37, .goto 14, 3, (0, 0, 0, 0), []), (40, .aload_n 0, 1, (0, 0, 0, 0), []), (41, .getfield 11, 3, (0, 11, 0, 0), [1124]), (44, .aload_n 1, 1, (0, 0, 0, 0), []), (45, .iload_n 2, 1, (0, 0, 0, 0), []), (46, .iload 5, 2, (0, 0, 0, 0), []), (48, .iadd, 1, (0, 0, 0, 0), []), (49, .iaload, 1, (0, 0, 0, 0), []), (50, .iaload, 1, (0, 0, 0, 0), []), (51, .iadd, 1, (0, 0, 0, 0), []), (52, .istore 4, 2, (0, 0, 0, 0), []), (54, .iinc 5 1, 3, (0, 0, 0, 0), []), (57, .goto (-51), 3, (0, 0, 0, 0), []), (60, .iload 4, 2, (0, 0, 0, 0), []), (62, .ireturn, 1, (0, 0, 0, 0), [])]
def mt_X11_worthOf : ax_MI := (RX11, yX11_worthOf, cX11_worthOf, 6, (some .int), 3, 0, 0, [mc_X11_worthOf_0, mc_X11_worthOf_1])
def mc_X11_worth_0 : List ax_EN := [(0, .iload_n 1, 1, (0, 0, 0, 0), []), (1, .invokestatic 142, 3, (3, 162, 0, 0), [1314, 1313]), (4, .ifCond .eq 24, 3, (0, 0, 0, 0), []), (7, .aload_n 0, 1, (0, 0, 0, 0), []), (8, .aload_n 0, 1, (0, 0, 0, 0), []), (9, .getfield 36, 3, (0, 11, 9, 0), [1133]), (12, .bipush 24, 2, (0, 0, 0, 0), []), (14, .iload_n 1, 1, (0, 0, 0, 0), []), (15, .imul, 1, (0, 0, 0, 0), []), (16, .aload_n 0, 1, (0, 0, 0, 0), []), (17, .getfield 33, 3, (0, 11, 8, 0), [1132]), (20, .iload_n 1, 1, (0, 0, 0, 0), []), (21, .iaload, 1, (0, 0, 0, 0), []), (22, .invokevirtual 149, 3, (3, 166, 11, 0), [1326, 79, 1324]), (25, .goto 5, 3, (0, 0, 0, 0), []), (28, .ldc 153, 2, (6, 0, 0, (-100000001)), [1331]), (30, .ireturn, 1, (0, 0, 0, 0), [])]
def mt_X11_worth : ax_MI := (RX11, yX11_worth, cX11_worth, 2, (some .int), 1, 0, 0, [mc_X11_worth_0])
def mc_X11_keepsAll_0 : List ax_EN := [(0, .bipush 13, 2, (0, 0, 0, 0), []), (2, .istore 6, 2, (0, 0, 0, 0), []), (4, .bipush 14, 2, (0, 0, 0, 0), []), (6, .istore 7, 2, (0, 0, 0, 0), []), (8, .iconst 0, 1, (0, 0, 0, 0), []), (9, .istore 8, 2, (0, 0, 0, 0), []), (11, .iconst (-1), 1, (0, 0, 0, 0), []), (12, .istore 9, 2, (0, 0, 0, 0), []), (14, .iload 8, 2, (0, 0, 0, 0), []), (16, .iload_n 3, 1, (0, 0, 0, 0), []), (17, .if_icmp .ge 223, 3, (0, 0, 0, 0), []), (20, .aload_n 1, 1, (0, 0, 0, 0), []), (21, .iload_n 2, 1, (0, 0, 0, 0), []), (22, .iload 8, 2, (0, 0, 0, 0), []), (24, .iadd, 1, (0, 0, 0, 0), []), (25, .iaload, 1, (0, 0, 0, 0), []), (26, .istore 10, 2, (0, 0, 0, 0), []), (28, .iload 8, 2, (0, 0, 0, 0), []), (30, .istore 11, 2, (0, 0, 0, 0), [])]
def mc_X11_keepsAll_1 : List ax_EN := [(32, .iload 11, 2, (0, 0, 0, 0), []), (34, .iload_n 3, 1, (0, 0, 0, 0), []), (35, .if_icmp .ge 20, 3, (0, 0, 0, 0), []), (38, .aload_n 1, 1, (0, 0, 0, 0), []), (39, .iload_n 2, 1, (0, 0, 0, 0), []), (40, .iload 11, 2, (0, 0, 0, 0), []), (42, .iadd, 1, (0, 0, 0, 0), []), (43, .iaload, 1, (0, 0, 0, 0), []), (44, .iload 10, 2, (0, 0, 0, 0), []), (46, .if_icmp .ne 9, 3, (0, 0, 0, 0), []), (49, .iinc 11 1, 3, (0, 0, 0, 0), []), (52, .goto (-20), 3, (0, 0, 0, 0), []), (55, .iload 11, 2, (0, 0, 0, 0), []), (57, .iload 8, 2, (0, 0, 0, 0), []), (59, .isub, 1, (0, 0, 0, 0), []), (60, .istore 12, 2, (0, 0, 0, 0), []), (62, .iload 10, 2, (0, 0, 0, 0), [])]
def mc_X11_keepsAll_2 : List ax_EN := [(64, .iload 7, 2, (0, 0, 0, 0), []), (66, .if_icmp .lt 5, 3, (0, 0, 0, 0), []), (69, .iconst 0, 1, (0, 0, 0, 0), []), (70, .ireturn, 1, (0, 0, 0, 0), []), (71, .iload 11, 2, (0, 0, 0, 0), []), (73, .iload_n 3, 1, (0, 0, 0, 0), []), (74, .if_icmp .ge 73, 3, (0, 0, 0, 0), []), (77, .aload_n 1, 1, (0, 0, 0, 0), []), (78, .iload_n 2, 1, (0, 0, 0, 0), []), (79, .iload 11, 2, (0, 0, 0, 0), []), (81, .iadd, 1, (0, 0, 0, 0), []), (82, .iaload, 1, (0, 0, 0, 0), []), (83, .iload 10, 2, (0, 0, 0, 0), []), (85, .if_icmp .le 62, 3, (0, 0, 0, 0), []), (88, .aload_n 1, 1, (0, 0, 0, 0), []), (89, .iload_n 2, 1, (0, 0, 0, 0), []), (90, .iload 11, 2, (0, 0, 0, 0), []), (92, .iadd, 1, (0, 0, 0, 0), []), (93, .iaload, 1, (0, 0, 0, 0), []), (94, .istore 13, 2, (0, 0, 0, 0), [])]
def mc_X11_keepsAll_3 : List ax_EN := [(96, .iload 13, 2, (0, 0, 0, 0), []), (98, .iload 7, 2, (0, 0, 0, 0), []), (100, .if_icmp .ge 25, 3, (0, 0, 0, 0), []), (103, .iload 13, 2, (0, 0, 0, 0), []), (105, .iload 6, 2, (0, 0, 0, 0), []), (107, .if_icmp .gt 18, 3, (0, 0, 0, 0), []), (110, .aload_n 0, 1, (0, 0, 0, 0), []), (111, .iload 4, 2, (0, 0, 0, 0), []), (113, .iload 10, 2, (0, 0, 0, 0), []), (115, .iload 13, 2, (0, 0, 0, 0), []), (117, .iload 12, 2, (0, 0, 0, 0), []), (119, .invokevirtual 154, 3, (3, 169, 11, 0), [1342, 81, 1340]), (122, .ifCond .ne 5, 3, (0, 0, 0, 0), []), (125, .iconst 0, 1, (0, 0, 0, 0), []), (126, .ireturn, 1, (0, 0, 0, 0), []), (127, .iload 10, 2, (0, 0, 0, 0), [])]
def mc_X11_keepsAll_4 : List ax_EN := [(129, .istore 6, 2, (0, 0, 0, 0), []), (131, .iload 10, 2, (0, 0, 0, 0), []), (133, .istore 7, 2, (0, 0, 0, 0), []), (135, .iconst (-1), 1, (0, 0, 0, 0), []), (136, .istore 9, 2, (0, 0, 0, 0), []), (138, .iload 11, 2, (0, 0, 0, 0), []), (140, .iconst 1, 1, (0, 0, 0, 0), []), (141, .iadd, 1, (0, 0, 0, 0), []), (142, .istore 8, 2, (0, 0, 0, 0), []), (144, .goto 93, 3, (0, 0, 0, 0), []), (147, .iload 10, 2, (0, 0, 0, 0), []), (149, .iload 6, 2, (0, 0, 0, 0), []), (151, .if_icmp .gt 32, 3, (0, 0, 0, 0), []), (154, .iload 10, 2, (0, 0, 0, 0), []), (156, .iload 9, 2, (0, 0, 0, 0), []), (158, .if_icmp .eq 25, 3, (0, 0, 0, 0), [])]
def mc_X11_keepsAll_5 : List ax_EN := [(161, .iload 12, 2, (0, 0, 0, 0), []), (163, .aload_n 0, 1, (0, 0, 0, 0), []), (164, .getfield 24, 3, (0, 11, 5, 0), [1129]), (167, .bipush 14, 2, (0, 0, 0, 0), []), (169, .iload 4, 2, (0, 0, 0, 0), []), (171, .imul, 1, (0, 0, 0, 0), []), (172, .iload 10, 2, (0, 0, 0, 0), []), (174, .iadd, 1, (0, 0, 0, 0), []), (175, .iaload, 1, (0, 0, 0, 0), []), (176, .if_icmp .gt 7, 3, (0, 0, 0, 0), []), (179, .iconst 1, 1, (0, 0, 0, 0), []), (180, .goto 4, 3, (0, 0, 0, 0), []), (183, .iconst 0, 1, (0, 0, 0, 0), []), (184, .istore 13, 2, (0, 0, 0, 0), []), (186, .iload 13, 2, (0, 0, 0, 0), []), (188, .ifCond .ne 37, 3, (0, 0, 0, 0), []), (191, .iload 5, 2, (0, 0, 0, 0), [])]
def mc_X11_keepsAll_6 : List ax_EN := [(193, .ifCond .ne 30, 3, (0, 0, 0, 0), []), (196, .iload 11, 2, (0, 0, 0, 0), []), (198, .iload_n 3, 1, (0, 0, 0, 0), []), (199, .if_icmp .ne 24, 3, (0, 0, 0, 0), []), (202, .aload_n 0, 1, (0, 0, 0, 0), []), (203, .iload 4, 2, (0, 0, 0, 0), []), (205, .iload 10, 2, (0, 0, 0, 0), []), (207, .iload 12, 2, (0, 0, 0, 0), []), (209, .iload 6, 2, (0, 0, 0, 0), []), (211, .iload 7, 2, (0, 0, 0, 0), []), (213, .invokevirtual 158, 3, (3, 170, 11, 0), [1346, 82, 1344]), (216, .ifCond .eq 7, 3, (0, 0, 0, 0), []), (219, .iconst 1, 1, (0, 0, 0, 0), []), (220, .goto 4, 3, (0, 0, 0, 0), []), (223, .iconst 0, 1, (0, 0, 0, 0), [])]
def mc_X11_keepsAll_7 : List ax_EN := [(224, .ireturn, 1, (0, 0, 0, 0), []), (225, .iload 10, 2, (0, 0, 0, 0), []), (227, .istore 6, 2, (0, 0, 0, 0), []), (229, .iload 10, 2, (0, 0, 0, 0), []), (231, .istore 9, 2, (0, 0, 0, 0), []), (233, .iload 11, 2, (0, 0, 0, 0), []), (235, .istore 8, 2, (0, 0, 0, 0), []), (237, .goto (-223), 3, (0, 0, 0, 0), []), (240, .iconst 1, 1, (0, 0, 0, 0), []), (241, .ireturn, 1, (0, 0, 0, 0), [])]
def mt_X11_keepsAll : ax_MI := (RX11, yX11_keepsAll, cX11_keepsAll, 14, (some .boolean), 5, 0, 0, [mc_X11_keepsAll_0, mc_X11_keepsAll_1, mc_X11_keepsAll_2, mc_X11_keepsAll_3, mc_X11_keepsAll_4, mc_X11_keepsAll_5, mc_X11_keepsAll_6, mc_X11_keepsAll_7])
def mc_X11_mayTake_0 : List ax_EN := [(0, .iload 4, 2, (0, 0, 0, 0), []), (2, .iconst 1, 1, (0, 0, 0, 0), []), (3, .if_icmp .ne 17, 3, (0, 0, 0, 0), []), (6, .aload_n 0, 1, (0, 0, 0, 0), []), (7, .getfield 27, 3, (0, 11, 6, 0), [1130]), (10, .bipush 14, 2, (0, 0, 0, 0), []), (12, .iload_n 1, 1, (0, 0, 0, 0), []), (13, .imul, 1, (0, 0, 0, 0), []), (14, .iload_n 2, 1, (0, 0, 0, 0), []), (15, .iadd, 1, (0, 0, 0, 0), []), (16, .iaload, 1, (0, 0, 0, 0), []), (17, .goto 24, 3, (0, 0, 0, 0), []), (20, .iload 4, 2, (0, 0, 0, 0), []), (22, .iconst 2, 1, (0, 0, 0, 0), []), (23, .if_icmp .ne 17, 3, (0, 0, 0, 0), []), (26, .aload_n 0, 1, (0, 0, 0, 0), []), (27, .getfield 30, 3, (0, 11, 7, 0), [1131]), (30, .bipush 14, 2, (0, 0, 0, 0), [])]
def mc_X11_mayTake_1 : List ax_EN := [(32, .iload_n 1, 1, (0, 0, 0, 0), []), (33, .imul, 1, (0, 0, 0, 0), []), (34, .iload_n 2, 1, (0, 0, 0, 0), []), (35, .iadd, 1, (0, 0, 0, 0), []), (36, .iaload, 1, (0, 0, 0, 0), []), (37, .goto 4, 3, (0, 0, 0, 0), []), (40, .iconst 0, 1, (0, 0, 0, 0), []), (41, .istore 5, 2, (0, 0, 0, 0), []), (43, .iload 5, 2, (0, 0, 0, 0), []), (45, .iload_n 3, 1, (0, 0, 0, 0), []), (46, .ishr, 1, (0, 0, 0, 0), []), (47, .iconst 1, 1, (0, 0, 0, 0), []), (48, .iand, 1, (0, 0, 0, 0), []), (49, .iconst 1, 1, (0, 0, 0, 0), []), (50, .if_icmp .ne 7, 3, (0, 0, 0, 0), []), (53, .iconst 1, 1, (0, 0, 0, 0), []), (54, .goto 4, 3, (0, 0, 0, 0), []), (57, .iconst 0, 1, (0, 0, 0, 0), []), (58, .ireturn, 1, (0, 0, 0, 0), [])]
def mt_X11_mayTake : ax_MI := (RX11, yX11_mayTake, cX11_mayTake, 6, (some .boolean), 4, 0, 0, [mc_X11_mayTake_0, mc_X11_mayTake_1])
def mc_X11_mayBegin_0 : List ax_EN := [(0, .iload_n 2, 1, (0, 0, 0, 0), []), (1, .iconst 1, 1, (0, 0, 0, 0), []), (2, .iadd, 1, (0, 0, 0, 0), []), (3, .istore 6, 2, (0, 0, 0, 0), []), (5, .iload 6, 2, (0, 0, 0, 0), []), (7, .bipush 14, 2, (0, 0, 0, 0), []), (9, .if_icmp .ge 71, 3, (0, 0, 0, 0), []), (12, .iload_n 3, 1, (0, 0, 0, 0), []), (13, .iconst 1, 1, (0, 0, 0, 0), []), (14, .if_icmp .ne 15, 3, (0, 0, 0, 0), []), (17, .aload_n 0, 1, (0, 0, 0, 0), []), (18, .iload_n 1, 1, (0, 0, 0, 0), []), (19, .iload_n 2, 1, (0, 0, 0, 0), []), (20, .iload 6, 2, (0, 0, 0, 0), []), (22, .iconst 1, 1, (0, 0, 0, 0), []), (23, .invokevirtual 154, 3, (3, 169, 11, 0), [1342, 81, 1340]), (26, .ifCond .ne 20, 3, (0, 0, 0, 0), []), (29, .iload_n 3, 1, (0, 0, 0, 0), []), (30, .iconst 2, 1, (0, 0, 0, 0), []), (31, .if_icmp .gt 19, 3, (0, 0, 0, 0), [])]
def mc_X11_mayBegin_1 : List ax_EN := [(34, .aload_n 0, 1, (0, 0, 0, 0), []), (35, .iload_n 1, 1, (0, 0, 0, 0), []), (36, .iload_n 2, 1, (0, 0, 0, 0), []), (37, .iload 6, 2, (0, 0, 0, 0), []), (39, .iconst 2, 1, (0, 0, 0, 0), []), (40, .invokevirtual 154, 3, (3, 169, 11, 0), [1342, 81, 1340]), (43, .ifCond .eq 7, 3, (0, 0, 0, 0), []), (46, .iconst 1, 1, (0, 0, 0, 0), []), (47, .goto 4, 3, (0, 0, 0, 0), []), (50, .iconst 0, 1, (0, 0, 0, 0), []), (51, .istore 7, 2, (0, 0, 0, 0), []), (53, .iload 7, 2, (0, 0, 0, 0), []), (55, .ifCond .eq 19, 3, (0, 0, 0, 0), []), (58, .iload 6, 2, (0, 0, 0, 0), []), (60, .iload 4, 2, (0, 0, 0, 0), []), (62, .if_icmp .gt 12, 3, (0, 0, 0, 0), [])]
def mc_X11_mayBegin_2 : List ax_EN := [(65, .iload 6, 2, (0, 0, 0, 0), []), (67, .iload 5, 2, (0, 0, 0, 0), []), (69, .if_icmp .ge 5, 3, (0, 0, 0, 0), []), (72, .iconst 1, 1, (0, 0, 0, 0), []), (73, .ireturn, 1, (0, 0, 0, 0), []), (74, .iinc 6 1, 3, (0, 0, 0, 0), []), (77, .goto (-72), 3, (0, 0, 0, 0), []), (80, .iconst 0, 1, (0, 0, 0, 0), []), (81, .ireturn, 1, (0, 0, 0, 0), [])]
def mt_X11_mayBegin : ax_MI := (RX11, yX11_mayBegin, cX11_mayBegin, 8, (some .boolean), 5, 0, 0, [mc_X11_mayBegin_0, mc_X11_mayBegin_1, mc_X11_mayBegin_2])
def mc_X11_keeps_0 : List ax_EN := [(0, .iload_n 1, 1, (0, 0, 0, 0), []), (1, .invokestatic 142, 3, (3, 162, 0, 0), [1314, 1313]), (4, .ifCond .eq 11, 3, (0, 0, 0, 0), []), (7, .aload_n 0, 1, (0, 0, 0, 0), []), (8, .iload_n 2, 1, (0, 0, 0, 0), []), (9, .invokevirtual 138, 3, (3, 160, 11, 0), [1307, 78, 1305]), (12, .ifCond .ne 6, 3, (0, 0, 0, 0), []), (15, .bipush (-101), 2, (0, 0, 0, 0), []), (17, .ireturn, 1, (0, 0, 0, 0), []), (18, .aload_n 0, 1, (0, 0, 0, 0), []), (19, .aload_n 0, 1, (0, 0, 0, 0), []), (20, .getfield 36, 3, (0, 11, 9, 0), [1133]), (23, .bipush 24, 2, (0, 0, 0, 0), []), (25, .iload_n 1, 1, (0, 0, 0, 0), []), (26, .imul, 1, (0, 0, 0, 0), []), (27, .aload_n 0, 1, (0, 0, 0, 0), []), (28, .getfield 33, 3, (0, 11, 8, 0), [1132]), (31, .iload_n 1, 1, (0, 0, 0, 0), [])]
def mc_X11_keeps_1 : List ax_EN := [(32, .iaload, 1, (0, 0, 0, 0), []), (33, .iload_n 2, 1, (0, 0, 0, 0), []), (34, .iconst 1, 1, (0, 0, 0, 0), []), (35, .invokevirtual 162, 3, (3, 168, 11, 0), [1338, 80, 1336]), (38, .ifCond .eq 7, 3, (0, 0, 0, 0), []), (41, .iconst 1, 1, (0, 0, 0, 0), []), (42, .goto 4, 3, (0, 0, 0, 0), []), (45, .iconst 0, 1, (0, 0, 0, 0), []), (46, .ireturn, 1, (0, 0, 0, 0), [])]
def mt_X11_keeps : ax_MI := (RX11, yX11_keeps, cX11_keeps, 3, (some .int), 2, 0, 0, [mc_X11_keeps_0, mc_X11_keeps_1])
def mc_X11_begins_0 : List ax_EN := [(0, .iload_n 1, 1, (0, 0, 0, 0), []), (1, .invokestatic 142, 3, (3, 162, 0, 0), [1314, 1313]), (4, .ifCond .eq 11, 3, (0, 0, 0, 0), []), (7, .aload_n 0, 1, (0, 0, 0, 0), []), (8, .iload_n 2, 1, (0, 0, 0, 0), []), (9, .invokevirtual 138, 3, (3, 160, 11, 0), [1307, 78, 1305]), (12, .ifCond .ne 6, 3, (0, 0, 0, 0), []), (15, .bipush (-101), 2, (0, 0, 0, 0), []), (17, .ireturn, 1, (0, 0, 0, 0), []), (18, .aload_n 0, 1, (0, 0, 0, 0), []), (19, .getfield 33, 3, (0, 11, 8, 0), [1132]), (22, .iload_n 1, 1, (0, 0, 0, 0), []), (23, .iaload, 1, (0, 0, 0, 0), []), (24, .istore_n 3, 1, (0, 0, 0, 0), []), (25, .iload_n 3, 1, (0, 0, 0, 0), []), (26, .ifCond .le 27, 3, (0, 0, 0, 0), []), (29, .aload_n 0, 1, (0, 0, 0, 0), []), (30, .aload_n 0, 1, (0, 0, 0, 0), []), (31, .getfield 36, 3, (0, 11, 9, 0), [1133])]
def mc_X11_begins_1 : List ax_EN := [(34, .bipush 24, 2, (0, 0, 0, 0), []), (36, .iload_n 1, 1, (0, 0, 0, 0), []), (37, .imul, 1, (0, 0, 0, 0), []), (38, .iload_n 3, 1, (0, 0, 0, 0), []), (39, .iload_n 2, 1, (0, 0, 0, 0), []), (40, .iconst 0, 1, (0, 0, 0, 0), []), (41, .invokevirtual 162, 3, (3, 168, 11, 0), [1338, 80, 1336]), (44, .ifCond .ne 9, 3, (0, 0, 0, 0), []), (47, .iinc 3 (-1), 3, (0, 0, 0, 0), []), (50, .goto (-25), 3, (0, 0, 0, 0), []), (53, .iload_n 3, 1, (0, 0, 0, 0), []), (54, .ireturn, 1, (0, 0, 0, 0), [])]
def mt_X11_begins : ax_MI := (RX11, yX11_begins, cX11_begins, 4, (some .int), 2, 0, 0, [mc_X11_begins_0, mc_X11_begins_1])
def mc_X11_shared_0 : List ax_EN := [(0, .iload_n 0, 1, (0, 0, 0, 0), []), (1, .ifCond .ge 8, 3, (0, 0, 0, 0), []), (4, .iload_n 0, 1, (0, 0, 0, 0), []), (5, .ineg, 1, (0, 0, 0, 0), []), (6, .goto 4, 3, (0, 0, 0, 0), []), (9, .iload_n 0, 1, (0, 0, 0, 0), []), (10, .istore_n 2, 1, (0, 0, 0, 0), []), (11, .iload_n 1, 1, (0, 0, 0, 0), []), (12, .ifCond .ge 8, 3, (0, 0, 0, 0), []), (15, .iload_n 1, 1, (0, 0, 0, 0), []), (16, .ineg, 1, (0, 0, 0, 0), []), (17, .goto 4, 3, (0, 0, 0, 0), []), (20, .iload_n 1, 1, (0, 0, 0, 0), []), (21, .istore_n 3, 1, (0, 0, 0, 0), []), (22, .iload_n 3, 1, (0, 0, 0, 0), []), (23, .ifCond .eq 16, 3, (0, 0, 0, 0), []), (26, .iload_n 2, 1, (0, 0, 0, 0), []), (27, .iload_n 3, 1, (0, 0, 0, 0), []), (28, .irem, 1, (0, 0, 0, 0), []), (29, .istore 4, 2, (0, 0, 0, 0), []), (31, .iload_n 3, 1, (0, 0, 0, 0), [])]
def mc_X11_shared_1 : List ax_EN := [(32, .istore_n 2, 1, (0, 0, 0, 0), []), (33, .iload 4, 2, (0, 0, 0, 0), []), (35, .istore_n 3, 1, (0, 0, 0, 0), []), (36, .goto (-14), 3, (0, 0, 0, 0), []), (39, .iload_n 2, 1, (0, 0, 0, 0), []), (40, .ireturn, 1, (0, 0, 0, 0), [])]
def mt_X11_shared : ax_MI := (RX11, yX11_shared, cX11_shared, 5, (some .int), 2, 0, 0, [mc_X11_shared_0, mc_X11_shared_1])
def mc_X11_bound_0 : List ax_EN := [(0, .aload_n 0, 1, (0, 0, 0, 0), []), (1, .getfield 81, 3, (0, 11, 32, 0), [1156]), (4, .iconst 0, 1, (0, 0, 0, 0), []), (5, .iconst 0, 1, (0, 0, 0, 0), []), (6, .iastore, 1, (0, 0, 0, 0), []), (7, .aload_n 0, 1, (0, 0, 0, 0), []), (8, .getfield 84, 3, (0, 11, 33, 0), [1157]), (11, .iconst 0, 1, (0, 0, 0, 0), []), (12, .iconst 0, 1, (0, 0, 0, 0), []), (13, .iastore, 1, (0, 0, 0, 0), []), (14, .aload_n 0, 1, (0, 0, 0, 0), []), (15, .getfield 87, 3, (0, 11, 34, 0), [1158]), (18, .iconst 0, 1, (0, 0, 0, 0), []), (19, .iconst 0, 1, (0, 0, 0, 0), []), (20, .iastore, 1, (0, 0, 0, 0), []), (21, .iconst 0, 1, (0, 0, 0, 0), []), (22, .istore_n 2, 1, (0, 0, 0, 0), []), (23, .iload_n 2, 1, (0, 0, 0, 0), []), (24, .bipush 14, 2, (0, 0, 0, 0), []), (26, .if_icmp .ge 211, 3, (0, 0, 0, 0), []), (29, .iconst 0, 1, (0, 0, 0, 0), []), (30, .istore_n 3, 1, (0, 0, 0, 0), []), (31, .iconst 0, 1, (0, 0, 0, 0), [])]
def mc_X11_bound_1 : List ax_EN := [(32, .istore 4, 2, (0, 0, 0, 0), []), (34, .aload_n 0, 1, (0, 0, 0, 0), []), (35, .getfield 24, 3, (0, 11, 5, 0), [1129]), (38, .bipush 14, 2, (0, 0, 0, 0), []), (40, .iload_n 1, 1, (0, 0, 0, 0), []), (41, .imul, 1, (0, 0, 0, 0), []), (42, .iload_n 2, 1, (0, 0, 0, 0), []), (43, .iadd, 1, (0, 0, 0, 0), []), (44, .iaload, 1, (0, 0, 0, 0), []), (45, .ifCond .le 12, 3, (0, 0, 0, 0), []), (48, .aload_n 0, 1, (0, 0, 0, 0), []), (49, .getfield 11, 3, (0, 11, 0, 0), [1124]), (52, .iload_n 2, 1, (0, 0, 0, 0), []), (53, .iaload, 1, (0, 0, 0, 0), []), (54, .goto 4, 3, (0, 0, 0, 0), []), (57, .iconst 0, 1, (0, 0, 0, 0), []), (58, .istore 5, 2, (0, 0, 0, 0), []), (60, .iconst 0, 1, (0, 0, 0, 0), []), (61, .istore 6, 2, (0, 0, 0, 0), []), (63, .iload 6, 2, (0, 0, 0, 0), [])]
def mc_X11_bound_2 : List ax_EN := [(65, .iload_n 2, 1, (0, 0, 0, 0), []), (66, .if_icmp .ge 94, 3, (0, 0, 0, 0), []), (69, .iconst 1, 1, (0, 0, 0, 0), []), (70, .istore 7, 2, (0, 0, 0, 0), []), (72, .iload 7, 2, (0, 0, 0, 0), []), (74, .iconst 3, 1, (0, 0, 0, 0), []), (75, .if_icmp .ge 79, 3, (0, 0, 0, 0), []), (78, .aload_n 0, 1, (0, 0, 0, 0), []), (79, .iload_n 1, 1, (0, 0, 0, 0), []), (80, .iload 6, 2, (0, 0, 0, 0), []), (82, .iload_n 2, 1, (0, 0, 0, 0), []), (83, .iload 7, 2, (0, 0, 0, 0), []), (85, .invokevirtual 154, 3, (3, 169, 11, 0), [1342, 81, 1340]), (88, .ifCond .eq 60, 3, (0, 0, 0, 0), []), (91, .aload_n 0, 1, (0, 0, 0, 0), []), (92, .getfield 11, 3, (0, 11, 0, 0), [1124]), (95, .iload_n 2, 1, (0, 0, 0, 0), [])]
def mc_X11_bound_3 : List ax_EN := [(96, .iaload, 1, (0, 0, 0, 0), []), (97, .iload 7, 2, (0, 0, 0, 0), []), (99, .aload_n 0, 1, (0, 0, 0, 0), []), (100, .getfield 11, 3, (0, 11, 0, 0), [1124]), (103, .iload 6, 2, (0, 0, 0, 0), []), (105, .iaload, 1, (0, 0, 0, 0), []), (106, .imul, 1, (0, 0, 0, 0), []), (107, .isub, 1, (0, 0, 0, 0), []), (108, .istore 8, 2, (0, 0, 0, 0), []), (110, .iload 8, 2, (0, 0, 0, 0), []), (112, .iload_n 3, 1, (0, 0, 0, 0), []), (113, .if_icmp .le 8, 3, (0, 0, 0, 0), []), (116, .iload 8, 2, (0, 0, 0, 0), []), (118, .goto 4, 3, (0, 0, 0, 0), []), (121, .iload_n 3, 1, (0, 0, 0, 0), []), (122, .istore_n 3, 1, (0, 0, 0, 0), []), (123, .iload 8, 2, (0, 0, 0, 0), []), (125, .iload 4, 2, (0, 0, 0, 0), []), (127, .if_icmp .ge 8, 3, (0, 0, 0, 0), [])]
def mc_X11_bound_4 : List ax_EN := [(130, .iload 8, 2, (0, 0, 0, 0), []), (132, .goto 5, 3, (0, 0, 0, 0), []), (135, .iload 4, 2, (0, 0, 0, 0), []), (137, .istore 4, 2, (0, 0, 0, 0), []), (139, .iload 5, 2, (0, 0, 0, 0), []), (141, .iload 8, 2, (0, 0, 0, 0), []), (143, .invokestatic 166, 3, (3, 173, 0, 0), [1366, 1365]), (146, .istore 5, 2, (0, 0, 0, 0), []), (148, .iinc 7 1, 3, (0, 0, 0, 0), []), (151, .goto (-79), 3, (0, 0, 0, 0), []), (154, .iinc 6 1, 3, (0, 0, 0, 0), []), (157, .goto (-94), 3, (0, 0, 0, 0), [])]
def mc_X11_bound_5 : List ax_EN := [(160, .aload_n 0, 1, (0, 0, 0, 0), []), (161, .getfield 81, 3, (0, 11, 32, 0), [1156]), (164, .iload_n 2, 1, (0, 0, 0, 0), []), (165, .iconst 1, 1, (0, 0, 0, 0), []), (166, .iadd, 1, (0, 0, 0, 0), []), (167, .aload_n 0, 1, (0, 0, 0, 0), []), (168, .getfield 81, 3, (0, 11, 32, 0), [1156]), (171, .iload_n 2, 1, (0, 0, 0, 0), []), (172, .iaload, 1, (0, 0, 0, 0), []), (173, .aload_n 0, 1, (0, 0, 0, 0), []), (174, .getfield 24, 3, (0, 11, 5, 0), [1129]), (177, .bipush 14, 2, (0, 0, 0, 0), []), (179, .iload_n 1, 1, (0, 0, 0, 0), []), (180, .imul, 1, (0, 0, 0, 0), []), (181, .iload_n 2, 1, (0, 0, 0, 0), []), (182, .iadd, 1, (0, 0, 0, 0), []), (183, .iaload, 1, (0, 0, 0, 0), []), (184, .aload_n 0, 1, (0, 0, 0, 0), []), (185, .getfield 11, 3, (0, 11, 0, 0), [1124]), (188, .iload_n 2, 1, (0, 0, 0, 0), []), (189, .iaload, 1, (0, 0, 0, 0), []), (190, .imul, 1, (0, 0, 0, 0), []), (191, .iadd, 1, (0, 0, 0, 0), [])]
def mc_X11_bound_6 : List ax_EN := [(192, .iload_n 3, 1, (0, 0, 0, 0), []), (193, .iadd, 1, (0, 0, 0, 0), []), (194, .iastore, 1, (0, 0, 0, 0), []), (195, .aload_n 0, 1, (0, 0, 0, 0), []), (196, .getfield 84, 3, (0, 11, 33, 0), [1157]), (199, .iload_n 2, 1, (0, 0, 0, 0), []), (200, .iconst 1, 1, (0, 0, 0, 0), []), (201, .iadd, 1, (0, 0, 0, 0), []), (202, .aload_n 0, 1, (0, 0, 0, 0), []), (203, .getfield 84, 3, (0, 11, 33, 0), [1157]), (206, .iload_n 2, 1, (0, 0, 0, 0), []), (207, .iaload, 1, (0, 0, 0, 0), []), (208, .iload 4, 2, (0, 0, 0, 0), []), (210, .iadd, 1, (0, 0, 0, 0), []), (211, .iastore, 1, (0, 0, 0, 0), []), (212, .aload_n 0, 1, (0, 0, 0, 0), []), (213, .getfield 87, 3, (0, 11, 34, 0), [1158]), (216, .iload_n 2, 1, (0, 0, 0, 0), []), (217, .iconst 1, 1, (0, 0, 0, 0), []), (218, .iadd, 1, (0, 0, 0, 0), []), (219, .aload_n 0, 1, (0, 0, 0, 0), []), (220, .getfield 87, 3, (0, 11, 34, 0), [1158]), (223, .iload_n 2, 1, (0, 0, 0, 0), [])]
def mc_X11_bound_7 : List ax_EN := [(224, .iaload, 1, (0, 0, 0, 0), []), (225, .iload 5, 2, (0, 0, 0, 0), []), (227, .invokestatic 166, 3, (3, 173, 0, 0), [1366, 1365]), (230, .iastore, 1, (0, 0, 0, 0), []), (231, .iinc 2 1, 3, (0, 0, 0, 0), []), (234, .goto (-211), 3, (0, 0, 0, 0), []), (237, .return_, 1, (0, 0, 0, 0), [])]
def mt_X11_bound : ax_MI := (RX11, yX11_bound, cX11_bound, 9, none, 1, 0, 0, [mc_X11_bound_0, mc_X11_bound_1, mc_X11_bound_2, mc_X11_bound_3, mc_X11_bound_4, mc_X11_bound_5, mc_X11_bound_6, mc_X11_bound_7])
def mc_X11_mayCome_0 : List ax_EN := [(0, .iload_n 2, 1, (0, 0, 0, 0), []), (1, .aload_n 0, 1, (0, 0, 0, 0), []), (2, .getfield 84, 3, (0, 11, 33, 0), [1157]), (5, .iload_n 1, 1, (0, 0, 0, 0), []), (6, .iaload, 1, (0, 0, 0, 0), []), (7, .if_icmp .lt 31, 3, (0, 0, 0, 0), []), (10, .iload_n 2, 1, (0, 0, 0, 0), []), (11, .aload_n 0, 1, (0, 0, 0, 0), []), (12, .getfield 81, 3, (0, 11, 32, 0), [1156]), (15, .iload_n 1, 1, (0, 0, 0, 0), []), (16, .iaload, 1, (0, 0, 0, 0), []), (17, .if_icmp .gt 21, 3, (0, 0, 0, 0), []), (20, .iload_n 1, 1, (0, 0, 0, 0), []), (21, .ifCond .le 19, 3, (0, 0, 0, 0), []), (24, .iload_n 2, 1, (0, 0, 0, 0), []), (25, .iload_n 3, 1, (0, 0, 0, 0), []), (26, .aload_n 0, 1, (0, 0, 0, 0), []), (27, .getfield 11, 3, (0, 11, 0, 0), [1124]), (30, .iload_n 1, 1, (0, 0, 0, 0), []), (31, .iconst 1, 1, (0, 0, 0, 0), [])]
def mc_X11_mayCome_1 : List ax_EN := [(32, .isub, 1, (0, 0, 0, 0), []), (33, .iaload, 1, (0, 0, 0, 0), []), (34, .imul, 1, (0, 0, 0, 0), []), (35, .if_icmp .le 5, 3, (0, 0, 0, 0), []), (38, .iconst 0, 1, (0, 0, 0, 0), []), (39, .ireturn, 1, (0, 0, 0, 0), []), (40, .aload_n 0, 1, (0, 0, 0, 0), []), (41, .getfield 87, 3, (0, 11, 34, 0), [1158]), (44, .iload_n 1, 1, (0, 0, 0, 0), []), (45, .iaload, 1, (0, 0, 0, 0), []), (46, .ifCond .ne 15, 3, (0, 0, 0, 0), []), (49, .iload_n 2, 1, (0, 0, 0, 0), []), (50, .ifCond .ne 7, 3, (0, 0, 0, 0), []), (53, .iconst 1, 1, (0, 0, 0, 0), []), (54, .goto 23, 3, (0, 0, 0, 0), []), (57, .iconst 0, 1, (0, 0, 0, 0), []), (58, .goto 19, 3, (0, 0, 0, 0), []), (61, .iload_n 2, 1, (0, 0, 0, 0), []), (62, .aload_n 0, 1, (0, 0, 0, 0), []), (63, .getfield 87, 3, (0, 11, 34, 0), [1158])]
def mc_X11_mayCome_2 : List ax_EN := [(66, .iload_n 1, 1, (0, 0, 0, 0), []), (67, .iaload, 1, (0, 0, 0, 0), []), (68, .irem, 1, (0, 0, 0, 0), []), (69, .ifCond .ne 7, 3, (0, 0, 0, 0), []), (72, .iconst 1, 1, (0, 0, 0, 0), []), (73, .goto 4, 3, (0, 0, 0, 0), []), (76, .iconst 0, 1, (0, 0, 0, 0), []), (77, .ireturn, 1, (0, 0, 0, 0), [])]
def mt_X11_mayCome : ax_MI := (RX11, yX11_mayCome, cX11_mayCome, 4, (some .boolean), 3, 0, 0, [mc_X11_mayCome_0, mc_X11_mayCome_1, mc_X11_mayCome_2])
def mc_X11_signsOf_0 : List ax_EN := [(0, .iload_n 0, 1, (0, 0, 0, 0), []), (1, .ifCond .ne 7, 3, (0, 0, 0, 0), []), (4, .iconst 0, 1, (0, 0, 0, 0), []), (5, .goto 14, 3, (0, 0, 0, 0), []), (8, .iload_n 0, 1, (0, 0, 0, 0), []), (9, .bipush 15, 2, (0, 0, 0, 0), []), (11, .if_icmp .ge 7, 3, (0, 0, 0, 0), []), (14, .iconst 2, 1, (0, 0, 0, 0), []), (15, .goto 4, 3, (0, 0, 0, 0), []), (18, .iconst 3, 1, (0, 0, 0, 0), []), (19, .ireturn, 1, (0, 0, 0, 0), [])]
def mt_X11_signsOf : ax_MI := (RX11, yX11_signsOf, cX11_signsOf, 1, (some .int), 1, 0, 0, [mc_X11_signsOf_0])
def mc_X11_worthBy_0 : List ax_EN := [(0, .aload_n 0, 1, (0, 0, 0, 0), []), (1, .getfield 69, 3, (0, 11, 28, 0), [1152]), (4, .iload_n 1, 1, (0, 0, 0, 0), []), (5, .iaload, 1, (0, 0, 0, 0), []), (6, .istore_n 2, 1, (0, 0, 0, 0), []), (7, .aload_n 0, 1, (0, 0, 0, 0), []), (8, .getfield 66, 3, (0, 11, 27, 0), [1151]), (11, .iload_n 1, 1, (0, 0, 0, 0), []), (12, .iaload, 1, (0, 0, 0, 0), []), (13, .aload_n 0, 1, (0, 0, 0, 0), []), (14, .getfield 11, 3, (0, 11, 0, 0), [1124]), (17, .iload_n 1, 1, (0, 0, 0, 0), []), (18, .iaload, 1, (0, 0, 0, 0), []), (19, .imul, 1, (0, 0, 0, 0), []), (20, .istore_n 3, 1, (0, 0, 0, 0), []), (21, .iload_n 2, 1, (0, 0, 0, 0), []), (22, .ifCond .ne 7, 3, (0, 0, 0, 0), []), (25, .iload_n 3, 1, (0, 0, 0, 0), []), (26, .goto 49, 3, (0, 0, 0, 0), []), (29, .iload_n 2, 1, (0, 0, 0, 0), []), (30, .bipush 15, 2, (0, 0, 0, 0), [])]
def mc_X11_worthBy_1 : List ax_EN := [(32, .if_icmp .ge 23, 3, (0, 0, 0, 0), []), (35, .iload_n 3, 1, (0, 0, 0, 0), []), (36, .aload_n 0, 1, (0, 0, 0, 0), []), (37, .getfield 11, 3, (0, 11, 0, 0), [1124]), (40, .iload_n 1, 1, (0, 0, 0, 0), []), (41, .iaload, 1, (0, 0, 0, 0), []), (42, .iadd, 1, (0, 0, 0, 0), []), (43, .aload_n 0, 1, (0, 0, 0, 0), []), (44, .getfield 11, 3, (0, 11, 0, 0), [1124]), (47, .iload_n 2, 1, (0, 0, 0, 0), []), (48, .iconst 1, 1, (0, 0, 0, 0), []), (49, .isub, 1, (0, 0, 0, 0), []), (50, .iaload, 1, (0, 0, 0, 0), []), (51, .isub, 1, (0, 0, 0, 0), []), (52, .goto 23, 3, (0, 0, 0, 0), []), (55, .iload_n 3, 1, (0, 0, 0, 0), []), (56, .aload_n 0, 1, (0, 0, 0, 0), []), (57, .getfield 11, 3, (0, 11, 0, 0), [1124]), (60, .iload_n 1, 1, (0, 0, 0, 0), []), (61, .iaload, 1, (0, 0, 0, 0), []), (62, .iadd, 1, (0, 0, 0, 0), []), (63, .iconst 2, 1, (0, 0, 0, 0), [])]
def mc_X11_worthBy_2 : List ax_EN := [(64, .aload_n 0, 1, (0, 0, 0, 0), []), (65, .getfield 11, 3, (0, 11, 0, 0), [1124]), (68, .iload_n 2, 1, (0, 0, 0, 0), []), (69, .bipush 15, 2, (0, 0, 0, 0), []), (71, .isub, 1, (0, 0, 0, 0), []), (72, .iaload, 1, (0, 0, 0, 0), []), (73, .imul, 1, (0, 0, 0, 0), []), (74, .isub, 1, (0, 0, 0, 0), []), (75, .ireturn, 1, (0, 0, 0, 0), [])]
def mt_X11_worthBy : ax_MI := (RX11, yX11_worthBy, cX11_worthBy, 4, (some .int), 1, 0, 0, [mc_X11_worthBy_0, mc_X11_worthBy_1, mc_X11_worthBy_2])
def mc_X11_isAllowed_0 : List ax_EN := [(0, .aload_n 0, 1, (0, 0, 0, 0), []), (1, .getfield 69, 3, (0, 11, 28, 0), [1152]), (4, .iload_n 2, 1, (0, 0, 0, 0), []), (5, .iaload, 1, (0, 0, 0, 0), []), (6, .istore_n 3, 1, (0, 0, 0, 0), []), (7, .iload_n 3, 1, (0, 0, 0, 0), []), (8, .ifCond .ne 5, 3, (0, 0, 0, 0), []), (11, .iconst 1, 1, (0, 0, 0, 0), []), (12, .ireturn, 1, (0, 0, 0, 0), []), (13, .iload_n 3, 1, (0, 0, 0, 0), []), (14, .bipush 15, 2, (0, 0, 0, 0), []), (16, .if_icmp .ge 9, 3, (0, 0, 0, 0), []), (19, .iload_n 3, 1, (0, 0, 0, 0), []), (20, .iconst 1, 1, (0, 0, 0, 0), []), (21, .isub, 1, (0, 0, 0, 0), []), (22, .goto 7, 3, (0, 0, 0, 0), []), (25, .iload_n 3, 1, (0, 0, 0, 0), []), (26, .bipush 15, 2, (0, 0, 0, 0), []), (28, .isub, 1, (0, 0, 0, 0), []), (29, .istore 4, 2, (0, 0, 0, 0), []), (31, .iload_n 2, 1, (0, 0, 0, 0), [])]
def mc_X11_isAllowed_1 : List ax_EN := [(32, .aload_n 0, 1, (0, 0, 0, 0), []), (33, .getfield 72, 3, (0, 11, 29, 0), [1153]), (36, .iload_n 2, 1, (0, 0, 0, 0), []), (37, .iaload, 1, (0, 0, 0, 0), []), (38, .if_icmp .ge 35, 3, (0, 0, 0, 0), []), (41, .iload 4, 2, (0, 0, 0, 0), []), (43, .iload_n 2, 1, (0, 0, 0, 0), []), (44, .if_icmp .ge 29, 3, (0, 0, 0, 0), []), (47, .aload_n 0, 1, (0, 0, 0, 0), []), (48, .iload_n 1, 1, (0, 0, 0, 0), []), (49, .iload 4, 2, (0, 0, 0, 0), []), (51, .iload_n 2, 1, (0, 0, 0, 0), []), (52, .iload_n 3, 1, (0, 0, 0, 0), []), (53, .bipush 15, 2, (0, 0, 0, 0), []), (55, .if_icmp .ge 7, 3, (0, 0, 0, 0), []), (58, .iconst 1, 1, (0, 0, 0, 0), []), (59, .goto 4, 3, (0, 0, 0, 0), []), (62, .iconst 2, 1, (0, 0, 0, 0), []), (63, .invokevirtual 154, 3, (3, 169, 11, 0), [1342, 81, 1340])]
def mc_X11_isAllowed_2 : List ax_EN := [(66, .ifCond .eq 7, 3, (0, 0, 0, 0), []), (69, .iconst 1, 1, (0, 0, 0, 0), []), (70, .goto 4, 3, (0, 0, 0, 0), []), (73, .iconst 0, 1, (0, 0, 0, 0), []), (74, .ireturn, 1, (0, 0, 0, 0), [])]
def mt_X11_isAllowed : ax_MI := (RX11, yX11_isAllowed, cX11_isAllowed, 5, (some .boolean), 2, 0, 0, [mc_X11_isAllowed_0, mc_X11_isAllowed_1, mc_X11_isAllowed_2])
def mc_X11_nextWay_0 : List ax_EN := [(0, .iconst 0, 1, (0, 0, 0, 0), []), (1, .istore_n 3, 1, (0, 0, 0, 0), []), (2, .iload_n 3, 1, (0, 0, 0, 0), []), (3, .ifCond .ne 121, 3, (0, 0, 0, 0), []), (6, .aload_n 0, 1, (0, 0, 0, 0), []), (7, .getfield 66, 3, (0, 11, 27, 0), [1151]), (10, .iload_n 2, 1, (0, 0, 0, 0), []), (11, .iaload, 1, (0, 0, 0, 0), []), (12, .ifCond .lt 112, 3, (0, 0, 0, 0), []), (15, .aload_n 0, 1, (0, 0, 0, 0), []), (16, .getfield 69, 3, (0, 11, 28, 0), [1152]), (19, .iload_n 2, 1, (0, 0, 0, 0), []), (20, .iaload, 1, (0, 0, 0, 0), []), (21, .ifCond .ne 14, 3, (0, 0, 0, 0), []), (24, .aload_n 0, 1, (0, 0, 0, 0), []), (25, .getfield 69, 3, (0, 11, 28, 0), [1152]), (28, .iload_n 2, 1, (0, 0, 0, 0), []), (29, .bipush 14, 2, (0, 0, 0, 0), []), (31, .iastore, 1, (0, 0, 0, 0), [])]
def mc_X11_nextWay_1 : List ax_EN := [(32, .goto 65, 3, (0, 0, 0, 0), []), (35, .aload_n 0, 1, (0, 0, 0, 0), []), (36, .getfield 69, 3, (0, 11, 28, 0), [1152]), (39, .iload_n 2, 1, (0, 0, 0, 0), []), (40, .iaload, 1, (0, 0, 0, 0), []), (41, .iconst 1, 1, (0, 0, 0, 0), []), (42, .if_icmp .ne 14, 3, (0, 0, 0, 0), []), (45, .aload_n 0, 1, (0, 0, 0, 0), []), (46, .getfield 69, 3, (0, 11, 28, 0), [1152]), (49, .iload_n 2, 1, (0, 0, 0, 0), []), (50, .bipush 28, 2, (0, 0, 0, 0), []), (52, .iastore, 1, (0, 0, 0, 0), []), (53, .goto 44, 3, (0, 0, 0, 0), []), (56, .aload_n 0, 1, (0, 0, 0, 0), []), (57, .getfield 69, 3, (0, 11, 28, 0), [1152]), (60, .iload_n 2, 1, (0, 0, 0, 0), []), (61, .iaload, 1, (0, 0, 0, 0), []), (62, .bipush 15, 2, (0, 0, 0, 0), [])]
def mc_X11_nextWay_2 : List ax_EN := [(64, .if_icmp .ne 23, 3, (0, 0, 0, 0), []), (67, .aload_n 0, 1, (0, 0, 0, 0), []), (68, .getfield 69, 3, (0, 11, 28, 0), [1152]), (71, .iload_n 2, 1, (0, 0, 0, 0), []), (72, .iconst 0, 1, (0, 0, 0, 0), []), (73, .iastore, 1, (0, 0, 0, 0), []), (74, .aload_n 0, 1, (0, 0, 0, 0), []), (75, .getfield 66, 3, (0, 11, 27, 0), [1151]), (78, .iload_n 2, 1, (0, 0, 0, 0), []), (79, .dup2, 1, (0, 0, 0, 0), []), (80, .iaload, 1, (0, 0, 0, 0), []), (81, .iconst 1, 1, (0, 0, 0, 0), []), (82, .isub, 1, (0, 0, 0, 0), []), (83, .iastore, 1, (0, 0, 0, 0), []), (84, .goto 13, 3, (0, 0, 0, 0), []), (87, .aload_n 0, 1, (0, 0, 0, 0), []), (88, .getfield 69, 3, (0, 11, 28, 0), [1152]), (91, .iload_n 2, 1, (0, 0, 0, 0), []), (92, .dup2, 1, (0, 0, 0, 0), []), (93, .iaload, 1, (0, 0, 0, 0), []), (94, .iconst 1, 1, (0, 0, 0, 0), []), (95, .isub, 1, (0, 0, 0, 0), [])]
def mc_X11_nextWay_3 : List ax_EN := [(96, .iastore, 1, (0, 0, 0, 0), []), (97, .aload_n 0, 1, (0, 0, 0, 0), []), (98, .getfield 66, 3, (0, 11, 27, 0), [1151]), (101, .iload_n 2, 1, (0, 0, 0, 0), []), (102, .iaload, 1, (0, 0, 0, 0), []), (103, .ifCond .lt 16, 3, (0, 0, 0, 0), []), (106, .aload_n 0, 1, (0, 0, 0, 0), []), (107, .iload_n 1, 1, (0, 0, 0, 0), []), (108, .iload_n 2, 1, (0, 0, 0, 0), []), (109, .invokevirtual 170, 3, (3, 178, 11, 0), [1378, 87, 1376]), (112, .ifCond .eq 7, 3, (0, 0, 0, 0), []), (115, .iconst 1, 1, (0, 0, 0, 0), []), (116, .goto 4, 3, (0, 0, 0, 0), []), (119, .iconst 0, 1, (0, 0, 0, 0), []), (120, .istore_n 3, 1, (0, 0, 0, 0), []), (121, .goto (-119), 3, (0, 0, 0, 0), []), (124, .iload_n 3, 1, (0, 0, 0, 0), []), (125, .ireturn, 1, (0, 0, 0, 0), [])]
def mt_X11_nextWay : ax_MI := (RX11, yX11_nextWay, cX11_nextWay, 4, (some .boolean), 2, 0, 0, [mc_X11_nextWay_0, mc_X11_nextWay_1, mc_X11_nextWay_2, mc_X11_nextWay_3])
def mc_X11_seek_0 : List ax_EN := [(0, .aload_n 0, 1, (0, 0, 0, 0), []), (1, .iload_n 1, 1, (0, 0, 0, 0), []), (2, .invokevirtual 174, 3, (3, 174, 11, 0), [1363, 84, 1361]), (5, .aload_n 0, 1, (0, 0, 0, 0), []), (6, .iconst 0, 1, (0, 0, 0, 0), []), (7, .putfield 178, 3, (0, 11, 35, 0), [1159]), (10, .aload_n 0, 1, (0, 0, 0, 0), []), (11, .bipush 25, 2, (0, 0, 0, 0), []), (13, .putfield 181, 3, (0, 11, 36, 0), [1160]), (16, .aload_n 0, 1, (0, 0, 0, 0), []), (17, .getfield 33, 3, (0, 11, 8, 0), [1132]), (20, .bipush 12, 2, (0, 0, 0, 0), []), (22, .iconst 0, 1, (0, 0, 0, 0), []), (23, .iastore, 1, (0, 0, 0, 0), []), (24, .bipush 13, 2, (0, 0, 0, 0), []), (26, .istore 4, 2, (0, 0, 0, 0), []), (28, .aload_n 0, 1, (0, 0, 0, 0), []), (29, .getfield 75, 3, (0, 11, 30, 0), [1154])]
def mc_X11_seek_1 : List ax_EN := [(32, .iload 4, 2, (0, 0, 0, 0), []), (34, .iload_n 2, 1, (0, 0, 0, 0), []), (35, .iastore, 1, (0, 0, 0, 0), []), (36, .aload_n 0, 1, (0, 0, 0, 0), []), (37, .getfield 78, 3, (0, 11, 31, 0), [1155]), (40, .iload 4, 2, (0, 0, 0, 0), []), (42, .iconst 0, 1, (0, 0, 0, 0), []), (43, .iastore, 1, (0, 0, 0, 0), []), (44, .aload_n 0, 1, (0, 0, 0, 0), []), (45, .getfield 72, 3, (0, 11, 29, 0), [1153]), (48, .iload 4, 2, (0, 0, 0, 0), []), (50, .bipush 14, 2, (0, 0, 0, 0), []), (52, .iastore, 1, (0, 0, 0, 0), []), (53, .aload_n 0, 1, (0, 0, 0, 0), []), (54, .iload_n 1, 1, (0, 0, 0, 0), []), (55, .iload 4, 2, (0, 0, 0, 0), []), (57, .invokevirtual 184, 3, (3, 182, 11, 0), [1370, 85, 1368]), (60, .iload 4, 2, (0, 0, 0, 0), []), (62, .bipush 14, 2, (0, 0, 0, 0), [])]
def mc_X11_seek_2 : List ax_EN := [(64, .if_icmp .ge 190, 3, (0, 0, 0, 0), []), (67, .aload_n 0, 1, (0, 0, 0, 0), []), (68, .getfield 178, 3, (0, 11, 35, 0), [1159]), (71, .sipush 5000, 3, (0, 0, 0, 0), []), (74, .if_icmp .ge 180, 3, (0, 0, 0, 0), []), (77, .aload_n 0, 1, (0, 0, 0, 0), []), (78, .getfield 66, 3, (0, 11, 27, 0), [1151]), (81, .iload 4, 2, (0, 0, 0, 0), []), (83, .iaload, 1, (0, 0, 0, 0), []), (84, .ifCond .ge 34, 3, (0, 0, 0, 0), []), (87, .iinc 4 1, 3, (0, 0, 0, 0), []), (90, .iload 4, 2, (0, 0, 0, 0), []), (92, .bipush 14, 2, (0, 0, 0, 0), []), (94, .if_icmp .ge (-34), 3, (0, 0, 0, 0), [])]
def mc_X11_seek_3 : List ax_EN := [(97, .aload_n 0, 1, (0, 0, 0, 0), []), (98, .iload_n 1, 1, (0, 0, 0, 0), []), (99, .iload 4, 2, (0, 0, 0, 0), []), (101, .invokevirtual 188, 3, (3, 179, 11, 0), [1374, 86, 1372]), (104, .ifCond .ne (-44), 3, (0, 0, 0, 0), []), (107, .aload_n 0, 1, (0, 0, 0, 0), []), (108, .getfield 66, 3, (0, 11, 27, 0), [1151]), (111, .iload 4, 2, (0, 0, 0, 0), []), (113, .iconst (-1), 1, (0, 0, 0, 0), []), (114, .iastore, 1, (0, 0, 0, 0), []), (115, .goto (-55), 3, (0, 0, 0, 0), []), (118, .aload_n 0, 1, (0, 0, 0, 0), []), (119, .getfield 75, 3, (0, 11, 30, 0), [1154]), (122, .iload 4, 2, (0, 0, 0, 0), []), (124, .iaload, 1, (0, 0, 0, 0), []), (125, .aload_n 0, 1, (0, 0, 0, 0), []), (126, .iload 4, 2, (0, 0, 0, 0), [])]
def mc_X11_seek_4 : List ax_EN := [(128, .invokevirtual 191, 3, (3, 177, 11, 0), [1382, 88, 1380]), (131, .isub, 1, (0, 0, 0, 0), []), (132, .istore 5, 2, (0, 0, 0, 0), []), (134, .aload_n 0, 1, (0, 0, 0, 0), []), (135, .getfield 78, 3, (0, 11, 31, 0), [1155]), (138, .iload 4, 2, (0, 0, 0, 0), []), (140, .iaload, 1, (0, 0, 0, 0), []), (141, .aload_n 0, 1, (0, 0, 0, 0), []), (142, .getfield 66, 3, (0, 11, 27, 0), [1151]), (145, .iload 4, 2, (0, 0, 0, 0), []), (147, .iaload, 1, (0, 0, 0, 0), []), (148, .iadd, 1, (0, 0, 0, 0), []), (149, .aload_n 0, 1, (0, 0, 0, 0), []), (150, .getfield 69, 3, (0, 11, 28, 0), [1152]), (153, .iload 4, 2, (0, 0, 0, 0), []), (155, .iaload, 1, (0, 0, 0, 0), []), (156, .invokestatic 194, 3, (3, 176, 0, 0), [1385, 1384]), (159, .iadd, 1, (0, 0, 0, 0), [])]
def mc_X11_seek_5 : List ax_EN := [(160, .istore 6, 2, (0, 0, 0, 0), []), (162, .iload 6, 2, (0, 0, 0, 0), []), (164, .bipush 24, 2, (0, 0, 0, 0), []), (166, .if_icmp .gt 23, 3, (0, 0, 0, 0), []), (169, .aload_n 0, 1, (0, 0, 0, 0), []), (170, .iload 4, 2, (0, 0, 0, 0), []), (172, .iload 5, 2, (0, 0, 0, 0), []), (174, .bipush 24, 2, (0, 0, 0, 0), []), (176, .iload 6, 2, (0, 0, 0, 0), []), (178, .isub, 1, (0, 0, 0, 0), []), (179, .invokevirtual 197, 3, (3, 175, 11, 0), [1389, 89, 1387]), (182, .ifCond .eq 7, 3, (0, 0, 0, 0), []), (185, .iconst 1, 1, (0, 0, 0, 0), []), (186, .goto 4, 3, (0, 0, 0, 0), []), (189, .iconst 0, 1, (0, 0, 0, 0), []), (190, .istore 7, 2, (0, 0, 0, 0), [])]
def mc_X11_seek_6 : List ax_EN := [(192, .iload 7, 2, (0, 0, 0, 0), []), (194, .ifCond .eq 18, 3, (0, 0, 0, 0), []), (197, .iload 4, 2, (0, 0, 0, 0), []), (199, .ifCond .ne 13, 3, (0, 0, 0, 0), []), (202, .aload_n 0, 1, (0, 0, 0, 0), []), (203, .iload_n 3, 1, (0, 0, 0, 0), []), (204, .iload 6, 2, (0, 0, 0, 0), []), (206, .invokevirtual 200, 3, (3, 183, 11, 0), [1393, 90, 1391]), (209, .iconst 0, 1, (0, 0, 0, 0), []), (210, .istore 7, 2, (0, 0, 0, 0), []), (212, .iload 7, 2, (0, 0, 0, 0), []), (214, .ifCond .eq 19, 3, (0, 0, 0, 0), []), (217, .aload_n 0, 1, (0, 0, 0, 0), []), (218, .iload_n 1, 1, (0, 0, 0, 0), []), (219, .iload 4, 2, (0, 0, 0, 0), []), (221, .iload 5, 2, (0, 0, 0, 0), []), (223, .iload 6, 2, (0, 0, 0, 0), [])]
def mc_X11_seek_7 : List ax_EN := [(225, .invokevirtual 203, 3, (3, 181, 11, 0), [1401, 92, 1399]), (228, .istore 4, 2, (0, 0, 0, 0), []), (230, .goto 21, 3, (0, 0, 0, 0), []), (233, .aload_n 0, 1, (0, 0, 0, 0), []), (234, .iload_n 1, 1, (0, 0, 0, 0), []), (235, .iload 4, 2, (0, 0, 0, 0), []), (237, .invokevirtual 188, 3, (3, 179, 11, 0), [1374, 86, 1372]), (240, .ifCond .ne 11, 3, (0, 0, 0, 0), []), (243, .aload_n 0, 1, (0, 0, 0, 0), []), (244, .getfield 66, 3, (0, 11, 27, 0), [1151]), (247, .iload 4, 2, (0, 0, 0, 0), []), (249, .iconst (-1), 1, (0, 0, 0, 0), []), (250, .iastore, 1, (0, 0, 0, 0), []), (251, .goto (-191), 3, (0, 0, 0, 0), []), (254, .return_, 1, (0, 0, 0, 0), [])]
def mt_X11_seek : ax_MI := (RX11, yX11_seek, cX11_seek, 8, none, 3, 0, 0, [mc_X11_seek_0, mc_X11_seek_1, mc_X11_seek_2, mc_X11_seek_3, mc_X11_seek_4, mc_X11_seek_5, mc_X11_seek_6, mc_X11_seek_7])
def mc_X11_down_0 : List ax_EN := [(0, .aload_n 0, 1, (0, 0, 0, 0), []), (1, .getfield 69, 3, (0, 11, 28, 0), [1152]), (4, .iload_n 2, 1, (0, 0, 0, 0), []), (5, .iaload, 1, (0, 0, 0, 0), []), (6, .istore 5, 2, (0, 0, 0, 0), []), (8, .aload_n 0, 1, (0, 0, 0, 0), []), (9, .getfield 75, 3, (0, 11, 30, 0), [1154]), (12, .iload_n 2, 1, (0, 0, 0, 0), []), (13, .iconst 1, 1, (0, 0, 0, 0), []), (14, .isub, 1, (0, 0, 0, 0), []), (15, .iload_n 3, 1, (0, 0, 0, 0), []), (16, .iastore, 1, (0, 0, 0, 0), []), (17, .aload_n 0, 1, (0, 0, 0, 0), []), (18, .getfield 78, 3, (0, 11, 31, 0), [1155]), (21, .iload_n 2, 1, (0, 0, 0, 0), []), (22, .iconst 1, 1, (0, 0, 0, 0), []), (23, .isub, 1, (0, 0, 0, 0), []), (24, .iload 4, 2, (0, 0, 0, 0), []), (26, .iastore, 1, (0, 0, 0, 0), []), (27, .aload_n 0, 1, (0, 0, 0, 0), []), (28, .getfield 72, 3, (0, 11, 29, 0), [1153]), (31, .iload_n 2, 1, (0, 0, 0, 0), [])]
def mc_X11_down_1 : List ax_EN := [(32, .iconst 1, 1, (0, 0, 0, 0), []), (33, .isub, 1, (0, 0, 0, 0), []), (34, .iload 5, 2, (0, 0, 0, 0), []), (36, .ifCond .ne 12, 3, (0, 0, 0, 0), []), (39, .aload_n 0, 1, (0, 0, 0, 0), []), (40, .getfield 72, 3, (0, 11, 29, 0), [1153]), (43, .iload_n 2, 1, (0, 0, 0, 0), []), (44, .iaload, 1, (0, 0, 0, 0), []), (45, .goto 22, 3, (0, 0, 0, 0), []), (48, .iload 5, 2, (0, 0, 0, 0), []), (50, .bipush 15, 2, (0, 0, 0, 0), []), (52, .if_icmp .ge 10, 3, (0, 0, 0, 0), []), (55, .iload 5, 2, (0, 0, 0, 0), []), (57, .iconst 1, 1, (0, 0, 0, 0), []), (58, .isub, 1, (0, 0, 0, 0), []), (59, .goto 8, 3, (0, 0, 0, 0), []), (62, .iload 5, 2, (0, 0, 0, 0), [])]
def mc_X11_down_2 : List ax_EN := [(64, .bipush 15, 2, (0, 0, 0, 0), []), (66, .isub, 1, (0, 0, 0, 0), []), (67, .iastore, 1, (0, 0, 0, 0), []), (68, .aload_n 0, 1, (0, 0, 0, 0), []), (69, .iload_n 1, 1, (0, 0, 0, 0), []), (70, .iload_n 2, 1, (0, 0, 0, 0), []), (71, .iconst 1, 1, (0, 0, 0, 0), []), (72, .isub, 1, (0, 0, 0, 0), []), (73, .invokevirtual 184, 3, (3, 182, 11, 0), [1370, 85, 1368]), (76, .iload_n 2, 1, (0, 0, 0, 0), []), (77, .iconst 1, 1, (0, 0, 0, 0), []), (78, .isub, 1, (0, 0, 0, 0), []), (79, .ireturn, 1, (0, 0, 0, 0), [])]
def mt_X11_down : ax_MI := (RX11, yX11_down, cX11_down, 6, (some .int), 4, 0, 0, [mc_X11_down_0, mc_X11_down_1, mc_X11_down_2])
def mc_X11_open_0 : List ax_EN := [(0, .aload_n 0, 1, (0, 0, 0, 0), []), (1, .getfield 66, 3, (0, 11, 27, 0), [1151]), (4, .iload_n 2, 1, (0, 0, 0, 0), []), (5, .iload_n 2, 1, (0, 0, 0, 0), []), (6, .aload_n 0, 1, (0, 0, 0, 0), []), (7, .getfield 72, 3, (0, 11, 29, 0), [1153]), (10, .iload_n 2, 1, (0, 0, 0, 0), []), (11, .iaload, 1, (0, 0, 0, 0), []), (12, .if_icmp .ge 17, 3, (0, 0, 0, 0), []), (15, .aload_n 0, 1, (0, 0, 0, 0), []), (16, .getfield 24, 3, (0, 11, 5, 0), [1129]), (19, .bipush 14, 2, (0, 0, 0, 0), []), (21, .iload_n 1, 1, (0, 0, 0, 0), []), (22, .imul, 1, (0, 0, 0, 0), []), (23, .iload_n 2, 1, (0, 0, 0, 0), []), (24, .iadd, 1, (0, 0, 0, 0), []), (25, .iaload, 1, (0, 0, 0, 0), []), (26, .goto 4, 3, (0, 0, 0, 0), []), (29, .iconst 0, 1, (0, 0, 0, 0), []), (30, .iastore, 1, (0, 0, 0, 0), []), (31, .aload_n 0, 1, (0, 0, 0, 0), [])]
def mc_X11_open_1 : List ax_EN := [(32, .getfield 69, 3, (0, 11, 28, 0), [1152]), (35, .iload_n 2, 1, (0, 0, 0, 0), []), (36, .iconst 0, 1, (0, 0, 0, 0), []), (37, .iastore, 1, (0, 0, 0, 0), []), (38, .return_, 1, (0, 0, 0, 0), [])]
def mt_X11_open : ax_MI := (RX11, yX11_open, cX11_open, 3, none, 2, 0, 0, [mc_X11_open_0, mc_X11_open_1])
def mc_X11_noteOne_0 : List ax_EN := [(0, .iload_n 2, 1, (0, 0, 0, 0), []), (1, .ifCond .le 46, 3, (0, 0, 0, 0), []), (4, .iload_n 1, 1, (0, 0, 0, 0), []), (5, .iconst (-1), 1, (0, 0, 0, 0), []), (6, .if_icmp .ne 14, 3, (0, 0, 0, 0), []), (9, .iload_n 2, 1, (0, 0, 0, 0), []), (10, .aload_n 0, 1, (0, 0, 0, 0), []), (11, .getfield 181, 3, (0, 11, 36, 0), [1160]), (14, .if_icmp .ge 23, 3, (0, 0, 0, 0), []), (17, .goto 11, 3, (0, 0, 0, 0), []), (20, .aload_n 0, 1, (0, 0, 0, 0), []), (21, .getfield 178, 3, (0, 11, 35, 0), [1159]), (24, .iload_n 1, 1, (0, 0, 0, 0), []), (25, .if_icmp .ne 12, 3, (0, 0, 0, 0), []), (28, .aload_n 0, 1, (0, 0, 0, 0), []), (29, .iload_n 2, 1, (0, 0, 0, 0), []), (30, .putfield 181, 3, (0, 11, 36, 0), [1160])]
def mc_X11_noteOne_1 : List ax_EN := [(33, .aload_n 0, 1, (0, 0, 0, 0), []), (34, .invokevirtual 207, 3, (3, 184, 11, 0), [1397, 91, 1395]), (37, .aload_n 0, 1, (0, 0, 0, 0), []), (38, .dup, 1, (0, 0, 0, 0), []), (39, .getfield 178, 3, (0, 11, 35, 0), [1159]), (42, .iconst 1, 1, (0, 0, 0, 0), []), (43, .iadd, 1, (0, 0, 0, 0), []), (44, .putfield 178, 3, (0, 11, 35, 0), [1159]), (47, .return_, 1, (0, 0, 0, 0), [])]
def mt_X11_noteOne : ax_MI := (RX11, yX11_noteOne, cX11_noteOne, 3, none, 2, 0, 0, [mc_X11_noteOne_0, mc_X11_noteOne_1])
def mc_X11_layRow_0 : List ax_EN := [(0, .iconst 0, 1, (0, 0, 0, 0), []), (1, .istore_n 1, 1, (0, 0, 0, 0), []), (2, .bipush 13, 2, (0, 0, 0, 0), []), (4, .istore_n 2, 1, (0, 0, 0, 0), []), (5, .iload_n 2, 1, (0, 0, 0, 0), []), (6, .ifCond .lt 113, 3, (0, 0, 0, 0), []), (9, .iconst 0, 1, (0, 0, 0, 0), []), (10, .istore_n 3, 1, (0, 0, 0, 0), []), (11, .iload_n 3, 1, (0, 0, 0, 0), []), (12, .aload_n 0, 1, (0, 0, 0, 0), []), (13, .getfield 66, 3, (0, 11, 27, 0), [1151]), (16, .iload_n 2, 1, (0, 0, 0, 0), []), (17, .iaload, 1, (0, 0, 0, 0), []), (18, .if_icmp .ge 23, 3, (0, 0, 0, 0), []), (21, .aload_n 0, 1, (0, 0, 0, 0), []), (22, .getfield 36, 3, (0, 11, 9, 0), [1133]), (25, .sipush 288, 3, (0, 0, 0, 0), []), (28, .iload_n 1, 1, (0, 0, 0, 0), []), (29, .iadd, 1, (0, 0, 0, 0), []), (30, .iload_n 2, 1, (0, 0, 0, 0), []), (31, .iastore, 1, (0, 0, 0, 0), [])]
def mc_X11_layRow_1 : List ax_EN := [(32, .iinc 1 1, 3, (0, 0, 0, 0), []), (35, .iinc 3 1, 3, (0, 0, 0, 0), []), (38, .goto (-27), 3, (0, 0, 0, 0), []), (41, .aload_n 0, 1, (0, 0, 0, 0), []), (42, .getfield 69, 3, (0, 11, 28, 0), [1152]), (45, .iload_n 2, 1, (0, 0, 0, 0), []), (46, .iaload, 1, (0, 0, 0, 0), []), (47, .istore_n 3, 1, (0, 0, 0, 0), []), (48, .iconst 1, 1, (0, 0, 0, 0), []), (49, .istore 4, 2, (0, 0, 0, 0), []), (51, .iload 4, 2, (0, 0, 0, 0), []), (53, .iload_n 3, 1, (0, 0, 0, 0), []), (54, .invokestatic 194, 3, (3, 176, 0, 0), [1385, 1384]), (57, .if_icmp .ge 38, 3, (0, 0, 0, 0), []), (60, .aload_n 0, 1, (0, 0, 0, 0), []), (61, .getfield 36, 3, (0, 11, 9, 0), [1133])]
def mc_X11_layRow_2 : List ax_EN := [(64, .sipush 288, 3, (0, 0, 0, 0), []), (67, .iload_n 1, 1, (0, 0, 0, 0), []), (68, .iadd, 1, (0, 0, 0, 0), []), (69, .iload_n 3, 1, (0, 0, 0, 0), []), (70, .bipush 15, 2, (0, 0, 0, 0), []), (72, .if_icmp .ge 9, 3, (0, 0, 0, 0), []), (75, .iload_n 3, 1, (0, 0, 0, 0), []), (76, .iconst 1, 1, (0, 0, 0, 0), []), (77, .isub, 1, (0, 0, 0, 0), []), (78, .goto 7, 3, (0, 0, 0, 0), []), (81, .iload_n 3, 1, (0, 0, 0, 0), []), (82, .bipush 15, 2, (0, 0, 0, 0), []), (84, .isub, 1, (0, 0, 0, 0), []), (85, .iastore, 1, (0, 0, 0, 0), []), (86, .iinc 1 1, 3, (0, 0, 0, 0), []), (89, .iinc 4 1, 3, (0, 0, 0, 0), []), (92, .goto (-41), 3, (0, 0, 0, 0), []), (95, .iload_n 3, 1, (0, 0, 0, 0), [])]
def mc_X11_layRow_3 : List ax_EN := [(96, .ifCond .le 17, 3, (0, 0, 0, 0), []), (99, .aload_n 0, 1, (0, 0, 0, 0), []), (100, .getfield 36, 3, (0, 11, 9, 0), [1133]), (103, .sipush 288, 3, (0, 0, 0, 0), []), (106, .iload_n 1, 1, (0, 0, 0, 0), []), (107, .iadd, 1, (0, 0, 0, 0), []), (108, .iload_n 2, 1, (0, 0, 0, 0), []), (109, .iastore, 1, (0, 0, 0, 0), []), (110, .iinc 1 1, 3, (0, 0, 0, 0), []), (113, .iinc 2 (-1), 3, (0, 0, 0, 0), []), (116, .goto (-111), 3, (0, 0, 0, 0), []), (119, .aload_n 0, 1, (0, 0, 0, 0), []), (120, .getfield 33, 3, (0, 11, 8, 0), [1132]), (123, .bipush 12, 2, (0, 0, 0, 0), []), (125, .iload_n 1, 1, (0, 0, 0, 0), []), (126, .iastore, 1, (0, 0, 0, 0), []), (127, .return_, 1, (0, 0, 0, 0), [])]
def mt_X11_layRow : ax_MI := (RX11, yX11_layRow, cX11_layRow, 5, none, 0, 0, 0, [mc_X11_layRow_0, mc_X11_layRow_1, mc_X11_layRow_2, mc_X11_layRow_3])
def mc_X11_ways_0 : List ax_EN := [(0, .aload_n 0, 1, (0, 0, 0, 0), []), (1, .iload_n 1, 1, (0, 0, 0, 0), []), (2, .invokevirtual 138, 3, (3, 160, 11, 0), [1307, 78, 1305]), (5, .ifCond .ne 6, 3, (0, 0, 0, 0), []), (8, .bipush (-101), 2, (0, 0, 0, 0), []), (10, .ireturn, 1, (0, 0, 0, 0), []), (11, .iload_n 2, 1, (0, 0, 0, 0), []), (12, .iconst 1, 1, (0, 0, 0, 0), []), (13, .ldc 210, 2, (6, 0, 0, 9999999), [1356]), (15, .invokestatic 120, 3, (3, 152, 0, 0), [1291, 1290]), (18, .ifCond .ne 6, 3, (0, 0, 0, 0), []), (21, .bipush (-102), 2, (0, 0, 0, 0), []), (23, .ireturn, 1, (0, 0, 0, 0), []), (24, .aload_n 0, 1, (0, 0, 0, 0), []), (25, .getfield 211, 3, (0, 11, 23, 0), [1147]), (28, .bipush 40, 2, (0, 0, 0, 0), []), (30, .if_icmp .ne 6, 3, (0, 0, 0, 0), [])]
def mc_X11_ways_1 : List ax_EN := [(33, .bipush (-103), 2, (0, 0, 0, 0), []), (35, .ireturn, 1, (0, 0, 0, 0), []), (36, .aload_n 0, 1, (0, 0, 0, 0), []), (37, .dup, 1, (0, 0, 0, 0), []), (38, .getfield 211, 3, (0, 11, 23, 0), [1147]), (41, .iconst 1, 1, (0, 0, 0, 0), []), (42, .iadd, 1, (0, 0, 0, 0), []), (43, .putfield 211, 3, (0, 11, 23, 0), [1147]), (46, .aload_n 0, 1, (0, 0, 0, 0), []), (47, .iload_n 1, 1, (0, 0, 0, 0), []), (48, .iload_n 2, 1, (0, 0, 0, 0), []), (49, .sipush 5000, 3, (0, 0, 0, 0), []), (52, .invokevirtual 214, 3, (3, 180, 11, 0), [1359, 83, 1357]), (55, .aload_n 0, 1, (0, 0, 0, 0), []), (56, .getfield 178, 3, (0, 11, 35, 0), [1159]), (59, .ireturn, 1, (0, 0, 0, 0), [])]
def mt_X11_ways : ax_MI := (RX11, yX11_ways, cX11_ways, 3, (some .int), 2, 0, 0, [mc_X11_ways_0, mc_X11_ways_1])
def mc_X11_write_0 : List ax_EN := [(0, .iload_n 1, 1, (0, 0, 0, 0), []), (1, .invokestatic 142, 3, (3, 162, 0, 0), [1314, 1313]), (4, .ifCond .eq 11, 3, (0, 0, 0, 0), []), (7, .aload_n 0, 1, (0, 0, 0, 0), []), (8, .iload_n 2, 1, (0, 0, 0, 0), []), (9, .invokevirtual 138, 3, (3, 160, 11, 0), [1307, 78, 1305]), (12, .ifCond .ne 6, 3, (0, 0, 0, 0), []), (15, .bipush (-101), 2, (0, 0, 0, 0), []), (17, .ireturn, 1, (0, 0, 0, 0), []), (18, .iload_n 3, 1, (0, 0, 0, 0), []), (19, .iconst 1, 1, (0, 0, 0, 0), []), (20, .ldc 210, 2, (6, 0, 0, 9999999), [1356]), (22, .invokestatic 120, 3, (3, 152, 0, 0), [1291, 1290]), (25, .ifCond .eq 15, 3, (0, 0, 0, 0), []), (28, .iload 4, 2, (0, 0, 0, 0), []), (30, .iconst (-1), 1, (0, 0, 0, 0), []), (31, .sipush 4999, 3, (0, 0, 0, 0), [])]
def mc_X11_write_1 : List ax_EN := [(34, .invokestatic 120, 3, (3, 152, 0, 0), [1291, 1290]), (37, .ifCond .ne 6, 3, (0, 0, 0, 0), []), (40, .bipush (-102), 2, (0, 0, 0, 0), []), (42, .ireturn, 1, (0, 0, 0, 0), []), (43, .aload_n 0, 1, (0, 0, 0, 0), []), (44, .getfield 211, 3, (0, 11, 23, 0), [1147]), (47, .bipush 40, 2, (0, 0, 0, 0), []), (49, .if_icmp .ne 6, 3, (0, 0, 0, 0), []), (52, .bipush (-103), 2, (0, 0, 0, 0), []), (54, .ireturn, 1, (0, 0, 0, 0), []), (55, .aload_n 0, 1, (0, 0, 0, 0), []), (56, .dup, 1, (0, 0, 0, 0), []), (57, .getfield 211, 3, (0, 11, 23, 0), [1147]), (60, .iconst 1, 1, (0, 0, 0, 0), []), (61, .iadd, 1, (0, 0, 0, 0), []), (62, .putfield 211, 3, (0, 11, 23, 0), [1147])]
def mc_X11_write_2 : List ax_EN := [(65, .aload_n 0, 1, (0, 0, 0, 0), []), (66, .iload_n 2, 1, (0, 0, 0, 0), []), (67, .iload_n 3, 1, (0, 0, 0, 0), []), (68, .iload 4, 2, (0, 0, 0, 0), []), (70, .invokevirtual 214, 3, (3, 180, 11, 0), [1359, 83, 1357]), (73, .aload_n 0, 1, (0, 0, 0, 0), []), (74, .getfield 33, 3, (0, 11, 8, 0), [1132]), (77, .bipush 12, 2, (0, 0, 0, 0), []), (79, .iaload, 1, (0, 0, 0, 0), []), (80, .ifCond .le 60, 3, (0, 0, 0, 0), []), (83, .aload_n 0, 1, (0, 0, 0, 0), []), (84, .getfield 33, 3, (0, 11, 8, 0), [1132]), (87, .iload_n 1, 1, (0, 0, 0, 0), []), (88, .aload_n 0, 1, (0, 0, 0, 0), []), (89, .getfield 33, 3, (0, 11, 8, 0), [1132]), (92, .bipush 12, 2, (0, 0, 0, 0), []), (94, .iaload, 1, (0, 0, 0, 0), []), (95, .iastore, 1, (0, 0, 0, 0), [])]
def mc_X11_write_3 : List ax_EN := [(96, .iconst 0, 1, (0, 0, 0, 0), []), (97, .istore 5, 2, (0, 0, 0, 0), []), (99, .iload 5, 2, (0, 0, 0, 0), []), (101, .aload_n 0, 1, (0, 0, 0, 0), []), (102, .getfield 33, 3, (0, 11, 8, 0), [1132]), (105, .bipush 12, 2, (0, 0, 0, 0), []), (107, .iaload, 1, (0, 0, 0, 0), []), (108, .if_icmp .ge 32, 3, (0, 0, 0, 0), []), (111, .aload_n 0, 1, (0, 0, 0, 0), []), (112, .getfield 36, 3, (0, 11, 9, 0), [1133]), (115, .bipush 24, 2, (0, 0, 0, 0), []), (117, .iload_n 1, 1, (0, 0, 0, 0), []), (118, .imul, 1, (0, 0, 0, 0), []), (119, .iload 5, 2, (0, 0, 0, 0), []), (121, .iadd, 1, (0, 0, 0, 0), []), (122, .aload_n 0, 1, (0, 0, 0, 0), []), (123, .getfield 36, 3, (0, 11, 9, 0), [1133]), (126, .sipush 288, 3, (0, 0, 0, 0), [])]
def mc_X11_write_4 : List ax_EN := [(129, .iload 5, 2, (0, 0, 0, 0), []), (131, .iadd, 1, (0, 0, 0, 0), []), (132, .iaload, 1, (0, 0, 0, 0), []), (133, .iastore, 1, (0, 0, 0, 0), []), (134, .iinc 5 1, 3, (0, 0, 0, 0), []), (137, .goto (-38), 3, (0, 0, 0, 0), []), (140, .aload_n 0, 1, (0, 0, 0, 0), []), (141, .getfield 33, 3, (0, 11, 8, 0), [1132]), (144, .bipush 12, 2, (0, 0, 0, 0), []), (146, .iaload, 1, (0, 0, 0, 0), []), (147, .ireturn, 1, (0, 0, 0, 0), [])]
def mt_X11_write : ax_MI := (RX11, yX11_write, cX11_write, 6, (some .int), 4, 0, 0, [mc_X11_write_0, mc_X11_write_1, mc_X11_write_2, mc_X11_write_3, mc_X11_write_4])
def mc_X11_board_0 : List ax_EN := [(0, .iload_n 1, 1, (0, 0, 0, 0), []), (1, .iconst 0, 1, (0, 0, 0, 0), []), (2, .bipush 6, 2, (0, 0, 0, 0), []), (4, .invokestatic 120, 3, (3, 152, 0, 0), [1291, 1290]), (7, .ifCond .ne 6, 3, (0, 0, 0, 0), []), (10, .bipush (-101), 2, (0, 0, 0, 0), []), (12, .ireturn, 1, (0, 0, 0, 0), []), (13, .iload_n 2, 1, (0, 0, 0, 0), []), (14, .ifCond .ne 12, 3, (0, 0, 0, 0), []), (17, .aload_n 0, 1, (0, 0, 0, 0), []), (18, .getfield 39, 3, (0, 11, 10, 0), [1134]), (21, .iload_n 1, 1, (0, 0, 0, 0), []), (22, .iaload, 1, (0, 0, 0, 0), []), (23, .goto 19, 3, (0, 0, 0, 0), []), (26, .iload_n 2, 1, (0, 0, 0, 0), []), (27, .iconst 1, 1, (0, 0, 0, 0), []), (28, .if_icmp .ne 12, 3, (0, 0, 0, 0), []), (31, .aload_n 0, 1, (0, 0, 0, 0), [])]
def mc_X11_board_1 : List ax_EN := [(32, .getfield 42, 3, (0, 11, 11, 0), [1135]), (35, .iload_n 1, 1, (0, 0, 0, 0), []), (36, .iaload, 1, (0, 0, 0, 0), []), (37, .goto 5, 3, (0, 0, 0, 0), []), (40, .bipush (-102), 2, (0, 0, 0, 0), []), (42, .ireturn, 1, (0, 0, 0, 0), [])]
def mt_X11_board : ax_MI := (RX11, yX11_board, cX11_board, 3, (some .int), 2, 0, 0, [mc_X11_board_0, mc_X11_board_1])
def mc_X11_onBoard_0 : List ax_EN := [(0, .iconst 0, 1, (0, 0, 0, 0), []), (1, .istore_n 1, 1, (0, 0, 0, 0), []), (2, .iconst 0, 1, (0, 0, 0, 0), []), (3, .istore_n 2, 1, (0, 0, 0, 0), []), (4, .iload_n 2, 1, (0, 0, 0, 0), []), (5, .bipush 7, 2, (0, 0, 0, 0), []), (7, .if_icmp .ge 25, 3, (0, 0, 0, 0), []), (10, .iload_n 1, 1, (0, 0, 0, 0), []), (11, .aload_n 0, 1, (0, 0, 0, 0), []), (12, .getfield 39, 3, (0, 11, 10, 0), [1134]), (15, .iload_n 2, 1, (0, 0, 0, 0), []), (16, .iaload, 1, (0, 0, 0, 0), []), (17, .aload_n 0, 1, (0, 0, 0, 0), []), (18, .getfield 42, 3, (0, 11, 11, 0), [1135]), (21, .iload_n 2, 1, (0, 0, 0, 0), []), (22, .iaload, 1, (0, 0, 0, 0), []), (23, .iadd, 1, (0, 0, 0, 0), []), (24, .iadd, 1, (0, 0, 0, 0), []), (25, .istore_n 1, 1, (0, 0, 0, 0), []), (26, .iinc 2 1, 3, (0, 0, 0, 0), []), (29, .goto (-25), 3, (0, 0, 0, 0), [])]
def mc_X11_onBoard_1 : List ax_EN := [(32, .iload_n 1, 1, (0, 0, 0, 0), []), (33, .ireturn, 1, (0, 0, 0, 0), [])]
def mt_X11_onBoard : ax_MI := (RX11, yX11_onBoard, cX11_onBoard, 3, (some .int), 0, 0, 0, [mc_X11_onBoard_0, mc_X11_onBoard_1])
def mc_X11_pour_0 : List ax_EN := [(0, .iload_n 1, 1, (0, 0, 0, 0), []), (1, .invokestatic 142, 3, (3, 162, 0, 0), [1314, 1313]), (4, .ifCond .ne 6, 3, (0, 0, 0, 0), []), (7, .bipush (-101), 2, (0, 0, 0, 0), []), (9, .ireturn, 1, (0, 0, 0, 0), []), (10, .iconst 0, 1, (0, 0, 0, 0), []), (11, .istore_n 3, 1, (0, 0, 0, 0), []), (12, .iload_n 3, 1, (0, 0, 0, 0), []), (13, .aload_n 0, 1, (0, 0, 0, 0), []), (14, .getfield 33, 3, (0, 11, 8, 0), [1132]), (17, .iload_n 1, 1, (0, 0, 0, 0), []), (18, .iaload, 1, (0, 0, 0, 0), []), (19, .if_icmp .ge 28, 3, (0, 0, 0, 0), []), (22, .aload_n 0, 1, (0, 0, 0, 0), []), (23, .getfield 36, 3, (0, 11, 9, 0), [1133]), (26, .bipush 24, 2, (0, 0, 0, 0), []), (28, .iload_n 1, 1, (0, 0, 0, 0), []), (29, .imul, 1, (0, 0, 0, 0), []), (30, .iload_n 3, 1, (0, 0, 0, 0), []), (31, .iadd, 1, (0, 0, 0, 0), [])]
def mc_X11_pour_1 : List ax_EN := [(32, .iaload, 1, (0, 0, 0, 0), []), (33, .bipush 6, 2, (0, 0, 0, 0), []), (35, .if_icmp .le 6, 3, (0, 0, 0, 0), []), (38, .bipush (-102), 2, (0, 0, 0, 0), []), (40, .ireturn, 1, (0, 0, 0, 0), []), (41, .iinc 3 1, 3, (0, 0, 0, 0), []), (44, .goto (-32), 3, (0, 0, 0, 0), []), (47, .iconst 1, 1, (0, 0, 0, 0), []), (48, .istore_n 3, 1, (0, 0, 0, 0), []), (49, .iconst 0, 1, (0, 0, 0, 0), []), (50, .istore 4, 2, (0, 0, 0, 0), []), (52, .iload 4, 2, (0, 0, 0, 0), []), (54, .bipush 7, 2, (0, 0, 0, 0), []), (56, .if_icmp .ge 69, 3, (0, 0, 0, 0), []), (59, .iload_n 3, 1, (0, 0, 0, 0), []), (60, .ifCond .eq 57, 3, (0, 0, 0, 0), []), (63, .aload_n 0, 1, (0, 0, 0, 0), [])]
def mc_X11_pour_2 : List ax_EN := [(64, .getfield 39, 3, (0, 11, 10, 0), [1134]), (67, .iload 4, 2, (0, 0, 0, 0), []), (69, .iaload, 1, (0, 0, 0, 0), []), (70, .aload_n 0, 1, (0, 0, 0, 0), []), (71, .iload_n 1, 1, (0, 0, 0, 0), []), (72, .iload 4, 2, (0, 0, 0, 0), []), (74, .iload_n 2, 1, (0, 0, 0, 0), []), (75, .ifCond .ne 7, 3, (0, 0, 0, 0), []), (78, .iconst 1, 1, (0, 0, 0, 0), []), (79, .goto 4, 3, (0, 0, 0, 0), []), (82, .iconst 0, 1, (0, 0, 0, 0), []), (83, .invokevirtual 218, 3, (3, 190, 11, 0), [1417, 93, 1415]), (86, .iadd, 1, (0, 0, 0, 0), []), (87, .bipush 99, 2, (0, 0, 0, 0), []), (89, .if_icmp .gt 28, 3, (0, 0, 0, 0), []), (92, .aload_n 0, 1, (0, 0, 0, 0), []), (93, .getfield 42, 3, (0, 11, 11, 0), [1135])]
def mc_X11_pour_3 : List ax_EN := [(96, .iload 4, 2, (0, 0, 0, 0), []), (98, .iaload, 1, (0, 0, 0, 0), []), (99, .aload_n 0, 1, (0, 0, 0, 0), []), (100, .iload_n 1, 1, (0, 0, 0, 0), []), (101, .iload 4, 2, (0, 0, 0, 0), []), (103, .iload_n 2, 1, (0, 0, 0, 0), []), (104, .invokevirtual 218, 3, (3, 190, 11, 0), [1417, 93, 1415]), (107, .iadd, 1, (0, 0, 0, 0), []), (108, .bipush 99, 2, (0, 0, 0, 0), []), (110, .if_icmp .gt 7, 3, (0, 0, 0, 0), []), (113, .iconst 1, 1, (0, 0, 0, 0), []), (114, .goto 4, 3, (0, 0, 0, 0), []), (117, .iconst 0, 1, (0, 0, 0, 0), []), (118, .istore_n 3, 1, (0, 0, 0, 0), []), (119, .iinc 4 1, 3, (0, 0, 0, 0), []), (122, .goto (-70), 3, (0, 0, 0, 0), []), (125, .iload_n 3, 1, (0, 0, 0, 0), []), (126, .ifCond .ne 6, 3, (0, 0, 0, 0), [])]
def mc_X11_pour_4 : List ax_EN := [(129, .bipush (-104), 2, (0, 0, 0, 0), []), (131, .ireturn, 1, (0, 0, 0, 0), []), (132, .iconst 0, 1, (0, 0, 0, 0), []), (133, .istore 4, 2, (0, 0, 0, 0), []), (135, .iload 4, 2, (0, 0, 0, 0), []), (137, .bipush 7, 2, (0, 0, 0, 0), []), (139, .if_icmp .ge 53, 3, (0, 0, 0, 0), []), (142, .aload_n 0, 1, (0, 0, 0, 0), []), (143, .getfield 39, 3, (0, 11, 10, 0), [1134]), (146, .iload 4, 2, (0, 0, 0, 0), []), (148, .dup2, 1, (0, 0, 0, 0), []), (149, .iaload, 1, (0, 0, 0, 0), []), (150, .aload_n 0, 1, (0, 0, 0, 0), []), (151, .iload_n 1, 1, (0, 0, 0, 0), []), (152, .iload 4, 2, (0, 0, 0, 0), []), (154, .iload_n 2, 1, (0, 0, 0, 0), []), (155, .ifCond .ne 7, 3, (0, 0, 0, 0), []), (158, .iconst 1, 1, (0, 0, 0, 0), []), (159, .goto 4, 3, (0, 0, 0, 0), [])]
def mc_X11_pour_5 : List ax_EN := [(162, .iconst 0, 1, (0, 0, 0, 0), []), (163, .invokevirtual 218, 3, (3, 190, 11, 0), [1417, 93, 1415]), (166, .iadd, 1, (0, 0, 0, 0), []), (167, .iastore, 1, (0, 0, 0, 0), []), (168, .aload_n 0, 1, (0, 0, 0, 0), []), (169, .getfield 42, 3, (0, 11, 11, 0), [1135]), (172, .iload 4, 2, (0, 0, 0, 0), []), (174, .dup2, 1, (0, 0, 0, 0), []), (175, .iaload, 1, (0, 0, 0, 0), []), (176, .aload_n 0, 1, (0, 0, 0, 0), []), (177, .iload_n 1, 1, (0, 0, 0, 0), []), (178, .iload 4, 2, (0, 0, 0, 0), []), (180, .iload_n 2, 1, (0, 0, 0, 0), []), (181, .invokevirtual 218, 3, (3, 190, 11, 0), [1417, 93, 1415]), (184, .iadd, 1, (0, 0, 0, 0), []), (185, .iastore, 1, (0, 0, 0, 0), []), (186, .iinc 4 1, 3, (0, 0, 0, 0), []), (189, .goto (-54), 3, (0, 0, 0, 0), [])]
def mc_X11_pour_6 : List ax_EN := [(192, .aload_n 0, 1, (0, 0, 0, 0), []), (193, .invokevirtual 222, 3, (3, 188, 11, 0), [1421, 94, 1419]), (196, .ireturn, 1, (0, 0, 0, 0), [])]
def mt_X11_pour : ax_MI := (RX11, yX11_pour, cX11_pour, 5, (some .int), 2, 0, 0, [mc_X11_pour_0, mc_X11_pour_1, mc_X11_pour_2, mc_X11_pour_3, mc_X11_pour_4, mc_X11_pour_5, mc_X11_pour_6])
def mc_X11_poured_0 : List ax_EN := [(0, .iconst 0, 1, (0, 0, 0, 0), []), (1, .istore 4, 2, (0, 0, 0, 0), []), (3, .iconst 0, 1, (0, 0, 0, 0), []), (4, .istore 5, 2, (0, 0, 0, 0), []), (6, .iload 5, 2, (0, 0, 0, 0), []), (8, .aload_n 0, 1, (0, 0, 0, 0), []), (9, .getfield 33, 3, (0, 11, 8, 0), [1132]), (12, .iload_n 1, 1, (0, 0, 0, 0), []), (13, .iaload, 1, (0, 0, 0, 0), []), (14, .if_icmp .ge 58, 3, (0, 0, 0, 0), []), (17, .iload 4, 2, (0, 0, 0, 0), []), (19, .aload_n 0, 1, (0, 0, 0, 0), []), (20, .getfield 36, 3, (0, 11, 9, 0), [1133]), (23, .bipush 24, 2, (0, 0, 0, 0), []), (25, .iload_n 1, 1, (0, 0, 0, 0), []), (26, .imul, 1, (0, 0, 0, 0), []), (27, .iload 5, 2, (0, 0, 0, 0), []), (29, .iadd, 1, (0, 0, 0, 0), []), (30, .iaload, 1, (0, 0, 0, 0), []), (31, .iload_n 2, 1, (0, 0, 0, 0), [])]
def mc_X11_poured_1 : List ax_EN := [(32, .if_icmp .ne 30, 3, (0, 0, 0, 0), []), (35, .aload_n 0, 1, (0, 0, 0, 0), []), (36, .getfield 36, 3, (0, 11, 9, 0), [1133]), (39, .bipush 24, 2, (0, 0, 0, 0), []), (41, .iload_n 1, 1, (0, 0, 0, 0), []), (42, .imul, 1, (0, 0, 0, 0), []), (43, .aload_n 0, 1, (0, 0, 0, 0), []), (44, .getfield 33, 3, (0, 11, 8, 0), [1132]), (47, .iload_n 1, 1, (0, 0, 0, 0), []), (48, .iaload, 1, (0, 0, 0, 0), []), (49, .iload 5, 2, (0, 0, 0, 0), []), (51, .invokestatic 145, 3, (3, 165, 0, 0), [1329, 1328]), (54, .iload_n 3, 1, (0, 0, 0, 0), []), (55, .if_icmp .ne 7, 3, (0, 0, 0, 0), []), (58, .iconst 1, 1, (0, 0, 0, 0), []), (59, .goto 4, 3, (0, 0, 0, 0), []), (62, .iconst 0, 1, (0, 0, 0, 0), []), (63, .iadd, 1, (0, 0, 0, 0), [])]
def mc_X11_poured_2 : List ax_EN := [(64, .istore 4, 2, (0, 0, 0, 0), []), (66, .iinc 5 1, 3, (0, 0, 0, 0), []), (69, .goto (-63), 3, (0, 0, 0, 0), []), (72, .iload 4, 2, (0, 0, 0, 0), []), (74, .ireturn, 1, (0, 0, 0, 0), [])]
def mt_X11_poured : ax_MI := (RX11, yX11_poured, cX11_poured, 6, (some .int), 3, 0, 0, [mc_X11_poured_0, mc_X11_poured_1, mc_X11_poured_2])
def mc_X11_bundleOf_0 : List ax_EN := [(0, .iload_n 0, 1, (0, 0, 0, 0), []), (1, .iconst 2, 1, (0, 0, 0, 0), []), (2, .irem, 1, (0, 0, 0, 0), []), (3, .ifCond .ne 7, 3, (0, 0, 0, 0), []), (6, .iconst 5, 1, (0, 0, 0, 0), []), (7, .goto 4, 3, (0, 0, 0, 0), []), (10, .iconst 2, 1, (0, 0, 0, 0), []), (11, .ireturn, 1, (0, 0, 0, 0), [])]
def mt_X11_bundleOf : ax_MI := (RX11, yX11_bundleOf, cX11_bundleOf, 1, (some .int), 1, 0, 0, [mc_X11_bundleOf_0])
def mc_X11_bundle_0 : List ax_EN := [(0, .iload_n 1, 1, (0, 0, 0, 0), []), (1, .iconst 0, 1, (0, 0, 0, 0), []), (2, .iconst 5, 1, (0, 0, 0, 0), []), (3, .invokestatic 120, 3, (3, 152, 0, 0), [1291, 1290]), (6, .ifCond .ne 6, 3, (0, 0, 0, 0), []), (9, .bipush (-101), 2, (0, 0, 0, 0), []), (11, .ireturn, 1, (0, 0, 0, 0), []), (12, .aload_n 0, 1, (0, 0, 0, 0), []), (13, .getfield 39, 3, (0, 11, 10, 0), [1134]), (16, .iload_n 1, 1, (0, 0, 0, 0), []), (17, .iaload, 1, (0, 0, 0, 0), []), (18, .iload_n 1, 1, (0, 0, 0, 0), []), (19, .invokestatic 226, 3, (3, 191, 0, 0), [1428, 1427]), (22, .if_icmp .ge 6, 3, (0, 0, 0, 0), []), (25, .bipush (-103), 2, (0, 0, 0, 0), []), (27, .ireturn, 1, (0, 0, 0, 0), []), (28, .aload_n 0, 1, (0, 0, 0, 0), []), (29, .getfield 39, 3, (0, 11, 10, 0), [1134])]
def mc_X11_bundle_1 : List ax_EN := [(32, .iload_n 1, 1, (0, 0, 0, 0), []), (33, .iconst 1, 1, (0, 0, 0, 0), []), (34, .iadd, 1, (0, 0, 0, 0), []), (35, .iaload, 1, (0, 0, 0, 0), []), (36, .bipush 99, 2, (0, 0, 0, 0), []), (38, .if_icmp .ne 6, 3, (0, 0, 0, 0), []), (41, .bipush (-104), 2, (0, 0, 0, 0), []), (43, .ireturn, 1, (0, 0, 0, 0), []), (44, .aload_n 0, 1, (0, 0, 0, 0), []), (45, .getfield 39, 3, (0, 11, 10, 0), [1134]), (48, .iload_n 1, 1, (0, 0, 0, 0), []), (49, .dup2, 1, (0, 0, 0, 0), []), (50, .iaload, 1, (0, 0, 0, 0), []), (51, .iload_n 1, 1, (0, 0, 0, 0), []), (52, .invokestatic 226, 3, (3, 191, 0, 0), [1428, 1427]), (55, .isub, 1, (0, 0, 0, 0), []), (56, .iastore, 1, (0, 0, 0, 0), []), (57, .aload_n 0, 1, (0, 0, 0, 0), []), (58, .getfield 39, 3, (0, 11, 10, 0), [1134]), (61, .iload_n 1, 1, (0, 0, 0, 0), []), (62, .iconst 1, 1, (0, 0, 0, 0), []), (63, .iadd, 1, (0, 0, 0, 0), [])]
def mc_X11_bundle_2 : List ax_EN := [(64, .dup2, 1, (0, 0, 0, 0), []), (65, .iaload, 1, (0, 0, 0, 0), []), (66, .iconst 1, 1, (0, 0, 0, 0), []), (67, .iadd, 1, (0, 0, 0, 0), []), (68, .iastore, 1, (0, 0, 0, 0), []), (69, .aload_n 0, 1, (0, 0, 0, 0), []), (70, .getfield 39, 3, (0, 11, 10, 0), [1134]), (73, .iload_n 1, 1, (0, 0, 0, 0), []), (74, .iconst 1, 1, (0, 0, 0, 0), []), (75, .iadd, 1, (0, 0, 0, 0), []), (76, .iaload, 1, (0, 0, 0, 0), []), (77, .ireturn, 1, (0, 0, 0, 0), [])]
def mt_X11_bundle : ax_MI := (RX11, yX11_bundle, cX11_bundle, 2, (some .int), 1, 0, 0, [mc_X11_bundle_0, mc_X11_bundle_1, mc_X11_bundle_2])
def mc_X11_unbundle_0 : List ax_EN := [(0, .iload_n 1, 1, (0, 0, 0, 0), []), (1, .iconst 1, 1, (0, 0, 0, 0), []), (2, .bipush 6, 2, (0, 0, 0, 0), []), (4, .invokestatic 120, 3, (3, 152, 0, 0), [1291, 1290]), (7, .ifCond .ne 6, 3, (0, 0, 0, 0), []), (10, .bipush (-101), 2, (0, 0, 0, 0), []), (12, .ireturn, 1, (0, 0, 0, 0), []), (13, .aload_n 0, 1, (0, 0, 0, 0), []), (14, .getfield 39, 3, (0, 11, 10, 0), [1134]), (17, .iload_n 1, 1, (0, 0, 0, 0), []), (18, .iaload, 1, (0, 0, 0, 0), []), (19, .ifCond .ne 6, 3, (0, 0, 0, 0), []), (22, .bipush (-103), 2, (0, 0, 0, 0), []), (24, .ireturn, 1, (0, 0, 0, 0), []), (25, .aload_n 0, 1, (0, 0, 0, 0), []), (26, .getfield 39, 3, (0, 11, 10, 0), [1134]), (29, .iload_n 1, 1, (0, 0, 0, 0), []), (30, .iconst 1, 1, (0, 0, 0, 0), []), (31, .isub, 1, (0, 0, 0, 0), [])]
def mc_X11_unbundle_1 : List ax_EN := [(32, .iaload, 1, (0, 0, 0, 0), []), (33, .iload_n 1, 1, (0, 0, 0, 0), []), (34, .iconst 1, 1, (0, 0, 0, 0), []), (35, .isub, 1, (0, 0, 0, 0), []), (36, .invokestatic 226, 3, (3, 191, 0, 0), [1428, 1427]), (39, .iadd, 1, (0, 0, 0, 0), []), (40, .bipush 99, 2, (0, 0, 0, 0), []), (42, .if_icmp .le 6, 3, (0, 0, 0, 0), []), (45, .bipush (-104), 2, (0, 0, 0, 0), []), (47, .ireturn, 1, (0, 0, 0, 0), []), (48, .aload_n 0, 1, (0, 0, 0, 0), []), (49, .getfield 39, 3, (0, 11, 10, 0), [1134]), (52, .iload_n 1, 1, (0, 0, 0, 0), []), (53, .dup2, 1, (0, 0, 0, 0), []), (54, .iaload, 1, (0, 0, 0, 0), []), (55, .iconst 1, 1, (0, 0, 0, 0), []), (56, .isub, 1, (0, 0, 0, 0), []), (57, .iastore, 1, (0, 0, 0, 0), []), (58, .aload_n 0, 1, (0, 0, 0, 0), []), (59, .getfield 39, 3, (0, 11, 10, 0), [1134]), (62, .iload_n 1, 1, (0, 0, 0, 0), []), (63, .iconst 1, 1, (0, 0, 0, 0), [])]
def mc_X11_unbundle_2 : List ax_EN := [(64, .isub, 1, (0, 0, 0, 0), []), (65, .dup2, 1, (0, 0, 0, 0), []), (66, .iaload, 1, (0, 0, 0, 0), []), (67, .iload_n 1, 1, (0, 0, 0, 0), []), (68, .iconst 1, 1, (0, 0, 0, 0), []), (69, .isub, 1, (0, 0, 0, 0), []), (70, .invokestatic 226, 3, (3, 191, 0, 0), [1428, 1427]), (73, .iadd, 1, (0, 0, 0, 0), []), (74, .iastore, 1, (0, 0, 0, 0), []), (75, .aload_n 0, 1, (0, 0, 0, 0), []), (76, .getfield 39, 3, (0, 11, 10, 0), [1134]), (79, .iload_n 1, 1, (0, 0, 0, 0), []), (80, .iconst 1, 1, (0, 0, 0, 0), []), (81, .isub, 1, (0, 0, 0, 0), []), (82, .iaload, 1, (0, 0, 0, 0), []), (83, .ireturn, 1, (0, 0, 0, 0), [])]
def mt_X11_unbundle : ax_MI := (RX11, yX11_unbundle, cX11_unbundle, 2, (some .int), 1, 0, 0, [mc_X11_unbundle_0, mc_X11_unbundle_1, mc_X11_unbundle_2])
def mc_X11_firstStep_0 : List ax_EN := [(0, .iconst (-1), 1, (0, 0, 0, 0), []), (1, .istore_n 1, 1, (0, 0, 0, 0), []), (2, .bipush 6, 2, (0, 0, 0, 0), []), (4, .istore_n 2, 1, (0, 0, 0, 0), []), (5, .iload_n 2, 1, (0, 0, 0, 0), []), (6, .ifCond .lt 24, 3, (0, 0, 0, 0), []), (9, .aload_n 0, 1, (0, 0, 0, 0), []), (10, .getfield 42, 3, (0, 11, 11, 0), [1135]), (13, .iload_n 2, 1, (0, 0, 0, 0), []), (14, .iaload, 1, (0, 0, 0, 0), []), (15, .ifCond .le 7, 3, (0, 0, 0, 0), []), (18, .iload_n 2, 1, (0, 0, 0, 0), []), (19, .goto 4, 3, (0, 0, 0, 0), []), (22, .iload_n 1, 1, (0, 0, 0, 0), []), (23, .istore_n 1, 1, (0, 0, 0, 0), []), (24, .iinc 2 (-1), 3, (0, 0, 0, 0), []), (27, .goto (-22), 3, (0, 0, 0, 0), []), (30, .iconst 0, 1, (0, 0, 0, 0), []), (31, .istore_n 2, 1, (0, 0, 0, 0), [])]
def mc_X11_firstStep_1 : List ax_EN := [(32, .iload_n 2, 1, (0, 0, 0, 0), []), (33, .bipush 7, 2, (0, 0, 0, 0), []), (35, .if_icmp .ge 29, 3, (0, 0, 0, 0), []), (38, .aload_n 0, 1, (0, 0, 0, 0), []), (39, .getfield 39, 3, (0, 11, 10, 0), [1134]), (42, .iload_n 2, 1, (0, 0, 0, 0), []), (43, .iaload, 1, (0, 0, 0, 0), []), (44, .ifCond .le 14, 3, (0, 0, 0, 0), []), (47, .aload_n 0, 1, (0, 0, 0, 0), []), (48, .getfield 42, 3, (0, 11, 11, 0), [1135]), (51, .iload_n 2, 1, (0, 0, 0, 0), []), (52, .iaload, 1, (0, 0, 0, 0), []), (53, .ifCond .le 5, 3, (0, 0, 0, 0), []), (56, .iload_n 2, 1, (0, 0, 0, 0), []), (57, .ireturn, 1, (0, 0, 0, 0), []), (58, .iinc 2 1, 3, (0, 0, 0, 0), []), (61, .goto (-29), 3, (0, 0, 0, 0), [])]
def mc_X11_firstStep_2 : List ax_EN := [(64, .iload_n 1, 1, (0, 0, 0, 0), []), (65, .iconst 1, 1, (0, 0, 0, 0), []), (66, .iadd, 1, (0, 0, 0, 0), []), (67, .istore_n 2, 1, (0, 0, 0, 0), []), (68, .iload_n 2, 1, (0, 0, 0, 0), []), (69, .bipush 7, 2, (0, 0, 0, 0), []), (71, .if_icmp .ge 28, 3, (0, 0, 0, 0), []), (74, .iload_n 1, 1, (0, 0, 0, 0), []), (75, .iconst (-1), 1, (0, 0, 0, 0), []), (76, .if_icmp .eq 23, 3, (0, 0, 0, 0), []), (79, .aload_n 0, 1, (0, 0, 0, 0), []), (80, .getfield 39, 3, (0, 11, 10, 0), [1134]), (83, .iload_n 2, 1, (0, 0, 0, 0), []), (84, .iaload, 1, (0, 0, 0, 0), []), (85, .ifCond .le 8, 3, (0, 0, 0, 0), []), (88, .bipush 10, 2, (0, 0, 0, 0), []), (90, .iload_n 2, 1, (0, 0, 0, 0), []), (91, .iadd, 1, (0, 0, 0, 0), []), (92, .ireturn, 1, (0, 0, 0, 0), []), (93, .iinc 2 1, 3, (0, 0, 0, 0), [])]
def mc_X11_firstStep_3 : List ax_EN := [(96, .goto (-28), 3, (0, 0, 0, 0), []), (99, .iconst 0, 1, (0, 0, 0, 0), []), (100, .istore_n 2, 1, (0, 0, 0, 0), []), (101, .iload_n 2, 1, (0, 0, 0, 0), []), (102, .bipush 6, 2, (0, 0, 0, 0), []), (104, .if_icmp .ge 27, 3, (0, 0, 0, 0), []), (107, .aload_n 0, 1, (0, 0, 0, 0), []), (108, .getfield 39, 3, (0, 11, 10, 0), [1134]), (111, .iload_n 2, 1, (0, 0, 0, 0), []), (112, .iaload, 1, (0, 0, 0, 0), []), (113, .iload_n 2, 1, (0, 0, 0, 0), []), (114, .invokestatic 226, 3, (3, 191, 0, 0), [1428, 1427]), (117, .if_icmp .lt 8, 3, (0, 0, 0, 0), []), (120, .bipush 20, 2, (0, 0, 0, 0), []), (122, .iload_n 2, 1, (0, 0, 0, 0), []), (123, .iadd, 1, (0, 0, 0, 0), []), (124, .ireturn, 1, (0, 0, 0, 0), []), (125, .iinc 2 1, 3, (0, 0, 0, 0), [])]
def mc_X11_firstStep_4 : List ax_EN := [(128, .goto (-27), 3, (0, 0, 0, 0), []), (131, .iconst (-1), 1, (0, 0, 0, 0), []), (132, .ireturn, 1, (0, 0, 0, 0), [])]
def mt_X11_firstStep : ax_MI := (RX11, yX11_firstStep, cX11_firstStep, 3, (some .int), 0, 0, 0, [mc_X11_firstStep_0, mc_X11_firstStep_1, mc_X11_firstStep_2, mc_X11_firstStep_3, mc_X11_firstStep_4])
def mc_X11_doStep_0 : List ax_EN := [(0, .iload_n 1, 1, (0, 0, 0, 0), []), (1, .bipush 10, 2, (0, 0, 0, 0), []), (3, .irem, 1, (0, 0, 0, 0), []), (4, .istore_n 2, 1, (0, 0, 0, 0), []), (5, .iload_n 1, 1, (0, 0, 0, 0), []), (6, .bipush 10, 2, (0, 0, 0, 0), []), (8, .if_icmp .ge 25, 3, (0, 0, 0, 0), []), (11, .aload_n 0, 1, (0, 0, 0, 0), []), (12, .getfield 39, 3, (0, 11, 10, 0), [1134]), (15, .iload_n 2, 1, (0, 0, 0, 0), []), (16, .dup2, 1, (0, 0, 0, 0), []), (17, .iaload, 1, (0, 0, 0, 0), []), (18, .iconst 1, 1, (0, 0, 0, 0), []), (19, .isub, 1, (0, 0, 0, 0), []), (20, .iastore, 1, (0, 0, 0, 0), []), (21, .aload_n 0, 1, (0, 0, 0, 0), []), (22, .getfield 42, 3, (0, 11, 11, 0), [1135]), (25, .iload_n 2, 1, (0, 0, 0, 0), []), (26, .dup2, 1, (0, 0, 0, 0), []), (27, .iaload, 1, (0, 0, 0, 0), []), (28, .iconst 1, 1, (0, 0, 0, 0), []), (29, .isub, 1, (0, 0, 0, 0), []), (30, .iastore, 1, (0, 0, 0, 0), []), (31, .iconst 1, 1, (0, 0, 0, 0), [])]
def mc_X11_doStep_1 : List ax_EN := [(32, .ireturn, 1, (0, 0, 0, 0), []), (33, .iload_n 1, 1, (0, 0, 0, 0), []), (34, .bipush 20, 2, (0, 0, 0, 0), []), (36, .if_icmp .ge 11, 3, (0, 0, 0, 0), []), (39, .aload_n 0, 1, (0, 0, 0, 0), []), (40, .iload_n 2, 1, (0, 0, 0, 0), []), (41, .invokevirtual 229, 3, (3, 193, 11, 0), [1431, 1432, 1446]), (44, .goto 8, 3, (0, 0, 0, 0), []), (47, .aload_n 0, 1, (0, 0, 0, 0), []), (48, .iload_n 2, 1, (0, 0, 0, 0), []), (49, .invokevirtual 232, 3, (3, 192, 11, 0), [1424, 1425, 1447]), (52, .ifCond .lt 7, 3, (0, 0, 0, 0), []), (55, .iconst 1, 1, (0, 0, 0, 0), []), (56, .goto 4, 3, (0, 0, 0, 0), []), (59, .iconst 0, 1, (0, 0, 0, 0), []), (60, .ireturn, 1, (0, 0, 0, 0), [])]
def mt_X11_doStep : ax_MI := (RX11, yX11_doStep, cX11_doStep, 3, (some .boolean), 1, 0, 0, [mc_X11_doStep_0, mc_X11_doStep_1])
def mc_X11_settle_0 : List ax_EN := [(0, .aload_n 0, 1, (0, 0, 0, 0), []), (1, .iconst 0, 1, (0, 0, 0, 0), []), (2, .putfield 235, 3, (0, 11, 12, 0), [1136]), (5, .iconst 1, 1, (0, 0, 0, 0), []), (6, .istore_n 1, 1, (0, 0, 0, 0), []), (7, .iload_n 1, 1, (0, 0, 0, 0), []), (8, .ifCond .eq 64, 3, (0, 0, 0, 0), []), (11, .aload_n 0, 1, (0, 0, 0, 0), []), (12, .getfield 235, 3, (0, 11, 12, 0), [1136]), (15, .sipush 300, 3, (0, 0, 0, 0), []), (18, .if_icmp .ge 54, 3, (0, 0, 0, 0), []), (21, .aload_n 0, 1, (0, 0, 0, 0), []), (22, .invokevirtual 238, 3, (3, 194, 11, 0), [1440, 95, 1438]), (25, .istore_n 2, 1, (0, 0, 0, 0), []), (26, .iload_n 2, 1, (0, 0, 0, 0), []), (27, .iconst (-1), 1, (0, 0, 0, 0), []), (28, .if_icmp .eq 15, 3, (0, 0, 0, 0), []), (31, .aload_n 0, 1, (0, 0, 0, 0), [])]
def mc_X11_settle_1 : List ax_EN := [(32, .iload_n 2, 1, (0, 0, 0, 0), []), (33, .invokevirtual 241, 3, (3, 195, 11, 0), [1444, 96, 1442]), (36, .ifCond .eq 7, 3, (0, 0, 0, 0), []), (39, .iconst 1, 1, (0, 0, 0, 0), []), (40, .goto 4, 3, (0, 0, 0, 0), []), (43, .iconst 0, 1, (0, 0, 0, 0), []), (44, .istore_n 1, 1, (0, 0, 0, 0), []), (45, .iload_n 1, 1, (0, 0, 0, 0), []), (46, .ifCond .eq 23, 3, (0, 0, 0, 0), []), (49, .aload_n 0, 1, (0, 0, 0, 0), []), (50, .getfield 45, 3, (0, 11, 13, 0), [1137]), (53, .aload_n 0, 1, (0, 0, 0, 0), []), (54, .getfield 235, 3, (0, 11, 12, 0), [1136]), (57, .iload_n 2, 1, (0, 0, 0, 0), []), (58, .iastore, 1, (0, 0, 0, 0), []), (59, .aload_n 0, 1, (0, 0, 0, 0), []), (60, .dup, 1, (0, 0, 0, 0), []), (61, .getfield 235, 3, (0, 11, 12, 0), [1136])]
def mc_X11_settle_2 : List ax_EN := [(64, .iconst 1, 1, (0, 0, 0, 0), []), (65, .iadd, 1, (0, 0, 0, 0), []), (66, .putfield 235, 3, (0, 11, 12, 0), [1136]), (69, .goto (-62), 3, (0, 0, 0, 0), []), (72, .aload_n 0, 1, (0, 0, 0, 0), []), (73, .getfield 235, 3, (0, 11, 12, 0), [1136]), (76, .ireturn, 1, (0, 0, 0, 0), [])]
def mt_X11_settle : ax_MI := (RX11, yX11_settle, cX11_settle, 3, (some .int), 0, 0, 0, [mc_X11_settle_0, mc_X11_settle_1, mc_X11_settle_2])
def mc_X11_step_0 : List ax_EN := [(0, .iload_n 1, 1, (0, 0, 0, 0), []), (1, .iconst 0, 1, (0, 0, 0, 0), []), (2, .aload_n 0, 1, (0, 0, 0, 0), []), (3, .getfield 235, 3, (0, 11, 12, 0), [1136]), (6, .iconst 1, 1, (0, 0, 0, 0), []), (7, .isub, 1, (0, 0, 0, 0), []), (8, .invokestatic 120, 3, (3, 152, 0, 0), [1291, 1290]), (11, .ifCond .eq 12, 3, (0, 0, 0, 0), []), (14, .aload_n 0, 1, (0, 0, 0, 0), []), (15, .getfield 45, 3, (0, 11, 13, 0), [1137]), (18, .iload_n 1, 1, (0, 0, 0, 0), []), (19, .iaload, 1, (0, 0, 0, 0), []), (20, .goto 4, 3, (0, 0, 0, 0), []), (23, .iconst (-1), 1, (0, 0, 0, 0), []), (24, .ireturn, 1, (0, 0, 0, 0), [])]
def mt_X11_step : ax_MI := (RX11, yX11_step, cX11_step, 2, (some .int), 1, 0, 0, [mc_X11_step_0])
def mc_X11_holds_0 : List ax_EN := [(0, .iconst 0, 1, (0, 0, 0, 0), []), (1, .istore_n 1, 1, (0, 0, 0, 0), []), (2, .iconst 0, 1, (0, 0, 0, 0), []), (3, .istore_n 2, 1, (0, 0, 0, 0), []), (4, .iload_n 2, 1, (0, 0, 0, 0), []), (5, .bipush 7, 2, (0, 0, 0, 0), []), (7, .if_icmp .ge 32, 3, (0, 0, 0, 0), []), (10, .iload_n 1, 1, (0, 0, 0, 0), []), (11, .aload_n 0, 1, (0, 0, 0, 0), []), (12, .getfield 39, 3, (0, 11, 10, 0), [1134]), (15, .iload_n 2, 1, (0, 0, 0, 0), []), (16, .iaload, 1, (0, 0, 0, 0), []), (17, .aload_n 0, 1, (0, 0, 0, 0), []), (18, .getfield 42, 3, (0, 11, 11, 0), [1135]), (21, .iload_n 2, 1, (0, 0, 0, 0), []), (22, .iaload, 1, (0, 0, 0, 0), []), (23, .isub, 1, (0, 0, 0, 0), []), (24, .aload_n 0, 1, (0, 0, 0, 0), []), (25, .getfield 11, 3, (0, 11, 0, 0), [1124]), (28, .iload_n 2, 1, (0, 0, 0, 0), []), (29, .iaload, 1, (0, 0, 0, 0), []), (30, .imul, 1, (0, 0, 0, 0), []), (31, .iadd, 1, (0, 0, 0, 0), [])]
def mc_X11_holds_1 : List ax_EN := [(32, .istore_n 1, 1, (0, 0, 0, 0), []), (33, .iinc 2 1, 3, (0, 0, 0, 0), []), (36, .goto (-32), 3, (0, 0, 0, 0), []), (39, .iload_n 1, 1, (0, 0, 0, 0), []), (40, .ireturn, 1, (0, 0, 0, 0), [])]
def mt_X11_holds : ax_MI := (RX11, yX11_holds, cX11_holds, 3, (some .int), 0, 0, 0, [mc_X11_holds_0, mc_X11_holds_1])
def mc_X11_lift_0 : List ax_EN := [(0, .iload_n 1, 1, (0, 0, 0, 0), []), (1, .invokestatic 142, 3, (3, 162, 0, 0), [1314, 1313]), (4, .ifCond .ne 6, 3, (0, 0, 0, 0), []), (7, .bipush (-101), 2, (0, 0, 0, 0), []), (9, .ireturn, 1, (0, 0, 0, 0), []), (10, .iconst 0, 1, (0, 0, 0, 0), []), (11, .istore_n 2, 1, (0, 0, 0, 0), []), (12, .iconst 0, 1, (0, 0, 0, 0), []), (13, .istore_n 3, 1, (0, 0, 0, 0), []), (14, .iconst 0, 1, (0, 0, 0, 0), []), (15, .istore 4, 2, (0, 0, 0, 0), []), (17, .iload 4, 2, (0, 0, 0, 0), []), (19, .bipush 7, 2, (0, 0, 0, 0), []), (21, .if_icmp .ge 29, 3, (0, 0, 0, 0), []), (24, .iload_n 2, 1, (0, 0, 0, 0), []), (25, .aload_n 0, 1, (0, 0, 0, 0), []), (26, .getfield 39, 3, (0, 11, 10, 0), [1134]), (29, .iload 4, 2, (0, 0, 0, 0), []), (31, .iaload, 1, (0, 0, 0, 0), [])]
def mc_X11_lift_1 : List ax_EN := [(32, .iadd, 1, (0, 0, 0, 0), []), (33, .istore_n 2, 1, (0, 0, 0, 0), []), (34, .iload_n 3, 1, (0, 0, 0, 0), []), (35, .aload_n 0, 1, (0, 0, 0, 0), []), (36, .getfield 42, 3, (0, 11, 11, 0), [1135]), (39, .iload 4, 2, (0, 0, 0, 0), []), (41, .iaload, 1, (0, 0, 0, 0), []), (42, .iadd, 1, (0, 0, 0, 0), []), (43, .istore_n 3, 1, (0, 0, 0, 0), []), (44, .iinc 4 1, 3, (0, 0, 0, 0), []), (47, .goto (-30), 3, (0, 0, 0, 0), []), (50, .iload_n 3, 1, (0, 0, 0, 0), []), (51, .ifCond .gt 13, 3, (0, 0, 0, 0), []), (54, .iload_n 2, 1, (0, 0, 0, 0), []), (55, .ifCond .eq 9, 3, (0, 0, 0, 0), []), (58, .iload_n 2, 1, (0, 0, 0, 0), []), (59, .bipush 24, 2, (0, 0, 0, 0), []), (61, .if_icmp .le 6, 3, (0, 0, 0, 0), [])]
def mc_X11_lift_2 : List ax_EN := [(64, .bipush (-103), 2, (0, 0, 0, 0), []), (66, .ireturn, 1, (0, 0, 0, 0), []), (67, .iconst 0, 1, (0, 0, 0, 0), []), (68, .istore 4, 2, (0, 0, 0, 0), []), (70, .bipush 6, 2, (0, 0, 0, 0), []), (72, .istore 5, 2, (0, 0, 0, 0), []), (74, .iload 5, 2, (0, 0, 0, 0), []), (76, .ifCond .lt 47, 3, (0, 0, 0, 0), []), (79, .iconst 0, 1, (0, 0, 0, 0), []), (80, .istore 6, 2, (0, 0, 0, 0), []), (82, .iload 6, 2, (0, 0, 0, 0), []), (84, .aload_n 0, 1, (0, 0, 0, 0), []), (85, .getfield 39, 3, (0, 11, 10, 0), [1134]), (88, .iload 5, 2, (0, 0, 0, 0), []), (90, .iaload, 1, (0, 0, 0, 0), []), (91, .if_icmp .ge 26, 3, (0, 0, 0, 0), []), (94, .aload_n 0, 1, (0, 0, 0, 0), []), (95, .getfield 36, 3, (0, 11, 9, 0), [1133])]
def mc_X11_lift_3 : List ax_EN := [(98, .bipush 24, 2, (0, 0, 0, 0), []), (100, .iload_n 1, 1, (0, 0, 0, 0), []), (101, .imul, 1, (0, 0, 0, 0), []), (102, .iload 4, 2, (0, 0, 0, 0), []), (104, .iadd, 1, (0, 0, 0, 0), []), (105, .iload 5, 2, (0, 0, 0, 0), []), (107, .iastore, 1, (0, 0, 0, 0), []), (108, .iinc 4 1, 3, (0, 0, 0, 0), []), (111, .iinc 6 1, 3, (0, 0, 0, 0), []), (114, .goto (-32), 3, (0, 0, 0, 0), []), (117, .iinc 5 (-1), 3, (0, 0, 0, 0), []), (120, .goto (-46), 3, (0, 0, 0, 0), []), (123, .aload_n 0, 1, (0, 0, 0, 0), []), (124, .getfield 33, 3, (0, 11, 8, 0), [1132]), (127, .iload_n 1, 1, (0, 0, 0, 0), [])]
def mc_X11_lift_4 : List ax_EN := [(128, .iload 4, 2, (0, 0, 0, 0), []), (130, .iastore, 1, (0, 0, 0, 0), []), (131, .iload 4, 2, (0, 0, 0, 0), []), (133, .ireturn, 1, (0, 0, 0, 0), [])]
def mt_X11_lift : ax_MI := (RX11, yX11_lift, cX11_lift, 7, (some .int), 1, 0, 0, [mc_X11_lift_0, mc_X11_lift_1, mc_X11_lift_2, mc_X11_lift_3, mc_X11_lift_4])
def mc_X11_sweep_0 : List ax_EN := [(0, .aload_n 0, 1, (0, 0, 0, 0), []), (1, .invokevirtual 222, 3, (3, 188, 11, 0), [1421, 94, 1419]), (4, .istore_n 1, 1, (0, 0, 0, 0), []), (5, .iconst 0, 1, (0, 0, 0, 0), []), (6, .istore_n 2, 1, (0, 0, 0, 0), []), (7, .iload_n 2, 1, (0, 0, 0, 0), []), (8, .bipush 7, 2, (0, 0, 0, 0), []), (10, .if_icmp .ge 23, 3, (0, 0, 0, 0), []), (13, .aload_n 0, 1, (0, 0, 0, 0), []), (14, .getfield 39, 3, (0, 11, 10, 0), [1134]), (17, .iload_n 2, 1, (0, 0, 0, 0), []), (18, .iconst 0, 1, (0, 0, 0, 0), []), (19, .iastore, 1, (0, 0, 0, 0), []), (20, .aload_n 0, 1, (0, 0, 0, 0), []), (21, .getfield 42, 3, (0, 11, 11, 0), [1135]), (24, .iload_n 2, 1, (0, 0, 0, 0), []), (25, .iconst 0, 1, (0, 0, 0, 0), []), (26, .iastore, 1, (0, 0, 0, 0), []), (27, .iinc 2 1, 3, (0, 0, 0, 0), []), (30, .goto (-23), 3, (0, 0, 0, 0), [])]
def mc_X11_sweep_1 : List ax_EN := [(33, .iload_n 1, 1, (0, 0, 0, 0), []), (34, .ireturn, 1, (0, 0, 0, 0), [])]
def mt_X11_sweep : ax_MI := (RX11, yX11_sweep, cX11_sweep, 3, (some .int), 0, 0, 0, [mc_X11_sweep_0, mc_X11_sweep_1])
def mc_X11_times_0 : List ax_EN := [(0, .iload_n 1, 1, (0, 0, 0, 0), []), (1, .iconst 1, 1, (0, 0, 0, 0), []), (2, .sipush 9999, 3, (0, 0, 0, 0), []), (5, .invokestatic 120, 3, (3, 152, 0, 0), [1291, 1290]), (8, .ifCond .eq 34, 3, (0, 0, 0, 0), []), (11, .iload_n 2, 1, (0, 0, 0, 0), []), (12, .iconst 1, 1, (0, 0, 0, 0), []), (13, .sipush 9999, 3, (0, 0, 0, 0), []), (16, .invokestatic 120, 3, (3, 152, 0, 0), [1291, 1290]), (19, .ifCond .eq 23, 3, (0, 0, 0, 0), []), (22, .iload_n 3, 1, (0, 0, 0, 0), []), (23, .iconst 0, 1, (0, 0, 0, 0), []), (24, .iconst 1, 1, (0, 0, 0, 0), []), (25, .invokestatic 120, 3, (3, 152, 0, 0), [1291, 1290]), (28, .ifCond .ne 17, 3, (0, 0, 0, 0), []), (31, .iload_n 3, 1, (0, 0, 0, 0), [])]
def mc_X11_times_1 : List ax_EN := [(32, .bipush 10, 2, (0, 0, 0, 0), []), (34, .bipush 49, 2, (0, 0, 0, 0), []), (36, .invokestatic 120, 3, (3, 152, 0, 0), [1291, 1290]), (39, .ifCond .ne 6, 3, (0, 0, 0, 0), []), (42, .bipush (-102), 2, (0, 0, 0, 0), []), (44, .ireturn, 1, (0, 0, 0, 0), []), (45, .iconst 0, 1, (0, 0, 0, 0), []), (46, .istore 4, 2, (0, 0, 0, 0), []), (48, .iconst 0, 1, (0, 0, 0, 0), []), (49, .istore 5, 2, (0, 0, 0, 0), []), (51, .iload_n 1, 1, (0, 0, 0, 0), []), (52, .istore 6, 2, (0, 0, 0, 0), []), (54, .iload_n 2, 1, (0, 0, 0, 0), []), (55, .istore 7, 2, (0, 0, 0, 0), []), (57, .iconst (-1), 1, (0, 0, 0, 0), []), (58, .istore 8, 2, (0, 0, 0, 0), []), (60, .iload 6, 2, (0, 0, 0, 0), []), (62, .ifCond .le 72, 3, (0, 0, 0, 0), [])]
def mc_X11_times_2 : List ax_EN := [(65, .iload_n 3, 1, (0, 0, 0, 0), []), (66, .bipush 10, 2, (0, 0, 0, 0), []), (68, .iload 5, 2, (0, 0, 0, 0), []), (70, .iadd, 1, (0, 0, 0, 0), []), (71, .if_icmp .ne 8, 3, (0, 0, 0, 0), []), (74, .iload 6, 2, (0, 0, 0, 0), []), (76, .goto 19, 3, (0, 0, 0, 0), []), (79, .iload_n 3, 1, (0, 0, 0, 0), []), (80, .bipush 30, 2, (0, 0, 0, 0), []), (82, .iload 5, 2, (0, 0, 0, 0), []), (84, .iadd, 1, (0, 0, 0, 0), []), (85, .if_icmp .ne 8, 3, (0, 0, 0, 0), []), (88, .iload 7, 2, (0, 0, 0, 0), []), (90, .goto 5, 3, (0, 0, 0, 0), []), (93, .iload 8, 2, (0, 0, 0, 0), []), (95, .istore 8, 2, (0, 0, 0, 0), [])]
def mc_X11_times_3 : List ax_EN := [(97, .iload 4, 2, (0, 0, 0, 0), []), (99, .iload 6, 2, (0, 0, 0, 0), []), (101, .iconst 2, 1, (0, 0, 0, 0), []), (102, .irem, 1, (0, 0, 0, 0), []), (103, .iconst 1, 1, (0, 0, 0, 0), []), (104, .if_icmp .ne 8, 3, (0, 0, 0, 0), []), (107, .iload 7, 2, (0, 0, 0, 0), []), (109, .goto 4, 3, (0, 0, 0, 0), []), (112, .iconst 0, 1, (0, 0, 0, 0), []), (113, .iadd, 1, (0, 0, 0, 0), []), (114, .istore 4, 2, (0, 0, 0, 0), []), (116, .iinc 5 1, 3, (0, 0, 0, 0), []), (119, .iload 6, 2, (0, 0, 0, 0), []), (121, .iconst 2, 1, (0, 0, 0, 0), []), (122, .idiv, 1, (0, 0, 0, 0), []), (123, .istore 6, 2, (0, 0, 0, 0), []), (125, .iload 7, 2, (0, 0, 0, 0), []), (127, .iconst 2, 1, (0, 0, 0, 0), [])]
def mc_X11_times_4 : List ax_EN := [(128, .imul, 1, (0, 0, 0, 0), []), (129, .istore 7, 2, (0, 0, 0, 0), []), (131, .goto (-71), 3, (0, 0, 0, 0), []), (134, .iload_n 3, 1, (0, 0, 0, 0), []), (135, .ifCond .ne 8, 3, (0, 0, 0, 0), []), (138, .iload 4, 2, (0, 0, 0, 0), []), (140, .goto 15, 3, (0, 0, 0, 0), []), (143, .iload_n 3, 1, (0, 0, 0, 0), []), (144, .iconst 1, 1, (0, 0, 0, 0), []), (145, .if_icmp .ne 8, 3, (0, 0, 0, 0), []), (148, .iload 5, 2, (0, 0, 0, 0), []), (150, .goto 5, 3, (0, 0, 0, 0), []), (153, .iload 8, 2, (0, 0, 0, 0), []), (155, .ireturn, 1, (0, 0, 0, 0), [])]
def mt_X11_times : ax_MI := (RX11, yX11_times, cX11_times, 9, (some .int), 3, 0, 0, [mc_X11_times_0, mc_X11_times_1, mc_X11_times_2, mc_X11_times_3, mc_X11_times_4])
def mc_X11_parts_0 : List ax_EN := [(0, .iload_n 1, 1, (0, 0, 0, 0), []), (1, .iconst 0, 1, (0, 0, 0, 0), []), (2, .sipush 9999, 3, (0, 0, 0, 0), []), (5, .invokestatic 120, 3, (3, 152, 0, 0), [1291, 1290]), (8, .ifCond .eq 23, 3, (0, 0, 0, 0), []), (11, .iload_n 2, 1, (0, 0, 0, 0), []), (12, .iconst 1, 1, (0, 0, 0, 0), []), (13, .sipush 9999, 3, (0, 0, 0, 0), []), (16, .invokestatic 120, 3, (3, 152, 0, 0), [1291, 1290]), (19, .ifCond .eq 12, 3, (0, 0, 0, 0), []), (22, .iload_n 3, 1, (0, 0, 0, 0), []), (23, .iconst 0, 1, (0, 0, 0, 0), []), (24, .iconst 3, 1, (0, 0, 0, 0), []), (25, .invokestatic 120, 3, (3, 152, 0, 0), [1291, 1290]), (28, .ifCond .ne 6, 3, (0, 0, 0, 0), []), (31, .bipush (-102), 2, (0, 0, 0, 0), [])]
def mc_X11_parts_1 : List ax_EN := [(33, .ireturn, 1, (0, 0, 0, 0), []), (34, .iconst 0, 1, (0, 0, 0, 0), []), (35, .istore 4, 2, (0, 0, 0, 0), []), (37, .iload_n 2, 1, (0, 0, 0, 0), []), (38, .istore 5, 2, (0, 0, 0, 0), []), (40, .iload 5, 2, (0, 0, 0, 0), []), (42, .iload_n 1, 1, (0, 0, 0, 0), []), (43, .if_icmp .gt 15, 3, (0, 0, 0, 0), []), (46, .iinc 4 1, 3, (0, 0, 0, 0), []), (49, .iload 5, 2, (0, 0, 0, 0), []), (51, .iconst 2, 1, (0, 0, 0, 0), []), (52, .imul, 1, (0, 0, 0, 0), []), (53, .istore 5, 2, (0, 0, 0, 0), []), (55, .goto (-15), 3, (0, 0, 0, 0), []), (58, .iload_n 1, 1, (0, 0, 0, 0), []), (59, .istore 5, 2, (0, 0, 0, 0), []), (61, .iconst 0, 1, (0, 0, 0, 0), []), (62, .istore 6, 2, (0, 0, 0, 0), [])]
def mc_X11_parts_2 : List ax_EN := [(64, .iload 4, 2, (0, 0, 0, 0), []), (66, .iconst 1, 1, (0, 0, 0, 0), []), (67, .isub, 1, (0, 0, 0, 0), []), (68, .istore 7, 2, (0, 0, 0, 0), []), (70, .iload 7, 2, (0, 0, 0, 0), []), (72, .ifCond .lt 36, 3, (0, 0, 0, 0), []), (75, .iload_n 2, 1, (0, 0, 0, 0), []), (76, .iload 7, 2, (0, 0, 0, 0), []), (78, .ishl, 1, (0, 0, 0, 0), []), (79, .iload 5, 2, (0, 0, 0, 0), []), (81, .if_icmp .gt 21, 3, (0, 0, 0, 0), []), (84, .iload 5, 2, (0, 0, 0, 0), []), (86, .iload_n 2, 1, (0, 0, 0, 0), []), (87, .iload 7, 2, (0, 0, 0, 0), []), (89, .ishl, 1, (0, 0, 0, 0), []), (90, .isub, 1, (0, 0, 0, 0), []), (91, .istore 5, 2, (0, 0, 0, 0), []), (93, .iload 6, 2, (0, 0, 0, 0), []), (95, .iconst 1, 1, (0, 0, 0, 0), [])]
def mc_X11_parts_3 : List ax_EN := [(96, .iload 7, 2, (0, 0, 0, 0), []), (98, .ishl, 1, (0, 0, 0, 0), []), (99, .ior, 1, (0, 0, 0, 0), []), (100, .istore 6, 2, (0, 0, 0, 0), []), (102, .iinc 7 (-1), 3, (0, 0, 0, 0), []), (105, .goto (-35), 3, (0, 0, 0, 0), []), (108, .iload_n 3, 1, (0, 0, 0, 0), []), (109, .ifCond .ne 8, 3, (0, 0, 0, 0), []), (112, .iload 6, 2, (0, 0, 0, 0), []), (114, .goto 25, 3, (0, 0, 0, 0), []), (117, .iload_n 3, 1, (0, 0, 0, 0), []), (118, .iconst 1, 1, (0, 0, 0, 0), []), (119, .if_icmp .ne 8, 3, (0, 0, 0, 0), []), (122, .iload 5, 2, (0, 0, 0, 0), []), (124, .goto 15, 3, (0, 0, 0, 0), []), (127, .iload_n 3, 1, (0, 0, 0, 0), [])]
def mc_X11_parts_4 : List ax_EN := [(128, .iconst 2, 1, (0, 0, 0, 0), []), (129, .if_icmp .ne 8, 3, (0, 0, 0, 0), []), (132, .iload 4, 2, (0, 0, 0, 0), []), (134, .goto 5, 3, (0, 0, 0, 0), []), (137, .iload 6, 2, (0, 0, 0, 0), []), (139, .ireturn, 1, (0, 0, 0, 0), [])]
def mt_X11_parts : ax_MI := (RX11, yX11_parts, cX11_parts, 8, (some .int), 3, 0, 0, [mc_X11_parts_0, mc_X11_parts_1, mc_X11_parts_2, mc_X11_parts_3, mc_X11_parts_4])
def mc_X11_stone_0 : List ax_EN := [(0, .aload_n 0, 1, (0, 0, 0, 0), []), (1, .getfield 109, 3, (0, 11, 2, 0), [1126]), (4, .istore_n 1, 1, (0, 0, 0, 0), []), (5, .iload_n 1, 1, (0, 0, 0, 0), []), (6, .ifCond .le 20, 3, (0, 0, 0, 0), []), (9, .aload_n 0, 1, (0, 0, 0, 0), []), (10, .getfield 20, 3, (0, 11, 3, 0), [1127]), (13, .iload_n 1, 1, (0, 0, 0, 0), []), (14, .iconst 1, 1, (0, 0, 0, 0), []), (15, .isub, 1, (0, 0, 0, 0), []), (16, .baload, 1, (0, 0, 0, 0), []), (17, .bipush 42, 2, (0, 0, 0, 0), []), (19, .if_icmp .ne 7, 3, (0, 0, 0, 0), []), (22, .iconst 1, 1, (0, 0, 0, 0), []), (23, .goto 4, 3, (0, 0, 0, 0), []), (26, .iconst 0, 1, (0, 0, 0, 0), []), (27, .istore_n 2, 1, (0, 0, 0, 0), []), (28, .iload_n 1, 1, (0, 0, 0, 0), []), (29, .iload_n 2, 1, (0, 0, 0, 0), []), (30, .ifCond .eq 7, 3, (0, 0, 0, 0), [])]
def mc_X11_stone_1 : List ax_EN := [(33, .iconst 1, 1, (0, 0, 0, 0), []), (34, .goto 4, 3, (0, 0, 0, 0), []), (37, .iconst 0, 1, (0, 0, 0, 0), []), (38, .isub, 1, (0, 0, 0, 0), []), (39, .istore_n 1, 1, (0, 0, 0, 0), []), (40, .iconst 0, 1, (0, 0, 0, 0), []), (41, .istore_n 3, 1, (0, 0, 0, 0), []), (42, .iload_n 1, 1, (0, 0, 0, 0), []), (43, .iconst 1, 1, (0, 0, 0, 0), []), (44, .bipush 20, 2, (0, 0, 0, 0), []), (46, .invokestatic 120, 3, (3, 152, 0, 0), [1291, 1290]), (49, .istore 4, 2, (0, 0, 0, 0), []), (51, .iconst 0, 1, (0, 0, 0, 0), []), (52, .istore 5, 2, (0, 0, 0, 0), []), (54, .iload 5, 2, (0, 0, 0, 0), []), (56, .iload_n 1, 1, (0, 0, 0, 0), []), (57, .if_icmp .ge 68, 3, (0, 0, 0, 0), []), (60, .iload 4, 2, (0, 0, 0, 0), []), (62, .ifCond .eq 63, 3, (0, 0, 0, 0), [])]
def mc_X11_stone_2 : List ax_EN := [(65, .iload_n 3, 1, (0, 0, 0, 0), []), (66, .aload_n 0, 1, (0, 0, 0, 0), []), (67, .getfield 20, 3, (0, 11, 3, 0), [1127]), (70, .iload 5, 2, (0, 0, 0, 0), []), (72, .baload, 1, (0, 0, 0, 0), []), (73, .bipush 46, 2, (0, 0, 0, 0), []), (75, .if_icmp .ne 7, 3, (0, 0, 0, 0), []), (78, .iconst 1, 1, (0, 0, 0, 0), []), (79, .goto 4, 3, (0, 0, 0, 0), []), (82, .iconst 0, 1, (0, 0, 0, 0), []), (83, .iadd, 1, (0, 0, 0, 0), []), (84, .istore_n 3, 1, (0, 0, 0, 0), []), (85, .aload_n 0, 1, (0, 0, 0, 0), []), (86, .getfield 20, 3, (0, 11, 3, 0), [1127]), (89, .iload 5, 2, (0, 0, 0, 0), []), (91, .baload, 1, (0, 0, 0, 0), []), (92, .bipush 46, 2, (0, 0, 0, 0), []), (94, .if_icmp .eq 18, 3, (0, 0, 0, 0), [])]
def mc_X11_stone_3 : List ax_EN := [(97, .aload_n 0, 1, (0, 0, 0, 0), []), (98, .aload_n 0, 1, (0, 0, 0, 0), []), (99, .getfield 20, 3, (0, 11, 3, 0), [1127]), (102, .iload 5, 2, (0, 0, 0, 0), []), (104, .baload, 1, (0, 0, 0, 0), []), (105, .invokevirtual 116, 3, (3, 155, 11, 0), [1288, 76, 1286]), (108, .iconst (-1), 1, (0, 0, 0, 0), []), (109, .if_icmp .eq 7, 3, (0, 0, 0, 0), []), (112, .iconst 1, 1, (0, 0, 0, 0), []), (113, .goto 4, 3, (0, 0, 0, 0), []), (116, .iconst 0, 1, (0, 0, 0, 0), []), (117, .istore 4, 2, (0, 0, 0, 0), []), (119, .iinc 5 1, 3, (0, 0, 0, 0), []), (122, .goto (-68), 3, (0, 0, 0, 0), []), (125, .iload 4, 2, (0, 0, 0, 0), []), (127, .ifCond .eq 8, 3, (0, 0, 0, 0), [])]
def mc_X11_stone_4 : List ax_EN := [(130, .iload_n 3, 1, (0, 0, 0, 0), []), (131, .iconst 3, 1, (0, 0, 0, 0), []), (132, .if_icmp .le 6, 3, (0, 0, 0, 0), []), (135, .bipush (-103), 2, (0, 0, 0, 0), []), (137, .ireturn, 1, (0, 0, 0, 0), []), (138, .iconst 0, 1, (0, 0, 0, 0), []), (139, .istore 5, 2, (0, 0, 0, 0), []), (141, .iload 5, 2, (0, 0, 0, 0), []), (143, .iload_n 1, 1, (0, 0, 0, 0), []), (144, .if_icmp .ge 44, 3, (0, 0, 0, 0), []), (147, .aload_n 0, 1, (0, 0, 0, 0), []), (148, .getfield 48, 3, (0, 11, 16, 0), [1140]), (151, .iload 5, 2, (0, 0, 0, 0), []), (153, .aload_n 0, 1, (0, 0, 0, 0), []), (154, .getfield 20, 3, (0, 11, 3, 0), [1127]), (157, .iload 5, 2, (0, 0, 0, 0), []), (159, .baload, 1, (0, 0, 0, 0), [])]
def mc_X11_stone_5 : List ax_EN := [(160, .bipush 46, 2, (0, 0, 0, 0), []), (162, .if_icmp .ne 8, 3, (0, 0, 0, 0), []), (165, .bipush 14, 2, (0, 0, 0, 0), []), (167, .goto 14, 3, (0, 0, 0, 0), []), (170, .aload_n 0, 1, (0, 0, 0, 0), []), (171, .aload_n 0, 1, (0, 0, 0, 0), []), (172, .getfield 20, 3, (0, 11, 3, 0), [1127]), (175, .iload 5, 2, (0, 0, 0, 0), []), (177, .baload, 1, (0, 0, 0, 0), []), (178, .invokevirtual 116, 3, (3, 155, 11, 0), [1288, 76, 1286]), (181, .iastore, 1, (0, 0, 0, 0), []), (182, .iinc 5 1, 3, (0, 0, 0, 0), []), (185, .goto (-44), 3, (0, 0, 0, 0), []), (188, .aload_n 0, 1, (0, 0, 0, 0), []), (189, .iload_n 1, 1, (0, 0, 0, 0), []), (190, .putfield 244, 3, (0, 11, 14, 0), [1138])]
def mc_X11_stone_6 : List ax_EN := [(193, .aload_n 0, 1, (0, 0, 0, 0), []), (194, .iload_n 2, 1, (0, 0, 0, 0), []), (195, .putfield 247, 3, (0, 11, 15, 0), [1139]), (198, .aload_n 0, 1, (0, 0, 0, 0), []), (199, .iconst 0, 1, (0, 0, 0, 0), []), (200, .putfield 109, 3, (0, 11, 2, 0), [1126]), (203, .iload_n 1, 1, (0, 0, 0, 0), []), (204, .ireturn, 1, (0, 0, 0, 0), [])]
def mt_X11_stone : ax_MI := (RX11, yX11_stone, cX11_stone, 6, (some .int), 0, 0, 0, [mc_X11_stone_0, mc_X11_stone_1, mc_X11_stone_2, mc_X11_stone_3, mc_X11_stone_4, mc_X11_stone_5, mc_X11_stone_6])
def mc_X11_say_0 : List ax_EN := [(0, .iload_n 1, 1, (0, 0, 0, 0), []), (1, .ldc 250, 2, (6, 0, 0, 40503), [1512]), (3, .imul, 1, (0, 0, 0, 0), []), (4, .iconst 3, 1, (0, 0, 0, 0), []), (5, .iushr, 1, (0, 0, 0, 0), []), (6, .ldc 94, 2, (6, 0, 0, 131072), [1123]), (8, .irem, 1, (0, 0, 0, 0), []), (9, .istore_n 2, 1, (0, 0, 0, 0), []), (10, .aload_n 0, 1, (0, 0, 0, 0), []), (11, .getfield 95, 3, (0, 11, 39, 0), [1163]), (14, .iload_n 2, 1, (0, 0, 0, 0), []), (15, .iaload, 1, (0, 0, 0, 0), []), (16, .ifCond .eq 31, 3, (0, 0, 0, 0), []), (19, .aload_n 0, 1, (0, 0, 0, 0), []), (20, .getfield 91, 3, (0, 11, 38, 0), [1162]), (23, .aload_n 0, 1, (0, 0, 0, 0), []), (24, .getfield 95, 3, (0, 11, 39, 0), [1163]), (27, .iload_n 2, 1, (0, 0, 0, 0), []), (28, .iaload, 1, (0, 0, 0, 0), []), (29, .iconst 1, 1, (0, 0, 0, 0), []), (30, .isub, 1, (0, 0, 0, 0), []), (31, .iaload, 1, (0, 0, 0, 0), [])]
def mc_X11_say_1 : List ax_EN := [(32, .iload_n 1, 1, (0, 0, 0, 0), []), (33, .if_icmp .ne 4, 3, (0, 0, 0, 0), []), (36, .return_, 1, (0, 0, 0, 0), []), (37, .iload_n 2, 1, (0, 0, 0, 0), []), (38, .iconst 1, 1, (0, 0, 0, 0), []), (39, .iadd, 1, (0, 0, 0, 0), []), (40, .ldc 94, 2, (6, 0, 0, 131072), [1123]), (42, .irem, 1, (0, 0, 0, 0), []), (43, .istore_n 2, 1, (0, 0, 0, 0), []), (44, .goto (-34), 3, (0, 0, 0, 0), []), (47, .aload_n 0, 1, (0, 0, 0, 0), []), (48, .getfield 91, 3, (0, 11, 38, 0), [1162]), (51, .aload_n 0, 1, (0, 0, 0, 0), []), (52, .getfield 251, 3, (0, 11, 37, 0), [1161]), (55, .iload_n 1, 1, (0, 0, 0, 0), []), (56, .iastore, 1, (0, 0, 0, 0), []), (57, .aload_n 0, 1, (0, 0, 0, 0), []), (58, .dup, 1, (0, 0, 0, 0), []), (59, .getfield 251, 3, (0, 11, 37, 0), [1161]), (62, .iconst 1, 1, (0, 0, 0, 0), []), (63, .iadd, 1, (0, 0, 0, 0), [])]
def mc_X11_say_2 : List ax_EN := [(64, .putfield 251, 3, (0, 11, 37, 0), [1161]), (67, .aload_n 0, 1, (0, 0, 0, 0), []), (68, .getfield 95, 3, (0, 11, 39, 0), [1163]), (71, .iload_n 2, 1, (0, 0, 0, 0), []), (72, .aload_n 0, 1, (0, 0, 0, 0), []), (73, .getfield 251, 3, (0, 11, 37, 0), [1161]), (76, .iastore, 1, (0, 0, 0, 0), []), (77, .return_, 1, (0, 0, 0, 0), [])]
def mt_X11_say : ax_MI := (RX11, yX11_say, cX11_say, 3, none, 1, 0, 0, [mc_X11_say_0, mc_X11_say_1, mc_X11_say_2])
def mc_X11_fillAll_0 : List ax_EN := [(0, .aload_n 0, 1, (0, 0, 0, 0), []), (1, .iconst 0, 1, (0, 0, 0, 0), []), (2, .putfield 251, 3, (0, 11, 37, 0), [1161]), (5, .iconst 0, 1, (0, 0, 0, 0), []), (6, .istore_n 2, 1, (0, 0, 0, 0), []), (7, .iload_n 2, 1, (0, 0, 0, 0), []), (8, .ldc 94, 2, (6, 0, 0, 131072), [1123]), (10, .if_icmp .ge 16, 3, (0, 0, 0, 0), []), (13, .aload_n 0, 1, (0, 0, 0, 0), []), (14, .getfield 95, 3, (0, 11, 39, 0), [1163]), (17, .iload_n 2, 1, (0, 0, 0, 0), []), (18, .iconst 0, 1, (0, 0, 0, 0), []), (19, .iastore, 1, (0, 0, 0, 0), []), (20, .iinc 2 1, 3, (0, 0, 0, 0), []), (23, .goto (-16), 3, (0, 0, 0, 0), []), (26, .iconst 0, 1, (0, 0, 0, 0), []), (27, .istore_n 2, 1, (0, 0, 0, 0), []), (28, .iload_n 2, 1, (0, 0, 0, 0), []), (29, .bipush 20, 2, (0, 0, 0, 0), []), (31, .if_icmp .ge 16, 3, (0, 0, 0, 0), [])]
def mc_X11_fillAll_1 : List ax_EN := [(34, .aload_n 0, 1, (0, 0, 0, 0), []), (35, .getfield 98, 3, (0, 11, 40, 0), [1164]), (38, .iload_n 2, 1, (0, 0, 0, 0), []), (39, .iconst (-1), 1, (0, 0, 0, 0), []), (40, .iastore, 1, (0, 0, 0, 0), []), (41, .iinc 2 1, 3, (0, 0, 0, 0), []), (44, .goto (-16), 3, (0, 0, 0, 0), []), (47, .aload_n 0, 1, (0, 0, 0, 0), []), (48, .iload_n 1, 1, (0, 0, 0, 0), []), (49, .aload_n 0, 1, (0, 0, 0, 0), []), (50, .getfield 244, 3, (0, 11, 14, 0), [1138]), (53, .invokevirtual 254, 3, (3, 206, 11, 0), [1490, 99, 1488]), (56, .aload_n 0, 1, (0, 0, 0, 0), []), (57, .getfield 247, 3, (0, 11, 15, 0), [1139]), (60, .ifCond .eq 14, 3, (0, 0, 0, 0), []), (63, .aload_n 0, 1, (0, 0, 0, 0), [])]
def mc_X11_fillAll_2 : List ax_EN := [(64, .iload_n 1, 1, (0, 0, 0, 0), []), (65, .aload_n 0, 1, (0, 0, 0, 0), []), (66, .getfield 244, 3, (0, 11, 14, 0), [1138]), (69, .iconst 1, 1, (0, 0, 0, 0), []), (70, .iadd, 1, (0, 0, 0, 0), []), (71, .invokevirtual 254, 3, (3, 206, 11, 0), [1490, 99, 1488]), (74, .return_, 1, (0, 0, 0, 0), [])]
def mt_X11_fillAll : ax_MI := (RX11, yX11_fillAll, cX11_fillAll, 3, none, 1, 0, 0, [mc_X11_fillAll_0, mc_X11_fillAll_1, mc_X11_fillAll_2])
def mc_X11_fillTo_0 : List ax_EN := [(0, .iconst 0, 1, (0, 0, 0, 0), []), (1, .istore_n 3, 1, (0, 0, 0, 0), []), (2, .aload_n 0, 1, (0, 0, 0, 0), []), (3, .getfield 101, 3, (0, 11, 41, 0), [1165]), (6, .iconst 0, 1, (0, 0, 0, 0), []), (7, .aload_n 0, 1, (0, 0, 0, 0), []), (8, .iconst 0, 1, (0, 0, 0, 0), []), (9, .invokevirtual 257, 3, (3, 208, 11, 0), [1494, 100, 1492]), (12, .iastore, 1, (0, 0, 0, 0), []), (13, .iload_n 3, 1, (0, 0, 0, 0), []), (14, .ifCond .lt 120, 3, (0, 0, 0, 0), []), (17, .aload_n 0, 1, (0, 0, 0, 0), []), (18, .getfield 101, 3, (0, 11, 41, 0), [1165]), (21, .iload_n 3, 1, (0, 0, 0, 0), []), (22, .iaload, 1, (0, 0, 0, 0), []), (23, .bipush 14, 2, (0, 0, 0, 0), []), (25, .if_icmp .ne 24, 3, (0, 0, 0, 0), []), (28, .iinc 3 (-1), 3, (0, 0, 0, 0), []), (31, .iload_n 3, 1, (0, 0, 0, 0), [])]
def mc_X11_fillTo_1 : List ax_EN := [(32, .ifCond .lt (-19), 3, (0, 0, 0, 0), []), (35, .aload_n 0, 1, (0, 0, 0, 0), []), (36, .getfield 101, 3, (0, 11, 41, 0), [1165]), (39, .iload_n 3, 1, (0, 0, 0, 0), []), (40, .aload_n 0, 1, (0, 0, 0, 0), []), (41, .iload_n 3, 1, (0, 0, 0, 0), []), (42, .invokevirtual 260, 3, (3, 209, 11, 0), [1502, 102, 1500]), (45, .iastore, 1, (0, 0, 0, 0), []), (46, .goto (-33), 3, (0, 0, 0, 0), []), (49, .aload_n 0, 1, (0, 0, 0, 0), []), (50, .aload_n 0, 1, (0, 0, 0, 0), []), (51, .getfield 101, 3, (0, 11, 41, 0), [1165]), (54, .iconst 0, 1, (0, 0, 0, 0), []), (55, .iload_n 3, 1, (0, 0, 0, 0), []), (56, .iconst 1, 1, (0, 0, 0, 0), []), (57, .iadd, 1, (0, 0, 0, 0), []), (58, .iload_n 1, 1, (0, 0, 0, 0), []), (59, .iload_n 3, 1, (0, 0, 0, 0), []), (60, .iconst 1, 1, (0, 0, 0, 0), []), (61, .iadd, 1, (0, 0, 0, 0), []), (62, .iload_n 2, 1, (0, 0, 0, 0), []), (63, .if_icmp .ne 7, 3, (0, 0, 0, 0), [])]
def mc_X11_fillTo_2 : List ax_EN := [(66, .iconst 1, 1, (0, 0, 0, 0), []), (67, .goto 4, 3, (0, 0, 0, 0), []), (70, .iconst 0, 1, (0, 0, 0, 0), []), (71, .invokevirtual 162, 3, (3, 168, 11, 0), [1338, 80, 1336]), (74, .ifCond .ne 17, 3, (0, 0, 0, 0), []), (77, .aload_n 0, 1, (0, 0, 0, 0), []), (78, .getfield 101, 3, (0, 11, 41, 0), [1165]), (81, .iload_n 3, 1, (0, 0, 0, 0), []), (82, .aload_n 0, 1, (0, 0, 0, 0), []), (83, .iload_n 3, 1, (0, 0, 0, 0), []), (84, .invokevirtual 260, 3, (3, 209, 11, 0), [1502, 102, 1500]), (87, .iastore, 1, (0, 0, 0, 0), []), (88, .goto (-75), 3, (0, 0, 0, 0), []), (91, .iload_n 3, 1, (0, 0, 0, 0), []), (92, .iconst 1, 1, (0, 0, 0, 0), []), (93, .iadd, 1, (0, 0, 0, 0), []), (94, .iload_n 2, 1, (0, 0, 0, 0), []), (95, .if_icmp .ne 22, 3, (0, 0, 0, 0), [])]
def mc_X11_fillTo_3 : List ax_EN := [(98, .aload_n 0, 1, (0, 0, 0, 0), []), (99, .iload_n 2, 1, (0, 0, 0, 0), []), (100, .invokevirtual 263, 3, (3, 210, 11, 0), [1506, 103, 1504]), (103, .aload_n 0, 1, (0, 0, 0, 0), []), (104, .getfield 101, 3, (0, 11, 41, 0), [1165]), (107, .iload_n 3, 1, (0, 0, 0, 0), []), (108, .aload_n 0, 1, (0, 0, 0, 0), []), (109, .iload_n 3, 1, (0, 0, 0, 0), []), (110, .invokevirtual 260, 3, (3, 209, 11, 0), [1502, 102, 1500]), (113, .iastore, 1, (0, 0, 0, 0), []), (114, .goto (-101), 3, (0, 0, 0, 0), []), (117, .iinc 3 1, 3, (0, 0, 0, 0), []), (120, .aload_n 0, 1, (0, 0, 0, 0), []), (121, .getfield 101, 3, (0, 11, 41, 0), [1165]), (124, .iload_n 3, 1, (0, 0, 0, 0), []), (125, .aload_n 0, 1, (0, 0, 0, 0), []), (126, .iload_n 3, 1, (0, 0, 0, 0), []), (127, .invokevirtual 257, 3, (3, 208, 11, 0), [1494, 100, 1492])]
def mc_X11_fillTo_4 : List ax_EN := [(130, .iastore, 1, (0, 0, 0, 0), []), (131, .goto (-118), 3, (0, 0, 0, 0), []), (134, .return_, 1, (0, 0, 0, 0), [])]
def mt_X11_fillTo : ax_MI := (RX11, yX11_fillTo, cX11_fillTo, 4, none, 2, 0, 0, [mc_X11_fillTo_0, mc_X11_fillTo_1, mc_X11_fillTo_2, mc_X11_fillTo_3, mc_X11_fillTo_4])
def mc_X11_isOpen_0 : List ax_EN := [(0, .iload_n 1, 1, (0, 0, 0, 0), []), (1, .aload_n 0, 1, (0, 0, 0, 0), []), (2, .getfield 244, 3, (0, 11, 14, 0), [1138]), (5, .if_icmp .ge 14, 3, (0, 0, 0, 0), []), (8, .aload_n 0, 1, (0, 0, 0, 0), []), (9, .getfield 48, 3, (0, 11, 16, 0), [1140]), (12, .iload_n 1, 1, (0, 0, 0, 0), []), (13, .iaload, 1, (0, 0, 0, 0), []), (14, .bipush 14, 2, (0, 0, 0, 0), []), (16, .if_icmp .ne 7, 3, (0, 0, 0, 0), []), (19, .iconst 1, 1, (0, 0, 0, 0), []), (20, .goto 4, 3, (0, 0, 0, 0), []), (23, .iconst 0, 1, (0, 0, 0, 0), []), (24, .ireturn, 1, (0, 0, 0, 0), [])]
def mt_X11_isOpen : ax_MI := (RX11, yX11_isOpen, cX11_isOpen, 2, (some .boolean), 1, 0, 0, [mc_X11_isOpen_0])
def mc_X11_first_0 : List ax_EN := [(0, .aload_n 0, 1, (0, 0, 0, 0), []), (1, .iload_n 1, 1, (0, 0, 0, 0), []), (2, .invokevirtual 266, 3, (3, 207, 11, 0), [1498, 101, 1496]), (5, .ifCond .eq 7, 3, (0, 0, 0, 0), []), (8, .iconst 0, 1, (0, 0, 0, 0), []), (9, .goto 9, 3, (0, 0, 0, 0), []), (12, .aload_n 0, 1, (0, 0, 0, 0), []), (13, .getfield 48, 3, (0, 11, 16, 0), [1140]), (16, .iload_n 1, 1, (0, 0, 0, 0), []), (17, .iaload, 1, (0, 0, 0, 0), []), (18, .ireturn, 1, (0, 0, 0, 0), [])]
def mt_X11_first : ax_MI := (RX11, yX11_first, cX11_first, 2, (some .int), 1, 0, 0, [mc_X11_first_0])
def mc_X11_after_0 : List ax_EN := [(0, .aload_n 0, 1, (0, 0, 0, 0), []), (1, .iload_n 1, 1, (0, 0, 0, 0), []), (2, .invokevirtual 266, 3, (3, 207, 11, 0), [1498, 101, 1496]), (5, .ifCond .eq 14, 3, (0, 0, 0, 0), []), (8, .aload_n 0, 1, (0, 0, 0, 0), []), (9, .getfield 101, 3, (0, 11, 41, 0), [1165]), (12, .iload_n 1, 1, (0, 0, 0, 0), []), (13, .iaload, 1, (0, 0, 0, 0), []), (14, .iconst 1, 1, (0, 0, 0, 0), []), (15, .iadd, 1, (0, 0, 0, 0), []), (16, .goto 5, 3, (0, 0, 0, 0), []), (19, .bipush 14, 2, (0, 0, 0, 0), []), (21, .ireturn, 1, (0, 0, 0, 0), [])]
def mt_X11_after : ax_MI := (RX11, yX11_after, cX11_after, 2, (some .int), 1, 0, 0, [mc_X11_after_0])
def mc_X11_take_0 : List ax_EN := [(0, .aload_n 0, 1, (0, 0, 0, 0), []), (1, .aload_n 0, 1, (0, 0, 0, 0), []), (2, .aload_n 0, 1, (0, 0, 0, 0), []), (3, .getfield 101, 3, (0, 11, 41, 0), [1165]), (6, .iconst 0, 1, (0, 0, 0, 0), []), (7, .iload_n 1, 1, (0, 0, 0, 0), []), (8, .invokevirtual 149, 3, (3, 166, 11, 0), [1326, 79, 1324]), (11, .invokevirtual 269, 3, (3, 204, 11, 0), [1510, 104, 1508]), (14, .iconst 0, 1, (0, 0, 0, 0), []), (15, .istore_n 2, 1, (0, 0, 0, 0), []), (16, .iload_n 2, 1, (0, 0, 0, 0), []), (17, .aload_n 0, 1, (0, 0, 0, 0), []), (18, .getfield 244, 3, (0, 11, 14, 0), [1138]), (21, .if_icmp .ge 60, 3, (0, 0, 0, 0), []), (24, .aload_n 0, 1, (0, 0, 0, 0), []), (25, .getfield 98, 3, (0, 11, 40, 0), [1164]), (28, .iload_n 2, 1, (0, 0, 0, 0), []), (29, .aload_n 0, 1, (0, 0, 0, 0), []), (30, .getfield 98, 3, (0, 11, 40, 0), [1164])]
def mc_X11_take_1 : List ax_EN := [(33, .iload_n 2, 1, (0, 0, 0, 0), []), (34, .iaload, 1, (0, 0, 0, 0), []), (35, .iconst (-1), 1, (0, 0, 0, 0), []), (36, .if_icmp .ne 12, 3, (0, 0, 0, 0), []), (39, .aload_n 0, 1, (0, 0, 0, 0), []), (40, .getfield 101, 3, (0, 11, 41, 0), [1165]), (43, .iload_n 2, 1, (0, 0, 0, 0), []), (44, .iaload, 1, (0, 0, 0, 0), []), (45, .goto 29, 3, (0, 0, 0, 0), []), (48, .aload_n 0, 1, (0, 0, 0, 0), []), (49, .getfield 98, 3, (0, 11, 40, 0), [1164]), (52, .iload_n 2, 1, (0, 0, 0, 0), []), (53, .iaload, 1, (0, 0, 0, 0), []), (54, .aload_n 0, 1, (0, 0, 0, 0), []), (55, .getfield 101, 3, (0, 11, 41, 0), [1165]), (58, .iload_n 2, 1, (0, 0, 0, 0), []), (59, .iaload, 1, (0, 0, 0, 0), []), (60, .if_icmp .ne 12, 3, (0, 0, 0, 0), []), (63, .aload_n 0, 1, (0, 0, 0, 0), [])]
def mc_X11_take_2 : List ax_EN := [(64, .getfield 101, 3, (0, 11, 41, 0), [1165]), (67, .iload_n 2, 1, (0, 0, 0, 0), []), (68, .iaload, 1, (0, 0, 0, 0), []), (69, .goto 5, 3, (0, 0, 0, 0), []), (72, .bipush 14, 2, (0, 0, 0, 0), []), (74, .iastore, 1, (0, 0, 0, 0), []), (75, .iinc 2 1, 3, (0, 0, 0, 0), []), (78, .goto (-62), 3, (0, 0, 0, 0), []), (81, .return_, 1, (0, 0, 0, 0), [])]
def mt_X11_take : ax_MI := (RX11, yX11_take, cX11_take, 3, none, 1, 0, 0, [mc_X11_take_0, mc_X11_take_1, mc_X11_take_2])
def mc_X11_isShut_0 : List ax_EN := [(0, .aload_n 0, 1, (0, 0, 0, 0), []), (1, .getfield 244, 3, (0, 11, 14, 0), [1138]), (4, .ifCond .eq 12, 3, (0, 0, 0, 0), []), (7, .aload_n 0, 1, (0, 0, 0, 0), []), (8, .getfield 272, 3, (0, 11, 24, 0), [1148]), (11, .bipush 30, 2, (0, 0, 0, 0), []), (13, .if_icmp .ne 7, 3, (0, 0, 0, 0), []), (16, .iconst 1, 1, (0, 0, 0, 0), []), (17, .goto 4, 3, (0, 0, 0, 0), []), (20, .iconst 0, 1, (0, 0, 0, 0), []), (21, .ireturn, 1, (0, 0, 0, 0), [])]
def mt_X11_isShut : ax_MI := (RX11, yX11_isShut, cX11_isShut, 1, (some .boolean), 0, 0, 0, [mc_X11_isShut_0])
def mc_X11_could_0 : List ax_EN := [(0, .aload_n 0, 1, (0, 0, 0, 0), []), (1, .iload_n 1, 1, (0, 0, 0, 0), []), (2, .invokevirtual 138, 3, (3, 160, 11, 0), [1307, 78, 1305]), (5, .ifCond .ne 6, 3, (0, 0, 0, 0), []), (8, .bipush (-101), 2, (0, 0, 0, 0), []), (10, .ireturn, 1, (0, 0, 0, 0), []), (11, .aload_n 0, 1, (0, 0, 0, 0), []), (12, .invokevirtual 275, 3, (3, 211, 11, 0), [1482, 97, 1480]), (15, .ifCond .eq 6, 3, (0, 0, 0, 0), []), (18, .bipush (-103), 2, (0, 0, 0, 0), []), (20, .ireturn, 1, (0, 0, 0, 0), []), (21, .aload_n 0, 1, (0, 0, 0, 0), []), (22, .dup, 1, (0, 0, 0, 0), []), (23, .getfield 272, 3, (0, 11, 24, 0), [1148]), (26, .iconst 1, 1, (0, 0, 0, 0), []), (27, .iadd, 1, (0, 0, 0, 0), []), (28, .putfield 272, 3, (0, 11, 24, 0), [1148]), (31, .aload_n 0, 1, (0, 0, 0, 0), [])]
def mc_X11_could_1 : List ax_EN := [(32, .iload_n 1, 1, (0, 0, 0, 0), []), (33, .invokevirtual 279, 3, (3, 205, 11, 0), [1486, 98, 1484]), (36, .aload_n 0, 1, (0, 0, 0, 0), []), (37, .getfield 251, 3, (0, 11, 37, 0), [1161]), (40, .ireturn, 1, (0, 0, 0, 0), [])]
def mt_X11_could : ax_MI := (RX11, yX11_could, cX11_could, 2, (some .int), 1, 0, 0, [mc_X11_could_0, mc_X11_could_1])
def mc_X11_says_0 : List ax_EN := [(0, .aload_n 0, 1, (0, 0, 0, 0), []), (1, .iload_n 1, 1, (0, 0, 0, 0), []), (2, .invokevirtual 138, 3, (3, 160, 11, 0), [1307, 78, 1305]), (5, .ifCond .ne 6, 3, (0, 0, 0, 0), []), (8, .bipush (-101), 2, (0, 0, 0, 0), []), (10, .ireturn, 1, (0, 0, 0, 0), []), (11, .aload_n 0, 1, (0, 0, 0, 0), []), (12, .invokevirtual 275, 3, (3, 211, 11, 0), [1482, 97, 1480]), (15, .ifCond .eq 6, 3, (0, 0, 0, 0), []), (18, .bipush (-103), 2, (0, 0, 0, 0), []), (20, .ireturn, 1, (0, 0, 0, 0), []), (21, .aload_n 0, 1, (0, 0, 0, 0), []), (22, .dup, 1, (0, 0, 0, 0), []), (23, .getfield 272, 3, (0, 11, 24, 0), [1148]), (26, .iconst 1, 1, (0, 0, 0, 0), []), (27, .iadd, 1, (0, 0, 0, 0), []), (28, .putfield 272, 3, (0, 11, 24, 0), [1148]), (31, .aload_n 0, 1, (0, 0, 0, 0), [])]
def mc_X11_says_1 : List ax_EN := [(32, .iload_n 1, 1, (0, 0, 0, 0), []), (33, .invokevirtual 279, 3, (3, 205, 11, 0), [1486, 98, 1484]), (36, .iload_n 2, 1, (0, 0, 0, 0), []), (37, .iconst 0, 1, (0, 0, 0, 0), []), (38, .aload_n 0, 1, (0, 0, 0, 0), []), (39, .getfield 251, 3, (0, 11, 37, 0), [1161]), (42, .iconst 1, 1, (0, 0, 0, 0), []), (43, .isub, 1, (0, 0, 0, 0), []), (44, .invokestatic 120, 3, (3, 152, 0, 0), [1291, 1290]), (47, .ifCond .ne 5, 3, (0, 0, 0, 0), []), (50, .iconst (-1), 1, (0, 0, 0, 0), []), (51, .ireturn, 1, (0, 0, 0, 0), []), (52, .ldc_w 282, 3, (6, 0, 0, (-1000000000)), [1517]), (55, .istore_n 3, 1, (0, 0, 0, 0), []), (56, .ldc_w 283, 3, (6, 0, 0, 1000000000), [1518]), (59, .istore 4, 2, (0, 0, 0, 0), []), (61, .iload 4, 2, (0, 0, 0, 0), []), (63, .iload_n 3, 1, (0, 0, 0, 0), [])]
def mc_X11_says_2 : List ax_EN := [(64, .isub, 1, (0, 0, 0, 0), []), (65, .iconst 1, 1, (0, 0, 0, 0), []), (66, .if_icmp .le 75, 3, (0, 0, 0, 0), []), (69, .iload_n 3, 1, (0, 0, 0, 0), []), (70, .iload 4, 2, (0, 0, 0, 0), []), (72, .iload_n 3, 1, (0, 0, 0, 0), []), (73, .isub, 1, (0, 0, 0, 0), []), (74, .iconst 2, 1, (0, 0, 0, 0), []), (75, .idiv, 1, (0, 0, 0, 0), []), (76, .iadd, 1, (0, 0, 0, 0), []), (77, .istore 5, 2, (0, 0, 0, 0), []), (79, .iconst 0, 1, (0, 0, 0, 0), []), (80, .istore 6, 2, (0, 0, 0, 0), []), (82, .iconst 0, 1, (0, 0, 0, 0), []), (83, .istore 7, 2, (0, 0, 0, 0), []), (85, .iload 7, 2, (0, 0, 0, 0), []), (87, .aload_n 0, 1, (0, 0, 0, 0), []), (88, .getfield 251, 3, (0, 11, 37, 0), [1161]), (91, .if_icmp .ge 31, 3, (0, 0, 0, 0), []), (94, .iload 6, 2, (0, 0, 0, 0), [])]
def mc_X11_says_3 : List ax_EN := [(96, .aload_n 0, 1, (0, 0, 0, 0), []), (97, .getfield 91, 3, (0, 11, 38, 0), [1162]), (100, .iload 7, 2, (0, 0, 0, 0), []), (102, .iaload, 1, (0, 0, 0, 0), []), (103, .iload 5, 2, (0, 0, 0, 0), []), (105, .if_icmp .ge 7, 3, (0, 0, 0, 0), []), (108, .iconst 1, 1, (0, 0, 0, 0), []), (109, .goto 4, 3, (0, 0, 0, 0), []), (112, .iconst 0, 1, (0, 0, 0, 0), []), (113, .iadd, 1, (0, 0, 0, 0), []), (114, .istore 6, 2, (0, 0, 0, 0), []), (116, .iinc 7 1, 3, (0, 0, 0, 0), []), (119, .goto (-34), 3, (0, 0, 0, 0), []), (122, .iload 6, 2, (0, 0, 0, 0), []), (124, .iload_n 2, 1, (0, 0, 0, 0), []), (125, .if_icmp .gt 9, 3, (0, 0, 0, 0), [])]
def mc_X11_says_4 : List ax_EN := [(128, .iload 5, 2, (0, 0, 0, 0), []), (130, .istore_n 3, 1, (0, 0, 0, 0), []), (131, .goto 7, 3, (0, 0, 0, 0), []), (134, .iload 5, 2, (0, 0, 0, 0), []), (136, .istore 4, 2, (0, 0, 0, 0), []), (138, .goto (-77), 3, (0, 0, 0, 0), []), (141, .iload_n 3, 1, (0, 0, 0, 0), []), (142, .ireturn, 1, (0, 0, 0, 0), [])]
def mt_X11_says : ax_MI := (RX11, yX11_says, cX11_says, 8, (some .int), 2, 0, 0, [mc_X11_says_0, mc_X11_says_1, mc_X11_says_2, mc_X11_says_3, mc_X11_says_4])
def mc_X11_sure_0 : List ax_EN := [(0, .aload_n 0, 1, (0, 0, 0, 0), []), (1, .iload_n 1, 1, (0, 0, 0, 0), []), (2, .invokevirtual 138, 3, (3, 160, 11, 0), [1307, 78, 1305]), (5, .ifCond .ne 6, 3, (0, 0, 0, 0), []), (8, .bipush (-101), 2, (0, 0, 0, 0), []), (10, .ireturn, 1, (0, 0, 0, 0), []), (11, .iload_n 2, 1, (0, 0, 0, 0), []), (12, .iconst 0, 1, (0, 0, 0, 0), []), (13, .bipush 19, 2, (0, 0, 0, 0), []), (15, .invokestatic 120, 3, (3, 152, 0, 0), [1291, 1290]), (18, .ifCond .ne 6, 3, (0, 0, 0, 0), []), (21, .bipush (-102), 2, (0, 0, 0, 0), []), (23, .ireturn, 1, (0, 0, 0, 0), []), (24, .aload_n 0, 1, (0, 0, 0, 0), []), (25, .invokevirtual 275, 3, (3, 211, 11, 0), [1482, 97, 1480]), (28, .ifCond .eq 6, 3, (0, 0, 0, 0), []), (31, .bipush (-103), 2, (0, 0, 0, 0), [])]
def mc_X11_sure_1 : List ax_EN := [(33, .ireturn, 1, (0, 0, 0, 0), []), (34, .aload_n 0, 1, (0, 0, 0, 0), []), (35, .dup, 1, (0, 0, 0, 0), []), (36, .getfield 272, 3, (0, 11, 24, 0), [1148]), (39, .iconst 1, 1, (0, 0, 0, 0), []), (40, .iadd, 1, (0, 0, 0, 0), []), (41, .putfield 272, 3, (0, 11, 24, 0), [1148]), (44, .aload_n 0, 1, (0, 0, 0, 0), []), (45, .iload_n 1, 1, (0, 0, 0, 0), []), (46, .invokevirtual 279, 3, (3, 205, 11, 0), [1486, 98, 1484]), (49, .iload_n 2, 1, (0, 0, 0, 0), []), (50, .aload_n 0, 1, (0, 0, 0, 0), []), (51, .getfield 244, 3, (0, 11, 14, 0), [1138]), (54, .if_icmp .ge 23, 3, (0, 0, 0, 0), []), (57, .aload_n 0, 1, (0, 0, 0, 0), []), (58, .getfield 98, 3, (0, 11, 40, 0), [1164]), (61, .iload_n 2, 1, (0, 0, 0, 0), []), (62, .iaload, 1, (0, 0, 0, 0), []), (63, .bipush 14, 2, (0, 0, 0, 0), [])]
def mc_X11_sure_2 : List ax_EN := [(65, .if_icmp .eq 12, 3, (0, 0, 0, 0), []), (68, .aload_n 0, 1, (0, 0, 0, 0), []), (69, .getfield 98, 3, (0, 11, 40, 0), [1164]), (72, .iload_n 2, 1, (0, 0, 0, 0), []), (73, .iaload, 1, (0, 0, 0, 0), []), (74, .goto 4, 3, (0, 0, 0, 0), []), (77, .iconst (-1), 1, (0, 0, 0, 0), []), (78, .ireturn, 1, (0, 0, 0, 0), [])]
def mt_X11_sure : ax_MI := (RX11, yX11_sure, cX11_sure, 3, (some .int), 2, 0, 0, [mc_X11_sure_0, mc_X11_sure_1, mc_X11_sure_2])
def mc_X11_isMason_0 : List ax_EN := [(0, .iload_n 0, 1, (0, 0, 0, 0), []), (1, .iconst 0, 1, (0, 0, 0, 0), []), (2, .iconst 5, 1, (0, 0, 0, 0), []), (3, .invokestatic 120, 3, (3, 152, 0, 0), [1291, 1290]), (6, .ireturn, 1, (0, 0, 0, 0), [])]
def mt_X11_isMason : ax_MI := (RX11, yX11_isMason, cX11_isMason, 1, (some .boolean), 1, 0, 0, [mc_X11_isMason_0])
def mc_X11_note_0 : List ax_EN := [(0, .iload_n 1, 1, (0, 0, 0, 0), []), (1, .invokestatic 284, 3, (3, 215, 0, 0), [1528, 1527]), (4, .ifCond .eq 10, 3, (0, 0, 0, 0), []), (7, .iload_n 2, 1, (0, 0, 0, 0), []), (8, .invokestatic 142, 3, (3, 162, 0, 0), [1314, 1313]), (11, .ifCond .ne 6, 3, (0, 0, 0, 0), []), (14, .bipush (-101), 2, (0, 0, 0, 0), []), (16, .ireturn, 1, (0, 0, 0, 0), []), (17, .aload_n 0, 1, (0, 0, 0, 0), []), (18, .getfield 51, 3, (0, 11, 17, 0), [1141]), (21, .iload_n 1, 1, (0, 0, 0, 0), []), (22, .iaload, 1, (0, 0, 0, 0), []), (23, .bipush 30, 2, (0, 0, 0, 0), []), (25, .if_icmp .ne 6, 3, (0, 0, 0, 0), []), (28, .bipush (-104), 2, (0, 0, 0, 0), []), (30, .ireturn, 1, (0, 0, 0, 0), []), (31, .bipush 30, 2, (0, 0, 0, 0), [])]
def mc_X11_note_1 : List ax_EN := [(33, .iload_n 1, 1, (0, 0, 0, 0), []), (34, .imul, 1, (0, 0, 0, 0), []), (35, .aload_n 0, 1, (0, 0, 0, 0), []), (36, .getfield 51, 3, (0, 11, 17, 0), [1141]), (39, .iload_n 1, 1, (0, 0, 0, 0), []), (40, .iaload, 1, (0, 0, 0, 0), []), (41, .iadd, 1, (0, 0, 0, 0), []), (42, .istore_n 3, 1, (0, 0, 0, 0), []), (43, .aload_n 0, 1, (0, 0, 0, 0), []), (44, .getfield 54, 3, (0, 11, 18, 0), [1142]), (47, .iload_n 3, 1, (0, 0, 0, 0), []), (48, .aload_n 0, 1, (0, 0, 0, 0), []), (49, .getfield 33, 3, (0, 11, 8, 0), [1132]), (52, .iload_n 2, 1, (0, 0, 0, 0), []), (53, .iaload, 1, (0, 0, 0, 0), []), (54, .iastore, 1, (0, 0, 0, 0), []), (55, .iconst 0, 1, (0, 0, 0, 0), []), (56, .istore 4, 2, (0, 0, 0, 0), []), (58, .iload 4, 2, (0, 0, 0, 0), []), (60, .aload_n 0, 1, (0, 0, 0, 0), []), (61, .getfield 33, 3, (0, 11, 8, 0), [1132])]
def mc_X11_note_2 : List ax_EN := [(64, .iload_n 2, 1, (0, 0, 0, 0), []), (65, .iaload, 1, (0, 0, 0, 0), []), (66, .if_icmp .ge 33, 3, (0, 0, 0, 0), []), (69, .aload_n 0, 1, (0, 0, 0, 0), []), (70, .getfield 57, 3, (0, 11, 19, 0), [1143]), (73, .bipush 24, 2, (0, 0, 0, 0), []), (75, .iload_n 3, 1, (0, 0, 0, 0), []), (76, .imul, 1, (0, 0, 0, 0), []), (77, .iload 4, 2, (0, 0, 0, 0), []), (79, .iadd, 1, (0, 0, 0, 0), []), (80, .aload_n 0, 1, (0, 0, 0, 0), []), (81, .getfield 36, 3, (0, 11, 9, 0), [1133]), (84, .bipush 24, 2, (0, 0, 0, 0), []), (86, .iload_n 2, 1, (0, 0, 0, 0), []), (87, .imul, 1, (0, 0, 0, 0), []), (88, .iload 4, 2, (0, 0, 0, 0), []), (90, .iadd, 1, (0, 0, 0, 0), []), (91, .iaload, 1, (0, 0, 0, 0), []), (92, .iastore, 1, (0, 0, 0, 0), []), (93, .iinc 4 1, 3, (0, 0, 0, 0), [])]
def mc_X11_note_3 : List ax_EN := [(96, .goto (-38), 3, (0, 0, 0, 0), []), (99, .aload_n 0, 1, (0, 0, 0, 0), []), (100, .getfield 51, 3, (0, 11, 17, 0), [1141]), (103, .iload_n 1, 1, (0, 0, 0, 0), []), (104, .dup2, 1, (0, 0, 0, 0), []), (105, .iaload, 1, (0, 0, 0, 0), []), (106, .iconst 1, 1, (0, 0, 0, 0), []), (107, .iadd, 1, (0, 0, 0, 0), []), (108, .iastore, 1, (0, 0, 0, 0), []), (109, .aload_n 0, 1, (0, 0, 0, 0), []), (110, .getfield 51, 3, (0, 11, 17, 0), [1141]), (113, .iload_n 1, 1, (0, 0, 0, 0), []), (114, .iaload, 1, (0, 0, 0, 0), []), (115, .ireturn, 1, (0, 0, 0, 0), [])]
def mt_X11_note : ax_MI := (RX11, yX11_note, cX11_note, 5, (some .int), 2, 0, 0, [mc_X11_note_0, mc_X11_note_1, mc_X11_note_2, mc_X11_note_3])
def mc_X11_habitOf_0 : List ax_EN := [(0, .iconst 0, 1, (0, 0, 0, 0), []), (1, .istore_n 2, 1, (0, 0, 0, 0), []), (2, .iconst 0, 1, (0, 0, 0, 0), []), (3, .istore_n 3, 1, (0, 0, 0, 0), []), (4, .iload_n 3, 1, (0, 0, 0, 0), []), (5, .aload_n 0, 1, (0, 0, 0, 0), []), (6, .getfield 113, 3, (0, 11, 4, 0), [1128]), (9, .if_icmp .ge 85, 3, (0, 0, 0, 0), []), (12, .iconst 1, 1, (0, 0, 0, 0), []), (13, .istore 4, 2, (0, 0, 0, 0), []), (15, .iconst 0, 1, (0, 0, 0, 0), []), (16, .istore 5, 2, (0, 0, 0, 0), []), (18, .iload 5, 2, (0, 0, 0, 0), []), (20, .aload_n 0, 1, (0, 0, 0, 0), []), (21, .getfield 51, 3, (0, 11, 17, 0), [1141]), (24, .iload_n 1, 1, (0, 0, 0, 0), []), (25, .iaload, 1, (0, 0, 0, 0), []), (26, .if_icmp .ge 47, 3, (0, 0, 0, 0), []), (29, .iload 4, 2, (0, 0, 0, 0), []), (31, .ifCond .eq 42, 3, (0, 0, 0, 0), [])]
def mc_X11_habitOf_1 : List ax_EN := [(34, .bipush 30, 2, (0, 0, 0, 0), []), (36, .iload_n 1, 1, (0, 0, 0, 0), []), (37, .imul, 1, (0, 0, 0, 0), []), (38, .iload 5, 2, (0, 0, 0, 0), []), (40, .iadd, 1, (0, 0, 0, 0), []), (41, .istore 6, 2, (0, 0, 0, 0), []), (43, .aload_n 0, 1, (0, 0, 0, 0), []), (44, .aload_n 0, 1, (0, 0, 0, 0), []), (45, .getfield 57, 3, (0, 11, 19, 0), [1143]), (48, .bipush 24, 2, (0, 0, 0, 0), []), (50, .iload 6, 2, (0, 0, 0, 0), []), (52, .imul, 1, (0, 0, 0, 0), []), (53, .aload_n 0, 1, (0, 0, 0, 0), []), (54, .getfield 54, 3, (0, 11, 18, 0), [1142]), (57, .iload 6, 2, (0, 0, 0, 0), []), (59, .iaload, 1, (0, 0, 0, 0), []), (60, .iload_n 3, 1, (0, 0, 0, 0), []), (61, .iconst 1, 1, (0, 0, 0, 0), []), (62, .invokevirtual 162, 3, (3, 168, 11, 0), [1338, 80, 1336])]
def mc_X11_habitOf_2 : List ax_EN := [(65, .istore 4, 2, (0, 0, 0, 0), []), (67, .iinc 5 1, 3, (0, 0, 0, 0), []), (70, .goto (-52), 3, (0, 0, 0, 0), []), (73, .iload_n 2, 1, (0, 0, 0, 0), []), (74, .iload 4, 2, (0, 0, 0, 0), []), (76, .ifCond .eq 9, 3, (0, 0, 0, 0), []), (79, .iconst 1, 1, (0, 0, 0, 0), []), (80, .iload_n 3, 1, (0, 0, 0, 0), []), (81, .ishl, 1, (0, 0, 0, 0), []), (82, .goto 4, 3, (0, 0, 0, 0), []), (85, .iconst 0, 1, (0, 0, 0, 0), []), (86, .ior, 1, (0, 0, 0, 0), []), (87, .istore_n 2, 1, (0, 0, 0, 0), []), (88, .iinc 3 1, 3, (0, 0, 0, 0), []), (91, .goto (-87), 3, (0, 0, 0, 0), []), (94, .iload_n 2, 1, (0, 0, 0, 0), []), (95, .ireturn, 1, (0, 0, 0, 0), [])]
def mt_X11_habitOf : ax_MI := (RX11, yX11_habitOf, cX11_habitOf, 7, (some .int), 1, 0, 0, [mc_X11_habitOf_0, mc_X11_habitOf_1, mc_X11_habitOf_2])
def mc_X11_habit_0 : List ax_EN := [(0, .iload_n 1, 1, (0, 0, 0, 0), []), (1, .invokestatic 284, 3, (3, 215, 0, 0), [1528, 1527]), (4, .ifCond .eq 11, 3, (0, 0, 0, 0), []), (7, .aload_n 0, 1, (0, 0, 0, 0), []), (8, .iload_n 1, 1, (0, 0, 0, 0), []), (9, .invokevirtual 287, 3, (3, 217, 11, 0), [1536, 105, 1534]), (12, .goto 5, 3, (0, 0, 0, 0), []), (15, .bipush (-101), 2, (0, 0, 0, 0), []), (17, .ireturn, 1, (0, 0, 0, 0), [])]
def mt_X11_habit : ax_MI := (RX11, yX11_habit, cX11_habit, 2, (some .int), 1, 0, 0, [mc_X11_habit_0])
def mc_X11_hands_0 : List ax_EN := [(0, .iload_n 1, 1, (0, 0, 0, 0), []), (1, .invokestatic 142, 3, (3, 162, 0, 0), [1314, 1313]), (4, .ifCond .ne 6, 3, (0, 0, 0, 0), []), (7, .bipush (-101), 2, (0, 0, 0, 0), []), (9, .ireturn, 1, (0, 0, 0, 0), []), (10, .iconst 0, 1, (0, 0, 0, 0), []), (11, .istore_n 2, 1, (0, 0, 0, 0), []), (12, .iconst 0, 1, (0, 0, 0, 0), []), (13, .istore_n 3, 1, (0, 0, 0, 0), []), (14, .iload_n 3, 1, (0, 0, 0, 0), []), (15, .aload_n 0, 1, (0, 0, 0, 0), []), (16, .getfield 113, 3, (0, 11, 4, 0), [1128]), (19, .if_icmp .ge 42, 3, (0, 0, 0, 0), []), (22, .iload_n 2, 1, (0, 0, 0, 0), []), (23, .aload_n 0, 1, (0, 0, 0, 0), []), (24, .aload_n 0, 1, (0, 0, 0, 0), []), (25, .getfield 36, 3, (0, 11, 9, 0), [1133]), (28, .bipush 24, 2, (0, 0, 0, 0), []), (30, .iload_n 1, 1, (0, 0, 0, 0), []), (31, .imul, 1, (0, 0, 0, 0), [])]
def mc_X11_hands_1 : List ax_EN := [(32, .aload_n 0, 1, (0, 0, 0, 0), []), (33, .getfield 33, 3, (0, 11, 8, 0), [1132]), (36, .iload_n 1, 1, (0, 0, 0, 0), []), (37, .iaload, 1, (0, 0, 0, 0), []), (38, .iload_n 3, 1, (0, 0, 0, 0), []), (39, .iconst 1, 1, (0, 0, 0, 0), []), (40, .invokevirtual 162, 3, (3, 168, 11, 0), [1338, 80, 1336]), (43, .ifCond .eq 9, 3, (0, 0, 0, 0), []), (46, .iconst 1, 1, (0, 0, 0, 0), []), (47, .iload_n 3, 1, (0, 0, 0, 0), []), (48, .ishl, 1, (0, 0, 0, 0), []), (49, .goto 4, 3, (0, 0, 0, 0), []), (52, .iconst 0, 1, (0, 0, 0, 0), []), (53, .ior, 1, (0, 0, 0, 0), []), (54, .istore_n 2, 1, (0, 0, 0, 0), []), (55, .iinc 3 1, 3, (0, 0, 0, 0), []), (58, .goto (-44), 3, (0, 0, 0, 0), []), (61, .iconst 0, 1, (0, 0, 0, 0), []), (62, .istore_n 3, 1, (0, 0, 0, 0), []), (63, .iconst 0, 1, (0, 0, 0, 0), [])]
def mc_X11_hands_2 : List ax_EN := [(64, .istore 4, 2, (0, 0, 0, 0), []), (66, .iload 4, 2, (0, 0, 0, 0), []), (68, .bipush 6, 2, (0, 0, 0, 0), []), (70, .if_icmp .ge 31, 3, (0, 0, 0, 0), []), (73, .iload_n 3, 1, (0, 0, 0, 0), []), (74, .aload_n 0, 1, (0, 0, 0, 0), []), (75, .iload 4, 2, (0, 0, 0, 0), []), (77, .invokevirtual 287, 3, (3, 217, 11, 0), [1536, 105, 1534]), (80, .iload_n 2, 1, (0, 0, 0, 0), []), (81, .iand, 1, (0, 0, 0, 0), []), (82, .ifCond .eq 10, 3, (0, 0, 0, 0), []), (85, .iconst 1, 1, (0, 0, 0, 0), []), (86, .iload 4, 2, (0, 0, 0, 0), []), (88, .ishl, 1, (0, 0, 0, 0), []), (89, .goto 4, 3, (0, 0, 0, 0), []), (92, .iconst 0, 1, (0, 0, 0, 0), []), (93, .ior, 1, (0, 0, 0, 0), []), (94, .istore_n 3, 1, (0, 0, 0, 0), []), (95, .iinc 4 1, 3, (0, 0, 0, 0), [])]
def mc_X11_hands_3 : List ax_EN := [(98, .goto (-32), 3, (0, 0, 0, 0), []), (101, .iload_n 3, 1, (0, 0, 0, 0), []), (102, .ireturn, 1, (0, 0, 0, 0), [])]
def mt_X11_hands : ax_MI := (RX11, yX11_hands, cX11_hands, 5, (some .int), 1, 0, 0, [mc_X11_hands_0, mc_X11_hands_1, mc_X11_hands_2, mc_X11_hands_3])
def mc_X11_line_0 : List ax_EN := [(0, .iload_n 1, 1, (0, 0, 0, 0), []), (1, .invokestatic 142, 3, (3, 162, 0, 0), [1314, 1313]), (4, .ifCond .eq 10, 3, (0, 0, 0, 0), []), (7, .iload_n 2, 1, (0, 0, 0, 0), []), (8, .invokestatic 142, 3, (3, 162, 0, 0), [1314, 1313]), (11, .ifCond .ne 6, 3, (0, 0, 0, 0), []), (14, .bipush (-101), 2, (0, 0, 0, 0), []), (16, .ireturn, 1, (0, 0, 0, 0), []), (17, .aload_n 0, 1, (0, 0, 0, 0), []), (18, .getfield 290, 3, (0, 11, 20, 0), [1144]), (21, .bipush 20, 2, (0, 0, 0, 0), []), (23, .if_icmp .ne 6, 3, (0, 0, 0, 0), []), (26, .bipush (-104), 2, (0, 0, 0, 0), []), (28, .ireturn, 1, (0, 0, 0, 0), []), (29, .aload_n 0, 1, (0, 0, 0, 0), []), (30, .iconst 2, 1, (0, 0, 0, 0), []), (31, .aload_n 0, 1, (0, 0, 0, 0), [])]
def mc_X11_line_1 : List ax_EN := [(32, .getfield 290, 3, (0, 11, 20, 0), [1144]), (35, .imul, 1, (0, 0, 0, 0), []), (36, .iload_n 1, 1, (0, 0, 0, 0), []), (37, .invokevirtual 293, 3, (3, 221, 11, 0), [1548, 106, 1546]), (40, .aload_n 0, 1, (0, 0, 0, 0), []), (41, .iconst 2, 1, (0, 0, 0, 0), []), (42, .aload_n 0, 1, (0, 0, 0, 0), []), (43, .getfield 290, 3, (0, 11, 20, 0), [1144]), (46, .imul, 1, (0, 0, 0, 0), []), (47, .iconst 1, 1, (0, 0, 0, 0), []), (48, .iadd, 1, (0, 0, 0, 0), []), (49, .iload_n 2, 1, (0, 0, 0, 0), []), (50, .invokevirtual 293, 3, (3, 221, 11, 0), [1548, 106, 1546]), (53, .aload_n 0, 1, (0, 0, 0, 0), []), (54, .dup, 1, (0, 0, 0, 0), []), (55, .getfield 290, 3, (0, 11, 20, 0), [1144]), (58, .iconst 1, 1, (0, 0, 0, 0), []), (59, .iadd, 1, (0, 0, 0, 0), []), (60, .putfield 290, 3, (0, 11, 20, 0), [1144]), (63, .aload_n 0, 1, (0, 0, 0, 0), [])]
def mc_X11_line_2 : List ax_EN := [(64, .getfield 290, 3, (0, 11, 20, 0), [1144]), (67, .ireturn, 1, (0, 0, 0, 0), [])]
def mt_X11_line : ax_MI := (RX11, yX11_line, cX11_line, 3, (some .int), 2, 0, 0, [mc_X11_line_0, mc_X11_line_1, mc_X11_line_2])
def mc_X11_layLine_0 : List ax_EN := [(0, .aload_n 0, 1, (0, 0, 0, 0), []), (1, .getfield 60, 3, (0, 11, 21, 0), [1145]), (4, .iload_n 1, 1, (0, 0, 0, 0), []), (5, .aload_n 0, 1, (0, 0, 0, 0), []), (6, .getfield 33, 3, (0, 11, 8, 0), [1132]), (9, .iload_n 2, 1, (0, 0, 0, 0), []), (10, .iaload, 1, (0, 0, 0, 0), []), (11, .iastore, 1, (0, 0, 0, 0), []), (12, .iconst 0, 1, (0, 0, 0, 0), []), (13, .istore_n 3, 1, (0, 0, 0, 0), []), (14, .iload_n 3, 1, (0, 0, 0, 0), []), (15, .aload_n 0, 1, (0, 0, 0, 0), []), (16, .getfield 33, 3, (0, 11, 8, 0), [1132]), (19, .iload_n 2, 1, (0, 0, 0, 0), []), (20, .iaload, 1, (0, 0, 0, 0), []), (21, .if_icmp .ge 31, 3, (0, 0, 0, 0), []), (24, .aload_n 0, 1, (0, 0, 0, 0), []), (25, .getfield 63, 3, (0, 11, 22, 0), [1146]), (28, .bipush 24, 2, (0, 0, 0, 0), []), (30, .iload_n 1, 1, (0, 0, 0, 0), []), (31, .imul, 1, (0, 0, 0, 0), [])]
def mc_X11_layLine_1 : List ax_EN := [(32, .iload_n 3, 1, (0, 0, 0, 0), []), (33, .iadd, 1, (0, 0, 0, 0), []), (34, .aload_n 0, 1, (0, 0, 0, 0), []), (35, .getfield 36, 3, (0, 11, 9, 0), [1133]), (38, .bipush 24, 2, (0, 0, 0, 0), []), (40, .iload_n 2, 1, (0, 0, 0, 0), []), (41, .imul, 1, (0, 0, 0, 0), []), (42, .iload_n 3, 1, (0, 0, 0, 0), []), (43, .iadd, 1, (0, 0, 0, 0), []), (44, .iaload, 1, (0, 0, 0, 0), []), (45, .iastore, 1, (0, 0, 0, 0), []), (46, .iinc 3 1, 3, (0, 0, 0, 0), []), (49, .goto (-35), 3, (0, 0, 0, 0), []), (52, .return_, 1, (0, 0, 0, 0), [])]
def mt_X11_layLine : ax_MI := (RX11, yX11_layLine, cX11_layLine, 4, none, 2, 0, 0, [mc_X11_layLine_0, mc_X11_layLine_1])
def mc_X11_tear_0 : List ax_EN := [(0, .aload_n 0, 1, (0, 0, 0, 0), []), (1, .getfield 290, 3, (0, 11, 20, 0), [1144]), (4, .istore_n 1, 1, (0, 0, 0, 0), []), (5, .aload_n 0, 1, (0, 0, 0, 0), []), (6, .iconst 0, 1, (0, 0, 0, 0), []), (7, .putfield 290, 3, (0, 11, 20, 0), [1144]), (10, .iload_n 1, 1, (0, 0, 0, 0), []), (11, .ireturn, 1, (0, 0, 0, 0), [])]
def mt_X11_tear : ax_MI := (RX11, yX11_tear, cX11_tear, 2, (some .int), 0, 0, 0, [mc_X11_tear_0])
def mc_X11_lineWorth_0 : List ax_EN := [(0, .aload_n 0, 1, (0, 0, 0, 0), []), (1, .aload_n 0, 1, (0, 0, 0, 0), []), (2, .getfield 63, 3, (0, 11, 22, 0), [1146]), (5, .bipush 24, 2, (0, 0, 0, 0), []), (7, .iload_n 1, 1, (0, 0, 0, 0), []), (8, .imul, 1, (0, 0, 0, 0), []), (9, .aload_n 0, 1, (0, 0, 0, 0), []), (10, .getfield 60, 3, (0, 11, 21, 0), [1145]), (13, .iload_n 1, 1, (0, 0, 0, 0), []), (14, .iaload, 1, (0, 0, 0, 0), []), (15, .invokevirtual 149, 3, (3, 166, 11, 0), [1326, 79, 1324]), (18, .ireturn, 1, (0, 0, 0, 0), [])]
def mt_X11_lineWorth : ax_MI := (RX11, yX11_lineWorth, cX11_lineWorth, 2, (some .int), 1, 0, 0, [mc_X11_lineWorth_0])
def mc_X11_ahead_0 : List ax_EN := [(0, .iload_n 1, 1, (0, 0, 0, 0), []), (1, .ifCond .ne 7, 3, (0, 0, 0, 0), []), (4, .iconst 0, 1, (0, 0, 0, 0), []), (5, .goto 12, 3, (0, 0, 0, 0), []), (8, .aload_n 0, 1, (0, 0, 0, 0), []), (9, .iconst 2, 1, (0, 0, 0, 0), []), (10, .iload_n 1, 1, (0, 0, 0, 0), []), (11, .imul, 1, (0, 0, 0, 0), []), (12, .iconst 1, 1, (0, 0, 0, 0), []), (13, .isub, 1, (0, 0, 0, 0), []), (14, .invokevirtual 296, 3, (3, 223, 11, 0), [1564, 108, 1562]), (17, .ireturn, 1, (0, 0, 0, 0), [])]
def mt_X11_ahead : ax_MI := (RX11, yX11_ahead, cX11_ahead, 2, (some .int), 1, 0, 0, [mc_X11_ahead_0])
def mc_X11_wrongAt_0 : List ax_EN := [(0, .iconst 0, 1, (0, 0, 0, 0), []), (1, .istore_n 1, 1, (0, 0, 0, 0), []), (2, .iload_n 1, 1, (0, 0, 0, 0), []), (3, .aload_n 0, 1, (0, 0, 0, 0), []), (4, .getfield 290, 3, (0, 11, 20, 0), [1144]), (7, .if_icmp .ge 36, 3, (0, 0, 0, 0), []), (10, .aload_n 0, 1, (0, 0, 0, 0), []), (11, .iconst 2, 1, (0, 0, 0, 0), []), (12, .iload_n 1, 1, (0, 0, 0, 0), []), (13, .imul, 1, (0, 0, 0, 0), []), (14, .iconst 1, 1, (0, 0, 0, 0), []), (15, .iadd, 1, (0, 0, 0, 0), []), (16, .invokevirtual 296, 3, (3, 223, 11, 0), [1564, 108, 1562]), (19, .aload_n 0, 1, (0, 0, 0, 0), []), (20, .iconst 2, 1, (0, 0, 0, 0), []), (21, .iload_n 1, 1, (0, 0, 0, 0), []), (22, .imul, 1, (0, 0, 0, 0), []), (23, .invokevirtual 296, 3, (3, 223, 11, 0), [1564, 108, 1562]), (26, .aload_n 0, 1, (0, 0, 0, 0), []), (27, .iload_n 1, 1, (0, 0, 0, 0), []), (28, .invokevirtual 299, 3, (3, 224, 11, 0), [1568, 109, 1566]), (31, .iadd, 1, (0, 0, 0, 0), [])]
def mc_X11_wrongAt_1 : List ax_EN := [(32, .if_icmp .eq 5, 3, (0, 0, 0, 0), []), (35, .iload_n 1, 1, (0, 0, 0, 0), []), (36, .ireturn, 1, (0, 0, 0, 0), []), (37, .iinc 1 1, 3, (0, 0, 0, 0), []), (40, .goto (-38), 3, (0, 0, 0, 0), []), (43, .iconst (-1), 1, (0, 0, 0, 0), []), (44, .ireturn, 1, (0, 0, 0, 0), [])]
def mt_X11_wrongAt : ax_MI := (RX11, yX11_wrongAt, cX11_wrongAt, 2, (some .int), 0, 0, 0, [mc_X11_wrongAt_0, mc_X11_wrongAt_1])
def mc_X11_wrong_0 : List ax_EN := [(0, .aload_n 0, 1, (0, 0, 0, 0), []), (1, .invokevirtual 302, 3, (3, 225, 11, 0), [1560, 107, 1558]), (4, .ireturn, 1, (0, 0, 0, 0), [])]
def mt_X11_wrong : ax_MI := (RX11, yX11_wrong, cX11_wrong, 1, (some .int), 0, 0, 0, [mc_X11_wrong_0])
def mc_X11_mended_0 : List ax_EN := [(0, .aload_n 0, 1, (0, 0, 0, 0), []), (1, .invokevirtual 302, 3, (3, 225, 11, 0), [1560, 107, 1558]), (4, .istore_n 1, 1, (0, 0, 0, 0), []), (5, .iconst 0, 1, (0, 0, 0, 0), []), (6, .istore_n 2, 1, (0, 0, 0, 0), []), (7, .iconst 0, 1, (0, 0, 0, 0), []), (8, .istore_n 3, 1, (0, 0, 0, 0), []), (9, .iload_n 3, 1, (0, 0, 0, 0), []), (10, .aload_n 0, 1, (0, 0, 0, 0), []), (11, .getfield 290, 3, (0, 11, 20, 0), [1144]), (14, .if_icmp .ge 44, 3, (0, 0, 0, 0), []), (17, .iload_n 1, 1, (0, 0, 0, 0), []), (18, .iconst (-1), 1, (0, 0, 0, 0), []), (19, .if_icmp .eq 39, 3, (0, 0, 0, 0), []), (22, .iload_n 2, 1, (0, 0, 0, 0), []), (23, .aload_n 0, 1, (0, 0, 0, 0), []), (24, .iconst 2, 1, (0, 0, 0, 0), []), (25, .iload_n 3, 1, (0, 0, 0, 0), []), (26, .imul, 1, (0, 0, 0, 0), []), (27, .invokevirtual 296, 3, (3, 223, 11, 0), [1564, 108, 1562]), (30, .iadd, 1, (0, 0, 0, 0), []), (31, .istore_n 2, 1, (0, 0, 0, 0), [])]
def mc_X11_mended_1 : List ax_EN := [(32, .iload_n 3, 1, (0, 0, 0, 0), []), (33, .iload_n 1, 1, (0, 0, 0, 0), []), (34, .if_icmp .le 18, 3, (0, 0, 0, 0), []), (37, .aload_n 0, 1, (0, 0, 0, 0), []), (38, .iconst 2, 1, (0, 0, 0, 0), []), (39, .iload_n 3, 1, (0, 0, 0, 0), []), (40, .imul, 1, (0, 0, 0, 0), []), (41, .iconst 1, 1, (0, 0, 0, 0), []), (42, .iadd, 1, (0, 0, 0, 0), []), (43, .invokevirtual 296, 3, (3, 223, 11, 0), [1564, 108, 1562]), (46, .iload_n 2, 1, (0, 0, 0, 0), []), (47, .if_icmp .ne 5, 3, (0, 0, 0, 0), []), (50, .iload_n 3, 1, (0, 0, 0, 0), []), (51, .ireturn, 1, (0, 0, 0, 0), []), (52, .iinc 3 1, 3, (0, 0, 0, 0), []), (55, .goto (-46), 3, (0, 0, 0, 0), []), (58, .iconst (-1), 1, (0, 0, 0, 0), []), (59, .ireturn, 1, (0, 0, 0, 0), [])]
def mt_X11_mended : ax_MI := (RX11, yX11_mended, cX11_mended, 4, (some .int), 0, 0, 0, [mc_X11_mended_0, mc_X11_mended_1])
def mc_X11_putRight_0 : List ax_EN := [(0, .iconst 0, 1, (0, 0, 0, 0), []), (1, .istore 5, 2, (0, 0, 0, 0), []), (3, .iconst 0, 1, (0, 0, 0, 0), []), (4, .istore 6, 2, (0, 0, 0, 0), []), (6, .iload 6, 2, (0, 0, 0, 0), []), (8, .aload_n 0, 1, (0, 0, 0, 0), []), (9, .getfield 60, 3, (0, 11, 21, 0), [1145]), (12, .iload_n 1, 1, (0, 0, 0, 0), []), (13, .iaload, 1, (0, 0, 0, 0), []), (14, .if_icmp .gt 75, 3, (0, 0, 0, 0), []), (17, .iload 6, 2, (0, 0, 0, 0), []), (19, .iload_n 3, 1, (0, 0, 0, 0), []), (20, .if_icmp .ne 20, 3, (0, 0, 0, 0), []), (23, .iload_n 2, 1, (0, 0, 0, 0), []), (24, .iconst 1, 1, (0, 0, 0, 0), []), (25, .if_icmp .eq 15, 3, (0, 0, 0, 0), []), (28, .aload_n 0, 1, (0, 0, 0, 0), []), (29, .getfield 104, 3, (0, 11, 42, 0), [1166])]
def mc_X11_putRight_1 : List ax_EN := [(32, .iload 5, 2, (0, 0, 0, 0), []), (34, .iload 4, 2, (0, 0, 0, 0), []), (36, .iastore, 1, (0, 0, 0, 0), []), (37, .iinc 5 1, 3, (0, 0, 0, 0), []), (40, .iload 6, 2, (0, 0, 0, 0), []), (42, .aload_n 0, 1, (0, 0, 0, 0), []), (43, .getfield 60, 3, (0, 11, 21, 0), [1145]), (46, .iload_n 1, 1, (0, 0, 0, 0), []), (47, .iaload, 1, (0, 0, 0, 0), []), (48, .if_icmp .ge 35, 3, (0, 0, 0, 0), []), (51, .iload 6, 2, (0, 0, 0, 0), []), (53, .iload_n 3, 1, (0, 0, 0, 0), []), (54, .if_icmp .ne 7, 3, (0, 0, 0, 0), []), (57, .iload_n 2, 1, (0, 0, 0, 0), []), (58, .ifCond .ne 25, 3, (0, 0, 0, 0), []), (61, .aload_n 0, 1, (0, 0, 0, 0), []), (62, .getfield 104, 3, (0, 11, 42, 0), [1166])]
def mc_X11_putRight_2 : List ax_EN := [(65, .iload 5, 2, (0, 0, 0, 0), []), (67, .aload_n 0, 1, (0, 0, 0, 0), []), (68, .getfield 63, 3, (0, 11, 22, 0), [1146]), (71, .bipush 24, 2, (0, 0, 0, 0), []), (73, .iload_n 1, 1, (0, 0, 0, 0), []), (74, .imul, 1, (0, 0, 0, 0), []), (75, .iload 6, 2, (0, 0, 0, 0), []), (77, .iadd, 1, (0, 0, 0, 0), []), (78, .iaload, 1, (0, 0, 0, 0), []), (79, .iastore, 1, (0, 0, 0, 0), []), (80, .iinc 5 1, 3, (0, 0, 0, 0), []), (83, .iinc 6 1, 3, (0, 0, 0, 0), []), (86, .goto (-80), 3, (0, 0, 0, 0), []), (89, .iload 5, 2, (0, 0, 0, 0), []), (91, .ireturn, 1, (0, 0, 0, 0), [])]
def mt_X11_putRight : ax_MI := (RX11, yX11_putRight, cX11_putRight, 7, (some .int), 4, 0, 0, [mc_X11_putRight_0, mc_X11_putRight_1, mc_X11_putRight_2])
def mc_X11_isBy_0 : List ax_EN := [(0, .iconst 2, 1, (0, 0, 0, 0), []), (1, .iload_n 1, 1, (0, 0, 0, 0), []), (2, .imul, 1, (0, 0, 0, 0), []), (3, .iload_n 2, 1, (0, 0, 0, 0), []), (4, .iadd, 1, (0, 0, 0, 0), []), (5, .istore 6, 2, (0, 0, 0, 0), []), (7, .iload_n 3, 1, (0, 0, 0, 0), []), (8, .iconst 2, 1, (0, 0, 0, 0), []), (9, .if_icmp .ne 23, 3, (0, 0, 0, 0), []), (12, .aload_n 0, 1, (0, 0, 0, 0), []), (13, .getfield 63, 3, (0, 11, 22, 0), [1146]), (16, .bipush 24, 2, (0, 0, 0, 0), []), (18, .iload 6, 2, (0, 0, 0, 0), []), (20, .imul, 1, (0, 0, 0, 0), []), (21, .iload 4, 2, (0, 0, 0, 0), []), (23, .iadd, 1, (0, 0, 0, 0), []), (24, .iaload, 1, (0, 0, 0, 0), []), (25, .iload 5, 2, (0, 0, 0, 0), []), (27, .if_icmp .ne 5, 3, (0, 0, 0, 0), []), (30, .iconst 0, 1, (0, 0, 0, 0), []), (31, .ireturn, 1, (0, 0, 0, 0), [])]
def mc_X11_isBy_1 : List ax_EN := [(32, .aload_n 0, 1, (0, 0, 0, 0), []), (33, .aload_n 0, 1, (0, 0, 0, 0), []), (34, .getfield 104, 3, (0, 11, 42, 0), [1166]), (37, .iconst 0, 1, (0, 0, 0, 0), []), (38, .aload_n 0, 1, (0, 0, 0, 0), []), (39, .iload 6, 2, (0, 0, 0, 0), []), (41, .iload_n 3, 1, (0, 0, 0, 0), []), (42, .iload 4, 2, (0, 0, 0, 0), []), (44, .iload 5, 2, (0, 0, 0, 0), []), (46, .invokevirtual 305, 3, (3, 228, 11, 0), [1588, 112, 1586]), (49, .invokevirtual 149, 3, (3, 166, 11, 0), [1326, 79, 1324]), (52, .istore 7, 2, (0, 0, 0, 0), []), (54, .iload_n 2, 1, (0, 0, 0, 0), []), (55, .ifCond .ne 31, 3, (0, 0, 0, 0), []), (58, .aload_n 0, 1, (0, 0, 0, 0), []), (59, .iconst 2, 1, (0, 0, 0, 0), []), (60, .iload_n 1, 1, (0, 0, 0, 0), []), (61, .imul, 1, (0, 0, 0, 0), []), (62, .iconst 1, 1, (0, 0, 0, 0), []), (63, .iadd, 1, (0, 0, 0, 0), [])]
def mc_X11_isBy_2 : List ax_EN := [(64, .invokevirtual 296, 3, (3, 223, 11, 0), [1564, 108, 1562]), (67, .iload 7, 2, (0, 0, 0, 0), []), (69, .aload_n 0, 1, (0, 0, 0, 0), []), (70, .iload_n 1, 1, (0, 0, 0, 0), []), (71, .invokevirtual 299, 3, (3, 224, 11, 0), [1568, 109, 1566]), (74, .iadd, 1, (0, 0, 0, 0), []), (75, .if_icmp .ne 7, 3, (0, 0, 0, 0), []), (78, .iconst 1, 1, (0, 0, 0, 0), []), (79, .goto 30, 3, (0, 0, 0, 0), []), (82, .iconst 0, 1, (0, 0, 0, 0), []), (83, .goto 26, 3, (0, 0, 0, 0), []), (86, .iload 7, 2, (0, 0, 0, 0), []), (88, .aload_n 0, 1, (0, 0, 0, 0), []), (89, .iconst 2, 1, (0, 0, 0, 0), []), (90, .iload_n 1, 1, (0, 0, 0, 0), []), (91, .imul, 1, (0, 0, 0, 0), []), (92, .invokevirtual 296, 3, (3, 223, 11, 0), [1564, 108, 1562]), (95, .aload_n 0, 1, (0, 0, 0, 0), [])]
def mc_X11_isBy_3 : List ax_EN := [(96, .iload_n 1, 1, (0, 0, 0, 0), []), (97, .invokevirtual 299, 3, (3, 224, 11, 0), [1568, 109, 1566]), (100, .iadd, 1, (0, 0, 0, 0), []), (101, .if_icmp .ne 7, 3, (0, 0, 0, 0), []), (104, .iconst 1, 1, (0, 0, 0, 0), []), (105, .goto 4, 3, (0, 0, 0, 0), []), (108, .iconst 0, 1, (0, 0, 0, 0), []), (109, .ireturn, 1, (0, 0, 0, 0), [])]
def mt_X11_isBy : ax_MI := (RX11, yX11_isBy, cX11_isBy, 8, (some .boolean), 5, 0, 0, [mc_X11_isBy_0, mc_X11_isBy_1, mc_X11_isBy_2, mc_X11_isBy_3])
def mc_X11_seekSlip_0 : List ax_EN := [(0, .aload_n 0, 1, (0, 0, 0, 0), []), (1, .invokevirtual 302, 3, (3, 225, 11, 0), [1560, 107, 1558]), (4, .istore_n 1, 1, (0, 0, 0, 0), []), (5, .iconst 0, 1, (0, 0, 0, 0), []), (6, .istore_n 2, 1, (0, 0, 0, 0), []), (7, .iload_n 2, 1, (0, 0, 0, 0), []), (8, .iconst 2, 1, (0, 0, 0, 0), []), (9, .if_icmp .ge 184, 3, (0, 0, 0, 0), []), (12, .iload_n 1, 1, (0, 0, 0, 0), []), (13, .iconst (-1), 1, (0, 0, 0, 0), []), (14, .if_icmp .eq 179, 3, (0, 0, 0, 0), []), (17, .aload_n 0, 1, (0, 0, 0, 0), []), (18, .getfield 60, 3, (0, 11, 21, 0), [1145]), (21, .iconst 2, 1, (0, 0, 0, 0), []), (22, .iload_n 1, 1, (0, 0, 0, 0), []), (23, .imul, 1, (0, 0, 0, 0), []), (24, .iload_n 2, 1, (0, 0, 0, 0), []), (25, .iadd, 1, (0, 0, 0, 0), []), (26, .iaload, 1, (0, 0, 0, 0), []), (27, .istore_n 3, 1, (0, 0, 0, 0), []), (28, .iconst 0, 1, (0, 0, 0, 0), []), (29, .istore 4, 2, (0, 0, 0, 0), []), (31, .iload 4, 2, (0, 0, 0, 0), [])]
def mc_X11_seekSlip_1 : List ax_EN := [(33, .iconst 3, 1, (0, 0, 0, 0), []), (34, .if_icmp .ge 153, 3, (0, 0, 0, 0), []), (37, .iload 4, 2, (0, 0, 0, 0), []), (39, .ifCond .ne 17, 3, (0, 0, 0, 0), []), (42, .iload_n 3, 1, (0, 0, 0, 0), []), (43, .bipush 24, 2, (0, 0, 0, 0), []), (45, .if_icmp .ge 7, 3, (0, 0, 0, 0), []), (48, .iconst 1, 1, (0, 0, 0, 0), []), (49, .goto 23, 3, (0, 0, 0, 0), []), (52, .iconst 0, 1, (0, 0, 0, 0), []), (53, .goto 19, 3, (0, 0, 0, 0), []), (56, .iload 4, 2, (0, 0, 0, 0), []), (58, .iconst 2, 1, (0, 0, 0, 0), []), (59, .if_icmp .eq 8, 3, (0, 0, 0, 0), []), (62, .iload_n 3, 1, (0, 0, 0, 0), []), (63, .iconst 1, 1, (0, 0, 0, 0), [])]
def mc_X11_seekSlip_2 : List ax_EN := [(64, .if_icmp .le 7, 3, (0, 0, 0, 0), []), (67, .iconst 1, 1, (0, 0, 0, 0), []), (68, .goto 4, 3, (0, 0, 0, 0), []), (71, .iconst 0, 1, (0, 0, 0, 0), []), (72, .istore 5, 2, (0, 0, 0, 0), []), (74, .iconst 0, 1, (0, 0, 0, 0), []), (75, .istore 6, 2, (0, 0, 0, 0), []), (77, .iload 6, 2, (0, 0, 0, 0), []), (79, .iload 4, 2, (0, 0, 0, 0), []), (81, .ifCond .ne 9, 3, (0, 0, 0, 0), []), (84, .iload_n 3, 1, (0, 0, 0, 0), []), (85, .iconst 1, 1, (0, 0, 0, 0), []), (86, .iadd, 1, (0, 0, 0, 0), []), (87, .goto 4, 3, (0, 0, 0, 0), []), (90, .iload_n 3, 1, (0, 0, 0, 0), []), (91, .if_icmp .ge 90, 3, (0, 0, 0, 0), []), (94, .iload 5, 2, (0, 0, 0, 0), [])]
def mc_X11_seekSlip_3 : List ax_EN := [(96, .ifCond .eq 85, 3, (0, 0, 0, 0), []), (99, .iconst 0, 1, (0, 0, 0, 0), []), (100, .istore 7, 2, (0, 0, 0, 0), []), (102, .iload 7, 2, (0, 0, 0, 0), []), (104, .iload 4, 2, (0, 0, 0, 0), []), (106, .iconst 1, 1, (0, 0, 0, 0), []), (107, .if_icmp .ne 7, 3, (0, 0, 0, 0), []), (110, .iconst 1, 1, (0, 0, 0, 0), []), (111, .goto 5, 3, (0, 0, 0, 0), []), (114, .bipush 14, 2, (0, 0, 0, 0), []), (116, .if_icmp .ge 59, 3, (0, 0, 0, 0), []), (119, .aload_n 0, 1, (0, 0, 0, 0), []), (120, .iload_n 1, 1, (0, 0, 0, 0), []), (121, .iload_n 2, 1, (0, 0, 0, 0), []), (122, .iload 4, 2, (0, 0, 0, 0), []), (124, .iload 6, 2, (0, 0, 0, 0), []), (126, .iload 7, 2, (0, 0, 0, 0), [])]
def mc_X11_seekSlip_4 : List ax_EN := [(128, .invokevirtual 308, 3, (3, 229, 11, 0), [1584, 111, 1582]), (131, .ifCond .eq 38, 3, (0, 0, 0, 0), []), (134, .aload_n 0, 1, (0, 0, 0, 0), []), (135, .iload_n 2, 1, (0, 0, 0, 0), []), (136, .putfield 311, 3, (0, 11, 43, 0), [1167]), (139, .aload_n 0, 1, (0, 0, 0, 0), []), (140, .iload 4, 2, (0, 0, 0, 0), []), (142, .putfield 314, 3, (0, 11, 44, 0), [1168]), (145, .aload_n 0, 1, (0, 0, 0, 0), []), (146, .iload 6, 2, (0, 0, 0, 0), []), (148, .putfield 317, 3, (0, 11, 45, 0), [1169]), (151, .aload_n 0, 1, (0, 0, 0, 0), []), (152, .iload 4, 2, (0, 0, 0, 0), []), (154, .iconst 1, 1, (0, 0, 0, 0), []), (155, .if_icmp .ne 7, 3, (0, 0, 0, 0), []), (158, .iconst (-1), 1, (0, 0, 0, 0), []), (159, .goto 5, 3, (0, 0, 0, 0), [])]
def mc_X11_seekSlip_5 : List ax_EN := [(162, .iload 7, 2, (0, 0, 0, 0), []), (164, .putfield 320, 3, (0, 11, 46, 0), [1170]), (167, .iconst 1, 1, (0, 0, 0, 0), []), (168, .ireturn, 1, (0, 0, 0, 0), []), (169, .iinc 7 1, 3, (0, 0, 0, 0), []), (172, .goto (-70), 3, (0, 0, 0, 0), []), (175, .iinc 6 1, 3, (0, 0, 0, 0), []), (178, .goto (-101), 3, (0, 0, 0, 0), []), (181, .iinc 4 1, 3, (0, 0, 0, 0), []), (184, .goto (-153), 3, (0, 0, 0, 0), []), (187, .iinc 2 1, 3, (0, 0, 0, 0), []), (190, .goto (-183), 3, (0, 0, 0, 0), [])]
def mc_X11_seekSlip_6 : List ax_EN := [(193, .iconst 0, 1, (0, 0, 0, 0), []), (194, .ireturn, 1, (0, 0, 0, 0), [])]
def mt_X11_seekSlip : ax_MI := (RX11, yX11_seekSlip, cX11_seekSlip, 8, (some .boolean), 0, 0, 0, [mc_X11_seekSlip_0, mc_X11_seekSlip_1, mc_X11_seekSlip_2, mc_X11_seekSlip_3, mc_X11_seekSlip_4, mc_X11_seekSlip_5, mc_X11_seekSlip_6])
def mc_X11_slip_0 : List ax_EN := [(0, .iload_n 1, 1, (0, 0, 0, 0), []), (1, .iconst 0, 1, (0, 0, 0, 0), []), (2, .iconst 3, 1, (0, 0, 0, 0), []), (3, .invokestatic 120, 3, (3, 152, 0, 0), [1291, 1290]), (6, .ifCond .ne 6, 3, (0, 0, 0, 0), []), (9, .bipush (-102), 2, (0, 0, 0, 0), []), (11, .ireturn, 1, (0, 0, 0, 0), []), (12, .aload_n 0, 1, (0, 0, 0, 0), []), (13, .invokevirtual 323, 3, (3, 230, 11, 0), [1580, 110, 1578]), (16, .ifCond .ne 5, 3, (0, 0, 0, 0), []), (19, .iconst (-1), 1, (0, 0, 0, 0), []), (20, .ireturn, 1, (0, 0, 0, 0), []), (21, .iload_n 1, 1, (0, 0, 0, 0), []), (22, .ifCond .ne 10, 3, (0, 0, 0, 0), []), (25, .aload_n 0, 1, (0, 0, 0, 0), []), (26, .getfield 311, 3, (0, 11, 43, 0), [1167]), (29, .goto 31, 3, (0, 0, 0, 0), [])]
def mc_X11_slip_1 : List ax_EN := [(32, .iload_n 1, 1, (0, 0, 0, 0), []), (33, .iconst 1, 1, (0, 0, 0, 0), []), (34, .if_icmp .ne 10, 3, (0, 0, 0, 0), []), (37, .aload_n 0, 1, (0, 0, 0, 0), []), (38, .getfield 314, 3, (0, 11, 44, 0), [1168]), (41, .goto 19, 3, (0, 0, 0, 0), []), (44, .iload_n 1, 1, (0, 0, 0, 0), []), (45, .iconst 2, 1, (0, 0, 0, 0), []), (46, .if_icmp .ne 10, 3, (0, 0, 0, 0), []), (49, .aload_n 0, 1, (0, 0, 0, 0), []), (50, .getfield 317, 3, (0, 11, 45, 0), [1169]), (53, .goto 7, 3, (0, 0, 0, 0), []), (56, .aload_n 0, 1, (0, 0, 0, 0), []), (57, .getfield 320, 3, (0, 11, 46, 0), [1170]), (60, .ireturn, 1, (0, 0, 0, 0), [])]
def mt_X11_slip : ax_MI := (RX11, yX11_slip, cX11_slip, 2, (some .int), 1, 0, 0, [mc_X11_slip_0, mc_X11_slip_1])
def mc_X11_count_0 : List ax_EN := [(0, .iload_n 1, 1, (0, 0, 0, 0), []), (1, .tableswitch 78 0 6 #[43, 48, 53, 58, 63, 68, 73], 43, (0, 0, 0, 0), [])]
def mc_X11_count_1 : List ax_EN := [(44, .aload_n 0, 1, (0, 0, 0, 0), []), (45, .getfield 113, 3, (0, 11, 4, 0), [1128]), (48, .ireturn, 1, (0, 0, 0, 0), []), (49, .aload_n 0, 1, (0, 0, 0, 0), []), (50, .getfield 109, 3, (0, 11, 2, 0), [1126]), (53, .ireturn, 1, (0, 0, 0, 0), []), (54, .aload_n 0, 1, (0, 0, 0, 0), []), (55, .getfield 244, 3, (0, 11, 14, 0), [1138]), (58, .ireturn, 1, (0, 0, 0, 0), []), (59, .aload_n 0, 1, (0, 0, 0, 0), []), (60, .getfield 290, 3, (0, 11, 20, 0), [1144]), (63, .ireturn, 1, (0, 0, 0, 0), [])]
def mc_X11_count_2 : List ax_EN := [(64, .aload_n 0, 1, (0, 0, 0, 0), []), (65, .getfield 211, 3, (0, 11, 23, 0), [1147]), (68, .ireturn, 1, (0, 0, 0, 0), []), (69, .aload_n 0, 1, (0, 0, 0, 0), []), (70, .getfield 272, 3, (0, 11, 24, 0), [1148]), (73, .ireturn, 1, (0, 0, 0, 0), []), (74, .aload_n 0, 1, (0, 0, 0, 0), []), (75, .getfield 235, 3, (0, 11, 12, 0), [1136]), (78, .ireturn, 1, (0, 0, 0, 0), []), (79, .bipush (-102), 2, (0, 0, 0, 0), []), (81, .ireturn, 1, (0, 0, 0, 0), [])]
def mt_X11_count : ax_MI := (RX11, yX11_count, cX11_count, 2, (some .int), 1, 0, 0, [mc_X11_count_0, mc_X11_count_1, mc_X11_count_2])
def mc_X11_mix_0 : List ax_EN := [(0, .aload_n 0, 1, (0, 0, 0, 0), []), (1, .ldc2_w 326, 3, (7, 0, 0, 31), [1603]), (4, .aload_n 0, 1, (0, 0, 0, 0), []), (5, .getfield 328, 3, (0, 11, 47, 0), [1171]), (8, .lmul, 1, (0, 0, 0, 0), []), (9, .lload_n 1, 1, (0, 0, 0, 0), []), (10, .ladd, 1, (0, 0, 0, 0), []), (11, .putfield 328, 3, (0, 11, 47, 0), [1171]), (14, .return_, 1, (0, 0, 0, 0), [])]
def mt_X11_mix : ax_MI := (RX11, yX11_mix, cX11_mix, 3, none, 1, 0, 0, [mc_X11_mix_0])
def mc_X11_mixCustoms_0 : List ax_EN := [(0, .iconst 0, 1, (0, 0, 0, 0), []), (1, .istore_n 1, 1, (0, 0, 0, 0), []), (2, .iload_n 1, 1, (0, 0, 0, 0), []), (3, .bipush 14, 2, (0, 0, 0, 0), []), (5, .aload_n 0, 1, (0, 0, 0, 0), []), (6, .getfield 113, 3, (0, 11, 4, 0), [1128]), (9, .imul, 1, (0, 0, 0, 0), []), (10, .if_icmp .ge 42, 3, (0, 0, 0, 0), []), (13, .aload_n 0, 1, (0, 0, 0, 0), []), (14, .aload_n 0, 1, (0, 0, 0, 0), []), (15, .getfield 24, 3, (0, 11, 5, 0), [1129]), (18, .iload_n 1, 1, (0, 0, 0, 0), []), (19, .iaload, 1, (0, 0, 0, 0), []), (20, .i2l, 1, (0, 0, 0, 0), []), (21, .invokevirtual 332, 3, (3, 233, 11, 0), [1601, 113, 1599]), (24, .aload_n 0, 1, (0, 0, 0, 0), []), (25, .aload_n 0, 1, (0, 0, 0, 0), []), (26, .getfield 27, 3, (0, 11, 6, 0), [1130]), (29, .iload_n 1, 1, (0, 0, 0, 0), []), (30, .iaload, 1, (0, 0, 0, 0), []), (31, .i2l, 1, (0, 0, 0, 0), [])]
def mc_X11_mixCustoms_1 : List ax_EN := [(32, .invokevirtual 332, 3, (3, 233, 11, 0), [1601, 113, 1599]), (35, .aload_n 0, 1, (0, 0, 0, 0), []), (36, .aload_n 0, 1, (0, 0, 0, 0), []), (37, .getfield 30, 3, (0, 11, 7, 0), [1131]), (40, .iload_n 1, 1, (0, 0, 0, 0), []), (41, .iaload, 1, (0, 0, 0, 0), []), (42, .i2l, 1, (0, 0, 0, 0), []), (43, .invokevirtual 332, 3, (3, 233, 11, 0), [1601, 113, 1599]), (46, .iinc 1 1, 3, (0, 0, 0, 0), []), (49, .goto (-47), 3, (0, 0, 0, 0), []), (52, .return_, 1, (0, 0, 0, 0), [])]
def mt_X11_mixCustoms : ax_MI := (RX11, yX11_mixCustoms, cX11_mixCustoms, 2, none, 0, 0, 0, [mc_X11_mixCustoms_0, mc_X11_mixCustoms_1])
def mc_X11_digest_0 : List ax_EN := [(0, .aload_n 0, 1, (0, 0, 0, 0), []), (1, .ldc2_w 336, 3, (7, 0, 0, 223), [1598]), (4, .putfield 328, 3, (0, 11, 47, 0), [1171]), (7, .iconst 0, 1, (0, 0, 0, 0), []), (8, .istore_n 1, 1, (0, 0, 0, 0), []), (9, .iload_n 1, 1, (0, 0, 0, 0), []), (10, .aload_n 0, 1, (0, 0, 0, 0), []), (11, .getfield 109, 3, (0, 11, 2, 0), [1126]), (14, .if_icmp .ge 20, 3, (0, 0, 0, 0), []), (17, .aload_n 0, 1, (0, 0, 0, 0), []), (18, .aload_n 0, 1, (0, 0, 0, 0), []), (19, .getfield 20, 3, (0, 11, 3, 0), [1127]), (22, .iload_n 1, 1, (0, 0, 0, 0), []), (23, .baload, 1, (0, 0, 0, 0), []), (24, .i2l, 1, (0, 0, 0, 0), []), (25, .invokevirtual 332, 3, (3, 233, 11, 0), [1601, 113, 1599]), (28, .iinc 1 1, 3, (0, 0, 0, 0), []), (31, .goto (-22), 3, (0, 0, 0, 0), [])]
def mc_X11_digest_1 : List ax_EN := [(34, .aload_n 0, 1, (0, 0, 0, 0), []), (35, .invokevirtual 338, 3, (3, 234, 11, 0), [1606, 114, 1604]), (38, .iconst 0, 1, (0, 0, 0, 0), []), (39, .istore_n 1, 1, (0, 0, 0, 0), []), (40, .iload_n 1, 1, (0, 0, 0, 0), []), (41, .bipush 12, 2, (0, 0, 0, 0), []), (43, .if_icmp .ge 54, 3, (0, 0, 0, 0), []), (46, .aload_n 0, 1, (0, 0, 0, 0), []), (47, .aload_n 0, 1, (0, 0, 0, 0), []), (48, .getfield 33, 3, (0, 11, 8, 0), [1132]), (51, .iload_n 1, 1, (0, 0, 0, 0), []), (52, .iaload, 1, (0, 0, 0, 0), []), (53, .i2l, 1, (0, 0, 0, 0), []), (54, .invokevirtual 332, 3, (3, 233, 11, 0), [1601, 113, 1599]), (57, .iconst 0, 1, (0, 0, 0, 0), []), (58, .istore_n 2, 1, (0, 0, 0, 0), []), (59, .iload_n 2, 1, (0, 0, 0, 0), []), (60, .aload_n 0, 1, (0, 0, 0, 0), []), (61, .getfield 33, 3, (0, 11, 8, 0), [1132])]
def mc_X11_digest_2 : List ax_EN := [(64, .iload_n 1, 1, (0, 0, 0, 0), []), (65, .iaload, 1, (0, 0, 0, 0), []), (66, .if_icmp .ge 25, 3, (0, 0, 0, 0), []), (69, .aload_n 0, 1, (0, 0, 0, 0), []), (70, .aload_n 0, 1, (0, 0, 0, 0), []), (71, .getfield 36, 3, (0, 11, 9, 0), [1133]), (74, .bipush 24, 2, (0, 0, 0, 0), []), (76, .iload_n 1, 1, (0, 0, 0, 0), []), (77, .imul, 1, (0, 0, 0, 0), []), (78, .iload_n 2, 1, (0, 0, 0, 0), []), (79, .iadd, 1, (0, 0, 0, 0), []), (80, .iaload, 1, (0, 0, 0, 0), []), (81, .i2l, 1, (0, 0, 0, 0), []), (82, .invokevirtual 332, 3, (3, 233, 11, 0), [1601, 113, 1599]), (85, .iinc 2 1, 3, (0, 0, 0, 0), []), (88, .goto (-29), 3, (0, 0, 0, 0), []), (91, .iinc 1 1, 3, (0, 0, 0, 0), []), (94, .goto (-54), 3, (0, 0, 0, 0), [])]
def mc_X11_digest_3 : List ax_EN := [(97, .iconst 0, 1, (0, 0, 0, 0), []), (98, .istore_n 1, 1, (0, 0, 0, 0), []), (99, .iload_n 1, 1, (0, 0, 0, 0), []), (100, .bipush 7, 2, (0, 0, 0, 0), []), (102, .if_icmp .ge 31, 3, (0, 0, 0, 0), []), (105, .aload_n 0, 1, (0, 0, 0, 0), []), (106, .aload_n 0, 1, (0, 0, 0, 0), []), (107, .getfield 39, 3, (0, 11, 10, 0), [1134]), (110, .iload_n 1, 1, (0, 0, 0, 0), []), (111, .iaload, 1, (0, 0, 0, 0), []), (112, .i2l, 1, (0, 0, 0, 0), []), (113, .invokevirtual 332, 3, (3, 233, 11, 0), [1601, 113, 1599]), (116, .aload_n 0, 1, (0, 0, 0, 0), []), (117, .aload_n 0, 1, (0, 0, 0, 0), []), (118, .getfield 42, 3, (0, 11, 11, 0), [1135]), (121, .iload_n 1, 1, (0, 0, 0, 0), []), (122, .iaload, 1, (0, 0, 0, 0), []), (123, .i2l, 1, (0, 0, 0, 0), []), (124, .invokevirtual 332, 3, (3, 233, 11, 0), [1601, 113, 1599]), (127, .iinc 1 1, 3, (0, 0, 0, 0), [])]
def mc_X11_digest_4 : List ax_EN := [(130, .goto (-31), 3, (0, 0, 0, 0), []), (133, .iconst 0, 1, (0, 0, 0, 0), []), (134, .istore_n 1, 1, (0, 0, 0, 0), []), (135, .iload_n 1, 1, (0, 0, 0, 0), []), (136, .aload_n 0, 1, (0, 0, 0, 0), []), (137, .getfield 244, 3, (0, 11, 14, 0), [1138]), (140, .if_icmp .ge 20, 3, (0, 0, 0, 0), []), (143, .aload_n 0, 1, (0, 0, 0, 0), []), (144, .aload_n 0, 1, (0, 0, 0, 0), []), (145, .getfield 48, 3, (0, 11, 16, 0), [1140]), (148, .iload_n 1, 1, (0, 0, 0, 0), []), (149, .iaload, 1, (0, 0, 0, 0), []), (150, .i2l, 1, (0, 0, 0, 0), []), (151, .invokevirtual 332, 3, (3, 233, 11, 0), [1601, 113, 1599]), (154, .iinc 1 1, 3, (0, 0, 0, 0), []), (157, .goto (-22), 3, (0, 0, 0, 0), [])]
def mc_X11_digest_5 : List ax_EN := [(160, .aload_n 0, 1, (0, 0, 0, 0), []), (161, .aload_n 0, 1, (0, 0, 0, 0), []), (162, .getfield 247, 3, (0, 11, 15, 0), [1139]), (165, .ifCond .eq 7, 3, (0, 0, 0, 0), []), (168, .lconst 1, 1, (0, 0, 0, 0), []), (169, .goto 4, 3, (0, 0, 0, 0), []), (172, .lconst 0, 1, (0, 0, 0, 0), []), (173, .invokevirtual 332, 3, (3, 233, 11, 0), [1601, 113, 1599]), (176, .iconst 0, 1, (0, 0, 0, 0), []), (177, .istore_n 1, 1, (0, 0, 0, 0), []), (178, .iload_n 1, 1, (0, 0, 0, 0), []), (179, .bipush 6, 2, (0, 0, 0, 0), []), (181, .if_icmp .ge 30, 3, (0, 0, 0, 0), []), (184, .aload_n 0, 1, (0, 0, 0, 0), []), (185, .aload_n 0, 1, (0, 0, 0, 0), []), (186, .getfield 51, 3, (0, 11, 17, 0), [1141]), (189, .iload_n 1, 1, (0, 0, 0, 0), []), (190, .iaload, 1, (0, 0, 0, 0), []), (191, .i2l, 1, (0, 0, 0, 0), [])]
def mc_X11_digest_6 : List ax_EN := [(192, .invokevirtual 332, 3, (3, 233, 11, 0), [1601, 113, 1599]), (195, .aload_n 0, 1, (0, 0, 0, 0), []), (196, .aload_n 0, 1, (0, 0, 0, 0), []), (197, .iload_n 1, 1, (0, 0, 0, 0), []), (198, .invokevirtual 287, 3, (3, 217, 11, 0), [1536, 105, 1534]), (201, .i2l, 1, (0, 0, 0, 0), []), (202, .invokevirtual 332, 3, (3, 233, 11, 0), [1601, 113, 1599]), (205, .iinc 1 1, 3, (0, 0, 0, 0), []), (208, .goto (-30), 3, (0, 0, 0, 0), []), (211, .iconst 0, 1, (0, 0, 0, 0), []), (212, .istore_n 1, 1, (0, 0, 0, 0), []), (213, .iload_n 1, 1, (0, 0, 0, 0), []), (214, .iconst 2, 1, (0, 0, 0, 0), []), (215, .aload_n 0, 1, (0, 0, 0, 0), []), (216, .getfield 290, 3, (0, 11, 20, 0), [1144]), (219, .imul, 1, (0, 0, 0, 0), []), (220, .if_icmp .ge 19, 3, (0, 0, 0, 0), []), (223, .aload_n 0, 1, (0, 0, 0, 0), [])]
def mc_X11_digest_7 : List ax_EN := [(224, .aload_n 0, 1, (0, 0, 0, 0), []), (225, .iload_n 1, 1, (0, 0, 0, 0), []), (226, .invokevirtual 296, 3, (3, 223, 11, 0), [1564, 108, 1562]), (229, .i2l, 1, (0, 0, 0, 0), []), (230, .invokevirtual 332, 3, (3, 233, 11, 0), [1601, 113, 1599]), (233, .iinc 1 1, 3, (0, 0, 0, 0), []), (236, .goto (-23), 3, (0, 0, 0, 0), []), (239, .aload_n 0, 1, (0, 0, 0, 0), []), (240, .aload_n 0, 1, (0, 0, 0, 0), []), (241, .getfield 211, 3, (0, 11, 23, 0), [1147]), (244, .i2l, 1, (0, 0, 0, 0), []), (245, .invokevirtual 332, 3, (3, 233, 11, 0), [1601, 113, 1599]), (248, .aload_n 0, 1, (0, 0, 0, 0), []), (249, .aload_n 0, 1, (0, 0, 0, 0), []), (250, .getfield 272, 3, (0, 11, 24, 0), [1148]), (253, .i2l, 1, (0, 0, 0, 0), []), (254, .invokevirtual 332, 3, (3, 233, 11, 0), [1601, 113, 1599])]
def mc_X11_digest_8 : List ax_EN := [(257, .aload_n 0, 1, (0, 0, 0, 0), []), (258, .aload_n 0, 1, (0, 0, 0, 0), []), (259, .getfield 235, 3, (0, 11, 12, 0), [1136]), (262, .i2l, 1, (0, 0, 0, 0), []), (263, .invokevirtual 332, 3, (3, 233, 11, 0), [1601, 113, 1599]), (266, .aload_n 0, 1, (0, 0, 0, 0), []), (267, .getfield 328, 3, (0, 11, 47, 0), [1171]), (270, .lreturn, 1, (0, 0, 0, 0), [])]
def mt_X11_digest : ax_MI := (RX11, yX11_digest, cX11_digest, 3, (some .long), 0, 0, 0, [mc_X11_digest_0, mc_X11_digest_1, mc_X11_digest_2, mc_X11_digest_3, mc_X11_digest_4, mc_X11_digest_5, mc_X11_digest_6, mc_X11_digest_7, mc_X11_digest_8])
def mt_prog : List ax_MI := [mt_X0_init, mt_X0_hasColumns, mt_X0_addRow, mt_X0_acceptMore, mt_X0_pebbles, mt_X0_total, mt_X0_clear, mt_X0_hasBundle, mt_X0_tieUp, mt_X0_untie, mt_X0_settleAll, mt_X0_nextStep, mt_X0_leastOwed, mt_X0_carryOut, mt_X0_canBeLifted, mt_X0_copyGiven, mt_X0_digestOn, mt_X1_init, mt_X1_allows, mt_X1_goodSigns, mt_X1_after, mt_X1_isWhole, mt_X1_leaveOpen, mt_X1_closePlain, mt_X1_closeTaking, mt_X1_mayTakeOnce, mt_X1_mayTakeTwice, mt_X1_standingOf, mt_X1_belowIn, mt_X1_signIn, mt_X1_openIn, mt_X1_digestOn, mt_X2_init, mt_X2_append, mt_X2_clear, mt_X2_totalAhead, mt_X2_firstWrong, mt_X2_firstMended, mt_X2_findSlip, mt_X2_canBecome, mt_X2_withOneMore, mt_X2_withOneLess, mt_X2_withOneOther, mt_X2_anySignFits, mt_X2_foundSlip, mt_X2_digestOn, mt_X3_init, mt_X3_remember, mt_X3_meet, mt_X4_init, mt_X4_codeAt, mt_X4_lettersIn, mt_X4_append, mt_X4_isRowOfSigns, mt_X4_copySigns, mt_X4_digestOn, mt_X5_init, mt_X5_copy, mt_X5_put, mt_X5_isTaken, mt_X5_total, mt_X5_digestOn, mt_X6_goodLetters, mt_X6_isWhole, mt_X6_read, mt_X6_keep, mt_X6_endsRule, mt_X6_after, mt_X6_behindMark, mt_X6_behindSign, mt_X6_outweighs, mt_X6_at, mt_X7_init, mt_X7_placesOn, mt_X7_isStone, mt_X7_carve, mt_X7_fillBy, mt_X7_makeRoom, mt_X7_fillFrom, mt_X7_keepFilling, mt_X7_sortWorths, mt_X7_dropLikeWorths, mt_X7_digestOn, mt_X8_init, mt_X8_startOf, mt_X8_startFor, mt_X8_clearAt, mt_X8_addAt, mt_X8_exactly, mt_X8_atMost, mt_X9_init, mt_X9_prepare, mt_X9_countTakings, mt_X9_countPlain, mt_X9_inAll, mt_X9_findByOrder, mt_X9_findShortest, mt_X9_walk, mt_X9_choosePlain, mt_X9_chooseTaking, mt_X9_goes, mt_X10_init, mt_X10_letters, mt_X10_blank, mt_X10_good, mt_X10_custom, mt_X10_asks, mt_X10_row, mt_X10_sign, mt_X10_worth, mt_X10_keeps, mt_X10_begins, mt_X10_ways, mt_X10_write, mt_X10_board, mt_X10_pour, mt_X10_bundle, mt_X10_unbundle, mt_X10_settle, mt_X10_step, mt_X10_holds, mt_X10_lift, mt_X10_sweep, mt_X10_times, mt_X10_parts, mt_X10_stone, mt_X10_could, mt_X10_says, mt_X10_sure, mt_X10_note, mt_X10_habit, mt_X10_hands, mt_X10_line, mt_X10_tear, mt_X10_wrong, mt_X10_mended, mt_X10_slip, mt_X10_count, mt_X10_digest, mt_X10_mix, mt_X10_isRow, mt_X10_isMason, mt_X10_isNumber, mt_X10_isCustom, mt_X10_customsAllowing, mt_X10_readStone, mt_X10_halvings, mt_X10_product, mt_X10_doublings, mt_X10_linesTaken, mt_X10_signOf, mt_X11_init, mt_X11_in, mt_X11_letters, mt_X11_blank, mt_X11_signOf, mt_X11_readCustom, mt_X11_isMore, mt_X11_good, mt_X11_custom, mt_X11_isCustom, mt_X11_asks, mt_X11_isRow, mt_X11_row, mt_X11_sign, mt_X11_isTaken, mt_X11_worthOf, mt_X11_worth, mt_X11_keepsAll, mt_X11_mayTake, mt_X11_mayBegin, mt_X11_keeps, mt_X11_begins, mt_X11_shared, mt_X11_bound, mt_X11_mayCome, mt_X11_signsOf, mt_X11_worthBy, mt_X11_isAllowed, mt_X11_nextWay, mt_X11_seek, mt_X11_down, mt_X11_open, mt_X11_noteOne, mt_X11_layRow, mt_X11_ways, mt_X11_write, mt_X11_board, mt_X11_onBoard, mt_X11_pour, mt_X11_poured, mt_X11_bundleOf, mt_X11_bundle, mt_X11_unbundle, mt_X11_firstStep, mt_X11_doStep, mt_X11_settle, mt_X11_step, mt_X11_holds, mt_X11_lift, mt_X11_sweep, mt_X11_times, mt_X11_parts, mt_X11_stone, mt_X11_say, mt_X11_fillAll, mt_X11_fillTo, mt_X11_isOpen, mt_X11_first, mt_X11_after, mt_X11_take, mt_X11_isShut, mt_X11_could, mt_X11_says, mt_X11_sure, mt_X11_isMason, mt_X11_note, mt_X11_habitOf, mt_X11_habit, mt_X11_hands, mt_X11_line, mt_X11_layLine, mt_X11_tear, mt_X11_lineWorth, mt_X11_ahead, mt_X11_wrongAt, mt_X11_wrong, mt_X11_mended, mt_X11_putRight, mt_X11_isBy, mt_X11_seekSlip, mt_X11_slip, mt_X11_count, mt_X11_mix, mt_X11_mixCustoms, mt_X11_digest]
end
section
/-! ===== the tables are checked ===== -/
set_option maxRecDepth 100000 in
theorem ct_X0_init_0 : mc_X0_init_0.all (ax_chkE mt_prog RX0 "<init>" cX0_init) = true := by decide +kernel
set_option maxRecDepth 100000 in
theorem ct_X0_init_1 : mc_X0_init_1.all (ax_chkE mt_prog RX0 "<init>" cX0_init) = true := by decide +kernel
set_option maxRecDepth 100000 in
theorem ch_X0_init : ax_chkH (mt_X0_init, 283, 123) = true := by decide +kernel
theorem pk_X0_init : ax_MOk mt_prog mt_X0_init := ax_MOk_of ch_X0_init (List.forall_mem_cons.mpr ⟨ct_X0_init_0, List.forall_mem_cons.mpr ⟨ct_X0_init_1, fun _ h => absurd h List.not_mem_nil⟩⟩)
set_option maxRecDepth 100000 in
theorem ct_X0_hasColumns_0 : mc_X0_hasColumns_0.all (ax_chkE mt_prog RX0 "hasColumns" cX0_hasColumns) = true := by decide +kernel
set_option maxRecDepth 100000 in
theorem ch_X0_hasColumns : ax_chkH (mt_X0_hasColumns, 803, 123) = true := by decide +kernel
theorem pk_X0_hasColumns : ax_MOk mt_prog mt_X0_hasColumns := ax_MOk_of ch_X0_hasColumns (List.forall_mem_cons.mpr ⟨ct_X0_hasColumns_0, fun _ h => absurd h List.not_mem_nil⟩)
set_option maxRecDepth 100000 in
theorem ct_X0_addRow_0 : mc_X0_addRow_0.all (ax_chkE mt_prog RX0 "addRow" cX0_addRow) = true := by decide +kernel
set_option maxRecDepth 100000 in
theorem ct_X0_addRow_1 : mc_X0_addRow_1.all (ax_chkE mt_prog RX0 "addRow" cX0_addRow) = true := by decide +kernel
set_option maxRecDepth 100000 in
theorem ct_X0_addRow_2 : mc_X0_addRow_2.all (ax_chkE mt_prog RX0 "addRow" cX0_addRow) = true := by decide +kernel
set_option maxRecDepth 100000 in
theorem ct_X0_addRow_3 : mc_X0_addRow_3.all (ax_chkE mt_prog RX0 "addRow" cX0_addRow) = true := by decide +kernel
set_option maxRecDepth 100000 in
theorem ch_X0_addRow : ax_chkH (mt_X0_addRow, 807, 123) = true := by decide +kernel
theorem pk_X0_addRow : ax_MOk mt_prog mt_X0_addRow := ax_MOk_of ch_X0_addRow (List.forall_mem_cons.mpr ⟨ct_X0_addRow_0, List.forall_mem_cons.mpr ⟨ct_X0_addRow_1, List.forall_mem_cons.mpr ⟨ct_X0_addRow_2, List.forall_mem_cons.mpr ⟨ct_X0_addRow_3, fun _ h => absurd h List.not_mem_nil⟩⟩⟩⟩)
set_option maxRecDepth 100000 in
theorem ct_X0_acceptMore_0 : mc_X0_acceptMore_0.all (ax_chkE mt_prog RX0 "acceptMore" cX0_acceptMore) = true := by decide +kernel
set_option maxRecDepth 100000 in
theorem ct_X0_acceptMore_1 : mc_X0_acceptMore_1.all (ax_chkE mt_prog RX0 "acceptMore" cX0_acceptMore) = true := by decide +kernel
set_option maxRecDepth 100000 in
theorem ct_X0_acceptMore_2 : mc_X0_acceptMore_2.all (ax_chkE mt_prog RX0 "acceptMore" cX0_acceptMore) = true := by decide +kernel
set_option maxRecDepth 100000 in
theorem ch_X0_acceptMore : ax_chkH (mt_X0_acceptMore, 812, 123) = true := by decide +kernel
theorem pk_X0_acceptMore : ax_MOk mt_prog mt_X0_acceptMore := ax_MOk_of ch_X0_acceptMore (List.forall_mem_cons.mpr ⟨ct_X0_acceptMore_0, List.forall_mem_cons.mpr ⟨ct_X0_acceptMore_1, List.forall_mem_cons.mpr ⟨ct_X0_acceptMore_2, fun _ h => absurd h List.not_mem_nil⟩⟩⟩)
set_option maxRecDepth 100000 in
theorem ct_X0_pebbles_0 : mc_X0_pebbles_0.all (ax_chkE mt_prog RX0 "pebbles" cX0_pebbles) = true := by decide +kernel
set_option maxRecDepth 100000 in
theorem ct_X0_pebbles_1 : mc_X0_pebbles_1.all (ax_chkE mt_prog RX0 "pebbles" cX0_pebbles) = true := by decide +kernel
set_option maxRecDepth 100000 in
theorem ch_X0_pebbles : ax_chkH (mt_X0_pebbles, 816, 123) = true := by decide +kernel
theorem pk_X0_pebbles : ax_MOk mt_prog mt_X0_pebbles := ax_MOk_of ch_X0_pebbles (List.forall_mem_cons.mpr ⟨ct_X0_pebbles_0, List.forall_mem_cons.mpr ⟨ct_X0_pebbles_1, fun _ h => absurd h List.not_mem_nil⟩⟩)
set_option maxRecDepth 100000 in
theorem ct_X0_total_0 : mc_X0_total_0.all (ax_chkE mt_prog RX0 "total" cX0_total) = true := by decide +kernel
set_option maxRecDepth 100000 in
theorem ct_X0_total_1 : mc_X0_total_1.all (ax_chkE mt_prog RX0 "total" cX0_total) = true := by decide +kernel
set_option maxRecDepth 100000 in
theorem ch_X0_total : ax_chkH (mt_X0_total, 873, 123) = true := by decide +kernel
theorem pk_X0_total : ax_MOk mt_prog mt_X0_total := ax_MOk_of ch_X0_total (List.forall_mem_cons.mpr ⟨ct_X0_total_0, List.forall_mem_cons.mpr ⟨ct_X0_total_1, fun _ h => absurd h List.not_mem_nil⟩⟩)
set_option maxRecDepth 100000 in
theorem ct_X0_clear_0 : mc_X0_clear_0.all (ax_chkE mt_prog RX0 "clear" cX0_clear) = true := by decide +kernel
set_option maxRecDepth 100000 in
theorem ch_X0_clear : ax_chkH (mt_X0_clear, 896, 123) = true := by decide +kernel
theorem pk_X0_clear : ax_MOk mt_prog mt_X0_clear := ax_MOk_of ch_X0_clear (List.forall_mem_cons.mpr ⟨ct_X0_clear_0, fun _ h => absurd h List.not_mem_nil⟩)
set_option maxRecDepth 100000 in
theorem ct_X0_hasBundle_0 : mc_X0_hasBundle_0.all (ax_chkE mt_prog RX0 "hasBundle" cX0_hasBundle) = true := by decide +kernel
set_option maxRecDepth 100000 in
theorem ch_X0_hasBundle : ax_chkH (mt_X0_hasBundle, 824, 123) = true := by decide +kernel
theorem pk_X0_hasBundle : ax_MOk mt_prog mt_X0_hasBundle := ax_MOk_of ch_X0_hasBundle (List.forall_mem_cons.mpr ⟨ct_X0_hasBundle_0, fun _ h => absurd h List.not_mem_nil⟩)
set_option maxRecDepth 100000 in
theorem ct_X0_tieUp_0 : mc_X0_tieUp_0.all (ax_chkE mt_prog RX0 "tieUp" cX0_tieUp) = true := by decide +kernel
set_option maxRecDepth 100000 in
theorem ct_X0_tieUp_1 : mc_X0_tieUp_1.all (ax_chkE mt_prog RX0 "tieUp" cX0_tieUp) = true := by decide +kernel
set_option maxRecDepth 100000 in
theorem ch_X0_tieUp : ax_chkH (mt_X0_tieUp, 830, 123) = true := by decide +kernel
theorem pk_X0_tieUp : ax_MOk mt_prog mt_X0_tieUp := ax_MOk_of ch_X0_tieUp (List.forall_mem_cons.mpr ⟨ct_X0_tieUp_0, List.forall_mem_cons.mpr ⟨ct_X0_tieUp_1, fun _ h => absurd h List.not_mem_nil⟩⟩)
set_option maxRecDepth 100000 in
theorem ct_X0_untie_0 : mc_X0_untie_0.all (ax_chkE mt_prog RX0 "untie" cX0_untie) = true := by decide +kernel
set_option maxRecDepth 100000 in
theorem ct_X0_untie_1 : mc_X0_untie_1.all (ax_chkE mt_prog RX0 "untie" cX0_untie) = true := by decide +kernel
set_option maxRecDepth 100000 in
theorem ch_X0_untie : ax_chkH (mt_X0_untie, 838, 123) = true := by decide +kernel
theorem pk_X0_untie : ax_MOk mt_prog mt_X0_untie := ax_MOk_of ch_X0_untie (List.forall_mem_cons.mpr ⟨ct_X0_untie_0, List.forall_mem_cons.mpr ⟨ct_X0_untie_1, fun _ h => absurd h List.not_mem_nil⟩⟩)
set_option maxRecDepth 100000 in
theorem ct_X0_settleAll_0 : mc_X0_settleAll_0.all (ax_chkE mt_prog RX0 "settleAll" cX0_settleAll) = true := by decide +kernel
set_option maxRecDepth 100000 in
theorem ct_X0_settleAll_1 : mc_X0_settleAll_1.all (ax_chkE mt_prog RX0 "settleAll" cX0_settleAll) = true := by decide +kernel
set_option maxRecDepth 100000 in
theorem ch_X0_settleAll : ax_chkH (mt_X0_settleAll, 846, 123) = true := by decide +kernel
theorem pk_X0_settleAll : ax_MOk mt_prog mt_X0_settleAll := ax_MOk_of ch_X0_settleAll (List.forall_mem_cons.mpr ⟨ct_X0_settleAll_0, List.forall_mem_cons.mpr ⟨ct_X0_settleAll_1, fun _ h => absurd h List.not_mem_nil⟩⟩)
set_option maxRecDepth 100000 in
theorem ct_X0_nextStep_0 : mc_X0_nextStep_0.all (ax_chkE mt_prog RX0 "nextStep" cX0_nextStep) = true := by decide +kernel
set_option maxRecDepth 100000 in
theorem ct_X0_nextStep_1 : mc_X0_nextStep_1.all (ax_chkE mt_prog RX0 "nextStep" cX0_nextStep) = true := by decide +kernel
set_option maxRecDepth 100000 in
theorem ct_X0_nextStep_2 : mc_X0_nextStep_2.all (ax_chkE mt_prog RX0 "nextStep" cX0_nextStep) = true := by decide +kernel
set_option maxRecDepth 100000 in
theorem ct_X0_nextStep_3 : mc_X0_nextStep_3.all (ax_chkE mt_prog RX0 "nextStep" cX0_nextStep) = true := by decide +kernel
set_option maxRecDepth 100000 in
theorem ch_X0_nextStep : ax_chkH (mt_X0_nextStep, 850, 123) = true := by decide +kernel
theorem pk_X0_nextStep : ax_MOk mt_prog mt_X0_nextStep := ax_MOk_of ch_X0_nextStep (List.forall_mem_cons.mpr ⟨ct_X0_nextStep_0, List.forall_mem_cons.mpr ⟨ct_X0_nextStep_1, List.forall_mem_cons.mpr ⟨ct_X0_nextStep_2, List.forall_mem_cons.mpr ⟨ct_X0_nextStep_3, fun _ h => absurd h List.not_mem_nil⟩⟩⟩⟩)
set_option maxRecDepth 100000 in
theorem ct_X0_leastOwed_0 : mc_X0_leastOwed_0.all (ax_chkE mt_prog RX0 "leastOwed" cX0_leastOwed) = true := by decide +kernel
set_option maxRecDepth 100000 in
theorem ch_X0_leastOwed : ax_chkH (mt_X0_leastOwed, 854, 123) = true := by decide +kernel
theorem pk_X0_leastOwed : ax_MOk mt_prog mt_X0_leastOwed := ax_MOk_of ch_X0_leastOwed (List.forall_mem_cons.mpr ⟨ct_X0_leastOwed_0, fun _ h => absurd h List.not_mem_nil⟩)
set_option maxRecDepth 100000 in
theorem ct_X0_carryOut_0 : mc_X0_carryOut_0.all (ax_chkE mt_prog RX0 "carryOut" cX0_carryOut) = true := by decide +kernel
set_option maxRecDepth 100000 in
theorem ct_X0_carryOut_1 : mc_X0_carryOut_1.all (ax_chkE mt_prog RX0 "carryOut" cX0_carryOut) = true := by decide +kernel
set_option maxRecDepth 100000 in
theorem ch_X0_carryOut : ax_chkH (mt_X0_carryOut, 859, 123) = true := by decide +kernel
theorem pk_X0_carryOut : ax_MOk mt_prog mt_X0_carryOut := ax_MOk_of ch_X0_carryOut (List.forall_mem_cons.mpr ⟨ct_X0_carryOut_0, List.forall_mem_cons.mpr ⟨ct_X0_carryOut_1, fun _ h => absurd h List.not_mem_nil⟩⟩)
end
section
/-! ===== the tables are checked ===== -/
set_option maxRecDepth 100000 in
theorem ct_X0_canBeLifted_0 : mc_X0_canBeLifted_0.all (ax_chkE mt_prog RX0 "canBeLifted" cX0_canBeLifted) = true := by decide +kernel
set_option maxRecDepth 100000 in
theorem ch_X0_canBeLifted : ax_chkH (mt_X0_canBeLifted, 882, 123) = true := by decide +kernel
theorem pk_X0_canBeLifted : ax_MOk mt_prog mt_X0_canBeLifted := ax_MOk_of ch_X0_canBeLifted (List.forall_mem_cons.mpr ⟨ct_X0_canBeLifted_0, fun _ h => absurd h List.not_mem_nil⟩)
set_option maxRecDepth 100000 in
theorem ct_X0_copyGiven_0 : mc_X0_copyGiven_0.all (ax_chkE mt_prog RX0 "copyGiven" cX0_copyGiven) = true := by decide +kernel
set_option maxRecDepth 100000 in
theorem ch_X0_copyGiven : ax_chkH (mt_X0_copyGiven, 887, 123) = true := by decide +kernel
theorem pk_X0_copyGiven : ax_MOk mt_prog mt_X0_copyGiven := ax_MOk_of ch_X0_copyGiven (List.forall_mem_cons.mpr ⟨ct_X0_copyGiven_0, fun _ h => absurd h List.not_mem_nil⟩)
set_option maxRecDepth 100000 in
theorem ct_X0_digestOn_0 : mc_X0_digestOn_0.all (ax_chkE mt_prog RX0 "digestOn" cX0_digestOn) = true := by decide +kernel
set_option maxRecDepth 100000 in
theorem ct_X0_digestOn_1 : mc_X0_digestOn_1.all (ax_chkE mt_prog RX0 "digestOn" cX0_digestOn) = true := by decide +kernel
set_option maxRecDepth 100000 in
theorem ch_X0_digestOn : ax_chkH (mt_X0_digestOn, 1099, 123) = true := by decide +kernel
theorem pk_X0_digestOn : ax_MOk mt_prog mt_X0_digestOn := ax_MOk_of ch_X0_digestOn (List.forall_mem_cons.mpr ⟨ct_X0_digestOn_0, List.forall_mem_cons.mpr ⟨ct_X0_digestOn_1, fun _ h => absurd h List.not_mem_nil⟩⟩)
set_option maxRecDepth 100000 in
theorem ct_X1_init_0 : mc_X1_init_0.all (ax_chkE mt_prog RX1 "<init>" cX1_init) = true := by decide +kernel
set_option maxRecDepth 100000 in
theorem ch_X1_init : ax_chkH (mt_X1_init, 228, 122) = true := by decide +kernel
theorem pk_X1_init : ax_MOk mt_prog mt_X1_init := ax_MOk_of ch_X1_init (List.forall_mem_cons.mpr ⟨ct_X1_init_0, fun _ h => absurd h List.not_mem_nil⟩)
set_option maxRecDepth 100000 in
theorem ct_X1_allows_0 : mc_X1_allows_0.all (ax_chkE mt_prog RX1 "allows" cX1_allows) = true := by decide +kernel
set_option maxRecDepth 100000 in
theorem ct_X1_allows_1 : mc_X1_allows_1.all (ax_chkE mt_prog RX1 "allows" cX1_allows) = true := by decide +kernel
set_option maxRecDepth 100000 in
theorem ch_X1_allows : ax_chkH (mt_X1_allows, 608, 122) = true := by decide +kernel
theorem pk_X1_allows : ax_MOk mt_prog mt_X1_allows := ax_MOk_of ch_X1_allows (List.forall_mem_cons.mpr ⟨ct_X1_allows_0, List.forall_mem_cons.mpr ⟨ct_X1_allows_1, fun _ h => absurd h List.not_mem_nil⟩⟩)
set_option maxRecDepth 100000 in
theorem ct_X1_goodSigns_0 : mc_X1_goodSigns_0.all (ax_chkE mt_prog RX1 "goodSigns" cX1_goodSigns) = true := by decide +kernel
set_option maxRecDepth 100000 in
theorem ct_X1_goodSigns_1 : mc_X1_goodSigns_1.all (ax_chkE mt_prog RX1 "goodSigns" cX1_goodSigns) = true := by decide +kernel
set_option maxRecDepth 100000 in
theorem ch_X1_goodSigns : ax_chkH (mt_X1_goodSigns, 707, 122) = true := by decide +kernel
theorem pk_X1_goodSigns : ax_MOk mt_prog mt_X1_goodSigns := ax_MOk_of ch_X1_goodSigns (List.forall_mem_cons.mpr ⟨ct_X1_goodSigns_0, List.forall_mem_cons.mpr ⟨ct_X1_goodSigns_1, fun _ h => absurd h List.not_mem_nil⟩⟩)
set_option maxRecDepth 100000 in
theorem ct_X1_after_0 : mc_X1_after_0.all (ax_chkE mt_prog RX1 "after" cX1_after) = true := by decide +kernel
set_option maxRecDepth 100000 in
theorem ct_X1_after_1 : mc_X1_after_1.all (ax_chkE mt_prog RX1 "after" cX1_after) = true := by decide +kernel
set_option maxRecDepth 100000 in
theorem ct_X1_after_2 : mc_X1_after_2.all (ax_chkE mt_prog RX1 "after" cX1_after) = true := by decide +kernel
set_option maxRecDepth 100000 in
theorem ch_X1_after : ax_chkH (mt_X1_after, 612, 122) = true := by decide +kernel
theorem pk_X1_after : ax_MOk mt_prog mt_X1_after := ax_MOk_of ch_X1_after (List.forall_mem_cons.mpr ⟨ct_X1_after_0, List.forall_mem_cons.mpr ⟨ct_X1_after_1, List.forall_mem_cons.mpr ⟨ct_X1_after_2, fun _ h => absurd h List.not_mem_nil⟩⟩⟩)
set_option maxRecDepth 100000 in
theorem ct_X1_isWhole_0 : mc_X1_isWhole_0.all (ax_chkE mt_prog RX1 "isWhole" cX1_isWhole) = true := by decide +kernel
set_option maxRecDepth 100000 in
theorem ct_X1_isWhole_1 : mc_X1_isWhole_1.all (ax_chkE mt_prog RX1 "isWhole" cX1_isWhole) = true := by decide +kernel
set_option maxRecDepth 100000 in
theorem ch_X1_isWhole : ax_chkH (mt_X1_isWhole, 648, 122) = true := by decide +kernel
theorem pk_X1_isWhole : ax_MOk mt_prog mt_X1_isWhole := ax_MOk_of ch_X1_isWhole (List.forall_mem_cons.mpr ⟨ct_X1_isWhole_0, List.forall_mem_cons.mpr ⟨ct_X1_isWhole_1, fun _ h => absurd h List.not_mem_nil⟩⟩)
set_option maxRecDepth 100000 in
theorem ct_X1_leaveOpen_0 : mc_X1_leaveOpen_0.all (ax_chkE mt_prog RX1 "leaveOpen" cX1_leaveOpen) = true := by decide +kernel
set_option maxRecDepth 100000 in
theorem ct_X1_leaveOpen_1 : mc_X1_leaveOpen_1.all (ax_chkE mt_prog RX1 "leaveOpen" cX1_leaveOpen) = true := by decide +kernel
set_option maxRecDepth 100000 in
theorem ct_X1_leaveOpen_2 : mc_X1_leaveOpen_2.all (ax_chkE mt_prog RX1 "leaveOpen" cX1_leaveOpen) = true := by decide +kernel
set_option maxRecDepth 100000 in
theorem ct_X1_leaveOpen_3 : mc_X1_leaveOpen_3.all (ax_chkE mt_prog RX1 "leaveOpen" cX1_leaveOpen) = true := by decide +kernel
set_option maxRecDepth 100000 in
theorem ch_X1_leaveOpen : ax_chkH (mt_X1_leaveOpen, 619, 122) = true := by decide +kernel
theorem pk_X1_leaveOpen : ax_MOk mt_prog mt_X1_leaveOpen := ax_MOk_of ch_X1_leaveOpen (List.forall_mem_cons.mpr ⟨ct_X1_leaveOpen_0, List.forall_mem_cons.mpr ⟨ct_X1_leaveOpen_1, List.forall_mem_cons.mpr ⟨ct_X1_leaveOpen_2, List.forall_mem_cons.mpr ⟨ct_X1_leaveOpen_3, fun _ h => absurd h List.not_mem_nil⟩⟩⟩⟩)
set_option maxRecDepth 100000 in
theorem ct_X1_closePlain_0 : mc_X1_closePlain_0.all (ax_chkE mt_prog RX1 "closePlain" cX1_closePlain) = true := by decide +kernel
set_option maxRecDepth 100000 in
theorem ct_X1_closePlain_1 : mc_X1_closePlain_1.all (ax_chkE mt_prog RX1 "closePlain" cX1_closePlain) = true := by decide +kernel
set_option maxRecDepth 100000 in
theorem ch_X1_closePlain : ax_chkH (mt_X1_closePlain, 644, 122) = true := by decide +kernel
theorem pk_X1_closePlain : ax_MOk mt_prog mt_X1_closePlain := ax_MOk_of ch_X1_closePlain (List.forall_mem_cons.mpr ⟨ct_X1_closePlain_0, List.forall_mem_cons.mpr ⟨ct_X1_closePlain_1, fun _ h => absurd h List.not_mem_nil⟩⟩)
set_option maxRecDepth 100000 in
theorem ct_X1_closeTaking_0 : mc_X1_closeTaking_0.all (ax_chkE mt_prog RX1 "closeTaking" cX1_closeTaking) = true := by decide +kernel
set_option maxRecDepth 100000 in
theorem ct_X1_closeTaking_1 : mc_X1_closeTaking_1.all (ax_chkE mt_prog RX1 "closeTaking" cX1_closeTaking) = true := by decide +kernel
set_option maxRecDepth 100000 in
theorem ch_X1_closeTaking : ax_chkH (mt_X1_closeTaking, 632, 122) = true := by decide +kernel
theorem pk_X1_closeTaking : ax_MOk mt_prog mt_X1_closeTaking := ax_MOk_of ch_X1_closeTaking (List.forall_mem_cons.mpr ⟨ct_X1_closeTaking_0, List.forall_mem_cons.mpr ⟨ct_X1_closeTaking_1, fun _ h => absurd h List.not_mem_nil⟩⟩)
set_option maxRecDepth 100000 in
theorem ct_X1_mayTakeOnce_0 : mc_X1_mayTakeOnce_0.all (ax_chkE mt_prog RX1 "mayTakeOnce" cX1_mayTakeOnce) = true := by decide +kernel
set_option maxRecDepth 100000 in
theorem ch_X1_mayTakeOnce : ax_chkH (mt_X1_mayTakeOnce, 636, 122) = true := by decide +kernel
theorem pk_X1_mayTakeOnce : ax_MOk mt_prog mt_X1_mayTakeOnce := ax_MOk_of ch_X1_mayTakeOnce (List.forall_mem_cons.mpr ⟨ct_X1_mayTakeOnce_0, fun _ h => absurd h List.not_mem_nil⟩)
set_option maxRecDepth 100000 in
theorem ct_X1_mayTakeTwice_0 : mc_X1_mayTakeTwice_0.all (ax_chkE mt_prog RX1 "mayTakeTwice" cX1_mayTakeTwice) = true := by decide +kernel
set_option maxRecDepth 100000 in
theorem ch_X1_mayTakeTwice : ax_chkH (mt_X1_mayTakeTwice, 640, 122) = true := by decide +kernel
theorem pk_X1_mayTakeTwice : ax_MOk mt_prog mt_X1_mayTakeTwice := ax_MOk_of ch_X1_mayTakeTwice (List.forall_mem_cons.mpr ⟨ct_X1_mayTakeTwice_0, fun _ h => absurd h List.not_mem_nil⟩)
set_option maxRecDepth 100000 in
theorem ct_X1_standingOf_0 : mc_X1_standingOf_0.all (ax_chkE mt_prog RX1 "standingOf" cX1_standingOf) = true := by decide +kernel
set_option maxRecDepth 100000 in
theorem ch_X1_standingOf : ax_chkH (mt_X1_standingOf, 625, 122) = true := by decide +kernel
theorem pk_X1_standingOf : ax_MOk mt_prog mt_X1_standingOf := ax_MOk_of ch_X1_standingOf (List.forall_mem_cons.mpr ⟨ct_X1_standingOf_0, fun _ h => absurd h List.not_mem_nil⟩)
set_option maxRecDepth 100000 in
theorem ct_X1_belowIn_0 : mc_X1_belowIn_0.all (ax_chkE mt_prog RX1 "belowIn" cX1_belowIn) = true := by decide +kernel
set_option maxRecDepth 100000 in
theorem ch_X1_belowIn : ax_chkH (mt_X1_belowIn, 622, 122) = true := by decide +kernel
theorem pk_X1_belowIn : ax_MOk mt_prog mt_X1_belowIn := ax_MOk_of ch_X1_belowIn (List.forall_mem_cons.mpr ⟨ct_X1_belowIn_0, fun _ h => absurd h List.not_mem_nil⟩)
set_option maxRecDepth 100000 in
theorem ct_X1_signIn_0 : mc_X1_signIn_0.all (ax_chkE mt_prog RX1 "signIn" cX1_signIn) = true := by decide +kernel
set_option maxRecDepth 100000 in
theorem ch_X1_signIn : ax_chkH (mt_X1_signIn, 628, 122) = true := by decide +kernel
theorem pk_X1_signIn : ax_MOk mt_prog mt_X1_signIn := ax_MOk_of ch_X1_signIn (List.forall_mem_cons.mpr ⟨ct_X1_signIn_0, fun _ h => absurd h List.not_mem_nil⟩)
set_option maxRecDepth 100000 in
theorem ct_X1_openIn_0 : mc_X1_openIn_0.all (ax_chkE mt_prog RX1 "openIn" cX1_openIn) = true := by decide +kernel
set_option maxRecDepth 100000 in
theorem ch_X1_openIn : ax_chkH (mt_X1_openIn, 615, 122) = true := by decide +kernel
theorem pk_X1_openIn : ax_MOk mt_prog mt_X1_openIn := ax_MOk_of ch_X1_openIn (List.forall_mem_cons.mpr ⟨ct_X1_openIn_0, fun _ h => absurd h List.not_mem_nil⟩)
set_option maxRecDepth 100000 in
theorem ct_X1_digestOn_0 : mc_X1_digestOn_0.all (ax_chkE mt_prog RX1 "digestOn" cX1_digestOn) = true := by decide +kernel
set_option maxRecDepth 100000 in
theorem ct_X1_digestOn_1 : mc_X1_digestOn_1.all (ax_chkE mt_prog RX1 "digestOn" cX1_digestOn) = true := by decide +kernel
set_option maxRecDepth 100000 in
theorem ch_X1_digestOn : ax_chkH (mt_X1_digestOn, 1089, 122) = true := by decide +kernel
theorem pk_X1_digestOn : ax_MOk mt_prog mt_X1_digestOn := ax_MOk_of ch_X1_digestOn (List.forall_mem_cons.mpr ⟨ct_X1_digestOn_0, List.forall_mem_cons.mpr ⟨ct_X1_digestOn_1, fun _ h => absurd h List.not_mem_nil⟩⟩)
set_option maxRecDepth 100000 in
theorem ct_X2_init_0 : mc_X2_init_0.all (ax_chkE mt_prog RX2 "<init>" cX2_init) = true := by decide +kernel
set_option maxRecDepth 100000 in
theorem ct_X2_init_1 : mc_X2_init_1.all (ax_chkE mt_prog RX2 "<init>" cX2_init) = true := by decide +kernel
set_option maxRecDepth 100000 in
theorem ct_X2_init_2 : mc_X2_init_2.all (ax_chkE mt_prog RX2 "<init>" cX2_init) = true := by decide +kernel
set_option maxRecDepth 100000 in
theorem ct_X2_init_3 : mc_X2_init_3.all (ax_chkE mt_prog RX2 "<init>" cX2_init) = true := by decide +kernel
set_option maxRecDepth 100000 in
theorem ch_X2_init : ax_chkH (mt_X2_init, 354, 125) = true := by decide +kernel
theorem pk_X2_init : ax_MOk mt_prog mt_X2_init := ax_MOk_of ch_X2_init (List.forall_mem_cons.mpr ⟨ct_X2_init_0, List.forall_mem_cons.mpr ⟨ct_X2_init_1, List.forall_mem_cons.mpr ⟨ct_X2_init_2, List.forall_mem_cons.mpr ⟨ct_X2_init_3, fun _ h => absurd h List.not_mem_nil⟩⟩⟩⟩)
end
section
/-! ===== the tables are checked ===== -/
set_option maxRecDepth 100000 in
theorem ct_X2_append_0 : mc_X2_append_0.all (ax_chkE mt_prog RX2 "append" cX2_append) = true := by decide +kernel
set_option maxRecDepth 100000 in
theorem ct_X2_append_1 : mc_X2_append_1.all (ax_chkE mt_prog RX2 "append" cX2_append) = true := by decide +kernel
set_option maxRecDepth 100000 in
theorem ct_X2_append_2 : mc_X2_append_2.all (ax_chkE mt_prog RX2 "append" cX2_append) = true := by decide +kernel
set_option maxRecDepth 100000 in
theorem ch_X2_append : ax_chkH (mt_X2_append, 1005, 125) = true := by decide +kernel
theorem pk_X2_append : ax_MOk mt_prog mt_X2_append := ax_MOk_of ch_X2_append (List.forall_mem_cons.mpr ⟨ct_X2_append_0, List.forall_mem_cons.mpr ⟨ct_X2_append_1, List.forall_mem_cons.mpr ⟨ct_X2_append_2, fun _ h => absurd h List.not_mem_nil⟩⟩⟩)
set_option maxRecDepth 100000 in
theorem ct_X2_clear_0 : mc_X2_clear_0.all (ax_chkE mt_prog RX2 "clear" cX2_clear) = true := by decide +kernel
set_option maxRecDepth 100000 in
theorem ch_X2_clear : ax_chkH (mt_X2_clear, 1015, 125) = true := by decide +kernel
theorem pk_X2_clear : ax_MOk mt_prog mt_X2_clear := ax_MOk_of ch_X2_clear (List.forall_mem_cons.mpr ⟨ct_X2_clear_0, fun _ h => absurd h List.not_mem_nil⟩)
set_option maxRecDepth 100000 in
theorem ct_X2_totalAhead_0 : mc_X2_totalAhead_0.all (ax_chkE mt_prog RX2 "totalAhead" cX2_totalAhead) = true := by decide +kernel
set_option maxRecDepth 100000 in
theorem ch_X2_totalAhead : ax_chkH (mt_X2_totalAhead, 1027, 125) = true := by decide +kernel
theorem pk_X2_totalAhead : ax_MOk mt_prog mt_X2_totalAhead := ax_MOk_of ch_X2_totalAhead (List.forall_mem_cons.mpr ⟨ct_X2_totalAhead_0, fun _ h => absurd h List.not_mem_nil⟩)
set_option maxRecDepth 100000 in
theorem ct_X2_firstWrong_0 : mc_X2_firstWrong_0.all (ax_chkE mt_prog RX2 "firstWrong" cX2_firstWrong) = true := by decide +kernel
set_option maxRecDepth 100000 in
theorem ct_X2_firstWrong_1 : mc_X2_firstWrong_1.all (ax_chkE mt_prog RX2 "firstWrong" cX2_firstWrong) = true := by decide +kernel
set_option maxRecDepth 100000 in
theorem ch_X2_firstWrong : ax_chkH (mt_X2_firstWrong, 1023, 125) = true := by decide +kernel
theorem pk_X2_firstWrong : ax_MOk mt_prog mt_X2_firstWrong := ax_MOk_of ch_X2_firstWrong (List.forall_mem_cons.mpr ⟨ct_X2_firstWrong_0, List.forall_mem_cons.mpr ⟨ct_X2_firstWrong_1, fun _ h => absurd h List.not_mem_nil⟩⟩)
set_option maxRecDepth 100000 in
theorem ct_X2_firstMended_0 : mc_X2_firstMended_0.all (ax_chkE mt_prog RX2 "firstMended" cX2_firstMended) = true := by decide +kernel
set_option maxRecDepth 100000 in
theorem ct_X2_firstMended_1 : mc_X2_firstMended_1.all (ax_chkE mt_prog RX2 "firstMended" cX2_firstMended) = true := by decide +kernel
set_option maxRecDepth 100000 in
theorem ch_X2_firstMended : ax_chkH (mt_X2_firstMended, 1035, 125) = true := by decide +kernel
theorem pk_X2_firstMended : ax_MOk mt_prog mt_X2_firstMended := ax_MOk_of ch_X2_firstMended (List.forall_mem_cons.mpr ⟨ct_X2_firstMended_0, List.forall_mem_cons.mpr ⟨ct_X2_firstMended_1, fun _ h => absurd h List.not_mem_nil⟩⟩)
set_option maxRecDepth 100000 in
theorem ct_X2_findSlip_0 : mc_X2_findSlip_0.all (ax_chkE mt_prog RX2 "findSlip" cX2_findSlip) = true := by decide +kernel
set_option maxRecDepth 100000 in
theorem ct_X2_findSlip_1 : mc_X2_findSlip_1.all (ax_chkE mt_prog RX2 "findSlip" cX2_findSlip) = true := by decide +kernel
set_option maxRecDepth 100000 in
theorem ct_X2_findSlip_2 : mc_X2_findSlip_2.all (ax_chkE mt_prog RX2 "findSlip" cX2_findSlip) = true := by decide +kernel
set_option maxRecDepth 100000 in
theorem ch_X2_findSlip : ax_chkH (mt_X2_findSlip, 1044, 125) = true := by decide +kernel
theorem pk_X2_findSlip : ax_MOk mt_prog mt_X2_findSlip := ax_MOk_of ch_X2_findSlip (List.forall_mem_cons.mpr ⟨ct_X2_findSlip_0, List.forall_mem_cons.mpr ⟨ct_X2_findSlip_1, List.forall_mem_cons.mpr ⟨ct_X2_findSlip_2, fun _ h => absurd h List.not_mem_nil⟩⟩⟩)
set_option maxRecDepth 100000 in
theorem ct_X2_canBecome_0 : mc_X2_canBecome_0.all (ax_chkE mt_prog RX2 "canBecome" cX2_canBecome) = true := by decide +kernel
set_option maxRecDepth 100000 in
theorem ct_X2_canBecome_1 : mc_X2_canBecome_1.all (ax_chkE mt_prog RX2 "canBecome" cX2_canBecome) = true := by decide +kernel
set_option maxRecDepth 100000 in
theorem ch_X2_canBecome : ax_chkH (mt_X2_canBecome, 1048, 125) = true := by decide +kernel
theorem pk_X2_canBecome : ax_MOk mt_prog mt_X2_canBecome := ax_MOk_of ch_X2_canBecome (List.forall_mem_cons.mpr ⟨ct_X2_canBecome_0, List.forall_mem_cons.mpr ⟨ct_X2_canBecome_1, fun _ h => absurd h List.not_mem_nil⟩⟩)
set_option maxRecDepth 100000 in
theorem ct_X2_withOneMore_0 : mc_X2_withOneMore_0.all (ax_chkE mt_prog RX2 "withOneMore" cX2_withOneMore) = true := by decide +kernel
set_option maxRecDepth 100000 in
theorem ct_X2_withOneMore_1 : mc_X2_withOneMore_1.all (ax_chkE mt_prog RX2 "withOneMore" cX2_withOneMore) = true := by decide +kernel
set_option maxRecDepth 100000 in
theorem ct_X2_withOneMore_2 : mc_X2_withOneMore_2.all (ax_chkE mt_prog RX2 "withOneMore" cX2_withOneMore) = true := by decide +kernel
set_option maxRecDepth 100000 in
theorem ct_X2_withOneMore_3 : mc_X2_withOneMore_3.all (ax_chkE mt_prog RX2 "withOneMore" cX2_withOneMore) = true := by decide +kernel
set_option maxRecDepth 100000 in
theorem ch_X2_withOneMore : ax_chkH (mt_X2_withOneMore, 1052, 125) = true := by decide +kernel
theorem pk_X2_withOneMore : ax_MOk mt_prog mt_X2_withOneMore := ax_MOk_of ch_X2_withOneMore (List.forall_mem_cons.mpr ⟨ct_X2_withOneMore_0, List.forall_mem_cons.mpr ⟨ct_X2_withOneMore_1, List.forall_mem_cons.mpr ⟨ct_X2_withOneMore_2, List.forall_mem_cons.mpr ⟨ct_X2_withOneMore_3, fun _ h => absurd h List.not_mem_nil⟩⟩⟩⟩)
set_option maxRecDepth 100000 in
theorem ct_X2_withOneLess_0 : mc_X2_withOneLess_0.all (ax_chkE mt_prog RX2 "withOneLess" cX2_withOneLess) = true := by decide +kernel
set_option maxRecDepth 100000 in
theorem ct_X2_withOneLess_1 : mc_X2_withOneLess_1.all (ax_chkE mt_prog RX2 "withOneLess" cX2_withOneLess) = true := by decide +kernel
set_option maxRecDepth 100000 in
theorem ct_X2_withOneLess_2 : mc_X2_withOneLess_2.all (ax_chkE mt_prog RX2 "withOneLess" cX2_withOneLess) = true := by decide +kernel
set_option maxRecDepth 100000 in
theorem ct_X2_withOneLess_3 : mc_X2_withOneLess_3.all (ax_chkE mt_prog RX2 "withOneLess" cX2_withOneLess) = true := by decide +kernel
set_option maxRecDepth 100000 in
theorem ch_X2_withOneLess : ax_chkH (mt_X2_withOneLess, 1064, 125) = true := by decide +kernel
theorem pk_X2_withOneLess : ax_MOk mt_prog mt_X2_withOneLess := ax_MOk_of ch_X2_withOneLess (List.forall_mem_cons.mpr ⟨ct_X2_withOneLess_0, List.forall_mem_cons.mpr ⟨ct_X2_withOneLess_1, List.forall_mem_cons.mpr ⟨ct_X2_withOneLess_2, List.forall_mem_cons.mpr ⟨ct_X2_withOneLess_3, fun _ h => absurd h List.not_mem_nil⟩⟩⟩⟩)
set_option maxRecDepth 100000 in
theorem ct_X2_withOneOther_0 : mc_X2_withOneOther_0.all (ax_chkE mt_prog RX2 "withOneOther" cX2_withOneOther) = true := by decide +kernel
set_option maxRecDepth 100000 in
theorem ct_X2_withOneOther_1 : mc_X2_withOneOther_1.all (ax_chkE mt_prog RX2 "withOneOther" cX2_withOneOther) = true := by decide +kernel
set_option maxRecDepth 100000 in
theorem ct_X2_withOneOther_2 : mc_X2_withOneOther_2.all (ax_chkE mt_prog RX2 "withOneOther" cX2_withOneOther) = true := by decide +kernel
set_option maxRecDepth 100000 in
theorem ch_X2_withOneOther : ax_chkH (mt_X2_withOneOther, 1068, 125) = true := by decide +kernel
theorem pk_X2_withOneOther : ax_MOk mt_prog mt_X2_withOneOther := ax_MOk_of ch_X2_withOneOther (List.forall_mem_cons.mpr ⟨ct_X2_withOneOther_0, List.forall_mem_cons.mpr ⟨ct_X2_withOneOther_1, List.forall_mem_cons.mpr ⟨ct_X2_withOneOther_2, fun _ h => absurd h List.not_mem_nil⟩⟩⟩)
set_option maxRecDepth 100000 in
theorem ct_X2_anySignFits_0 : mc_X2_anySignFits_0.all (ax_chkE mt_prog RX2 "anySignFits" cX2_anySignFits) = true := by decide +kernel
set_option maxRecDepth 100000 in
theorem ct_X2_anySignFits_1 : mc_X2_anySignFits_1.all (ax_chkE mt_prog RX2 "anySignFits" cX2_anySignFits) = true := by decide +kernel
set_option maxRecDepth 100000 in
theorem ch_X2_anySignFits : ax_chkH (mt_X2_anySignFits, 1056, 125) = true := by decide +kernel
theorem pk_X2_anySignFits : ax_MOk mt_prog mt_X2_anySignFits := ax_MOk_of ch_X2_anySignFits (List.forall_mem_cons.mpr ⟨ct_X2_anySignFits_0, List.forall_mem_cons.mpr ⟨ct_X2_anySignFits_1, fun _ h => absurd h List.not_mem_nil⟩⟩)
set_option maxRecDepth 100000 in
theorem ct_X2_foundSlip_0 : mc_X2_foundSlip_0.all (ax_chkE mt_prog RX2 "foundSlip" cX2_foundSlip) = true := by decide +kernel
set_option maxRecDepth 100000 in
theorem ch_X2_foundSlip : ax_chkH (mt_X2_foundSlip, 1060, 125) = true := by decide +kernel
theorem pk_X2_foundSlip : ax_MOk mt_prog mt_X2_foundSlip := ax_MOk_of ch_X2_foundSlip (List.forall_mem_cons.mpr ⟨ct_X2_foundSlip_0, fun _ h => absurd h List.not_mem_nil⟩)
set_option maxRecDepth 100000 in
theorem ct_X2_digestOn_0 : mc_X2_digestOn_0.all (ax_chkE mt_prog RX2 "digestOn" cX2_digestOn) = true := by decide +kernel
set_option maxRecDepth 100000 in
theorem ct_X2_digestOn_1 : mc_X2_digestOn_1.all (ax_chkE mt_prog RX2 "digestOn" cX2_digestOn) = true := by decide +kernel
set_option maxRecDepth 100000 in
theorem ch_X2_digestOn : ax_chkH (mt_X2_digestOn, 1110, 125) = true := by decide +kernel
theorem pk_X2_digestOn : ax_MOk mt_prog mt_X2_digestOn := ax_MOk_of ch_X2_digestOn (List.forall_mem_cons.mpr ⟨ct_X2_digestOn_0, List.forall_mem_cons.mpr ⟨ct_X2_digestOn_1, fun _ h => absurd h List.not_mem_nil⟩⟩)
set_option maxRecDepth 100000 in
theorem ct_X3_init_0 : mc_X3_init_0.all (ax_chkE mt_prog RX3 "<init>" cX3_init) = true := by decide +kernel
set_option maxRecDepth 100000 in
theorem ct_X3_init_1 : mc_X3_init_1.all (ax_chkE mt_prog RX3 "<init>" cX3_init) = true := by decide +kernel
set_option maxRecDepth 100000 in
theorem ch_X3_init : ax_chkH (mt_X3_init, 405, 126) = true := by decide +kernel
theorem pk_X3_init : ax_MOk mt_prog mt_X3_init := ax_MOk_of ch_X3_init (List.forall_mem_cons.mpr ⟨ct_X3_init_0, List.forall_mem_cons.mpr ⟨ct_X3_init_1, fun _ h => absurd h List.not_mem_nil⟩⟩)
end
section
/-! ===== the tables are checked ===== -/
set_option maxRecDepth 100000 in
theorem ct_X3_remember_0 : mc_X3_remember_0.all (ax_chkE mt_prog RX3 "remember" cX3_remember) = true := by decide +kernel
set_option maxRecDepth 100000 in
theorem ct_X3_remember_1 : mc_X3_remember_1.all (ax_chkE mt_prog RX3 "remember" cX3_remember) = true := by decide +kernel
set_option maxRecDepth 100000 in
theorem ch_X3_remember : ax_chkH (mt_X3_remember, 988, 126) = true := by decide +kernel
theorem pk_X3_remember : ax_MOk mt_prog mt_X3_remember := ax_MOk_of ch_X3_remember (List.forall_mem_cons.mpr ⟨ct_X3_remember_0, List.forall_mem_cons.mpr ⟨ct_X3_remember_1, fun _ h => absurd h List.not_mem_nil⟩⟩)
set_option maxRecDepth 100000 in
theorem ct_X3_meet_0 : mc_X3_meet_0.all (ax_chkE mt_prog RX3 "meet" cX3_meet) = true := by decide +kernel
set_option maxRecDepth 100000 in
theorem ct_X3_meet_1 : mc_X3_meet_1.all (ax_chkE mt_prog RX3 "meet" cX3_meet) = true := by decide +kernel
set_option maxRecDepth 100000 in
theorem ch_X3_meet : ax_chkH (mt_X3_meet, 604, 126) = true := by decide +kernel
theorem pk_X3_meet : ax_MOk mt_prog mt_X3_meet := ax_MOk_of ch_X3_meet (List.forall_mem_cons.mpr ⟨ct_X3_meet_0, List.forall_mem_cons.mpr ⟨ct_X3_meet_1, fun _ h => absurd h List.not_mem_nil⟩⟩)
set_option maxRecDepth 100000 in
theorem ct_X4_init_0 : mc_X4_init_0.all (ax_chkE mt_prog RX4 "<init>" cX4_init) = true := by decide +kernel
set_option maxRecDepth 100000 in
theorem ch_X4_init : ax_chkH (mt_X4_init, 146, 117) = true := by decide +kernel
theorem pk_X4_init : ax_MOk mt_prog mt_X4_init := ax_MOk_of ch_X4_init (List.forall_mem_cons.mpr ⟨ct_X4_init_0, fun _ h => absurd h List.not_mem_nil⟩)
set_option maxRecDepth 100000 in
theorem ct_X4_codeAt_0 : mc_X4_codeAt_0.all (ax_chkE mt_prog RX4 "codeAt" cX4_codeAt) = true := by decide +kernel
set_option maxRecDepth 100000 in
theorem ch_X4_codeAt : ax_chkH (mt_X4_codeAt, 464, 117) = true := by decide +kernel
theorem pk_X4_codeAt : ax_MOk mt_prog mt_X4_codeAt := ax_MOk_of ch_X4_codeAt (List.forall_mem_cons.mpr ⟨ct_X4_codeAt_0, fun _ h => absurd h List.not_mem_nil⟩)
set_option maxRecDepth 100000 in
theorem ct_X4_lettersIn_0 : mc_X4_lettersIn_0.all (ax_chkE mt_prog RX4 "lettersIn" cX4_lettersIn) = true := by decide +kernel
set_option maxRecDepth 100000 in
theorem ct_X4_lettersIn_1 : mc_X4_lettersIn_1.all (ax_chkE mt_prog RX4 "lettersIn" cX4_lettersIn) = true := by decide +kernel
set_option maxRecDepth 100000 in
theorem ch_X4_lettersIn : ax_chkH (mt_X4_lettersIn, 461, 117) = true := by decide +kernel
theorem pk_X4_lettersIn : ax_MOk mt_prog mt_X4_lettersIn := ax_MOk_of ch_X4_lettersIn (List.forall_mem_cons.mpr ⟨ct_X4_lettersIn_0, List.forall_mem_cons.mpr ⟨ct_X4_lettersIn_1, fun _ h => absurd h List.not_mem_nil⟩⟩)
set_option maxRecDepth 100000 in
theorem ct_X4_append_0 : mc_X4_append_0.all (ax_chkE mt_prog RX4 "append" cX4_append) = true := by decide +kernel
set_option maxRecDepth 100000 in
theorem ct_X4_append_1 : mc_X4_append_1.all (ax_chkE mt_prog RX4 "append" cX4_append) = true := by decide +kernel
set_option maxRecDepth 100000 in
theorem ch_X4_append : ax_chkH (mt_X4_append, 468, 117) = true := by decide +kernel
theorem pk_X4_append : ax_MOk mt_prog mt_X4_append := ax_MOk_of ch_X4_append (List.forall_mem_cons.mpr ⟨ct_X4_append_0, List.forall_mem_cons.mpr ⟨ct_X4_append_1, fun _ h => absurd h List.not_mem_nil⟩⟩)
set_option maxRecDepth 100000 in
theorem ct_X4_isRowOfSigns_0 : mc_X4_isRowOfSigns_0.all (ax_chkE mt_prog RX4 "isRowOfSigns" cX4_isRowOfSigns) = true := by decide +kernel
set_option maxRecDepth 100000 in
theorem ct_X4_isRowOfSigns_1 : mc_X4_isRowOfSigns_1.all (ax_chkE mt_prog RX4 "isRowOfSigns" cX4_isRowOfSigns) = true := by decide +kernel
set_option maxRecDepth 100000 in
theorem ch_X4_isRowOfSigns : ax_chkH (mt_X4_isRowOfSigns, 667, 117) = true := by decide +kernel
theorem pk_X4_isRowOfSigns : ax_MOk mt_prog mt_X4_isRowOfSigns := ax_MOk_of ch_X4_isRowOfSigns (List.forall_mem_cons.mpr ⟨ct_X4_isRowOfSigns_0, List.forall_mem_cons.mpr ⟨ct_X4_isRowOfSigns_1, fun _ h => absurd h List.not_mem_nil⟩⟩)
set_option maxRecDepth 100000 in
theorem ct_X4_copySigns_0 : mc_X4_copySigns_0.all (ax_chkE mt_prog RX4 "copySigns" cX4_copySigns) = true := by decide +kernel
set_option maxRecDepth 100000 in
theorem ct_X4_copySigns_1 : mc_X4_copySigns_1.all (ax_chkE mt_prog RX4 "copySigns" cX4_copySigns) = true := by decide +kernel
set_option maxRecDepth 100000 in
theorem ch_X4_copySigns : ax_chkH (mt_X4_copySigns, 672, 117) = true := by decide +kernel
theorem pk_X4_copySigns : ax_MOk mt_prog mt_X4_copySigns := ax_MOk_of ch_X4_copySigns (List.forall_mem_cons.mpr ⟨ct_X4_copySigns_0, List.forall_mem_cons.mpr ⟨ct_X4_copySigns_1, fun _ h => absurd h List.not_mem_nil⟩⟩)
set_option maxRecDepth 100000 in
theorem ct_X4_digestOn_0 : mc_X4_digestOn_0.all (ax_chkE mt_prog RX4 "digestOn" cX4_digestOn) = true := by decide +kernel
set_option maxRecDepth 100000 in
theorem ch_X4_digestOn : ax_chkH (mt_X4_digestOn, 1081, 117) = true := by decide +kernel
theorem pk_X4_digestOn : ax_MOk mt_prog mt_X4_digestOn := ax_MOk_of ch_X4_digestOn (List.forall_mem_cons.mpr ⟨ct_X4_digestOn_0, fun _ h => absurd h List.not_mem_nil⟩)
set_option maxRecDepth 100000 in
theorem ct_X5_init_0 : mc_X5_init_0.all (ax_chkE mt_prog RX5 "<init>" cX5_init) = true := by decide +kernel
set_option maxRecDepth 100000 in
theorem ch_X5_init : ax_chkH (mt_X5_init, 203, 121) = true := by decide +kernel
theorem pk_X5_init : ax_MOk mt_prog mt_X5_init := ax_MOk_of ch_X5_init (List.forall_mem_cons.mpr ⟨ct_X5_init_0, fun _ h => absurd h List.not_mem_nil⟩)
set_option maxRecDepth 100000 in
theorem ct_X5_copy_0 : mc_X5_copy_0.all (ax_chkE mt_prog RX5 "copy" cX5_copy) = true := by decide +kernel
set_option maxRecDepth 100000 in
theorem ct_X5_copy_1 : mc_X5_copy_1.all (ax_chkE mt_prog RX5 "copy" cX5_copy) = true := by decide +kernel
set_option maxRecDepth 100000 in
theorem ch_X5_copy : ax_chkH (mt_X5_copy, 792, 121) = true := by decide +kernel
theorem pk_X5_copy : ax_MOk mt_prog mt_X5_copy := ax_MOk_of ch_X5_copy (List.forall_mem_cons.mpr ⟨ct_X5_copy_0, List.forall_mem_cons.mpr ⟨ct_X5_copy_1, fun _ h => absurd h List.not_mem_nil⟩⟩)
set_option maxRecDepth 100000 in
theorem ct_X5_put_0 : mc_X5_put_0.all (ax_chkE mt_prog RX5 "put" cX5_put) = true := by decide +kernel
set_option maxRecDepth 100000 in
theorem ct_X5_put_1 : mc_X5_put_1.all (ax_chkE mt_prog RX5 "put" cX5_put) = true := by decide +kernel
set_option maxRecDepth 100000 in
theorem ch_X5_put : ax_chkH (mt_X5_put, 676, 121) = true := by decide +kernel
theorem pk_X5_put : ax_MOk mt_prog mt_X5_put := ax_MOk_of ch_X5_put (List.forall_mem_cons.mpr ⟨ct_X5_put_0, List.forall_mem_cons.mpr ⟨ct_X5_put_1, fun _ h => absurd h List.not_mem_nil⟩⟩)
set_option maxRecDepth 100000 in
theorem ct_X5_isTaken_0 : mc_X5_isTaken_0.all (ax_chkE mt_prog RX5 "isTaken" cX5_isTaken) = true := by decide +kernel
set_option maxRecDepth 100000 in
theorem ct_X5_isTaken_1 : mc_X5_isTaken_1.all (ax_chkE mt_prog RX5 "isTaken" cX5_isTaken) = true := by decide +kernel
set_option maxRecDepth 100000 in
theorem ch_X5_isTaken : ax_chkH (mt_X5_isTaken, 692, 121) = true := by decide +kernel
theorem pk_X5_isTaken : ax_MOk mt_prog mt_X5_isTaken := ax_MOk_of ch_X5_isTaken (List.forall_mem_cons.mpr ⟨ct_X5_isTaken_0, List.forall_mem_cons.mpr ⟨ct_X5_isTaken_1, fun _ h => absurd h List.not_mem_nil⟩⟩)
set_option maxRecDepth 100000 in
theorem ct_X5_total_0 : mc_X5_total_0.all (ax_chkE mt_prog RX5 "total" cX5_total) = true := by decide +kernel
set_option maxRecDepth 100000 in
theorem ct_X5_total_1 : mc_X5_total_1.all (ax_chkE mt_prog RX5 "total" cX5_total) = true := by decide +kernel
set_option maxRecDepth 100000 in
theorem ch_X5_total : ax_chkH (mt_X5_total, 688, 121) = true := by decide +kernel
theorem pk_X5_total : ax_MOk mt_prog mt_X5_total := ax_MOk_of ch_X5_total (List.forall_mem_cons.mpr ⟨ct_X5_total_0, List.forall_mem_cons.mpr ⟨ct_X5_total_1, fun _ h => absurd h List.not_mem_nil⟩⟩)
set_option maxRecDepth 100000 in
theorem ct_X5_digestOn_0 : mc_X5_digestOn_0.all (ax_chkE mt_prog RX5 "digestOn" cX5_digestOn) = true := by decide +kernel
set_option maxRecDepth 100000 in
theorem ct_X5_digestOn_1 : mc_X5_digestOn_1.all (ax_chkE mt_prog RX5 "digestOn" cX5_digestOn) = true := by decide +kernel
set_option maxRecDepth 100000 in
theorem ch_X5_digestOn : ax_chkH (mt_X5_digestOn, 1094, 121) = true := by decide +kernel
theorem pk_X5_digestOn : ax_MOk mt_prog mt_X5_digestOn := ax_MOk_of ch_X5_digestOn (List.forall_mem_cons.mpr ⟨ct_X5_digestOn_0, List.forall_mem_cons.mpr ⟨ct_X5_digestOn_1, fun _ h => absurd h List.not_mem_nil⟩⟩)
set_option maxRecDepth 100000 in
theorem ct_X6_goodLetters_0 : mc_X6_goodLetters_0.all (ax_chkE mt_prog RX6 "goodLetters" cX6_goodLetters) = true := by decide +kernel
set_option maxRecDepth 100000 in
theorem ct_X6_goodLetters_1 : mc_X6_goodLetters_1.all (ax_chkE mt_prog RX6 "goodLetters" cX6_goodLetters) = true := by decide +kernel
set_option maxRecDepth 100000 in
theorem ch_X6_goodLetters : ax_chkH (mt_X6_goodLetters, 479, 128) = true := by decide +kernel
theorem pk_X6_goodLetters : ax_MOk mt_prog mt_X6_goodLetters := ax_MOk_of ch_X6_goodLetters (List.forall_mem_cons.mpr ⟨ct_X6_goodLetters_0, List.forall_mem_cons.mpr ⟨ct_X6_goodLetters_1, fun _ h => absurd h List.not_mem_nil⟩⟩)
set_option maxRecDepth 100000 in
theorem ct_X6_isWhole_0 : mc_X6_isWhole_0.all (ax_chkE mt_prog RX6 "isWhole" cX6_isWhole) = true := by decide +kernel
set_option maxRecDepth 100000 in
theorem ct_X6_isWhole_1 : mc_X6_isWhole_1.all (ax_chkE mt_prog RX6 "isWhole" cX6_isWhole) = true := by decide +kernel
set_option maxRecDepth 100000 in
theorem ch_X6_isWhole : ax_chkH (mt_X6_isWhole, 594, 128) = true := by decide +kernel
theorem pk_X6_isWhole : ax_MOk mt_prog mt_X6_isWhole := ax_MOk_of ch_X6_isWhole (List.forall_mem_cons.mpr ⟨ct_X6_isWhole_0, List.forall_mem_cons.mpr ⟨ct_X6_isWhole_1, fun _ h => absurd h List.not_mem_nil⟩⟩)
set_option maxRecDepth 100000 in
theorem ct_X6_read_0 : mc_X6_read_0.all (ax_chkE mt_prog RX6 "read" cX6_read) = true := by decide +kernel
set_option maxRecDepth 100000 in
theorem ct_X6_read_1 : mc_X6_read_1.all (ax_chkE mt_prog RX6 "read" cX6_read) = true := by decide +kernel
set_option maxRecDepth 100000 in
theorem ch_X6_read : ax_chkH (mt_X6_read, 597, 128) = true := by decide +kernel
theorem pk_X6_read : ax_MOk mt_prog mt_X6_read := ax_MOk_of ch_X6_read (List.forall_mem_cons.mpr ⟨ct_X6_read_0, List.forall_mem_cons.mpr ⟨ct_X6_read_1, fun _ h => absurd h List.not_mem_nil⟩⟩)
set_option maxRecDepth 100000 in
theorem ct_X6_keep_0 : mc_X6_keep_0.all (ax_chkE mt_prog RX6 "keep" cX6_keep) = true := by decide +kernel
set_option maxRecDepth 100000 in
theorem ct_X6_keep_1 : mc_X6_keep_1.all (ax_chkE mt_prog RX6 "keep" cX6_keep) = true := by decide +kernel
set_option maxRecDepth 100000 in
theorem ct_X6_keep_2 : mc_X6_keep_2.all (ax_chkE mt_prog RX6 "keep" cX6_keep) = true := by decide +kernel
set_option maxRecDepth 100000 in
theorem ch_X6_keep : ax_chkH (mt_X6_keep, 600, 128) = true := by decide +kernel
theorem pk_X6_keep : ax_MOk mt_prog mt_X6_keep := ax_MOk_of ch_X6_keep (List.forall_mem_cons.mpr ⟨ct_X6_keep_0, List.forall_mem_cons.mpr ⟨ct_X6_keep_1, List.forall_mem_cons.mpr ⟨ct_X6_keep_2, fun _ h => absurd h List.not_mem_nil⟩⟩⟩)
end
section
/-! ===== the tables are checked ===== -/
set_option maxRecDepth 100000 in
theorem ct_X6_endsRule_0 : mc_X6_endsRule_0.all (ax_chkE mt_prog RX6 "endsRule" cX6_endsRule) = true := by decide +kernel
set_option maxRecDepth 100000 in
theorem ch_X6_endsRule : ax_chkH (mt_X6_endsRule, 485, 128) = true := by decide +kernel
theorem pk_X6_endsRule : ax_MOk mt_prog mt_X6_endsRule := ax_MOk_of ch_X6_endsRule (List.forall_mem_cons.mpr ⟨ct_X6_endsRule_0, fun _ h => absurd h List.not_mem_nil⟩)
set_option maxRecDepth 100000 in
theorem ct_X6_after_0 : mc_X6_after_0.all (ax_chkE mt_prog RX6 "after" cX6_after) = true := by decide +kernel
set_option maxRecDepth 100000 in
theorem ct_X6_after_1 : mc_X6_after_1.all (ax_chkE mt_prog RX6 "after" cX6_after) = true := by decide +kernel
set_option maxRecDepth 100000 in
theorem ct_X6_after_2 : mc_X6_after_2.all (ax_chkE mt_prog RX6 "after" cX6_after) = true := by decide +kernel
set_option maxRecDepth 100000 in
theorem ch_X6_after : ax_chkH (mt_X6_after, 482, 128) = true := by decide +kernel
theorem pk_X6_after : ax_MOk mt_prog mt_X6_after := ax_MOk_of ch_X6_after (List.forall_mem_cons.mpr ⟨ct_X6_after_0, List.forall_mem_cons.mpr ⟨ct_X6_after_1, List.forall_mem_cons.mpr ⟨ct_X6_after_2, fun _ h => absurd h List.not_mem_nil⟩⟩⟩)
set_option maxRecDepth 100000 in
theorem ct_X6_behindMark_0 : mc_X6_behindMark_0.all (ax_chkE mt_prog RX6 "behindMark" cX6_behindMark) = true := by decide +kernel
set_option maxRecDepth 100000 in
theorem ct_X6_behindMark_1 : mc_X6_behindMark_1.all (ax_chkE mt_prog RX6 "behindMark" cX6_behindMark) = true := by decide +kernel
set_option maxRecDepth 100000 in
theorem ch_X6_behindMark : ax_chkH (mt_X6_behindMark, 488, 128) = true := by decide +kernel
theorem pk_X6_behindMark : ax_MOk mt_prog mt_X6_behindMark := ax_MOk_of ch_X6_behindMark (List.forall_mem_cons.mpr ⟨ct_X6_behindMark_0, List.forall_mem_cons.mpr ⟨ct_X6_behindMark_1, fun _ h => absurd h List.not_mem_nil⟩⟩)
set_option maxRecDepth 100000 in
theorem ct_X6_behindSign_0 : mc_X6_behindSign_0.all (ax_chkE mt_prog RX6 "behindSign" cX6_behindSign) = true := by decide +kernel
set_option maxRecDepth 100000 in
theorem ct_X6_behindSign_1 : mc_X6_behindSign_1.all (ax_chkE mt_prog RX6 "behindSign" cX6_behindSign) = true := by decide +kernel
set_option maxRecDepth 100000 in
theorem ct_X6_behindSign_2 : mc_X6_behindSign_2.all (ax_chkE mt_prog RX6 "behindSign" cX6_behindSign) = true := by decide +kernel
set_option maxRecDepth 100000 in
theorem ch_X6_behindSign : ax_chkH (mt_X6_behindSign, 586, 128) = true := by decide +kernel
theorem pk_X6_behindSign : ax_MOk mt_prog mt_X6_behindSign := ax_MOk_of ch_X6_behindSign (List.forall_mem_cons.mpr ⟨ct_X6_behindSign_0, List.forall_mem_cons.mpr ⟨ct_X6_behindSign_1, List.forall_mem_cons.mpr ⟨ct_X6_behindSign_2, fun _ h => absurd h List.not_mem_nil⟩⟩⟩)
set_option maxRecDepth 100000 in
theorem ct_X6_outweighs_0 : mc_X6_outweighs_0.all (ax_chkE mt_prog RX6 "outweighs" cX6_outweighs) = true := by decide +kernel
set_option maxRecDepth 100000 in
theorem ch_X6_outweighs : ax_chkH (mt_X6_outweighs, 491, 128) = true := by decide +kernel
theorem pk_X6_outweighs : ax_MOk mt_prog mt_X6_outweighs := ax_MOk_of ch_X6_outweighs (List.forall_mem_cons.mpr ⟨ct_X6_outweighs_0, fun _ h => absurd h List.not_mem_nil⟩)
set_option maxRecDepth 100000 in
theorem ct_X6_at_0 : mc_X6_at_0.all (ax_chkE mt_prog RX6 "at" cX6_at) = true := by decide +kernel
set_option maxRecDepth 100000 in
theorem ch_X6_at : ax_chkH (mt_X6_at, 495, 128) = true := by decide +kernel
theorem pk_X6_at : ax_MOk mt_prog mt_X6_at := ax_MOk_of ch_X6_at (List.forall_mem_cons.mpr ⟨ct_X6_at_0, fun _ h => absurd h List.not_mem_nil⟩)
set_option maxRecDepth 100000 in
theorem ct_X7_init_0 : mc_X7_init_0.all (ax_chkE mt_prog RX7 "<init>" cX7_init) = true := by decide +kernel
set_option maxRecDepth 100000 in
theorem ct_X7_init_1 : mc_X7_init_1.all (ax_chkE mt_prog RX7 "<init>" cX7_init) = true := by decide +kernel
set_option maxRecDepth 100000 in
theorem ch_X7_init : ax_chkH (mt_X7_init, 312, 124) = true := by decide +kernel
theorem pk_X7_init : ax_MOk mt_prog mt_X7_init := ax_MOk_of ch_X7_init (List.forall_mem_cons.mpr ⟨ct_X7_init_0, List.forall_mem_cons.mpr ⟨ct_X7_init_1, fun _ h => absurd h List.not_mem_nil⟩⟩)
set_option maxRecDepth 100000 in
theorem ct_X7_placesOn_0 : mc_X7_placesOn_0.all (ax_chkE mt_prog RX7 "placesOn" cX7_placesOn) = true := by decide +kernel
set_option maxRecDepth 100000 in
theorem ct_X7_placesOn_1 : mc_X7_placesOn_1.all (ax_chkE mt_prog RX7 "placesOn" cX7_placesOn) = true := by decide +kernel
set_option maxRecDepth 100000 in
theorem ch_X7_placesOn : ax_chkH (mt_X7_placesOn, 926, 124) = true := by decide +kernel
theorem pk_X7_placesOn : ax_MOk mt_prog mt_X7_placesOn := ax_MOk_of ch_X7_placesOn (List.forall_mem_cons.mpr ⟨ct_X7_placesOn_0, List.forall_mem_cons.mpr ⟨ct_X7_placesOn_1, fun _ h => absurd h List.not_mem_nil⟩⟩)
set_option maxRecDepth 100000 in
theorem ct_X7_isStone_0 : mc_X7_isStone_0.all (ax_chkE mt_prog RX7 "isStone" cX7_isStone) = true := by decide +kernel
set_option maxRecDepth 100000 in
theorem ct_X7_isStone_1 : mc_X7_isStone_1.all (ax_chkE mt_prog RX7 "isStone" cX7_isStone) = true := by decide +kernel
set_option maxRecDepth 100000 in
theorem ct_X7_isStone_2 : mc_X7_isStone_2.all (ax_chkE mt_prog RX7 "isStone" cX7_isStone) = true := by decide +kernel
set_option maxRecDepth 100000 in
theorem ch_X7_isStone : ax_chkH (mt_X7_isStone, 923, 124) = true := by decide +kernel
theorem pk_X7_isStone : ax_MOk mt_prog mt_X7_isStone := ax_MOk_of ch_X7_isStone (List.forall_mem_cons.mpr ⟨ct_X7_isStone_0, List.forall_mem_cons.mpr ⟨ct_X7_isStone_1, List.forall_mem_cons.mpr ⟨ct_X7_isStone_2, fun _ h => absurd h List.not_mem_nil⟩⟩⟩)
set_option maxRecDepth 100000 in
theorem ct_X7_carve_0 : mc_X7_carve_0.all (ax_chkE mt_prog RX7 "carve" cX7_carve) = true := by decide +kernel
set_option maxRecDepth 100000 in
theorem ct_X7_carve_1 : mc_X7_carve_1.all (ax_chkE mt_prog RX7 "carve" cX7_carve) = true := by decide +kernel
set_option maxRecDepth 100000 in
theorem ct_X7_carve_2 : mc_X7_carve_2.all (ax_chkE mt_prog RX7 "carve" cX7_carve) = true := by decide +kernel
set_option maxRecDepth 100000 in
theorem ch_X7_carve : ax_chkH (mt_X7_carve, 931, 124) = true := by decide +kernel
theorem pk_X7_carve : ax_MOk mt_prog mt_X7_carve := ax_MOk_of ch_X7_carve (List.forall_mem_cons.mpr ⟨ct_X7_carve_0, List.forall_mem_cons.mpr ⟨ct_X7_carve_1, List.forall_mem_cons.mpr ⟨ct_X7_carve_2, fun _ h => absurd h List.not_mem_nil⟩⟩⟩)
set_option maxRecDepth 100000 in
theorem ct_X7_fillBy_0 : mc_X7_fillBy_0.all (ax_chkE mt_prog RX7 "fillBy" cX7_fillBy) = true := by decide +kernel
set_option maxRecDepth 100000 in
theorem ct_X7_fillBy_1 : mc_X7_fillBy_1.all (ax_chkE mt_prog RX7 "fillBy" cX7_fillBy) = true := by decide +kernel
set_option maxRecDepth 100000 in
theorem ch_X7_fillBy : ax_chkH (mt_X7_fillBy, 943, 124) = true := by decide +kernel
theorem pk_X7_fillBy : ax_MOk mt_prog mt_X7_fillBy := ax_MOk_of ch_X7_fillBy (List.forall_mem_cons.mpr ⟨ct_X7_fillBy_0, List.forall_mem_cons.mpr ⟨ct_X7_fillBy_1, fun _ h => absurd h List.not_mem_nil⟩⟩)
set_option maxRecDepth 100000 in
theorem ct_X7_makeRoom_0 : mc_X7_makeRoom_0.all (ax_chkE mt_prog RX7 "makeRoom" cX7_makeRoom) = true := by decide +kernel
set_option maxRecDepth 100000 in
theorem ct_X7_makeRoom_1 : mc_X7_makeRoom_1.all (ax_chkE mt_prog RX7 "makeRoom" cX7_makeRoom) = true := by decide +kernel
set_option maxRecDepth 100000 in
theorem ct_X7_makeRoom_2 : mc_X7_makeRoom_2.all (ax_chkE mt_prog RX7 "makeRoom" cX7_makeRoom) = true := by decide +kernel
set_option maxRecDepth 100000 in
theorem ch_X7_makeRoom : ax_chkH (mt_X7_makeRoom, 947, 124) = true := by decide +kernel
theorem pk_X7_makeRoom : ax_MOk mt_prog mt_X7_makeRoom := ax_MOk_of ch_X7_makeRoom (List.forall_mem_cons.mpr ⟨ct_X7_makeRoom_0, List.forall_mem_cons.mpr ⟨ct_X7_makeRoom_1, List.forall_mem_cons.mpr ⟨ct_X7_makeRoom_2, fun _ h => absurd h List.not_mem_nil⟩⟩⟩)
set_option maxRecDepth 100000 in
theorem ct_X7_fillFrom_0 : mc_X7_fillFrom_0.all (ax_chkE mt_prog RX7 "fillFrom" cX7_fillFrom) = true := by decide +kernel
set_option maxRecDepth 100000 in
theorem ct_X7_fillFrom_1 : mc_X7_fillFrom_1.all (ax_chkE mt_prog RX7 "fillFrom" cX7_fillFrom) = true := by decide +kernel
set_option maxRecDepth 100000 in
theorem ct_X7_fillFrom_2 : mc_X7_fillFrom_2.all (ax_chkE mt_prog RX7 "fillFrom" cX7_fillFrom) = true := by decide +kernel
set_option maxRecDepth 100000 in
theorem ct_X7_fillFrom_3 : mc_X7_fillFrom_3.all (ax_chkE mt_prog RX7 "fillFrom" cX7_fillFrom) = true := by decide +kernel
set_option maxRecDepth 100000 in
theorem ct_X7_fillFrom_4 : mc_X7_fillFrom_4.all (ax_chkE mt_prog RX7 "fillFrom" cX7_fillFrom) = true := by decide +kernel
set_option maxRecDepth 100000 in
theorem ch_X7_fillFrom : ax_chkH (mt_X7_fillFrom, 950, 124) = true := by decide +kernel
theorem pk_X7_fillFrom : ax_MOk mt_prog mt_X7_fillFrom := ax_MOk_of ch_X7_fillFrom (List.forall_mem_cons.mpr ⟨ct_X7_fillFrom_0, List.forall_mem_cons.mpr ⟨ct_X7_fillFrom_1, List.forall_mem_cons.mpr ⟨ct_X7_fillFrom_2, List.forall_mem_cons.mpr ⟨ct_X7_fillFrom_3, List.forall_mem_cons.mpr ⟨ct_X7_fillFrom_4, fun _ h => absurd h List.not_mem_nil⟩⟩⟩⟩⟩)
set_option maxRecDepth 100000 in
theorem ct_X7_keepFilling_0 : mc_X7_keepFilling_0.all (ax_chkE mt_prog RX7 "keepFilling" cX7_keepFilling) = true := by decide +kernel
set_option maxRecDepth 100000 in
theorem ct_X7_keepFilling_1 : mc_X7_keepFilling_1.all (ax_chkE mt_prog RX7 "keepFilling" cX7_keepFilling) = true := by decide +kernel
set_option maxRecDepth 100000 in
theorem ct_X7_keepFilling_2 : mc_X7_keepFilling_2.all (ax_chkE mt_prog RX7 "keepFilling" cX7_keepFilling) = true := by decide +kernel
set_option maxRecDepth 100000 in
theorem ct_X7_keepFilling_3 : mc_X7_keepFilling_3.all (ax_chkE mt_prog RX7 "keepFilling" cX7_keepFilling) = true := by decide +kernel
set_option maxRecDepth 100000 in
theorem ch_X7_keepFilling : ax_chkH (mt_X7_keepFilling, 955, 124) = true := by decide +kernel
theorem pk_X7_keepFilling : ax_MOk mt_prog mt_X7_keepFilling := ax_MOk_of ch_X7_keepFilling (List.forall_mem_cons.mpr ⟨ct_X7_keepFilling_0, List.forall_mem_cons.mpr ⟨ct_X7_keepFilling_1, List.forall_mem_cons.mpr ⟨ct_X7_keepFilling_2, List.forall_mem_cons.mpr ⟨ct_X7_keepFilling_3, fun _ h => absurd h List.not_mem_nil⟩⟩⟩⟩)
end
section
/-! ===== the tables are checked ===== -/
set_option maxRecDepth 100000 in
theorem ct_X7_sortWorths_0 : mc_X7_sortWorths_0.all (ax_chkE mt_prog RX7 "sortWorths" cX7_sortWorths) = true := by decide +kernel
set_option maxRecDepth 100000 in
theorem ct_X7_sortWorths_1 : mc_X7_sortWorths_1.all (ax_chkE mt_prog RX7 "sortWorths" cX7_sortWorths) = true := by decide +kernel
set_option maxRecDepth 100000 in
theorem ct_X7_sortWorths_2 : mc_X7_sortWorths_2.all (ax_chkE mt_prog RX7 "sortWorths" cX7_sortWorths) = true := by decide +kernel
set_option maxRecDepth 100000 in
theorem ct_X7_sortWorths_3 : mc_X7_sortWorths_3.all (ax_chkE mt_prog RX7 "sortWorths" cX7_sortWorths) = true := by decide +kernel
set_option maxRecDepth 100000 in
theorem ch_X7_sortWorths : ax_chkH (mt_X7_sortWorths, 961, 124) = true := by decide +kernel
theorem pk_X7_sortWorths : ax_MOk mt_prog mt_X7_sortWorths := ax_MOk_of ch_X7_sortWorths (List.forall_mem_cons.mpr ⟨ct_X7_sortWorths_0, List.forall_mem_cons.mpr ⟨ct_X7_sortWorths_1, List.forall_mem_cons.mpr ⟨ct_X7_sortWorths_2, List.forall_mem_cons.mpr ⟨ct_X7_sortWorths_3, fun _ h => absurd h List.not_mem_nil⟩⟩⟩⟩)
set_option maxRecDepth 100000 in
theorem ct_X7_dropLikeWorths_0 : mc_X7_dropLikeWorths_0.all (ax_chkE mt_prog RX7 "dropLikeWorths" cX7_dropLikeWorths) = true := by decide +kernel
set_option maxRecDepth 100000 in
theorem ct_X7_dropLikeWorths_1 : mc_X7_dropLikeWorths_1.all (ax_chkE mt_prog RX7 "dropLikeWorths" cX7_dropLikeWorths) = true := by decide +kernel
set_option maxRecDepth 100000 in
theorem ct_X7_dropLikeWorths_2 : mc_X7_dropLikeWorths_2.all (ax_chkE mt_prog RX7 "dropLikeWorths" cX7_dropLikeWorths) = true := by decide +kernel
set_option maxRecDepth 100000 in
theorem ch_X7_dropLikeWorths : ax_chkH (mt_X7_dropLikeWorths, 965, 124) = true := by decide +kernel
theorem pk_X7_dropLikeWorths : ax_MOk mt_prog mt_X7_dropLikeWorths := ax_MOk_of ch_X7_dropLikeWorths (List.forall_mem_cons.mpr ⟨ct_X7_dropLikeWorths_0, List.forall_mem_cons.mpr ⟨ct_X7_dropLikeWorths_1, List.forall_mem_cons.mpr ⟨ct_X7_dropLikeWorths_2, fun _ h => absurd h List.not_mem_nil⟩⟩⟩)
set_option maxRecDepth 100000 in
theorem ct_X7_digestOn_0 : mc_X7_digestOn_0.all (ax_chkE mt_prog RX7 "digestOn" cX7_digestOn) = true := by decide +kernel
set_option maxRecDepth 100000 in
theorem ct_X7_digestOn_1 : mc_X7_digestOn_1.all (ax_chkE mt_prog RX7 "digestOn" cX7_digestOn) = true := by decide +kernel
set_option maxRecDepth 100000 in
theorem ch_X7_digestOn : ax_chkH (mt_X7_digestOn, 1104, 124) = true := by decide +kernel
theorem pk_X7_digestOn : ax_MOk mt_prog mt_X7_digestOn := ax_MOk_of ch_X7_digestOn (List.forall_mem_cons.mpr ⟨ct_X7_digestOn_0, List.forall_mem_cons.mpr ⟨ct_X7_digestOn_1, fun _ h => absurd h List.not_mem_nil⟩⟩)
set_option maxRecDepth 100000 in
theorem ct_X8_init_0 : mc_X8_init_0.all (ax_chkE mt_prog RX8 "<init>" cX8_init) = true := by decide +kernel
set_option maxRecDepth 100000 in
theorem ct_X8_init_1 : mc_X8_init_1.all (ax_chkE mt_prog RX8 "<init>" cX8_init) = true := by decide +kernel
set_option maxRecDepth 100000 in
theorem ct_X8_init_2 : mc_X8_init_2.all (ax_chkE mt_prog RX8 "<init>" cX8_init) = true := by decide +kernel
set_option maxRecDepth 100000 in
theorem ct_X8_init_3 : mc_X8_init_3.all (ax_chkE mt_prog RX8 "<init>" cX8_init) = true := by decide +kernel
set_option maxRecDepth 100000 in
theorem ct_X8_init_4 : mc_X8_init_4.all (ax_chkE mt_prog RX8 "<init>" cX8_init) = true := by decide +kernel
set_option maxRecDepth 100000 in
theorem ch_X8_init : ax_chkH (mt_X8_init, 175, 119) = true := by decide +kernel
theorem pk_X8_init : ax_MOk mt_prog mt_X8_init := ax_MOk_of ch_X8_init (List.forall_mem_cons.mpr ⟨ct_X8_init_0, List.forall_mem_cons.mpr ⟨ct_X8_init_1, List.forall_mem_cons.mpr ⟨ct_X8_init_2, List.forall_mem_cons.mpr ⟨ct_X8_init_3, List.forall_mem_cons.mpr ⟨ct_X8_init_4, fun _ h => absurd h List.not_mem_nil⟩⟩⟩⟩⟩)
set_option maxRecDepth 100000 in
theorem ct_X8_startOf_0 : mc_X8_startOf_0.all (ax_chkE mt_prog RX8 "startOf" cX8_startOf) = true := by decide +kernel
set_option maxRecDepth 100000 in
theorem ch_X8_startOf : ax_chkH (mt_X8_startOf, 728, 119) = true := by decide +kernel
theorem pk_X8_startOf : ax_MOk mt_prog mt_X8_startOf := ax_MOk_of ch_X8_startOf (List.forall_mem_cons.mpr ⟨ct_X8_startOf_0, fun _ h => absurd h List.not_mem_nil⟩)
set_option maxRecDepth 100000 in
theorem ct_X8_startFor_0 : mc_X8_startFor_0.all (ax_chkE mt_prog RX8 "startFor" cX8_startFor) = true := by decide +kernel
set_option maxRecDepth 100000 in
theorem ct_X8_startFor_1 : mc_X8_startFor_1.all (ax_chkE mt_prog RX8 "startFor" cX8_startFor) = true := by decide +kernel
set_option maxRecDepth 100000 in
theorem ch_X8_startFor : ax_chkH (mt_X8_startFor, 740, 119) = true := by decide +kernel
theorem pk_X8_startFor : ax_MOk mt_prog mt_X8_startFor := ax_MOk_of ch_X8_startFor (List.forall_mem_cons.mpr ⟨ct_X8_startFor_0, List.forall_mem_cons.mpr ⟨ct_X8_startFor_1, fun _ h => absurd h List.not_mem_nil⟩⟩)
set_option maxRecDepth 100000 in
theorem ct_X8_clearAt_0 : mc_X8_clearAt_0.all (ax_chkE mt_prog RX8 "clearAt" cX8_clearAt) = true := by decide +kernel
set_option maxRecDepth 100000 in
theorem ch_X8_clearAt : ax_chkH (mt_X8_clearAt, 732, 119) = true := by decide +kernel
theorem pk_X8_clearAt : ax_MOk mt_prog mt_X8_clearAt := ax_MOk_of ch_X8_clearAt (List.forall_mem_cons.mpr ⟨ct_X8_clearAt_0, fun _ h => absurd h List.not_mem_nil⟩)
set_option maxRecDepth 100000 in
theorem ct_X8_addAt_0 : mc_X8_addAt_0.all (ax_chkE mt_prog RX8 "addAt" cX8_addAt) = true := by decide +kernel
set_option maxRecDepth 100000 in
theorem ct_X8_addAt_1 : mc_X8_addAt_1.all (ax_chkE mt_prog RX8 "addAt" cX8_addAt) = true := by decide +kernel
set_option maxRecDepth 100000 in
theorem ct_X8_addAt_2 : mc_X8_addAt_2.all (ax_chkE mt_prog RX8 "addAt" cX8_addAt) = true := by decide +kernel
set_option maxRecDepth 100000 in
theorem ch_X8_addAt : ax_chkH (mt_X8_addAt, 736, 119) = true := by decide +kernel
theorem pk_X8_addAt : ax_MOk mt_prog mt_X8_addAt := ax_MOk_of ch_X8_addAt (List.forall_mem_cons.mpr ⟨ct_X8_addAt_0, List.forall_mem_cons.mpr ⟨ct_X8_addAt_1, List.forall_mem_cons.mpr ⟨ct_X8_addAt_2, fun _ h => absurd h List.not_mem_nil⟩⟩⟩)
set_option maxRecDepth 100000 in
theorem ct_X8_exactly_0 : mc_X8_exactly_0.all (ax_chkE mt_prog RX8 "exactly" cX8_exactly) = true := by decide +kernel
set_option maxRecDepth 100000 in
theorem ct_X8_exactly_1 : mc_X8_exactly_1.all (ax_chkE mt_prog RX8 "exactly" cX8_exactly) = true := by decide +kernel
set_option maxRecDepth 100000 in
theorem ch_X8_exactly : ax_chkH (mt_X8_exactly, 766, 119) = true := by decide +kernel
theorem pk_X8_exactly : ax_MOk mt_prog mt_X8_exactly := ax_MOk_of ch_X8_exactly (List.forall_mem_cons.mpr ⟨ct_X8_exactly_0, List.forall_mem_cons.mpr ⟨ct_X8_exactly_1, fun _ h => absurd h List.not_mem_nil⟩⟩)
set_option maxRecDepth 100000 in
theorem ct_X8_atMost_0 : mc_X8_atMost_0.all (ax_chkE mt_prog RX8 "atMost" cX8_atMost) = true := by decide +kernel
set_option maxRecDepth 100000 in
theorem ct_X8_atMost_1 : mc_X8_atMost_1.all (ax_chkE mt_prog RX8 "atMost" cX8_atMost) = true := by decide +kernel
set_option maxRecDepth 100000 in
theorem ct_X8_atMost_2 : mc_X8_atMost_2.all (ax_chkE mt_prog RX8 "atMost" cX8_atMost) = true := by decide +kernel
set_option maxRecDepth 100000 in
theorem ch_X8_atMost : ax_chkH (mt_X8_atMost, 754, 119) = true := by decide +kernel
theorem pk_X8_atMost : ax_MOk mt_prog mt_X8_atMost := ax_MOk_of ch_X8_atMost (List.forall_mem_cons.mpr ⟨ct_X8_atMost_0, List.forall_mem_cons.mpr ⟨ct_X8_atMost_1, List.forall_mem_cons.mpr ⟨ct_X8_atMost_2, fun _ h => absurd h List.not_mem_nil⟩⟩⟩)
set_option maxRecDepth 100000 in
theorem ct_X9_init_0 : mc_X9_init_0.all (ax_chkE mt_prog RX9 "<init>" cX9_init) = true := by decide +kernel
set_option maxRecDepth 100000 in
theorem ct_X9_init_1 : mc_X9_init_1.all (ax_chkE mt_prog RX9 "<init>" cX9_init) = true := by decide +kernel
set_option maxRecDepth 100000 in
theorem ct_X9_init_2 : mc_X9_init_2.all (ax_chkE mt_prog RX9 "<init>" cX9_init) = true := by decide +kernel
set_option maxRecDepth 100000 in
theorem ch_X9_init : ax_chkH (mt_X9_init, 169, 118) = true := by decide +kernel
theorem pk_X9_init : ax_MOk mt_prog mt_X9_init := ax_MOk_of ch_X9_init (List.forall_mem_cons.mpr ⟨ct_X9_init_0, List.forall_mem_cons.mpr ⟨ct_X9_init_1, List.forall_mem_cons.mpr ⟨ct_X9_init_2, fun _ h => absurd h List.not_mem_nil⟩⟩⟩)
set_option maxRecDepth 100000 in
theorem ct_X9_prepare_0 : mc_X9_prepare_0.all (ax_chkE mt_prog RX9 "prepare" cX9_prepare) = true := by decide +kernel
set_option maxRecDepth 100000 in
theorem ct_X9_prepare_1 : mc_X9_prepare_1.all (ax_chkE mt_prog RX9 "prepare" cX9_prepare) = true := by decide +kernel
set_option maxRecDepth 100000 in
theorem ct_X9_prepare_2 : mc_X9_prepare_2.all (ax_chkE mt_prog RX9 "prepare" cX9_prepare) = true := by decide +kernel
set_option maxRecDepth 100000 in
theorem ch_X9_prepare : ax_chkH (mt_X9_prepare, 719, 118) = true := by decide +kernel
theorem pk_X9_prepare : ax_MOk mt_prog mt_X9_prepare := ax_MOk_of ch_X9_prepare (List.forall_mem_cons.mpr ⟨ct_X9_prepare_0, List.forall_mem_cons.mpr ⟨ct_X9_prepare_1, List.forall_mem_cons.mpr ⟨ct_X9_prepare_2, fun _ h => absurd h List.not_mem_nil⟩⟩⟩)
set_option maxRecDepth 100000 in
theorem ct_X9_countTakings_0 : mc_X9_countTakings_0.all (ax_chkE mt_prog RX9 "countTakings" cX9_countTakings) = true := by decide +kernel
set_option maxRecDepth 100000 in
theorem ct_X9_countTakings_1 : mc_X9_countTakings_1.all (ax_chkE mt_prog RX9 "countTakings" cX9_countTakings) = true := by decide +kernel
set_option maxRecDepth 100000 in
theorem ct_X9_countTakings_2 : mc_X9_countTakings_2.all (ax_chkE mt_prog RX9 "countTakings" cX9_countTakings) = true := by decide +kernel
set_option maxRecDepth 100000 in
theorem ct_X9_countTakings_3 : mc_X9_countTakings_3.all (ax_chkE mt_prog RX9 "countTakings" cX9_countTakings) = true := by decide +kernel
set_option maxRecDepth 100000 in
theorem ct_X9_countTakings_4 : mc_X9_countTakings_4.all (ax_chkE mt_prog RX9 "countTakings" cX9_countTakings) = true := by decide +kernel
set_option maxRecDepth 100000 in
theorem ct_X9_countTakings_5 : mc_X9_countTakings_5.all (ax_chkE mt_prog RX9 "countTakings" cX9_countTakings) = true := by decide +kernel
set_option maxRecDepth 100000 in
theorem ch_X9_countTakings : ax_chkH (mt_X9_countTakings, 723, 118) = true := by decide +kernel
theorem pk_X9_countTakings : ax_MOk mt_prog mt_X9_countTakings := ax_MOk_of ch_X9_countTakings (List.forall_mem_cons.mpr ⟨ct_X9_countTakings_0, List.forall_mem_cons.mpr ⟨ct_X9_countTakings_1, List.forall_mem_cons.mpr ⟨ct_X9_countTakings_2, List.forall_mem_cons.mpr ⟨ct_X9_countTakings_3, List.forall_mem_cons.mpr ⟨ct_X9_countTakings_4, List.forall_mem_cons.mpr ⟨ct_X9_countTakings_5, fun _ h => absurd h List.not_mem_nil⟩⟩⟩⟩⟩⟩)
end
section
/-! ===== the tables are checked ===== -/
set_option maxRecDepth 100000 in
theorem ct_X9_countPlain_0 : mc_X9_countPlain_0.all (ax_chkE mt_prog RX9 "countPlain" cX9_countPlain) = true := by decide +kernel
set_option maxRecDepth 100000 in
theorem ct_X9_countPlain_1 : mc_X9_countPlain_1.all (ax_chkE mt_prog RX9 "countPlain" cX9_countPlain) = true := by decide +kernel
set_option maxRecDepth 100000 in
theorem ct_X9_countPlain_2 : mc_X9_countPlain_2.all (ax_chkE mt_prog RX9 "countPlain" cX9_countPlain) = true := by decide +kernel
set_option maxRecDepth 100000 in
theorem ct_X9_countPlain_3 : mc_X9_countPlain_3.all (ax_chkE mt_prog RX9 "countPlain" cX9_countPlain) = true := by decide +kernel
set_option maxRecDepth 100000 in
theorem ch_X9_countPlain : ax_chkH (mt_X9_countPlain, 746, 118) = true := by decide +kernel
theorem pk_X9_countPlain : ax_MOk mt_prog mt_X9_countPlain := ax_MOk_of ch_X9_countPlain (List.forall_mem_cons.mpr ⟨ct_X9_countPlain_0, List.forall_mem_cons.mpr ⟨ct_X9_countPlain_1, List.forall_mem_cons.mpr ⟨ct_X9_countPlain_2, List.forall_mem_cons.mpr ⟨ct_X9_countPlain_3, fun _ h => absurd h List.not_mem_nil⟩⟩⟩⟩)
set_option maxRecDepth 100000 in
theorem ct_X9_inAll_0 : mc_X9_inAll_0.all (ax_chkE mt_prog RX9 "inAll" cX9_inAll) = true := by decide +kernel
set_option maxRecDepth 100000 in
theorem ch_X9_inAll : ax_chkH (mt_X9_inAll, 750, 118) = true := by decide +kernel
theorem pk_X9_inAll : ax_MOk mt_prog mt_X9_inAll := ax_MOk_of ch_X9_inAll (List.forall_mem_cons.mpr ⟨ct_X9_inAll_0, fun _ h => absurd h List.not_mem_nil⟩)
set_option maxRecDepth 100000 in
theorem ct_X9_findByOrder_0 : mc_X9_findByOrder_0.all (ax_chkE mt_prog RX9 "findByOrder" cX9_findByOrder) = true := by decide +kernel
set_option maxRecDepth 100000 in
theorem ch_X9_findByOrder : ax_chkH (mt_X9_findByOrder, 787, 118) = true := by decide +kernel
theorem pk_X9_findByOrder : ax_MOk mt_prog mt_X9_findByOrder := ax_MOk_of ch_X9_findByOrder (List.forall_mem_cons.mpr ⟨ct_X9_findByOrder_0, fun _ h => absurd h List.not_mem_nil⟩)
set_option maxRecDepth 100000 in
theorem ct_X9_findShortest_0 : mc_X9_findShortest_0.all (ax_chkE mt_prog RX9 "findShortest" cX9_findShortest) = true := by decide +kernel
set_option maxRecDepth 100000 in
theorem ct_X9_findShortest_1 : mc_X9_findShortest_1.all (ax_chkE mt_prog RX9 "findShortest" cX9_findShortest) = true := by decide +kernel
set_option maxRecDepth 100000 in
theorem ch_X9_findShortest : ax_chkH (mt_X9_findShortest, 762, 118) = true := by decide +kernel
theorem pk_X9_findShortest : ax_MOk mt_prog mt_X9_findShortest := ax_MOk_of ch_X9_findShortest (List.forall_mem_cons.mpr ⟨ct_X9_findShortest_0, List.forall_mem_cons.mpr ⟨ct_X9_findShortest_1, fun _ h => absurd h List.not_mem_nil⟩⟩)
set_option maxRecDepth 100000 in
theorem ct_X9_walk_0 : mc_X9_walk_0.all (ax_chkE mt_prog RX9 "walk" cX9_walk) = true := by decide +kernel
set_option maxRecDepth 100000 in
theorem ct_X9_walk_1 : mc_X9_walk_1.all (ax_chkE mt_prog RX9 "walk" cX9_walk) = true := by decide +kernel
set_option maxRecDepth 100000 in
theorem ct_X9_walk_2 : mc_X9_walk_2.all (ax_chkE mt_prog RX9 "walk" cX9_walk) = true := by decide +kernel
set_option maxRecDepth 100000 in
theorem ch_X9_walk : ax_chkH (mt_X9_walk, 770, 118) = true := by decide +kernel
theorem pk_X9_walk : ax_MOk mt_prog mt_X9_walk := ax_MOk_of ch_X9_walk (List.forall_mem_cons.mpr ⟨ct_X9_walk_0, List.forall_mem_cons.mpr ⟨ct_X9_walk_1, List.forall_mem_cons.mpr ⟨ct_X9_walk_2, fun _ h => absurd h List.not_mem_nil⟩⟩⟩)
set_option maxRecDepth 100000 in
theorem ct_X9_choosePlain_0 : mc_X9_choosePlain_0.all (ax_chkE mt_prog RX9 "choosePlain" cX9_choosePlain) = true := by decide +kernel
set_option maxRecDepth 100000 in
theorem ct_X9_choosePlain_1 : mc_X9_choosePlain_1.all (ax_chkE mt_prog RX9 "choosePlain" cX9_choosePlain) = true := by decide +kernel
set_option maxRecDepth 100000 in
theorem ch_X9_choosePlain : ax_chkH (mt_X9_choosePlain, 774, 118) = true := by decide +kernel
theorem pk_X9_choosePlain : ax_MOk mt_prog mt_X9_choosePlain := ax_MOk_of ch_X9_choosePlain (List.forall_mem_cons.mpr ⟨ct_X9_choosePlain_0, List.forall_mem_cons.mpr ⟨ct_X9_choosePlain_1, fun _ h => absurd h List.not_mem_nil⟩⟩)
set_option maxRecDepth 100000 in
theorem ct_X9_chooseTaking_0 : mc_X9_chooseTaking_0.all (ax_chkE mt_prog RX9 "chooseTaking" cX9_chooseTaking) = true := by decide +kernel
set_option maxRecDepth 100000 in
theorem ct_X9_chooseTaking_1 : mc_X9_chooseTaking_1.all (ax_chkE mt_prog RX9 "chooseTaking" cX9_chooseTaking) = true := by decide +kernel
set_option maxRecDepth 100000 in
theorem ct_X9_chooseTaking_2 : mc_X9_chooseTaking_2.all (ax_chkE mt_prog RX9 "chooseTaking" cX9_chooseTaking) = true := by decide +kernel
set_option maxRecDepth 100000 in
theorem ct_X9_chooseTaking_3 : mc_X9_chooseTaking_3.all (ax_chkE mt_prog RX9 "chooseTaking" cX9_chooseTaking) = true := by decide +kernel
set_option maxRecDepth 100000 in
theorem ct_X9_chooseTaking_4 : mc_X9_chooseTaking_4.all (ax_chkE mt_prog RX9 "chooseTaking" cX9_chooseTaking) = true := by decide +kernel
set_option maxRecDepth 100000 in
theorem ch_X9_chooseTaking : ax_chkH (mt_X9_chooseTaking, 783, 118) = true := by decide +kernel
theorem pk_X9_chooseTaking : ax_MOk mt_prog mt_X9_chooseTaking := ax_MOk_of ch_X9_chooseTaking (List.forall_mem_cons.mpr ⟨ct_X9_chooseTaking_0, List.forall_mem_cons.mpr ⟨ct_X9_chooseTaking_1, List.forall_mem_cons.mpr ⟨ct_X9_chooseTaking_2, List.forall_mem_cons.mpr ⟨ct_X9_chooseTaking_3, List.forall_mem_cons.mpr ⟨ct_X9_chooseTaking_4, fun _ h => absurd h List.not_mem_nil⟩⟩⟩⟩⟩)
set_option maxRecDepth 100000 in
theorem ct_X9_goes_0 : mc_X9_goes_0.all (ax_chkE mt_prog RX9 "goes" cX9_goes) = true := by decide +kernel
set_option maxRecDepth 100000 in
theorem ct_X9_goes_1 : mc_X9_goes_1.all (ax_chkE mt_prog RX9 "goes" cX9_goes) = true := by decide +kernel
set_option maxRecDepth 100000 in
theorem ct_X9_goes_2 : mc_X9_goes_2.all (ax_chkE mt_prog RX9 "goes" cX9_goes) = true := by decide +kernel
set_option maxRecDepth 100000 in
theorem ct_X9_goes_3 : mc_X9_goes_3.all (ax_chkE mt_prog RX9 "goes" cX9_goes) = true := by decide +kernel
set_option maxRecDepth 100000 in
theorem ct_X9_goes_4 : mc_X9_goes_4.all (ax_chkE mt_prog RX9 "goes" cX9_goes) = true := by decide +kernel
set_option maxRecDepth 100000 in
theorem ch_X9_goes : ax_chkH (mt_X9_goes, 778, 118) = true := by decide +kernel
theorem pk_X9_goes : ax_MOk mt_prog mt_X9_goes := ax_MOk_of ch_X9_goes (List.forall_mem_cons.mpr ⟨ct_X9_goes_0, List.forall_mem_cons.mpr ⟨ct_X9_goes_1, List.forall_mem_cons.mpr ⟨ct_X9_goes_2, List.forall_mem_cons.mpr ⟨ct_X9_goes_3, List.forall_mem_cons.mpr ⟨ct_X9_goes_4, fun _ h => absurd h List.not_mem_nil⟩⟩⟩⟩⟩)
set_option maxRecDepth 100000 in
theorem ct_X10_init_0 : mc_X10_init_0.all (ax_chkE mt_prog RX10 "<init>" cX10_init) = true := by decide +kernel
set_option maxRecDepth 100000 in
theorem ct_X10_init_1 : mc_X10_init_1.all (ax_chkE mt_prog RX10 "<init>" cX10_init) = true := by decide +kernel
set_option maxRecDepth 100000 in
theorem ct_X10_init_2 : mc_X10_init_2.all (ax_chkE mt_prog RX10 "<init>" cX10_init) = true := by decide +kernel
set_option maxRecDepth 100000 in
theorem ct_X10_init_3 : mc_X10_init_3.all (ax_chkE mt_prog RX10 "<init>" cX10_init) = true := by decide +kernel
set_option maxRecDepth 100000 in
theorem ct_X10_init_4 : mc_X10_init_4.all (ax_chkE mt_prog RX10 "<init>" cX10_init) = true := by decide +kernel
set_option maxRecDepth 100000 in
theorem ct_X10_init_5 : mc_X10_init_5.all (ax_chkE mt_prog RX10 "<init>" cX10_init) = true := by decide +kernel
set_option maxRecDepth 100000 in
theorem ch_X10_init : ax_chkH (mt_X10_init, 138, 116) = true := by decide +kernel
theorem pk_X10_init : ax_MOk mt_prog mt_X10_init := ax_MOk_of ch_X10_init (List.forall_mem_cons.mpr ⟨ct_X10_init_0, List.forall_mem_cons.mpr ⟨ct_X10_init_1, List.forall_mem_cons.mpr ⟨ct_X10_init_2, List.forall_mem_cons.mpr ⟨ct_X10_init_3, List.forall_mem_cons.mpr ⟨ct_X10_init_4, List.forall_mem_cons.mpr ⟨ct_X10_init_5, fun _ h => absurd h List.not_mem_nil⟩⟩⟩⟩⟩⟩)
set_option maxRecDepth 100000 in
theorem ct_X10_letters_0 : mc_X10_letters_0.all (ax_chkE mt_prog RX10 "letters" cX10_letters) = true := by decide +kernel
set_option maxRecDepth 100000 in
theorem ct_X10_letters_1 : mc_X10_letters_1.all (ax_chkE mt_prog RX10 "letters" cX10_letters) = true := by decide +kernel
set_option maxRecDepth 100000 in
theorem ch_X10_letters : ax_chkH (mt_X10_letters, 458, 116) = true := by decide +kernel
theorem pk_X10_letters : ax_MOk mt_prog mt_X10_letters := ax_MOk_of ch_X10_letters (List.forall_mem_cons.mpr ⟨ct_X10_letters_0, List.forall_mem_cons.mpr ⟨ct_X10_letters_1, fun _ h => absurd h List.not_mem_nil⟩⟩)
end
section
/-! ===== the tables are checked ===== -/
set_option maxRecDepth 100000 in
theorem ct_X10_blank_0 : mc_X10_blank_0.all (ax_chkE mt_prog RX10 "blank" cX10_blank) = true := by decide +kernel
set_option maxRecDepth 100000 in
theorem ch_X10_blank : ax_chkH (mt_X10_blank, 472, 116) = true := by decide +kernel
theorem pk_X10_blank : ax_MOk mt_prog mt_X10_blank := ax_MOk_of ch_X10_blank (List.forall_mem_cons.mpr ⟨ct_X10_blank_0, fun _ h => absurd h List.not_mem_nil⟩)
set_option maxRecDepth 100000 in
theorem ct_X10_good_0 : mc_X10_good_0.all (ax_chkE mt_prog RX10 "good" cX10_good) = true := by decide +kernel
set_option maxRecDepth 100000 in
theorem ch_X10_good : ax_chkH (mt_X10_good, 476, 116) = true := by decide +kernel
theorem pk_X10_good : ax_MOk mt_prog mt_X10_good := ax_MOk_of ch_X10_good (List.forall_mem_cons.mpr ⟨ct_X10_good_0, fun _ h => absurd h List.not_mem_nil⟩)
set_option maxRecDepth 100000 in
theorem ct_X10_custom_0 : mc_X10_custom_0.all (ax_chkE mt_prog RX10 "custom" cX10_custom) = true := by decide +kernel
set_option maxRecDepth 100000 in
theorem ct_X10_custom_1 : mc_X10_custom_1.all (ax_chkE mt_prog RX10 "custom" cX10_custom) = true := by decide +kernel
set_option maxRecDepth 100000 in
theorem ct_X10_custom_2 : mc_X10_custom_2.all (ax_chkE mt_prog RX10 "custom" cX10_custom) = true := by decide +kernel
set_option maxRecDepth 100000 in
theorem ch_X10_custom : ax_chkH (mt_X10_custom, 591, 116) = true := by decide +kernel
theorem pk_X10_custom : ax_MOk mt_prog mt_X10_custom := ax_MOk_of ch_X10_custom (List.forall_mem_cons.mpr ⟨ct_X10_custom_0, List.forall_mem_cons.mpr ⟨ct_X10_custom_1, List.forall_mem_cons.mpr ⟨ct_X10_custom_2, fun _ h => absurd h List.not_mem_nil⟩⟩⟩)
set_option maxRecDepth 100000 in
theorem ct_X10_asks_0 : mc_X10_asks_0.all (ax_chkE mt_prog RX10 "asks" cX10_asks) = true := by decide +kernel
set_option maxRecDepth 100000 in
theorem ct_X10_asks_1 : mc_X10_asks_1.all (ax_chkE mt_prog RX10 "asks" cX10_asks) = true := by decide +kernel
set_option maxRecDepth 100000 in
theorem ct_X10_asks_2 : mc_X10_asks_2.all (ax_chkE mt_prog RX10 "asks" cX10_asks) = true := by decide +kernel
set_option maxRecDepth 100000 in
theorem ch_X10_asks : ax_chkH (mt_X10_asks, 652, 116) = true := by decide +kernel
theorem pk_X10_asks : ax_MOk mt_prog mt_X10_asks := ax_MOk_of ch_X10_asks (List.forall_mem_cons.mpr ⟨ct_X10_asks_0, List.forall_mem_cons.mpr ⟨ct_X10_asks_1, List.forall_mem_cons.mpr ⟨ct_X10_asks_2, fun _ h => absurd h List.not_mem_nil⟩⟩⟩)
set_option maxRecDepth 100000 in
theorem ct_X10_row_0 : mc_X10_row_0.all (ax_chkE mt_prog RX10 "row" cX10_row) = true := by decide +kernel
set_option maxRecDepth 100000 in
theorem ct_X10_row_1 : mc_X10_row_1.all (ax_chkE mt_prog RX10 "row" cX10_row) = true := by decide +kernel
set_option maxRecDepth 100000 in
theorem ch_X10_row : ax_chkH (mt_X10_row, 660, 116) = true := by decide +kernel
theorem pk_X10_row : ax_MOk mt_prog mt_X10_row := ax_MOk_of ch_X10_row (List.forall_mem_cons.mpr ⟨ct_X10_row_0, List.forall_mem_cons.mpr ⟨ct_X10_row_1, fun _ h => absurd h List.not_mem_nil⟩⟩)
set_option maxRecDepth 100000 in
theorem ct_X10_sign_0 : mc_X10_sign_0.all (ax_chkE mt_prog RX10 "sign" cX10_sign) = true := by decide +kernel
set_option maxRecDepth 100000 in
theorem ct_X10_sign_1 : mc_X10_sign_1.all (ax_chkE mt_prog RX10 "sign" cX10_sign) = true := by decide +kernel
set_option maxRecDepth 100000 in
theorem ch_X10_sign : ax_chkH (mt_X10_sign, 680, 116) = true := by decide +kernel
theorem pk_X10_sign : ax_MOk mt_prog mt_X10_sign := ax_MOk_of ch_X10_sign (List.forall_mem_cons.mpr ⟨ct_X10_sign_0, List.forall_mem_cons.mpr ⟨ct_X10_sign_1, fun _ h => absurd h List.not_mem_nil⟩⟩)
set_option maxRecDepth 100000 in
theorem ct_X10_worth_0 : mc_X10_worth_0.all (ax_chkE mt_prog RX10 "worth" cX10_worth) = true := by decide +kernel
set_option maxRecDepth 100000 in
theorem ch_X10_worth : ax_chkH (mt_X10_worth, 684, 116) = true := by decide +kernel
theorem pk_X10_worth : ax_MOk mt_prog mt_X10_worth := ax_MOk_of ch_X10_worth (List.forall_mem_cons.mpr ⟨ct_X10_worth_0, fun _ h => absurd h List.not_mem_nil⟩)
set_option maxRecDepth 100000 in
theorem ct_X10_keeps_0 : mc_X10_keeps_0.all (ax_chkE mt_prog RX10 "keeps" cX10_keeps) = true := by decide +kernel
set_option maxRecDepth 100000 in
theorem ct_X10_keeps_1 : mc_X10_keeps_1.all (ax_chkE mt_prog RX10 "keeps" cX10_keeps) = true := by decide +kernel
set_option maxRecDepth 100000 in
theorem ch_X10_keeps : ax_chkH (mt_X10_keeps, 698, 116) = true := by decide +kernel
theorem pk_X10_keeps : ax_MOk mt_prog mt_X10_keeps := ax_MOk_of ch_X10_keeps (List.forall_mem_cons.mpr ⟨ct_X10_keeps_0, List.forall_mem_cons.mpr ⟨ct_X10_keeps_1, fun _ h => absurd h List.not_mem_nil⟩⟩)
set_option maxRecDepth 100000 in
theorem ct_X10_begins_0 : mc_X10_begins_0.all (ax_chkE mt_prog RX10 "begins" cX10_begins) = true := by decide +kernel
set_option maxRecDepth 100000 in
theorem ct_X10_begins_1 : mc_X10_begins_1.all (ax_chkE mt_prog RX10 "begins" cX10_begins) = true := by decide +kernel
set_option maxRecDepth 100000 in
theorem ch_X10_begins : ax_chkH (mt_X10_begins, 703, 116) = true := by decide +kernel
theorem pk_X10_begins : ax_MOk mt_prog mt_X10_begins := ax_MOk_of ch_X10_begins (List.forall_mem_cons.mpr ⟨ct_X10_begins_0, List.forall_mem_cons.mpr ⟨ct_X10_begins_1, fun _ h => absurd h List.not_mem_nil⟩⟩)
set_option maxRecDepth 100000 in
theorem ct_X10_ways_0 : mc_X10_ways_0.all (ax_chkE mt_prog RX10 "ways" cX10_ways) = true := by decide +kernel
set_option maxRecDepth 100000 in
theorem ct_X10_ways_1 : mc_X10_ways_1.all (ax_chkE mt_prog RX10 "ways" cX10_ways) = true := by decide +kernel
set_option maxRecDepth 100000 in
theorem ct_X10_ways_2 : mc_X10_ways_2.all (ax_chkE mt_prog RX10 "ways" cX10_ways) = true := by decide +kernel
set_option maxRecDepth 100000 in
theorem ch_X10_ways : ax_chkH (mt_X10_ways, 711, 116) = true := by decide +kernel
theorem pk_X10_ways : ax_MOk mt_prog mt_X10_ways := ax_MOk_of ch_X10_ways (List.forall_mem_cons.mpr ⟨ct_X10_ways_0, List.forall_mem_cons.mpr ⟨ct_X10_ways_1, List.forall_mem_cons.mpr ⟨ct_X10_ways_2, fun _ h => absurd h List.not_mem_nil⟩⟩⟩)
set_option maxRecDepth 100000 in
theorem ct_X10_write_0 : mc_X10_write_0.all (ax_chkE mt_prog RX10 "write" cX10_write) = true := by decide +kernel
set_option maxRecDepth 100000 in
theorem ct_X10_write_1 : mc_X10_write_1.all (ax_chkE mt_prog RX10 "write" cX10_write) = true := by decide +kernel
set_option maxRecDepth 100000 in
theorem ct_X10_write_2 : mc_X10_write_2.all (ax_chkE mt_prog RX10 "write" cX10_write) = true := by decide +kernel
set_option maxRecDepth 100000 in
theorem ct_X10_write_3 : mc_X10_write_3.all (ax_chkE mt_prog RX10 "write" cX10_write) = true := by decide +kernel
set_option maxRecDepth 100000 in
theorem ct_X10_write_4 : mc_X10_write_4.all (ax_chkE mt_prog RX10 "write" cX10_write) = true := by decide +kernel
set_option maxRecDepth 100000 in
theorem ch_X10_write : ax_chkH (mt_X10_write, 758, 116) = true := by decide +kernel
theorem pk_X10_write : ax_MOk mt_prog mt_X10_write := ax_MOk_of ch_X10_write (List.forall_mem_cons.mpr ⟨ct_X10_write_0, List.forall_mem_cons.mpr ⟨ct_X10_write_1, List.forall_mem_cons.mpr ⟨ct_X10_write_2, List.forall_mem_cons.mpr ⟨ct_X10_write_3, List.forall_mem_cons.mpr ⟨ct_X10_write_4, fun _ h => absurd h List.not_mem_nil⟩⟩⟩⟩⟩)
set_option maxRecDepth 100000 in
theorem ct_X10_board_0 : mc_X10_board_0.all (ax_chkE mt_prog RX10 "board" cX10_board) = true := by decide +kernel
set_option maxRecDepth 100000 in
theorem ct_X10_board_1 : mc_X10_board_1.all (ax_chkE mt_prog RX10 "board" cX10_board) = true := by decide +kernel
set_option maxRecDepth 100000 in
theorem ch_X10_board : ax_chkH (mt_X10_board, 796, 116) = true := by decide +kernel
theorem pk_X10_board : ax_MOk mt_prog mt_X10_board := ax_MOk_of ch_X10_board (List.forall_mem_cons.mpr ⟨ct_X10_board_0, List.forall_mem_cons.mpr ⟨ct_X10_board_1, fun _ h => absurd h List.not_mem_nil⟩⟩)
set_option maxRecDepth 100000 in
theorem ct_X10_pour_0 : mc_X10_pour_0.all (ax_chkE mt_prog RX10 "pour" cX10_pour) = true := by decide +kernel
set_option maxRecDepth 100000 in
theorem ct_X10_pour_1 : mc_X10_pour_1.all (ax_chkE mt_prog RX10 "pour" cX10_pour) = true := by decide +kernel
set_option maxRecDepth 100000 in
theorem ch_X10_pour : ax_chkH (mt_X10_pour, 800, 116) = true := by decide +kernel
theorem pk_X10_pour : ax_MOk mt_prog mt_X10_pour := ax_MOk_of ch_X10_pour (List.forall_mem_cons.mpr ⟨ct_X10_pour_0, List.forall_mem_cons.mpr ⟨ct_X10_pour_1, fun _ h => absurd h List.not_mem_nil⟩⟩)
set_option maxRecDepth 100000 in
theorem ct_X10_bundle_0 : mc_X10_bundle_0.all (ax_chkE mt_prog RX10 "bundle" cX10_bundle) = true := by decide +kernel
set_option maxRecDepth 100000 in
theorem ct_X10_bundle_1 : mc_X10_bundle_1.all (ax_chkE mt_prog RX10 "bundle" cX10_bundle) = true := by decide +kernel
set_option maxRecDepth 100000 in
theorem ch_X10_bundle : ax_chkH (mt_X10_bundle, 820, 116) = true := by decide +kernel
theorem pk_X10_bundle : ax_MOk mt_prog mt_X10_bundle := ax_MOk_of ch_X10_bundle (List.forall_mem_cons.mpr ⟨ct_X10_bundle_0, List.forall_mem_cons.mpr ⟨ct_X10_bundle_1, fun _ h => absurd h List.not_mem_nil⟩⟩)
set_option maxRecDepth 100000 in
theorem ct_X10_unbundle_0 : mc_X10_unbundle_0.all (ax_chkE mt_prog RX10 "unbundle" cX10_unbundle) = true := by decide +kernel
set_option maxRecDepth 100000 in
theorem ct_X10_unbundle_1 : mc_X10_unbundle_1.all (ax_chkE mt_prog RX10 "unbundle" cX10_unbundle) = true := by decide +kernel
set_option maxRecDepth 100000 in
theorem ch_X10_unbundle : ax_chkH (mt_X10_unbundle, 834, 116) = true := by decide +kernel
theorem pk_X10_unbundle : ax_MOk mt_prog mt_X10_unbundle := ax_MOk_of ch_X10_unbundle (List.forall_mem_cons.mpr ⟨ct_X10_unbundle_0, List.forall_mem_cons.mpr ⟨ct_X10_unbundle_1, fun _ h => absurd h List.not_mem_nil⟩⟩)
set_option maxRecDepth 100000 in
theorem ct_X10_settle_0 : mc_X10_settle_0.all (ax_chkE mt_prog RX10 "settle" cX10_settle) = true := by decide +kernel
set_option maxRecDepth 100000 in
theorem ch_X10_settle : ax_chkH (mt_X10_settle, 842, 116) = true := by decide +kernel
theorem pk_X10_settle : ax_MOk mt_prog mt_X10_settle := ax_MOk_of ch_X10_settle (List.forall_mem_cons.mpr ⟨ct_X10_settle_0, fun _ h => absurd h List.not_mem_nil⟩)
set_option maxRecDepth 100000 in
theorem ct_X10_step_0 : mc_X10_step_0.all (ax_chkE mt_prog RX10 "step" cX10_step) = true := by decide +kernel
set_option maxRecDepth 100000 in
theorem ch_X10_step : ax_chkH (mt_X10_step, 865, 116) = true := by decide +kernel
theorem pk_X10_step : ax_MOk mt_prog mt_X10_step := ax_MOk_of ch_X10_step (List.forall_mem_cons.mpr ⟨ct_X10_step_0, fun _ h => absurd h List.not_mem_nil⟩)
set_option maxRecDepth 100000 in
theorem ct_X10_holds_0 : mc_X10_holds_0.all (ax_chkE mt_prog RX10 "holds" cX10_holds) = true := by decide +kernel
set_option maxRecDepth 100000 in
theorem ch_X10_holds : ax_chkH (mt_X10_holds, 869, 116) = true := by decide +kernel
theorem pk_X10_holds : ax_MOk mt_prog mt_X10_holds := ax_MOk_of ch_X10_holds (List.forall_mem_cons.mpr ⟨ct_X10_holds_0, fun _ h => absurd h List.not_mem_nil⟩)
set_option maxRecDepth 100000 in
theorem ct_X10_lift_0 : mc_X10_lift_0.all (ax_chkE mt_prog RX10 "lift" cX10_lift) = true := by decide +kernel
set_option maxRecDepth 100000 in
theorem ct_X10_lift_1 : mc_X10_lift_1.all (ax_chkE mt_prog RX10 "lift" cX10_lift) = true := by decide +kernel
set_option maxRecDepth 100000 in
theorem ch_X10_lift : ax_chkH (mt_X10_lift, 878, 116) = true := by decide +kernel
theorem pk_X10_lift : ax_MOk mt_prog mt_X10_lift := ax_MOk_of ch_X10_lift (List.forall_mem_cons.mpr ⟨ct_X10_lift_0, List.forall_mem_cons.mpr ⟨ct_X10_lift_1, fun _ h => absurd h List.not_mem_nil⟩⟩)
end
section
/-! ===== the tables are checked ===== -/
set_option maxRecDepth 100000 in
theorem ct_X10_sweep_0 : mc_X10_sweep_0.all (ax_chkE mt_prog RX10 "sweep" cX10_sweep) = true := by decide +kernel
set_option maxRecDepth 100000 in
theorem ch_X10_sweep : ax_chkH (mt_X10_sweep, 892, 116) = true := by decide +kernel
theorem pk_X10_sweep : ax_MOk mt_prog mt_X10_sweep := ax_MOk_of ch_X10_sweep (List.forall_mem_cons.mpr ⟨ct_X10_sweep_0, fun _ h => absurd h List.not_mem_nil⟩)
set_option maxRecDepth 100000 in
theorem ct_X10_times_0 : mc_X10_times_0.all (ax_chkE mt_prog RX10 "times" cX10_times) = true := by decide +kernel
set_option maxRecDepth 100000 in
theorem ct_X10_times_1 : mc_X10_times_1.all (ax_chkE mt_prog RX10 "times" cX10_times) = true := by decide +kernel
set_option maxRecDepth 100000 in
theorem ct_X10_times_2 : mc_X10_times_2.all (ax_chkE mt_prog RX10 "times" cX10_times) = true := by decide +kernel
set_option maxRecDepth 100000 in
theorem ct_X10_times_3 : mc_X10_times_3.all (ax_chkE mt_prog RX10 "times" cX10_times) = true := by decide +kernel
set_option maxRecDepth 100000 in
theorem ch_X10_times : ax_chkH (mt_X10_times, 900, 116) = true := by decide +kernel
theorem pk_X10_times : ax_MOk mt_prog mt_X10_times := ax_MOk_of ch_X10_times (List.forall_mem_cons.mpr ⟨ct_X10_times_0, List.forall_mem_cons.mpr ⟨ct_X10_times_1, List.forall_mem_cons.mpr ⟨ct_X10_times_2, List.forall_mem_cons.mpr ⟨ct_X10_times_3, fun _ h => absurd h List.not_mem_nil⟩⟩⟩⟩)
set_option maxRecDepth 100000 in
theorem ct_X10_parts_0 : mc_X10_parts_0.all (ax_chkE mt_prog RX10 "parts" cX10_parts) = true := by decide +kernel
set_option maxRecDepth 100000 in
theorem ct_X10_parts_1 : mc_X10_parts_1.all (ax_chkE mt_prog RX10 "parts" cX10_parts) = true := by decide +kernel
set_option maxRecDepth 100000 in
theorem ct_X10_parts_2 : mc_X10_parts_2.all (ax_chkE mt_prog RX10 "parts" cX10_parts) = true := by decide +kernel
set_option maxRecDepth 100000 in
theorem ch_X10_parts : ax_chkH (mt_X10_parts, 910, 116) = true := by decide +kernel
theorem pk_X10_parts : ax_MOk mt_prog mt_X10_parts := ax_MOk_of ch_X10_parts (List.forall_mem_cons.mpr ⟨ct_X10_parts_0, List.forall_mem_cons.mpr ⟨ct_X10_parts_1, List.forall_mem_cons.mpr ⟨ct_X10_parts_2, fun _ h => absurd h List.not_mem_nil⟩⟩⟩)
set_option maxRecDepth 100000 in
theorem ct_X10_stone_0 : mc_X10_stone_0.all (ax_chkE mt_prog RX10 "stone" cX10_stone) = true := by decide +kernel
set_option maxRecDepth 100000 in
theorem ct_X10_stone_1 : mc_X10_stone_1.all (ax_chkE mt_prog RX10 "stone" cX10_stone) = true := by decide +kernel
set_option maxRecDepth 100000 in
theorem ch_X10_stone : ax_chkH (mt_X10_stone, 920, 116) = true := by decide +kernel
theorem pk_X10_stone : ax_MOk mt_prog mt_X10_stone := ax_MOk_of ch_X10_stone (List.forall_mem_cons.mpr ⟨ct_X10_stone_0, List.forall_mem_cons.mpr ⟨ct_X10_stone_1, fun _ h => absurd h List.not_mem_nil⟩⟩)
set_option maxRecDepth 100000 in
theorem ct_X10_could_0 : mc_X10_could_0.all (ax_chkE mt_prog RX10 "could" cX10_could) = true := by decide +kernel
set_option maxRecDepth 100000 in
theorem ch_X10_could : ax_chkH (mt_X10_could, 935, 116) = true := by decide +kernel
theorem pk_X10_could : ax_MOk mt_prog mt_X10_could := ax_MOk_of ch_X10_could (List.forall_mem_cons.mpr ⟨ct_X10_could_0, fun _ h => absurd h List.not_mem_nil⟩)
set_option maxRecDepth 100000 in
theorem ct_X10_says_0 : mc_X10_says_0.all (ax_chkE mt_prog RX10 "says" cX10_says) = true := by decide +kernel
set_option maxRecDepth 100000 in
theorem ct_X10_says_1 : mc_X10_says_1.all (ax_chkE mt_prog RX10 "says" cX10_says) = true := by decide +kernel
set_option maxRecDepth 100000 in
theorem ch_X10_says : ax_chkH (mt_X10_says, 969, 116) = true := by decide +kernel
theorem pk_X10_says : ax_MOk mt_prog mt_X10_says := ax_MOk_of ch_X10_says (List.forall_mem_cons.mpr ⟨ct_X10_says_0, List.forall_mem_cons.mpr ⟨ct_X10_says_1, fun _ h => absurd h List.not_mem_nil⟩⟩)
set_option maxRecDepth 100000 in
theorem ct_X10_sure_0 : mc_X10_sure_0.all (ax_chkE mt_prog RX10 "sure" cX10_sure) = true := by decide +kernel
set_option maxRecDepth 100000 in
theorem ct_X10_sure_1 : mc_X10_sure_1.all (ax_chkE mt_prog RX10 "sure" cX10_sure) = true := by decide +kernel
set_option maxRecDepth 100000 in
theorem ch_X10_sure : ax_chkH (mt_X10_sure, 973, 116) = true := by decide +kernel
theorem pk_X10_sure : ax_MOk mt_prog mt_X10_sure := ax_MOk_of ch_X10_sure (List.forall_mem_cons.mpr ⟨ct_X10_sure_0, List.forall_mem_cons.mpr ⟨ct_X10_sure_1, fun _ h => absurd h List.not_mem_nil⟩⟩)
set_option maxRecDepth 100000 in
theorem ct_X10_note_0 : mc_X10_note_0.all (ax_chkE mt_prog RX10 "note" cX10_note) = true := by decide +kernel
set_option maxRecDepth 100000 in
theorem ct_X10_note_1 : mc_X10_note_1.all (ax_chkE mt_prog RX10 "note" cX10_note) = true := by decide +kernel
set_option maxRecDepth 100000 in
theorem ct_X10_note_2 : mc_X10_note_2.all (ax_chkE mt_prog RX10 "note" cX10_note) = true := by decide +kernel
set_option maxRecDepth 100000 in
theorem ch_X10_note : ax_chkH (mt_X10_note, 977, 116) = true := by decide +kernel
theorem pk_X10_note : ax_MOk mt_prog mt_X10_note := ax_MOk_of ch_X10_note (List.forall_mem_cons.mpr ⟨ct_X10_note_0, List.forall_mem_cons.mpr ⟨ct_X10_note_1, List.forall_mem_cons.mpr ⟨ct_X10_note_2, fun _ h => absurd h List.not_mem_nil⟩⟩⟩)
set_option maxRecDepth 100000 in
theorem ct_X10_habit_0 : mc_X10_habit_0.all (ax_chkE mt_prog RX10 "habit" cX10_habit) = true := by decide +kernel
set_option maxRecDepth 100000 in
theorem ch_X10_habit : ax_chkH (mt_X10_habit, 993, 116) = true := by decide +kernel
theorem pk_X10_habit : ax_MOk mt_prog mt_X10_habit := ax_MOk_of ch_X10_habit (List.forall_mem_cons.mpr ⟨ct_X10_habit_0, fun _ h => absurd h List.not_mem_nil⟩)
set_option maxRecDepth 100000 in
theorem ct_X10_hands_0 : mc_X10_hands_0.all (ax_chkE mt_prog RX10 "hands" cX10_hands) = true := by decide +kernel
set_option maxRecDepth 100000 in
theorem ct_X10_hands_1 : mc_X10_hands_1.all (ax_chkE mt_prog RX10 "hands" cX10_hands) = true := by decide +kernel
set_option maxRecDepth 100000 in
theorem ch_X10_hands : ax_chkH (mt_X10_hands, 997, 116) = true := by decide +kernel
theorem pk_X10_hands : ax_MOk mt_prog mt_X10_hands := ax_MOk_of ch_X10_hands (List.forall_mem_cons.mpr ⟨ct_X10_hands_0, List.forall_mem_cons.mpr ⟨ct_X10_hands_1, fun _ h => absurd h List.not_mem_nil⟩⟩)
set_option maxRecDepth 100000 in
theorem ct_X10_line_0 : mc_X10_line_0.all (ax_chkE mt_prog RX10 "line" cX10_line) = true := by decide +kernel
set_option maxRecDepth 100000 in
theorem ct_X10_line_1 : mc_X10_line_1.all (ax_chkE mt_prog RX10 "line" cX10_line) = true := by decide +kernel
set_option maxRecDepth 100000 in
theorem ch_X10_line : ax_chkH (mt_X10_line, 1001, 116) = true := by decide +kernel
theorem pk_X10_line : ax_MOk mt_prog mt_X10_line := ax_MOk_of ch_X10_line (List.forall_mem_cons.mpr ⟨ct_X10_line_0, List.forall_mem_cons.mpr ⟨ct_X10_line_1, fun _ h => absurd h List.not_mem_nil⟩⟩)
set_option maxRecDepth 100000 in
theorem ct_X10_tear_0 : mc_X10_tear_0.all (ax_chkE mt_prog RX10 "tear" cX10_tear) = true := by decide +kernel
set_option maxRecDepth 100000 in
theorem ch_X10_tear : ax_chkH (mt_X10_tear, 1011, 116) = true := by decide +kernel
theorem pk_X10_tear : ax_MOk mt_prog mt_X10_tear := ax_MOk_of ch_X10_tear (List.forall_mem_cons.mpr ⟨ct_X10_tear_0, fun _ h => absurd h List.not_mem_nil⟩)
set_option maxRecDepth 100000 in
theorem ct_X10_wrong_0 : mc_X10_wrong_0.all (ax_chkE mt_prog RX10 "wrong" cX10_wrong) = true := by decide +kernel
set_option maxRecDepth 100000 in
theorem ch_X10_wrong : ax_chkH (mt_X10_wrong, 1019, 116) = true := by decide +kernel
theorem pk_X10_wrong : ax_MOk mt_prog mt_X10_wrong := ax_MOk_of ch_X10_wrong (List.forall_mem_cons.mpr ⟨ct_X10_wrong_0, fun _ h => absurd h List.not_mem_nil⟩)
set_option maxRecDepth 100000 in
theorem ct_X10_mended_0 : mc_X10_mended_0.all (ax_chkE mt_prog RX10 "mended" cX10_mended) = true := by decide +kernel
set_option maxRecDepth 100000 in
theorem ch_X10_mended : ax_chkH (mt_X10_mended, 1031, 116) = true := by decide +kernel
theorem pk_X10_mended : ax_MOk mt_prog mt_X10_mended := ax_MOk_of ch_X10_mended (List.forall_mem_cons.mpr ⟨ct_X10_mended_0, fun _ h => absurd h List.not_mem_nil⟩)
set_option maxRecDepth 100000 in
theorem ct_X10_slip_0 : mc_X10_slip_0.all (ax_chkE mt_prog RX10 "slip" cX10_slip) = true := by decide +kernel
set_option maxRecDepth 100000 in
theorem ct_X10_slip_1 : mc_X10_slip_1.all (ax_chkE mt_prog RX10 "slip" cX10_slip) = true := by decide +kernel
set_option maxRecDepth 100000 in
theorem ct_X10_slip_2 : mc_X10_slip_2.all (ax_chkE mt_prog RX10 "slip" cX10_slip) = true := by decide +kernel
set_option maxRecDepth 100000 in
theorem ch_X10_slip : ax_chkH (mt_X10_slip, 1040, 116) = true := by decide +kernel
theorem pk_X10_slip : ax_MOk mt_prog mt_X10_slip := ax_MOk_of ch_X10_slip (List.forall_mem_cons.mpr ⟨ct_X10_slip_0, List.forall_mem_cons.mpr ⟨ct_X10_slip_1, List.forall_mem_cons.mpr ⟨ct_X10_slip_2, fun _ h => absurd h List.not_mem_nil⟩⟩⟩)
set_option maxRecDepth 100000 in
theorem ct_X10_count_0 : mc_X10_count_0.all (ax_chkE mt_prog RX10 "count" cX10_count) = true := by decide +kernel
set_option maxRecDepth 100000 in
theorem ct_X10_count_1 : mc_X10_count_1.all (ax_chkE mt_prog RX10 "count" cX10_count) = true := by decide +kernel
set_option maxRecDepth 100000 in
theorem ct_X10_count_2 : mc_X10_count_2.all (ax_chkE mt_prog RX10 "count" cX10_count) = true := by decide +kernel
set_option maxRecDepth 100000 in
theorem ch_X10_count : ax_chkH (mt_X10_count, 1072, 116) = true := by decide +kernel
theorem pk_X10_count : ax_MOk mt_prog mt_X10_count := ax_MOk_of ch_X10_count (List.forall_mem_cons.mpr ⟨ct_X10_count_0, List.forall_mem_cons.mpr ⟨ct_X10_count_1, List.forall_mem_cons.mpr ⟨ct_X10_count_2, fun _ h => absurd h List.not_mem_nil⟩⟩⟩)
set_option maxRecDepth 100000 in
theorem ct_X10_digest_0 : mc_X10_digest_0.all (ax_chkE mt_prog RX10 "digest" cX10_digest) = true := by decide +kernel
set_option maxRecDepth 100000 in
theorem ct_X10_digest_1 : mc_X10_digest_1.all (ax_chkE mt_prog RX10 "digest" cX10_digest) = true := by decide +kernel
set_option maxRecDepth 100000 in
theorem ct_X10_digest_2 : mc_X10_digest_2.all (ax_chkE mt_prog RX10 "digest" cX10_digest) = true := by decide +kernel
set_option maxRecDepth 100000 in
theorem ct_X10_digest_3 : mc_X10_digest_3.all (ax_chkE mt_prog RX10 "digest" cX10_digest) = true := by decide +kernel
set_option maxRecDepth 100000 in
theorem ct_X10_digest_4 : mc_X10_digest_4.all (ax_chkE mt_prog RX10 "digest" cX10_digest) = true := by decide +kernel
set_option maxRecDepth 100000 in
theorem ct_X10_digest_5 : mc_X10_digest_5.all (ax_chkE mt_prog RX10 "digest" cX10_digest) = true := by decide +kernel
set_option maxRecDepth 100000 in
theorem ch_X10_digest : ax_chkH (mt_X10_digest, 1076, 116) = true := by decide +kernel
theorem pk_X10_digest : ax_MOk mt_prog mt_X10_digest := ax_MOk_of ch_X10_digest (List.forall_mem_cons.mpr ⟨ct_X10_digest_0, List.forall_mem_cons.mpr ⟨ct_X10_digest_1, List.forall_mem_cons.mpr ⟨ct_X10_digest_2, List.forall_mem_cons.mpr ⟨ct_X10_digest_3, List.forall_mem_cons.mpr ⟨ct_X10_digest_4, List.forall_mem_cons.mpr ⟨ct_X10_digest_5, fun _ h => absurd h List.not_mem_nil⟩⟩⟩⟩⟩⟩)
end
section
/-! ===== the tables are checked ===== -/
set_option maxRecDepth 100000 in
theorem ct_X10_mix_0 : mc_X10_mix_0.all (ax_chkE mt_prog RX10 "mix" cX10_mix) = true := by decide +kernel
set_option maxRecDepth 100000 in
theorem ch_X10_mix : ax_chkH (mt_X10_mix, 1084, 116) = true := by decide +kernel
theorem pk_X10_mix : ax_MOk mt_prog mt_X10_mix := ax_MOk_of ch_X10_mix (List.forall_mem_cons.mpr ⟨ct_X10_mix_0, fun _ h => absurd h List.not_mem_nil⟩)
set_option maxRecDepth 100000 in
theorem ct_X10_isRow_0 : mc_X10_isRow_0.all (ax_chkE mt_prog RX10 "isRow" cX10_isRow) = true := by decide +kernel
set_option maxRecDepth 100000 in
theorem ch_X10_isRow : ax_chkH (mt_X10_isRow, 663, 116) = true := by decide +kernel
theorem pk_X10_isRow : ax_MOk mt_prog mt_X10_isRow := ax_MOk_of ch_X10_isRow (List.forall_mem_cons.mpr ⟨ct_X10_isRow_0, fun _ h => absurd h List.not_mem_nil⟩)
set_option maxRecDepth 100000 in
theorem ct_X10_isMason_0 : mc_X10_isMason_0.all (ax_chkE mt_prog RX10 "isMason" cX10_isMason) = true := by decide +kernel
set_option maxRecDepth 100000 in
theorem ch_X10_isMason : ax_chkH (mt_X10_isMason, 980, 116) = true := by decide +kernel
theorem pk_X10_isMason : ax_MOk mt_prog mt_X10_isMason := ax_MOk_of ch_X10_isMason (List.forall_mem_cons.mpr ⟨ct_X10_isMason_0, fun _ h => absurd h List.not_mem_nil⟩)
set_option maxRecDepth 100000 in
theorem ct_X10_isNumber_0 : mc_X10_isNumber_0.all (ax_chkE mt_prog RX10 "isNumber" cX10_isNumber) = true := by decide +kernel
set_option maxRecDepth 100000 in
theorem ch_X10_isNumber : ax_chkH (mt_X10_isNumber, 714, 116) = true := by decide +kernel
theorem pk_X10_isNumber : ax_MOk mt_prog mt_X10_isNumber := ax_MOk_of ch_X10_isNumber (List.forall_mem_cons.mpr ⟨ct_X10_isNumber_0, fun _ h => absurd h List.not_mem_nil⟩)
set_option maxRecDepth 100000 in
theorem ct_X10_isCustom_0 : mc_X10_isCustom_0.all (ax_chkE mt_prog RX10 "isCustom" cX10_isCustom) = true := by decide +kernel
set_option maxRecDepth 100000 in
theorem ch_X10_isCustom : ax_chkH (mt_X10_isCustom, 656, 116) = true := by decide +kernel
theorem pk_X10_isCustom : ax_MOk mt_prog mt_X10_isCustom := ax_MOk_of ch_X10_isCustom (List.forall_mem_cons.mpr ⟨ct_X10_isCustom_0, fun _ h => absurd h List.not_mem_nil⟩)
set_option maxRecDepth 100000 in
theorem ct_X10_customsAllowing_0 : mc_X10_customsAllowing_0.all (ax_chkE mt_prog RX10 "customsAllowing" cX10_customsAllowing) = true := by decide +kernel
set_option maxRecDepth 100000 in
theorem ct_X10_customsAllowing_1 : mc_X10_customsAllowing_1.all (ax_chkE mt_prog RX10 "customsAllowing" cX10_customsAllowing) = true := by decide +kernel
set_option maxRecDepth 100000 in
theorem ch_X10_customsAllowing : ax_chkH (mt_X10_customsAllowing, 984, 116) = true := by decide +kernel
theorem pk_X10_customsAllowing : ax_MOk mt_prog mt_X10_customsAllowing := ax_MOk_of ch_X10_customsAllowing (List.forall_mem_cons.mpr ⟨ct_X10_customsAllowing_0, List.forall_mem_cons.mpr ⟨ct_X10_customsAllowing_1, fun _ h => absurd h List.not_mem_nil⟩⟩)
set_option maxRecDepth 100000 in
theorem ct_X10_readStone_0 : mc_X10_readStone_0.all (ax_chkE mt_prog RX10 "readStone" cX10_readStone) = true := by decide +kernel
set_option maxRecDepth 100000 in
theorem ct_X10_readStone_1 : mc_X10_readStone_1.all (ax_chkE mt_prog RX10 "readStone" cX10_readStone) = true := by decide +kernel
set_option maxRecDepth 100000 in
theorem ch_X10_readStone : ax_chkH (mt_X10_readStone, 939, 116) = true := by decide +kernel
theorem pk_X10_readStone : ax_MOk mt_prog mt_X10_readStone := ax_MOk_of ch_X10_readStone (List.forall_mem_cons.mpr ⟨ct_X10_readStone_0, List.forall_mem_cons.mpr ⟨ct_X10_readStone_1, fun _ h => absurd h List.not_mem_nil⟩⟩)
set_option maxRecDepth 100000 in
theorem ct_X10_halvings_0 : mc_X10_halvings_0.all (ax_chkE mt_prog RX10 "halvings" cX10_halvings) = true := by decide +kernel
set_option maxRecDepth 100000 in
theorem ch_X10_halvings : ax_chkH (mt_X10_halvings, 906, 116) = true := by decide +kernel
theorem pk_X10_halvings : ax_MOk mt_prog mt_X10_halvings := ax_MOk_of ch_X10_halvings (List.forall_mem_cons.mpr ⟨ct_X10_halvings_0, fun _ h => absurd h List.not_mem_nil⟩)
set_option maxRecDepth 100000 in
theorem ct_X10_product_0 : mc_X10_product_0.all (ax_chkE mt_prog RX10 "product" cX10_product) = true := by decide +kernel
set_option maxRecDepth 100000 in
theorem ct_X10_product_1 : mc_X10_product_1.all (ax_chkE mt_prog RX10 "product" cX10_product) = true := by decide +kernel
set_option maxRecDepth 100000 in
theorem ch_X10_product : ax_chkH (mt_X10_product, 903, 116) = true := by decide +kernel
theorem pk_X10_product : ax_MOk mt_prog mt_X10_product := ax_MOk_of ch_X10_product (List.forall_mem_cons.mpr ⟨ct_X10_product_0, List.forall_mem_cons.mpr ⟨ct_X10_product_1, fun _ h => absurd h List.not_mem_nil⟩⟩)
set_option maxRecDepth 100000 in
theorem ct_X10_doublings_0 : mc_X10_doublings_0.all (ax_chkE mt_prog RX10 "doublings" cX10_doublings) = true := by decide +kernel
set_option maxRecDepth 100000 in
theorem ch_X10_doublings : ax_chkH (mt_X10_doublings, 916, 116) = true := by decide +kernel
theorem pk_X10_doublings : ax_MOk mt_prog mt_X10_doublings := ax_MOk_of ch_X10_doublings (List.forall_mem_cons.mpr ⟨ct_X10_doublings_0, fun _ h => absurd h List.not_mem_nil⟩)
set_option maxRecDepth 100000 in
theorem ct_X10_linesTaken_0 : mc_X10_linesTaken_0.all (ax_chkE mt_prog RX10 "linesTaken" cX10_linesTaken) = true := by decide +kernel
set_option maxRecDepth 100000 in
theorem ct_X10_linesTaken_1 : mc_X10_linesTaken_1.all (ax_chkE mt_prog RX10 "linesTaken" cX10_linesTaken) = true := by decide +kernel
set_option maxRecDepth 100000 in
theorem ch_X10_linesTaken : ax_chkH (mt_X10_linesTaken, 913, 116) = true := by decide +kernel
theorem pk_X10_linesTaken : ax_MOk mt_prog mt_X10_linesTaken := ax_MOk_of ch_X10_linesTaken (List.forall_mem_cons.mpr ⟨ct_X10_linesTaken_0, List.forall_mem_cons.mpr ⟨ct_X10_linesTaken_1, fun _ h => absurd h List.not_mem_nil⟩⟩)
set_option maxRecDepth 100000 in
theorem ct_X10_signOf_0 : mc_X10_signOf_0.all (ax_chkE mt_prog RX10 "signOf" cX10_signOf) = true := by decide +kernel
set_option maxRecDepth 100000 in
theorem ch_X10_signOf : ax_chkH (mt_X10_signOf, 498, 116) = true := by decide +kernel
theorem pk_X10_signOf : ax_MOk mt_prog mt_X10_signOf := ax_MOk_of ch_X10_signOf (List.forall_mem_cons.mpr ⟨ct_X10_signOf_0, fun _ h => absurd h List.not_mem_nil⟩)
set_option maxRecDepth 100000 in
theorem ct_X11_init_0 : mc_X11_init_0.all (ax_chkE mt_prog RX11 "<init>" cX11_init) = true := by decide +kernel
set_option maxRecDepth 100000 in
theorem ct_X11_init_1 : mc_X11_init_1.all (ax_chkE mt_prog RX11 "<init>" cX11_init) = true := by decide +kernel
set_option maxRecDepth 100000 in
theorem ct_X11_init_2 : mc_X11_init_2.all (ax_chkE mt_prog RX11 "<init>" cX11_init) = true := by decide +kernel
set_option maxRecDepth 100000 in
theorem ct_X11_init_3 : mc_X11_init_3.all (ax_chkE mt_prog RX11 "<init>" cX11_init) = true := by decide +kernel
set_option maxRecDepth 100000 in
theorem ct_X11_init_4 : mc_X11_init_4.all (ax_chkE mt_prog RX11 "<init>" cX11_init) = true := by decide +kernel
set_option maxRecDepth 100000 in
theorem ct_X11_init_5 : mc_X11_init_5.all (ax_chkE mt_prog RX11 "<init>" cX11_init) = true := by decide +kernel
set_option maxRecDepth 100000 in
theorem ct_X11_init_6 : mc_X11_init_6.all (ax_chkE mt_prog RX11 "<init>" cX11_init) = true := by decide +kernel
set_option maxRecDepth 100000 in
theorem ct_X11_init_7 : mc_X11_init_7.all (ax_chkE mt_prog RX11 "<init>" cX11_init) = true := by decide +kernel
set_option maxRecDepth 100000 in
theorem ct_X11_init_8 : mc_X11_init_8.all (ax_chkE mt_prog RX11 "<init>" cX11_init) = true := by decide +kernel
set_option maxRecDepth 100000 in
theorem ct_X11_init_9 : mc_X11_init_9.all (ax_chkE mt_prog RX11 "<init>" cX11_init) = true := by decide +kernel
set_option maxRecDepth 100000 in
theorem ct_X11_init_10 : mc_X11_init_10.all (ax_chkE mt_prog RX11 "<init>" cX11_init) = true := by decide +kernel
set_option maxRecDepth 100000 in
theorem ct_X11_init_11 : mc_X11_init_11.all (ax_chkE mt_prog RX11 "<init>" cX11_init) = true := by decide +kernel
set_option maxRecDepth 100000 in
theorem ct_X11_init_12 : mc_X11_init_12.all (ax_chkE mt_prog RX11 "<init>" cX11_init) = true := by decide +kernel
set_option maxRecDepth 100000 in
theorem ct_X11_init_13 : mc_X11_init_13.all (ax_chkE mt_prog RX11 "<init>" cX11_init) = true := by decide +kernel
set_option maxRecDepth 100000 in
theorem ch_X11_init : ax_chkH (mt_X11_init, 1116, 127) = true := by decide +kernel
theorem pk_X11_init : ax_MOk mt_prog mt_X11_init := ax_MOk_of ch_X11_init (List.forall_mem_cons.mpr ⟨ct_X11_init_0, List.forall_mem_cons.mpr ⟨ct_X11_init_1, List.forall_mem_cons.mpr ⟨ct_X11_init_2, List.forall_mem_cons.mpr ⟨ct_X11_init_3, List.forall_mem_cons.mpr ⟨ct_X11_init_4, List.forall_mem_cons.mpr ⟨ct_X11_init_5, List.forall_mem_cons.mpr ⟨ct_X11_init_6, List.forall_mem_cons.mpr ⟨ct_X11_init_7, List.forall_mem_cons.mpr ⟨ct_X11_init_8, List.forall_mem_cons.mpr ⟨ct_X11_init_9, List.forall_mem_cons.mpr ⟨ct_X11_init_10, List.forall_mem_cons.mpr ⟨ct_X11_init_11, List.forall_mem_cons.mpr ⟨ct_X11_init_12, List.forall_mem_cons.mpr ⟨ct_X11_init_13, fun _ h => absurd h List.not_mem_nil⟩⟩⟩⟩⟩⟩⟩⟩⟩⟩⟩⟩⟩⟩)
set_option maxRecDepth 100000 in
theorem ct_X11_in_0 : mc_X11_in_0.all (ax_chkE mt_prog RX11 "in" cX11_in) = true := by decide +kernel
set_option maxRecDepth 100000 in
theorem ch_X11_in : ax_chkH (mt_X11_in, 1292, 127) = true := by decide +kernel
theorem pk_X11_in : ax_MOk mt_prog mt_X11_in := ax_MOk_of ch_X11_in (List.forall_mem_cons.mpr ⟨ct_X11_in_0, fun _ h => absurd h List.not_mem_nil⟩)
set_option maxRecDepth 100000 in
theorem ct_X11_letters_0 : mc_X11_letters_0.all (ax_chkE mt_prog RX11 "letters" cX11_letters) = true := by decide +kernel
set_option maxRecDepth 100000 in
theorem ct_X11_letters_1 : mc_X11_letters_1.all (ax_chkE mt_prog RX11 "letters" cX11_letters) = true := by decide +kernel
set_option maxRecDepth 100000 in
theorem ct_X11_letters_2 : mc_X11_letters_2.all (ax_chkE mt_prog RX11 "letters" cX11_letters) = true := by decide +kernel
set_option maxRecDepth 100000 in
theorem ct_X11_letters_3 : mc_X11_letters_3.all (ax_chkE mt_prog RX11 "letters" cX11_letters) = true := by decide +kernel
set_option maxRecDepth 100000 in
theorem ct_X11_letters_4 : mc_X11_letters_4.all (ax_chkE mt_prog RX11 "letters" cX11_letters) = true := by decide +kernel
set_option maxRecDepth 100000 in
theorem ch_X11_letters : ax_chkH (mt_X11_letters, 1272, 127) = true := by decide +kernel
theorem pk_X11_letters : ax_MOk mt_prog mt_X11_letters := ax_MOk_of ch_X11_letters (List.forall_mem_cons.mpr ⟨ct_X11_letters_0, List.forall_mem_cons.mpr ⟨ct_X11_letters_1, List.forall_mem_cons.mpr ⟨ct_X11_letters_2, List.forall_mem_cons.mpr ⟨ct_X11_letters_3, List.forall_mem_cons.mpr ⟨ct_X11_letters_4, fun _ h => absurd h List.not_mem_nil⟩⟩⟩⟩⟩)
end
section
/-! ===== the tables are checked ===== -/
set_option maxRecDepth 100000 in
theorem ct_X11_blank_0 : mc_X11_blank_0.all (ax_chkE mt_prog RX11 "blank" cX11_blank) = true := by decide +kernel
set_option maxRecDepth 100000 in
theorem ch_X11_blank : ax_chkH (mt_X11_blank, 1277, 127) = true := by decide +kernel
theorem pk_X11_blank : ax_MOk mt_prog mt_X11_blank := ax_MOk_of ch_X11_blank (List.forall_mem_cons.mpr ⟨ct_X11_blank_0, fun _ h => absurd h List.not_mem_nil⟩)
set_option maxRecDepth 100000 in
theorem ct_X11_signOf_0 : mc_X11_signOf_0.all (ax_chkE mt_prog RX11 "signOf" cX11_signOf) = true := by decide +kernel
set_option maxRecDepth 100000 in
theorem ch_X11_signOf : ax_chkH (mt_X11_signOf, 1289, 127) = true := by decide +kernel
theorem pk_X11_signOf : ax_MOk mt_prog mt_X11_signOf := ax_MOk_of ch_X11_signOf (List.forall_mem_cons.mpr ⟨ct_X11_signOf_0, fun _ h => absurd h List.not_mem_nil⟩)
set_option maxRecDepth 100000 in
theorem ct_X11_readCustom_0 : mc_X11_readCustom_0.all (ax_chkE mt_prog RX11 "readCustom" cX11_readCustom) = true := by decide +kernel
set_option maxRecDepth 100000 in
theorem ct_X11_readCustom_1 : mc_X11_readCustom_1.all (ax_chkE mt_prog RX11 "readCustom" cX11_readCustom) = true := by decide +kernel
set_option maxRecDepth 100000 in
theorem ct_X11_readCustom_2 : mc_X11_readCustom_2.all (ax_chkE mt_prog RX11 "readCustom" cX11_readCustom) = true := by decide +kernel
set_option maxRecDepth 100000 in
theorem ct_X11_readCustom_3 : mc_X11_readCustom_3.all (ax_chkE mt_prog RX11 "readCustom" cX11_readCustom) = true := by decide +kernel
set_option maxRecDepth 100000 in
theorem ct_X11_readCustom_4 : mc_X11_readCustom_4.all (ax_chkE mt_prog RX11 "readCustom" cX11_readCustom) = true := by decide +kernel
set_option maxRecDepth 100000 in
theorem ct_X11_readCustom_5 : mc_X11_readCustom_5.all (ax_chkE mt_prog RX11 "readCustom" cX11_readCustom) = true := by decide +kernel
set_option maxRecDepth 100000 in
theorem ct_X11_readCustom_6 : mc_X11_readCustom_6.all (ax_chkE mt_prog RX11 "readCustom" cX11_readCustom) = true := by decide +kernel
set_option maxRecDepth 100000 in
theorem ct_X11_readCustom_7 : mc_X11_readCustom_7.all (ax_chkE mt_prog RX11 "readCustom" cX11_readCustom) = true := by decide +kernel
set_option maxRecDepth 100000 in
theorem ct_X11_readCustom_8 : mc_X11_readCustom_8.all (ax_chkE mt_prog RX11 "readCustom" cX11_readCustom) = true := by decide +kernel
set_option maxRecDepth 100000 in
theorem ct_X11_readCustom_9 : mc_X11_readCustom_9.all (ax_chkE mt_prog RX11 "readCustom" cX11_readCustom) = true := by decide +kernel
set_option maxRecDepth 100000 in
theorem ct_X11_readCustom_10 : mc_X11_readCustom_10.all (ax_chkE mt_prog RX11 "readCustom" cX11_readCustom) = true := by decide +kernel
set_option maxRecDepth 100000 in
theorem ct_X11_readCustom_11 : mc_X11_readCustom_11.all (ax_chkE mt_prog RX11 "readCustom" cX11_readCustom) = true := by decide +kernel
set_option maxRecDepth 100000 in
theorem ct_X11_readCustom_12 : mc_X11_readCustom_12.all (ax_chkE mt_prog RX11 "readCustom" cX11_readCustom) = true := by decide +kernel
set_option maxRecDepth 100000 in
theorem ch_X11_readCustom : ax_chkH (mt_X11_readCustom, 1285, 127) = true := by decide +kernel
theorem pk_X11_readCustom : ax_MOk mt_prog mt_X11_readCustom := ax_MOk_of ch_X11_readCustom (List.forall_mem_cons.mpr ⟨ct_X11_readCustom_0, List.forall_mem_cons.mpr ⟨ct_X11_readCustom_1, List.forall_mem_cons.mpr ⟨ct_X11_readCustom_2, List.forall_mem_cons.mpr ⟨ct_X11_readCustom_3, List.forall_mem_cons.mpr ⟨ct_X11_readCustom_4, List.forall_mem_cons.mpr ⟨ct_X11_readCustom_5, List.forall_mem_cons.mpr ⟨ct_X11_readCustom_6, List.forall_mem_cons.mpr ⟨ct_X11_readCustom_7, List.forall_mem_cons.mpr ⟨ct_X11_readCustom_8, List.forall_mem_cons.mpr ⟨ct_X11_readCustom_9, List.forall_mem_cons.mpr ⟨ct_X11_readCustom_10, List.forall_mem_cons.mpr ⟨ct_X11_readCustom_11, List.forall_mem_cons.mpr ⟨ct_X11_readCustom_12, fun _ h => absurd h List.not_mem_nil⟩⟩⟩⟩⟩⟩⟩⟩⟩⟩⟩⟩⟩)
set_option maxRecDepth 100000 in
theorem ct_X11_isMore_0 : mc_X11_isMore_0.all (ax_chkE mt_prog RX11 "isMore" cX11_isMore) = true := by decide +kernel
set_option maxRecDepth 100000 in
theorem ch_X11_isMore : ax_chkH (mt_X11_isMore, 1296, 127) = true := by decide +kernel
theorem pk_X11_isMore : ax_MOk mt_prog mt_X11_isMore := ax_MOk_of ch_X11_isMore (List.forall_mem_cons.mpr ⟨ct_X11_isMore_0, fun _ h => absurd h List.not_mem_nil⟩)
set_option maxRecDepth 100000 in
theorem ct_X11_good_0 : mc_X11_good_0.all (ax_chkE mt_prog RX11 "good" cX11_good) = true := by decide +kernel
set_option maxRecDepth 100000 in
theorem ch_X11_good : ax_chkH (mt_X11_good, 1281, 127) = true := by decide +kernel
theorem pk_X11_good : ax_MOk mt_prog mt_X11_good := ax_MOk_of ch_X11_good (List.forall_mem_cons.mpr ⟨ct_X11_good_0, fun _ h => absurd h List.not_mem_nil⟩)
set_option maxRecDepth 100000 in
theorem ct_X11_custom_0 : mc_X11_custom_0.all (ax_chkE mt_prog RX11 "custom" cX11_custom) = true := by decide +kernel
set_option maxRecDepth 100000 in
theorem ct_X11_custom_1 : mc_X11_custom_1.all (ax_chkE mt_prog RX11 "custom" cX11_custom) = true := by decide +kernel
set_option maxRecDepth 100000 in
theorem ch_X11_custom : ax_chkH (mt_X11_custom, 1300, 127) = true := by decide +kernel
theorem pk_X11_custom : ax_MOk mt_prog mt_X11_custom := ax_MOk_of ch_X11_custom (List.forall_mem_cons.mpr ⟨ct_X11_custom_0, List.forall_mem_cons.mpr ⟨ct_X11_custom_1, fun _ h => absurd h List.not_mem_nil⟩⟩)
set_option maxRecDepth 100000 in
theorem ct_X11_isCustom_0 : mc_X11_isCustom_0.all (ax_chkE mt_prog RX11 "isCustom" cX11_isCustom) = true := by decide +kernel
set_option maxRecDepth 100000 in
theorem ch_X11_isCustom : ax_chkH (mt_X11_isCustom, 1308, 127) = true := by decide +kernel
theorem pk_X11_isCustom : ax_MOk mt_prog mt_X11_isCustom := ax_MOk_of ch_X11_isCustom (List.forall_mem_cons.mpr ⟨ct_X11_isCustom_0, fun _ h => absurd h List.not_mem_nil⟩)
set_option maxRecDepth 100000 in
theorem ct_X11_asks_0 : mc_X11_asks_0.all (ax_chkE mt_prog RX11 "asks" cX11_asks) = true := by decide +kernel
set_option maxRecDepth 100000 in
theorem ct_X11_asks_1 : mc_X11_asks_1.all (ax_chkE mt_prog RX11 "asks" cX11_asks) = true := by decide +kernel
set_option maxRecDepth 100000 in
theorem ct_X11_asks_2 : mc_X11_asks_2.all (ax_chkE mt_prog RX11 "asks" cX11_asks) = true := by decide +kernel
set_option maxRecDepth 100000 in
theorem ch_X11_asks : ax_chkH (mt_X11_asks, 1304, 127) = true := by decide +kernel
theorem pk_X11_asks : ax_MOk mt_prog mt_X11_asks := ax_MOk_of ch_X11_asks (List.forall_mem_cons.mpr ⟨ct_X11_asks_0, List.forall_mem_cons.mpr ⟨ct_X11_asks_1, List.forall_mem_cons.mpr ⟨ct_X11_asks_2, fun _ h => absurd h List.not_mem_nil⟩⟩⟩)
set_option maxRecDepth 100000 in
theorem ct_X11_isRow_0 : mc_X11_isRow_0.all (ax_chkE mt_prog RX11 "isRow" cX11_isRow) = true := by decide +kernel
set_option maxRecDepth 100000 in
theorem ch_X11_isRow : ax_chkH (mt_X11_isRow, 1315, 127) = true := by decide +kernel
theorem pk_X11_isRow : ax_MOk mt_prog mt_X11_isRow := ax_MOk_of ch_X11_isRow (List.forall_mem_cons.mpr ⟨ct_X11_isRow_0, fun _ h => absurd h List.not_mem_nil⟩)
set_option maxRecDepth 100000 in
theorem ct_X11_row_0 : mc_X11_row_0.all (ax_chkE mt_prog RX11 "row" cX11_row) = true := by decide +kernel
set_option maxRecDepth 100000 in
theorem ct_X11_row_1 : mc_X11_row_1.all (ax_chkE mt_prog RX11 "row" cX11_row) = true := by decide +kernel
set_option maxRecDepth 100000 in
theorem ct_X11_row_2 : mc_X11_row_2.all (ax_chkE mt_prog RX11 "row" cX11_row) = true := by decide +kernel
set_option maxRecDepth 100000 in
theorem ct_X11_row_3 : mc_X11_row_3.all (ax_chkE mt_prog RX11 "row" cX11_row) = true := by decide +kernel
set_option maxRecDepth 100000 in
theorem ch_X11_row : ax_chkH (mt_X11_row, 1312, 127) = true := by decide +kernel
theorem pk_X11_row : ax_MOk mt_prog mt_X11_row := ax_MOk_of ch_X11_row (List.forall_mem_cons.mpr ⟨ct_X11_row_0, List.forall_mem_cons.mpr ⟨ct_X11_row_1, List.forall_mem_cons.mpr ⟨ct_X11_row_2, List.forall_mem_cons.mpr ⟨ct_X11_row_3, fun _ h => absurd h List.not_mem_nil⟩⟩⟩⟩)
set_option maxRecDepth 100000 in
theorem ct_X11_sign_0 : mc_X11_sign_0.all (ax_chkE mt_prog RX11 "sign" cX11_sign) = true := by decide +kernel
set_option maxRecDepth 100000 in
theorem ct_X11_sign_1 : mc_X11_sign_1.all (ax_chkE mt_prog RX11 "sign" cX11_sign) = true := by decide +kernel
set_option maxRecDepth 100000 in
theorem ch_X11_sign : ax_chkH (mt_X11_sign, 1319, 127) = true := by decide +kernel
theorem pk_X11_sign : ax_MOk mt_prog mt_X11_sign := ax_MOk_of ch_X11_sign (List.forall_mem_cons.mpr ⟨ct_X11_sign_0, List.forall_mem_cons.mpr ⟨ct_X11_sign_1, fun _ h => absurd h List.not_mem_nil⟩⟩)
end
section
/-! ===== the tables are checked ===== -/
set_option maxRecDepth 100000 in
theorem ct_X11_isTaken_0 : mc_X11_isTaken_0.all (ax_chkE mt_prog RX11 "isTaken" cX11_isTaken) = true := by decide +kernel
set_option maxRecDepth 100000 in
theorem ct_X11_isTaken_1 : mc_X11_isTaken_1.all (ax_chkE mt_prog RX11 "isTaken" cX11_isTaken) = true := by decide +kernel
set_option maxRecDepth 100000 in
theorem ch_X11_isTaken : ax_chkH (mt_X11_isTaken, 1330, 127) = true := by decide +kernel
theorem pk_X11_isTaken : ax_MOk mt_prog mt_X11_isTaken := ax_MOk_of ch_X11_isTaken (List.forall_mem_cons.mpr ⟨ct_X11_isTaken_0, List.forall_mem_cons.mpr ⟨ct_X11_isTaken_1, fun _ h => absurd h List.not_mem_nil⟩⟩)
set_option maxRecDepth 100000 in
theorem ct_X11_worthOf_0 : mc_X11_worthOf_0.all (ax_chkE mt_prog RX11 "worthOf" cX11_worthOf) = true := by decide +kernel
set_option maxRecDepth 100000 in
theorem ct_X11_worthOf_1 : mc_X11_worthOf_1.all (ax_chkE mt_prog RX11 "worthOf" cX11_worthOf) = true := by decide +kernel
set_option maxRecDepth 100000 in
theorem ch_X11_worthOf : ax_chkH (mt_X11_worthOf, 1327, 127) = true := by decide +kernel
theorem pk_X11_worthOf : ax_MOk mt_prog mt_X11_worthOf := ax_MOk_of ch_X11_worthOf (List.forall_mem_cons.mpr ⟨ct_X11_worthOf_0, List.forall_mem_cons.mpr ⟨ct_X11_worthOf_1, fun _ h => absurd h List.not_mem_nil⟩⟩)
set_option maxRecDepth 100000 in
theorem ct_X11_worth_0 : mc_X11_worth_0.all (ax_chkE mt_prog RX11 "worth" cX11_worth) = true := by decide +kernel
set_option maxRecDepth 100000 in
theorem ch_X11_worth : ax_chkH (mt_X11_worth, 1323, 127) = true := by decide +kernel
theorem pk_X11_worth : ax_MOk mt_prog mt_X11_worth := ax_MOk_of ch_X11_worth (List.forall_mem_cons.mpr ⟨ct_X11_worth_0, fun _ h => absurd h List.not_mem_nil⟩)
set_option maxRecDepth 100000 in
theorem ct_X11_keepsAll_0 : mc_X11_keepsAll_0.all (ax_chkE mt_prog RX11 "keepsAll" cX11_keepsAll) = true := by decide +kernel
set_option maxRecDepth 100000 in
theorem ct_X11_keepsAll_1 : mc_X11_keepsAll_1.all (ax_chkE mt_prog RX11 "keepsAll" cX11_keepsAll) = true := by decide +kernel
set_option maxRecDepth 100000 in
theorem ct_X11_keepsAll_2 : mc_X11_keepsAll_2.all (ax_chkE mt_prog RX11 "keepsAll" cX11_keepsAll) = true := by decide +kernel
set_option maxRecDepth 100000 in
theorem ct_X11_keepsAll_3 : mc_X11_keepsAll_3.all (ax_chkE mt_prog RX11 "keepsAll" cX11_keepsAll) = true := by decide +kernel
set_option maxRecDepth 100000 in
theorem ct_X11_keepsAll_4 : mc_X11_keepsAll_4.all (ax_chkE mt_prog RX11 "keepsAll" cX11_keepsAll) = true := by decide +kernel
set_option maxRecDepth 100000 in
theorem ct_X11_keepsAll_5 : mc_X11_keepsAll_5.all (ax_chkE mt_prog RX11 "keepsAll" cX11_keepsAll) = true := by decide +kernel
set_option maxRecDepth 100000 in
theorem ct_X11_keepsAll_6 : mc_X11_keepsAll_6.all (ax_chkE mt_prog RX11 "keepsAll" cX11_keepsAll) = true := by decide +kernel
set_option maxRecDepth 100000 in
theorem ct_X11_keepsAll_7 : mc_X11_keepsAll_7.all (ax_chkE mt_prog RX11 "keepsAll" cX11_keepsAll) = true := by decide +kernel
set_option maxRecDepth 100000 in
theorem ch_X11_keepsAll : ax_chkH (mt_X11_keepsAll, 1339, 127) = true := by decide +kernel
theorem pk_X11_keepsAll : ax_MOk mt_prog mt_X11_keepsAll := ax_MOk_of ch_X11_keepsAll (List.forall_mem_cons.mpr ⟨ct_X11_keepsAll_0, List.forall_mem_cons.mpr ⟨ct_X11_keepsAll_1, List.forall_mem_cons.mpr ⟨ct_X11_keepsAll_2, List.forall_mem_cons.mpr ⟨ct_X11_keepsAll_3, List.forall_mem_cons.mpr ⟨ct_X11_keepsAll_4, List.forall_mem_cons.mpr ⟨ct_X11_keepsAll_5, List.forall_mem_cons.mpr ⟨ct_X11_keepsAll_6, List.forall_mem_cons.mpr ⟨ct_X11_keepsAll_7, fun _ h => absurd h List.not_mem_nil⟩⟩⟩⟩⟩⟩⟩⟩)
set_option maxRecDepth 100000 in
theorem ct_X11_mayTake_0 : mc_X11_mayTake_0.all (ax_chkE mt_prog RX11 "mayTake" cX11_mayTake) = true := by decide +kernel
set_option maxRecDepth 100000 in
theorem ct_X11_mayTake_1 : mc_X11_mayTake_1.all (ax_chkE mt_prog RX11 "mayTake" cX11_mayTake) = true := by decide +kernel
set_option maxRecDepth 100000 in
theorem ch_X11_mayTake : ax_chkH (mt_X11_mayTake, 1343, 127) = true := by decide +kernel
theorem pk_X11_mayTake : ax_MOk mt_prog mt_X11_mayTake := ax_MOk_of ch_X11_mayTake (List.forall_mem_cons.mpr ⟨ct_X11_mayTake_0, List.forall_mem_cons.mpr ⟨ct_X11_mayTake_1, fun _ h => absurd h List.not_mem_nil⟩⟩)
set_option maxRecDepth 100000 in
theorem ct_X11_mayBegin_0 : mc_X11_mayBegin_0.all (ax_chkE mt_prog RX11 "mayBegin" cX11_mayBegin) = true := by decide +kernel
set_option maxRecDepth 100000 in
theorem ct_X11_mayBegin_1 : mc_X11_mayBegin_1.all (ax_chkE mt_prog RX11 "mayBegin" cX11_mayBegin) = true := by decide +kernel
set_option maxRecDepth 100000 in
theorem ct_X11_mayBegin_2 : mc_X11_mayBegin_2.all (ax_chkE mt_prog RX11 "mayBegin" cX11_mayBegin) = true := by decide +kernel
set_option maxRecDepth 100000 in
theorem ch_X11_mayBegin : ax_chkH (mt_X11_mayBegin, 1347, 127) = true := by decide +kernel
theorem pk_X11_mayBegin : ax_MOk mt_prog mt_X11_mayBegin := ax_MOk_of ch_X11_mayBegin (List.forall_mem_cons.mpr ⟨ct_X11_mayBegin_0, List.forall_mem_cons.mpr ⟨ct_X11_mayBegin_1, List.forall_mem_cons.mpr ⟨ct_X11_mayBegin_2, fun _ h => absurd h List.not_mem_nil⟩⟩⟩)
set_option maxRecDepth 100000 in
theorem ct_X11_keeps_0 : mc_X11_keeps_0.all (ax_chkE mt_prog RX11 "keeps" cX11_keeps) = true := by decide +kernel
set_option maxRecDepth 100000 in
theorem ct_X11_keeps_1 : mc_X11_keeps_1.all (ax_chkE mt_prog RX11 "keeps" cX11_keeps) = true := by decide +kernel
set_option maxRecDepth 100000 in
theorem ch_X11_keeps : ax_chkH (mt_X11_keeps, 1335, 127) = true := by decide +kernel
theorem pk_X11_keeps : ax_MOk mt_prog mt_X11_keeps := ax_MOk_of ch_X11_keeps (List.forall_mem_cons.mpr ⟨ct_X11_keeps_0, List.forall_mem_cons.mpr ⟨ct_X11_keeps_1, fun _ h => absurd h List.not_mem_nil⟩⟩)
set_option maxRecDepth 100000 in
theorem ct_X11_begins_0 : mc_X11_begins_0.all (ax_chkE mt_prog RX11 "begins" cX11_begins) = true := by decide +kernel
set_option maxRecDepth 100000 in
theorem ct_X11_begins_1 : mc_X11_begins_1.all (ax_chkE mt_prog RX11 "begins" cX11_begins) = true := by decide +kernel
set_option maxRecDepth 100000 in
theorem ch_X11_begins : ax_chkH (mt_X11_begins, 1351, 127) = true := by decide +kernel
theorem pk_X11_begins : ax_MOk mt_prog mt_X11_begins := ax_MOk_of ch_X11_begins (List.forall_mem_cons.mpr ⟨ct_X11_begins_0, List.forall_mem_cons.mpr ⟨ct_X11_begins_1, fun _ h => absurd h List.not_mem_nil⟩⟩)
set_option maxRecDepth 100000 in
theorem ct_X11_shared_0 : mc_X11_shared_0.all (ax_chkE mt_prog RX11 "shared" cX11_shared) = true := by decide +kernel
set_option maxRecDepth 100000 in
theorem ct_X11_shared_1 : mc_X11_shared_1.all (ax_chkE mt_prog RX11 "shared" cX11_shared) = true := by decide +kernel
set_option maxRecDepth 100000 in
theorem ch_X11_shared : ax_chkH (mt_X11_shared, 1367, 127) = true := by decide +kernel
theorem pk_X11_shared : ax_MOk mt_prog mt_X11_shared := ax_MOk_of ch_X11_shared (List.forall_mem_cons.mpr ⟨ct_X11_shared_0, List.forall_mem_cons.mpr ⟨ct_X11_shared_1, fun _ h => absurd h List.not_mem_nil⟩⟩)
set_option maxRecDepth 100000 in
theorem ct_X11_bound_0 : mc_X11_bound_0.all (ax_chkE mt_prog RX11 "bound" cX11_bound) = true := by decide +kernel
set_option maxRecDepth 100000 in
theorem ct_X11_bound_1 : mc_X11_bound_1.all (ax_chkE mt_prog RX11 "bound" cX11_bound) = true := by decide +kernel
set_option maxRecDepth 100000 in
theorem ct_X11_bound_2 : mc_X11_bound_2.all (ax_chkE mt_prog RX11 "bound" cX11_bound) = true := by decide +kernel
set_option maxRecDepth 100000 in
theorem ct_X11_bound_3 : mc_X11_bound_3.all (ax_chkE mt_prog RX11 "bound" cX11_bound) = true := by decide +kernel
set_option maxRecDepth 100000 in
theorem ct_X11_bound_4 : mc_X11_bound_4.all (ax_chkE mt_prog RX11 "bound" cX11_bound) = true := by decide +kernel
set_option maxRecDepth 100000 in
theorem ct_X11_bound_5 : mc_X11_bound_5.all (ax_chkE mt_prog RX11 "bound" cX11_bound) = true := by decide +kernel
set_option maxRecDepth 100000 in
theorem ct_X11_bound_6 : mc_X11_bound_6.all (ax_chkE mt_prog RX11 "bound" cX11_bound) = true := by decide +kernel
set_option maxRecDepth 100000 in
theorem ct_X11_bound_7 : mc_X11_bound_7.all (ax_chkE mt_prog RX11 "bound" cX11_bound) = true := by decide +kernel
set_option maxRecDepth 100000 in
theorem ch_X11_bound : ax_chkH (mt_X11_bound, 1364, 127) = true := by decide +kernel
theorem pk_X11_bound : ax_MOk mt_prog mt_X11_bound := ax_MOk_of ch_X11_bound (List.forall_mem_cons.mpr ⟨ct_X11_bound_0, List.forall_mem_cons.mpr ⟨ct_X11_bound_1, List.forall_mem_cons.mpr ⟨ct_X11_bound_2, List.forall_mem_cons.mpr ⟨ct_X11_bound_3, List.forall_mem_cons.mpr ⟨ct_X11_bound_4, List.forall_mem_cons.mpr ⟨ct_X11_bound_5, List.forall_mem_cons.mpr ⟨ct_X11_bound_6, List.forall_mem_cons.mpr ⟨ct_X11_bound_7, fun _ h => absurd h List.not_mem_nil⟩⟩⟩⟩⟩⟩⟩⟩)
end
section
/-! ===== the tables are checked ===== -/
set_option maxRecDepth 100000 in
theorem ct_X11_mayCome_0 : mc_X11_mayCome_0.all (ax_chkE mt_prog RX11 "mayCome" cX11_mayCome) = true := by decide +kernel
set_option maxRecDepth 100000 in
theorem ct_X11_mayCome_1 : mc_X11_mayCome_1.all (ax_chkE mt_prog RX11 "mayCome" cX11_mayCome) = true := by decide +kernel
set_option maxRecDepth 100000 in
theorem ct_X11_mayCome_2 : mc_X11_mayCome_2.all (ax_chkE mt_prog RX11 "mayCome" cX11_mayCome) = true := by decide +kernel
set_option maxRecDepth 100000 in
theorem ch_X11_mayCome : ax_chkH (mt_X11_mayCome, 1390, 127) = true := by decide +kernel
theorem pk_X11_mayCome : ax_MOk mt_prog mt_X11_mayCome := ax_MOk_of ch_X11_mayCome (List.forall_mem_cons.mpr ⟨ct_X11_mayCome_0, List.forall_mem_cons.mpr ⟨ct_X11_mayCome_1, List.forall_mem_cons.mpr ⟨ct_X11_mayCome_2, fun _ h => absurd h List.not_mem_nil⟩⟩⟩)
set_option maxRecDepth 100000 in
theorem ct_X11_signsOf_0 : mc_X11_signsOf_0.all (ax_chkE mt_prog RX11 "signsOf" cX11_signsOf) = true := by decide +kernel
set_option maxRecDepth 100000 in
theorem ch_X11_signsOf : ax_chkH (mt_X11_signsOf, 1386, 127) = true := by decide +kernel
theorem pk_X11_signsOf : ax_MOk mt_prog mt_X11_signsOf := ax_MOk_of ch_X11_signsOf (List.forall_mem_cons.mpr ⟨ct_X11_signsOf_0, fun _ h => absurd h List.not_mem_nil⟩)
set_option maxRecDepth 100000 in
theorem ct_X11_worthBy_0 : mc_X11_worthBy_0.all (ax_chkE mt_prog RX11 "worthBy" cX11_worthBy) = true := by decide +kernel
set_option maxRecDepth 100000 in
theorem ct_X11_worthBy_1 : mc_X11_worthBy_1.all (ax_chkE mt_prog RX11 "worthBy" cX11_worthBy) = true := by decide +kernel
set_option maxRecDepth 100000 in
theorem ct_X11_worthBy_2 : mc_X11_worthBy_2.all (ax_chkE mt_prog RX11 "worthBy" cX11_worthBy) = true := by decide +kernel
set_option maxRecDepth 100000 in
theorem ch_X11_worthBy : ax_chkH (mt_X11_worthBy, 1383, 127) = true := by decide +kernel
theorem pk_X11_worthBy : ax_MOk mt_prog mt_X11_worthBy := ax_MOk_of ch_X11_worthBy (List.forall_mem_cons.mpr ⟨ct_X11_worthBy_0, List.forall_mem_cons.mpr ⟨ct_X11_worthBy_1, List.forall_mem_cons.mpr ⟨ct_X11_worthBy_2, fun _ h => absurd h List.not_mem_nil⟩⟩⟩)
set_option maxRecDepth 100000 in
theorem ct_X11_isAllowed_0 : mc_X11_isAllowed_0.all (ax_chkE mt_prog RX11 "isAllowed" cX11_isAllowed) = true := by decide +kernel
set_option maxRecDepth 100000 in
theorem ct_X11_isAllowed_1 : mc_X11_isAllowed_1.all (ax_chkE mt_prog RX11 "isAllowed" cX11_isAllowed) = true := by decide +kernel
set_option maxRecDepth 100000 in
theorem ct_X11_isAllowed_2 : mc_X11_isAllowed_2.all (ax_chkE mt_prog RX11 "isAllowed" cX11_isAllowed) = true := by decide +kernel
set_option maxRecDepth 100000 in
theorem ch_X11_isAllowed : ax_chkH (mt_X11_isAllowed, 1379, 127) = true := by decide +kernel
theorem pk_X11_isAllowed : ax_MOk mt_prog mt_X11_isAllowed := ax_MOk_of ch_X11_isAllowed (List.forall_mem_cons.mpr ⟨ct_X11_isAllowed_0, List.forall_mem_cons.mpr ⟨ct_X11_isAllowed_1, List.forall_mem_cons.mpr ⟨ct_X11_isAllowed_2, fun _ h => absurd h List.not_mem_nil⟩⟩⟩)
set_option maxRecDepth 100000 in
theorem ct_X11_nextWay_0 : mc_X11_nextWay_0.all (ax_chkE mt_prog RX11 "nextWay" cX11_nextWay) = true := by decide +kernel
set_option maxRecDepth 100000 in
theorem ct_X11_nextWay_1 : mc_X11_nextWay_1.all (ax_chkE mt_prog RX11 "nextWay" cX11_nextWay) = true := by decide +kernel
set_option maxRecDepth 100000 in
theorem ct_X11_nextWay_2 : mc_X11_nextWay_2.all (ax_chkE mt_prog RX11 "nextWay" cX11_nextWay) = true := by decide +kernel
set_option maxRecDepth 100000 in
theorem ct_X11_nextWay_3 : mc_X11_nextWay_3.all (ax_chkE mt_prog RX11 "nextWay" cX11_nextWay) = true := by decide +kernel
set_option maxRecDepth 100000 in
theorem ch_X11_nextWay : ax_chkH (mt_X11_nextWay, 1375, 127) = true := by decide +kernel
theorem pk_X11_nextWay : ax_MOk mt_prog mt_X11_nextWay := ax_MOk_of ch_X11_nextWay (List.forall_mem_cons.mpr ⟨ct_X11_nextWay_0, List.forall_mem_cons.mpr ⟨ct_X11_nextWay_1, List.forall_mem_cons.mpr ⟨ct_X11_nextWay_2, List.forall_mem_cons.mpr ⟨ct_X11_nextWay_3, fun _ h => absurd h List.not_mem_nil⟩⟩⟩⟩)
set_option maxRecDepth 100000 in
theorem ct_X11_seek_0 : mc_X11_seek_0.all (ax_chkE mt_prog RX11 "seek" cX11_seek) = true := by decide +kernel
set_option maxRecDepth 100000 in
theorem ct_X11_seek_1 : mc_X11_seek_1.all (ax_chkE mt_prog RX11 "seek" cX11_seek) = true := by decide +kernel
set_option maxRecDepth 100000 in
theorem ct_X11_seek_2 : mc_X11_seek_2.all (ax_chkE mt_prog RX11 "seek" cX11_seek) = true := by decide +kernel
set_option maxRecDepth 100000 in
theorem ct_X11_seek_3 : mc_X11_seek_3.all (ax_chkE mt_prog RX11 "seek" cX11_seek) = true := by decide +kernel
set_option maxRecDepth 100000 in
theorem ct_X11_seek_4 : mc_X11_seek_4.all (ax_chkE mt_prog RX11 "seek" cX11_seek) = true := by decide +kernel
set_option maxRecDepth 100000 in
theorem ct_X11_seek_5 : mc_X11_seek_5.all (ax_chkE mt_prog RX11 "seek" cX11_seek) = true := by decide +kernel
set_option maxRecDepth 100000 in
theorem ct_X11_seek_6 : mc_X11_seek_6.all (ax_chkE mt_prog RX11 "seek" cX11_seek) = true := by decide +kernel
set_option maxRecDepth 100000 in
theorem ct_X11_seek_7 : mc_X11_seek_7.all (ax_chkE mt_prog RX11 "seek" cX11_seek) = true := by decide +kernel
set_option maxRecDepth 100000 in
theorem ch_X11_seek : ax_chkH (mt_X11_seek, 1360, 127) = true := by decide +kernel
theorem pk_X11_seek : ax_MOk mt_prog mt_X11_seek := ax_MOk_of ch_X11_seek (List.forall_mem_cons.mpr ⟨ct_X11_seek_0, List.forall_mem_cons.mpr ⟨ct_X11_seek_1, List.forall_mem_cons.mpr ⟨ct_X11_seek_2, List.forall_mem_cons.mpr ⟨ct_X11_seek_3, List.forall_mem_cons.mpr ⟨ct_X11_seek_4, List.forall_mem_cons.mpr ⟨ct_X11_seek_5, List.forall_mem_cons.mpr ⟨ct_X11_seek_6, List.forall_mem_cons.mpr ⟨ct_X11_seek_7, fun _ h => absurd h List.not_mem_nil⟩⟩⟩⟩⟩⟩⟩⟩)
set_option maxRecDepth 100000 in
theorem ct_X11_down_0 : mc_X11_down_0.all (ax_chkE mt_prog RX11 "down" cX11_down) = true := by decide +kernel
set_option maxRecDepth 100000 in
theorem ct_X11_down_1 : mc_X11_down_1.all (ax_chkE mt_prog RX11 "down" cX11_down) = true := by decide +kernel
set_option maxRecDepth 100000 in
theorem ct_X11_down_2 : mc_X11_down_2.all (ax_chkE mt_prog RX11 "down" cX11_down) = true := by decide +kernel
set_option maxRecDepth 100000 in
theorem ch_X11_down : ax_chkH (mt_X11_down, 1402, 127) = true := by decide +kernel
theorem pk_X11_down : ax_MOk mt_prog mt_X11_down := ax_MOk_of ch_X11_down (List.forall_mem_cons.mpr ⟨ct_X11_down_0, List.forall_mem_cons.mpr ⟨ct_X11_down_1, List.forall_mem_cons.mpr ⟨ct_X11_down_2, fun _ h => absurd h List.not_mem_nil⟩⟩⟩)
set_option maxRecDepth 100000 in
theorem ct_X11_open_0 : mc_X11_open_0.all (ax_chkE mt_prog RX11 "open" cX11_open) = true := by decide +kernel
set_option maxRecDepth 100000 in
theorem ct_X11_open_1 : mc_X11_open_1.all (ax_chkE mt_prog RX11 "open" cX11_open) = true := by decide +kernel
set_option maxRecDepth 100000 in
theorem ch_X11_open : ax_chkH (mt_X11_open, 1371, 127) = true := by decide +kernel
theorem pk_X11_open : ax_MOk mt_prog mt_X11_open := ax_MOk_of ch_X11_open (List.forall_mem_cons.mpr ⟨ct_X11_open_0, List.forall_mem_cons.mpr ⟨ct_X11_open_1, fun _ h => absurd h List.not_mem_nil⟩⟩)
set_option maxRecDepth 100000 in
theorem ct_X11_noteOne_0 : mc_X11_noteOne_0.all (ax_chkE mt_prog RX11 "noteOne" cX11_noteOne) = true := by decide +kernel
set_option maxRecDepth 100000 in
theorem ct_X11_noteOne_1 : mc_X11_noteOne_1.all (ax_chkE mt_prog RX11 "noteOne" cX11_noteOne) = true := by decide +kernel
set_option maxRecDepth 100000 in
theorem ch_X11_noteOne : ax_chkH (mt_X11_noteOne, 1394, 127) = true := by decide +kernel
theorem pk_X11_noteOne : ax_MOk mt_prog mt_X11_noteOne := ax_MOk_of ch_X11_noteOne (List.forall_mem_cons.mpr ⟨ct_X11_noteOne_0, List.forall_mem_cons.mpr ⟨ct_X11_noteOne_1, fun _ h => absurd h List.not_mem_nil⟩⟩)
end
section
/-! ===== the tables are checked ===== -/
set_option maxRecDepth 100000 in
theorem ct_X11_layRow_0 : mc_X11_layRow_0.all (ax_chkE mt_prog RX11 "layRow" cX11_layRow) = true := by decide +kernel
set_option maxRecDepth 100000 in
theorem ct_X11_layRow_1 : mc_X11_layRow_1.all (ax_chkE mt_prog RX11 "layRow" cX11_layRow) = true := by decide +kernel
set_option maxRecDepth 100000 in
theorem ct_X11_layRow_2 : mc_X11_layRow_2.all (ax_chkE mt_prog RX11 "layRow" cX11_layRow) = true := by decide +kernel
set_option maxRecDepth 100000 in
theorem ct_X11_layRow_3 : mc_X11_layRow_3.all (ax_chkE mt_prog RX11 "layRow" cX11_layRow) = true := by decide +kernel
set_option maxRecDepth 100000 in
theorem ch_X11_layRow : ax_chkH (mt_X11_layRow, 1398, 127) = true := by decide +kernel
theorem pk_X11_layRow : ax_MOk mt_prog mt_X11_layRow := ax_MOk_of ch_X11_layRow (List.forall_mem_cons.mpr ⟨ct_X11_layRow_0, List.forall_mem_cons.mpr ⟨ct_X11_layRow_1, List.forall_mem_cons.mpr ⟨ct_X11_layRow_2, List.forall_mem_cons.mpr ⟨ct_X11_layRow_3, fun _ h => absurd h List.not_mem_nil⟩⟩⟩⟩)
set_option maxRecDepth 100000 in
theorem ct_X11_ways_0 : mc_X11_ways_0.all (ax_chkE mt_prog RX11 "ways" cX11_ways) = true := by decide +kernel
set_option maxRecDepth 100000 in
theorem ct_X11_ways_1 : mc_X11_ways_1.all (ax_chkE mt_prog RX11 "ways" cX11_ways) = true := by decide +kernel
set_option maxRecDepth 100000 in
theorem ch_X11_ways : ax_chkH (mt_X11_ways, 1355, 127) = true := by decide +kernel
theorem pk_X11_ways : ax_MOk mt_prog mt_X11_ways := ax_MOk_of ch_X11_ways (List.forall_mem_cons.mpr ⟨ct_X11_ways_0, List.forall_mem_cons.mpr ⟨ct_X11_ways_1, fun _ h => absurd h List.not_mem_nil⟩⟩)
set_option maxRecDepth 100000 in
theorem ct_X11_write_0 : mc_X11_write_0.all (ax_chkE mt_prog RX11 "write" cX11_write) = true := by decide +kernel
set_option maxRecDepth 100000 in
theorem ct_X11_write_1 : mc_X11_write_1.all (ax_chkE mt_prog RX11 "write" cX11_write) = true := by decide +kernel
set_option maxRecDepth 100000 in
theorem ct_X11_write_2 : mc_X11_write_2.all (ax_chkE mt_prog RX11 "write" cX11_write) = true := by decide +kernel
set_option maxRecDepth 100000 in
theorem ct_X11_write_3 : mc_X11_write_3.all (ax_chkE mt_prog RX11 "write" cX11_write) = true := by decide +kernel
set_option maxRecDepth 100000 in
theorem ct_X11_write_4 : mc_X11_write_4.all (ax_chkE mt_prog RX11 "write" cX11_write) = true := by decide +kernel
set_option maxRecDepth 100000 in
theorem ch_X11_write : ax_chkH (mt_X11_write, 1406, 127) = true := by decide +kernel
theorem pk_X11_write : ax_MOk mt_prog mt_X11_write := ax_MOk_of ch_X11_write (List.forall_mem_cons.mpr ⟨ct_X11_write_0, List.forall_mem_cons.mpr ⟨ct_X11_write_1, List.forall_mem_cons.mpr ⟨ct_X11_write_2, List.forall_mem_cons.mpr ⟨ct_X11_write_3, List.forall_mem_cons.mpr ⟨ct_X11_write_4, fun _ h => absurd h List.not_mem_nil⟩⟩⟩⟩⟩)
set_option maxRecDepth 100000 in
theorem ct_X11_board_0 : mc_X11_board_0.all (ax_chkE mt_prog RX11 "board" cX11_board) = true := by decide +kernel
set_option maxRecDepth 100000 in
theorem ct_X11_board_1 : mc_X11_board_1.all (ax_chkE mt_prog RX11 "board" cX11_board) = true := by decide +kernel
set_option maxRecDepth 100000 in
theorem ch_X11_board : ax_chkH (mt_X11_board, 1410, 127) = true := by decide +kernel
theorem pk_X11_board : ax_MOk mt_prog mt_X11_board := ax_MOk_of ch_X11_board (List.forall_mem_cons.mpr ⟨ct_X11_board_0, List.forall_mem_cons.mpr ⟨ct_X11_board_1, fun _ h => absurd h List.not_mem_nil⟩⟩)
set_option maxRecDepth 100000 in
theorem ct_X11_onBoard_0 : mc_X11_onBoard_0.all (ax_chkE mt_prog RX11 "onBoard" cX11_onBoard) = true := by decide +kernel
set_option maxRecDepth 100000 in
theorem ct_X11_onBoard_1 : mc_X11_onBoard_1.all (ax_chkE mt_prog RX11 "onBoard" cX11_onBoard) = true := by decide +kernel
set_option maxRecDepth 100000 in
theorem ch_X11_onBoard : ax_chkH (mt_X11_onBoard, 1422, 127) = true := by decide +kernel
theorem pk_X11_onBoard : ax_MOk mt_prog mt_X11_onBoard := ax_MOk_of ch_X11_onBoard (List.forall_mem_cons.mpr ⟨ct_X11_onBoard_0, List.forall_mem_cons.mpr ⟨ct_X11_onBoard_1, fun _ h => absurd h List.not_mem_nil⟩⟩)
set_option maxRecDepth 100000 in
theorem ct_X11_pour_0 : mc_X11_pour_0.all (ax_chkE mt_prog RX11 "pour" cX11_pour) = true := by decide +kernel
set_option maxRecDepth 100000 in
theorem ct_X11_pour_1 : mc_X11_pour_1.all (ax_chkE mt_prog RX11 "pour" cX11_pour) = true := by decide +kernel
set_option maxRecDepth 100000 in
theorem ct_X11_pour_2 : mc_X11_pour_2.all (ax_chkE mt_prog RX11 "pour" cX11_pour) = true := by decide +kernel
set_option maxRecDepth 100000 in
theorem ct_X11_pour_3 : mc_X11_pour_3.all (ax_chkE mt_prog RX11 "pour" cX11_pour) = true := by decide +kernel
set_option maxRecDepth 100000 in
theorem ct_X11_pour_4 : mc_X11_pour_4.all (ax_chkE mt_prog RX11 "pour" cX11_pour) = true := by decide +kernel
set_option maxRecDepth 100000 in
theorem ct_X11_pour_5 : mc_X11_pour_5.all (ax_chkE mt_prog RX11 "pour" cX11_pour) = true := by decide +kernel
set_option maxRecDepth 100000 in
theorem ct_X11_pour_6 : mc_X11_pour_6.all (ax_chkE mt_prog RX11 "pour" cX11_pour) = true := by decide +kernel
set_option maxRecDepth 100000 in
theorem ch_X11_pour : ax_chkH (mt_X11_pour, 1414, 127) = true := by decide +kernel
theorem pk_X11_pour : ax_MOk mt_prog mt_X11_pour := ax_MOk_of ch_X11_pour (List.forall_mem_cons.mpr ⟨ct_X11_pour_0, List.forall_mem_cons.mpr ⟨ct_X11_pour_1, List.forall_mem_cons.mpr ⟨ct_X11_pour_2, List.forall_mem_cons.mpr ⟨ct_X11_pour_3, List.forall_mem_cons.mpr ⟨ct_X11_pour_4, List.forall_mem_cons.mpr ⟨ct_X11_pour_5, List.forall_mem_cons.mpr ⟨ct_X11_pour_6, fun _ h => absurd h List.not_mem_nil⟩⟩⟩⟩⟩⟩⟩)
set_option maxRecDepth 100000 in
theorem ct_X11_poured_0 : mc_X11_poured_0.all (ax_chkE mt_prog RX11 "poured" cX11_poured) = true := by decide +kernel
set_option maxRecDepth 100000 in
theorem ct_X11_poured_1 : mc_X11_poured_1.all (ax_chkE mt_prog RX11 "poured" cX11_poured) = true := by decide +kernel
set_option maxRecDepth 100000 in
theorem ct_X11_poured_2 : mc_X11_poured_2.all (ax_chkE mt_prog RX11 "poured" cX11_poured) = true := by decide +kernel
set_option maxRecDepth 100000 in
theorem ch_X11_poured : ax_chkH (mt_X11_poured, 1418, 127) = true := by decide +kernel
theorem pk_X11_poured : ax_MOk mt_prog mt_X11_poured := ax_MOk_of ch_X11_poured (List.forall_mem_cons.mpr ⟨ct_X11_poured_0, List.forall_mem_cons.mpr ⟨ct_X11_poured_1, List.forall_mem_cons.mpr ⟨ct_X11_poured_2, fun _ h => absurd h List.not_mem_nil⟩⟩⟩)
set_option maxRecDepth 100000 in
theorem ct_X11_bundleOf_0 : mc_X11_bundleOf_0.all (ax_chkE mt_prog RX11 "bundleOf" cX11_bundleOf) = true := by decide +kernel
set_option maxRecDepth 100000 in
theorem ch_X11_bundleOf : ax_chkH (mt_X11_bundleOf, 1429, 127) = true := by decide +kernel
theorem pk_X11_bundleOf : ax_MOk mt_prog mt_X11_bundleOf := ax_MOk_of ch_X11_bundleOf (List.forall_mem_cons.mpr ⟨ct_X11_bundleOf_0, fun _ h => absurd h List.not_mem_nil⟩)
set_option maxRecDepth 100000 in
theorem ct_X11_bundle_0 : mc_X11_bundle_0.all (ax_chkE mt_prog RX11 "bundle" cX11_bundle) = true := by decide +kernel
set_option maxRecDepth 100000 in
theorem ct_X11_bundle_1 : mc_X11_bundle_1.all (ax_chkE mt_prog RX11 "bundle" cX11_bundle) = true := by decide +kernel
set_option maxRecDepth 100000 in
theorem ct_X11_bundle_2 : mc_X11_bundle_2.all (ax_chkE mt_prog RX11 "bundle" cX11_bundle) = true := by decide +kernel
set_option maxRecDepth 100000 in
theorem ch_X11_bundle : ax_chkH (mt_X11_bundle, 1426, 127) = true := by decide +kernel
theorem pk_X11_bundle : ax_MOk mt_prog mt_X11_bundle := ax_MOk_of ch_X11_bundle (List.forall_mem_cons.mpr ⟨ct_X11_bundle_0, List.forall_mem_cons.mpr ⟨ct_X11_bundle_1, List.forall_mem_cons.mpr ⟨ct_X11_bundle_2, fun _ h => absurd h List.not_mem_nil⟩⟩⟩)
set_option maxRecDepth 100000 in
theorem ct_X11_unbundle_0 : mc_X11_unbundle_0.all (ax_chkE mt_prog RX11 "unbundle" cX11_unbundle) = true := by decide +kernel
set_option maxRecDepth 100000 in
theorem ct_X11_unbundle_1 : mc_X11_unbundle_1.all (ax_chkE mt_prog RX11 "unbundle" cX11_unbundle) = true := by decide +kernel
set_option maxRecDepth 100000 in
theorem ct_X11_unbundle_2 : mc_X11_unbundle_2.all (ax_chkE mt_prog RX11 "unbundle" cX11_unbundle) = true := by decide +kernel
set_option maxRecDepth 100000 in
theorem ch_X11_unbundle : ax_chkH (mt_X11_unbundle, 1433, 127) = true := by decide +kernel
theorem pk_X11_unbundle : ax_MOk mt_prog mt_X11_unbundle := ax_MOk_of ch_X11_unbundle (List.forall_mem_cons.mpr ⟨ct_X11_unbundle_0, List.forall_mem_cons.mpr ⟨ct_X11_unbundle_1, List.forall_mem_cons.mpr ⟨ct_X11_unbundle_2, fun _ h => absurd h List.not_mem_nil⟩⟩⟩)
end
section
/-! ===== the tables are checked ===== -/
set_option maxRecDepth 100000 in
theorem ct_X11_firstStep_0 : mc_X11_firstStep_0.all (ax_chkE mt_prog RX11 "firstStep" cX11_firstStep) = true := by decide +kernel
set_option maxRecDepth 100000 in
theorem ct_X11_firstStep_1 : mc_X11_firstStep_1.all (ax_chkE mt_prog RX11 "firstStep" cX11_firstStep) = true := by decide +kernel
set_option maxRecDepth 100000 in
theorem ct_X11_firstStep_2 : mc_X11_firstStep_2.all (ax_chkE mt_prog RX11 "firstStep" cX11_firstStep) = true := by decide +kernel
set_option maxRecDepth 100000 in
theorem ct_X11_firstStep_3 : mc_X11_firstStep_3.all (ax_chkE mt_prog RX11 "firstStep" cX11_firstStep) = true := by decide +kernel
set_option maxRecDepth 100000 in
theorem ct_X11_firstStep_4 : mc_X11_firstStep_4.all (ax_chkE mt_prog RX11 "firstStep" cX11_firstStep) = true := by decide +kernel
set_option maxRecDepth 100000 in
theorem ch_X11_firstStep : ax_chkH (mt_X11_firstStep, 1441, 127) = true := by decide +kernel
theorem pk_X11_firstStep : ax_MOk mt_prog mt_X11_firstStep := ax_MOk_of ch_X11_firstStep (List.forall_mem_cons.mpr ⟨ct_X11_firstStep_0, List.forall_mem_cons.mpr ⟨ct_X11_firstStep_1, List.forall_mem_cons.mpr ⟨ct_X11_firstStep_2, List.forall_mem_cons.mpr ⟨ct_X11_firstStep_3, List.forall_mem_cons.mpr ⟨ct_X11_firstStep_4, fun _ h => absurd h List.not_mem_nil⟩⟩⟩⟩⟩)
set_option maxRecDepth 100000 in
theorem ct_X11_doStep_0 : mc_X11_doStep_0.all (ax_chkE mt_prog RX11 "doStep" cX11_doStep) = true := by decide +kernel
set_option maxRecDepth 100000 in
theorem ct_X11_doStep_1 : mc_X11_doStep_1.all (ax_chkE mt_prog RX11 "doStep" cX11_doStep) = true := by decide +kernel
set_option maxRecDepth 100000 in
theorem ch_X11_doStep : ax_chkH (mt_X11_doStep, 1445, 127) = true := by decide +kernel
theorem pk_X11_doStep : ax_MOk mt_prog mt_X11_doStep := ax_MOk_of ch_X11_doStep (List.forall_mem_cons.mpr ⟨ct_X11_doStep_0, List.forall_mem_cons.mpr ⟨ct_X11_doStep_1, fun _ h => absurd h List.not_mem_nil⟩⟩)
set_option maxRecDepth 100000 in
theorem ct_X11_settle_0 : mc_X11_settle_0.all (ax_chkE mt_prog RX11 "settle" cX11_settle) = true := by decide +kernel
set_option maxRecDepth 100000 in
theorem ct_X11_settle_1 : mc_X11_settle_1.all (ax_chkE mt_prog RX11 "settle" cX11_settle) = true := by decide +kernel
set_option maxRecDepth 100000 in
theorem ct_X11_settle_2 : mc_X11_settle_2.all (ax_chkE mt_prog RX11 "settle" cX11_settle) = true := by decide +kernel
set_option maxRecDepth 100000 in
theorem ch_X11_settle : ax_chkH (mt_X11_settle, 1437, 127) = true := by decide +kernel
theorem pk_X11_settle : ax_MOk mt_prog mt_X11_settle := ax_MOk_of ch_X11_settle (List.forall_mem_cons.mpr ⟨ct_X11_settle_0, List.forall_mem_cons.mpr ⟨ct_X11_settle_1, List.forall_mem_cons.mpr ⟨ct_X11_settle_2, fun _ h => absurd h List.not_mem_nil⟩⟩⟩)
set_option maxRecDepth 100000 in
theorem ct_X11_step_0 : mc_X11_step_0.all (ax_chkE mt_prog RX11 "step" cX11_step) = true := by decide +kernel
set_option maxRecDepth 100000 in
theorem ch_X11_step : ax_chkH (mt_X11_step, 1451, 127) = true := by decide +kernel
theorem pk_X11_step : ax_MOk mt_prog mt_X11_step := ax_MOk_of ch_X11_step (List.forall_mem_cons.mpr ⟨ct_X11_step_0, fun _ h => absurd h List.not_mem_nil⟩)
set_option maxRecDepth 100000 in
theorem ct_X11_holds_0 : mc_X11_holds_0.all (ax_chkE mt_prog RX11 "holds" cX11_holds) = true := by decide +kernel
set_option maxRecDepth 100000 in
theorem ct_X11_holds_1 : mc_X11_holds_1.all (ax_chkE mt_prog RX11 "holds" cX11_holds) = true := by decide +kernel
set_option maxRecDepth 100000 in
theorem ch_X11_holds : ax_chkH (mt_X11_holds, 1455, 127) = true := by decide +kernel
theorem pk_X11_holds : ax_MOk mt_prog mt_X11_holds := ax_MOk_of ch_X11_holds (List.forall_mem_cons.mpr ⟨ct_X11_holds_0, List.forall_mem_cons.mpr ⟨ct_X11_holds_1, fun _ h => absurd h List.not_mem_nil⟩⟩)
set_option maxRecDepth 100000 in
theorem ct_X11_lift_0 : mc_X11_lift_0.all (ax_chkE mt_prog RX11 "lift" cX11_lift) = true := by decide +kernel
set_option maxRecDepth 100000 in
theorem ct_X11_lift_1 : mc_X11_lift_1.all (ax_chkE mt_prog RX11 "lift" cX11_lift) = true := by decide +kernel
set_option maxRecDepth 100000 in
theorem ct_X11_lift_2 : mc_X11_lift_2.all (ax_chkE mt_prog RX11 "lift" cX11_lift) = true := by decide +kernel
set_option maxRecDepth 100000 in
theorem ct_X11_lift_3 : mc_X11_lift_3.all (ax_chkE mt_prog RX11 "lift" cX11_lift) = true := by decide +kernel
set_option maxRecDepth 100000 in
theorem ct_X11_lift_4 : mc_X11_lift_4.all (ax_chkE mt_prog RX11 "lift" cX11_lift) = true := by decide +kernel
set_option maxRecDepth 100000 in
theorem ch_X11_lift : ax_chkH (mt_X11_lift, 1459, 127) = true := by decide +kernel
theorem pk_X11_lift : ax_MOk mt_prog mt_X11_lift := ax_MOk_of ch_X11_lift (List.forall_mem_cons.mpr ⟨ct_X11_lift_0, List.forall_mem_cons.mpr ⟨ct_X11_lift_1, List.forall_mem_cons.mpr ⟨ct_X11_lift_2, List.forall_mem_cons.mpr ⟨ct_X11_lift_3, List.forall_mem_cons.mpr ⟨ct_X11_lift_4, fun _ h => absurd h List.not_mem_nil⟩⟩⟩⟩⟩)
set_option maxRecDepth 100000 in
theorem ct_X11_sweep_0 : mc_X11_sweep_0.all (ax_chkE mt_prog RX11 "sweep" cX11_sweep) = true := by decide +kernel
set_option maxRecDepth 100000 in
theorem ct_X11_sweep_1 : mc_X11_sweep_1.all (ax_chkE mt_prog RX11 "sweep" cX11_sweep) = true := by decide +kernel
set_option maxRecDepth 100000 in
theorem ch_X11_sweep : ax_chkH (mt_X11_sweep, 1463, 127) = true := by decide +kernel
theorem pk_X11_sweep : ax_MOk mt_prog mt_X11_sweep := ax_MOk_of ch_X11_sweep (List.forall_mem_cons.mpr ⟨ct_X11_sweep_0, List.forall_mem_cons.mpr ⟨ct_X11_sweep_1, fun _ h => absurd h List.not_mem_nil⟩⟩)
set_option maxRecDepth 100000 in
theorem ct_X11_times_0 : mc_X11_times_0.all (ax_chkE mt_prog RX11 "times" cX11_times) = true := by decide +kernel
set_option maxRecDepth 100000 in
theorem ct_X11_times_1 : mc_X11_times_1.all (ax_chkE mt_prog RX11 "times" cX11_times) = true := by decide +kernel
set_option maxRecDepth 100000 in
theorem ct_X11_times_2 : mc_X11_times_2.all (ax_chkE mt_prog RX11 "times" cX11_times) = true := by decide +kernel
set_option maxRecDepth 100000 in
theorem ct_X11_times_3 : mc_X11_times_3.all (ax_chkE mt_prog RX11 "times" cX11_times) = true := by decide +kernel
set_option maxRecDepth 100000 in
theorem ct_X11_times_4 : mc_X11_times_4.all (ax_chkE mt_prog RX11 "times" cX11_times) = true := by decide +kernel
set_option maxRecDepth 100000 in
theorem ch_X11_times : ax_chkH (mt_X11_times, 1467, 127) = true := by decide +kernel
theorem pk_X11_times : ax_MOk mt_prog mt_X11_times := ax_MOk_of ch_X11_times (List.forall_mem_cons.mpr ⟨ct_X11_times_0, List.forall_mem_cons.mpr ⟨ct_X11_times_1, List.forall_mem_cons.mpr ⟨ct_X11_times_2, List.forall_mem_cons.mpr ⟨ct_X11_times_3, List.forall_mem_cons.mpr ⟨ct_X11_times_4, fun _ h => absurd h List.not_mem_nil⟩⟩⟩⟩⟩)
set_option maxRecDepth 100000 in
theorem ct_X11_parts_0 : mc_X11_parts_0.all (ax_chkE mt_prog RX11 "parts" cX11_parts) = true := by decide +kernel
set_option maxRecDepth 100000 in
theorem ct_X11_parts_1 : mc_X11_parts_1.all (ax_chkE mt_prog RX11 "parts" cX11_parts) = true := by decide +kernel
set_option maxRecDepth 100000 in
theorem ct_X11_parts_2 : mc_X11_parts_2.all (ax_chkE mt_prog RX11 "parts" cX11_parts) = true := by decide +kernel
set_option maxRecDepth 100000 in
theorem ct_X11_parts_3 : mc_X11_parts_3.all (ax_chkE mt_prog RX11 "parts" cX11_parts) = true := by decide +kernel
set_option maxRecDepth 100000 in
theorem ct_X11_parts_4 : mc_X11_parts_4.all (ax_chkE mt_prog RX11 "parts" cX11_parts) = true := by decide +kernel
set_option maxRecDepth 100000 in
theorem ch_X11_parts : ax_chkH (mt_X11_parts, 1471, 127) = true := by decide +kernel
theorem pk_X11_parts : ax_MOk mt_prog mt_X11_parts := ax_MOk_of ch_X11_parts (List.forall_mem_cons.mpr ⟨ct_X11_parts_0, List.forall_mem_cons.mpr ⟨ct_X11_parts_1, List.forall_mem_cons.mpr ⟨ct_X11_parts_2, List.forall_mem_cons.mpr ⟨ct_X11_parts_3, List.forall_mem_cons.mpr ⟨ct_X11_parts_4, fun _ h => absurd h List.not_mem_nil⟩⟩⟩⟩⟩)
end
section
/-! ===== the tables are checked ===== -/
set_option maxRecDepth 100000 in
theorem ct_X11_stone_0 : mc_X11_stone_0.all (ax_chkE mt_prog RX11 "stone" cX11_stone) = true := by decide +kernel
set_option maxRecDepth 100000 in
theorem ct_X11_stone_1 : mc_X11_stone_1.all (ax_chkE mt_prog RX11 "stone" cX11_stone) = true := by decide +kernel
set_option maxRecDepth 100000 in
theorem ct_X11_stone_2 : mc_X11_stone_2.all (ax_chkE mt_prog RX11 "stone" cX11_stone) = true := by decide +kernel
set_option maxRecDepth 100000 in
theorem ct_X11_stone_3 : mc_X11_stone_3.all (ax_chkE mt_prog RX11 "stone" cX11_stone) = true := by decide +kernel
set_option maxRecDepth 100000 in
theorem ct_X11_stone_4 : mc_X11_stone_4.all (ax_chkE mt_prog RX11 "stone" cX11_stone) = true := by decide +kernel
set_option maxRecDepth 100000 in
theorem ct_X11_stone_5 : mc_X11_stone_5.all (ax_chkE mt_prog RX11 "stone" cX11_stone) = true := by decide +kernel
set_option maxRecDepth 100000 in
theorem ct_X11_stone_6 : mc_X11_stone_6.all (ax_chkE mt_prog RX11 "stone" cX11_stone) = true := by decide +kernel
set_option maxRecDepth 100000 in
theorem ch_X11_stone : ax_chkH (mt_X11_stone, 1475, 127) = true := by decide +kernel
theorem pk_X11_stone : ax_MOk mt_prog mt_X11_stone := ax_MOk_of ch_X11_stone (List.forall_mem_cons.mpr ⟨ct_X11_stone_0, List.forall_mem_cons.mpr ⟨ct_X11_stone_1, List.forall_mem_cons.mpr ⟨ct_X11_stone_2, List.forall_mem_cons.mpr ⟨ct_X11_stone_3, List.forall_mem_cons.mpr ⟨ct_X11_stone_4, List.forall_mem_cons.mpr ⟨ct_X11_stone_5, List.forall_mem_cons.mpr ⟨ct_X11_stone_6, fun _ h => absurd h List.not_mem_nil⟩⟩⟩⟩⟩⟩⟩)
set_option maxRecDepth 100000 in
theorem ct_X11_say_0 : mc_X11_say_0.all (ax_chkE mt_prog RX11 "say" cX11_say) = true := by decide +kernel
set_option maxRecDepth 100000 in
theorem ct_X11_say_1 : mc_X11_say_1.all (ax_chkE mt_prog RX11 "say" cX11_say) = true := by decide +kernel
set_option maxRecDepth 100000 in
theorem ct_X11_say_2 : mc_X11_say_2.all (ax_chkE mt_prog RX11 "say" cX11_say) = true := by decide +kernel
set_option maxRecDepth 100000 in
theorem ch_X11_say : ax_chkH (mt_X11_say, 1511, 127) = true := by decide +kernel
theorem pk_X11_say : ax_MOk mt_prog mt_X11_say := ax_MOk_of ch_X11_say (List.forall_mem_cons.mpr ⟨ct_X11_say_0, List.forall_mem_cons.mpr ⟨ct_X11_say_1, List.forall_mem_cons.mpr ⟨ct_X11_say_2, fun _ h => absurd h List.not_mem_nil⟩⟩⟩)
set_option maxRecDepth 100000 in
theorem ct_X11_fillAll_0 : mc_X11_fillAll_0.all (ax_chkE mt_prog RX11 "fillAll" cX11_fillAll) = true := by decide +kernel
set_option maxRecDepth 100000 in
theorem ct_X11_fillAll_1 : mc_X11_fillAll_1.all (ax_chkE mt_prog RX11 "fillAll" cX11_fillAll) = true := by decide +kernel
set_option maxRecDepth 100000 in
theorem ct_X11_fillAll_2 : mc_X11_fillAll_2.all (ax_chkE mt_prog RX11 "fillAll" cX11_fillAll) = true := by decide +kernel
set_option maxRecDepth 100000 in
theorem ch_X11_fillAll : ax_chkH (mt_X11_fillAll, 1487, 127) = true := by decide +kernel
theorem pk_X11_fillAll : ax_MOk mt_prog mt_X11_fillAll := ax_MOk_of ch_X11_fillAll (List.forall_mem_cons.mpr ⟨ct_X11_fillAll_0, List.forall_mem_cons.mpr ⟨ct_X11_fillAll_1, List.forall_mem_cons.mpr ⟨ct_X11_fillAll_2, fun _ h => absurd h List.not_mem_nil⟩⟩⟩)
set_option maxRecDepth 100000 in
theorem ct_X11_fillTo_0 : mc_X11_fillTo_0.all (ax_chkE mt_prog RX11 "fillTo" cX11_fillTo) = true := by decide +kernel
set_option maxRecDepth 100000 in
theorem ct_X11_fillTo_1 : mc_X11_fillTo_1.all (ax_chkE mt_prog RX11 "fillTo" cX11_fillTo) = true := by decide +kernel
set_option maxRecDepth 100000 in
theorem ct_X11_fillTo_2 : mc_X11_fillTo_2.all (ax_chkE mt_prog RX11 "fillTo" cX11_fillTo) = true := by decide +kernel
set_option maxRecDepth 100000 in
theorem ct_X11_fillTo_3 : mc_X11_fillTo_3.all (ax_chkE mt_prog RX11 "fillTo" cX11_fillTo) = true := by decide +kernel
set_option maxRecDepth 100000 in
theorem ct_X11_fillTo_4 : mc_X11_fillTo_4.all (ax_chkE mt_prog RX11 "fillTo" cX11_fillTo) = true := by decide +kernel
set_option maxRecDepth 100000 in
theorem ch_X11_fillTo : ax_chkH (mt_X11_fillTo, 1491, 127) = true := by decide +kernel
theorem pk_X11_fillTo : ax_MOk mt_prog mt_X11_fillTo := ax_MOk_of ch_X11_fillTo (List.forall_mem_cons.mpr ⟨ct_X11_fillTo_0, List.forall_mem_cons.mpr ⟨ct_X11_fillTo_1, List.forall_mem_cons.mpr ⟨ct_X11_fillTo_2, List.forall_mem_cons.mpr ⟨ct_X11_fillTo_3, List.forall_mem_cons.mpr ⟨ct_X11_fillTo_4, fun _ h => absurd h List.not_mem_nil⟩⟩⟩⟩⟩)
set_option maxRecDepth 100000 in
theorem ct_X11_isOpen_0 : mc_X11_isOpen_0.all (ax_chkE mt_prog RX11 "isOpen" cX11_isOpen) = true := by decide +kernel
set_option maxRecDepth 100000 in
theorem ch_X11_isOpen : ax_chkH (mt_X11_isOpen, 1499, 127) = true := by decide +kernel
theorem pk_X11_isOpen : ax_MOk mt_prog mt_X11_isOpen := ax_MOk_of ch_X11_isOpen (List.forall_mem_cons.mpr ⟨ct_X11_isOpen_0, fun _ h => absurd h List.not_mem_nil⟩)
set_option maxRecDepth 100000 in
theorem ct_X11_first_0 : mc_X11_first_0.all (ax_chkE mt_prog RX11 "first" cX11_first) = true := by decide +kernel
set_option maxRecDepth 100000 in
theorem ch_X11_first : ax_chkH (mt_X11_first, 1495, 127) = true := by decide +kernel
theorem pk_X11_first : ax_MOk mt_prog mt_X11_first := ax_MOk_of ch_X11_first (List.forall_mem_cons.mpr ⟨ct_X11_first_0, fun _ h => absurd h List.not_mem_nil⟩)
set_option maxRecDepth 100000 in
theorem ct_X11_after_0 : mc_X11_after_0.all (ax_chkE mt_prog RX11 "after" cX11_after) = true := by decide +kernel
set_option maxRecDepth 100000 in
theorem ch_X11_after : ax_chkH (mt_X11_after, 1503, 127) = true := by decide +kernel
theorem pk_X11_after : ax_MOk mt_prog mt_X11_after := ax_MOk_of ch_X11_after (List.forall_mem_cons.mpr ⟨ct_X11_after_0, fun _ h => absurd h List.not_mem_nil⟩)
set_option maxRecDepth 100000 in
theorem ct_X11_take_0 : mc_X11_take_0.all (ax_chkE mt_prog RX11 "take" cX11_take) = true := by decide +kernel
set_option maxRecDepth 100000 in
theorem ct_X11_take_1 : mc_X11_take_1.all (ax_chkE mt_prog RX11 "take" cX11_take) = true := by decide +kernel
set_option maxRecDepth 100000 in
theorem ct_X11_take_2 : mc_X11_take_2.all (ax_chkE mt_prog RX11 "take" cX11_take) = true := by decide +kernel
set_option maxRecDepth 100000 in
theorem ch_X11_take : ax_chkH (mt_X11_take, 1507, 127) = true := by decide +kernel
theorem pk_X11_take : ax_MOk mt_prog mt_X11_take := ax_MOk_of ch_X11_take (List.forall_mem_cons.mpr ⟨ct_X11_take_0, List.forall_mem_cons.mpr ⟨ct_X11_take_1, List.forall_mem_cons.mpr ⟨ct_X11_take_2, fun _ h => absurd h List.not_mem_nil⟩⟩⟩)
set_option maxRecDepth 100000 in
theorem ct_X11_isShut_0 : mc_X11_isShut_0.all (ax_chkE mt_prog RX11 "isShut" cX11_isShut) = true := by decide +kernel
set_option maxRecDepth 100000 in
theorem ch_X11_isShut : ax_chkH (mt_X11_isShut, 1483, 127) = true := by decide +kernel
theorem pk_X11_isShut : ax_MOk mt_prog mt_X11_isShut := ax_MOk_of ch_X11_isShut (List.forall_mem_cons.mpr ⟨ct_X11_isShut_0, fun _ h => absurd h List.not_mem_nil⟩)
set_option maxRecDepth 100000 in
theorem ct_X11_could_0 : mc_X11_could_0.all (ax_chkE mt_prog RX11 "could" cX11_could) = true := by decide +kernel
set_option maxRecDepth 100000 in
theorem ct_X11_could_1 : mc_X11_could_1.all (ax_chkE mt_prog RX11 "could" cX11_could) = true := by decide +kernel
set_option maxRecDepth 100000 in
theorem ch_X11_could : ax_chkH (mt_X11_could, 1479, 127) = true := by decide +kernel
theorem pk_X11_could : ax_MOk mt_prog mt_X11_could := ax_MOk_of ch_X11_could (List.forall_mem_cons.mpr ⟨ct_X11_could_0, List.forall_mem_cons.mpr ⟨ct_X11_could_1, fun _ h => absurd h List.not_mem_nil⟩⟩)
set_option maxRecDepth 100000 in
theorem ct_X11_says_0 : mc_X11_says_0.all (ax_chkE mt_prog RX11 "says" cX11_says) = true := by decide +kernel
set_option maxRecDepth 100000 in
theorem ct_X11_says_1 : mc_X11_says_1.all (ax_chkE mt_prog RX11 "says" cX11_says) = true := by decide +kernel
set_option maxRecDepth 100000 in
theorem ct_X11_says_2 : mc_X11_says_2.all (ax_chkE mt_prog RX11 "says" cX11_says) = true := by decide +kernel
set_option maxRecDepth 100000 in
theorem ct_X11_says_3 : mc_X11_says_3.all (ax_chkE mt_prog RX11 "says" cX11_says) = true := by decide +kernel
set_option maxRecDepth 100000 in
theorem ct_X11_says_4 : mc_X11_says_4.all (ax_chkE mt_prog RX11 "says" cX11_says) = true := by decide +kernel
set_option maxRecDepth 100000 in
theorem ch_X11_says : ax_chkH (mt_X11_says, 1516, 127) = true := by decide +kernel
theorem pk_X11_says : ax_MOk mt_prog mt_X11_says := ax_MOk_of ch_X11_says (List.forall_mem_cons.mpr ⟨ct_X11_says_0, List.forall_mem_cons.mpr ⟨ct_X11_says_1, List.forall_mem_cons.mpr ⟨ct_X11_says_2, List.forall_mem_cons.mpr ⟨ct_X11_says_3, List.forall_mem_cons.mpr ⟨ct_X11_says_4, fun _ h => absurd h List.not_mem_nil⟩⟩⟩⟩⟩)
end
section
/-! ===== the tables are checked ===== -/
set_option maxRecDepth 100000 in
theorem ct_X11_sure_0 : mc_X11_sure_0.all (ax_chkE mt_prog RX11 "sure" cX11_sure) = true := by decide +kernel
set_option maxRecDepth 100000 in
theorem ct_X11_sure_1 : mc_X11_sure_1.all (ax_chkE mt_prog RX11 "sure" cX11_sure) = true := by decide +kernel
set_option maxRecDepth 100000 in
theorem ct_X11_sure_2 : mc_X11_sure_2.all (ax_chkE mt_prog RX11 "sure" cX11_sure) = true := by decide +kernel
set_option maxRecDepth 100000 in
theorem ch_X11_sure : ax_chkH (mt_X11_sure, 1522, 127) = true := by decide +kernel
theorem pk_X11_sure : ax_MOk mt_prog mt_X11_sure := ax_MOk_of ch_X11_sure (List.forall_mem_cons.mpr ⟨ct_X11_sure_0, List.forall_mem_cons.mpr ⟨ct_X11_sure_1, List.forall_mem_cons.mpr ⟨ct_X11_sure_2, fun _ h => absurd h List.not_mem_nil⟩⟩⟩)
set_option maxRecDepth 100000 in
theorem ct_X11_isMason_0 : mc_X11_isMason_0.all (ax_chkE mt_prog RX11 "isMason" cX11_isMason) = true := by decide +kernel
set_option maxRecDepth 100000 in
theorem ch_X11_isMason : ax_chkH (mt_X11_isMason, 1529, 127) = true := by decide +kernel
theorem pk_X11_isMason : ax_MOk mt_prog mt_X11_isMason := ax_MOk_of ch_X11_isMason (List.forall_mem_cons.mpr ⟨ct_X11_isMason_0, fun _ h => absurd h List.not_mem_nil⟩)
set_option maxRecDepth 100000 in
theorem ct_X11_note_0 : mc_X11_note_0.all (ax_chkE mt_prog RX11 "note" cX11_note) = true := by decide +kernel
set_option maxRecDepth 100000 in
theorem ct_X11_note_1 : mc_X11_note_1.all (ax_chkE mt_prog RX11 "note" cX11_note) = true := by decide +kernel
set_option maxRecDepth 100000 in
theorem ct_X11_note_2 : mc_X11_note_2.all (ax_chkE mt_prog RX11 "note" cX11_note) = true := by decide +kernel
set_option maxRecDepth 100000 in
theorem ct_X11_note_3 : mc_X11_note_3.all (ax_chkE mt_prog RX11 "note" cX11_note) = true := by decide +kernel
set_option maxRecDepth 100000 in
theorem ch_X11_note : ax_chkH (mt_X11_note, 1526, 127) = true := by decide +kernel
theorem pk_X11_note : ax_MOk mt_prog mt_X11_note := ax_MOk_of ch_X11_note (List.forall_mem_cons.mpr ⟨ct_X11_note_0, List.forall_mem_cons.mpr ⟨ct_X11_note_1, List.forall_mem_cons.mpr ⟨ct_X11_note_2, List.forall_mem_cons.mpr ⟨ct_X11_note_3, fun _ h => absurd h List.not_mem_nil⟩⟩⟩⟩)
set_option maxRecDepth 100000 in
theorem ct_X11_habitOf_0 : mc_X11_habitOf_0.all (ax_chkE mt_prog RX11 "habitOf" cX11_habitOf) = true := by decide +kernel
set_option maxRecDepth 100000 in
theorem ct_X11_habitOf_1 : mc_X11_habitOf_1.all (ax_chkE mt_prog RX11 "habitOf" cX11_habitOf) = true := by decide +kernel
set_option maxRecDepth 100000 in
theorem ct_X11_habitOf_2 : mc_X11_habitOf_2.all (ax_chkE mt_prog RX11 "habitOf" cX11_habitOf) = true := by decide +kernel
set_option maxRecDepth 100000 in
theorem ch_X11_habitOf : ax_chkH (mt_X11_habitOf, 1537, 127) = true := by decide +kernel
theorem pk_X11_habitOf : ax_MOk mt_prog mt_X11_habitOf := ax_MOk_of ch_X11_habitOf (List.forall_mem_cons.mpr ⟨ct_X11_habitOf_0, List.forall_mem_cons.mpr ⟨ct_X11_habitOf_1, List.forall_mem_cons.mpr ⟨ct_X11_habitOf_2, fun _ h => absurd h List.not_mem_nil⟩⟩⟩)
set_option maxRecDepth 100000 in
theorem ct_X11_habit_0 : mc_X11_habit_0.all (ax_chkE mt_prog RX11 "habit" cX11_habit) = true := by decide +kernel
set_option maxRecDepth 100000 in
theorem ch_X11_habit : ax_chkH (mt_X11_habit, 1533, 127) = true := by decide +kernel
theorem pk_X11_habit : ax_MOk mt_prog mt_X11_habit := ax_MOk_of ch_X11_habit (List.forall_mem_cons.mpr ⟨ct_X11_habit_0, fun _ h => absurd h List.not_mem_nil⟩)
set_option maxRecDepth 100000 in
theorem ct_X11_hands_0 : mc_X11_hands_0.all (ax_chkE mt_prog RX11 "hands" cX11_hands) = true := by decide +kernel
set_option maxRecDepth 100000 in
theorem ct_X11_hands_1 : mc_X11_hands_1.all (ax_chkE mt_prog RX11 "hands" cX11_hands) = true := by decide +kernel
set_option maxRecDepth 100000 in
theorem ct_X11_hands_2 : mc_X11_hands_2.all (ax_chkE mt_prog RX11 "hands" cX11_hands) = true := by decide +kernel
set_option maxRecDepth 100000 in
theorem ct_X11_hands_3 : mc_X11_hands_3.all (ax_chkE mt_prog RX11 "hands" cX11_hands) = true := by decide +kernel
set_option maxRecDepth 100000 in
theorem ch_X11_hands : ax_chkH (mt_X11_hands, 1541, 127) = true := by decide +kernel
theorem pk_X11_hands : ax_MOk mt_prog mt_X11_hands := ax_MOk_of ch_X11_hands (List.forall_mem_cons.mpr ⟨ct_X11_hands_0, List.forall_mem_cons.mpr ⟨ct_X11_hands_1, List.forall_mem_cons.mpr ⟨ct_X11_hands_2, List.forall_mem_cons.mpr ⟨ct_X11_hands_3, fun _ h => absurd h List.not_mem_nil⟩⟩⟩⟩)
set_option maxRecDepth 100000 in
theorem ct_X11_line_0 : mc_X11_line_0.all (ax_chkE mt_prog RX11 "line" cX11_line) = true := by decide +kernel
set_option maxRecDepth 100000 in
theorem ct_X11_line_1 : mc_X11_line_1.all (ax_chkE mt_prog RX11 "line" cX11_line) = true := by decide +kernel
set_option maxRecDepth 100000 in
theorem ct_X11_line_2 : mc_X11_line_2.all (ax_chkE mt_prog RX11 "line" cX11_line) = true := by decide +kernel
set_option maxRecDepth 100000 in
theorem ch_X11_line : ax_chkH (mt_X11_line, 1545, 127) = true := by decide +kernel
theorem pk_X11_line : ax_MOk mt_prog mt_X11_line := ax_MOk_of ch_X11_line (List.forall_mem_cons.mpr ⟨ct_X11_line_0, List.forall_mem_cons.mpr ⟨ct_X11_line_1, List.forall_mem_cons.mpr ⟨ct_X11_line_2, fun _ h => absurd h List.not_mem_nil⟩⟩⟩)
set_option maxRecDepth 100000 in
theorem ct_X11_layLine_0 : mc_X11_layLine_0.all (ax_chkE mt_prog RX11 "layLine" cX11_layLine) = true := by decide +kernel
set_option maxRecDepth 100000 in
theorem ct_X11_layLine_1 : mc_X11_layLine_1.all (ax_chkE mt_prog RX11 "layLine" cX11_layLine) = true := by decide +kernel
set_option maxRecDepth 100000 in
theorem ch_X11_layLine : ax_chkH (mt_X11_layLine, 1549, 127) = true := by decide +kernel
theorem pk_X11_layLine : ax_MOk mt_prog mt_X11_layLine := ax_MOk_of ch_X11_layLine (List.forall_mem_cons.mpr ⟨ct_X11_layLine_0, List.forall_mem_cons.mpr ⟨ct_X11_layLine_1, fun _ h => absurd h List.not_mem_nil⟩⟩)
set_option maxRecDepth 100000 in
theorem ct_X11_tear_0 : mc_X11_tear_0.all (ax_chkE mt_prog RX11 "tear" cX11_tear) = true := by decide +kernel
set_option maxRecDepth 100000 in
theorem ch_X11_tear : ax_chkH (mt_X11_tear, 1553, 127) = true := by decide +kernel
theorem pk_X11_tear : ax_MOk mt_prog mt_X11_tear := ax_MOk_of ch_X11_tear (List.forall_mem_cons.mpr ⟨ct_X11_tear_0, fun _ h => absurd h List.not_mem_nil⟩)
set_option maxRecDepth 100000 in
theorem ct_X11_lineWorth_0 : mc_X11_lineWorth_0.all (ax_chkE mt_prog RX11 "lineWorth" cX11_lineWorth) = true := by decide +kernel
set_option maxRecDepth 100000 in
theorem ch_X11_lineWorth : ax_chkH (mt_X11_lineWorth, 1565, 127) = true := by decide +kernel
theorem pk_X11_lineWorth : ax_MOk mt_prog mt_X11_lineWorth := ax_MOk_of ch_X11_lineWorth (List.forall_mem_cons.mpr ⟨ct_X11_lineWorth_0, fun _ h => absurd h List.not_mem_nil⟩)
set_option maxRecDepth 100000 in
theorem ct_X11_ahead_0 : mc_X11_ahead_0.all (ax_chkE mt_prog RX11 "ahead" cX11_ahead) = true := by decide +kernel
set_option maxRecDepth 100000 in
theorem ch_X11_ahead : ax_chkH (mt_X11_ahead, 1569, 127) = true := by decide +kernel
theorem pk_X11_ahead : ax_MOk mt_prog mt_X11_ahead := ax_MOk_of ch_X11_ahead (List.forall_mem_cons.mpr ⟨ct_X11_ahead_0, fun _ h => absurd h List.not_mem_nil⟩)
set_option maxRecDepth 100000 in
theorem ct_X11_wrongAt_0 : mc_X11_wrongAt_0.all (ax_chkE mt_prog RX11 "wrongAt" cX11_wrongAt) = true := by decide +kernel
set_option maxRecDepth 100000 in
theorem ct_X11_wrongAt_1 : mc_X11_wrongAt_1.all (ax_chkE mt_prog RX11 "wrongAt" cX11_wrongAt) = true := by decide +kernel
set_option maxRecDepth 100000 in
theorem ch_X11_wrongAt : ax_chkH (mt_X11_wrongAt, 1561, 127) = true := by decide +kernel
theorem pk_X11_wrongAt : ax_MOk mt_prog mt_X11_wrongAt := ax_MOk_of ch_X11_wrongAt (List.forall_mem_cons.mpr ⟨ct_X11_wrongAt_0, List.forall_mem_cons.mpr ⟨ct_X11_wrongAt_1, fun _ h => absurd h List.not_mem_nil⟩⟩)
set_option maxRecDepth 100000 in
theorem ct_X11_wrong_0 : mc_X11_wrong_0.all (ax_chkE mt_prog RX11 "wrong" cX11_wrong) = true := by decide +kernel
set_option maxRecDepth 100000 in
theorem ch_X11_wrong : ax_chkH (mt_X11_wrong, 1557, 127) = true := by decide +kernel
theorem pk_X11_wrong : ax_MOk mt_prog mt_X11_wrong := ax_MOk_of ch_X11_wrong (List.forall_mem_cons.mpr ⟨ct_X11_wrong_0, fun _ h => absurd h List.not_mem_nil⟩)
set_option maxRecDepth 100000 in
theorem ct_X11_mended_0 : mc_X11_mended_0.all (ax_chkE mt_prog RX11 "mended" cX11_mended) = true := by decide +kernel
set_option maxRecDepth 100000 in
theorem ct_X11_mended_1 : mc_X11_mended_1.all (ax_chkE mt_prog RX11 "mended" cX11_mended) = true := by decide +kernel
set_option maxRecDepth 100000 in
theorem ch_X11_mended : ax_chkH (mt_X11_mended, 1573, 127) = true := by decide +kernel
theorem pk_X11_mended : ax_MOk mt_prog mt_X11_mended := ax_MOk_of ch_X11_mended (List.forall_mem_cons.mpr ⟨ct_X11_mended_0, List.forall_mem_cons.mpr ⟨ct_X11_mended_1, fun _ h => absurd h List.not_mem_nil⟩⟩)
set_option maxRecDepth 100000 in
theorem ct_X11_putRight_0 : mc_X11_putRight_0.all (ax_chkE mt_prog RX11 "putRight" cX11_putRight) = true := by decide +kernel
set_option maxRecDepth 100000 in
theorem ct_X11_putRight_1 : mc_X11_putRight_1.all (ax_chkE mt_prog RX11 "putRight" cX11_putRight) = true := by decide +kernel
set_option maxRecDepth 100000 in
theorem ct_X11_putRight_2 : mc_X11_putRight_2.all (ax_chkE mt_prog RX11 "putRight" cX11_putRight) = true := by decide +kernel
set_option maxRecDepth 100000 in
theorem ch_X11_putRight : ax_chkH (mt_X11_putRight, 1589, 127) = true := by decide +kernel
theorem pk_X11_putRight : ax_MOk mt_prog mt_X11_putRight := ax_MOk_of ch_X11_putRight (List.forall_mem_cons.mpr ⟨ct_X11_putRight_0, List.forall_mem_cons.mpr ⟨ct_X11_putRight_1, List.forall_mem_cons.mpr ⟨ct_X11_putRight_2, fun _ h => absurd h List.not_mem_nil⟩⟩⟩)
end
section
/-! ===== the tables are checked ===== -/
set_option maxRecDepth 100000 in
theorem ct_X11_isBy_0 : mc_X11_isBy_0.all (ax_chkE mt_prog RX11 "isBy" cX11_isBy) = true := by decide +kernel
set_option maxRecDepth 100000 in
theorem ct_X11_isBy_1 : mc_X11_isBy_1.all (ax_chkE mt_prog RX11 "isBy" cX11_isBy) = true := by decide +kernel
set_option maxRecDepth 100000 in
theorem ct_X11_isBy_2 : mc_X11_isBy_2.all (ax_chkE mt_prog RX11 "isBy" cX11_isBy) = true := by decide +kernel
set_option maxRecDepth 100000 in
theorem ct_X11_isBy_3 : mc_X11_isBy_3.all (ax_chkE mt_prog RX11 "isBy" cX11_isBy) = true := by decide +kernel
set_option maxRecDepth 100000 in
theorem ch_X11_isBy : ax_chkH (mt_X11_isBy, 1585, 127) = true := by decide +kernel
theorem pk_X11_isBy : ax_MOk mt_prog mt_X11_isBy := ax_MOk_of ch_X11_isBy (List.forall_mem_cons.mpr ⟨ct_X11_isBy_0, List.forall_mem_cons.mpr ⟨ct_X11_isBy_1, List.forall_mem_cons.mpr ⟨ct_X11_isBy_2, List.forall_mem_cons.mpr ⟨ct_X11_isBy_3, fun _ h => absurd h List.not_mem_nil⟩⟩⟩⟩)
set_option maxRecDepth 100000 in
theorem ct_X11_seekSlip_0 : mc_X11_seekSlip_0.all (ax_chkE mt_prog RX11 "seekSlip" cX11_seekSlip) = true := by decide +kernel
set_option maxRecDepth 100000 in
theorem ct_X11_seekSlip_1 : mc_X11_seekSlip_1.all (ax_chkE mt_prog RX11 "seekSlip" cX11_seekSlip) = true := by decide +kernel
set_option maxRecDepth 100000 in
theorem ct_X11_seekSlip_2 : mc_X11_seekSlip_2.all (ax_chkE mt_prog RX11 "seekSlip" cX11_seekSlip) = true := by decide +kernel
set_option maxRecDepth 100000 in
theorem ct_X11_seekSlip_3 : mc_X11_seekSlip_3.all (ax_chkE mt_prog RX11 "seekSlip" cX11_seekSlip) = true := by decide +kernel
set_option maxRecDepth 100000 in
theorem ct_X11_seekSlip_4 : mc_X11_seekSlip_4.all (ax_chkE mt_prog RX11 "seekSlip" cX11_seekSlip) = true := by decide +kernel
set_option maxRecDepth 100000 in
theorem ct_X11_seekSlip_5 : mc_X11_seekSlip_5.all (ax_chkE mt_prog RX11 "seekSlip" cX11_seekSlip) = true := by decide +kernel
set_option maxRecDepth 100000 in
theorem ct_X11_seekSlip_6 : mc_X11_seekSlip_6.all (ax_chkE mt_prog RX11 "seekSlip" cX11_seekSlip) = true := by decide +kernel
set_option maxRecDepth 100000 in
theorem ch_X11_seekSlip : ax_chkH (mt_X11_seekSlip, 1581, 127) = true := by decide +kernel
theorem pk_X11_seekSlip : ax_MOk mt_prog mt_X11_seekSlip := ax_MOk_of ch_X11_seekSlip (List.forall_mem_cons.mpr ⟨ct_X11_seekSlip_0, List.forall_mem_cons.mpr ⟨ct_X11_seekSlip_1, List.forall_mem_cons.mpr ⟨ct_X11_seekSlip_2, List.forall_mem_cons.mpr ⟨ct_X11_seekSlip_3, List.forall_mem_cons.mpr ⟨ct_X11_seekSlip_4, List.forall_mem_cons.mpr ⟨ct_X11_seekSlip_5, List.forall_mem_cons.mpr ⟨ct_X11_seekSlip_6, fun _ h => absurd h List.not_mem_nil⟩⟩⟩⟩⟩⟩⟩)
set_option maxRecDepth 100000 in
theorem ct_X11_slip_0 : mc_X11_slip_0.all (ax_chkE mt_prog RX11 "slip" cX11_slip) = true := by decide +kernel
set_option maxRecDepth 100000 in
theorem ct_X11_slip_1 : mc_X11_slip_1.all (ax_chkE mt_prog RX11 "slip" cX11_slip) = true := by decide +kernel
set_option maxRecDepth 100000 in
theorem ch_X11_slip : ax_chkH (mt_X11_slip, 1577, 127) = true := by decide +kernel
theorem pk_X11_slip : ax_MOk mt_prog mt_X11_slip := ax_MOk_of ch_X11_slip (List.forall_mem_cons.mpr ⟨ct_X11_slip_0, List.forall_mem_cons.mpr ⟨ct_X11_slip_1, fun _ h => absurd h List.not_mem_nil⟩⟩)
set_option maxRecDepth 100000 in
theorem ct_X11_count_0 : mc_X11_count_0.all (ax_chkE mt_prog RX11 "count" cX11_count) = true := by decide +kernel
set_option maxRecDepth 100000 in
theorem ct_X11_count_1 : mc_X11_count_1.all (ax_chkE mt_prog RX11 "count" cX11_count) = true := by decide +kernel
set_option maxRecDepth 100000 in
theorem ct_X11_count_2 : mc_X11_count_2.all (ax_chkE mt_prog RX11 "count" cX11_count) = true := by decide +kernel
set_option maxRecDepth 100000 in
theorem ch_X11_count : ax_chkH (mt_X11_count, 1593, 127) = true := by decide +kernel
theorem pk_X11_count : ax_MOk mt_prog mt_X11_count := ax_MOk_of ch_X11_count (List.forall_mem_cons.mpr ⟨ct_X11_count_0, List.forall_mem_cons.mpr ⟨ct_X11_count_1, List.forall_mem_cons.mpr ⟨ct_X11_count_2, fun _ h => absurd h List.not_mem_nil⟩⟩⟩)
set_option maxRecDepth 100000 in
theorem ct_X11_mix_0 : mc_X11_mix_0.all (ax_chkE mt_prog RX11 "mix" cX11_mix) = true := by decide +kernel
set_option maxRecDepth 100000 in
theorem ch_X11_mix : ax_chkH (mt_X11_mix, 1602, 127) = true := by decide +kernel
theorem pk_X11_mix : ax_MOk mt_prog mt_X11_mix := ax_MOk_of ch_X11_mix (List.forall_mem_cons.mpr ⟨ct_X11_mix_0, fun _ h => absurd h List.not_mem_nil⟩)
set_option maxRecDepth 100000 in
theorem ct_X11_mixCustoms_0 : mc_X11_mixCustoms_0.all (ax_chkE mt_prog RX11 "mixCustoms" cX11_mixCustoms) = true := by decide +kernel
set_option maxRecDepth 100000 in
theorem ct_X11_mixCustoms_1 : mc_X11_mixCustoms_1.all (ax_chkE mt_prog RX11 "mixCustoms" cX11_mixCustoms) = true := by decide +kernel
set_option maxRecDepth 100000 in
theorem ch_X11_mixCustoms : ax_chkH (mt_X11_mixCustoms, 1607, 127) = true := by decide +kernel
theorem pk_X11_mixCustoms : ax_MOk mt_prog mt_X11_mixCustoms := ax_MOk_of ch_X11_mixCustoms (List.forall_mem_cons.mpr ⟨ct_X11_mixCustoms_0, List.forall_mem_cons.mpr ⟨ct_X11_mixCustoms_1, fun _ h => absurd h List.not_mem_nil⟩⟩)
set_option maxRecDepth 100000 in
theorem ct_X11_digest_0 : mc_X11_digest_0.all (ax_chkE mt_prog RX11 "digest" cX11_digest) = true := by decide +kernel
set_option maxRecDepth 100000 in
theorem ct_X11_digest_1 : mc_X11_digest_1.all (ax_chkE mt_prog RX11 "digest" cX11_digest) = true := by decide +kernel
set_option maxRecDepth 100000 in
theorem ct_X11_digest_2 : mc_X11_digest_2.all (ax_chkE mt_prog RX11 "digest" cX11_digest) = true := by decide +kernel
set_option maxRecDepth 100000 in
theorem ct_X11_digest_3 : mc_X11_digest_3.all (ax_chkE mt_prog RX11 "digest" cX11_digest) = true := by decide +kernel
set_option maxRecDepth 100000 in
theorem ct_X11_digest_4 : mc_X11_digest_4.all (ax_chkE mt_prog RX11 "digest" cX11_digest) = true := by decide +kernel
set_option maxRecDepth 100000 in
theorem ct_X11_digest_5 : mc_X11_digest_5.all (ax_chkE mt_prog RX11 "digest" cX11_digest) = true := by decide +kernel
set_option maxRecDepth 100000 in
theorem ct_X11_digest_6 : mc_X11_digest_6.all (ax_chkE mt_prog RX11 "digest" cX11_digest) = true := by decide +kernel
set_option maxRecDepth 100000 in
theorem ct_X11_digest_7 : mc_X11_digest_7.all (ax_chkE mt_prog RX11 "digest" cX11_digest) = true := by decide +kernel
set_option maxRecDepth 100000 in
theorem ct_X11_digest_8 : mc_X11_digest_8.all (ax_chkE mt_prog RX11 "digest" cX11_digest) = true := by decide +kernel
set_option maxRecDepth 100000 in
theorem ch_X11_digest : ax_chkH (mt_X11_digest, 1597, 127) = true := by decide +kernel
theorem pk_X11_digest : ax_MOk mt_prog mt_X11_digest := ax_MOk_of ch_X11_digest (List.forall_mem_cons.mpr ⟨ct_X11_digest_0, List.forall_mem_cons.mpr ⟨ct_X11_digest_1, List.forall_mem_cons.mpr ⟨ct_X11_digest_2, List.forall_mem_cons.mpr ⟨ct_X11_digest_3, List.forall_mem_cons.mpr ⟨ct_X11_digest_4, List.forall_mem_cons.mpr ⟨ct_X11_digest_5, List.forall_mem_cons.mpr ⟨ct_X11_digest_6, List.forall_mem_cons.mpr ⟨ct_X11_digest_7, List.forall_mem_cons.mpr ⟨ct_X11_digest_8, fun _ h => absurd h List.not_mem_nil⟩⟩⟩⟩⟩⟩⟩⟩⟩)
end
section
/-! ===== the tables are checked: all ===== -/
set_option maxRecDepth 100000 in
theorem mt_ok : ax_Prog mt_prog := List.forall_mem_cons.mpr ⟨pk_X0_init, List.forall_mem_cons.mpr ⟨pk_X0_hasColumns, List.forall_mem_cons.mpr ⟨pk_X0_addRow, List.forall_mem_cons.mpr ⟨pk_X0_acceptMore, List.forall_mem_cons.mpr ⟨pk_X0_pebbles, List.forall_mem_cons.mpr ⟨pk_X0_total, List.forall_mem_cons.mpr ⟨pk_X0_clear, List.forall_mem_cons.mpr ⟨pk_X0_hasBundle, List.forall_mem_cons.mpr ⟨pk_X0_tieUp, List.forall_mem_cons.mpr ⟨pk_X0_untie, List.forall_mem_cons.mpr ⟨pk_X0_settleAll, List.forall_mem_cons.mpr ⟨pk_X0_nextStep, List.forall_mem_cons.mpr ⟨pk_X0_leastOwed, List.forall_mem_cons.mpr ⟨pk_X0_carryOut, List.forall_mem_cons.mpr ⟨pk_X0_canBeLifted, List.forall_mem_cons.mpr ⟨pk_X0_copyGiven, List.forall_mem_cons.mpr ⟨pk_X0_digestOn, List.forall_mem_cons.mpr ⟨pk_X1_init, List.forall_mem_cons.mpr ⟨pk_X1_allows, List.forall_mem_cons.mpr ⟨pk_X1_goodSigns, List.forall_mem_cons.mpr ⟨pk_X1_after, List.forall_mem_cons.mpr ⟨pk_X1_isWhole, List.forall_mem_cons.mpr ⟨pk_X1_leaveOpen, List.forall_mem_cons.mpr ⟨pk_X1_closePlain, List.forall_mem_cons.mpr ⟨pk_X1_closeTaking, List.forall_mem_cons.mpr ⟨pk_X1_mayTakeOnce, List.forall_mem_cons.mpr ⟨pk_X1_mayTakeTwice, List.forall_mem_cons.mpr ⟨pk_X1_standingOf, List.forall_mem_cons.mpr ⟨pk_X1_belowIn, List.forall_mem_cons.mpr ⟨pk_X1_signIn, List.forall_mem_cons.mpr ⟨pk_X1_openIn, List.forall_mem_cons.mpr ⟨pk_X1_digestOn, List.forall_mem_cons.mpr ⟨pk_X2_init, List.forall_mem_cons.mpr ⟨pk_X2_append, List.forall_mem_cons.mpr ⟨pk_X2_clear, List.forall_mem_cons.mpr ⟨pk_X2_totalAhead, List.forall_mem_cons.mpr ⟨pk_X2_firstWrong, List.forall_mem_cons.mpr ⟨pk_X2_firstMended, List.forall_mem_cons.mpr ⟨pk_X2_findSlip, List.forall_mem_cons.mpr ⟨pk_X2_canBecome, List.forall_mem_cons.mpr ⟨pk_X2_withOneMore, List.forall_mem_cons.mpr ⟨pk_X2_withOneLess, List.forall_mem_cons.mpr ⟨pk_X2_withOneOther, List.forall_mem_cons.mpr ⟨pk_X2_anySignFits, List.forall_mem_cons.mpr ⟨pk_X2_foundSlip, List.forall_mem_cons.mpr ⟨pk_X2_digestOn, List.forall_mem_cons.mpr ⟨pk_X3_init, List.forall_mem_cons.mpr ⟨pk_X3_remember, List.forall_mem_cons.mpr ⟨pk_X3_meet, List.forall_mem_cons.mpr ⟨pk_X4_init, List.forall_mem_cons.mpr ⟨pk_X4_codeAt, List.forall_mem_cons.mpr ⟨pk_X4_lettersIn, List.forall_mem_cons.mpr ⟨pk_X4_append, List.forall_mem_cons.mpr ⟨pk_X4_isRowOfSigns, List.forall_mem_cons.mpr ⟨pk_X4_copySigns, List.forall_mem_cons.mpr ⟨pk_X4_digestOn, List.forall_mem_cons.mpr ⟨pk_X5_init, List.forall_mem_cons.mpr ⟨pk_X5_copy, List.forall_mem_cons.mpr ⟨pk_X5_put, List.forall_mem_cons.mpr ⟨pk_X5_isTaken, List.forall_mem_cons.mpr ⟨pk_X5_total, List.forall_mem_cons.mpr ⟨pk_X5_digestOn, List.forall_mem_cons.mpr ⟨pk_X6_goodLetters, List.forall_mem_cons.mpr ⟨pk_X6_isWhole, List.forall_mem_cons.mpr ⟨pk_X6_read, List.forall_mem_cons.mpr ⟨pk_X6_keep, List.forall_mem_cons.mpr ⟨pk_X6_endsRule, List.forall_mem_cons.mpr ⟨pk_X6_after, List.forall_mem_cons.mpr ⟨pk_X6_behindMark, List.forall_mem_cons.mpr ⟨pk_X6_behindSign, List.forall_mem_cons.mpr ⟨pk_X6_outweighs, List.forall_mem_cons.mpr ⟨pk_X6_at, List.forall_mem_cons.mpr ⟨pk_X7_init, List.forall_mem_cons.mpr ⟨pk_X7_placesOn, List.forall_mem_cons.mpr ⟨pk_X7_isStone, List.forall_mem_cons.mpr ⟨pk_X7_carve, List.forall_mem_cons.mpr ⟨pk_X7_fillBy, List.forall_mem_cons.mpr ⟨pk_X7_makeRoom, List.forall_mem_cons.mpr ⟨pk_X7_fillFrom, List.forall_mem_cons.mpr ⟨pk_X7_keepFilling, List.forall_mem_cons.mpr ⟨pk_X7_sortWorths, List.forall_mem_cons.mpr ⟨pk_X7_dropLikeWorths, List.forall_mem_cons.mpr ⟨pk_X7_digestOn, List.forall_mem_cons.mpr ⟨pk_X8_init, List.forall_mem_cons.mpr ⟨pk_X8_startOf, List.forall_mem_cons.mpr ⟨pk_X8_startFor, List.forall_mem_cons.mpr ⟨pk_X8_clearAt, List.forall_mem_cons.mpr ⟨pk_X8_addAt, List.forall_mem_cons.mpr ⟨pk_X8_exactly, List.forall_mem_cons.mpr ⟨pk_X8_atMost, List.forall_mem_cons.mpr ⟨pk_X9_init, List.forall_mem_cons.mpr ⟨pk_X9_prepare, List.forall_mem_cons.mpr ⟨pk_X9_countTakings, List.forall_mem_cons.mpr ⟨pk_X9_countPlain, List.forall_mem_cons.mpr ⟨pk_X9_inAll, List.forall_mem_cons.mpr ⟨pk_X9_findByOrder, List.forall_mem_cons.mpr ⟨pk_X9_findShortest, List.forall_mem_cons.mpr ⟨pk_X9_walk, List.forall_mem_cons.mpr ⟨pk_X9_choosePlain, List.forall_mem_cons.mpr ⟨pk_X9_chooseTaking, List.forall_mem_cons.mpr ⟨pk_X9_goes, List.forall_mem_cons.mpr ⟨pk_X10_init, List.forall_mem_cons.mpr ⟨pk_X10_letters, List.forall_mem_cons.mpr ⟨pk_X10_blank, List.forall_mem_cons.mpr ⟨pk_X10_good, List.forall_mem_cons.mpr ⟨pk_X10_custom, List.forall_mem_cons.mpr ⟨pk_X10_asks, List.forall_mem_cons.mpr ⟨pk_X10_row, List.forall_mem_cons.mpr ⟨pk_X10_sign, List.forall_mem_cons.mpr ⟨pk_X10_worth, List.forall_mem_cons.mpr ⟨pk_X10_keeps, List.forall_mem_cons.mpr ⟨pk_X10_begins, List.forall_mem_cons.mpr ⟨pk_X10_ways, List.forall_mem_cons.mpr ⟨pk_X10_write, List.forall_mem_cons.mpr ⟨pk_X10_board, List.forall_mem_cons.mpr ⟨pk_X10_pour, List.forall_mem_cons.mpr ⟨pk_X10_bundle, List.forall_mem_cons.mpr ⟨pk_X10_unbundle, List.forall_mem_cons.mpr ⟨pk_X10_settle, List.forall_mem_cons.mpr ⟨pk_X10_step, List.forall_mem_cons.mpr ⟨pk_X10_holds, List.forall_mem_cons.mpr ⟨pk_X10_lift, List.forall_mem_cons.mpr ⟨pk_X10_sweep, List.forall_mem_cons.mpr ⟨pk_X10_times, List.forall_mem_cons.mpr ⟨pk_X10_parts, List.forall_mem_cons.mpr ⟨pk_X10_stone, List.forall_mem_cons.mpr ⟨pk_X10_could, List.forall_mem_cons.mpr ⟨pk_X10_says, List.forall_mem_cons.mpr ⟨pk_X10_sure, List.forall_mem_cons.mpr ⟨pk_X10_note, List.forall_mem_cons.mpr ⟨pk_X10_habit, List.forall_mem_cons.mpr ⟨pk_X10_hands, List.forall_mem_cons.mpr ⟨pk_X10_line, List.forall_mem_cons.mpr ⟨pk_X10_tear, List.forall_mem_cons.mpr ⟨pk_X10_wrong, List.forall_mem_cons.mpr ⟨pk_X10_mended, List.forall_mem_cons.mpr ⟨pk_X10_slip, List.forall_mem_cons.mpr ⟨pk_X10_count, List.forall_mem_cons.mpr ⟨pk_X10_digest, List.forall_mem_cons.mpr ⟨pk_X10_mix, List.forall_mem_cons.mpr ⟨pk_X10_isRow, List.forall_mem_cons.mpr ⟨pk_X10_isMason, List.forall_mem_cons.mpr ⟨pk_X10_isNumber, List.forall_mem_cons.mpr ⟨pk_X10_isCustom, List.forall_mem_cons.mpr ⟨pk_X10_customsAllowing, List.forall_mem_cons.mpr ⟨pk_X10_readStone, List.forall_mem_cons.mpr ⟨pk_X10_halvings, List.forall_mem_cons.mpr ⟨pk_X10_product, List.forall_mem_cons.mpr ⟨pk_X10_doublings, List.forall_mem_cons.mpr ⟨pk_X10_linesTaken, List.forall_mem_cons.mpr ⟨pk_X10_signOf, List.forall_mem_cons.mpr ⟨pk_X11_init, List.forall_mem_cons.mpr ⟨pk_X11_in, List.forall_mem_cons.mpr ⟨pk_X11_letters, List.forall_mem_cons.mpr ⟨pk_X11_blank, List.forall_mem_cons.mpr ⟨pk_X11_signOf, List.forall_mem_cons.mpr ⟨pk_X11_readCustom, List.forall_mem_cons.mpr ⟨pk_X11_isMore, List.forall_mem_cons.mpr ⟨pk_X11_good, List.forall_mem_cons.mpr ⟨pk_X11_custom, List.forall_mem_cons.mpr ⟨pk_X11_isCustom, List.forall_mem_cons.mpr ⟨pk_X11_asks, List.forall_mem_cons.mpr ⟨pk_X11_isRow, List.forall_mem_cons.mpr ⟨pk_X11_row, List.forall_mem_cons.mpr ⟨pk_X11_sign, List.forall_mem_cons.mpr ⟨pk_X11_isTaken, List.forall_mem_cons.mpr ⟨pk_X11_worthOf, List.forall_mem_cons.mpr ⟨pk_X11_worth, List.forall_mem_cons.mpr ⟨pk_X11_keepsAll, List.forall_mem_cons.mpr ⟨pk_X11_mayTake, List.forall_mem_cons.mpr ⟨pk_X11_mayBegin, List.forall_mem_cons.mpr ⟨pk_X11_keeps, List.forall_mem_cons.mpr ⟨pk_X11_begins, List.forall_mem_cons.mpr ⟨pk_X11_shared, List.forall_mem_cons.mpr ⟨pk_X11_bound, List.forall_mem_cons.mpr ⟨pk_X11_mayCome, List.forall_mem_cons.mpr ⟨pk_X11_signsOf, List.forall_mem_cons.mpr ⟨pk_X11_worthBy, List.forall_mem_cons.mpr ⟨pk_X11_isAllowed, List.forall_mem_cons.mpr ⟨pk_X11_nextWay, List.forall_mem_cons.mpr ⟨pk_X11_seek, List.forall_mem_cons.mpr ⟨pk_X11_down, List.forall_mem_cons.mpr ⟨pk_X11_open, List.forall_mem_cons.mpr ⟨pk_X11_noteOne, List.forall_mem_cons.mpr ⟨pk_X11_layRow, List.forall_mem_cons.mpr ⟨pk_X11_ways, List.forall_mem_cons.mpr ⟨pk_X11_write, List.forall_mem_cons.mpr ⟨pk_X11_board, List.forall_mem_cons.mpr ⟨pk_X11_onBoard, List.forall_mem_cons.mpr ⟨pk_X11_pour, List.forall_mem_cons.mpr ⟨pk_X11_poured, List.forall_mem_cons.mpr ⟨pk_X11_bundleOf, List.forall_mem_cons.mpr ⟨pk_X11_bundle, List.forall_mem_cons.mpr ⟨pk_X11_unbundle, List.forall_mem_cons.mpr ⟨pk_X11_firstStep, List.forall_mem_cons.mpr ⟨pk_X11_doStep, List.forall_mem_cons.mpr ⟨pk_X11_settle, List.forall_mem_cons.mpr ⟨pk_X11_step, List.forall_mem_cons.mpr ⟨pk_X11_holds, List.forall_mem_cons.mpr ⟨pk_X11_lift, List.forall_mem_cons.mpr ⟨pk_X11_sweep, List.forall_mem_cons.mpr ⟨pk_X11_times, List.forall_mem_cons.mpr ⟨pk_X11_parts, List.forall_mem_cons.mpr ⟨pk_X11_stone, List.forall_mem_cons.mpr ⟨pk_X11_say, List.forall_mem_cons.mpr ⟨pk_X11_fillAll, List.forall_mem_cons.mpr ⟨pk_X11_fillTo, List.forall_mem_cons.mpr ⟨pk_X11_isOpen, List.forall_mem_cons.mpr ⟨pk_X11_first, List.forall_mem_cons.mpr ⟨pk_X11_after, List.forall_mem_cons.mpr ⟨pk_X11_take, List.forall_mem_cons.mpr ⟨pk_X11_isShut, List.forall_mem_cons.mpr ⟨pk_X11_could, List.forall_mem_cons.mpr ⟨pk_X11_says, List.forall_mem_cons.mpr ⟨pk_X11_sure, List.forall_mem_cons.mpr ⟨pk_X11_isMason, List.forall_mem_cons.mpr ⟨pk_X11_note, List.forall_mem_cons.mpr ⟨pk_X11_habitOf, List.forall_mem_cons.mpr ⟨pk_X11_habit, List.forall_mem_cons.mpr ⟨pk_X11_hands, List.forall_mem_cons.mpr ⟨pk_X11_line, List.forall_mem_cons.mpr ⟨pk_X11_layLine, List.forall_mem_cons.mpr ⟨pk_X11_tear, List.forall_mem_cons.mpr ⟨pk_X11_lineWorth, List.forall_mem_cons.mpr ⟨pk_X11_ahead, List.forall_mem_cons.mpr ⟨pk_X11_wrongAt, List.forall_mem_cons.mpr ⟨pk_X11_wrong, List.forall_mem_cons.mpr ⟨pk_X11_mended, List.forall_mem_cons.mpr ⟨pk_X11_putRight, List.forall_mem_cons.mpr ⟨pk_X11_isBy, List.forall_mem_cons.mpr ⟨pk_X11_seekSlip, List.forall_mem_cons.mpr ⟨pk_X11_slip, List.forall_mem_cons.mpr ⟨pk_X11_count, List.forall_mem_cons.mpr ⟨pk_X11_mix, List.forall_mem_cons.mpr ⟨pk_X11_mixCustoms, List.forall_mem_cons.mpr ⟨pk_X11_digest, fun _ h => absurd h List.not_mem_nil⟩⟩⟩⟩⟩⟩⟩⟩⟩⟩⟩⟩⟩⟩⟩⟩⟩⟩⟩⟩⟩⟩⟩⟩⟩⟩⟩⟩⟩⟩⟩⟩⟩⟩⟩⟩⟩⟩⟩⟩⟩⟩⟩⟩⟩⟩⟩⟩⟩⟩⟩⟩⟩⟩⟩⟩⟩⟩⟩⟩⟩⟩⟩⟩⟩⟩⟩⟩⟩⟩⟩⟩⟩⟩⟩⟩⟩⟩⟩⟩⟩⟩⟩⟩⟩⟩⟩⟩⟩⟩⟩⟩⟩⟩⟩⟩⟩⟩⟩⟩⟩⟩⟩⟩⟩⟩⟩⟩⟩⟩⟩⟩⟩⟩⟩⟩⟩⟩⟩⟩⟩⟩⟩⟩⟩⟩⟩⟩⟩⟩⟩⟩⟩⟩⟩⟩⟩⟩⟩⟩⟩⟩⟩⟩⟩⟩⟩⟩⟩⟩⟩⟩⟩⟩⟩⟩⟩⟩⟩⟩⟩⟩⟩⟩⟩⟩⟩⟩⟩⟩⟩⟩⟩⟩⟩⟩⟩⟩⟩⟩⟩⟩⟩⟩⟩⟩⟩⟩⟩⟩⟩⟩⟩⟩⟩⟩⟩⟩⟩⟩⟩⟩⟩⟩⟩⟩⟩⟩⟩⟩⟩⟩⟩⟩⟩⟩⟩⟩⟩⟩⟩⟩⟩⟩⟩⟩⟩⟩⟩⟩⟩⟩⟩⟩⟩⟩
theorem mi_X0_init : mt_prog[0]? = some mt_X0_init := rfl
theorem mi_X0_hasColumns : mt_prog[1]? = some mt_X0_hasColumns := rfl
theorem mi_X0_addRow : mt_prog[2]? = some mt_X0_addRow := rfl
theorem mi_X0_acceptMore : mt_prog[3]? = some mt_X0_acceptMore := rfl
theorem mi_X0_pebbles : mt_prog[4]? = some mt_X0_pebbles := rfl
theorem mi_X0_total : mt_prog[5]? = some mt_X0_total := rfl
theorem mi_X0_clear : mt_prog[6]? = some mt_X0_clear := rfl
theorem mi_X0_hasBundle : mt_prog[7]? = some mt_X0_hasBundle := rfl
theorem mi_X0_tieUp : mt_prog[8]? = some mt_X0_tieUp := rfl
theorem mi_X0_untie : mt_prog[9]? = some mt_X0_untie := rfl
theorem mi_X0_settleAll : mt_prog[10]? = some mt_X0_settleAll := rfl
theorem mi_X0_nextStep : mt_prog[11]? = some mt_X0_nextStep := rfl
theorem mi_X0_leastOwed : mt_prog[12]? = some mt_X0_leastOwed := rfl
theorem mi_X0_carryOut : mt_prog[13]? = some mt_X0_carryOut := rfl
theorem mi_X0_canBeLifted : mt_prog[14]? = some mt_X0_canBeLifted := rfl
theorem mi_X0_copyGiven : mt_prog[15]? = some mt_X0_copyGiven := rfl
theorem mi_X0_digestOn : mt_prog[16]? = some mt_X0_digestOn := rfl
theorem mi_X1_init : mt_prog[17]? = some mt_X1_init := rfl
theorem mi_X1_allows : mt_prog[18]? = some mt_X1_allows := rfl
theorem mi_X1_goodSigns : mt_prog[19]? = some mt_X1_goodSigns := rfl
theorem mi_X1_after : mt_prog[20]? = some mt_X1_after := rfl
theorem mi_X1_isWhole : mt_prog[21]? = some mt_X1_isWhole := rfl
theorem mi_X1_leaveOpen : mt_prog[22]? = some mt_X1_leaveOpen := rfl
theorem mi_X1_closePlain : mt_prog[23]? = some mt_X1_closePlain := rfl
theorem mi_X1_closeTaking : mt_prog[24]? = some mt_X1_closeTaking := rfl
theorem mi_X1_mayTakeOnce : mt_prog[25]? = some mt_X1_mayTakeOnce := rfl
theorem mi_X1_mayTakeTwice : mt_prog[26]? = some mt_X1_mayTakeTwice := rfl
theorem mi_X1_standingOf : mt_prog[27]? = some mt_X1_standingOf := rfl
theorem mi_X1_belowIn : mt_prog[28]? = some mt_X1_belowIn := rfl
theorem mi_X1_signIn : mt_prog[29]? = some mt_X1_signIn := rfl
theorem mi_X1_openIn : mt_prog[30]? = some mt_X1_openIn := rfl
theorem mi_X1_digestOn : mt_prog[31]? = some mt_X1_digestOn := rfl
theorem mi_X2_init : mt_prog[32]? = some mt_X2_init := rfl
theorem mi_X2_append : mt_prog[33]? = some mt_X2_append := rfl
theorem mi_X2_clear : mt_prog[34]? = some mt_X2_clear := rfl
theorem mi_X2_totalAhead : mt_prog[35]? = some mt_X2_totalAhead := rfl
theorem mi_X2_firstWrong : mt_prog[36]? = some mt_X2_firstWrong := rfl
theorem mi_X2_firstMended : mt_prog[37]? = some mt_X2_firstMended := rfl
theorem mi_X2_findSlip : mt_prog[38]? = some mt_X2_findSlip := rfl
theorem mi_X2_canBecome : mt_prog[39]? = some mt_X2_canBecome := rfl
theorem mi_X2_withOneMore : mt_prog[40]? = some mt_X2_withOneMore := rfl
theorem mi_X2_withOneLess : mt_prog[41]? = some mt_X2_withOneLess := rfl
theorem mi_X2_withOneOther : mt_prog[42]? = some mt_X2_withOneOther := rfl
theorem mi_X2_anySignFits : mt_prog[43]? = some mt_X2_anySignFits := rfl
theorem mi_X2_foundSlip : mt_prog[44]? = some mt_X2_foundSlip := rfl
theorem mi_X2_digestOn : mt_prog[45]? = some mt_X2_digestOn := rfl
theorem mi_X3_init : mt_prog[46]? = some mt_X3_init := rfl
theorem mi_X3_remember : mt_prog[47]? = some mt_X3_remember := rfl
theorem mi_X3_meet : mt_prog[48]? = some mt_X3_meet := rfl
theorem mi_X4_init : mt_prog[49]? = some mt_X4_init := rfl
theorem mi_X4_codeAt : mt_prog[50]? = some mt_X4_codeAt := rfl
theorem mi_X4_lettersIn : mt_prog[51]? = some mt_X4_lettersIn := rfl
theorem mi_X4_append : mt_prog[52]? = some mt_X4_append := rfl
theorem mi_X4_isRowOfSigns : mt_prog[53]? = some mt_X4_isRowOfSigns := rfl
theorem mi_X4_copySigns : mt_prog[54]? = some mt_X4_copySigns := rfl
theorem mi_X4_digestOn : mt_prog[55]? = some mt_X4_digestOn := rfl
theorem mi_X5_init : mt_prog[56]? = some mt_X5_init := rfl
theorem mi_X5_copy : mt_prog[57]? = some mt_X5_copy := rfl
theorem mi_X5_put : mt_prog[58]? = some mt_X5_put := rfl
theorem mi_X5_isTaken : mt_prog[59]? = some mt_X5_isTaken := rfl
theorem mi_X5_total : mt_prog[60]? = some mt_X5_total := rfl
theorem mi_X5_digestOn : mt_prog[61]? = some mt_X5_digestOn := rfl
theorem mi_X6_goodLetters : mt_prog[62]? = some mt_X6_goodLetters := rfl
theorem mi_X6_isWhole : mt_prog[63]? = some mt_X6_isWhole := rfl
theorem mi_X6_read : mt_prog[64]? = some mt_X6_read := rfl
theorem mi_X6_keep : mt_prog[65]? = some mt_X6_keep := rfl
theorem mi_X6_endsRule : mt_prog[66]? = some mt_X6_endsRule := rfl
theorem mi_X6_after : mt_prog[67]? = some mt_X6_after := rfl
theorem mi_X6_behindMark : mt_prog[68]? = some mt_X6_behindMark := rfl
theorem mi_X6_behindSign : mt_prog[69]? = some mt_X6_behindSign := rfl
theorem mi_X6_outweighs : mt_prog[70]? = some mt_X6_outweighs := rfl
theorem mi_X6_at : mt_prog[71]? = some mt_X6_at := rfl
theorem mi_X7_init : mt_prog[72]? = some mt_X7_init := rfl
theorem mi_X7_placesOn : mt_prog[73]? = some mt_X7_placesOn := rfl
theorem mi_X7_isStone : mt_prog[74]? = some mt_X7_isStone := rfl
theorem mi_X7_carve : mt_prog[75]? = some mt_X7_carve := rfl
theorem mi_X7_fillBy : mt_prog[76]? = some mt_X7_fillBy := rfl
theorem mi_X7_makeRoom : mt_prog[77]? = some mt_X7_makeRoom := rfl
theorem mi_X7_fillFrom : mt_prog[78]? = some mt_X7_fillFrom := rfl
theorem mi_X7_keepFilling : mt_prog[79]? = some mt_X7_keepFilling := rfl
theorem mi_X7_sortWorths : mt_prog[80]? = some mt_X7_sortWorths := rfl
theorem mi_X7_dropLikeWorths : mt_prog[81]? = some mt_X7_dropLikeWorths := rfl
theorem mi_X7_digestOn : mt_prog[82]? = some mt_X7_digestOn := rfl
theorem mi_X8_init : mt_prog[83]? = some mt_X8_init := rfl
theorem mi_X8_startOf : mt_prog[84]? = some mt_X8_startOf := rfl
theorem mi_X8_startFor : mt_prog[85]? = some mt_X8_startFor := rfl
theorem mi_X8_clearAt : mt_prog[86]? = some mt_X8_clearAt := rfl
theorem mi_X8_addAt : mt_prog[87]? = some mt_X8_addAt := rfl
theorem mi_X8_exactly : mt_prog[88]? = some mt_X8_exactly := rfl
theorem mi_X8_atMost : mt_prog[89]? = some mt_X8_atMost := rfl
theorem mi_X9_init : mt_prog[90]? = some mt_X9_init := rfl
theorem mi_X9_prepare : mt_prog[91]? = some mt_X9_prepare := rfl
theorem mi_X9_countTakings : mt_prog[92]? = some mt_X9_countTakings := rfl
theorem mi_X9_countPlain : mt_prog[93]? = some mt_X9_countPlain := rfl
theorem mi_X9_inAll : mt_prog[94]? = some mt_X9_inAll := rfl
theorem mi_X9_findByOrder : mt_prog[95]? = some mt_X9_findByOrder := rfl
theorem mi_X9_findShortest : mt_prog[96]? = some mt_X9_findShortest := rfl
theorem mi_X9_walk : mt_prog[97]? = some mt_X9_walk := rfl
theorem mi_X9_choosePlain : mt_prog[98]? = some mt_X9_choosePlain := rfl
theorem mi_X9_chooseTaking : mt_prog[99]? = some mt_X9_chooseTaking := rfl
theorem mi_X9_goes : mt_prog[100]? = some mt_X9_goes := rfl
theorem mi_X10_init : mt_prog[101]? = some mt_X10_init := rfl
theorem mi_X10_letters : mt_prog[102]? = some mt_X10_letters := rfl
theorem mi_X10_blank : mt_prog[103]? = some mt_X10_blank := rfl
theorem mi_X10_good : mt_prog[104]? = some mt_X10_good := rfl
theorem mi_X10_custom : mt_prog[105]? = some mt_X10_custom := rfl
theorem mi_X10_asks : mt_prog[106]? = some mt_X10_asks := rfl
theorem mi_X10_row : mt_prog[107]? = some mt_X10_row := rfl
theorem mi_X10_sign : mt_prog[108]? = some mt_X10_sign := rfl
theorem mi_X10_worth : mt_prog[109]? = some mt_X10_worth := rfl
theorem mi_X10_keeps : mt_prog[110]? = some mt_X10_keeps := rfl
theorem mi_X10_begins : mt_prog[111]? = some mt_X10_begins := rfl
theorem mi_X10_ways : mt_prog[112]? = some mt_X10_ways := rfl
theorem mi_X10_write : mt_prog[113]? = some mt_X10_write := rfl
theorem mi_X10_board : mt_prog[114]? = some mt_X10_board := rfl
theorem mi_X10_pour : mt_prog[115]? = some mt_X10_pour := rfl
theorem mi_X10_bundle : mt_prog[116]? = some mt_X10_bundle := rfl
theorem mi_X10_unbundle : mt_prog[117]? = some mt_X10_unbundle := rfl
theorem mi_X10_settle : mt_prog[118]? = some mt_X10_settle := rfl
theorem mi_X10_step : mt_prog[119]? = some mt_X10_step := rfl
theorem mi_X10_holds : mt_prog[120]? = some mt_X10_holds := rfl
theorem mi_X10_lift : mt_prog[121]? = some mt_X10_lift := rfl
theorem mi_X10_sweep : mt_prog[122]? = some mt_X10_sweep := rfl
theorem mi_X10_times : mt_prog[123]? = some mt_X10_times := rfl
theorem mi_X10_parts : mt_prog[124]? = some mt_X10_parts := rfl
theorem mi_X10_stone : mt_prog[125]? = some mt_X10_stone := rfl
theorem mi_X10_could : mt_prog[126]? = some mt_X10_could := rfl
theorem mi_X10_says : mt_prog[127]? = some mt_X10_says := rfl
theorem mi_X10_sure : mt_prog[128]? = some mt_X10_sure := rfl
theorem mi_X10_note : mt_prog[129]? = some mt_X10_note := rfl
theorem mi_X10_habit : mt_prog[130]? = some mt_X10_habit := rfl
theorem mi_X10_hands : mt_prog[131]? = some mt_X10_hands := rfl
theorem mi_X10_line : mt_prog[132]? = some mt_X10_line := rfl
theorem mi_X10_tear : mt_prog[133]? = some mt_X10_tear := rfl
theorem mi_X10_wrong : mt_prog[134]? = some mt_X10_wrong := rfl
theorem mi_X10_mended : mt_prog[135]? = some mt_X10_mended := rfl
theorem mi_X10_slip : mt_prog[136]? = some mt_X10_slip := rfl
theorem mi_X10_count : mt_prog[137]? = some mt_X10_count := rfl
theorem mi_X10_digest : mt_prog[138]? = some mt_X10_digest := rfl
theorem mi_X10_mix : mt_prog[139]? = some mt_X10_mix := rfl
theorem mi_X10_isRow : mt_prog[140]? = some mt_X10_isRow := rfl
theorem mi_X10_isMason : mt_prog[141]? = some mt_X10_isMason := rfl
theorem mi_X10_isNumber : mt_prog[142]? = some mt_X10_isNumber := rfl
theorem mi_X10_isCustom : mt_prog[143]? = some mt_X10_isCustom := rfl
theorem mi_X10_customsAllowing : mt_prog[144]? = some mt_X10_customsAllowing := rfl
theorem mi_X10_readStone : mt_prog[145]? = some mt_X10_readStone := rfl
theorem mi_X10_halvings : mt_prog[146]? = some mt_X10_halvings := rfl
theorem mi_X10_product : mt_prog[147]? = some mt_X10_product := rfl
theorem mi_X10_doublings : mt_prog[148]? = some mt_X10_doublings := rfl
theorem mi_X10_linesTaken : mt_prog[149]? = some mt_X10_linesTaken := rfl
theorem mi_X10_signOf : mt_prog[150]? = some mt_X10_signOf := rfl
theorem mi_X11_init : mt_prog[151]? = some mt_X11_init := rfl
theorem mi_X11_in : mt_prog[152]? = some mt_X11_in := rfl
theorem mi_X11_letters : mt_prog[153]? = some mt_X11_letters := rfl
theorem mi_X11_blank : mt_prog[154]? = some mt_X11_blank := rfl
theorem mi_X11_signOf : mt_prog[155]? = some mt_X11_signOf := rfl
theorem mi_X11_readCustom : mt_prog[156]? = some mt_X11_readCustom := rfl
theorem mi_X11_isMore : mt_prog[157]? = some mt_X11_isMore := rfl
theorem mi_X11_good : mt_prog[158]? = some mt_X11_good := rfl
theorem mi_X11_custom : mt_prog[159]? = some mt_X11_custom := rfl
theorem mi_X11_isCustom : mt_prog[160]? = some mt_X11_isCustom := rfl
theorem mi_X11_asks : mt_prog[161]? = some mt_X11_asks := rfl
theorem mi_X11_isRow : mt_prog[162]? = some mt_X11_isRow := rfl
theorem mi_X11_row : mt_prog[163]? = some mt_X11_row := rfl
theorem mi_X11_sign : mt_prog[164]? = some mt_X11_sign := rfl
theorem mi_X11_isTaken : mt_prog[165]? = some mt_X11_isTaken := rfl
theorem mi_X11_worthOf : mt_prog[166]? = some mt_X11_worthOf := rfl
theorem mi_X11_worth : mt_prog[167]? = some mt_X11_worth := rfl
theorem mi_X11_keepsAll : mt_prog[168]? = some mt_X11_keepsAll := rfl
theorem mi_X11_mayTake : mt_prog[169]? = some mt_X11_mayTake := rfl
theorem mi_X11_mayBegin : mt_prog[170]? = some mt_X11_mayBegin := rfl
theorem mi_X11_keeps : mt_prog[171]? = some mt_X11_keeps := rfl
theorem mi_X11_begins : mt_prog[172]? = some mt_X11_begins := rfl
theorem mi_X11_shared : mt_prog[173]? = some mt_X11_shared := rfl
theorem mi_X11_bound : mt_prog[174]? = some mt_X11_bound := rfl
theorem mi_X11_mayCome : mt_prog[175]? = some mt_X11_mayCome := rfl
theorem mi_X11_signsOf : mt_prog[176]? = some mt_X11_signsOf := rfl
theorem mi_X11_worthBy : mt_prog[177]? = some mt_X11_worthBy := rfl
theorem mi_X11_isAllowed : mt_prog[178]? = some mt_X11_isAllowed := rfl
theorem mi_X11_nextWay : mt_prog[179]? = some mt_X11_nextWay := rfl
theorem mi_X11_seek : mt_prog[180]? = some mt_X11_seek := rfl
theorem mi_X11_down : mt_prog[181]? = some mt_X11_down := rfl
theorem mi_X11_open : mt_prog[182]? = some mt_X11_open := rfl
theorem mi_X11_noteOne : mt_prog[183]? = some mt_X11_noteOne := rfl
theorem mi_X11_layRow : mt_prog[184]? = some mt_X11_layRow := rfl
theorem mi_X11_ways : mt_prog[185]? = some mt_X11_ways := rfl
theorem mi_X11_write : mt_prog[186]? = some mt_X11_write := rfl
theorem mi_X11_board : mt_prog[187]? = some mt_X11_board := rfl
theorem mi_X11_onBoard : mt_prog[188]? = some mt_X11_onBoard := rfl
theorem mi_X11_pour : mt_prog[189]? = some mt_X11_pour := rfl
theorem mi_X11_poured : mt_prog[190]? = some mt_X11_poured := rfl
theorem mi_X11_bundleOf : mt_prog[191]? = some mt_X11_bundleOf := rfl
theorem mi_X11_bundle : mt_prog[192]? = some mt_X11_bundle := rfl
theorem mi_X11_unbundle : mt_prog[193]? = some mt_X11_unbundle := rfl
theorem mi_X11_firstStep : mt_prog[194]? = some mt_X11_firstStep := rfl
theorem mi_X11_doStep : mt_prog[195]? = some mt_X11_doStep := rfl
theorem mi_X11_settle : mt_prog[196]? = some mt_X11_settle := rfl
theorem mi_X11_step : mt_prog[197]? = some mt_X11_step := rfl
theorem mi_X11_holds : mt_prog[198]? = some mt_X11_holds := rfl
theorem mi_X11_lift : mt_prog[199]? = some mt_X11_lift := rfl
theorem mi_X11_sweep : mt_prog[200]? = some mt_X11_sweep := rfl
theorem mi_X11_times : mt_prog[201]? = some mt_X11_times := rfl
theorem mi_X11_parts : mt_prog[202]? = some mt_X11_parts := rfl
theorem mi_X11_stone : mt_prog[203]? = some mt_X11_stone := rfl
theorem mi_X11_say : mt_prog[204]? = some mt_X11_say := rfl
theorem mi_X11_fillAll : mt_prog[205]? = some mt_X11_fillAll := rfl
theorem mi_X11_fillTo : mt_prog[206]? = some mt_X11_fillTo := rfl
theorem mi_X11_isOpen : mt_prog[207]? = some mt_X11_isOpen := rfl
theorem mi_X11_first : mt_prog[208]? = some mt_X11_first := rfl
theorem mi_X11_after : mt_prog[209]? = some mt_X11_after := rfl
theorem mi_X11_take : mt_prog[210]? = some mt_X11_take := rfl
theorem mi_X11_isShut : mt_prog[211]? = some mt_X11_isShut := rfl
theorem mi_X11_could : mt_prog[212]? = some mt_X11_could := rfl
theorem mi_X11_says : mt_prog[213]? = some mt_X11_says := rfl
theorem mi_X11_sure : mt_prog[214]? = some mt_X11_sure := rfl
theorem mi_X11_isMason : mt_prog[215]? = some mt_X11_isMason := rfl
theorem mi_X11_note : mt_prog[216]? = some mt_X11_note := rfl
theorem mi_X11_habitOf : mt_prog[217]? = some mt_X11_habitOf := rfl
theorem mi_X11_habit : mt_prog[218]? = some mt_X11_habit := rfl
theorem mi_X11_hands : mt_prog[219]? = some mt_X11_hands := rfl
theorem mi_X11_line : mt_prog[220]? = some mt_X11_line := rfl
theorem mi_X11_layLine : mt_prog[221]? = some mt_X11_layLine := rfl
theorem mi_X11_tear : mt_prog[222]? = some mt_X11_tear := rfl
theorem mi_X11_lineWorth : mt_prog[223]? = some mt_X11_lineWorth := rfl
theorem mi_X11_ahead : mt_prog[224]? = some mt_X11_ahead := rfl
theorem mi_X11_wrongAt : mt_prog[225]? = some mt_X11_wrongAt := rfl
theorem mi_X11_wrong : mt_prog[226]? = some mt_X11_wrong := rfl
theorem mi_X11_mended : mt_prog[227]? = some mt_X11_mended := rfl
theorem mi_X11_putRight : mt_prog[228]? = some mt_X11_putRight := rfl
theorem mi_X11_isBy : mt_prog[229]? = some mt_X11_isBy := rfl
theorem mi_X11_seekSlip : mt_prog[230]? = some mt_X11_seekSlip := rfl
theorem mi_X11_slip : mt_prog[231]? = some mt_X11_slip := rfl
theorem mi_X11_count : mt_prog[232]? = some mt_X11_count := rfl
theorem mi_X11_mix : mt_prog[233]? = some mt_X11_mix := rfl
theorem mi_X11_mixCustoms : mt_prog[234]? = some mt_X11_mixCustoms := rfl
theorem mi_X11_digest : mt_prog[235]? = some mt_X11_digest := rfl
end
section
/-! ===== the law's instructions, checked ===== -/
def mc_law_0 : List ax_EN := [(0, .new 7, 3, (5, 10, 11, 0), [134, 135, 116]), (3, .dup, 1, (0, 0, 0, 0), []), (4, .invokespecial 9, 3, (3, 101, 0, 0), [137, 136]), (7, .astore_n 1, 1, (0, 0, 0, 0), []), (8, .new 10, 3, (5, 11, 48, 0), [1112, 1113, 127]), (11, .dup, 1, (0, 0, 0, 0), []), (12, .invokespecial 12, 3, (3, 151, 0, 0), [1115, 1114]), (15, .astore_n 2, 1, (0, 0, 0, 0), []), (16, .iconst 0, 1, (0, 0, 0, 0), []), (17, .istore_n 3, 1, (0, 0, 0, 0), []), (18, .iload_n 3, 1, (0, 0, 0, 0), []), (19, .aload_n 0, 1, (0, 0, 0, 0), []), (20, .arraylength, 1, (0, 0, 0, 0), []), (21, .iconst 5, 1, (0, 0, 0, 0), []), (22, .isub, 1, (0, 0, 0, 0), []), (23, .if_icmp .gt 1156, 3, (0, 0, 0, 0), []), (26, .aload_n 0, 1, (0, 0, 0, 0), []), (27, .iload_n 3, 1, (0, 0, 0, 0), []), (28, .iaload, 1, (0, 0, 0, 0), []), (29, .bipush 63, 2, (0, 0, 0, 0), []), (31, .iand, 1, (0, 0, 0, 0), [])]
def mc_law_1 : List ax_EN := [(32, .tableswitch 1141 0 36 #[164, 217, 230, 243, 256, 299, 322, 355, 378, 411, 444, 477, 530, 563, 612, 635, 658, 671, 694, 707, 730, 743, 786, 829, 842, 865, 898, 931, 964, 987, 1010, 1043, 1056, 1069, 1082, 1105, 1128], 164, (0, 0, 0, 0), [])]
def mc_law_2 : List ax_EN := []
def mc_law_3 : List ax_EN := []
def mc_law_4 : List ax_EN := []
def mc_law_5 : List ax_EN := []
def mc_law_6 : List ax_EN := [(196, .aload_n 1, 1, (0, 0, 0, 0), []), (197, .aload_n 0, 1, (0, 0, 0, 0), []), (198, .iload_n 3, 1, (0, 0, 0, 0), []), (199, .iconst 1, 1, (0, 0, 0, 0), []), (200, .iadd, 1, (0, 0, 0, 0), []), (201, .iaload, 1, (0, 0, 0, 0), []), (202, .i2l, 1, (0, 0, 0, 0), []), (203, .bipush 32, 2, (0, 0, 0, 0), []), (206, .aload_n 0, 1, (0, 0, 0, 0), []), (207, .iload_n 3, 1, (0, 0, 0, 0), []), (208, .iconst 2, 1, (0, 0, 0, 0), []), (209, .iadd, 1, (0, 0, 0, 0), []), (210, .iaload, 1, (0, 0, 0, 0), []), (211, .i2l, 1, (0, 0, 0, 0), []), (212, .ldc2_w 13, 3, (7, 0, 0, 4294967295), [1608]), (217, .invokevirtual 15, 3, (3, 102, 10, 0), [456, 457, 455]), (220, .pop, 1, (0, 0, 0, 0), []), (221, .aload_n 2, 1, (0, 0, 0, 0), []), (222, .aload_n 0, 1, (0, 0, 0, 0), []), (223, .iload_n 3, 1, (0, 0, 0, 0), [])]
def mc_law_7 : List ax_EN := [(224, .iconst 1, 1, (0, 0, 0, 0), []), (225, .iadd, 1, (0, 0, 0, 0), []), (226, .iaload, 1, (0, 0, 0, 0), []), (227, .i2l, 1, (0, 0, 0, 0), []), (228, .bipush 32, 2, (0, 0, 0, 0), []), (231, .aload_n 0, 1, (0, 0, 0, 0), []), (232, .iload_n 3, 1, (0, 0, 0, 0), []), (233, .iconst 2, 1, (0, 0, 0, 0), []), (234, .iadd, 1, (0, 0, 0, 0), []), (235, .iaload, 1, (0, 0, 0, 0), []), (236, .i2l, 1, (0, 0, 0, 0), []), (237, .ldc2_w 13, 3, (7, 0, 0, 4294967295), [1608]), (242, .invokevirtual 19, 3, (3, 153, 11, 0), [1270, 1271, 1269]), (245, .pop, 1, (0, 0, 0, 0), []), (246, .goto 927, 3, (0, 0, 0, 0), []), (249, .aload_n 1, 1, (0, 0, 0, 0), []), (250, .invokevirtual 20, 3, (3, 103, 10, 0), [470, 471, 469]), (253, .pop, 1, (0, 0, 0, 0), []), (254, .aload_n 2, 1, (0, 0, 0, 0), []), (255, .invokevirtual 24, 3, (3, 154, 11, 0), [1275, 1276, 1274])]
def mc_law_8 : List ax_EN := [(258, .pop, 1, (0, 0, 0, 0), []), (259, .goto 914, 3, (0, 0, 0, 0), []), (262, .aload_n 1, 1, (0, 0, 0, 0), []), (263, .invokevirtual 25, 3, (3, 104, 10, 0), [474, 475, 473]), (266, .pop, 1, (0, 0, 0, 0), []), (267, .aload_n 2, 1, (0, 0, 0, 0), []), (268, .invokevirtual 28, 3, (3, 158, 11, 0), [1279, 1280, 1278]), (271, .pop, 1, (0, 0, 0, 0), []), (272, .goto 901, 3, (0, 0, 0, 0), []), (275, .aload_n 1, 1, (0, 0, 0, 0), []), (276, .invokevirtual 29, 3, (3, 105, 10, 0), [589, 590, 588]), (279, .pop, 1, (0, 0, 0, 0), []), (280, .aload_n 2, 1, (0, 0, 0, 0), []), (281, .invokevirtual 32, 3, (3, 159, 11, 0), [1298, 1299, 1297]), (284, .pop, 1, (0, 0, 0, 0), []), (285, .goto 888, 3, (0, 0, 0, 0), [])]
def mc_law_9 : List ax_EN := [(288, .aload_n 1, 1, (0, 0, 0, 0), []), (289, .aload_n 0, 1, (0, 0, 0, 0), []), (290, .iload_n 3, 1, (0, 0, 0, 0), []), (291, .iconst 1, 1, (0, 0, 0, 0), []), (292, .iadd, 1, (0, 0, 0, 0), []), (293, .iaload, 1, (0, 0, 0, 0), []), (294, .aload_n 0, 1, (0, 0, 0, 0), []), (295, .iload_n 3, 1, (0, 0, 0, 0), []), (296, .iconst 2, 1, (0, 0, 0, 0), []), (297, .iadd, 1, (0, 0, 0, 0), []), (298, .iaload, 1, (0, 0, 0, 0), []), (299, .aload_n 0, 1, (0, 0, 0, 0), []), (300, .iload_n 3, 1, (0, 0, 0, 0), []), (301, .iconst 3, 1, (0, 0, 0, 0), []), (302, .iadd, 1, (0, 0, 0, 0), []), (303, .iaload, 1, (0, 0, 0, 0), []), (304, .invokevirtual 33, 3, (3, 106, 10, 0), [650, 651, 649]), (307, .pop, 1, (0, 0, 0, 0), []), (308, .aload_n 2, 1, (0, 0, 0, 0), []), (309, .aload_n 0, 1, (0, 0, 0, 0), []), (310, .iload_n 3, 1, (0, 0, 0, 0), []), (311, .iconst 1, 1, (0, 0, 0, 0), []), (312, .iadd, 1, (0, 0, 0, 0), []), (313, .iaload, 1, (0, 0, 0, 0), []), (314, .aload_n 0, 1, (0, 0, 0, 0), []), (315, .iload_n 3, 1, (0, 0, 0, 0), []), (316, .iconst 2, 1, (0, 0, 0, 0), []), (317, .iadd, 1, (0, 0, 0, 0), []), (318, .iaload, 1, (0, 0, 0, 0), []), (319, .aload_n 0, 1, (0, 0, 0, 0), [])]
def mc_law_10 : List ax_EN := [(320, .iload_n 3, 1, (0, 0, 0, 0), []), (321, .iconst 3, 1, (0, 0, 0, 0), []), (322, .iadd, 1, (0, 0, 0, 0), []), (323, .iaload, 1, (0, 0, 0, 0), []), (324, .invokevirtual 37, 3, (3, 161, 11, 0), [1302, 1303, 1301]), (327, .pop, 1, (0, 0, 0, 0), []), (328, .goto 845, 3, (0, 0, 0, 0), []), (331, .aload_n 1, 1, (0, 0, 0, 0), []), (332, .aload_n 0, 1, (0, 0, 0, 0), []), (333, .iload_n 3, 1, (0, 0, 0, 0), []), (334, .iconst 1, 1, (0, 0, 0, 0), []), (335, .iadd, 1, (0, 0, 0, 0), []), (336, .iaload, 1, (0, 0, 0, 0), []), (337, .invokevirtual 38, 3, (3, 107, 10, 0), [658, 659, 657]), (340, .pop, 1, (0, 0, 0, 0), []), (341, .aload_n 2, 1, (0, 0, 0, 0), []), (342, .aload_n 0, 1, (0, 0, 0, 0), []), (343, .iload_n 3, 1, (0, 0, 0, 0), []), (344, .iconst 1, 1, (0, 0, 0, 0), []), (345, .iadd, 1, (0, 0, 0, 0), []), (346, .iaload, 1, (0, 0, 0, 0), []), (347, .invokevirtual 42, 3, (3, 163, 11, 0), [1310, 1311, 1309]), (350, .pop, 1, (0, 0, 0, 0), []), (351, .goto 822, 3, (0, 0, 0, 0), [])]
def mc_law_11 : List ax_EN := [(354, .aload_n 1, 1, (0, 0, 0, 0), []), (355, .aload_n 0, 1, (0, 0, 0, 0), []), (356, .iload_n 3, 1, (0, 0, 0, 0), []), (357, .iconst 1, 1, (0, 0, 0, 0), []), (358, .iadd, 1, (0, 0, 0, 0), []), (359, .iaload, 1, (0, 0, 0, 0), []), (360, .aload_n 0, 1, (0, 0, 0, 0), []), (361, .iload_n 3, 1, (0, 0, 0, 0), []), (362, .iconst 2, 1, (0, 0, 0, 0), []), (363, .iadd, 1, (0, 0, 0, 0), []), (364, .iaload, 1, (0, 0, 0, 0), []), (365, .invokevirtual 43, 3, (3, 108, 10, 0), [678, 679, 677]), (368, .pop, 1, (0, 0, 0, 0), []), (369, .aload_n 2, 1, (0, 0, 0, 0), []), (370, .aload_n 0, 1, (0, 0, 0, 0), []), (371, .iload_n 3, 1, (0, 0, 0, 0), []), (372, .iconst 1, 1, (0, 0, 0, 0), []), (373, .iadd, 1, (0, 0, 0, 0), []), (374, .iaload, 1, (0, 0, 0, 0), []), (375, .aload_n 0, 1, (0, 0, 0, 0), []), (376, .iload_n 3, 1, (0, 0, 0, 0), []), (377, .iconst 2, 1, (0, 0, 0, 0), []), (378, .iadd, 1, (0, 0, 0, 0), []), (379, .iaload, 1, (0, 0, 0, 0), []), (380, .invokevirtual 47, 3, (3, 164, 11, 0), [1317, 1318, 1316]), (383, .pop, 1, (0, 0, 0, 0), [])]
def mc_law_12 : List ax_EN := [(384, .goto 789, 3, (0, 0, 0, 0), []), (387, .aload_n 1, 1, (0, 0, 0, 0), []), (388, .aload_n 0, 1, (0, 0, 0, 0), []), (389, .iload_n 3, 1, (0, 0, 0, 0), []), (390, .iconst 1, 1, (0, 0, 0, 0), []), (391, .iadd, 1, (0, 0, 0, 0), []), (392, .iaload, 1, (0, 0, 0, 0), []), (393, .invokevirtual 48, 3, (3, 109, 10, 0), [682, 683, 681]), (396, .pop, 1, (0, 0, 0, 0), []), (397, .aload_n 2, 1, (0, 0, 0, 0), []), (398, .aload_n 0, 1, (0, 0, 0, 0), []), (399, .iload_n 3, 1, (0, 0, 0, 0), []), (400, .iconst 1, 1, (0, 0, 0, 0), []), (401, .iadd, 1, (0, 0, 0, 0), []), (402, .iaload, 1, (0, 0, 0, 0), []), (403, .invokevirtual 51, 3, (3, 167, 11, 0), [1321, 1322, 1320]), (406, .pop, 1, (0, 0, 0, 0), []), (407, .goto 766, 3, (0, 0, 0, 0), []), (410, .aload_n 1, 1, (0, 0, 0, 0), []), (411, .aload_n 0, 1, (0, 0, 0, 0), []), (412, .iload_n 3, 1, (0, 0, 0, 0), []), (413, .iconst 1, 1, (0, 0, 0, 0), []), (414, .iadd, 1, (0, 0, 0, 0), []), (415, .iaload, 1, (0, 0, 0, 0), [])]
def mc_law_13 : List ax_EN := [(416, .aload_n 0, 1, (0, 0, 0, 0), []), (417, .iload_n 3, 1, (0, 0, 0, 0), []), (418, .iconst 2, 1, (0, 0, 0, 0), []), (419, .iadd, 1, (0, 0, 0, 0), []), (420, .iaload, 1, (0, 0, 0, 0), []), (421, .invokevirtual 52, 3, (3, 110, 10, 0), [696, 697, 695]), (424, .pop, 1, (0, 0, 0, 0), []), (425, .aload_n 2, 1, (0, 0, 0, 0), []), (426, .aload_n 0, 1, (0, 0, 0, 0), []), (427, .iload_n 3, 1, (0, 0, 0, 0), []), (428, .iconst 1, 1, (0, 0, 0, 0), []), (429, .iadd, 1, (0, 0, 0, 0), []), (430, .iaload, 1, (0, 0, 0, 0), []), (431, .aload_n 0, 1, (0, 0, 0, 0), []), (432, .iload_n 3, 1, (0, 0, 0, 0), []), (433, .iconst 2, 1, (0, 0, 0, 0), []), (434, .iadd, 1, (0, 0, 0, 0), []), (435, .iaload, 1, (0, 0, 0, 0), []), (436, .invokevirtual 55, 3, (3, 171, 11, 0), [1333, 1334, 1332]), (439, .pop, 1, (0, 0, 0, 0), []), (440, .goto 733, 3, (0, 0, 0, 0), []), (443, .aload_n 1, 1, (0, 0, 0, 0), []), (444, .aload_n 0, 1, (0, 0, 0, 0), []), (445, .iload_n 3, 1, (0, 0, 0, 0), []), (446, .iconst 1, 1, (0, 0, 0, 0), []), (447, .iadd, 1, (0, 0, 0, 0), [])]
def mc_law_14 : List ax_EN := [(448, .iaload, 1, (0, 0, 0, 0), []), (449, .aload_n 0, 1, (0, 0, 0, 0), []), (450, .iload_n 3, 1, (0, 0, 0, 0), []), (451, .iconst 2, 1, (0, 0, 0, 0), []), (452, .iadd, 1, (0, 0, 0, 0), []), (453, .iaload, 1, (0, 0, 0, 0), []), (454, .invokevirtual 56, 3, (3, 111, 10, 0), [701, 702, 700]), (457, .pop, 1, (0, 0, 0, 0), []), (458, .aload_n 2, 1, (0, 0, 0, 0), []), (459, .aload_n 0, 1, (0, 0, 0, 0), []), (460, .iload_n 3, 1, (0, 0, 0, 0), []), (461, .iconst 1, 1, (0, 0, 0, 0), []), (462, .iadd, 1, (0, 0, 0, 0), []), (463, .iaload, 1, (0, 0, 0, 0), []), (464, .aload_n 0, 1, (0, 0, 0, 0), []), (465, .iload_n 3, 1, (0, 0, 0, 0), []), (466, .iconst 2, 1, (0, 0, 0, 0), []), (467, .iadd, 1, (0, 0, 0, 0), []), (468, .iaload, 1, (0, 0, 0, 0), []), (469, .invokevirtual 59, 3, (3, 172, 11, 0), [1349, 1350, 1348]), (472, .pop, 1, (0, 0, 0, 0), []), (473, .goto 700, 3, (0, 0, 0, 0), []), (476, .aload_n 1, 1, (0, 0, 0, 0), []), (477, .aload_n 0, 1, (0, 0, 0, 0), []), (478, .iload_n 3, 1, (0, 0, 0, 0), []), (479, .iconst 1, 1, (0, 0, 0, 0), [])]
def mc_law_15 : List ax_EN := [(480, .iadd, 1, (0, 0, 0, 0), []), (481, .iaload, 1, (0, 0, 0, 0), []), (482, .aload_n 0, 1, (0, 0, 0, 0), []), (483, .iload_n 3, 1, (0, 0, 0, 0), []), (484, .iconst 2, 1, (0, 0, 0, 0), []), (485, .iadd, 1, (0, 0, 0, 0), []), (486, .iaload, 1, (0, 0, 0, 0), []), (487, .invokevirtual 60, 3, (3, 112, 10, 0), [709, 710, 708]), (490, .pop, 1, (0, 0, 0, 0), []), (491, .aload_n 2, 1, (0, 0, 0, 0), []), (492, .aload_n 0, 1, (0, 0, 0, 0), []), (493, .iload_n 3, 1, (0, 0, 0, 0), []), (494, .iconst 1, 1, (0, 0, 0, 0), []), (495, .iadd, 1, (0, 0, 0, 0), []), (496, .iaload, 1, (0, 0, 0, 0), []), (497, .aload_n 0, 1, (0, 0, 0, 0), []), (498, .iload_n 3, 1, (0, 0, 0, 0), []), (499, .iconst 2, 1, (0, 0, 0, 0), []), (500, .iadd, 1, (0, 0, 0, 0), []), (501, .iaload, 1, (0, 0, 0, 0), []), (502, .invokevirtual 63, 3, (3, 185, 11, 0), [1353, 1354, 1352]), (505, .pop, 1, (0, 0, 0, 0), []), (506, .goto 667, 3, (0, 0, 0, 0), []), (509, .aload_n 1, 1, (0, 0, 0, 0), []), (510, .aload_n 0, 1, (0, 0, 0, 0), []), (511, .iload_n 3, 1, (0, 0, 0, 0), [])]
def mc_law_16 : List ax_EN := [(512, .iconst 1, 1, (0, 0, 0, 0), []), (513, .iadd, 1, (0, 0, 0, 0), []), (514, .iaload, 1, (0, 0, 0, 0), []), (515, .aload_n 0, 1, (0, 0, 0, 0), []), (516, .iload_n 3, 1, (0, 0, 0, 0), []), (517, .iconst 2, 1, (0, 0, 0, 0), []), (518, .iadd, 1, (0, 0, 0, 0), []), (519, .iaload, 1, (0, 0, 0, 0), []), (520, .aload_n 0, 1, (0, 0, 0, 0), []), (521, .iload_n 3, 1, (0, 0, 0, 0), []), (522, .iconst 3, 1, (0, 0, 0, 0), []), (523, .iadd, 1, (0, 0, 0, 0), []), (524, .iaload, 1, (0, 0, 0, 0), []), (525, .aload_n 0, 1, (0, 0, 0, 0), []), (526, .iload_n 3, 1, (0, 0, 0, 0), []), (527, .iconst 4, 1, (0, 0, 0, 0), []), (528, .iadd, 1, (0, 0, 0, 0), []), (529, .iaload, 1, (0, 0, 0, 0), []), (530, .invokevirtual 64, 3, (3, 113, 10, 0), [756, 757, 755]), (533, .pop, 1, (0, 0, 0, 0), []), (534, .aload_n 2, 1, (0, 0, 0, 0), []), (535, .aload_n 0, 1, (0, 0, 0, 0), []), (536, .iload_n 3, 1, (0, 0, 0, 0), []), (537, .iconst 1, 1, (0, 0, 0, 0), []), (538, .iadd, 1, (0, 0, 0, 0), []), (539, .iaload, 1, (0, 0, 0, 0), []), (540, .aload_n 0, 1, (0, 0, 0, 0), []), (541, .iload_n 3, 1, (0, 0, 0, 0), []), (542, .iconst 2, 1, (0, 0, 0, 0), []), (543, .iadd, 1, (0, 0, 0, 0), [])]
def mc_law_17 : List ax_EN := [(544, .iaload, 1, (0, 0, 0, 0), []), (545, .aload_n 0, 1, (0, 0, 0, 0), []), (546, .iload_n 3, 1, (0, 0, 0, 0), []), (547, .iconst 3, 1, (0, 0, 0, 0), []), (548, .iadd, 1, (0, 0, 0, 0), []), (549, .iaload, 1, (0, 0, 0, 0), []), (550, .aload_n 0, 1, (0, 0, 0, 0), []), (551, .iload_n 3, 1, (0, 0, 0, 0), []), (552, .iconst 4, 1, (0, 0, 0, 0), []), (553, .iadd, 1, (0, 0, 0, 0), []), (554, .iaload, 1, (0, 0, 0, 0), []), (555, .invokevirtual 68, 3, (3, 186, 11, 0), [1404, 1405, 1403]), (558, .pop, 1, (0, 0, 0, 0), []), (559, .goto 614, 3, (0, 0, 0, 0), []), (562, .aload_n 1, 1, (0, 0, 0, 0), []), (563, .aload_n 0, 1, (0, 0, 0, 0), []), (564, .iload_n 3, 1, (0, 0, 0, 0), []), (565, .iconst 1, 1, (0, 0, 0, 0), []), (566, .iadd, 1, (0, 0, 0, 0), []), (567, .iaload, 1, (0, 0, 0, 0), []), (568, .aload_n 0, 1, (0, 0, 0, 0), []), (569, .iload_n 3, 1, (0, 0, 0, 0), []), (570, .iconst 2, 1, (0, 0, 0, 0), []), (571, .iadd, 1, (0, 0, 0, 0), []), (572, .iaload, 1, (0, 0, 0, 0), []), (573, .invokevirtual 69, 3, (3, 114, 10, 0), [794, 795, 793])]
def mc_law_18 : List ax_EN := [(576, .pop, 1, (0, 0, 0, 0), []), (577, .aload_n 2, 1, (0, 0, 0, 0), []), (578, .aload_n 0, 1, (0, 0, 0, 0), []), (579, .iload_n 3, 1, (0, 0, 0, 0), []), (580, .iconst 1, 1, (0, 0, 0, 0), []), (581, .iadd, 1, (0, 0, 0, 0), []), (582, .iaload, 1, (0, 0, 0, 0), []), (583, .aload_n 0, 1, (0, 0, 0, 0), []), (584, .iload_n 3, 1, (0, 0, 0, 0), []), (585, .iconst 2, 1, (0, 0, 0, 0), []), (586, .iadd, 1, (0, 0, 0, 0), []), (587, .iaload, 1, (0, 0, 0, 0), []), (588, .invokevirtual 72, 3, (3, 187, 11, 0), [1408, 1409, 1407]), (591, .pop, 1, (0, 0, 0, 0), []), (592, .goto 581, 3, (0, 0, 0, 0), []), (595, .aload_n 1, 1, (0, 0, 0, 0), []), (596, .aload_n 0, 1, (0, 0, 0, 0), []), (597, .iload_n 3, 1, (0, 0, 0, 0), []), (598, .iconst 1, 1, (0, 0, 0, 0), []), (599, .iadd, 1, (0, 0, 0, 0), []), (600, .iaload, 1, (0, 0, 0, 0), []), (601, .aload_n 0, 1, (0, 0, 0, 0), []), (602, .iload_n 3, 1, (0, 0, 0, 0), []), (603, .iconst 2, 1, (0, 0, 0, 0), []), (604, .iadd, 1, (0, 0, 0, 0), []), (605, .iaload, 1, (0, 0, 0, 0), []), (606, .ifCond .eq 7, 3, (0, 0, 0, 0), [])]
def mc_law_19 : List ax_EN := [(609, .iconst 1, 1, (0, 0, 0, 0), []), (610, .goto 4, 3, (0, 0, 0, 0), []), (613, .iconst 0, 1, (0, 0, 0, 0), []), (614, .invokevirtual 73, 3, (3, 115, 10, 0), [798, 799, 797]), (617, .pop, 1, (0, 0, 0, 0), []), (618, .aload_n 2, 1, (0, 0, 0, 0), []), (619, .aload_n 0, 1, (0, 0, 0, 0), []), (620, .iload_n 3, 1, (0, 0, 0, 0), []), (621, .iconst 1, 1, (0, 0, 0, 0), []), (622, .iadd, 1, (0, 0, 0, 0), []), (623, .iaload, 1, (0, 0, 0, 0), []), (624, .aload_n 0, 1, (0, 0, 0, 0), []), (625, .iload_n 3, 1, (0, 0, 0, 0), []), (626, .iconst 2, 1, (0, 0, 0, 0), []), (627, .iadd, 1, (0, 0, 0, 0), []), (628, .iaload, 1, (0, 0, 0, 0), []), (629, .ifCond .eq 7, 3, (0, 0, 0, 0), []), (632, .iconst 1, 1, (0, 0, 0, 0), []), (633, .goto 4, 3, (0, 0, 0, 0), []), (636, .iconst 0, 1, (0, 0, 0, 0), []), (637, .invokevirtual 77, 3, (3, 189, 11, 0), [1412, 1413, 1411])]
def mc_law_20 : List ax_EN := [(640, .pop, 1, (0, 0, 0, 0), []), (641, .goto 532, 3, (0, 0, 0, 0), []), (644, .aload_n 1, 1, (0, 0, 0, 0), []), (645, .aload_n 0, 1, (0, 0, 0, 0), []), (646, .iload_n 3, 1, (0, 0, 0, 0), []), (647, .iconst 1, 1, (0, 0, 0, 0), []), (648, .iadd, 1, (0, 0, 0, 0), []), (649, .iaload, 1, (0, 0, 0, 0), []), (650, .invokevirtual 78, 3, (3, 116, 10, 0), [818, 819, 817]), (653, .pop, 1, (0, 0, 0, 0), []), (654, .aload_n 2, 1, (0, 0, 0, 0), []), (655, .aload_n 0, 1, (0, 0, 0, 0), []), (656, .iload_n 3, 1, (0, 0, 0, 0), []), (657, .iconst 1, 1, (0, 0, 0, 0), []), (658, .iadd, 1, (0, 0, 0, 0), []), (659, .iaload, 1, (0, 0, 0, 0), []), (660, .invokevirtual 81, 3, (3, 192, 11, 0), [1424, 1425, 1423]), (663, .pop, 1, (0, 0, 0, 0), []), (664, .goto 509, 3, (0, 0, 0, 0), []), (667, .aload_n 1, 1, (0, 0, 0, 0), []), (668, .aload_n 0, 1, (0, 0, 0, 0), []), (669, .iload_n 3, 1, (0, 0, 0, 0), []), (670, .iconst 1, 1, (0, 0, 0, 0), []), (671, .iadd, 1, (0, 0, 0, 0), [])]
def mc_law_21 : List ax_EN := [(672, .iaload, 1, (0, 0, 0, 0), []), (673, .invokevirtual 82, 3, (3, 117, 10, 0), [832, 833, 831]), (676, .pop, 1, (0, 0, 0, 0), []), (677, .aload_n 2, 1, (0, 0, 0, 0), []), (678, .aload_n 0, 1, (0, 0, 0, 0), []), (679, .iload_n 3, 1, (0, 0, 0, 0), []), (680, .iconst 1, 1, (0, 0, 0, 0), []), (681, .iadd, 1, (0, 0, 0, 0), []), (682, .iaload, 1, (0, 0, 0, 0), []), (683, .invokevirtual 85, 3, (3, 193, 11, 0), [1431, 1432, 1430]), (686, .pop, 1, (0, 0, 0, 0), []), (687, .goto 486, 3, (0, 0, 0, 0), []), (690, .aload_n 1, 1, (0, 0, 0, 0), []), (691, .invokevirtual 86, 3, (3, 118, 10, 0), [840, 841, 839]), (694, .pop, 1, (0, 0, 0, 0), []), (695, .aload_n 2, 1, (0, 0, 0, 0), []), (696, .invokevirtual 89, 3, (3, 196, 11, 0), [1435, 1436, 1434]), (699, .pop, 1, (0, 0, 0, 0), []), (700, .goto 473, 3, (0, 0, 0, 0), []), (703, .aload_n 1, 1, (0, 0, 0, 0), [])]
def mc_law_22 : List ax_EN := [(704, .aload_n 0, 1, (0, 0, 0, 0), []), (705, .iload_n 3, 1, (0, 0, 0, 0), []), (706, .iconst 1, 1, (0, 0, 0, 0), []), (707, .iadd, 1, (0, 0, 0, 0), []), (708, .iaload, 1, (0, 0, 0, 0), []), (709, .invokevirtual 90, 3, (3, 119, 10, 0), [863, 864, 862]), (712, .pop, 1, (0, 0, 0, 0), []), (713, .aload_n 2, 1, (0, 0, 0, 0), []), (714, .aload_n 0, 1, (0, 0, 0, 0), []), (715, .iload_n 3, 1, (0, 0, 0, 0), []), (716, .iconst 1, 1, (0, 0, 0, 0), []), (717, .iadd, 1, (0, 0, 0, 0), []), (718, .iaload, 1, (0, 0, 0, 0), []), (719, .invokevirtual 93, 3, (3, 197, 11, 0), [1449, 1450, 1448]), (722, .pop, 1, (0, 0, 0, 0), []), (723, .goto 450, 3, (0, 0, 0, 0), []), (726, .aload_n 1, 1, (0, 0, 0, 0), []), (727, .invokevirtual 94, 3, (3, 120, 10, 0), [867, 868, 866]), (730, .pop, 1, (0, 0, 0, 0), []), (731, .aload_n 2, 1, (0, 0, 0, 0), []), (732, .invokevirtual 97, 3, (3, 198, 11, 0), [1453, 1454, 1452]), (735, .pop, 1, (0, 0, 0, 0), [])]
def mc_law_23 : List ax_EN := [(736, .goto 437, 3, (0, 0, 0, 0), []), (739, .aload_n 1, 1, (0, 0, 0, 0), []), (740, .aload_n 0, 1, (0, 0, 0, 0), []), (741, .iload_n 3, 1, (0, 0, 0, 0), []), (742, .iconst 1, 1, (0, 0, 0, 0), []), (743, .iadd, 1, (0, 0, 0, 0), []), (744, .iaload, 1, (0, 0, 0, 0), []), (745, .invokevirtual 98, 3, (3, 121, 10, 0), [876, 877, 875]), (748, .pop, 1, (0, 0, 0, 0), []), (749, .aload_n 2, 1, (0, 0, 0, 0), []), (750, .aload_n 0, 1, (0, 0, 0, 0), []), (751, .iload_n 3, 1, (0, 0, 0, 0), []), (752, .iconst 1, 1, (0, 0, 0, 0), []), (753, .iadd, 1, (0, 0, 0, 0), []), (754, .iaload, 1, (0, 0, 0, 0), []), (755, .invokevirtual 101, 3, (3, 199, 11, 0), [1457, 1458, 1456]), (758, .pop, 1, (0, 0, 0, 0), []), (759, .goto 414, 3, (0, 0, 0, 0), []), (762, .aload_n 1, 1, (0, 0, 0, 0), []), (763, .invokevirtual 102, 3, (3, 122, 10, 0), [890, 891, 889]), (766, .pop, 1, (0, 0, 0, 0), []), (767, .aload_n 2, 1, (0, 0, 0, 0), [])]
def mc_law_24 : List ax_EN := [(768, .invokevirtual 105, 3, (3, 200, 11, 0), [1461, 1462, 1460]), (771, .pop, 1, (0, 0, 0, 0), []), (772, .goto 401, 3, (0, 0, 0, 0), []), (775, .aload_n 1, 1, (0, 0, 0, 0), []), (776, .aload_n 0, 1, (0, 0, 0, 0), []), (777, .iload_n 3, 1, (0, 0, 0, 0), []), (778, .iconst 1, 1, (0, 0, 0, 0), []), (779, .iadd, 1, (0, 0, 0, 0), []), (780, .iaload, 1, (0, 0, 0, 0), []), (781, .aload_n 0, 1, (0, 0, 0, 0), []), (782, .iload_n 3, 1, (0, 0, 0, 0), []), (783, .iconst 2, 1, (0, 0, 0, 0), []), (784, .iadd, 1, (0, 0, 0, 0), []), (785, .iaload, 1, (0, 0, 0, 0), []), (786, .aload_n 0, 1, (0, 0, 0, 0), []), (787, .iload_n 3, 1, (0, 0, 0, 0), []), (788, .iconst 3, 1, (0, 0, 0, 0), []), (789, .iadd, 1, (0, 0, 0, 0), []), (790, .iaload, 1, (0, 0, 0, 0), []), (791, .invokevirtual 106, 3, (3, 123, 10, 0), [898, 899, 897]), (794, .aload_n 2, 1, (0, 0, 0, 0), []), (795, .aload_n 0, 1, (0, 0, 0, 0), []), (796, .iload_n 3, 1, (0, 0, 0, 0), []), (797, .iconst 1, 1, (0, 0, 0, 0), []), (798, .iadd, 1, (0, 0, 0, 0), []), (799, .iaload, 1, (0, 0, 0, 0), [])]
def mc_law_25 : List ax_EN := [(800, .aload_n 0, 1, (0, 0, 0, 0), []), (801, .iload_n 3, 1, (0, 0, 0, 0), []), (802, .iconst 2, 1, (0, 0, 0, 0), []), (803, .iadd, 1, (0, 0, 0, 0), []), (804, .iaload, 1, (0, 0, 0, 0), []), (805, .aload_n 0, 1, (0, 0, 0, 0), []), (806, .iload_n 3, 1, (0, 0, 0, 0), []), (807, .iconst 3, 1, (0, 0, 0, 0), []), (808, .iadd, 1, (0, 0, 0, 0), []), (809, .iaload, 1, (0, 0, 0, 0), []), (810, .invokevirtual 109, 3, (3, 201, 11, 0), [1465, 1466, 1464]), (813, .if_icmp .eq 360, 3, (0, 0, 0, 0), []), (816, .iconst 0, 1, (0, 0, 0, 0), []), (817, .ireturn, 1, (0, 0, 0, 0), []), (818, .aload_n 1, 1, (0, 0, 0, 0), []), (819, .aload_n 0, 1, (0, 0, 0, 0), []), (820, .iload_n 3, 1, (0, 0, 0, 0), []), (821, .iconst 1, 1, (0, 0, 0, 0), []), (822, .iadd, 1, (0, 0, 0, 0), []), (823, .iaload, 1, (0, 0, 0, 0), []), (824, .aload_n 0, 1, (0, 0, 0, 0), []), (825, .iload_n 3, 1, (0, 0, 0, 0), []), (826, .iconst 2, 1, (0, 0, 0, 0), []), (827, .iadd, 1, (0, 0, 0, 0), []), (828, .iaload, 1, (0, 0, 0, 0), []), (829, .aload_n 0, 1, (0, 0, 0, 0), []), (830, .iload_n 3, 1, (0, 0, 0, 0), []), (831, .iconst 3, 1, (0, 0, 0, 0), [])]
def mc_law_26 : List ax_EN := [(832, .iadd, 1, (0, 0, 0, 0), []), (833, .iaload, 1, (0, 0, 0, 0), []), (834, .invokevirtual 110, 3, (3, 124, 10, 0), [908, 909, 907]), (837, .pop, 1, (0, 0, 0, 0), []), (838, .aload_n 2, 1, (0, 0, 0, 0), []), (839, .aload_n 0, 1, (0, 0, 0, 0), []), (840, .iload_n 3, 1, (0, 0, 0, 0), []), (841, .iconst 1, 1, (0, 0, 0, 0), []), (842, .iadd, 1, (0, 0, 0, 0), []), (843, .iaload, 1, (0, 0, 0, 0), []), (844, .aload_n 0, 1, (0, 0, 0, 0), []), (845, .iload_n 3, 1, (0, 0, 0, 0), []), (846, .iconst 2, 1, (0, 0, 0, 0), []), (847, .iadd, 1, (0, 0, 0, 0), []), (848, .iaload, 1, (0, 0, 0, 0), []), (849, .aload_n 0, 1, (0, 0, 0, 0), []), (850, .iload_n 3, 1, (0, 0, 0, 0), []), (851, .iconst 3, 1, (0, 0, 0, 0), []), (852, .iadd, 1, (0, 0, 0, 0), []), (853, .iaload, 1, (0, 0, 0, 0), []), (854, .invokevirtual 113, 3, (3, 202, 11, 0), [1469, 1470, 1468]), (857, .pop, 1, (0, 0, 0, 0), []), (858, .goto 315, 3, (0, 0, 0, 0), []), (861, .aload_n 1, 1, (0, 0, 0, 0), []), (862, .invokevirtual 114, 3, (3, 125, 10, 0), [918, 919, 917])]
def mc_law_27 : List ax_EN := [(865, .pop, 1, (0, 0, 0, 0), []), (866, .aload_n 2, 1, (0, 0, 0, 0), []), (867, .invokevirtual 117, 3, (3, 203, 11, 0), [1473, 1474, 1472]), (870, .pop, 1, (0, 0, 0, 0), []), (871, .goto 302, 3, (0, 0, 0, 0), []), (874, .aload_n 1, 1, (0, 0, 0, 0), []), (875, .aload_n 0, 1, (0, 0, 0, 0), []), (876, .iload_n 3, 1, (0, 0, 0, 0), []), (877, .iconst 1, 1, (0, 0, 0, 0), []), (878, .iadd, 1, (0, 0, 0, 0), []), (879, .iaload, 1, (0, 0, 0, 0), []), (880, .invokevirtual 118, 3, (3, 126, 10, 0), [933, 934, 932]), (883, .pop, 1, (0, 0, 0, 0), []), (884, .aload_n 2, 1, (0, 0, 0, 0), []), (885, .aload_n 0, 1, (0, 0, 0, 0), []), (886, .iload_n 3, 1, (0, 0, 0, 0), []), (887, .iconst 1, 1, (0, 0, 0, 0), []), (888, .iadd, 1, (0, 0, 0, 0), []), (889, .iaload, 1, (0, 0, 0, 0), []), (890, .invokevirtual 121, 3, (3, 212, 11, 0), [1477, 1478, 1476]), (893, .pop, 1, (0, 0, 0, 0), []), (894, .goto 279, 3, (0, 0, 0, 0), [])]
def mc_law_28 : List ax_EN := [(897, .aload_n 1, 1, (0, 0, 0, 0), []), (898, .aload_n 0, 1, (0, 0, 0, 0), []), (899, .iload_n 3, 1, (0, 0, 0, 0), []), (900, .iconst 1, 1, (0, 0, 0, 0), []), (901, .iadd, 1, (0, 0, 0, 0), []), (902, .iaload, 1, (0, 0, 0, 0), []), (903, .aload_n 0, 1, (0, 0, 0, 0), []), (904, .iload_n 3, 1, (0, 0, 0, 0), []), (905, .iconst 2, 1, (0, 0, 0, 0), []), (906, .iadd, 1, (0, 0, 0, 0), []), (907, .iaload, 1, (0, 0, 0, 0), []), (908, .invokevirtual 122, 3, (3, 127, 10, 0), [967, 968, 966]), (911, .pop, 1, (0, 0, 0, 0), []), (912, .aload_n 2, 1, (0, 0, 0, 0), []), (913, .aload_n 0, 1, (0, 0, 0, 0), []), (914, .iload_n 3, 1, (0, 0, 0, 0), []), (915, .iconst 1, 1, (0, 0, 0, 0), []), (916, .iadd, 1, (0, 0, 0, 0), []), (917, .iaload, 1, (0, 0, 0, 0), []), (918, .aload_n 0, 1, (0, 0, 0, 0), []), (919, .iload_n 3, 1, (0, 0, 0, 0), []), (920, .iconst 2, 1, (0, 0, 0, 0), []), (921, .iadd, 1, (0, 0, 0, 0), []), (922, .iaload, 1, (0, 0, 0, 0), []), (923, .invokevirtual 125, 3, (3, 213, 11, 0), [1514, 1515, 1513]), (926, .pop, 1, (0, 0, 0, 0), []), (927, .goto 246, 3, (0, 0, 0, 0), [])]
def mc_law_29 : List ax_EN := [(930, .aload_n 1, 1, (0, 0, 0, 0), []), (931, .aload_n 0, 1, (0, 0, 0, 0), []), (932, .iload_n 3, 1, (0, 0, 0, 0), []), (933, .iconst 1, 1, (0, 0, 0, 0), []), (934, .iadd, 1, (0, 0, 0, 0), []), (935, .iaload, 1, (0, 0, 0, 0), []), (936, .aload_n 0, 1, (0, 0, 0, 0), []), (937, .iload_n 3, 1, (0, 0, 0, 0), []), (938, .iconst 2, 1, (0, 0, 0, 0), []), (939, .iadd, 1, (0, 0, 0, 0), []), (940, .iaload, 1, (0, 0, 0, 0), []), (941, .invokevirtual 126, 3, (3, 128, 10, 0), [971, 972, 970]), (944, .pop, 1, (0, 0, 0, 0), []), (945, .aload_n 2, 1, (0, 0, 0, 0), []), (946, .aload_n 0, 1, (0, 0, 0, 0), []), (947, .iload_n 3, 1, (0, 0, 0, 0), []), (948, .iconst 1, 1, (0, 0, 0, 0), []), (949, .iadd, 1, (0, 0, 0, 0), []), (950, .iaload, 1, (0, 0, 0, 0), []), (951, .aload_n 0, 1, (0, 0, 0, 0), []), (952, .iload_n 3, 1, (0, 0, 0, 0), []), (953, .iconst 2, 1, (0, 0, 0, 0), []), (954, .iadd, 1, (0, 0, 0, 0), []), (955, .iaload, 1, (0, 0, 0, 0), []), (956, .invokevirtual 129, 3, (3, 214, 11, 0), [1520, 1521, 1519]), (959, .pop, 1, (0, 0, 0, 0), [])]
def mc_law_30 : List ax_EN := [(960, .goto 213, 3, (0, 0, 0, 0), []), (963, .aload_n 1, 1, (0, 0, 0, 0), []), (964, .aload_n 0, 1, (0, 0, 0, 0), []), (965, .iload_n 3, 1, (0, 0, 0, 0), []), (966, .iconst 1, 1, (0, 0, 0, 0), []), (967, .iadd, 1, (0, 0, 0, 0), []), (968, .iaload, 1, (0, 0, 0, 0), []), (969, .aload_n 0, 1, (0, 0, 0, 0), []), (970, .iload_n 3, 1, (0, 0, 0, 0), []), (971, .iconst 2, 1, (0, 0, 0, 0), []), (972, .iadd, 1, (0, 0, 0, 0), []), (973, .iaload, 1, (0, 0, 0, 0), []), (974, .invokevirtual 130, 3, (3, 129, 10, 0), [975, 976, 974]), (977, .pop, 1, (0, 0, 0, 0), []), (978, .aload_n 2, 1, (0, 0, 0, 0), []), (979, .aload_n 0, 1, (0, 0, 0, 0), []), (980, .iload_n 3, 1, (0, 0, 0, 0), []), (981, .iconst 1, 1, (0, 0, 0, 0), []), (982, .iadd, 1, (0, 0, 0, 0), []), (983, .iaload, 1, (0, 0, 0, 0), []), (984, .aload_n 0, 1, (0, 0, 0, 0), []), (985, .iload_n 3, 1, (0, 0, 0, 0), []), (986, .iconst 2, 1, (0, 0, 0, 0), []), (987, .iadd, 1, (0, 0, 0, 0), []), (988, .iaload, 1, (0, 0, 0, 0), []), (989, .invokevirtual 133, 3, (3, 216, 11, 0), [1524, 1525, 1523])]
def mc_law_31 : List ax_EN := [(992, .pop, 1, (0, 0, 0, 0), []), (993, .goto 180, 3, (0, 0, 0, 0), []), (996, .aload_n 1, 1, (0, 0, 0, 0), []), (997, .aload_n 0, 1, (0, 0, 0, 0), []), (998, .iload_n 3, 1, (0, 0, 0, 0), []), (999, .iconst 1, 1, (0, 0, 0, 0), []), (1000, .iadd, 1, (0, 0, 0, 0), []), (1001, .iaload, 1, (0, 0, 0, 0), []), (1002, .invokevirtual 134, 3, (3, 130, 10, 0), [991, 992, 990]), (1005, .pop, 1, (0, 0, 0, 0), []), (1006, .aload_n 2, 1, (0, 0, 0, 0), []), (1007, .aload_n 0, 1, (0, 0, 0, 0), []), (1008, .iload_n 3, 1, (0, 0, 0, 0), []), (1009, .iconst 1, 1, (0, 0, 0, 0), []), (1010, .iadd, 1, (0, 0, 0, 0), []), (1011, .iaload, 1, (0, 0, 0, 0), []), (1012, .invokevirtual 137, 3, (3, 218, 11, 0), [1531, 1532, 1530]), (1015, .pop, 1, (0, 0, 0, 0), []), (1016, .goto 157, 3, (0, 0, 0, 0), []), (1019, .aload_n 1, 1, (0, 0, 0, 0), []), (1020, .aload_n 0, 1, (0, 0, 0, 0), []), (1021, .iload_n 3, 1, (0, 0, 0, 0), []), (1022, .iconst 1, 1, (0, 0, 0, 0), []), (1023, .iadd, 1, (0, 0, 0, 0), [])]
def mc_law_32 : List ax_EN := [(1024, .iaload, 1, (0, 0, 0, 0), []), (1025, .invokevirtual 138, 3, (3, 131, 10, 0), [995, 996, 994]), (1028, .pop, 1, (0, 0, 0, 0), []), (1029, .aload_n 2, 1, (0, 0, 0, 0), []), (1030, .aload_n 0, 1, (0, 0, 0, 0), []), (1031, .iload_n 3, 1, (0, 0, 0, 0), []), (1032, .iconst 1, 1, (0, 0, 0, 0), []), (1033, .iadd, 1, (0, 0, 0, 0), []), (1034, .iaload, 1, (0, 0, 0, 0), []), (1035, .invokevirtual 141, 3, (3, 219, 11, 0), [1539, 1540, 1538]), (1038, .pop, 1, (0, 0, 0, 0), []), (1039, .goto 134, 3, (0, 0, 0, 0), []), (1042, .aload_n 1, 1, (0, 0, 0, 0), []), (1043, .aload_n 0, 1, (0, 0, 0, 0), []), (1044, .iload_n 3, 1, (0, 0, 0, 0), []), (1045, .iconst 1, 1, (0, 0, 0, 0), []), (1046, .iadd, 1, (0, 0, 0, 0), []), (1047, .iaload, 1, (0, 0, 0, 0), []), (1048, .aload_n 0, 1, (0, 0, 0, 0), []), (1049, .iload_n 3, 1, (0, 0, 0, 0), []), (1050, .iconst 2, 1, (0, 0, 0, 0), []), (1051, .iadd, 1, (0, 0, 0, 0), []), (1052, .iaload, 1, (0, 0, 0, 0), []), (1053, .invokevirtual 142, 3, (3, 132, 10, 0), [999, 1000, 998])]
def mc_law_33 : List ax_EN := [(1056, .pop, 1, (0, 0, 0, 0), []), (1057, .aload_n 2, 1, (0, 0, 0, 0), []), (1058, .aload_n 0, 1, (0, 0, 0, 0), []), (1059, .iload_n 3, 1, (0, 0, 0, 0), []), (1060, .iconst 1, 1, (0, 0, 0, 0), []), (1061, .iadd, 1, (0, 0, 0, 0), []), (1062, .iaload, 1, (0, 0, 0, 0), []), (1063, .aload_n 0, 1, (0, 0, 0, 0), []), (1064, .iload_n 3, 1, (0, 0, 0, 0), []), (1065, .iconst 2, 1, (0, 0, 0, 0), []), (1066, .iadd, 1, (0, 0, 0, 0), []), (1067, .iaload, 1, (0, 0, 0, 0), []), (1068, .invokevirtual 145, 3, (3, 220, 11, 0), [1543, 1544, 1542]), (1071, .pop, 1, (0, 0, 0, 0), []), (1072, .goto 101, 3, (0, 0, 0, 0), []), (1075, .aload_n 1, 1, (0, 0, 0, 0), []), (1076, .invokevirtual 146, 3, (3, 133, 10, 0), [1009, 1010, 1008]), (1079, .pop, 1, (0, 0, 0, 0), []), (1080, .aload_n 2, 1, (0, 0, 0, 0), []), (1081, .invokevirtual 149, 3, (3, 222, 11, 0), [1551, 1552, 1550]), (1084, .pop, 1, (0, 0, 0, 0), []), (1085, .goto 88, 3, (0, 0, 0, 0), [])]
def mc_law_34 : List ax_EN := [(1088, .aload_n 1, 1, (0, 0, 0, 0), []), (1089, .invokevirtual 150, 3, (3, 134, 10, 0), [1017, 1018, 1016]), (1092, .pop, 1, (0, 0, 0, 0), []), (1093, .aload_n 2, 1, (0, 0, 0, 0), []), (1094, .invokevirtual 153, 3, (3, 226, 11, 0), [1555, 1556, 1554]), (1097, .pop, 1, (0, 0, 0, 0), []), (1098, .goto 75, 3, (0, 0, 0, 0), []), (1101, .aload_n 1, 1, (0, 0, 0, 0), []), (1102, .invokevirtual 154, 3, (3, 135, 10, 0), [1029, 1030, 1028]), (1105, .pop, 1, (0, 0, 0, 0), []), (1106, .aload_n 2, 1, (0, 0, 0, 0), []), (1107, .invokevirtual 157, 3, (3, 227, 11, 0), [1571, 1572, 1570]), (1110, .pop, 1, (0, 0, 0, 0), []), (1111, .goto 62, 3, (0, 0, 0, 0), []), (1114, .aload_n 1, 1, (0, 0, 0, 0), []), (1115, .aload_n 0, 1, (0, 0, 0, 0), []), (1116, .iload_n 3, 1, (0, 0, 0, 0), []), (1117, .iconst 1, 1, (0, 0, 0, 0), []), (1118, .iadd, 1, (0, 0, 0, 0), []), (1119, .iaload, 1, (0, 0, 0, 0), [])]
def mc_law_35 : List ax_EN := [(1120, .invokevirtual 158, 3, (3, 136, 10, 0), [1038, 1039, 1037]), (1123, .pop, 1, (0, 0, 0, 0), []), (1124, .aload_n 2, 1, (0, 0, 0, 0), []), (1125, .aload_n 0, 1, (0, 0, 0, 0), []), (1126, .iload_n 3, 1, (0, 0, 0, 0), []), (1127, .iconst 1, 1, (0, 0, 0, 0), []), (1128, .iadd, 1, (0, 0, 0, 0), []), (1129, .iaload, 1, (0, 0, 0, 0), []), (1130, .invokevirtual 161, 3, (3, 231, 11, 0), [1575, 1576, 1574]), (1133, .pop, 1, (0, 0, 0, 0), []), (1134, .goto 39, 3, (0, 0, 0, 0), []), (1137, .aload_n 1, 1, (0, 0, 0, 0), []), (1138, .aload_n 0, 1, (0, 0, 0, 0), []), (1139, .iload_n 3, 1, (0, 0, 0, 0), []), (1140, .iconst 1, 1, (0, 0, 0, 0), []), (1141, .iadd, 1, (0, 0, 0, 0), []), (1142, .iaload, 1, (0, 0, 0, 0), []), (1143, .invokevirtual 162, 3, (3, 137, 10, 0), [1070, 1071, 1069]), (1146, .pop, 1, (0, 0, 0, 0), []), (1147, .aload_n 2, 1, (0, 0, 0, 0), []), (1148, .aload_n 0, 1, (0, 0, 0, 0), []), (1149, .iload_n 3, 1, (0, 0, 0, 0), []), (1150, .iconst 1, 1, (0, 0, 0, 0), []), (1151, .iadd, 1, (0, 0, 0, 0), [])]
def mc_law_36 : List ax_EN := [(1152, .iaload, 1, (0, 0, 0, 0), []), (1153, .invokevirtual 165, 3, (3, 232, 11, 0), [1591, 1592, 1590]), (1156, .pop, 1, (0, 0, 0, 0), []), (1157, .goto 16, 3, (0, 0, 0, 0), []), (1160, .aload_n 1, 1, (0, 0, 0, 0), []), (1161, .invokevirtual 166, 3, (3, 138, 10, 0), [1074, 1075, 1073]), (1165, .aload_n 2, 1, (0, 0, 0, 0), []), (1166, .invokevirtual 170, 3, (3, 235, 11, 0), [1595, 1596, 1594]), (1170, .goto 3, 3, (0, 0, 0, 0), []), (1173, .iinc 3 5, 3, (0, 0, 0, 0), []), (1176, .goto (-1158), 3, (0, 0, 0, 0), []), (1179, .iconst 1, 1, (0, 0, 0, 0), []), (1180, .ireturn, 1, (0, 0, 0, 0), [])]
def lw_tab : List (List ax_EN) := [mc_law_0, mc_law_1, mc_law_2, mc_law_3, mc_law_4, mc_law_5, mc_law_6, mc_law_7, mc_law_8, mc_law_9, mc_law_10, mc_law_11, mc_law_12, mc_law_13, mc_law_14, mc_law_15, mc_law_16, mc_law_17, mc_law_18, mc_law_19, mc_law_20, mc_law_21, mc_law_22, mc_law_23, mc_law_24, mc_law_25, mc_law_26, mc_law_27, mc_law_28, mc_law_29, mc_law_30, mc_law_31, mc_law_32, mc_law_33, mc_law_34, mc_law_35, mc_law_36]
set_option maxRecDepth 100000 in
theorem ct_law_0 : mc_law_0.all (ax_chkE mt_prog "LetterSumsLaw" "law" code) = true := by decide +kernel
set_option maxRecDepth 100000 in
theorem ct_law_1 : mc_law_1.all (ax_chkE mt_prog "LetterSumsLaw" "law" code) = true := by decide +kernel
theorem ct_law_2 : mc_law_2.all (ax_chkE mt_prog "LetterSumsLaw" "law" code) = true := rfl
theorem ct_law_3 : mc_law_3.all (ax_chkE mt_prog "LetterSumsLaw" "law" code) = true := rfl
theorem ct_law_4 : mc_law_4.all (ax_chkE mt_prog "LetterSumsLaw" "law" code) = true := rfl
theorem ct_law_5 : mc_law_5.all (ax_chkE mt_prog "LetterSumsLaw" "law" code) = true := rfl
set_option maxRecDepth 100000 in
theorem ct_law_6 : mc_law_6.all (ax_chkE mt_prog "LetterSumsLaw" "law" code) = true := by decide +kernel
set_option maxRecDepth 100000 in
theorem ct_law_7 : mc_law_7.all (ax_chkE mt_prog "LetterSumsLaw" "law" code) = true := by decide +kernel
set_option maxRecDepth 100000 in
theorem ct_law_8 : mc_law_8.all (ax_chkE mt_prog "LetterSumsLaw" "law" code) = true := by decide +kernel
set_option maxRecDepth 100000 in
theorem ct_law_9 : mc_law_9.all (ax_chkE mt_prog "LetterSumsLaw" "law" code) = true := by decide +kernel
set_option maxRecDepth 100000 in
theorem ct_law_10 : mc_law_10.all (ax_chkE mt_prog "LetterSumsLaw" "law" code) = true := by decide +kernel
set_option maxRecDepth 100000 in
theorem ct_law_11 : mc_law_11.all (ax_chkE mt_prog "LetterSumsLaw" "law" code) = true := by decide +kernel
set_option maxRecDepth 100000 in
theorem ct_law_12 : mc_law_12.all (ax_chkE mt_prog "LetterSumsLaw" "law" code) = true := by decide +kernel
set_option maxRecDepth 100000 in
theorem ct_law_13 : mc_law_13.all (ax_chkE mt_prog "LetterSumsLaw" "law" code) = true := by decide +kernel
set_option maxRecDepth 100000 in
theorem ct_law_14 : mc_law_14.all (ax_chkE mt_prog "LetterSumsLaw" "law" code) = true := by decide +kernel
set_option maxRecDepth 100000 in
theorem ct_law_15 : mc_law_15.all (ax_chkE mt_prog "LetterSumsLaw" "law" code) = true := by decide +kernel
set_option maxRecDepth 100000 in
theorem ct_law_16 : mc_law_16.all (ax_chkE mt_prog "LetterSumsLaw" "law" code) = true := by decide +kernel
set_option maxRecDepth 100000 in
theorem ct_law_17 : mc_law_17.all (ax_chkE mt_prog "LetterSumsLaw" "law" code) = true := by decide +kernel
end
section
/-! ===== the law's instructions, checked: the rest ===== -/
set_option maxRecDepth 100000 in
theorem ct_law_18 : mc_law_18.all (ax_chkE mt_prog "LetterSumsLaw" "law" code) = true := by decide +kernel
set_option maxRecDepth 100000 in
theorem ct_law_19 : mc_law_19.all (ax_chkE mt_prog "LetterSumsLaw" "law" code) = true := by decide +kernel
set_option maxRecDepth 100000 in
theorem ct_law_20 : mc_law_20.all (ax_chkE mt_prog "LetterSumsLaw" "law" code) = true := by decide +kernel
set_option maxRecDepth 100000 in
theorem ct_law_21 : mc_law_21.all (ax_chkE mt_prog "LetterSumsLaw" "law" code) = true := by decide +kernel
set_option maxRecDepth 100000 in
theorem ct_law_22 : mc_law_22.all (ax_chkE mt_prog "LetterSumsLaw" "law" code) = true := by decide +kernel
set_option maxRecDepth 100000 in
theorem ct_law_23 : mc_law_23.all (ax_chkE mt_prog "LetterSumsLaw" "law" code) = true := by decide +kernel
set_option maxRecDepth 100000 in
theorem ct_law_24 : mc_law_24.all (ax_chkE mt_prog "LetterSumsLaw" "law" code) = true := by decide +kernel
set_option maxRecDepth 100000 in
theorem ct_law_25 : mc_law_25.all (ax_chkE mt_prog "LetterSumsLaw" "law" code) = true := by decide +kernel
set_option maxRecDepth 100000 in
theorem ct_law_26 : mc_law_26.all (ax_chkE mt_prog "LetterSumsLaw" "law" code) = true := by decide +kernel
set_option maxRecDepth 100000 in
theorem ct_law_27 : mc_law_27.all (ax_chkE mt_prog "LetterSumsLaw" "law" code) = true := by decide +kernel
set_option maxRecDepth 100000 in
theorem ct_law_28 : mc_law_28.all (ax_chkE mt_prog "LetterSumsLaw" "law" code) = true := by decide +kernel
set_option maxRecDepth 100000 in
theorem ct_law_29 : mc_law_29.all (ax_chkE mt_prog "LetterSumsLaw" "law" code) = true := by decide +kernel
set_option maxRecDepth 100000 in
theorem ct_law_30 : mc_law_30.all (ax_chkE mt_prog "LetterSumsLaw" "law" code) = true := by decide +kernel
set_option maxRecDepth 100000 in
theorem ct_law_31 : mc_law_31.all (ax_chkE mt_prog "LetterSumsLaw" "law" code) = true := by decide +kernel
set_option maxRecDepth 100000 in
theorem ct_law_32 : mc_law_32.all (ax_chkE mt_prog "LetterSumsLaw" "law" code) = true := by decide +kernel
set_option maxRecDepth 100000 in
theorem ct_law_33 : mc_law_33.all (ax_chkE mt_prog "LetterSumsLaw" "law" code) = true := by decide +kernel
set_option maxRecDepth 100000 in
theorem ct_law_34 : mc_law_34.all (ax_chkE mt_prog "LetterSumsLaw" "law" code) = true := by decide +kernel
set_option maxRecDepth 100000 in
theorem ct_law_35 : mc_law_35.all (ax_chkE mt_prog "LetterSumsLaw" "law" code) = true := by decide +kernel
set_option maxRecDepth 100000 in
theorem ct_law_36 : mc_law_36.all (ax_chkE mt_prog "LetterSumsLaw" "law" code) = true := by decide +kernel
theorem lw_tab_all : ∀ ch ∈ lw_tab, ch.all (ax_chkE mt_prog "LetterSumsLaw" "law" code) = true := List.forall_mem_cons.mpr ⟨ct_law_0, List.forall_mem_cons.mpr ⟨ct_law_1, List.forall_mem_cons.mpr ⟨ct_law_2, List.forall_mem_cons.mpr ⟨ct_law_3, List.forall_mem_cons.mpr ⟨ct_law_4, List.forall_mem_cons.mpr ⟨ct_law_5, List.forall_mem_cons.mpr ⟨ct_law_6, List.forall_mem_cons.mpr ⟨ct_law_7, List.forall_mem_cons.mpr ⟨ct_law_8, List.forall_mem_cons.mpr ⟨ct_law_9, List.forall_mem_cons.mpr ⟨ct_law_10, List.forall_mem_cons.mpr ⟨ct_law_11, List.forall_mem_cons.mpr ⟨ct_law_12, List.forall_mem_cons.mpr ⟨ct_law_13, List.forall_mem_cons.mpr ⟨ct_law_14, List.forall_mem_cons.mpr ⟨ct_law_15, List.forall_mem_cons.mpr ⟨ct_law_16, List.forall_mem_cons.mpr ⟨ct_law_17, List.forall_mem_cons.mpr ⟨ct_law_18, List.forall_mem_cons.mpr ⟨ct_law_19, List.forall_mem_cons.mpr ⟨ct_law_20, List.forall_mem_cons.mpr ⟨ct_law_21, List.forall_mem_cons.mpr ⟨ct_law_22, List.forall_mem_cons.mpr ⟨ct_law_23, List.forall_mem_cons.mpr ⟨ct_law_24, List.forall_mem_cons.mpr ⟨ct_law_25, List.forall_mem_cons.mpr ⟨ct_law_26, List.forall_mem_cons.mpr ⟨ct_law_27, List.forall_mem_cons.mpr ⟨ct_law_28, List.forall_mem_cons.mpr ⟨ct_law_29, List.forall_mem_cons.mpr ⟨ct_law_30, List.forall_mem_cons.mpr ⟨ct_law_31, List.forall_mem_cons.mpr ⟨ct_law_32, List.forall_mem_cons.mpr ⟨ct_law_33, List.forall_mem_cons.mpr ⟨ct_law_34, List.forall_mem_cons.mpr ⟨ct_law_35, List.forall_mem_cons.mpr ⟨ct_law_36, fun _ h => absurd h List.not_mem_nil⟩⟩⟩⟩⟩⟩⟩⟩⟩⟩⟩⟩⟩⟩⟩⟩⟩⟩⟩⟩⟩⟩⟩⟩⟩⟩⟩⟩⟩⟩⟩⟩⟩⟩⟩⟩⟩
theorem lw_tab_ok : ∀ ch ∈ lw_tab, ∀ en ∈ ch, ax_Ok mt_prog "LetterSumsLaw" "law" code en.1 en.2.1 en.2.2.1 en.2.2.2.1 := fun ch hch en hen => ax_chkE_ok (List.all_eq_true.mp (lw_tab_all ch hch) en hen)
end
section
/-! ===== the cells behind the two constructors ===== -/
def hm_0 : List ax_D := [.inr (10, [.ref 1, .ref 3, .ref 4, .ref 5, .ref 22, .ref 28, .ref 34, .ref 35, .int 0, .int 0, .int 0]), .inr (4, [.ref 2, .int 0]), .inl (0, 80, .inl []), .inl (3, 6, .inr [(5, some 142), (4, some 138), (3, some 134), (2, some 130), (1, some 126), (0, some 122)]), .inl (2, 12, .inr [(11, some 168), (10, some 166), (9, some 164), (8, some 162), (7, some 160), (6, some 158), (5, some 156), (4, some 154), (3, some 152), (2, some 150), (1, some 148), (0, some 146)]), .inr (9, [.ref 6, .ref 11, .ref 16, .ref 18, .int (-1), .int 0, .int 0, .int 0, .int (-1), .int 0]), .inr (8, [.ref 7, .ref 8, .ref 9, .ref 10]), .inl (0, 15, .inl [(14, 10000000), (13, 1000000), (12, 500000), (11, 100000), (10, 50000), (9, 10000), (8, 5000), (7, 1000), (6, 1000), (5, 500), (4, 100), (3, 50), (2, 10), (1, 5), (0, 1)]), .inl (0, 15, .inl [(14, 2), (13, 12), (12, 4), (11, 12), (10, 4), (9, 12), (8, 4), (7, 24), (6, 12), (5, 4), (4, 12), (3, 4), (2, 12), (1, 4), (0, 0)]), .inl (0, 15, .inl [(14, 134), (13, 121), (12, 116), (11, 103), (10, 98), (9, 85), (8, 80), (7, 55), (6, 42), (5, 37), (4, 24), (3, 19), (2, 6), (1, 1), (0, 0)]), .inl (0, 3425, .inl []), .inr (8, [.ref 12, .ref 13, .ref 14, .ref 15]), .inl (0, 15, .inl [(14, 10000000), (13, 1000000), (12, 500000), (11, 100000), (10, 50000), (9, 10000), (8, 5000), (7, 1000), (6, 1000), (5, 500), (4, 100), (3, 50), (2, 10), (1, 5), (0, 1)]), .inl (0, 15, .inl [(14, 3), (13, 13), (12, 5), (11, 13), (10, 5), (9, 13), (8, 5), (7, 24), (6, 13), (5, 5), (4, 13), (3, 5), (2, 13), (1, 5), (0, 1)]), .inl (0, 15, .inl [(14, 147), (13, 133), (12, 127), (11, 113), (10, 107), (9, 93), (8, 87), (7, 62), (6, 48), (5, 42), (4, 28), (3, 22), (2, 8), (1, 2), (0, 0)]), .inl (0, 3775, .inl []), .inr (5, [.ref 17, .int 1]), .inl (0, 24, .inl []), .inr (1, [.ref 19, .ref 20, .ref 21]), .inl (0, 14, .inl []), .inl (0, 14, .inl []), .inl (0, 14, .inl []), .inr (0, [.ref 23, .ref 24, .ref 25, .ref 26, .ref 27, .int 0]), .inl (0, 7, .inl []), .inl (0, 7, .inl []), .inl (0, 7, .inl []), .inl (0, 7, .inl []), .inl (0, 300, .inl []), .inr (7, [.ref 29, .int 0, .int 0, .ref 30, .ref 32, .ref 33, .int 0, .int 0, .int (-1)]), .inl (0, 21, .inl []), .inr (5, [.ref 31, .int 1]), .inl (0, 24, .inl [])]
def hm_1 : List ax_D := [.inl (0, 1, .inl []), .inl (0, 20, .inl []), .inl (4, 6, .inr [(5, some 480), (4, some 418), (3, some 356), (2, some 294), (1, some 232), (0, some 170)]), .inr (2, [.ref 36, .ref 37, .ref 38, .ref 39, .int 0, .ref 40, .int 0, .int 0, .int (-1), .int (-1), .int (-1), .int (-1)]), .inl (2, 20, .inr [(19, some 118), (18, some 114), (17, some 110), (16, some 106), (15, some 102), (14, some 98), (13, some 94), (12, some 90), (11, some 86), (10, some 82), (9, some 78), (8, some 74), (7, some 70), (6, some 66), (5, some 62), (4, some 58), (3, some 54), (2, some 50), (1, some 46), (0, some 42)]), .inl (2, 20, .inr [(19, some 120), (18, some 116), (17, some 112), (16, some 108), (15, some 104), (14, some 100), (13, some 96), (12, some 92), (11, some 88), (10, some 84), (9, some 80), (8, some 76), (7, some 72), (6, some 68), (5, some 64), (4, some 60), (3, some 56), (2, some 52), (1, some 48), (0, some 44)]), .inl (0, 20, .inl []), .inl (0, 20, .inl []), .inr (5, [.ref 41, .int 1]), .inl (0, 24, .inl []), .inr (5, [.ref 43, .int 1]), .inl (0, 24, .inl []), .inr (5, [.ref 45, .int 1]), .inl (0, 24, .inl []), .inr (5, [.ref 47, .int 1]), .inl (0, 24, .inl []), .inr (5, [.ref 49, .int 1]), .inl (0, 24, .inl []), .inr (5, [.ref 51, .int 1]), .inl (0, 24, .inl []), .inr (5, [.ref 53, .int 1]), .inl (0, 24, .inl []), .inr (5, [.ref 55, .int 1]), .inl (0, 24, .inl []), .inr (5, [.ref 57, .int 1]), .inl (0, 24, .inl []), .inr (5, [.ref 59, .int 1]), .inl (0, 24, .inl []), .inr (5, [.ref 61, .int 1]), .inl (0, 24, .inl []), .inr (5, [.ref 63, .int 1]), .inl (0, 24, .inl [])]
def hm_2 : List ax_D := [.inr (5, [.ref 65, .int 1]), .inl (0, 24, .inl []), .inr (5, [.ref 67, .int 1]), .inl (0, 24, .inl []), .inr (5, [.ref 69, .int 1]), .inl (0, 24, .inl []), .inr (5, [.ref 71, .int 1]), .inl (0, 24, .inl []), .inr (5, [.ref 73, .int 1]), .inl (0, 24, .inl []), .inr (5, [.ref 75, .int 1]), .inl (0, 24, .inl []), .inr (5, [.ref 77, .int 1]), .inl (0, 24, .inl []), .inr (5, [.ref 79, .int 1]), .inl (0, 24, .inl []), .inr (5, [.ref 81, .int 1]), .inl (0, 24, .inl []), .inr (5, [.ref 83, .int 1]), .inl (0, 24, .inl []), .inr (5, [.ref 85, .int 1]), .inl (0, 24, .inl []), .inr (5, [.ref 87, .int 1]), .inl (0, 24, .inl []), .inr (5, [.ref 89, .int 1]), .inl (0, 24, .inl []), .inr (5, [.ref 91, .int 1]), .inl (0, 24, .inl []), .inr (5, [.ref 93, .int 1]), .inl (0, 24, .inl []), .inr (5, [.ref 95, .int 1]), .inl (0, 24, .inl [])]
def hm_3 : List ax_D := [.inr (5, [.ref 97, .int 1]), .inl (0, 24, .inl []), .inr (5, [.ref 99, .int 1]), .inl (0, 24, .inl []), .inr (5, [.ref 101, .int 1]), .inl (0, 24, .inl []), .inr (5, [.ref 103, .int 1]), .inl (0, 24, .inl []), .inr (5, [.ref 105, .int 1]), .inl (0, 24, .inl []), .inr (5, [.ref 107, .int 1]), .inl (0, 24, .inl []), .inr (5, [.ref 109, .int 1]), .inl (0, 24, .inl []), .inr (5, [.ref 111, .int 1]), .inl (0, 24, .inl []), .inr (5, [.ref 113, .int 1]), .inl (0, 24, .inl []), .inr (5, [.ref 115, .int 1]), .inl (0, 24, .inl []), .inr (5, [.ref 117, .int 1]), .inl (0, 24, .inl []), .inr (5, [.ref 119, .int 1]), .inl (0, 24, .inl []), .inr (5, [.ref 121, .int 1]), .inl (0, 24, .inl []), .inr (1, [.ref 123, .ref 124, .ref 125]), .inl (0, 14, .inl []), .inl (0, 14, .inl []), .inl (0, 14, .inl []), .inr (1, [.ref 127, .ref 128, .ref 129]), .inl (0, 14, .inl [])]
def hm_4 : List ax_D := [.inl (0, 14, .inl []), .inl (0, 14, .inl []), .inr (1, [.ref 131, .ref 132, .ref 133]), .inl (0, 14, .inl []), .inl (0, 14, .inl []), .inl (0, 14, .inl []), .inr (1, [.ref 135, .ref 136, .ref 137]), .inl (0, 14, .inl []), .inl (0, 14, .inl []), .inl (0, 14, .inl []), .inr (1, [.ref 139, .ref 140, .ref 141]), .inl (0, 14, .inl []), .inl (0, 14, .inl []), .inl (0, 14, .inl []), .inr (1, [.ref 143, .ref 144, .ref 145]), .inl (0, 14, .inl []), .inl (0, 14, .inl []), .inl (0, 14, .inl []), .inr (5, [.ref 147, .int 1]), .inl (0, 24, .inl []), .inr (5, [.ref 149, .int 1]), .inl (0, 24, .inl []), .inr (5, [.ref 151, .int 1]), .inl (0, 24, .inl []), .inr (5, [.ref 153, .int 1]), .inl (0, 24, .inl []), .inr (5, [.ref 155, .int 1]), .inl (0, 24, .inl []), .inr (5, [.ref 157, .int 1]), .inl (0, 24, .inl []), .inr (5, [.ref 159, .int 1]), .inl (0, 24, .inl [])]
def hm_5 : List ax_D := [.inr (5, [.ref 161, .int 1]), .inl (0, 24, .inl []), .inr (5, [.ref 163, .int 1]), .inl (0, 24, .inl []), .inr (5, [.ref 165, .int 1]), .inl (0, 24, .inl []), .inr (5, [.ref 167, .int 1]), .inl (0, 24, .inl []), .inr (5, [.ref 169, .int 1]), .inl (0, 24, .inl []), .inr (3, [.ref 171, .int 0, .int 0]), .inl (2, 30, .inr [(29, some 230), (28, some 228), (27, some 226), (26, some 224), (25, some 222), (24, some 220), (23, some 218), (22, some 216), (21, some 214), (20, some 212), (19, some 210), (18, some 208), (17, some 206), (16, some 204), (15, some 202), (14, some 200), (13, some 198), (12, some 196), (11, some 194), (10, some 192), (9, some 190), (8, some 188), (7, some 186), (6, some 184), (5, some 182), (4, some 180), (3, some 178), (2, some 176), (1, some 174), (0, some 172)]), .inr (5, [.ref 173, .int 1]), .inl (0, 24, .inl []), .inr (5, [.ref 175, .int 1]), .inl (0, 24, .inl []), .inr (5, [.ref 177, .int 1]), .inl (0, 24, .inl []), .inr (5, [.ref 179, .int 1]), .inl (0, 24, .inl []), .inr (5, [.ref 181, .int 1]), .inl (0, 24, .inl []), .inr (5, [.ref 183, .int 1]), .inl (0, 24, .inl []), .inr (5, [.ref 185, .int 1]), .inl (0, 24, .inl []), .inr (5, [.ref 187, .int 1]), .inl (0, 24, .inl []), .inr (5, [.ref 189, .int 1]), .inl (0, 24, .inl []), .inr (5, [.ref 191, .int 1]), .inl (0, 24, .inl [])]
def hm_6 : List ax_D := [.inr (5, [.ref 193, .int 1]), .inl (0, 24, .inl []), .inr (5, [.ref 195, .int 1]), .inl (0, 24, .inl []), .inr (5, [.ref 197, .int 1]), .inl (0, 24, .inl []), .inr (5, [.ref 199, .int 1]), .inl (0, 24, .inl []), .inr (5, [.ref 201, .int 1]), .inl (0, 24, .inl []), .inr (5, [.ref 203, .int 1]), .inl (0, 24, .inl []), .inr (5, [.ref 205, .int 1]), .inl (0, 24, .inl []), .inr (5, [.ref 207, .int 1]), .inl (0, 24, .inl []), .inr (5, [.ref 209, .int 1]), .inl (0, 24, .inl []), .inr (5, [.ref 211, .int 1]), .inl (0, 24, .inl []), .inr (5, [.ref 213, .int 1]), .inl (0, 24, .inl []), .inr (5, [.ref 215, .int 1]), .inl (0, 24, .inl []), .inr (5, [.ref 217, .int 1]), .inl (0, 24, .inl []), .inr (5, [.ref 219, .int 1]), .inl (0, 24, .inl []), .inr (5, [.ref 221, .int 1]), .inl (0, 24, .inl []), .inr (5, [.ref 223, .int 1]), .inl (0, 24, .inl [])]
def hm_7 : List ax_D := [.inr (5, [.ref 225, .int 1]), .inl (0, 24, .inl []), .inr (5, [.ref 227, .int 1]), .inl (0, 24, .inl []), .inr (5, [.ref 229, .int 1]), .inl (0, 24, .inl []), .inr (5, [.ref 231, .int 1]), .inl (0, 24, .inl []), .inr (3, [.ref 233, .int 0, .int 0]), .inl (2, 30, .inr [(29, some 292), (28, some 290), (27, some 288), (26, some 286), (25, some 284), (24, some 282), (23, some 280), (22, some 278), (21, some 276), (20, some 274), (19, some 272), (18, some 270), (17, some 268), (16, some 266), (15, some 264), (14, some 262), (13, some 260), (12, some 258), (11, some 256), (10, some 254), (9, some 252), (8, some 250), (7, some 248), (6, some 246), (5, some 244), (4, some 242), (3, some 240), (2, some 238), (1, some 236), (0, some 234)]), .inr (5, [.ref 235, .int 1]), .inl (0, 24, .inl []), .inr (5, [.ref 237, .int 1]), .inl (0, 24, .inl []), .inr (5, [.ref 239, .int 1]), .inl (0, 24, .inl []), .inr (5, [.ref 241, .int 1]), .inl (0, 24, .inl []), .inr (5, [.ref 243, .int 1]), .inl (0, 24, .inl []), .inr (5, [.ref 245, .int 1]), .inl (0, 24, .inl []), .inr (5, [.ref 247, .int 1]), .inl (0, 24, .inl []), .inr (5, [.ref 249, .int 1]), .inl (0, 24, .inl []), .inr (5, [.ref 251, .int 1]), .inl (0, 24, .inl []), .inr (5, [.ref 253, .int 1]), .inl (0, 24, .inl []), .inr (5, [.ref 255, .int 1]), .inl (0, 24, .inl [])]
def hm_8 : List ax_D := [.inr (5, [.ref 257, .int 1]), .inl (0, 24, .inl []), .inr (5, [.ref 259, .int 1]), .inl (0, 24, .inl []), .inr (5, [.ref 261, .int 1]), .inl (0, 24, .inl []), .inr (5, [.ref 263, .int 1]), .inl (0, 24, .inl []), .inr (5, [.ref 265, .int 1]), .inl (0, 24, .inl []), .inr (5, [.ref 267, .int 1]), .inl (0, 24, .inl []), .inr (5, [.ref 269, .int 1]), .inl (0, 24, .inl []), .inr (5, [.ref 271, .int 1]), .inl (0, 24, .inl []), .inr (5, [.ref 273, .int 1]), .inl (0, 24, .inl []), .inr (5, [.ref 275, .int 1]), .inl (0, 24, .inl []), .inr (5, [.ref 277, .int 1]), .inl (0, 24, .inl []), .inr (5, [.ref 279, .int 1]), .inl (0, 24, .inl []), .inr (5, [.ref 281, .int 1]), .inl (0, 24, .inl []), .inr (5, [.ref 283, .int 1]), .inl (0, 24, .inl []), .inr (5, [.ref 285, .int 1]), .inl (0, 24, .inl []), .inr (5, [.ref 287, .int 1]), .inl (0, 24, .inl [])]
def hm_9 : List ax_D := [.inr (5, [.ref 289, .int 1]), .inl (0, 24, .inl []), .inr (5, [.ref 291, .int 1]), .inl (0, 24, .inl []), .inr (5, [.ref 293, .int 1]), .inl (0, 24, .inl []), .inr (3, [.ref 295, .int 0, .int 0]), .inl (2, 30, .inr [(29, some 354), (28, some 352), (27, some 350), (26, some 348), (25, some 346), (24, some 344), (23, some 342), (22, some 340), (21, some 338), (20, some 336), (19, some 334), (18, some 332), (17, some 330), (16, some 328), (15, some 326), (14, some 324), (13, some 322), (12, some 320), (11, some 318), (10, some 316), (9, some 314), (8, some 312), (7, some 310), (6, some 308), (5, some 306), (4, some 304), (3, some 302), (2, some 300), (1, some 298), (0, some 296)]), .inr (5, [.ref 297, .int 1]), .inl (0, 24, .inl []), .inr (5, [.ref 299, .int 1]), .inl (0, 24, .inl []), .inr (5, [.ref 301, .int 1]), .inl (0, 24, .inl []), .inr (5, [.ref 303, .int 1]), .inl (0, 24, .inl []), .inr (5, [.ref 305, .int 1]), .inl (0, 24, .inl []), .inr (5, [.ref 307, .int 1]), .inl (0, 24, .inl []), .inr (5, [.ref 309, .int 1]), .inl (0, 24, .inl []), .inr (5, [.ref 311, .int 1]), .inl (0, 24, .inl []), .inr (5, [.ref 313, .int 1]), .inl (0, 24, .inl []), .inr (5, [.ref 315, .int 1]), .inl (0, 24, .inl []), .inr (5, [.ref 317, .int 1]), .inl (0, 24, .inl []), .inr (5, [.ref 319, .int 1]), .inl (0, 24, .inl [])]
def hm_10 : List ax_D := [.inr (5, [.ref 321, .int 1]), .inl (0, 24, .inl []), .inr (5, [.ref 323, .int 1]), .inl (0, 24, .inl []), .inr (5, [.ref 325, .int 1]), .inl (0, 24, .inl []), .inr (5, [.ref 327, .int 1]), .inl (0, 24, .inl []), .inr (5, [.ref 329, .int 1]), .inl (0, 24, .inl []), .inr (5, [.ref 331, .int 1]), .inl (0, 24, .inl []), .inr (5, [.ref 333, .int 1]), .inl (0, 24, .inl []), .inr (5, [.ref 335, .int 1]), .inl (0, 24, .inl []), .inr (5, [.ref 337, .int 1]), .inl (0, 24, .inl []), .inr (5, [.ref 339, .int 1]), .inl (0, 24, .inl []), .inr (5, [.ref 341, .int 1]), .inl (0, 24, .inl []), .inr (5, [.ref 343, .int 1]), .inl (0, 24, .inl []), .inr (5, [.ref 345, .int 1]), .inl (0, 24, .inl []), .inr (5, [.ref 347, .int 1]), .inl (0, 24, .inl []), .inr (5, [.ref 349, .int 1]), .inl (0, 24, .inl []), .inr (5, [.ref 351, .int 1]), .inl (0, 24, .inl [])]
def hm_11 : List ax_D := [.inr (5, [.ref 353, .int 1]), .inl (0, 24, .inl []), .inr (5, [.ref 355, .int 1]), .inl (0, 24, .inl []), .inr (3, [.ref 357, .int 0, .int 0]), .inl (2, 30, .inr [(29, some 416), (28, some 414), (27, some 412), (26, some 410), (25, some 408), (24, some 406), (23, some 404), (22, some 402), (21, some 400), (20, some 398), (19, some 396), (18, some 394), (17, some 392), (16, some 390), (15, some 388), (14, some 386), (13, some 384), (12, some 382), (11, some 380), (10, some 378), (9, some 376), (8, some 374), (7, some 372), (6, some 370), (5, some 368), (4, some 366), (3, some 364), (2, some 362), (1, some 360), (0, some 358)]), .inr (5, [.ref 359, .int 1]), .inl (0, 24, .inl []), .inr (5, [.ref 361, .int 1]), .inl (0, 24, .inl []), .inr (5, [.ref 363, .int 1]), .inl (0, 24, .inl []), .inr (5, [.ref 365, .int 1]), .inl (0, 24, .inl []), .inr (5, [.ref 367, .int 1]), .inl (0, 24, .inl []), .inr (5, [.ref 369, .int 1]), .inl (0, 24, .inl []), .inr (5, [.ref 371, .int 1]), .inl (0, 24, .inl []), .inr (5, [.ref 373, .int 1]), .inl (0, 24, .inl []), .inr (5, [.ref 375, .int 1]), .inl (0, 24, .inl []), .inr (5, [.ref 377, .int 1]), .inl (0, 24, .inl []), .inr (5, [.ref 379, .int 1]), .inl (0, 24, .inl []), .inr (5, [.ref 381, .int 1]), .inl (0, 24, .inl []), .inr (5, [.ref 383, .int 1]), .inl (0, 24, .inl [])]
def hm_12 : List ax_D := [.inr (5, [.ref 385, .int 1]), .inl (0, 24, .inl []), .inr (5, [.ref 387, .int 1]), .inl (0, 24, .inl []), .inr (5, [.ref 389, .int 1]), .inl (0, 24, .inl []), .inr (5, [.ref 391, .int 1]), .inl (0, 24, .inl []), .inr (5, [.ref 393, .int 1]), .inl (0, 24, .inl []), .inr (5, [.ref 395, .int 1]), .inl (0, 24, .inl []), .inr (5, [.ref 397, .int 1]), .inl (0, 24, .inl []), .inr (5, [.ref 399, .int 1]), .inl (0, 24, .inl []), .inr (5, [.ref 401, .int 1]), .inl (0, 24, .inl []), .inr (5, [.ref 403, .int 1]), .inl (0, 24, .inl []), .inr (5, [.ref 405, .int 1]), .inl (0, 24, .inl []), .inr (5, [.ref 407, .int 1]), .inl (0, 24, .inl []), .inr (5, [.ref 409, .int 1]), .inl (0, 24, .inl []), .inr (5, [.ref 411, .int 1]), .inl (0, 24, .inl []), .inr (5, [.ref 413, .int 1]), .inl (0, 24, .inl []), .inr (5, [.ref 415, .int 1]), .inl (0, 24, .inl [])]
def hm_13 : List ax_D := [.inr (5, [.ref 417, .int 1]), .inl (0, 24, .inl []), .inr (3, [.ref 419, .int 0, .int 0]), .inl (2, 30, .inr [(29, some 478), (28, some 476), (27, some 474), (26, some 472), (25, some 470), (24, some 468), (23, some 466), (22, some 464), (21, some 462), (20, some 460), (19, some 458), (18, some 456), (17, some 454), (16, some 452), (15, some 450), (14, some 448), (13, some 446), (12, some 444), (11, some 442), (10, some 440), (9, some 438), (8, some 436), (7, some 434), (6, some 432), (5, some 430), (4, some 428), (3, some 426), (2, some 424), (1, some 422), (0, some 420)]), .inr (5, [.ref 421, .int 1]), .inl (0, 24, .inl []), .inr (5, [.ref 423, .int 1]), .inl (0, 24, .inl []), .inr (5, [.ref 425, .int 1]), .inl (0, 24, .inl []), .inr (5, [.ref 427, .int 1]), .inl (0, 24, .inl []), .inr (5, [.ref 429, .int 1]), .inl (0, 24, .inl []), .inr (5, [.ref 431, .int 1]), .inl (0, 24, .inl []), .inr (5, [.ref 433, .int 1]), .inl (0, 24, .inl []), .inr (5, [.ref 435, .int 1]), .inl (0, 24, .inl []), .inr (5, [.ref 437, .int 1]), .inl (0, 24, .inl []), .inr (5, [.ref 439, .int 1]), .inl (0, 24, .inl []), .inr (5, [.ref 441, .int 1]), .inl (0, 24, .inl []), .inr (5, [.ref 443, .int 1]), .inl (0, 24, .inl []), .inr (5, [.ref 445, .int 1]), .inl (0, 24, .inl []), .inr (5, [.ref 447, .int 1]), .inl (0, 24, .inl [])]
def hm_14 : List ax_D := [.inr (5, [.ref 449, .int 1]), .inl (0, 24, .inl []), .inr (5, [.ref 451, .int 1]), .inl (0, 24, .inl []), .inr (5, [.ref 453, .int 1]), .inl (0, 24, .inl []), .inr (5, [.ref 455, .int 1]), .inl (0, 24, .inl []), .inr (5, [.ref 457, .int 1]), .inl (0, 24, .inl []), .inr (5, [.ref 459, .int 1]), .inl (0, 24, .inl []), .inr (5, [.ref 461, .int 1]), .inl (0, 24, .inl []), .inr (5, [.ref 463, .int 1]), .inl (0, 24, .inl []), .inr (5, [.ref 465, .int 1]), .inl (0, 24, .inl []), .inr (5, [.ref 467, .int 1]), .inl (0, 24, .inl []), .inr (5, [.ref 469, .int 1]), .inl (0, 24, .inl []), .inr (5, [.ref 471, .int 1]), .inl (0, 24, .inl []), .inr (5, [.ref 473, .int 1]), .inl (0, 24, .inl []), .inr (5, [.ref 475, .int 1]), .inl (0, 24, .inl []), .inr (5, [.ref 477, .int 1]), .inl (0, 24, .inl []), .inr (5, [.ref 479, .int 1]), .inl (0, 24, .inl [])]
def hm_15 : List ax_D := [.inr (3, [.ref 481, .int 0, .int 0]), .inl (2, 30, .inr [(29, some 540), (28, some 538), (27, some 536), (26, some 534), (25, some 532), (24, some 530), (23, some 528), (22, some 526), (21, some 524), (20, some 522), (19, some 520), (18, some 518), (17, some 516), (16, some 514), (15, some 512), (14, some 510), (13, some 508), (12, some 506), (11, some 504), (10, some 502), (9, some 500), (8, some 498), (7, some 496), (6, some 494), (5, some 492), (4, some 490), (3, some 488), (2, some 486), (1, some 484), (0, some 482)]), .inr (5, [.ref 483, .int 1]), .inl (0, 24, .inl []), .inr (5, [.ref 485, .int 1]), .inl (0, 24, .inl []), .inr (5, [.ref 487, .int 1]), .inl (0, 24, .inl []), .inr (5, [.ref 489, .int 1]), .inl (0, 24, .inl []), .inr (5, [.ref 491, .int 1]), .inl (0, 24, .inl []), .inr (5, [.ref 493, .int 1]), .inl (0, 24, .inl []), .inr (5, [.ref 495, .int 1]), .inl (0, 24, .inl []), .inr (5, [.ref 497, .int 1]), .inl (0, 24, .inl []), .inr (5, [.ref 499, .int 1]), .inl (0, 24, .inl []), .inr (5, [.ref 501, .int 1]), .inl (0, 24, .inl []), .inr (5, [.ref 503, .int 1]), .inl (0, 24, .inl []), .inr (5, [.ref 505, .int 1]), .inl (0, 24, .inl []), .inr (5, [.ref 507, .int 1]), .inl (0, 24, .inl []), .inr (5, [.ref 509, .int 1]), .inl (0, 24, .inl []), .inr (5, [.ref 511, .int 1]), .inl (0, 24, .inl [])]
def hm_16 : List ax_D := [.inr (5, [.ref 513, .int 1]), .inl (0, 24, .inl []), .inr (5, [.ref 515, .int 1]), .inl (0, 24, .inl []), .inr (5, [.ref 517, .int 1]), .inl (0, 24, .inl []), .inr (5, [.ref 519, .int 1]), .inl (0, 24, .inl []), .inr (5, [.ref 521, .int 1]), .inl (0, 24, .inl []), .inr (5, [.ref 523, .int 1]), .inl (0, 24, .inl []), .inr (5, [.ref 525, .int 1]), .inl (0, 24, .inl []), .inr (5, [.ref 527, .int 1]), .inl (0, 24, .inl []), .inr (5, [.ref 529, .int 1]), .inl (0, 24, .inl []), .inr (5, [.ref 531, .int 1]), .inl (0, 24, .inl []), .inr (5, [.ref 533, .int 1]), .inl (0, 24, .inl []), .inr (5, [.ref 535, .int 1]), .inl (0, 24, .inl []), .inr (5, [.ref 537, .int 1]), .inl (0, 24, .inl []), .inr (5, [.ref 539, .int 1]), .inl (0, 24, .inl []), .inr (5, [.ref 541, .int 1]), .inl (0, 24, .inl []), .inr (11, [.ref 543, .ref 544, .int 0, .ref 545, .int 0, .ref 546, .ref 547, .ref 548, .ref 549, .ref 550, .ref 551, .ref 552, .int 0, .ref 553, .int 0, .int 0, .ref 554, .ref 555, .ref 556, .ref 557, .int 0, .ref 558, .ref 559, .int 0, .int 0, .int 0, .int 0, .ref 560, .ref 561, .ref 562, .ref 563, .ref 564, .ref 565, .ref 566, .ref 567, .int 0, .int 0, .int 0, .ref 568, .ref 569, .ref 570, .ref 571, .ref 572, .int 0, .int 0, .int 0, .int 0, .long 0]), .inl (0, 14, .inl [(13, 1000000), (12, 500000), (11, 100000), (10, 50000), (9, 10000), (8, 5000), (7, 1000), (6, 1000), (5, 500), (4, 100), (3, 50), (2, 10), (1, 5), (0, 1)])]
def hm_17 : List ax_D := [.inl (0, 14, .inl [(13, 109), (12, 100), (11, 99), (10, 108), (9, 120), (8, 118), (7, 105), (6, 77), (5, 68), (4, 67), (3, 76), (2, 88), (1, 86), (0, 73)]), .inl (1, 80, .inl []), .inl (0, 84, .inl []), .inl (0, 84, .inl []), .inl (0, 84, .inl []), .inl (0, 13, .inl [(11, 1), (10, 1), (9, 1), (8, 1), (7, 1), (6, 1), (5, 1), (4, 1), (3, 1), (2, 1), (1, 1), (0, 1)]), .inl (0, 312, .inl []), .inl (0, 7, .inl []), .inl (0, 7, .inl []), .inl (0, 300, .inl []), .inl (0, 20, .inl []), .inl (0, 6, .inl []), .inl (0, 180, .inl []), .inl (0, 4320, .inl []), .inl (0, 40, .inl []), .inl (0, 960, .inl []), .inl (0, 15, .inl []), .inl (0, 15, .inl []), .inl (0, 15, .inl []), .inl (0, 15, .inl []), .inl (0, 15, .inl []), .inl (0, 15, .inl []), .inl (0, 15, .inl []), .inl (0, 15, .inl []), .inl (0, 40000, .inl []), .inl (0, 131072, .inl []), .inl (0, 20, .inl []), .inl (0, 21, .inl []), .inl (0, 25, .inl [])]
def lw_hm : ax_H := [hm_0, hm_1, hm_2, hm_3, hm_4, hm_5, hm_6, hm_7, hm_8, hm_9, hm_10, hm_11, hm_12, hm_13, hm_14, hm_15, hm_16, hm_17]
def lw_lv : List (Nat × Value) := [(3, .int 0), (2, .ref 542), (1, .ref 0), (0, .retAddr 2)]
def lw_iv : Nat → Int × Int := fun _ => (-2147483648, 2147483647)
def ax_deq (a b : ax_D) : Bool := match a, b with
  | .inl x, .inl y => decide (x = y)
  | .inr x, .inr y => decide (x = y)
  | _, _ => false
theorem ax_deq_ok {a b : ax_D} (h : ax_deq a b = true) : a = b := by
  cases a <;> cases b
  · exact congrArg _ (of_decide_eq_true h)
  · cases h
  · cases h
  · exact congrArg _ (of_decide_eq_true h)
def ax_leq {α : Type} (f : α → α → Bool) : List α → List α → Bool
  | [], [] => true
  | a :: l, b :: r => f a b && ax_leq f l r
  | _, _ => false
theorem ax_leq_ok {α : Type} {f : α → α → Bool} (hf : ∀ a b, f a b = true → a = b) : ∀ l r : List α, ax_leq f l r = true → l = r
  | [], [], _ => rfl
  | a :: l, b :: r, h => by
    simp only [ax_leq, Bool.and_eq_true] at h
    rw [hf a b h.1, ax_leq_ok hf l r h.2]
  | [], _ :: _, h => by cases h
  | _ :: _, [], h => by cases h
def lw_ph1B : Bool := match ax_lgo lw_iv mt_prog (ax_step lw_iv 4) lw_tab 18 100 0 [(0, .retAddr 2)] [] [] 0 0 0 with
  | some F => Nat.beq F.1 18 && (decide (F.2.1 = lw_lv) && (F.2.2.1.isEmpty && (ax_leq (ax_leq ax_deq) F.2.2.2.1 lw_hm && (Nat.beq F.2.2.2.2.1 573 && (Nat.beq F.2.2.2.2.2.1 573 && Nat.beq F.2.2.2.2.2.2 192706)))))
  | none => false
set_option maxRecDepth 100000 in
theorem lw_ph1D : lw_ph1B = true := by decide +kernel
theorem lw_ph1 : ax_lgo lw_iv mt_prog (ax_step lw_iv 4) lw_tab 18 100 0 [(0, .retAddr 2)] [] [] 0 0 0 = some (18, lw_lv, [], lw_hm, 573, 573, 192706) := by
  have h := lw_ph1D
  unfold lw_ph1B at h
  split at h
  · rename_i F hF
    obtain ⟨a1, a2, a3, a4, a5, a6, a7⟩ := F
    simp only [Bool.and_eq_true, Nat.beq_eq, decide_eq_true_eq] at h
    obtain ⟨rfl, rfl, h3, h4, rfl, rfl, rfl⟩ := h
    have h3' : a3 = [] := by simpa using h3
    have h4' : a4 = lw_hm := ax_leq_ok (fun a b h => ax_leq_ok (fun a b h => ax_deq_ok h) a b h) a4 lw_hm h4
    subst h3' h4'
    exact hF
  · cases h
end
section
/-! ===== kinds of the cells (printed by wip/mkkinds.py) ===== -/
/-- a type: an int between bounds with a flag, a long, a cell of some kinds (bits) -/
abbrev ab_Y : Type := (Int × Int × Nat) ⊕ Option Nat
/-- a kind: an array (number of its type, least and greatest length, type of all elements, of each), or an object (number of its class, types of its fields) -/
abbrev ab_P : Type := (Nat × Nat × Nat × ab_Y × List ab_Y) ⊕ (Nat × List ab_Y)
def kd_0 : List Nat := [0, 1, 2, 3, 8, 11, 12, 13, 14, 15, 16, 17, 18, 19, 20, 21, 22, 23, 4, 5, 6, 7, 24, 25, 26, 27, 28, 29, 30, 33, 31, 32]
def kd_1 : List Nat := [34, 35, 36, 41, 42, 45, 48, 49, 50, 51, 43, 44, 46, 47, 43, 44, 46, 47, 43, 44, 46, 47, 43, 44, 46, 47, 43, 44, 46, 47, 43, 44]
def kd_2 : List Nat := [46, 47, 43, 44, 46, 47, 43, 44, 46, 47, 43, 44, 46, 47, 43, 44, 46, 47, 43, 44, 46, 47, 43, 44, 46, 47, 43, 44, 46, 47, 43, 44]
def kd_3 : List Nat := [46, 47, 43, 44, 46, 47, 43, 44, 46, 47, 43, 44, 46, 47, 43, 44, 46, 47, 43, 44, 46, 47, 43, 44, 46, 47, 4, 5, 6, 7, 4, 5]
def kd_4 : List Nat := [6, 7, 4, 5, 6, 7, 4, 5, 6, 7, 4, 5, 6, 7, 4, 5, 6, 7, 9, 10, 9, 10, 9, 10, 9, 10, 9, 10, 9, 10, 9, 10]
def kd_5 : List Nat := [9, 10, 9, 10, 9, 10, 9, 10, 9, 10, 37, 38, 39, 40, 39, 40, 39, 40, 39, 40, 39, 40, 39, 40, 39, 40, 39, 40, 39, 40, 39, 40]
def kd_6 : List Nat := [39, 40, 39, 40, 39, 40, 39, 40, 39, 40, 39, 40, 39, 40, 39, 40, 39, 40, 39, 40, 39, 40, 39, 40, 39, 40, 39, 40, 39, 40, 39, 40]
def kd_7 : List Nat := [39, 40, 39, 40, 39, 40, 39, 40, 37, 38, 39, 40, 39, 40, 39, 40, 39, 40, 39, 40, 39, 40, 39, 40, 39, 40, 39, 40, 39, 40, 39, 40]
def kd_8 : List Nat := [39, 40, 39, 40, 39, 40, 39, 40, 39, 40, 39, 40, 39, 40, 39, 40, 39, 40, 39, 40, 39, 40, 39, 40, 39, 40, 39, 40, 39, 40, 39, 40]
def kd_9 : List Nat := [39, 40, 39, 40, 39, 40, 37, 38, 39, 40, 39, 40, 39, 40, 39, 40, 39, 40, 39, 40, 39, 40, 39, 40, 39, 40, 39, 40, 39, 40, 39, 40]
def kd_10 : List Nat := [39, 40, 39, 40, 39, 40, 39, 40, 39, 40, 39, 40, 39, 40, 39, 40, 39, 40, 39, 40, 39, 40, 39, 40, 39, 40, 39, 40, 39, 40, 39, 40]
def kd_11 : List Nat := [39, 40, 39, 40, 37, 38, 39, 40, 39, 40, 39, 40, 39, 40, 39, 40, 39, 40, 39, 40, 39, 40, 39, 40, 39, 40, 39, 40, 39, 40, 39, 40]
def kd_12 : List Nat := [39, 40, 39, 40, 39, 40, 39, 40, 39, 40, 39, 40, 39, 40, 39, 40, 39, 40, 39, 40, 39, 40, 39, 40, 39, 40, 39, 40, 39, 40, 39, 40]
def kd_13 : List Nat := [39, 40, 37, 38, 39, 40, 39, 40, 39, 40, 39, 40, 39, 40, 39, 40, 39, 40, 39, 40, 39, 40, 39, 40, 39, 40, 39, 40, 39, 40, 39, 40]
def kd_14 : List Nat := [39, 40, 39, 40, 39, 40, 39, 40, 39, 40, 39, 40, 39, 40, 39, 40, 39, 40, 39, 40, 39, 40, 39, 40, 39, 40, 39, 40, 39, 40, 39, 40]
def kd_15 : List Nat := [37, 38, 39, 40, 39, 40, 39, 40, 39, 40, 39, 40, 39, 40, 39, 40, 39, 40, 39, 40, 39, 40, 39, 40, 39, 40, 39, 40, 39, 40, 39, 40]
def kd_16 : List Nat := [39, 40, 39, 40, 39, 40, 39, 40, 39, 40, 39, 40, 39, 40, 39, 40, 39, 40, 39, 40, 39, 40, 39, 40, 39, 40, 39, 40, 39, 40, 52, 53]
def kd_17 : List Nat := [54, 55, 56, 57, 58, 59, 60, 61, 62, 63, 64, 65, 66, 67, 68, 69, 70, 71, 72, 73, 74, 75, 76, 77, 78, 79, 80, 81, 82]
def kd_all : List (List Nat) := [kd_0, kd_1, kd_2, kd_3, kd_4, kd_5, kd_6, kd_7, kd_8, kd_9, kd_10, kd_11, kd_12, kd_13, kd_14, kd_15, kd_16, kd_17]
def ab_k (k : Nat) : Nat := (kd_all.getD (k / 32) []).getD (k % 32) 34
def ks_0 : ab_P := .inr (10, [.inr (some 2), .inr (some 8), .inr (some 256), .inr (some 2048), .inr (some 16777216), .inr (some 1073741824), .inr (some 68719476736), .inr (some 2199023255552), .inl (0, 6, 0), .inl (0, 40, 0), .inl (0, 30, 0)])  -- X
def ks_1 : ab_P := .inr (4, [.inr (some 4), .inl (0, 80, 0)])  -- Page
def ks_2 : ab_P := .inl (0, 80, 80, .inl (0, 255, 0), [])  -- Page.codes
def ks_3 : ab_P := .inl (3, 6, 6, .inr (some 16), [])  -- customs
def ks_4 : ab_P := .inr (1, [.inr (some 32), .inr (some 64), .inr (some 128)])  -- Custom
def ks_5 : ab_P := .inl (0, 14, 14, .inl ((-48), 207, 0), [])  -- Custom.counts
def ks_6 : ab_P := .inl (0, 14, 14, .inl ((-2147483648), 2147483647, 0), [])  -- Custom.once
def ks_7 : ab_P := .inl (0, 14, 14, .inl ((-2147483648), 2147483647, 0), [])  -- Custom.twice
def ks_8 : ab_P := .inl (2, 12, 12, .inr (some 512), [])  -- rows
def ks_9 : ab_P := .inr (5, [.inr (some 1024), .inl (0, 24, 0)])  -- Row
def ks_10 : ab_P := .inl (0, 24, 24, .inl (0, 13, 0), [])  -- Row.signs
def ks_11 : ab_P := .inr (9, [.inr (some 4096), .inr (some 131072), .inr (some 4194304), .inr (some 16), .inl ((-1), 5, 0), .inl (0, 9999999, 0), .inl ((-2147483648), 2147483647, 0), .inl ((-2147483648), 2147483647, 0), .inl ((-2147483648), 2147483647, 0), .inl ((-2147483648), 2147483647, 0)])  -- Writings
def ks_12 : ab_P := .inr (8, [.inr (some 8192), .inr (some 16384), .inr (some 32768), .inr (some 65536)])  -- lower
def ks_13 : ab_P := .inl (0, 15, 15, .inl (1, 10000000, 0), [.inl (1, 1, 0), .inl (5, 5, 0), .inl (10, 10, 0), .inl (50, 50, 0), .inl (100, 100, 0), .inl (500, 500, 0), .inl (1000, 1000, 0), .inl (1000, 1000, 0), .inl (5000, 5000, 0), .inl (10000, 10000, 0), .inl (50000, 50000, 0), .inl (100000, 100000, 0), .inl (500000, 500000, 0), .inl (1000000, 1000000, 0), .inl (10000000, 10000000, 0)])  -- lower.units
def ks_14 : ab_P := .inl (0, 15, 15, .inl (0, 24, 0), [.inl (0, 0, 0), .inl (4, 4, 0), .inl (12, 12, 0), .inl (4, 4, 0), .inl (12, 12, 0), .inl (4, 4, 0), .inl (12, 12, 0), .inl (24, 24, 0), .inl (4, 4, 0), .inl (12, 12, 0), .inl (4, 4, 0), .inl (12, 12, 0), .inl (4, 4, 0), .inl (12, 12, 0), .inl (2, 2, 0)])  -- lower.mostTimes
def ks_15 : ab_P := .inl (0, 15, 15, .inl (0, 134, 0), [.inl (0, 0, 0), .inl (1, 1, 0), .inl (6, 6, 0), .inl (19, 19, 0), .inl (24, 24, 0), .inl (37, 37, 0), .inl (42, 42, 0), .inl (55, 55, 0), .inl (80, 80, 0), .inl (85, 85, 0), .inl (98, 98, 0), .inl (103, 103, 0), .inl (116, 116, 0), .inl (121, 121, 0), .inl (134, 134, 0)])  -- lower.firstCell
def ks_16 : ab_P := .inl (0, 3425, 3425, .inl (0, 5000, 0), [])  -- lower.counts
def ks_17 : ab_P := .inr (8, [.inr (some 262144), .inr (some 524288), .inr (some 1048576), .inr (some 2097152)])  -- unplain
def ks_18 : ab_P := .inl (0, 15, 15, .inl (1, 10000000, 0), [.inl (1, 1, 0), .inl (5, 5, 0), .inl (10, 10, 0), .inl (50, 50, 0), .inl (100, 100, 0), .inl (500, 500, 0), .inl (1000, 1000, 0), .inl (1000, 1000, 0), .inl (5000, 5000, 0), .inl (10000, 10000, 0), .inl (50000, 50000, 0), .inl (100000, 100000, 0), .inl (500000, 500000, 0), .inl (1000000, 1000000, 0), .inl (10000000, 10000000, 0)])  -- unplain.units
def ks_19 : ab_P := .inl (0, 15, 15, .inl (1, 24, 0), [.inl (1, 1, 0), .inl (5, 5, 0), .inl (13, 13, 0), .inl (5, 5, 0), .inl (13, 13, 0), .inl (5, 5, 0), .inl (13, 13, 0), .inl (24, 24, 0), .inl (5, 5, 0), .inl (13, 13, 0), .inl (5, 5, 0), .inl (13, 13, 0), .inl (5, 5, 0), .inl (13, 13, 0), .inl (3, 3, 0)])  -- unplain.mostTimes
def ks_20 : ab_P := .inl (0, 15, 15, .inl (0, 147, 0), [.inl (0, 0, 0), .inl (2, 2, 0), .inl (8, 8, 0), .inl (22, 22, 0), .inl (28, 28, 0), .inl (42, 42, 0), .inl (48, 48, 0), .inl (62, 62, 0), .inl (87, 87, 0), .inl (93, 93, 0), .inl (107, 107, 0), .inl (113, 113, 0), .inl (127, 127, 0), .inl (133, 133, 0), .inl (147, 147, 0)])  -- unplain.firstCell
def ks_21 : ab_P := .inl (0, 3775, 3775, .inl (0, 5000, 0), [])  -- unplain.counts
def ks_22 : ab_P := .inr (5, [.inr (some 8388608), .inl (0, 24, 0)])  -- Found
def ks_23 : ab_P := .inl (0, 24, 24, .inl (0, 13, 0), [])  -- Found.signs
def ks_24 : ab_P := .inr (0, [.inr (some 33554432), .inr (some 67108864), .inr (some 134217728), .inr (some 268435456), .inr (some 536870912), .inl (0, 300, 0)])  -- Abacus
def ks_25 : ab_P := .inl (0, 7, 7, .inl ((-2147483648), 2147483647, 0), [])  -- Abacus.given
def ks_26 : ab_P := .inl (0, 7, 7, .inl ((-2147483648), 2147483647, 0), [])  -- Abacus.owed
def ks_27 : ab_P := .inl (0, 7, 7, .inl ((-2147483648), 2147483647, 0), [])  -- Abacus.moreGiven
def ks_28 : ab_P := .inl (0, 7, 7, .inl ((-2147483648), 2147483647, 0), [])  -- Abacus.moreOwed
def ks_29 : ab_P := .inl (0, 300, 300, .inl ((-2147483648), 2147483647, 0), [])  -- Abacus.steps
def ks_30 : ab_P := .inr (7, [.inr (some 8589934592), .inl (0, 20, 0), .inl (0, 21, 0), .inr (some 2147483648), .inr (some 17179869184), .inr (some 34359738368), .inl (0, 41160, 0), .inl (0, 41160, 0), .inl ((-1), 5, 0)])  -- Slab
def ks_31 : ab_P := .inr (5, [.inr (some 4294967296), .inl (0, 24, 0)])  -- Filling
def ks_32 : ab_P := .inl (0, 24, 24, .inl (0, 13, 0), [])  -- Filling.signs
def ks_33 : ab_P := .inl (0, 21, 21, .inl (0, 14, 0), [])  -- Slab.signs
def ks_34 : ab_P := .inl (0, 1, 41160, .inl ((-2147483648), 2147483647, 0), [])  -- Slab.worths
def ks_35 : ab_P := .inl (0, 20, 20, .inl ((-1), 14, 0), [])  -- Slab.common
def ks_36 : ab_P := .inl (4, 6, 6, .inr (some 137438953472), [])  -- masons
def ks_37 : ab_P := .inr (3, [.inr (some 274877906944), .inl (0, 30, 0), .inl ((-2147483648), 2147483647, 0)])  -- Mason
def ks_38 : ab_P := .inl (2, 30, 30, .inr (some 549755813888), [])  -- Mason.rows
def ks_39 : ab_P := .inr (5, [.inr (some 1099511627776), .inl (0, 24, 0)])  -- MRow
def ks_40 : ab_P := .inl (0, 24, 24, .inl (0, 13, 0), [])  -- MRow.signs
def ks_41 : ab_P := .inr (2, [.inr (some 4398046511104), .inr (some 35184372088832), .inr (some 281474976710656), .inr (some 562949953421312), .inl (0, 20, 0), .inr (some 1125899906842624), .inl (0, 1, 0), .inl (0, 1, 0), .inl ((-2147483648), 2147483647, 0), .inl ((-2147483648), 2147483647, 0), .inl ((-2147483648), 2147483647, 0), .inl ((-2147483648), 2147483647, 0)])  -- Ledger
def ks_42 : ab_P := .inl (2, 20, 20, .inr (some 8796093022208), [])  -- Ledger.amounts
def ks_43 : ab_P := .inr (5, [.inr (some 17592186044416), .inl (0, 24, 0)])  -- ARow
def ks_44 : ab_P := .inl (0, 24, 24, .inl (0, 13, 0), [])  -- ARow.signs
def ks_45 : ab_P := .inl (2, 20, 20, .inr (some 70368744177664), [])  -- Ledger.totals
def ks_46 : ab_P := .inr (5, [.inr (some 140737488355328), .inl (0, 24, 0)])  -- TRow
def ks_47 : ab_P := .inl (0, 24, 24, .inl (0, 13, 0), [])  -- TRow.signs
def ks_48 : ab_P := .inl (0, 20, 20, .inl ((-2147483648), 2147483647, 0), [])  -- Ledger.amountWorths
def ks_49 : ab_P := .inl (0, 20, 20, .inl ((-2147483648), 2147483647, 0), [])  -- Ledger.totalWorths
def ks_50 : ab_P := .inr (5, [.inr (some 2251799813685248), .inl (0, 24, 0)])  -- Trial
def ks_51 : ab_P := .inl (0, 24, 24, .inl (0, 13, 0), [])  -- Trial.signs
def ks_52 : ab_P := .inr (11, [.inr (some 9007199254740992), .inr (some 18014398509481984), .inl (0, 80, 0), .inr (some 36028797018963968), .inl (0, 6, 0), .inr (some 72057594037927936), .inr (some 144115188075855872), .inr (some 288230376151711744), .inr (some 576460752303423488), .inr (some 1152921504606846976), .inr (some 2305843009213693952), .inr (some 4611686018427387904), .inl (0, 300, 0), .inr (some 9223372036854775808), .inl (0, 20, 0), .inl (0, 1, 0), .inr (some 18446744073709551616), .inr (some 36893488147419103232), .inr (some 73786976294838206464), .inr (some 147573952589676412928), .inl (0, 20, 0), .inr (some 295147905179352825856), .inr (some 590295810358705651712), .inl (0, 40, 0), .inl (0, 30, 0), .inl (0, 80, 0), .inl (0, 1, 0), .inr (some 1180591620717411303424), .inr (some 2361183241434822606848), .inr (some 4722366482869645213696), .inr (some 9444732965739290427392), .inr (some 18889465931478580854784), .inr (some 37778931862957161709568), .inr (some 75557863725914323419136), .inr (some 151115727451828646838272), .inl (0, 5000, 0), .inl (0, 25, 0), .inl (0, 40000, 0), .inr (some 302231454903657293676544), .inr (some 604462909807314587353088), .inr (some 1208925819614629174706176), .inr (some 2417851639229258349412352), .inr (some 4835703278458516698824704), .inl ((-2147483648), 2147483647, 0), .inl ((-2147483648), 2147483647, 0), .inl ((-2147483648), 2147483647, 0), .inl ((-2147483648), 2147483647, 0), .inr none])  -- M
def ks_53 : ab_P := .inl (0, 14, 14, .inl (1, 1000000, 0), [.inl (1, 1, 0), .inl (5, 5, 0), .inl (10, 10, 0), .inl (50, 50, 0), .inl (100, 100, 0), .inl (500, 500, 0), .inl (1000, 1000, 0), .inl (1000, 1000, 0), .inl (5000, 5000, 0), .inl (10000, 10000, 0), .inl (50000, 50000, 0), .inl (100000, 100000, 0), .inl (500000, 500000, 0), .inl (1000000, 1000000, 0)])  -- M.worths
def ks_54 : ab_P := .inl (0, 14, 14, .inl (67, 120, 3), [.inl (73, 73, 0), .inl (86, 86, 0), .inl (88, 88, 0), .inl (76, 76, 0), .inl (67, 67, 0), .inl (68, 68, 0), .inl (77, 77, 0), .inl (105, 105, 0), .inl (118, 118, 0), .inl (120, 120, 0), .inl (108, 108, 0), .inl (99, 99, 0), .inl (100, 100, 0), .inl (109, 109, 0)])  -- M.codes
def ks_55 : ab_P := .inl (1, 80, 80, .inl ((-128), 127, 0), [])  -- M.page
def ks_56 : ab_P := .inl (0, 84, 84, .inl (0, 9, 0), [])  -- M.counts
def ks_57 : ab_P := .inl (0, 84, 84, .inl ((-2147483648), 2147483647, 0), [])  -- M.once
def ks_58 : ab_P := .inl (0, 84, 84, .inl ((-2147483648), 2147483647, 0), [])  -- M.twiceOf
def ks_59 : ab_P := .inl (0, 13, 13, .inl (0, 24, 0), [])  -- M.sizes
def ks_60 : ab_P := .inl (0, 312, 312, .inl (0, 13, 0), [])  -- M.signs
def ks_61 : ab_P := .inl (0, 7, 7, .inl (0, 99, 0), [])  -- M.given
def ks_62 : ab_P := .inl (0, 7, 7, .inl (0, 99, 0), [])  -- M.owed
def ks_63 : ab_P := .inl (0, 300, 300, .inl ((-2147483648), 2147483647, 0), [])  -- M.stepOf
def ks_64 : ab_P := .inl (0, 20, 20, .inl (0, 14, 0), [])  -- M.stoneOf
def ks_65 : ab_P := .inl (0, 6, 6, .inl (0, 30, 0), [])  -- M.noted
def ks_66 : ab_P := .inl (0, 180, 180, .inl (0, 24, 0), [])  -- M.notedSize
def ks_67 : ab_P := .inl (0, 4320, 4320, .inl (0, 13, 0), [])  -- M.notedSigns
def ks_68 : ab_P := .inl (0, 40, 40, .inl (0, 24, 0), [])  -- M.lineSize
def ks_69 : ab_P := .inl (0, 960, 960, .inl (0, 13, 0), [])  -- M.lineSigns
def ks_70 : ab_P := .inl (0, 15, 15, .inl ((-1), 9, 0), [])  -- M.plains
def ks_71 : ab_P := .inl (0, 15, 15, .inl (0, 28, 0), [])  -- M.takings
def ks_72 : ab_P := .inl (0, 15, 15, .inl (0, 14, 0), [])  -- M.caps
def ks_73 : ab_P := .inl (0, 15, 15, .inl ((-2147483648), 2147483647, 0), [])  -- M.lefts
def ks_74 : ab_P := .inl (0, 15, 15, .inl (0, 24, 0), [])  -- M.usedOf
def ks_75 : ab_P := .inl (0, 15, 15, .inl ((-2147483648), 2147483647, 0), [])  -- M.mostOf
def ks_76 : ab_P := .inl (0, 15, 15, .inl ((-2147483648), 2147483647, 0), [])  -- M.leastOf
def ks_77 : ab_P := .inl (0, 15, 15, .inl (0, 2147483647, 0), [])  -- M.sharedOf
def ks_78 : ab_P := .inl (0, 40000, 40000, .inl ((-2147483648), 2147483647, 0), [])  -- M.said
def ks_79 : ab_P := .inl (0, 131072, 131072, .inl (0, 40000, 0), [])  -- M.hash
def ks_80 : ab_P := .inl (0, 20, 20, .inl ((-1), 14, 0), [])  -- M.sureOf
def ks_81 : ab_P := .inl (0, 21, 21, .inl (0, 14, 0), [])  -- M.fill
def ks_82 : ab_P := .inl (0, 25, 25, .inl (0, 13, 0), [])  -- M.right
def ab_K : List ab_P := [ks_0, ks_1, ks_2, ks_3, ks_4, ks_5, ks_6, ks_7, ks_8, ks_9, ks_10, ks_11, ks_12, ks_13, ks_14, ks_15, ks_16, ks_17, ks_18, ks_19, ks_20, ks_21, ks_22, ks_23, ks_24, ks_25, ks_26, ks_27, ks_28, ks_29, ks_30, ks_31, ks_32, ks_33, ks_34, ks_35, ks_36, ks_37, ks_38, ks_39, ks_40, ks_41, ks_42, ks_43, ks_44, ks_45, ks_46, ks_47, ks_48, ks_49, ks_50, ks_51, ks_52, ks_53, ks_54, ks_55, ks_56, ks_57, ks_58, ks_59, ks_60, ks_61, ks_62, ks_63, ks_64, ks_65, ks_66, ks_67, ks_68, ks_69, ks_70, ks_71, ks_72, ks_73, ks_74, ks_75, ks_76, ks_77, ks_78, ks_79, ks_80, ks_81, ks_82]
/-- kinds that one cell alone has -/
def ab_uq : List (Nat × Nat) := [(0, 0), (1, 1), (2, 2), (3, 3), (8, 4), (11, 5), (12, 6), (13, 7), (14, 8), (15, 9), (16, 10), (17, 11), (18, 12), (19, 13), (20, 14), (21, 15), (22, 16), (23, 17), (24, 22), (25, 23), (26, 24), (27, 25), (28, 26), (29, 27), (30, 28), (31, 30), (32, 31), (33, 29), (35, 33), (36, 34), (41, 35), (42, 36), (45, 37), (48, 38), (49, 39), (50, 40), (51, 41), (52, 542), (53, 543), (54, 544), (55, 545), (56, 546), (57, 547), (58, 548), (59, 549), (60, 550), (61, 551), (62, 552), (63, 553), (64, 554), (65, 555), (66, 556), (67, 557), (68, 558), (69, 559), (70, 560), (71, 561), (72, 562), (73, 563), (74, 564), (75, 565), (76, 566), (77, 567), (78, 568), (79, 569), (80, 570), (81, 571), (82, 572)]
end
section
/-! ===== what is told of cells beyond their kinds ===== -/
/-- a place of a cell: a field, an element; below 0 the length of an array -/
def ab_rd (h : ax_H) (k : Nat) (i : Int) : Option Value := match ax_raw h k with
  | some (.inr (_, fs)) => bif decide (i < 0) then none else fs[i.toNat]?
  | some (.inl (_, N, .inl f)) => bif decide (i < 0) then some (.int (Int32.ofNat N)) else some (.int (ax_fi f i.toNat))
  | some (.inl (_, N, .inr f)) => bif decide (i < 0) then some (.int (Int32.ofNat N)) else (ax_fr f i.toNat).map Value.ref
  | none => none
def ab_ri (h : ax_H) (k : Nat) (i : Int) : Int := match ab_rd h k i with
  | some (.int x) => x.toInt
  | _ => 0
/-- how many of the first are gaps -/
def ab_gc (h : ax_H) (k : Nat) : Nat → Nat
  | 0 => 0
  | i + 1 => ab_gc h k i + (if ab_ri h k i = 14 then 1 else 0)
/-- the stone's gaps are few, in the class and in the reference; the class's stone has room for what it found -/
def ab_J (h : ax_H) : Prop := (ab_gc h 29 (ab_ri h 28 1).toNat ≤ 3 ∧ ab_ri h 28 1 ≤ ab_ri h 28 2 ∧ ab_ri h 28 2 ≤ ab_ri h 28 1 + 1) ∧ ab_gc h 554 (ab_ri h 542 14).toNat ≤ 3 ∧
  ∀ w : Nat, ab_rd h 28 4 = some (.ref w) → ab_ri h 28 6 ≤ ab_ri h w (-1) ∧ ab_ri h 28 7 ≤ ab_ri h w (-1)
/-- places that it speaks of: kind, number -/
def ab_pt (κ : Nat) (i : Int) : Bool := (Nat.beq κ 30 && (decide (i = 1) || (decide (i = 2) || decide (i = 4)))) || ((Nat.beq κ 33 || Nat.beq κ 64) && decide (0 ≤ i) || Nat.beq κ 52 && decide (i = 14))
/-- and of which it tells no more than a bound -/
def ab_pq (κ : Nat) (i : Int) : Bool := Nat.beq κ 30 && (decide (i = 6) || decide (i = 7))
theorem ab_ri_of {h h' : ax_H} {k : Nat} {i : Int} (e : ab_rd h' k i = ab_rd h k i) : ab_ri h' k i = ab_ri h k i := by unfold ab_ri; rw [e]
theorem ab_gc_of {h h' : ax_H} {k : Nat} : ∀ m : Nat, (∀ i : Nat, i < m → ab_rd h' k i = ab_rd h k i) → ab_gc h' k m = ab_gc h k m
  | 0, _ => rfl
  | m + 1, e => by rw [ab_gc, ab_gc, ab_gc_of m (fun i hi => e i (by omega)), ab_ri_of (e m (by omega))]
theorem ab_J_keep {h h' : ax_H} (h1 : ∀ k i, ab_pt (ab_k k) i = true → ab_rd h' k i = ab_rd h k i) (h2 : ∀ k i, i < 0 → ab_rd h' k i = ab_rd h k i)
    (h3 : ∀ w : Nat, ab_rd h 28 4 = some (.ref w) → (ab_ri h' 28 6 ≤ ab_ri h 28 6 ∨ ab_ri h' 28 6 ≤ ab_ri h 28 7 ∨ ab_ri h' 28 6 ≤ ab_ri h w (-1)) ∧ (ab_ri h' 28 7 ≤ ab_ri h 28 7 ∨ ab_ri h' 28 7 ≤ ab_ri h 28 6 ∨ ab_ri h' 28 7 ≤ ab_ri h w (-1))) (hJ : ab_J h) : ab_J h' := by
  obtain ⟨⟨j1, j2, j3⟩, j4, j5⟩ := hJ
  have e1 : ab_ri h' 28 1 = ab_ri h 28 1 := ab_ri_of (h1 28 1 rfl)
  have e2 : ab_ri h' 28 2 = ab_ri h 28 2 := ab_ri_of (h1 28 2 rfl)
  have e3 : ab_ri h' 542 14 = ab_ri h 542 14 := ab_ri_of (h1 542 14 rfl)
  refine ⟨⟨?_, by omega, by omega⟩, ?_, fun w hw => ?_⟩
  · rw [e1, ab_gc_of _ (fun i _ => h1 29 i (by show (false || ((true || _) && decide (0 ≤ (i : Int)) || _)) = true; simp))]
    exact j1
  · rw [e3, ab_gc_of _ (fun i _ => h1 554 i (by show (false || ((_ || true) && decide (0 ≤ (i : Int)) || _)) = true; simp))]
    exact j4
  · rw [h1 28 4 rfl] at hw
    have e4 : ab_ri h' w (-1) = ab_ri h w (-1) := ab_ri_of (h2 w (-1) (by decide))
    have := j5 w hw
    obtain ⟨a, b⟩ := h3 w hw
    rw [e4]
    constructor <;> omega
end
section
/-! ===== abstract states: symbols with types, differences between them, what cells were read to hold ===== -/
/-- a symbolic value: a known int, a symbol, a known cell, a static array -/
abbrev ab_V : Type := Int ⊕ (Nat ⊕ (Nat ⊕ Nat))
def ab_rng (c : Int) : Bool := decide (-2147483648 ≤ c) && decide (c ≤ 2147483647)
theorem ab_rng_ok {c : Int} (h : ab_rng c = true) : (Int32.ofInt c).toInt = c := by
  simp only [ab_rng, Bool.and_eq_true, decide_eq_true_eq] at h
  exact Int32.toInt_ofInt_of_le (by omega) (by omega)
theorem ab_rng_iff {c : Int} : ab_rng c = true ↔ -2147483648 ≤ c ∧ c ≤ 2147483647 := by
  simp only [ab_rng, Bool.and_eq_true, decide_eq_true_eq]
theorem ab_bm {x : Int} (h1 : -2147483648 ≤ x) (h2 : x ≤ 2147483647) : x.bmod (2 ^ 32) = x := Int.bmod_eq_of_le (by omega) (by omega)
/-- flags: 1 the bits 8 to 11 are 13 at most, 2 the lowest four are, 3 a sign's letter -/
def ab_fl (f : Nat) (x : Int) : Prop := match f with
  | 1 => 0 ≤ x → x / 256 % 16 ≤ 13
  | 2 => 0 ≤ x → x % 16 ≤ 13
  | 3 => x ∈ ([73, 86, 88, 76, 67, 68, 77, 105, 118, 120, 108, 99, 100, 109] : List Int)
  | _ => True
def ab_ok (n : Nat) (v : Value) : ab_Y → Prop
  | .inl (lo, hi, f) => ∃ x : Int32, v = .int x ∧ lo ≤ x.toInt ∧ x.toInt ≤ hi ∧ ab_fl f x.toInt
  | .inr none => ∃ x : Int64, v = .long x
  | .inr (some M) => ∃ k : Nat, v = .ref k ∧ k < n ∧ M.testBit (ab_k k) = true
theorem ab_ok_mono {n n' : Nat} (hn : n ≤ n') {v : Value} {t : ab_Y} (h : ab_ok n v t) : ab_ok n' v t := by
  rcases t with ⟨lo, hi, f⟩ | (_ | M)
  · exact h
  · exact h
  · obtain ⟨k, h1, h2, h3⟩ := h
    exact ⟨k, h1, Nat.lt_of_lt_of_le h2 hn, h3⟩
/-- a cell is as its kind says -/
def ab_cf (n : Nat) (S : ab_P) (d : ax_D) : Prop := match S, d with
  | .inl (t, N1, N2, τ, σ), .inl (t', N, .inl f) => t' = t ∧ t < 2 ∧ N1 ≤ N ∧ N ≤ N2 ∧ N2 < 2147483648 ∧ ∀ i, i < N → ab_ok n (.int (ax_fi f i)) τ ∧ ab_ok n (.int (ax_fi f i)) (σ.getD i τ)
  | .inl (t, N1, N2, τ, σ), .inl (t', N, .inr f) => t' = t ∧ 2 ≤ t ∧ σ = [] ∧ N1 ≤ N ∧ N ≤ N2 ∧ N2 < 2147483648 ∧ ∀ i, i < N → ∃ k, ax_fr f i = some k ∧ ab_ok n (.ref k) τ
  | .inr (ci, τs), .inr (ci', fs) => ci' = ci ∧ fs.length = τs.length ∧ ∀ (j : Nat) (v : Value), fs[j]? = some v → ∃ τ, τs[j]? = some τ ∧ ab_ok n v τ
  | _, _ => False
/-- all cells are as their kinds say -/
def ab_HT (h : ax_H) (n : Nat) : Prop := 573 ≤ n ∧ (∀ k, k < n → ∃ d S, ax_raw h k = some d ∧ ab_K[ab_k k]? = some S ∧ ab_cf n S d) ∧ ab_J h
/-- locals, stack, types of symbols, differences, what was read, what all first elements are, new cells, new slots -/
abbrev ab_S : Type := List (Nat × ab_V) × List ab_V × List ab_Y × List (Nat × Nat × Int) × List (ab_V × ab_V × ab_V) × List (ab_V × ab_V × ab_Y) × Nat × Nat
def ab_cv (V : List Value) : ab_V → Option Value
  | .inl c => bif ab_rng c then some (.int (Int32.ofInt c)) else none
  | .inr (.inl u) => V[u]?
  | .inr (.inr (.inl k)) => some (.ref k)
  | .inr (.inr (.inr j)) => some (.retAddr j)
theorem ab_cv_app {V : List Value} (W : List Value) {a : ab_V} {v : Value} (h : ab_cv V a = some v) : ab_cv (V ++ W) a = some v := by
  rcases a with c | (u | (k | j))
  · exact h
  · have hl := (List.getElem?_eq_some_iff.mp (show V[u]? = some v from h)).1
    show (V ++ W)[u]? = some v
    rw [List.getElem?_append_left hl]; exact h
  · exact h
  · exact h
def ab_lk (L : List (Nat × ab_V)) (k : Nat) : Option ab_V := (L.find? fun q => Nat.beq q.1 k).map (·.2)
/-- what is told of locals: by looking up -/
def ab_lvR (V : List Value) (L : List (Nat × ab_V)) (lv : List (Nat × Value)) : Prop := ∀ (k : Nat) (a : ab_V), ab_lk L k = some a → ∃ v, ax_look lv k = some v ∧ ab_cv V a = some v
def ab_stR (V : List Value) : List ab_V → List Value → Prop
  | [], [] => True
  | a :: L, v :: st => ab_cv V a = some v ∧ ab_stR V L st
  | _, _ => False
theorem ab_lvR_app {V : List Value} (W : List Value) {L : List (Nat × ab_V)} {lv : List (Nat × Value)} (h : ab_lvR V L lv) : ab_lvR (V ++ W) L lv := fun k a hk => by
  obtain ⟨v, h1, h2⟩ := h k a hk
  exact ⟨v, h1, ab_cv_app W h2⟩
theorem ab_stR_app {V : List Value} (W : List Value) : ∀ {L : List ab_V} {st : List Value}, ab_stR V L st → ab_stR (V ++ W) L st
  | [], [], _ => trivial
  | a :: L, v :: st, h => ⟨ab_cv_app W h.1, ab_stR_app W h.2⟩
  | [], _ :: _, h => h.elim
  | _ :: _, [], h => h.elim
def ab_ty (n : Nat) (V : List Value) (Γ : List ab_Y) : Prop := V.length = Γ.length ∧ ∀ (u : Nat) (τ : ab_Y), Γ[u]? = some τ → ∃ v, V[u]? = some v ∧ ab_ok n v τ
def ab_co (V : List Value) (C : List (Nat × Nat × Int)) : Prop := ∀ q ∈ C, ∃ x y : Int32, V[q.1]? = some (.int x) ∧ V[q.2.1]? = some (.int y) ∧ x.toInt - y.toInt ≤ q.2.2
/-- a place's content, or a sum -/
def ab_ca1 (V : List Value) (h : ax_H) (q : ab_V × ab_V × ab_V) : Prop := (∃ (k : Nat) (x : Int32) (w : Value), ab_cv V q.1 = some (.ref k) ∧ ab_cv V q.2.1 = some (.int x) ∧ ab_cv V q.2.2 = some w ∧ ab_rd h k x.toInt = some w) ∨
  ∃ x y z : Int32, ab_cv V q.1 = some (.int x) ∧ ab_cv V q.2.1 = some (.int y) ∧ ab_cv V q.2.2 = some (.int z) ∧ z.toInt = x.toInt + y.toInt
def ab_ca (V : List Value) (h : ax_H) (F : List (ab_V × ab_V × ab_V)) : Prop := ∀ q ∈ F, ab_ca1 V h q
def ab_sg (n : Nat) (V : List Value) (h : ax_H) (Z : List (ab_V × ab_V × ab_Y)) : Prop := ∀ q ∈ Z, ∃ (k : Nat) (b : Int32), ab_cv V q.1 = some (.ref k) ∧ ab_cv V q.2.1 = some (.int b) ∧ ∀ i : Int, 0 ≤ i → i < b.toInt → ∃ w, ab_rd h k i = some w ∧ ab_ok n w q.2.2
/-- what a method may change: kinds (bits), a field's number, or all elements (-2) -/
def ab_md (M : List (Nat × Int)) (κ : Nat) (i : Int) : Bool := M.any fun q => Nat.testBit q.1 κ && (decide (q.2 = i) || decide (q.2 = -2) && decide (0 ≤ i))
def ab_fr (M : List (Nat × Int)) (n0 : Nat) (h0 h : ax_H) : Prop := ∀ k, k < n0 → ∀ i, ab_md M (ab_k k) i = false → ab_rd h k i = ab_rd h0 k i
/-- what a method was called with, the cells then, what it may change -/
abbrev ab_E : Type := List Value × ax_H × Nat × List (Nat × Int)
def ab_hp (E : ab_E) (h : ax_H) (n : Nat) : Prop := ab_HT h n ∧ ab_fr E.2.2.2 E.2.2.1 E.2.1 h ∧ E.2.2.1 ≤ n
def ab_g (E : ab_E) (S : ab_S) (V : List Value) (lv : List (Nat × Value)) (st : List Value) (h : ax_H) (n cs ss : Nat) : Prop :=
  ab_lvR V S.1 lv ∧ ab_stR V S.2.1 st ∧ ab_ty n V S.2.2.1 ∧ ab_co V S.2.2.2.1 ∧ ab_ca V h S.2.2.2.2.1 ∧ ab_sg n V h S.2.2.2.2.2.1 ∧ (cs = S.2.2.2.2.2.2.1 ∧ ss = S.2.2.2.2.2.2.2) ∧ ab_hp E h n ∧ ∀ (u : Nat) (v : Value), E.1[u]? = some v → V[u]? = some v
theorem ab_ty_app {n : Nat} {V : List Value} {Γ : List ab_Y} {w : Value} {τ : ab_Y} (h : ab_ty n V Γ) (hw : ab_ok n w τ) : ab_ty n (V ++ [w]) (Γ ++ [τ]) := by
  refine ⟨by simp [h.1], fun u σ hu => ?_⟩
  by_cases hl : u < Γ.length
  · rw [List.getElem?_append_left hl] at hu
    obtain ⟨v, h1, h2⟩ := h.2 u σ hu
    exact ⟨v, by rw [List.getElem?_append_left (by rw [h.1]; exact hl)]; exact h1, h2⟩
  · rw [List.getElem?_append_right (by omega)] at hu
    have hz : u - Γ.length < 1 := (List.getElem?_eq_some_iff.mp hu).1
    have hz0 : u - Γ.length = 0 := by omega
    rw [hz0] at hu
    obtain rfl : τ = σ := Option.some.inj hu
    refine ⟨w, ?_, hw⟩
    rw [List.getElem?_append_right (by rw [h.1]; omega), h.1, hz0]; rfl
theorem ab_co_app {V : List Value} (W : List Value) {C : List (Nat × Nat × Int)} (h : ab_co V C) : ab_co (V ++ W) C := fun q hq => by
  obtain ⟨x, y, h1, h2, h3⟩ := h q hq
  exact ⟨x, y, ab_cv_app (a := .inr (.inl q.1)) W h1, ab_cv_app (a := .inr (.inl q.2.1)) W h2, h3⟩
theorem ab_ca_app {V : List Value} (W : List Value) {h : ax_H} {F : List (ab_V × ab_V × ab_V)} (hF : ab_ca V h F) : ab_ca (V ++ W) h F := fun q hq => by
  rcases hF q hq with ⟨k, x, w, h1, h2, h3, h4⟩ | ⟨x, y, z, h1, h2, h3, h4⟩
  · exact Or.inl ⟨k, x, w, ab_cv_app W h1, ab_cv_app W h2, ab_cv_app W h3, h4⟩
  · exact Or.inr ⟨x, y, z, ab_cv_app W h1, ab_cv_app W h2, ab_cv_app W h3, h4⟩
theorem ab_sg_app {n : Nat} {V : List Value} (W : List Value) {h : ax_H} {Z : List (ab_V × ab_V × ab_Y)} (hZ : ab_sg n V h Z) : ab_sg n (V ++ W) h Z := fun q hq => by
  obtain ⟨k, b, h1, h2, h3⟩ := hZ q hq
  exact ⟨k, b, ab_cv_app W h1, ab_cv_app W h2, h3⟩
theorem ab_co_two {V : List Value} {C D : List (Nat × Nat × Int)} (h1 : ab_co V C) (h2 : ab_co V D) : ab_co V (C ++ D) := fun q hq => (List.mem_append.mp hq).elim (h1 q) (h2 q)
theorem ab_new (V : List Value) (w : Value) : (V ++ [w])[V.length]? = some w := by rw [List.getElem?_append_right (Nat.le_refl _), Nat.sub_self]; rfl
/-- what a step answers: a value that there is, or a symbol more, with its type and differences -/
abbrev ab_R : Type := ab_V ⊕ (ab_Y × List (Nat × Nat × Int))
def ab_den (n : Nat) (V : List Value) (r : ab_R) (w : Value) : Prop := match r with
  | .inl v => ab_cv V v = some w
  | .inr (τ, C) => ab_ok n w τ ∧ ab_co (V ++ [w]) C
/-- the answer on the stack -/
def ab_put (S : ab_S) (st : List ab_V) (r : ab_R) : ab_S := match r with
  | .inl v => (S.1, v :: st, S.2.2)
  | .inr (τ, C) => (S.1, .inr (.inl S.2.2.1.length) :: st, S.2.2.1 ++ [τ], C ++ S.2.2.2.1, S.2.2.2.2)
/-- one valuation goes on another -/
def ab_ext (V V' : List Value) : Prop := ∀ (u : Nat) (v : Value), V[u]? = some v → V'[u]? = some v
theorem ab_ext_refl (V : List Value) : ab_ext V V := fun _ _ h => h
theorem ab_ext_app (V W : List Value) : ab_ext V (V ++ W) := fun u _ h => ab_cv_app (a := .inr (.inl u)) W h
theorem ab_ext_cv {V V' : List Value} (hx : ab_ext V V') {a : ab_V} {v : Value} (h : ab_cv V a = some v) : ab_cv V' a = some v := by
  rcases a with c | (u | (k | j))
  · exact h
  · exact hx u v h
  · exact h
  · exact h
theorem ab_put_ext {E : ab_E} {S : ab_S} {V : List Value} {lv : List (Nat × Value)} {st0 st1 : List Value} {st : List ab_V} {h : ax_H} {n cs ss : Nat} {r : ab_R} {w : Value} (hg : ab_g E S V lv st0 h n cs ss) (hst : ab_stR V st st1) (hr : ab_den n V r w) :
    ∃ V', ab_ext V V' ∧ ab_g E (ab_put S st r) V' lv (w :: st1) h n cs ss := by
  obtain ⟨g1, g2, g3, g4, g5, g6, g7, g8, g9⟩ := hg
  rcases r with v | ⟨τ, C⟩
  · exact ⟨V, ab_ext_refl V, g1, ⟨hr, hst⟩, g3, g4, g5, g6, g7, g8, g9⟩
  · refine ⟨V ++ [w], ab_ext_app V [w], ab_lvR_app _ g1, ⟨?_, ab_stR_app _ hst⟩, ab_ty_app g3 hr.1, ab_co_two hr.2 (ab_co_app _ g4), ab_ca_app _ g5, ab_sg_app _ g6, g7, g8, fun u v hu => ab_cv_app (a := .inr (.inl u)) _ (g9 u v hu)⟩
    show (V ++ [w])[S.2.2.1.length]? = some w
    rw [← g3.1]; exact ab_new V w
theorem ab_put_ok {E : ab_E} {S : ab_S} {V : List Value} {lv : List (Nat × Value)} {st0 st1 : List Value} {st : List ab_V} {h : ax_H} {n cs ss : Nat} {r : ab_R} {w : Value} (hg : ab_g E S V lv st0 h n cs ss) (hst : ab_stR V st st1) (hr : ab_den n V r w) :
    ∃ V', ab_g E (ab_put S st r) V' lv (w :: st1) h n cs ss := by
  obtain ⟨V', -, h⟩ := ab_put_ext hg hst hr
  exact ⟨V', h⟩
/-- bounds of a value -/
def ab_iv (Γ : List ab_Y) : ab_V → Option (Int × Int)
  | .inl c => bif ab_rng c then some (c, c) else none
  | .inr (.inl u) => match Γ[u]? with
    | some (.inl (lo, hi, _)) => some (lo, hi)
    | _ => none
  | _ => none
theorem ab_iv_ok {n : Nat} {V : List Value} {Γ : List ab_Y} (hΓ : ab_ty n V Γ) {a : ab_V} {b : Int × Int} (h : ab_iv Γ a = some b) {v : Value} (hv : ab_cv V a = some v) : ∃ x : Int32, v = .int x ∧ b.1 ≤ x.toInt ∧ x.toInt ≤ b.2 := by
  rcases a with c | (u | (k | j))
  · simp only [ab_iv, ab_cv] at h hv
    cases e : ab_rng c with
    | false => rw [e] at h; cases h
    | true =>
      rw [e] at h hv
      cases h
      cases hv
      exact ⟨_, rfl, by rw [ab_rng_ok e]; exact ⟨Int.le_refl _, Int.le_refl _⟩⟩
  · simp only [ab_iv] at h
    split at h
    · rename_i lo hi f hu
      cases h
      obtain ⟨w, h1, x, h2, h3, h4, -⟩ := hΓ.2 u _ hu
      have : w = v := Option.some.inj (h1.symm.trans hv)
      subst this
      exact ⟨x, h2, h3, h4⟩
    · cases h
  · cases h
  · cases h
/-- two values are the same -/
def ab_veq : ab_V → ab_V → Bool
  | .inl c, .inl d => decide (c = d)
  | .inr (.inl u), .inr (.inl w) => Nat.beq u w
  | .inr (.inr (.inl u)), .inr (.inr (.inl w)) => Nat.beq u w
  | .inr (.inr (.inr u)), .inr (.inr (.inr w)) => Nat.beq u w
  | _, _ => false
theorem ab_veq_ok {a b : ab_V} (h : ab_veq a b = true) : a = b := by
  rcases a with c | (u | (k | j)) <;> rcases b with c' | (u' | (k' | j')) <;> simp only [ab_veq, decide_eq_true_eq, Nat.beq_eq, Bool.false_eq_true] at h <;> first | exact h.elim | (subst h; rfl)
/-- an upper bound of a difference from a value whose least is told -/
def ab_ubn (Γ : List ab_Y) (C : List (Nat × Nat × Int)) (b : ab_V) (q : Int) : Nat → ab_V → Option Int
  | 0, a => bif ab_veq a b then some 0 else (ab_iv Γ a).map fun p => p.2 - q
  | f + 1, a => bif ab_veq a b then some 0 else match a with
    | .inr (.inl u) => match ab_iv Γ a with
      | some p => some (C.foldl (fun m e => bif Nat.beq e.1 u then (match ab_ubn Γ C b q f (.inr (.inl e.2.1)) with
          | some d => min m (e.2.2 + d)
          | none => m) else m) (p.2 - q))
      | none => none
    | _ => (ab_iv Γ a).map fun p => p.2 - q
/-- an upper bound of a difference -/
def ab_ub (Γ : List ab_Y) (C : List (Nat × Nat × Int)) (f : Nat) (a b : ab_V) : Option Int := match ab_iv Γ b with
  | some q => ab_ubn Γ C b q.1 f a
  | none => none
theorem ab_fold {α : Type} {f : Int → α → Int} {t : Int} (hf : ∀ m q, t ≤ m → t ≤ f m q) : ∀ (L : List α) (m : Int), t ≤ m → t ≤ L.foldl f m
  | [], m, h => h
  | q :: L, m, h => ab_fold hf L (f m q) (hf m q h)
theorem ab_foldM {α : Type} {P : α → Prop} {f : Int → α → Int} {t : Int} (hf : ∀ m q, P q → t ≤ m → t ≤ f m q) : ∀ (L : List α), (∀ q ∈ L, P q) → ∀ (m : Int), t ≤ m → t ≤ L.foldl f m
  | [], _, m, h => h
  | q :: L, hL, m, h => ab_foldM hf L (fun r hr => hL r (List.mem_cons_of_mem _ hr)) (f m q) (hf m q (hL q List.mem_cons_self) h)
theorem ab_ubn_ok {n : Nat} {V : List Value} {Γ : List ab_Y} {C : List (Nat × Nat × Int)} (hΓ : ab_ty n V Γ) (hC : ab_co V C) {b : ab_V} {q : Int} {y : Int32} (hy : ab_cv V b = some (.int y)) (hq : q ≤ y.toInt) : ∀ (f : Nat) (a : ab_V) (d : Int), ab_ubn Γ C b q f a = some d → ∀ x : Int32, ab_cv V a = some (.int x) → x.toInt - y.toInt ≤ d := by
  have hsame : ∀ (a : ab_V) (x : Int32), ab_veq a b = true → ab_cv V a = some (.int x) → x.toInt - y.toInt ≤ 0 := by
    intro a x e hx
    rw [ab_veq_ok e, hy] at hx
    cases hx
    omega
  have hiv : ∀ (a : ab_V) (d : Int), (ab_iv Γ a).map (fun p => p.2 - q) = some d → ∀ x : Int32, ab_cv V a = some (.int x) → x.toInt - y.toInt ≤ d := by
    intro a d h x hx
    obtain ⟨p, hp, rfl⟩ := Option.map_eq_some_iff.mp h
    obtain ⟨x', e1, -, h2⟩ := ab_iv_ok hΓ hp hx
    cases e1
    omega
  intro f
  induction f with
  | zero =>
    intro a d h x hx
    unfold ab_ubn at h
    cases e : ab_veq a b with
    | true => rw [e] at h; cases h; exact hsame a x e hx
    | false => rw [e] at h; exact hiv a d h x hx
  | succ f ih =>
    intro a d h x hx
    unfold ab_ubn at h
    cases e : ab_veq a b with
    | true => rw [e] at h; cases h; exact hsame a x e hx
    | false =>
      rw [e] at h
      simp only [cond_false] at h
      split at h
      · rename_i u
        split at h
        · rename_i p hp
          obtain rfl := Option.some.inj h
          refine ab_foldM (P := fun e => e ∈ C) (fun m e he hm => ?_) C (fun e he => he) _ (hiv _ _ (by rw [hp]; rfl) x hx)
          obtain ⟨x1, y1, e1, e2, e3⟩ := hC e he
          cases eu : Nat.beq e.1 u with
          | false => exact hm
          | true =>
            have eu' : e.1 = u := by simpa [Nat.beq_eq] using eu
            have hx1 : x1 = x := by
              rw [eu'] at e1
              have := e1.symm.trans hx
              cases this; rfl
            subst hx1
            simp only [cond_true]
            split
            · rename_i d' hd'
              have := ih _ _ hd' y1 e2
              omega
            · exact hm
        · cases h
      · exact hiv _ d h x hx
theorem ab_ub_ok {n : Nat} {V : List Value} {Γ : List ab_Y} {C : List (Nat × Nat × Int)} (hΓ : ab_ty n V Γ) (hC : ab_co V C) (f : Nat) (a b : ab_V) (d : Int) (h : ab_ub Γ C f a b = some d) (x y : Int32) (hx : ab_cv V a = some (.int x)) (hy : ab_cv V b = some (.int y)) : x.toInt - y.toInt ≤ d := by
  unfold ab_ub at h
  split at h
  · rename_i q hq
    obtain ⟨y', e2, h3, -⟩ := ab_iv_ok hΓ hq hy
    cases e2
    exact ab_ubn_ok hΓ hC hy h3 f a d h x hx
  · cases h
/-- a difference is at most so much -/
def ab_leq (Γ : List ab_Y) (C : List (Nat × Nat × Int)) (f : Nat) (a b : ab_V) (c : Int) : Bool := match ab_ub Γ C f a b with
  | some d => decide (d ≤ c)
  | none => false
theorem ab_leq_ok {n : Nat} {V : List Value} {Γ : List ab_Y} {C : List (Nat × Nat × Int)} (hΓ : ab_ty n V Γ) (hC : ab_co V C) {f : Nat} {a b : ab_V} {c : Int} (h : ab_leq Γ C f a b c = true) {x y : Int32} (hx : ab_cv V a = some (.int x)) (hy : ab_cv V b = some (.int y)) : x.toInt - y.toInt ≤ c := by
  unfold ab_leq at h
  split at h
  · rename_i d hd
    exact Int.le_trans (ab_ub_ok hΓ hC f a b d hd x y hx hy) (of_decide_eq_true h)
  · cases h
end
section
/-! ===== operations on ints, over bounds ===== -/
def ab_top : ab_Y := .inl (-2147483648, 2147483647, 0)
theorem ab_top_ok (n : Nat) (x : Int32) : ab_ok n (.int x) ab_top := ⟨x, rfl, by have := x.le_toInt; omega, by have := x.toInt_lt; omega, trivial⟩
def ab_sy : ab_V → Option Nat
  | .inr (.inl u) => some u
  | _ => none
/-- t - a is between p and q, where a is a symbol -/
def ab_d2 (t : Nat) (a : ab_V) (p q : Int) : List (Nat × Nat × Int) := match a with
  | .inr (.inl u) => [(t, u, q), (u, t, -p)]
  | _ => []
theorem ab_d2_ok {V : List Value} {a : ab_V} {p q : Int} {x z : Int32} (ha : ab_cv V a = some (.int x)) (h1 : p ≤ z.toInt - x.toInt) (h2 : z.toInt - x.toInt ≤ q) : ab_co (V ++ [.int z]) (ab_d2 V.length a p q) := by
  rcases a with c | (u | (k | j))
  · intro r hr; cases hr
  · intro r hr
    have hu : (V ++ [Value.int z])[u]? = some (.int x) := ab_cv_app (a := .inr (.inl u)) _ ha
    rcases List.mem_cons.mp hr with rfl | hr
    · exact ⟨z, x, ab_new V _, hu, h2⟩
    · rcases List.mem_cons.mp hr with rfl | hr
      · exact ⟨x, z, hu, ab_new V _, by simp only; omega⟩
      · cases hr
  · intro r hr; cases hr
  · intro r hr; cases hr
/-- t - a is q at most -/
def ab_d1 (t : Nat) (a : ab_V) (q : Int) : List (Nat × Nat × Int) := match a with
  | .inr (.inl u) => [(t, u, q)]
  | _ => []
theorem ab_d1_ok {V : List Value} {a : ab_V} {q : Int} {x z : Int32} (ha : ab_cv V a = some (.int x)) (h2 : z.toInt - x.toInt ≤ q) : ab_co (V ++ [.int z]) (ab_d1 V.length a q) := by
  rcases a with c | (u | (k | j))
  · intro r hr; cases hr
  · intro r hr
    rcases List.mem_cons.mp hr with rfl | hr
    · exact ⟨z, x, ab_new V _, ab_cv_app (a := .inr (.inl u)) _ ha, h2⟩
    · cases hr
  · intro r hr; cases hr
  · intro r hr; cases hr
/-- between bounds, or all ints -/
def ab_mk (lo hi : Int) (f : Nat) (C : List (Nat × Nat × Int)) : ab_R := bif ab_rng lo && ab_rng hi then (bif decide (lo = hi) then .inl (.inl lo) else .inr (.inl (lo, hi, f), C)) else .inr (ab_top, [])
theorem ab_mk_ok {n : Nat} {V : List Value} {lo hi : Int} {f : Nat} {C : List (Nat × Nat × Int)} {z : Int32} (h : ab_rng lo = true → ab_rng hi = true → lo ≤ z.toInt ∧ z.toInt ≤ hi ∧ ab_fl f z.toInt ∧ ab_co (V ++ [.int z]) C) : ab_den n V (ab_mk lo hi f C) (.int z) := by
  unfold ab_mk
  cases e1 : ab_rng lo with
  | false => exact ⟨ab_top_ok n z, fun q hq => by cases hq⟩
  | true =>
    cases e2 : ab_rng hi with
    | false => exact ⟨ab_top_ok n z, fun q hq => by cases hq⟩
    | true =>
      obtain ⟨h1, h2, h3, h4⟩ := h e1 e2
      simp only [Bool.and_self, cond_true]
      cases e3 : decide (lo = hi) with
      | true =>
        have := of_decide_eq_true e3
        show ab_cv V (.inl lo) = _
        simp only [ab_cv, e1, cond_true]
        have hz : z.toInt = lo := by omega
        rw [← hz, Int32.ofInt_toInt]
      | false => exact ⟨⟨z, rfl, h1, h2, h3⟩, h4⟩
theorem ab_no {V : List Value} : ab_co V [] := fun q hq => by cases hq
theorem ab_con {V : List Value} {C D : List (Nat × Nat × Int)} (h1 : ab_co V C) (h2 : ab_co V D) : ab_co V (C ++ D) := ab_co_two h1 h2
section OPS
variable {n : Nat} {V : List Value} {Γ : List ab_Y} {C : List (Nat × Nat × Int)} {a b : ab_V} {x y : Int32} {p q : Int × Int}
def ab_add (t : Nat) (a b : ab_V) (p q : Int × Int) : ab_R := bif decide (b = .inl 0) then .inl a else bif decide (a = .inl 0) then .inl b else ab_mk (p.1 + q.1) (p.2 + q.2) 0 (ab_d2 t a q.1 q.2 ++ ab_d2 t b p.1 p.2)
theorem ab_add_ok (ha : ab_cv V a = some (.int x)) (hb : ab_cv V b = some (.int y)) (hp : p.1 ≤ x.toInt ∧ x.toInt ≤ p.2) (hq : q.1 ≤ y.toInt ∧ y.toInt ≤ q.2) : ab_den n V (ab_add V.length a b p q) (.int (x + y)) := by
  unfold ab_add
  cases e1 : decide (b = .inl 0) with
  | true =>
    have := of_decide_eq_true e1
    subst this
    have hy : y = 0 := by cases hb; rfl
    subst hy
    show ab_cv V a = _
    rw [ha, Int32.add_zero]
  | false =>
    simp only [cond_false]
    cases e2 : decide (a = .inl 0) with
    | true =>
      have := of_decide_eq_true e2
      subst this
      have hx : x = 0 := by cases ha; rfl
      subst hx
      show ab_cv V b = _
      rw [hb, Int32.zero_add]
    | false =>
      refine ab_mk_ok fun r1 r2 => ?_
      rw [ab_rng_iff] at r1 r2
      have hz : (x + y).toInt = x.toInt + y.toInt := by rw [Int32.toInt_add, ab_bm (by omega) (by omega)]
      rw [hz]
      exact ⟨by omega, by omega, trivial, ab_con (ab_d2_ok ha (by omega) (by omega)) (ab_d2_ok hb (by omega) (by omega))⟩
def ab_mn (a : Option Int) (b : Int) : Int := match a with
  | some c => min c b
  | none => b
def ab_sub (Γ : List ab_Y) (C : List (Nat × Nat × Int)) (t : Nat) (a b : ab_V) (p q : Int × Int) : ab_R := bif decide (b = .inl 0) then .inl a else ab_mk (- ab_mn (ab_ub Γ C 3 b a) (q.2 - p.1)) (ab_mn (ab_ub Γ C 3 a b) (p.2 - q.1)) 0 (ab_d2 t a (-q.2) (-q.1))
theorem ab_mn_le {o : Option Int} {b t : Int} (h1 : ∀ c, o = some c → t ≤ c) (h2 : t ≤ b) : t ≤ ab_mn o b := by
  unfold ab_mn
  split
  · have := h1 _ rfl; omega
  · exact h2
theorem ab_sub_ok (hΓ : ab_ty n V Γ) (hC : ab_co V C) (ha : ab_cv V a = some (.int x)) (hb : ab_cv V b = some (.int y)) (hp : p.1 ≤ x.toInt ∧ x.toInt ≤ p.2) (hq : q.1 ≤ y.toInt ∧ y.toInt ≤ q.2) : ab_den n V (ab_sub Γ C V.length a b p q) (.int (x - y)) := by
  unfold ab_sub
  cases e1 : decide (b = .inl 0) with
  | true =>
    have := of_decide_eq_true e1
    subst this
    have hy : y = 0 := by cases hb; rfl
    subst hy
    show ab_cv V a = _
    rw [ha, Int32.sub_zero]
  | false =>
    have h1 : x.toInt - y.toInt ≤ ab_mn (ab_ub Γ C 3 a b) (p.2 - q.1) := ab_mn_le (fun c hc => ab_ub_ok hΓ hC 3 a b c hc x y ha hb) (by omega)
    have h2 : y.toInt - x.toInt ≤ ab_mn (ab_ub Γ C 3 b a) (q.2 - p.1) := ab_mn_le (fun c hc => ab_ub_ok hΓ hC 3 b a c hc y x hb ha) (by omega)
    refine ab_mk_ok fun r1 r2 => ?_
    rw [ab_rng_iff] at r1 r2
    have hz : (x - y).toInt = x.toInt - y.toInt := by rw [Int32.toInt_sub, ab_bm (by omega) (by omega)]
    rw [hz]
    exact ⟨by omega, by omega, trivial, ab_d2_ok ha (by omega) (by omega)⟩
def ab_min4 (a b c d : Int) : Int := min (min a b) (min c d)
def ab_max4 (a b c d : Int) : Int := max (max a b) (max c d)
def ab_mul (p q : Int × Int) : ab_R := ab_mk (ab_min4 (p.1 * q.1) (p.1 * q.2) (p.2 * q.1) (p.2 * q.2)) (ab_max4 (p.1 * q.1) (p.1 * q.2) (p.2 * q.1) (p.2 * q.2)) 0 []
theorem ab_corner {a b c d x y : Int} (h1 : a ≤ x) (h2 : x ≤ b) (h3 : c ≤ y) (h4 : y ≤ d) : ab_min4 (a * c) (a * d) (b * c) (b * d) ≤ x * y ∧ x * y ≤ ab_max4 (a * c) (a * d) (b * c) (b * d) := by
  unfold ab_min4 ab_max4
  have hlo : min (a * y) (b * y) ≤ x * y ∧ x * y ≤ max (a * y) (b * y) := by
    rcases Int.le_total 0 y with hy | hy
    · have := Int.mul_le_mul_of_nonneg_right h1 hy
      have := Int.mul_le_mul_of_nonneg_right h2 hy
      omega
    · have := Int.mul_le_mul_of_nonpos_right h1 hy
      have := Int.mul_le_mul_of_nonpos_right h2 hy
      omega
  have hs : ∀ t : Int, min (t * c) (t * d) ≤ t * y ∧ t * y ≤ max (t * c) (t * d) := by
    intro t
    rcases Int.le_total 0 t with ht | ht
    · have := Int.mul_le_mul_of_nonneg_left h3 ht
      have := Int.mul_le_mul_of_nonneg_left h4 ht
      omega
    · have := Int.mul_le_mul_of_nonpos_left ht h3
      have := Int.mul_le_mul_of_nonpos_left ht h4
      omega
  have h5 := hs a
  have h6 := hs b
  omega
theorem ab_mul_ok (hp : p.1 ≤ x.toInt ∧ x.toInt ≤ p.2) (hq : q.1 ≤ y.toInt ∧ y.toInt ≤ q.2) : ab_den n V (ab_mul p q) (.int (x * y)) := by
  unfold ab_mul
  refine ab_mk_ok fun r1 r2 => ?_
  rw [ab_rng_iff] at r1 r2
  have hc := ab_corner hp.1 hp.2 hq.1 hq.2
  have hz : (x * y).toInt = x.toInt * y.toInt := by rw [Int32.toInt_mul, ab_bm (by omega) (by omega)]
  rw [hz]
  exact ⟨hc.1, hc.2, trivial, ab_no⟩
def ab_neg (p : Int × Int) : ab_R := ab_mk (-p.2) (-p.1) 0 []
theorem ab_neg_ok (hp : p.1 ≤ x.toInt ∧ x.toInt ≤ p.2) : ab_den n V (ab_neg p) (.int (-x)) := by
  refine ab_mk_ok fun r1 r2 => ?_
  rw [ab_rng_iff] at r1 r2
  have hz : (-x).toInt = -x.toInt := by rw [Int32.toInt_neg, ab_bm (by omega) (by omega)]
  rw [hz]
  exact ⟨by omega, by omega, trivial, ab_no⟩
end OPS
end
section
/-! ===== operations on ints, over bounds: bits, quotients ===== -/
theorem ab_nn {x : Int32} (h : 0 ≤ x.toInt) : ∃ m : Nat, m < 2 ^ 31 ∧ x = nI m ∧ x.toInt = (m : Int) := by
  have h2 := x.toInt_lt
  refine ⟨x.toInt.toNat, by omega, ?_, by omega⟩
  apply Int32.toInt_inj.mp
  rw [nI_toInt (by omega)]
  omega
theorem ab_andN {m : Nat} (hm : m < 2 ^ 31) (y : Int32) : nI m &&& y = nI (m &&& y.toBitVec.toNat) := by
  apply Int32.toBitVec_inj.mp
  apply BitVec.eq_of_toNat_eq
  rw [Int32.toBitVec_and, BitVec.toNat_and, pk_tn (by omega), pk_tn]
  exact Nat.lt_of_le_of_lt Nat.and_le_left (by omega)
theorem ab_orN {a b : Nat} (ha : a < 2 ^ 31) (hb : b < 2 ^ 31) : nI a ||| nI b = nI (a ||| b) := by
  apply Int32.toBitVec_inj.mp
  apply BitVec.eq_of_toNat_eq
  rw [Int32.toBitVec_or, BitVec.toNat_or, pk_tn (by omega), pk_tn (by omega), pk_tn]
  exact Nat.lt_trans (Nat.or_lt_two_pow ha hb) (by decide)
theorem ab_or_le : ∀ (a b : Nat), a ||| b ≤ a + b := by
  intro a
  induction a using Nat.strongRecOn with
  | _ a ih =>
    intro b
    rcases Nat.eq_zero_or_pos a with rfl | ha
    · simp
    · have h1 := ih (a / 2) (by omega) (b / 2)
      have h2 : (a ||| b) / 2 = a / 2 ||| b / 2 := Nat.or_div_two
      have h3 : (a ||| b) % 2 ≤ a % 2 + b % 2 := by
        have := @Nat.or_mod_two_eq_one a b
        omega
      omega
theorem ab_s31 : ∀ c : Nat, c < 32 → ((nI c &&& 31).toBitVec.smod 32).toNat = c := by decide +kernel
section BIT
variable {n : Nat} {V : List Value} {Γ : List ab_Y} {C : List (Nat × Nat × Int)} {a b : ab_V} {x y : Int32} {p q : Int × Int} {fa : Nat}
def ab_and (b : ab_V) (fa : Nat) (p q : Int × Int) : ab_R := bif decide (0 ≤ p.1) then (bif decide (0 ≤ q.1) then (bif decide (b = .inl 15) && Nat.beq fa 2 then ab_mk 0 13 0 [] else ab_mk 0 (min p.2 q.2) 0 []) else ab_mk 0 p.2 0 [])
  else bif decide (0 ≤ q.1) then ab_mk 0 q.2 0 [] else .inr (ab_top, [])
theorem ab_and_r {y : Int32} {m : Nat} (hm : m < 2 ^ 31) : (nI m &&& y).toInt = ((m &&& y.toBitVec.toNat : Nat) : Int) := by
  rw [ab_andN hm, nI_toInt (Nat.lt_of_le_of_lt Nat.and_le_left hm)]
theorem ab_and_c (x y : Int32) : x &&& y = y &&& x := by
  apply Int32.toBitVec_inj.mp
  rw [Int32.toBitVec_and, Int32.toBitVec_and, BitVec.and_comm]
theorem ab_and_ok (hb : ab_cv V b = some (.int y)) (hf : ab_fl fa x.toInt) (hp : p.1 ≤ x.toInt ∧ x.toInt ≤ p.2) (hq : q.1 ≤ y.toInt ∧ y.toInt ≤ q.2) : ab_den n V (ab_and b fa p q) (.int (x &&& y)) := by
  have hl : 0 ≤ x.toInt → 0 ≤ (x &&& y).toInt ∧ (x &&& y).toInt ≤ x.toInt := by
    intro h0
    obtain ⟨m, hm, rfl, he⟩ := ab_nn h0
    rw [ab_and_r hm, he]
    exact ⟨Int.natCast_nonneg _, Int.ofNat_le.mpr Nat.and_le_left⟩
  have hr : 0 ≤ y.toInt → 0 ≤ (x &&& y).toInt ∧ (x &&& y).toInt ≤ y.toInt := by
    intro h0
    rw [ab_and_c]
    obtain ⟨m, hm, rfl, he⟩ := ab_nn h0
    rw [ab_and_r hm, he]
    exact ⟨Int.natCast_nonneg _, Int.ofNat_le.mpr Nat.and_le_left⟩
  unfold ab_and
  cases e1 : decide (0 ≤ p.1) with
  | true =>
    have h1 := of_decide_eq_true e1
    have h1' := hl (by omega)
    simp only [cond_true]
    cases e2 : decide (0 ≤ q.1) with
    | true =>
      have h2 := of_decide_eq_true e2
      have h2' := hr (by omega)
      simp only [cond_true]
      cases e3 : (decide (b = .inl 15) && Nat.beq fa 2) with
      | true =>
        simp only [Bool.and_eq_true, decide_eq_true_eq, Nat.beq_eq] at e3
        obtain ⟨rfl, rfl⟩ := e3
        simp only [cond_true]
        refine ab_mk_ok fun _ _ => ⟨h1'.1, ?_, trivial, ab_no⟩
        have hy : y = nI 15 := by cases hb; rfl
        have hf' := hf (by omega)
        obtain ⟨m, hm, rfl, he⟩ := ab_nn (show 0 ≤ x.toInt by omega)
        subst hy
        rw [ab_and_r hm, show (nI 15).toBitVec.toNat = 2 ^ 4 - 1 by decide, Nat.and_two_pow_sub_one_eq_mod]
        rw [he] at hf'
        omega
      | false =>
        simp only [cond_false]
        exact ab_mk_ok fun _ _ => ⟨h1'.1, by omega, trivial, ab_no⟩
    | false =>
      simp only [cond_false]
      exact ab_mk_ok fun _ _ => ⟨h1'.1, by omega, trivial, ab_no⟩
  | false =>
    simp only [cond_false]
    cases e2 : decide (0 ≤ q.1) with
    | true =>
      have h2 := of_decide_eq_true e2
      have h2' := hr (by omega)
      simp only [cond_true]
      exact ab_mk_ok fun _ _ => ⟨h2'.1, by omega, trivial, ab_no⟩
    | false => exact ⟨ab_top_ok n _, ab_no⟩
def ab_or (p q : Int × Int) : ab_R := bif decide (0 ≤ p.1) && decide (0 ≤ q.1) then ab_mk (max p.1 q.1) (p.2 + q.2) (bif decide (q.1 = q.2) && (decide (q.1 % 4096 = 0) && decide (p.2 ≤ 3583)) then 1 else 0) [] else .inr (ab_top, [])
theorem ab_or_ok (hp : p.1 ≤ x.toInt ∧ x.toInt ≤ p.2) (hq : q.1 ≤ y.toInt ∧ y.toInt ≤ q.2) : ab_den n V (ab_or p q) (.int (x ||| y)) := by
  unfold ab_or
  cases e1 : (decide (0 ≤ p.1) && decide (0 ≤ q.1)) with
  | false => exact ⟨ab_top_ok n _, ab_no⟩
  | true =>
    simp only [Bool.and_eq_true, decide_eq_true_eq] at e1
    obtain ⟨m, hm, rfl, hme⟩ := ab_nn (show 0 ≤ x.toInt by omega)
    obtain ⟨k, hk, rfl, hke⟩ := ab_nn (show 0 ≤ y.toInt by omega)
    simp only [cond_true]
    refine ab_mk_ok fun _ _ => ?_
    rw [ab_orN hm hk, nI_toInt (Nat.or_lt_two_pow hm hk)]
    have h1 := ab_or_le m k
    have h2 := @Nat.left_le_or m k
    have h3 := @Nat.right_le_or m k
    refine ⟨by omega, by omega, ?_, ab_no⟩
    cases e2 : (decide (q.1 = q.2) && (decide (q.1 % 4096 = 0) && decide (p.2 ≤ 3583))) with
    | false => exact trivial
    | true =>
      simp only [Bool.and_eq_true, decide_eq_true_eq] at e2
      intro _
      have h4 : k = 2 ^ 12 * (k / 4096) := by omega
      have h5 : m ||| k = k + m := by
        rw [Nat.or_comm, h4, ← Nat.two_pow_add_eq_or_of_lt (show m < 2 ^ 12 by omega)]
      rw [h5]
      omega
def ab_pw (c : Int) : Int := ((2 ^ c.toNat : Nat) : Int)
def ab_shl (a : ab_V) (p q : Int × Int) : ab_R := bif decide (0 ≤ q.1) && decide (q.2 ≤ 30) then (bif decide (q.1 = q.2) && decide (0 ≤ p.1) then ab_mk (p.1 * ab_pw q.1) (p.2 * ab_pw q.1) 0 [] else bif decide (a = .inl 1) then ab_mk 1 (ab_pw q.2) 0 [] else .inr (ab_top, [])) else .inr (ab_top, [])
theorem ab_shl_ok (ha : ab_cv V a = some (.int x)) (hp : p.1 ≤ x.toInt ∧ x.toInt ≤ p.2) (hq : q.1 ≤ y.toInt ∧ y.toInt ≤ q.2) : ab_den n V (ab_shl a p q) (.int (x <<< (y &&& 31))) := by
  unfold ab_shl
  cases e1 : (decide (0 ≤ q.1) && decide (q.2 ≤ 30)) with
  | false => exact ⟨ab_top_ok n _, ab_no⟩
  | true =>
    simp only [Bool.and_eq_true, decide_eq_true_eq] at e1
    obtain ⟨k, hk, rfl, hke⟩ := ab_nn (show 0 ≤ y.toInt by omega)
    simp only [cond_true]
    cases e2 : (decide (q.1 = q.2) && decide (0 ≤ p.1)) with
    | true =>
      simp only [Bool.and_eq_true, decide_eq_true_eq] at e2
      obtain ⟨m, hm, rfl, hme⟩ := ab_nn (show 0 ≤ x.toInt by omega)
      simp only [cond_true]
      have hk1 : q.1 = (k : Int) := by omega
      have hpw : ab_pw q.1 = ((2 ^ k : Nat) : Int) := by rw [hk1]; rfl
      refine ab_mk_ok fun r1 r2 => ?_
      rw [ab_rng_iff] at r1 r2
      rw [hpw] at r1 r2 ⊢
      have h0 : (0 : Int) ≤ ((2 ^ k : Nat) : Int) := Int.natCast_nonneg _
      have h1 : p.1 * ((2 ^ k : Nat) : Int) ≤ (m : Int) * ((2 ^ k : Nat) : Int) := Int.mul_le_mul_of_nonneg_right (by omega) h0
      have h2 : (m : Int) * ((2 ^ k : Nat) : Int) ≤ p.2 * ((2 ^ k : Nat) : Int) := Int.mul_le_mul_of_nonneg_right (by omega) h0
      have h3 : ((m * 2 ^ k : Nat) : Int) = (m : Int) * ((2 ^ k : Nat) : Int) := Int.natCast_mul _ _
      rw [pk_shlN (nI k &&& 31) k (ab_s31 k (by omega)) (by omega), nI_toInt (by omega), h3]
      exact ⟨h1, h2, trivial, ab_no⟩
    | false =>
      simp only [cond_false]
      cases e3 : decide (a = .inl 1) with
      | false => exact ⟨ab_top_ok n _, ab_no⟩
      | true =>
        have := of_decide_eq_true e3
        subst this
        have hx : x = nI 1 := by cases ha; rfl
        subst hx
        simp only [cond_true]
        refine ab_mk_ok fun r1 r2 => ?_
        have hk30 : k ≤ 30 := by omega
        have h1 : 2 ^ k ≤ 2 ^ 30 := Nat.pow_le_pow_right (by decide) hk30
        rw [pk_shlN (nI k &&& 31) k (ab_s31 k (by omega)) (by omega), Nat.one_mul, nI_toInt (by omega)]
        have h2 : 2 ^ k ≤ 2 ^ q.2.toNat := Nat.pow_le_pow_right (by decide) (by omega)
        have h3 := Nat.two_pow_pos k
        exact ⟨by omega, Int.ofNat_le.mpr h2, trivial, ab_no⟩
def ab_shr (t : Nat) (a : ab_V) (fa : Nat) (p q : Int × Int) : ab_R := bif decide (q.1 = q.2) && (decide (0 ≤ q.1) && decide (q.1 ≤ 31)) then ab_mk (p.1 / ab_pw q.1) (p.2 / ab_pw q.1) (bif Nat.beq fa 1 && (decide (q.1 = 8) && decide (0 ≤ p.1)) then 2 else 0) (bif decide (1 ≤ p.1) && decide (1 ≤ q.1) then ab_d1 t a (-1) else [])
  else bif decide (0 ≤ p.1) then ab_mk 0 p.2 0 [] else .inr (ab_top, [])
theorem ab_shr_ok (ha : ab_cv V a = some (.int x)) (hf : ab_fl fa x.toInt) (hp : p.1 ≤ x.toInt ∧ x.toInt ≤ p.2) (hq : q.1 ≤ y.toInt ∧ y.toInt ≤ q.2) : ab_den n V (ab_shr V.length a fa p q) (.int (x >>> (y &&& 31))) := by
  unfold ab_shr
  cases e1 : (decide (q.1 = q.2) && (decide (0 ≤ q.1) && decide (q.1 ≤ 31))) with
  | true =>
    simp only [Bool.and_eq_true, decide_eq_true_eq] at e1
    obtain ⟨k, hk, rfl, hke⟩ := ab_nn (show 0 ≤ y.toInt by omega)
    have hk1 : q.1 = (k : Int) := by omega
    have hpw : ab_pw q.1 = ((2 ^ k : Nat) : Int) := by rw [hk1]; rfl
    simp only [cond_true]
    refine ab_mk_ok fun r1 r2 => ?_
    have hz : (x >>> (nI k &&& 31)).toInt = x.toInt / ((2 ^ k : Nat) : Int) := by
      rw [pk_shr x (nI k &&& 31) k (ab_s31 k (by omega)), Int.shiftRight_eq_div_pow]
    rw [hpw]
    have hpos : (0 : Int) < ((2 ^ k : Nat) : Int) := Int.natCast_pos.mpr (Nat.two_pow_pos k)
    refine ⟨?_, ?_, ?_, ?_⟩
    · rw [hz]; exact Int.ediv_le_ediv hpos hp.1
    · rw [hz]; exact Int.ediv_le_ediv hpos hp.2
    · cases e2 : (Nat.beq fa 1 && (decide (q.1 = 8) && decide (0 ≤ p.1))) with
      | false => exact trivial
      | true =>
        simp only [Bool.and_eq_true, decide_eq_true_eq, Nat.beq_eq] at e2
        obtain ⟨rfl, h8, h0⟩ := e2
        intro _
        have hk8 : k = 8 := by omega
        subst hk8
        rw [hz]
        exact hf (by omega)
    · cases e2 : (decide (1 ≤ p.1) && decide (1 ≤ q.1)) with
      | false => exact ab_no
      | true =>
        simp only [Bool.and_eq_true, decide_eq_true_eq] at e2
        refine ab_d1_ok ha ?_
        rw [hz]
        have h2 : (2 : Int) ≤ ((2 ^ k : Nat) : Int) := by
          have : 2 ^ 1 ≤ 2 ^ k := Nat.pow_le_pow_right (by decide) (by omega)
          omega
        have h3 : x.toInt / ((2 ^ k : Nat) : Int) < x.toInt := Int.ediv_lt_self_of_pos_of_ne_one (by omega) (by omega)
        omega
  | false =>
    simp only [cond_false]
    cases e2 : decide (0 ≤ p.1) with
    | false => exact ⟨ab_top_ok n _, ab_no⟩
    | true =>
      have h0 := of_decide_eq_true e2
      simp only [cond_true]
      refine ab_mk_ok fun r1 r2 => ?_
      rw [pk_shr x (y &&& 31) _ rfl, Int.shiftRight_eq_div_pow]
      have h1 : 0 ≤ x.toInt := by omega
      have h2 : x.toInt / ((2 ^ ((y &&& 31).toBitVec.smod 32).toNat : Nat) : Int) ≤ x.toInt := Int.ediv_le_self _ h1
      exact ⟨Int.ediv_nonneg h1 (Int.natCast_nonneg _), by omega, trivial, ab_no⟩
def ab_div (t : Nat) (a : ab_V) (p q : Int × Int) : Option ab_R := bif decide (1 ≤ q.1) then some (bif decide (0 ≤ p.1) then ab_mk (bif decide (q.1 = q.2) then p.1 / q.1 else 0) (p.2 / q.1) 0 (bif decide (1 ≤ p.1) && decide (2 ≤ q.1) then ab_d1 t a (-1) else []) else .inr (ab_top, [])) else none
theorem ab_div_e {x y : Int32} (h0 : 0 ≤ x.toInt) (h1 : 1 ≤ y.toInt) : (x / y).toInt = x.toInt / y.toInt := by
  rw [Int32.toInt_div_of_ne_right x y (fun h => by rw [h] at h1; exact absurd h1 (by decide)), Int.tdiv_eq_ediv_of_nonneg h0]
theorem ab_div_ok {r : ab_R} (ha : ab_cv V a = some (.int x)) (hp : p.1 ≤ x.toInt ∧ x.toInt ≤ p.2) (hq : q.1 ≤ y.toInt ∧ y.toInt ≤ q.2) (h : ab_div V.length a p q = some r) : y ≠ 0 ∧ ab_den n V r (.int (x / y)) := by
  unfold ab_div at h
  cases e1 : decide (1 ≤ q.1) with
  | false => rw [e1] at h; cases h
  | true =>
    rw [e1] at h
    obtain rfl := Option.some.inj h
    have h1 := of_decide_eq_true e1
    refine ⟨fun h => by rw [h] at hq; have : (0 : Int32).toInt = 0 := rfl; omega, ?_⟩
    cases e2 : decide (0 ≤ p.1) with
    | false => exact ⟨ab_top_ok n _, ab_no⟩
    | true =>
      have h2 := of_decide_eq_true e2
      simp only [cond_true]
      refine ab_mk_ok fun r1 r2 => ?_
      have hz := ab_div_e (x := x) (y := y) (by omega) (by omega)
      rw [hz]
      refine ⟨?_, ?_, trivial, ?_⟩
      · cases e3 : decide (q.1 = q.2) with
        | true =>
          have h3 := of_decide_eq_true e3
          have h4 : y.toInt = q.1 := by omega
          simp only [cond_true]
          rw [h4]
          exact Int.ediv_le_ediv (by omega) hp.1
        | false => exact Int.ediv_nonneg (by omega) (by omega)
      · have h4 : x.toInt / y.toInt ≤ x.toInt / q.1 := by
          have hy0 : 0 < y.toInt := by omega
          have hq0 : 0 < q.1 := by omega
          rw [Int.le_ediv_iff_mul_le hq0]
          have h5 : x.toInt / y.toInt * q.1 ≤ x.toInt / y.toInt * y.toInt := Int.mul_le_mul_of_nonneg_left hq.1 (Int.ediv_nonneg (by omega) (by omega))
          have h6 := Int.ediv_mul_le x.toInt (show y.toInt ≠ 0 by omega)
          omega
        have h5 : x.toInt / q.1 ≤ p.2 / q.1 := Int.ediv_le_ediv (by omega) hp.2
        omega
      · cases e3 : (decide (1 ≤ p.1) && decide (2 ≤ q.1)) with
        | false => exact ab_no
        | true =>
          simp only [Bool.and_eq_true, decide_eq_true_eq] at e3
          refine ab_d1_ok ha ?_
          rw [hz]
          have h3 : x.toInt / y.toInt < x.toInt := Int.ediv_lt_self_of_pos_of_ne_one (by omega) (by omega)
          omega
def ab_rem (t : Nat) (b : ab_V) (p q : Int × Int) : Option ab_R := bif decide (1 ≤ q.1) then some (bif decide (0 ≤ p.1) then (bif decide (q.1 = q.2) && decide (p.1 / q.1 = p.2 / q.1) then ab_mk (p.1 % q.1) (p.2 % q.1) 0 [] else ab_mk 0 (min p.2 (q.2 - 1)) 0 (ab_d1 t b (-1))) else ab_mk (-(q.2 - 1)) (q.2 - 1) 0 []) else none
theorem ab_emod_le {a b : Int} (h : 0 ≤ a) (hb : 0 < b) : a % b ≤ a := by
  have h1 := Int.mul_ediv_add_emod a b
  have h2 := Int.mul_nonneg (Int.le_of_lt hb) (Int.ediv_nonneg h (Int.le_of_lt hb))
  omega
theorem ab_rem_e {x y : Int32} (h1 : 1 ≤ y.toInt) : (x - x / y * y).toInt = x.toInt.tmod y.toInt := by
  have hd : (x / y).toInt = x.toInt.tdiv y.toInt := Int32.toInt_div_of_ne_right x y (fun h => by rw [h] at h1; exact absurd h1 (by decide))
  have he := Int.mul_tdiv_add_tmod x.toInt y.toInt
  have hx1 := x.le_toInt
  have hx2 := x.toInt_lt
  have hb : (x / y * y).toInt = y.toInt * x.toInt.tdiv y.toInt := by
    have hm : (x.toInt.tmod y.toInt).natAbs ≤ x.toInt.natAbs := by
      rcases Int.le_total 0 x.toInt with h | h
      · have h2 := Int.tmod_nonneg y.toInt h
        have h3 : x.toInt.tmod y.toInt ≤ x.toInt := by
          rw [Int.tmod_eq_emod_of_nonneg h]
          exact ab_emod_le h (by omega)
        omega
      · have e := Int.neg_tmod (-x.toInt) y.toInt
        rw [Int.neg_neg] at e
        have h2 := Int.tmod_nonneg y.toInt (show 0 ≤ -x.toInt by omega)
        have h3 : (-x.toInt).tmod y.toInt ≤ -x.toInt := by
          rw [Int.tmod_eq_emod_of_nonneg (by omega)]
          exact ab_emod_le (by omega) (by omega)
        omega
    have hs : 0 ≤ x.toInt → 0 ≤ x.toInt.tmod y.toInt := Int.tmod_nonneg y.toInt
    have hs2 : x.toInt ≤ 0 → x.toInt.tmod y.toInt ≤ 0 := by
      intro h
      have e := Int.neg_tmod (-x.toInt) y.toInt
      rw [Int.neg_neg] at e
      have h2 := Int.tmod_nonneg y.toInt (show 0 ≤ -x.toInt by omega)
      omega
    rw [Int32.toInt_mul, hd, Int.mul_comm, ab_bm (by omega) (by omega)]
  have hr : x.toInt - y.toInt * x.toInt.tdiv y.toInt = x.toInt.tmod y.toInt := by omega
  have hlt : (x.toInt.tmod y.toInt).natAbs < y.toInt.natAbs := by
    rw [Int.natAbs_tmod]
    exact Nat.mod_lt _ (by omega)
  have hy2 := y.toInt_lt
  rw [Int32.toInt_sub, hb, hr, ab_bm (by omega) (by omega)]
theorem ab_rem_ok {r : ab_R} (hb : ab_cv V b = some (.int y)) (hp : p.1 ≤ x.toInt ∧ x.toInt ≤ p.2) (hq : q.1 ≤ y.toInt ∧ y.toInt ≤ q.2) (h : ab_rem V.length b p q = some r) : y ≠ 0 ∧ ab_den n V r (.int (x - x / y * y)) := by
  unfold ab_rem at h
  cases e1 : decide (1 ≤ q.1) with
  | false => rw [e1] at h; cases h
  | true =>
    rw [e1] at h
    obtain rfl := Option.some.inj h
    have h1 := of_decide_eq_true e1
    refine ⟨fun h => by rw [h] at hq; have : (0 : Int32).toInt = 0 := rfl; omega, ?_⟩
    have hz := ab_rem_e (x := x) (y := y) (by omega)
    cases e2 : decide (0 ≤ p.1) with
    | true =>
      have h2 := of_decide_eq_true e2
      have hx0 : 0 ≤ x.toInt := by omega
      rw [Int.tmod_eq_emod_of_nonneg hx0] at hz
      have m1 := Int.emod_nonneg x.toInt (show y.toInt ≠ 0 by omega)
      have m2 := Int.emod_lt_of_pos x.toInt (show 0 < y.toInt by omega)
      have m3 := ab_emod_le (b := y.toInt) hx0 (by omega)
      simp only [cond_true]
      cases e3 : (decide (q.1 = q.2) && decide (p.1 / q.1 = p.2 / q.1)) with
      | true =>
        simp only [Bool.and_eq_true, decide_eq_true_eq] at e3
        have hyq : y.toInt = q.1 := by omega
        simp only [cond_true]
        refine ab_mk_ok fun r1 r2 => ?_
        rw [hz, hyq]
        have d1 : p.1 / q.1 ≤ x.toInt / q.1 := Int.ediv_le_ediv (by omega) hp.1
        have d2 : x.toInt / q.1 ≤ p.2 / q.1 := Int.ediv_le_ediv (by omega) hp.2
        have d3 : x.toInt / q.1 = p.1 / q.1 := by omega
        have e4 := Int.mul_ediv_add_emod x.toInt q.1
        have e5 := Int.mul_ediv_add_emod p.1 q.1
        have e6 := Int.mul_ediv_add_emod p.2 q.1
        rw [d3] at e4
        rw [← e3.2] at e6
        exact ⟨by omega, by omega, trivial, ab_no⟩
      | false =>
        simp only [cond_false]
        refine ab_mk_ok fun r1 r2 => ?_
        rw [hz]
        refine ⟨m1, by omega, trivial, ab_d1_ok hb ?_⟩
        rw [hz]; omega
    | false =>
      simp only [cond_false]
      refine ab_mk_ok fun r1 r2 => ?_
      rw [hz]
      have hlt : (x.toInt.tmod y.toInt).natAbs < y.toInt.natAbs := by
        rw [Int.natAbs_tmod]
        exact Nat.mod_lt _ (by omega)
      exact ⟨by omega, by omega, trivial, ab_no⟩
def ab_i2b (a : ab_V) (p : Int × Int) : ab_R := bif decide (-128 ≤ p.1) && decide (p.2 ≤ 127) then .inl a else ab_mk (-128) 127 0 []
theorem ab_i2b_ok (ha : ab_cv V a = some (.int x)) (hp : p.1 ≤ x.toInt ∧ x.toInt ≤ p.2) : ab_den n V (ab_i2b a p) (.int x.toInt8.toInt32) := by
  unfold ab_i2b
  cases e1 : (decide (-128 ≤ p.1) && decide (p.2 ≤ 127)) with
  | true =>
    simp only [Bool.and_eq_true, decide_eq_true_eq] at e1
    show ab_cv V a = _
    rw [ha]
    congr 2
    apply Int32.toInt_inj.mp
    rw [Int8.toInt_toInt32, Int32.toInt_toInt8]
    exact (Int.bmod_eq_of_le (by omega) (by omega)).symm
  | false =>
    simp only [cond_false]
    refine ab_mk_ok fun r1 r2 => ?_
    rw [Int8.toInt_toInt32]
    have h1 := x.toInt8.le_toInt
    have h2 := x.toInt8.toInt_lt
    exact ⟨by omega, by omega, trivial, ab_no⟩
end BIT
end
