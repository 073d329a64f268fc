-- ===== PART A: goes FIRST, ahead of the names: the tables' words, and 'selects' of the private methods out of them =====
/-- a private method of a class that the tables say can be made, by its rows of tables_1 -/
def lw_okq (q : MethodName × Nat) : Prop := (q.1.cls ≠ "java/lang/invoke/MethodHandle" ∧ q.1.cls ≠ "java/lang/invoke/VarHandle") ∧ Cond.instantiable q.1.cls q.2 ∈ tables_1 ∧ Cond.privateMethod q.1 ∈ tables_1 ∧ Cond.instanceMethod q.1 ∈ tables_1
theorem lw_p0 : lw_okq (⟨"ForgottenFeast", "refuse", "(I)I"⟩, 17) := ⟨⟨by decide +kernel, by decide +kernel⟩, List.mem_of_getElem? (i := 22) (by decide +kernel), List.mem_of_getElem? (i := 433) (by decide +kernel), List.mem_of_getElem? (i := 434) (by decide +kernel)⟩
theorem lw_p1 : lw_okq (⟨"ForgottenFeast$Tape", "addNumber", "(I)V"⟩, 2) := ⟨⟨by decide +kernel, by decide +kernel⟩, List.mem_of_getElem? (i := 30) (by decide +kernel), List.mem_of_getElem? (i := 437) (by decide +kernel), List.mem_of_getElem? (i := 438) (by decide +kernel)⟩
theorem lw_p2 : lw_okq (⟨"ForgottenFeast$Reader", "readTown", "(LForgottenFeast$Town;)Z"⟩, 13) := ⟨⟨by decide +kernel, by decide +kernel⟩, List.mem_of_getElem? (i := 153) (by decide +kernel), List.mem_of_getElem? (i := 449) (by decide +kernel), List.mem_of_getElem? (i := 450) (by decide +kernel)⟩
theorem lw_p3 : lw_okq (⟨"ForgottenFeast$Reader", "begin", "()V"⟩, 13) := ⟨⟨by decide +kernel, by decide +kernel⟩, List.mem_of_getElem? (i := 153) (by decide +kernel), List.mem_of_getElem? (i := 453) (by decide +kernel), List.mem_of_getElem? (i := 454) (by decide +kernel)⟩
theorem lw_p4 : lw_okq (⟨"ForgottenFeast$Tokens", "cut", "()V"⟩, 3) := ⟨⟨by decide +kernel, by decide +kernel⟩, List.mem_of_getElem? (i := 161) (by decide +kernel), List.mem_of_getElem? (i := 457) (by decide +kernel), List.mem_of_getElem? (i := 458) (by decide +kernel)⟩
theorem lw_p5 : lw_okq (⟨"ForgottenFeast$Tokens", "runFrom", "(I)I"⟩, 3) := ⟨⟨by decide +kernel, by decide +kernel⟩, List.mem_of_getElem? (i := 161) (by decide +kernel), List.mem_of_getElem? (i := 461) (by decide +kernel), List.mem_of_getElem? (i := 462) (by decide +kernel)⟩
theorem lw_p6 : lw_okq (⟨"ForgottenFeast$Tokens", "wordKind", "(II)I"⟩, 3) := ⟨⟨by decide +kernel, by decide +kernel⟩, List.mem_of_getElem? (i := 161) (by decide +kernel), List.mem_of_getElem? (i := 471) (by decide +kernel), List.mem_of_getElem? (i := 472) (by decide +kernel)⟩
theorem lw_p7 : lw_okq (⟨"ForgottenFeast$Tokens", "isWord", "(III)Z"⟩, 3) := ⟨⟨by decide +kernel, by decide +kernel⟩, List.mem_of_getElem? (i := 161) (by decide +kernel), List.mem_of_getElem? (i := 475) (by decide +kernel), List.mem_of_getElem? (i := 476) (by decide +kernel)⟩
theorem lw_p8 : lw_okq (⟨"ForgottenFeast$Tokens", "lettersOf", "(II)I"⟩, 3) := ⟨⟨by decide +kernel, by decide +kernel⟩, List.mem_of_getElem? (i := 161) (by decide +kernel), List.mem_of_getElem? (i := 520) (by decide +kernel), List.mem_of_getElem? (i := 521) (by decide +kernel)⟩
theorem lw_p9 : lw_okq (⟨"ForgottenFeast$Tokens", "numberOf", "(II)I"⟩, 3) := ⟨⟨by decide +kernel, by decide +kernel⟩, List.mem_of_getElem? (i := 161) (by decide +kernel), List.mem_of_getElem? (i := 524) (by decide +kernel), List.mem_of_getElem? (i := 525) (by decide +kernel)⟩
theorem lw_p10 : lw_okq (⟨"ForgottenFeast$Tokens", "add", "(III)V"⟩, 3) := ⟨⟨by decide +kernel, by decide +kernel⟩, List.mem_of_getElem? (i := 161) (by decide +kernel), List.mem_of_getElem? (i := 528) (by decide +kernel), List.mem_of_getElem? (i := 529) (by decide +kernel)⟩
theorem lw_p11 : lw_okq (⟨"ForgottenFeast$Reader", "pass", "(ZI)V"⟩, 13) := ⟨⟨by decide +kernel, by decide +kernel⟩, List.mem_of_getElem? (i := 153) (by decide +kernel), List.mem_of_getElem? (i := 598) (by decide +kernel), List.mem_of_getElem? (i := 599) (by decide +kernel)⟩
theorem lw_p12 : lw_okq (⟨"ForgottenFeast$Town", "clear", "()V"⟩, 17) := ⟨⟨by decide +kernel, by decide +kernel⟩, List.mem_of_getElem? (i := 50) (by decide +kernel), List.mem_of_getElem? (i := 604) (by decide +kernel), List.mem_of_getElem? (i := 605) (by decide +kernel)⟩
theorem lw_p13 : lw_okq (⟨"ForgottenFeast$Reader", "readStatement", "()V"⟩, 13) := ⟨⟨by decide +kernel, by decide +kernel⟩, List.mem_of_getElem? (i := 153) (by decide +kernel), List.mem_of_getElem? (i := 611) (by decide +kernel), List.mem_of_getElem? (i := 612) (by decide +kernel)⟩
theorem lw_p14 : lw_okq (⟨"ForgottenFeast$Town", "isFull", "(I)Z"⟩, 17) := ⟨⟨by decide +kernel, by decide +kernel⟩, List.mem_of_getElem? (i := 50) (by decide +kernel), List.mem_of_getElem? (i := 615) (by decide +kernel), List.mem_of_getElem? (i := 616) (by decide +kernel)⟩
theorem lw_p15 : lw_okq (⟨"ForgottenFeast$Reader", "fail", "(II)V"⟩, 13) := ⟨⟨by decide +kernel, by decide +kernel⟩, List.mem_of_getElem? (i := 153) (by decide +kernel), List.mem_of_getElem? (i := 619) (by decide +kernel), List.mem_of_getElem? (i := 620) (by decide +kernel)⟩
def lw_privs_1 : List (MethodName × Nat) := [(⟨"ForgottenFeast", "refuse", "(I)I"⟩, 17), (⟨"ForgottenFeast$Tape", "addNumber", "(I)V"⟩, 2), (⟨"ForgottenFeast$Reader", "readTown", "(LForgottenFeast$Town;)Z"⟩, 13), (⟨"ForgottenFeast$Reader", "begin", "()V"⟩, 13), (⟨"ForgottenFeast$Tokens", "cut", "()V"⟩, 3), (⟨"ForgottenFeast$Tokens", "runFrom", "(I)I"⟩, 3), (⟨"ForgottenFeast$Tokens", "wordKind", "(II)I"⟩, 3), (⟨"ForgottenFeast$Tokens", "isWord", "(III)Z"⟩, 3), (⟨"ForgottenFeast$Tokens", "lettersOf", "(II)I"⟩, 3), (⟨"ForgottenFeast$Tokens", "numberOf", "(II)I"⟩, 3), (⟨"ForgottenFeast$Tokens", "add", "(III)V"⟩, 3), (⟨"ForgottenFeast$Reader", "pass", "(ZI)V"⟩, 13), (⟨"ForgottenFeast$Town", "clear", "()V"⟩, 17), (⟨"ForgottenFeast$Reader", "readStatement", "()V"⟩, 13), (⟨"ForgottenFeast$Town", "isFull", "(I)Z"⟩, 17), (⟨"ForgottenFeast$Reader", "fail", "(II)V"⟩, 13)]
theorem lw_r1 : ∀ q ∈ lw_privs_1, lw_okq q := List.forall_mem_cons.mpr ⟨lw_p0, List.forall_mem_cons.mpr ⟨lw_p1, List.forall_mem_cons.mpr ⟨lw_p2, List.forall_mem_cons.mpr ⟨lw_p3, List.forall_mem_cons.mpr ⟨lw_p4, List.forall_mem_cons.mpr ⟨lw_p5, List.forall_mem_cons.mpr ⟨lw_p6, List.forall_mem_cons.mpr ⟨lw_p7, List.forall_mem_cons.mpr ⟨lw_p8, List.forall_mem_cons.mpr ⟨lw_p9, List.forall_mem_cons.mpr ⟨lw_p10, List.forall_mem_cons.mpr ⟨lw_p11, List.forall_mem_cons.mpr ⟨lw_p12, List.forall_mem_cons.mpr ⟨lw_p13, List.forall_mem_cons.mpr ⟨lw_p14, List.forall_mem_cons.mpr ⟨lw_p15, fun _ h => absurd h List.not_mem_nil⟩⟩⟩⟩⟩⟩⟩⟩⟩⟩⟩⟩⟩⟩⟩⟩
theorem lw_p16 : lw_okq (⟨"ForgottenFeast$Reader", "readNumber", "(II)I"⟩, 13) := ⟨⟨by decide +kernel, by decide +kernel⟩, List.mem_of_getElem? (i := 153) (by decide +kernel), List.mem_of_getElem? (i := 623) (by decide +kernel), List.mem_of_getElem? (i := 624) (by decide +kernel)⟩
theorem lw_p17 : lw_okq (⟨"ForgottenFeast$Reader", "readPerson", "()V"⟩, 13) := ⟨⟨by decide +kernel, by decide +kernel⟩, List.mem_of_getElem? (i := 153) (by decide +kernel), List.mem_of_getElem? (i := 627) (by decide +kernel), List.mem_of_getElem? (i := 628) (by decide +kernel)⟩
theorem lw_p18 : lw_okq (⟨"ForgottenFeast$Town", "find", "(I)I"⟩, 17) := ⟨⟨by decide +kernel, by decide +kernel⟩, List.mem_of_getElem? (i := 50) (by decide +kernel), List.mem_of_getElem? (i := 631) (by decide +kernel), List.mem_of_getElem? (i := 632) (by decide +kernel)⟩
theorem lw_p19 : lw_okq (⟨"ForgottenFeast$Reader", "readName", "(Z)V"⟩, 13) := ⟨⟨by decide +kernel, by decide +kernel⟩, List.mem_of_getElem? (i := 153) (by decide +kernel), List.mem_of_getElem? (i := 635) (by decide +kernel), List.mem_of_getElem? (i := 636) (by decide +kernel)⟩
theorem lw_p20 : lw_okq (⟨"ForgottenFeast$Town", "addPerson", "(III)V"⟩, 17) := ⟨⟨by decide +kernel, by decide +kernel⟩, List.mem_of_getElem? (i := 50) (by decide +kernel), List.mem_of_getElem? (i := 639) (by decide +kernel), List.mem_of_getElem? (i := 640) (by decide +kernel)⟩
theorem lw_p21 : lw_okq (⟨"ForgottenFeast$Reader", "readTold", "()V"⟩, 13) := ⟨⟨by decide +kernel, by decide +kernel⟩, List.mem_of_getElem? (i := 153) (by decide +kernel), List.mem_of_getElem? (i := 643) (by decide +kernel), List.mem_of_getElem? (i := 644) (by decide +kernel)⟩
theorem lw_p22 : lw_okq (⟨"ForgottenFeast$Town", "addTold", "(II)Z"⟩, 17) := ⟨⟨by decide +kernel, by decide +kernel⟩, List.mem_of_getElem? (i := 50) (by decide +kernel), List.mem_of_getElem? (i := 647) (by decide +kernel), List.mem_of_getElem? (i := 648) (by decide +kernel)⟩
theorem lw_p23 : lw_okq (⟨"ForgottenFeast$Reader", "readReminds", "()V"⟩, 13) := ⟨⟨by decide +kernel, by decide +kernel⟩, List.mem_of_getElem? (i := 153) (by decide +kernel), List.mem_of_getElem? (i := 654) (by decide +kernel), List.mem_of_getElem? (i := 655) (by decide +kernel)⟩
theorem lw_p24 : lw_okq (⟨"ForgottenFeast$Town", "addReminds", "(II)Z"⟩, 17) := ⟨⟨by decide +kernel, by decide +kernel⟩, List.mem_of_getElem? (i := 50) (by decide +kernel), List.mem_of_getElem? (i := 658) (by decide +kernel), List.mem_of_getElem? (i := 659) (by decide +kernel)⟩
theorem lw_p25 : lw_okq (⟨"ForgottenFeast$Reader", "readFrost", "()V"⟩, 13) := ⟨⟨by decide +kernel, by decide +kernel⟩, List.mem_of_getElem? (i := 153) (by decide +kernel), List.mem_of_getElem? (i := 662) (by decide +kernel), List.mem_of_getElem? (i := 663) (by decide +kernel)⟩
theorem lw_p26 : lw_okq (⟨"ForgottenFeast$Town", "addFrost", "(II)V"⟩, 17) := ⟨⟨by decide +kernel, by decide +kernel⟩, List.mem_of_getElem? (i := 50) (by decide +kernel), List.mem_of_getElem? (i := 666) (by decide +kernel), List.mem_of_getElem? (i := 667) (by decide +kernel)⟩
theorem lw_p27 : lw_okq (⟨"ForgottenFeast$Reader", "readTest", "()V"⟩, 13) := ⟨⟨by decide +kernel, by decide +kernel⟩, List.mem_of_getElem? (i := 153) (by decide +kernel), List.mem_of_getElem? (i := 670) (by decide +kernel), List.mem_of_getElem? (i := 671) (by decide +kernel)⟩
theorem lw_p28 : lw_okq (⟨"ForgottenFeast$Reader", "readFact", "()V"⟩, 13) := ⟨⟨by decide +kernel, by decide +kernel⟩, List.mem_of_getElem? (i := 153) (by decide +kernel), List.mem_of_getElem? (i := 674) (by decide +kernel), List.mem_of_getElem? (i := 675) (by decide +kernel)⟩
theorem lw_p29 : lw_okq (⟨"ForgottenFeast$Reader", "open", "()Z"⟩, 13) := ⟨⟨by decide +kernel, by decide +kernel⟩, List.mem_of_getElem? (i := 153) (by decide +kernel), List.mem_of_getElem? (i := 678) (by decide +kernel), List.mem_of_getElem? (i := 679) (by decide +kernel)⟩
theorem lw_p30 : lw_okq (⟨"ForgottenFeast$Rule", "add", "(I)V"⟩, 2) := ⟨⟨by decide +kernel, by decide +kernel⟩, List.mem_of_getElem? (i := 56) (by decide +kernel), List.mem_of_getElem? (i := 682) (by decide +kernel), List.mem_of_getElem? (i := 683) (by decide +kernel)⟩
theorem lw_p31 : lw_okq (⟨"ForgottenFeast$Reader", "readSum", "()V"⟩, 13) := ⟨⟨by decide +kernel, by decide +kernel⟩, List.mem_of_getElem? (i := 153) (by decide +kernel), List.mem_of_getElem? (i := 686) (by decide +kernel), List.mem_of_getElem? (i := 687) (by decide +kernel)⟩
def lw_privs_2 : List (MethodName × Nat) := [(⟨"ForgottenFeast$Reader", "readNumber", "(II)I"⟩, 13), (⟨"ForgottenFeast$Reader", "readPerson", "()V"⟩, 13), (⟨"ForgottenFeast$Town", "find", "(I)I"⟩, 17), (⟨"ForgottenFeast$Reader", "readName", "(Z)V"⟩, 13), (⟨"ForgottenFeast$Town", "addPerson", "(III)V"⟩, 17), (⟨"ForgottenFeast$Reader", "readTold", "()V"⟩, 13), (⟨"ForgottenFeast$Town", "addTold", "(II)Z"⟩, 17), (⟨"ForgottenFeast$Reader", "readReminds", "()V"⟩, 13), (⟨"ForgottenFeast$Town", "addReminds", "(II)Z"⟩, 17), (⟨"ForgottenFeast$Reader", "readFrost", "()V"⟩, 13), (⟨"ForgottenFeast$Town", "addFrost", "(II)V"⟩, 17), (⟨"ForgottenFeast$Reader", "readTest", "()V"⟩, 13), (⟨"ForgottenFeast$Reader", "readFact", "()V"⟩, 13), (⟨"ForgottenFeast$Reader", "open", "()Z"⟩, 13), (⟨"ForgottenFeast$Rule", "add", "(I)V"⟩, 2), (⟨"ForgottenFeast$Reader", "readSum", "()V"⟩, 13)]
theorem lw_r2 : ∀ q ∈ lw_privs_2, lw_okq q := List.forall_mem_cons.mpr ⟨lw_p16, List.forall_mem_cons.mpr ⟨lw_p17, List.forall_mem_cons.mpr ⟨lw_p18, List.forall_mem_cons.mpr ⟨lw_p19, List.forall_mem_cons.mpr ⟨lw_p20, List.forall_mem_cons.mpr ⟨lw_p21, List.forall_mem_cons.mpr ⟨lw_p22, List.forall_mem_cons.mpr ⟨lw_p23, List.forall_mem_cons.mpr ⟨lw_p24, List.forall_mem_cons.mpr ⟨lw_p25, List.forall_mem_cons.mpr ⟨lw_p26, List.forall_mem_cons.mpr ⟨lw_p27, List.forall_mem_cons.mpr ⟨lw_p28, List.forall_mem_cons.mpr ⟨lw_p29, List.forall_mem_cons.mpr ⟨lw_p30, List.forall_mem_cons.mpr ⟨lw_p31, fun _ h => absurd h List.not_mem_nil⟩⟩⟩⟩⟩⟩⟩⟩⟩⟩⟩⟩⟩⟩⟩⟩
theorem lw_p32 : lw_okq (⟨"ForgottenFeast$Reader", "readPart", "()V"⟩, 13) := ⟨⟨by decide +kernel, by decide +kernel⟩, List.mem_of_getElem? (i := 153) (by decide +kernel), List.mem_of_getElem? (i := 690) (by decide +kernel), List.mem_of_getElem? (i := 691) (by decide +kernel)⟩
theorem lw_p33 : lw_okq (⟨"ForgottenFeast$Reader", "readSumsInside", "(Z)V"⟩, 13) := ⟨⟨by decide +kernel, by decide +kernel⟩, List.mem_of_getElem? (i := 153) (by decide +kernel), List.mem_of_getElem? (i := 694) (by decide +kernel), List.mem_of_getElem? (i := 695) (by decide +kernel)⟩
theorem lw_p34 : lw_okq (⟨"ForgottenFeast$Reader", "isPartWord", "(I)Z"⟩, 13) := ⟨⟨by decide +kernel, by decide +kernel⟩, List.mem_of_getElem? (i := 153) (by decide +kernel), List.mem_of_getElem? (i := 698) (by decide +kernel), List.mem_of_getElem? (i := 699) (by decide +kernel)⟩
theorem lw_p35 : lw_okq (⟨"ForgottenFeast$Town", "ruleOf", "(I)LForgottenFeast$Rule;"⟩, 17) := ⟨⟨by decide +kernel, by decide +kernel⟩, List.mem_of_getElem? (i := 50) (by decide +kernel), List.mem_of_getElem? (i := 705) (by decide +kernel), List.mem_of_getElem? (i := 706) (by decide +kernel)⟩
theorem lw_p36 : lw_okq (⟨"ForgottenFeast$Rule", "copyFrom", "(LForgottenFeast$Rule;)V"⟩, 2) := ⟨⟨by decide +kernel, by decide +kernel⟩, List.mem_of_getElem? (i := 56) (by decide +kernel), List.mem_of_getElem? (i := 709) (by decide +kernel), List.mem_of_getElem? (i := 710) (by decide +kernel)⟩
theorem lw_p37 : lw_okq (⟨"ForgottenFeast", "noteFault", "()V"⟩, 17) := ⟨⟨by decide +kernel, by decide +kernel⟩, List.mem_of_getElem? (i := 22) (by decide +kernel), List.mem_of_getElem? (i := 716) (by decide +kernel), List.mem_of_getElem? (i := 717) (by decide +kernel)⟩
theorem lw_p38 : lw_okq (⟨"ForgottenFeast$Life", "begin", "(LForgottenFeast$Town;)V"⟩, 11) := ⟨⟨by decide +kernel, by decide +kernel⟩, List.mem_of_getElem? (i := 224) (by decide +kernel), List.mem_of_getElem? (i := 720) (by decide +kernel), List.mem_of_getElem? (i := 721) (by decide +kernel)⟩
theorem lw_p39 : lw_okq (⟨"ForgottenFeast$Past", "forget", "()V"⟩, 3) := ⟨⟨by decide +kernel, by decide +kernel⟩, List.mem_of_getElem? (i := 288) (by decide +kernel), List.mem_of_getElem? (i := 726) (by decide +kernel), List.mem_of_getElem? (i := 727) (by decide +kernel)⟩
theorem lw_p40 : lw_okq (⟨"ForgottenFeast", "living", "()I"⟩, 17) := ⟨⟨by decide +kernel, by decide +kernel⟩, List.mem_of_getElem? (i := 22) (by decide +kernel), List.mem_of_getElem? (i := 739) (by decide +kernel), List.mem_of_getElem? (i := 740) (by decide +kernel)⟩
theorem lw_p41 : lw_okq (⟨"ForgottenFeast$Town", "everybody", "()I"⟩, 17) := ⟨⟨by decide +kernel, by decide +kernel⟩, List.mem_of_getElem? (i := 50) (by decide +kernel), List.mem_of_getElem? (i := 743) (by decide +kernel), List.mem_of_getElem? (i := 744) (by decide +kernel)⟩
theorem lw_p42 : lw_okq (⟨"ForgottenFeast", "isPerson", "(I)Z"⟩, 17) := ⟨⟨by decide +kernel, by decide +kernel⟩, List.mem_of_getElem? (i := 22) (by decide +kernel), List.mem_of_getElem? (i := 760) (by decide +kernel), List.mem_of_getElem? (i := 761) (by decide +kernel)⟩
theorem lw_p43 : lw_okq (⟨"ForgottenFeast", "daysToldOff", "(I)I"⟩, 17) := ⟨⟨by decide +kernel, by decide +kernel⟩, List.mem_of_getElem? (i := 22) (by decide +kernel), List.mem_of_getElem? (i := 769) (by decide +kernel), List.mem_of_getElem? (i := 770) (by decide +kernel)⟩
theorem lw_p44 : lw_okq (⟨"ForgottenFeast", "isDay", "(I)Z"⟩, 17) := ⟨⟨by decide +kernel, by decide +kernel⟩, List.mem_of_getElem? (i := 22) (by decide +kernel), List.mem_of_getElem? (i := 777) (by decide +kernel), List.mem_of_getElem? (i := 778) (by decide +kernel)⟩
theorem lw_p45 : lw_okq (⟨"ForgottenFeast$Life", "rowAt", "(I)I"⟩, 11) := ⟨⟨by decide +kernel, by decide +kernel⟩, List.mem_of_getElem? (i := 224) (by decide +kernel), List.mem_of_getElem? (i := 785) (by decide +kernel), List.mem_of_getElem? (i := 786) (by decide +kernel)⟩
theorem lw_p46 : lw_okq (⟨"ForgottenFeast", "foresee", "(I)Z"⟩, 17) := ⟨⟨by decide +kernel, by decide +kernel⟩, List.mem_of_getElem? (i := 22) (by decide +kernel), List.mem_of_getElem? (i := 805) (by decide +kernel), List.mem_of_getElem? (i := 806) (by decide +kernel)⟩
theorem lw_p47 : lw_okq (⟨"ForgottenFeast", "isAhead", "(I)Z"⟩, 17) := ⟨⟨by decide +kernel, by decide +kernel⟩, List.mem_of_getElem? (i := 22) (by decide +kernel), List.mem_of_getElem? (i := 809) (by decide +kernel), List.mem_of_getElem? (i := 810) (by decide +kernel)⟩
def lw_privs_3 : List (MethodName × Nat) := [(⟨"ForgottenFeast$Reader", "readPart", "()V"⟩, 13), (⟨"ForgottenFeast$Reader", "readSumsInside", "(Z)V"⟩, 13), (⟨"ForgottenFeast$Reader", "isPartWord", "(I)Z"⟩, 13), (⟨"ForgottenFeast$Town", "ruleOf", "(I)LForgottenFeast$Rule;"⟩, 17), (⟨"ForgottenFeast$Rule", "copyFrom", "(LForgottenFeast$Rule;)V"⟩, 2), (⟨"ForgottenFeast", "noteFault", "()V"⟩, 17), (⟨"ForgottenFeast$Life", "begin", "(LForgottenFeast$Town;)V"⟩, 11), (⟨"ForgottenFeast$Past", "forget", "()V"⟩, 3), (⟨"ForgottenFeast", "living", "()I"⟩, 17), (⟨"ForgottenFeast$Town", "everybody", "()I"⟩, 17), (⟨"ForgottenFeast", "isPerson", "(I)Z"⟩, 17), (⟨"ForgottenFeast", "daysToldOff", "(I)I"⟩, 17), (⟨"ForgottenFeast", "isDay", "(I)Z"⟩, 17), (⟨"ForgottenFeast$Life", "rowAt", "(I)I"⟩, 11), (⟨"ForgottenFeast", "foresee", "(I)Z"⟩, 17), (⟨"ForgottenFeast", "isAhead", "(I)Z"⟩, 17)]
theorem lw_r3 : ∀ q ∈ lw_privs_3, lw_okq q := List.forall_mem_cons.mpr ⟨lw_p32, List.forall_mem_cons.mpr ⟨lw_p33, List.forall_mem_cons.mpr ⟨lw_p34, List.forall_mem_cons.mpr ⟨lw_p35, List.forall_mem_cons.mpr ⟨lw_p36, List.forall_mem_cons.mpr ⟨lw_p37, List.forall_mem_cons.mpr ⟨lw_p38, List.forall_mem_cons.mpr ⟨lw_p39, List.forall_mem_cons.mpr ⟨lw_p40, List.forall_mem_cons.mpr ⟨lw_p41, List.forall_mem_cons.mpr ⟨lw_p42, List.forall_mem_cons.mpr ⟨lw_p43, List.forall_mem_cons.mpr ⟨lw_p44, List.forall_mem_cons.mpr ⟨lw_p45, List.forall_mem_cons.mpr ⟨lw_p46, List.forall_mem_cons.mpr ⟨lw_p47, fun _ h => absurd h List.not_mem_nil⟩⟩⟩⟩⟩⟩⟩⟩⟩⟩⟩⟩⟩⟩⟩⟩
theorem lw_p48 : lw_okq (⟨"ForgottenFeast$Life", "daysLeft", "(LForgottenFeast$Town;)I"⟩, 11) := ⟨⟨by decide +kernel, by decide +kernel⟩, List.mem_of_getElem? (i := 224) (by decide +kernel), List.mem_of_getElem? (i := 813) (by decide +kernel), List.mem_of_getElem? (i := 814) (by decide +kernel)⟩
theorem lw_p49 : lw_okq (⟨"ForgottenFeast$Life", "copyFrom", "(LForgottenFeast$Life;)V"⟩, 11) := ⟨⟨by decide +kernel, by decide +kernel⟩, List.mem_of_getElem? (i := 224) (by decide +kernel), List.mem_of_getElem? (i := 817) (by decide +kernel), List.mem_of_getElem? (i := 818) (by decide +kernel)⟩
theorem lw_p50 : lw_okq (⟨"ForgottenFeast$Dawn", "lookAt", "(LForgottenFeast$Town;LForgottenFeast$Life;)Z"⟩, 14) := ⟨⟨by decide +kernel, by decide +kernel⟩, List.mem_of_getElem? (i := 307) (by decide +kernel), List.mem_of_getElem? (i := 821) (by decide +kernel), List.mem_of_getElem? (i := 822) (by decide +kernel)⟩
theorem lw_p51 : lw_okq (⟨"ForgottenFeast$Dawn", "ofThemselves", "(II)I"⟩, 14) := ⟨⟨by decide +kernel, by decide +kernel⟩, List.mem_of_getElem? (i := 307) (by decide +kernel), List.mem_of_getElem? (i := 828) (by decide +kernel), List.mem_of_getElem? (i := 829) (by decide +kernel)⟩
theorem lw_p52 : lw_okq (⟨"ForgottenFeast$Dawn", "setPerson", "(II)V"⟩, 14) := ⟨⟨by decide +kernel, by decide +kernel⟩, List.mem_of_getElem? (i := 307) (by decide +kernel), List.mem_of_getElem? (i := 833) (by decide +kernel), List.mem_of_getElem? (i := 834) (by decide +kernel)⟩
theorem lw_p53 : lw_okq (⟨"ForgottenFeast$Rule", "valueOf", "([I[I)I"⟩, 2) := ⟨⟨by decide +kernel, by decide +kernel⟩, List.mem_of_getElem? (i := 56) (by decide +kernel), List.mem_of_getElem? (i := 837) (by decide +kernel), List.mem_of_getElem? (i := 838) (by decide +kernel)⟩
theorem lw_p54 : lw_okq (⟨"ForgottenFeast$Dawn", "spread", "(II)I"⟩, 14) := ⟨⟨by decide +kernel, by decide +kernel⟩, List.mem_of_getElem? (i := 307) (by decide +kernel), List.mem_of_getElem? (i := 862) (by decide +kernel), List.mem_of_getElem? (i := 863) (by decide +kernel)⟩
theorem lw_p55 : lw_okq (⟨"ForgottenFeast$Dawn", "wouldHear", "(II)Z"⟩, 14) := ⟨⟨by decide +kernel, by decide +kernel⟩, List.mem_of_getElem? (i := 307) (by decide +kernel), List.mem_of_getElem? (i := 870) (by decide +kernel), List.mem_of_getElem? (i := 871) (by decide +kernel)⟩
theorem lw_p56 : lw_okq (⟨"ForgottenFeast$Dawn", "settle", "()V"⟩, 14) := ⟨⟨by decide +kernel, by decide +kernel⟩, List.mem_of_getElem? (i := 307) (by decide +kernel), List.mem_of_getElem? (i := 874) (by decide +kernel), List.mem_of_getElem? (i := 875) (by decide +kernel)⟩
theorem lw_p57 : lw_okq (⟨"ForgottenFeast", "hangsOn", "()I"⟩, 17) := ⟨⟨by decide +kernel, by decide +kernel⟩, List.mem_of_getElem? (i := 22) (by decide +kernel), List.mem_of_getElem? (i := 888) (by decide +kernel), List.mem_of_getElem? (i := 889) (by decide +kernel)⟩
theorem lw_p58 : lw_okq (⟨"ForgottenFeast", "chanceOfNobody", "(I)I"⟩, 17) := ⟨⟨by decide +kernel, by decide +kernel⟩, List.mem_of_getElem? (i := 22) (by decide +kernel), List.mem_of_getElem? (i := 900) (by decide +kernel), List.mem_of_getElem? (i := 901) (by decide +kernel)⟩
theorem lw_p59 : lw_okq (⟨"ForgottenFeast", "priceOf", "(I)I"⟩, 17) := ⟨⟨by decide +kernel, by decide +kernel⟩, List.mem_of_getElem? (i := 22) (by decide +kernel), List.mem_of_getElem? (i := 910) (by decide +kernel), List.mem_of_getElem? (i := 911) (by decide +kernel)⟩
theorem lw_p60 : lw_okq (⟨"ForgottenFeast", "isSight", "()Z"⟩, 17) := ⟨⟨by decide +kernel, by decide +kernel⟩, List.mem_of_getElem? (i := 22) (by decide +kernel), List.mem_of_getElem? (i := 938) (by decide +kernel), List.mem_of_getElem? (i := 939) (by decide +kernel)⟩
theorem lw_p61 : lw_okq (⟨"ForgottenFeast", "isAsSeen", "(I)Z"⟩, 17) := ⟨⟨by decide +kernel, by decide +kernel⟩, List.mem_of_getElem? (i := 22) (by decide +kernel), List.mem_of_getElem? (i := 946) (by decide +kernel), List.mem_of_getElem? (i := 947) (by decide +kernel)⟩
theorem lw_p62 : lw_okq (⟨"ForgottenFeast", "hoursFrom", "(II)I"⟩, 17) := ⟨⟨by decide +kernel, by decide +kernel⟩, List.mem_of_getElem? (i := 22) (by decide +kernel), List.mem_of_getElem? (i := 954) (by decide +kernel), List.mem_of_getElem? (i := 955) (by decide +kernel)⟩
theorem lw_p63 : lw_okq (⟨"ForgottenFeast", "isLaw", "(I)Z"⟩, 17) := ⟨⟨by decide +kernel, by decide +kernel⟩, List.mem_of_getElem? (i := 22) (by decide +kernel), List.mem_of_getElem? (i := 963) (by decide +kernel), List.mem_of_getElem? (i := 964) (by decide +kernel)⟩
def lw_privs_4 : List (MethodName × Nat) := [(⟨"ForgottenFeast$Life", "daysLeft", "(LForgottenFeast$Town;)I"⟩, 11), (⟨"ForgottenFeast$Life", "copyFrom", "(LForgottenFeast$Life;)V"⟩, 11), (⟨"ForgottenFeast$Dawn", "lookAt", "(LForgottenFeast$Town;LForgottenFeast$Life;)Z"⟩, 14), (⟨"ForgottenFeast$Dawn", "ofThemselves", "(II)I"⟩, 14), (⟨"ForgottenFeast$Dawn", "setPerson", "(II)V"⟩, 14), (⟨"ForgottenFeast$Rule", "valueOf", "([I[I)I"⟩, 2), (⟨"ForgottenFeast$Dawn", "spread", "(II)I"⟩, 14), (⟨"ForgottenFeast$Dawn", "wouldHear", "(II)Z"⟩, 14), (⟨"ForgottenFeast$Dawn", "settle", "()V"⟩, 14), (⟨"ForgottenFeast", "hangsOn", "()I"⟩, 17), (⟨"ForgottenFeast", "chanceOfNobody", "(I)I"⟩, 17), (⟨"ForgottenFeast", "priceOf", "(I)I"⟩, 17), (⟨"ForgottenFeast", "isSight", "()Z"⟩, 17), (⟨"ForgottenFeast", "isAsSeen", "(I)Z"⟩, 17), (⟨"ForgottenFeast", "hoursFrom", "(II)I"⟩, 17), (⟨"ForgottenFeast", "isLaw", "(I)Z"⟩, 17)]
theorem lw_r4 : ∀ q ∈ lw_privs_4, lw_okq q := List.forall_mem_cons.mpr ⟨lw_p48, List.forall_mem_cons.mpr ⟨lw_p49, List.forall_mem_cons.mpr ⟨lw_p50, List.forall_mem_cons.mpr ⟨lw_p51, List.forall_mem_cons.mpr ⟨lw_p52, List.forall_mem_cons.mpr ⟨lw_p53, List.forall_mem_cons.mpr ⟨lw_p54, List.forall_mem_cons.mpr ⟨lw_p55, List.forall_mem_cons.mpr ⟨lw_p56, List.forall_mem_cons.mpr ⟨lw_p57, List.forall_mem_cons.mpr ⟨lw_p58, List.forall_mem_cons.mpr ⟨lw_p59, List.forall_mem_cons.mpr ⟨lw_p60, List.forall_mem_cons.mpr ⟨lw_p61, List.forall_mem_cons.mpr ⟨lw_p62, List.forall_mem_cons.mpr ⟨lw_p63, fun _ h => absurd h List.not_mem_nil⟩⟩⟩⟩⟩⟩⟩⟩⟩⟩⟩⟩⟩⟩⟩⟩
theorem lw_p64 : lw_okq (⟨"ForgottenFeast$Life", "toldOn", "(I)I"⟩, 11) := ⟨⟨by decide +kernel, by decide +kernel⟩, List.mem_of_getElem? (i := 224) (by decide +kernel), List.mem_of_getElem? (i := 968) (by decide +kernel), List.mem_of_getElem? (i := 969) (by decide +kernel)⟩
theorem lw_p65 : lw_okq (⟨"ForgottenFeast$Past", "remember", "(LForgottenFeast$Life;)V"⟩, 3) := ⟨⟨by decide +kernel, by decide +kernel⟩, List.mem_of_getElem? (i := 288) (by decide +kernel), List.mem_of_getElem? (i := 976) (by decide +kernel), List.mem_of_getElem? (i := 977) (by decide +kernel)⟩
theorem lw_p66 : lw_okq (⟨"ForgottenFeast", "liveOneDay", "()I"⟩, 17) := ⟨⟨by decide +kernel, by decide +kernel⟩, List.mem_of_getElem? (i := 22) (by decide +kernel), List.mem_of_getElem? (i := 982) (by decide +kernel), List.mem_of_getElem? (i := 983) (by decide +kernel)⟩
theorem lw_p67 : lw_okq (⟨"ForgottenFeast$Life", "addRow", "(IZ)V"⟩, 11) := ⟨⟨by decide +kernel, by decide +kernel⟩, List.mem_of_getElem? (i := 224) (by decide +kernel), List.mem_of_getElem? (i := 986) (by decide +kernel), List.mem_of_getElem? (i := 987) (by decide +kernel)⟩
theorem lw_p68 : lw_okq (⟨"ForgottenFeast", "drawDeaths", "()V"⟩, 17) := ⟨⟨by decide +kernel, by decide +kernel⟩, List.mem_of_getElem? (i := 22) (by decide +kernel), List.mem_of_getElem? (i := 1007) (by decide +kernel), List.mem_of_getElem? (i := 1008) (by decide +kernel)⟩
theorem lw_p69 : lw_okq (⟨"ForgottenFeast$Past", "bringBack", "(LForgottenFeast$Life;)V"⟩, 3) := ⟨⟨by decide +kernel, by decide +kernel⟩, List.mem_of_getElem? (i := 288) (by decide +kernel), List.mem_of_getElem? (i := 1020) (by decide +kernel), List.mem_of_getElem? (i := 1021) (by decide +kernel)⟩
theorem lw_p70 : lw_okq (⟨"ForgottenFeast$Reader", "readQuestion", "()Z"⟩, 13) := ⟨⟨by decide +kernel, by decide +kernel⟩, List.mem_of_getElem? (i := 153) (by decide +kernel), List.mem_of_getElem? (i := 1033) (by decide +kernel), List.mem_of_getElem? (i := 1034) (by decide +kernel)⟩
theorem lw_p71 : lw_okq (⟨"ForgottenFeast", "answerOf", "(I)J"⟩, 17) := ⟨⟨by decide +kernel, by decide +kernel⟩, List.mem_of_getElem? (i := 22) (by decide +kernel), List.mem_of_getElem? (i := 1037) (by decide +kernel), List.mem_of_getElem? (i := 1038) (by decide +kernel)⟩
theorem lw_p72 : lw_okq (⟨"ForgottenFeast$Dawn", "valueFor", "(LForgottenFeast$Rule;LForgottenFeast$Life;I)I"⟩, 14) := ⟨⟨by decide +kernel, by decide +kernel⟩, List.mem_of_getElem? (i := 307) (by decide +kernel), List.mem_of_getElem? (i := 1042) (by decide +kernel), List.mem_of_getElem? (i := 1043) (by decide +kernel)⟩
theorem lw_p73 : lw_okq (⟨"ForgottenFeast$Picture", "paint", "(LForgottenFeast$Town;LForgottenFeast$Life;)V"⟩, 2) := ⟨⟨by decide +kernel, by decide +kernel⟩, List.mem_of_getElem? (i := 362) (by decide +kernel), List.mem_of_getElem? (i := 1052) (by decide +kernel), List.mem_of_getElem? (i := 1053) (by decide +kernel)⟩
theorem lw_p74 : lw_okq (⟨"ForgottenFeast$Picture", "add", "(I)V"⟩, 2) := ⟨⟨by decide +kernel, by decide +kernel⟩, List.mem_of_getElem? (i := 362) (by decide +kernel), List.mem_of_getElem? (i := 1056) (by decide +kernel), List.mem_of_getElem? (i := 1057) (by decide +kernel)⟩
theorem lw_p75 : lw_okq (⟨"ForgottenFeast$Picture", "addList", "([I)V"⟩, 2) := ⟨⟨by decide +kernel, by decide +kernel⟩, List.mem_of_getElem? (i := 362) (by decide +kernel), List.mem_of_getElem? (i := 1062) (by decide +kernel), List.mem_of_getElem? (i := 1063) (by decide +kernel)⟩
theorem lw_p76 : lw_okq (⟨"ForgottenFeastModel", "daysTold", "()V"⟩, 108) := ⟨⟨by decide +kernel, by decide +kernel⟩, List.mem_of_getElem? (i := 1097) (by decide +kernel), List.mem_of_getElem? (i := 1441) (by decide +kernel), List.mem_of_getElem? (i := 1442) (by decide +kernel)⟩
theorem lw_p77 : lw_okq (⟨"ForgottenFeastModel", "asks", "([C)V"⟩, 108) := ⟨⟨by decide +kernel, by decide +kernel⟩, List.mem_of_getElem? (i := 1097) (by decide +kernel), List.mem_of_getElem? (i := 1445) (by decide +kernel), List.mem_of_getElem? (i := 1446) (by decide +kernel)⟩
theorem lw_p78 : lw_okq (⟨"ForgottenFeastModel", "takes", "([C)Z"⟩, 108) := ⟨⟨by decide +kernel, by decide +kernel⟩, List.mem_of_getElem? (i := 1097) (by decide +kernel), List.mem_of_getElem? (i := 1449) (by decide +kernel), List.mem_of_getElem? (i := 1450) (by decide +kernel)⟩
theorem lw_p79 : lw_okq (⟨"ForgottenFeastModel", "isHere", "([C)Z"⟩, 108) := ⟨⟨by decide +kernel, by decide +kernel⟩, List.mem_of_getElem? (i := 1097) (by decide +kernel), List.mem_of_getElem? (i := 1453) (by decide +kernel), List.mem_of_getElem? (i := 1454) (by decide +kernel)⟩
def lw_privs_5 : List (MethodName × Nat) := [(⟨"ForgottenFeast$Life", "toldOn", "(I)I"⟩, 11), (⟨"ForgottenFeast$Past", "remember", "(LForgottenFeast$Life;)V"⟩, 3), (⟨"ForgottenFeast", "liveOneDay", "()I"⟩, 17), (⟨"ForgottenFeast$Life", "addRow", "(IZ)V"⟩, 11), (⟨"ForgottenFeast", "drawDeaths", "()V"⟩, 17), (⟨"ForgottenFeast$Past", "bringBack", "(LForgottenFeast$Life;)V"⟩, 3), (⟨"ForgottenFeast$Reader", "readQuestion", "()Z"⟩, 13), (⟨"ForgottenFeast", "answerOf", "(I)J"⟩, 17), (⟨"ForgottenFeast$Dawn", "valueFor", "(LForgottenFeast$Rule;LForgottenFeast$Life;I)I"⟩, 14), (⟨"ForgottenFeast$Picture", "paint", "(LForgottenFeast$Town;LForgottenFeast$Life;)V"⟩, 2), (⟨"ForgottenFeast$Picture", "add", "(I)V"⟩, 2), (⟨"ForgottenFeast$Picture", "addList", "([I)V"⟩, 2), (⟨"ForgottenFeastModel", "daysTold", "()V"⟩, 108), (⟨"ForgottenFeastModel", "asks", "([C)V"⟩, 108), (⟨"ForgottenFeastModel", "takes", "([C)Z"⟩, 108), (⟨"ForgottenFeastModel", "isHere", "([C)Z"⟩, 108)]
theorem lw_r5 : ∀ q ∈ lw_privs_5, lw_okq q := List.forall_mem_cons.mpr ⟨lw_p64, List.forall_mem_cons.mpr ⟨lw_p65, List.forall_mem_cons.mpr ⟨lw_p66, List.forall_mem_cons.mpr ⟨lw_p67, List.forall_mem_cons.mpr ⟨lw_p68, List.forall_mem_cons.mpr ⟨lw_p69, List.forall_mem_cons.mpr ⟨lw_p70, List.forall_mem_cons.mpr ⟨lw_p71, List.forall_mem_cons.mpr ⟨lw_p72, List.forall_mem_cons.mpr ⟨lw_p73, List.forall_mem_cons.mpr ⟨lw_p74, List.forall_mem_cons.mpr ⟨lw_p75, List.forall_mem_cons.mpr ⟨lw_p76, List.forall_mem_cons.mpr ⟨lw_p77, List.forall_mem_cons.mpr ⟨lw_p78, List.forall_mem_cons.mpr ⟨lw_p79, fun _ h => absurd h List.not_mem_nil⟩⟩⟩⟩⟩⟩⟩⟩⟩⟩⟩⟩⟩⟩⟩⟩
theorem lw_p80 : lw_okq (⟨"ForgottenFeastModel", "look", "()I"⟩, 108) := ⟨⟨by decide +kernel, by decide +kernel⟩, List.mem_of_getElem? (i := 1097) (by decide +kernel), List.mem_of_getElem? (i := 1457) (by decide +kernel), List.mem_of_getElem? (i := 1458) (by decide +kernel)⟩
theorem lw_p81 : lw_okq (⟨"ForgottenFeastModel", "fail", "(II)V"⟩, 108) := ⟨⟨by decide +kernel, by decide +kernel⟩, List.mem_of_getElem? (i := 1097) (by decide +kernel), List.mem_of_getElem? (i := 1464) (by decide +kernel), List.mem_of_getElem? (i := 1465) (by decide +kernel)⟩
theorem lw_p82 : lw_okq (⟨"ForgottenFeastModel", "number", "(II)I"⟩, 108) := ⟨⟨by decide +kernel, by decide +kernel⟩, List.mem_of_getElem? (i := 1097) (by decide +kernel), List.mem_of_getElem? (i := 1468) (by decide +kernel), List.mem_of_getElem? (i := 1469) (by decide +kernel)⟩
theorem lw_p83 : lw_okq (⟨"ForgottenFeastModel", "asksSign", "(I)V"⟩, 108) := ⟨⟨by decide +kernel, by decide +kernel⟩, List.mem_of_getElem? (i := 1097) (by decide +kernel), List.mem_of_getElem? (i := 1478) (by decide +kernel), List.mem_of_getElem? (i := 1479) (by decide +kernel)⟩
theorem lw_p84 : lw_okq (⟨"ForgottenFeastModel", "takesSign", "(I)Z"⟩, 108) := ⟨⟨by decide +kernel, by decide +kernel⟩, List.mem_of_getElem? (i := 1097) (by decide +kernel), List.mem_of_getElem? (i := 1482) (by decide +kernel), List.mem_of_getElem? (i := 1483) (by decide +kernel)⟩
theorem lw_p85 : lw_okq (⟨"ForgottenFeastModel", "statementTold", "()V"⟩, 108) := ⟨⟨by decide +kernel, by decide +kernel⟩, List.mem_of_getElem? (i := 1097) (by decide +kernel), List.mem_of_getElem? (i := 1486) (by decide +kernel), List.mem_of_getElem? (i := 1487) (by decide +kernel)⟩
theorem lw_p86 : lw_okq (⟨"ForgottenFeastModel", "personTold", "(I)V"⟩, 108) := ⟨⟨by decide +kernel, by decide +kernel⟩, List.mem_of_getElem? (i := 1097) (by decide +kernel), List.mem_of_getElem? (i := 1490) (by decide +kernel), List.mem_of_getElem? (i := 1491) (by decide +kernel)⟩
theorem lw_p87 : lw_okq (⟨"ForgottenFeastModel", "isFull", "(III)Z"⟩, 108) := ⟨⟨by decide +kernel, by decide +kernel⟩, List.mem_of_getElem? (i := 1097) (by decide +kernel), List.mem_of_getElem? (i := 1494) (by decide +kernel), List.mem_of_getElem? (i := 1495) (by decide +kernel)⟩
theorem lw_p88 : lw_okq (⟨"ForgottenFeastModel", "name", "()J"⟩, 108) := ⟨⟨by decide +kernel, by decide +kernel⟩, List.mem_of_getElem? (i := 1097) (by decide +kernel), List.mem_of_getElem? (i := 1498) (by decide +kernel), List.mem_of_getElem? (i := 1499) (by decide +kernel)⟩
theorem lw_p89 : lw_okq (⟨"ForgottenFeastModel", "isOwnHere", "()Z"⟩, 108) := ⟨⟨by decide +kernel, by decide +kernel⟩, List.mem_of_getElem? (i := 1097) (by decide +kernel), List.mem_of_getElem? (i := 1502) (by decide +kernel), List.mem_of_getElem? (i := 1503) (by decide +kernel)⟩
theorem lw_p90 : lw_okq (⟨"ForgottenFeastModel", "personOf", "(J)I"⟩, 108) := ⟨⟨by decide +kernel, by decide +kernel⟩, List.mem_of_getElem? (i := 1097) (by decide +kernel), List.mem_of_getElem? (i := 1508) (by decide +kernel), List.mem_of_getElem? (i := 1509) (by decide +kernel)⟩
theorem lw_p91 : lw_okq (⟨"ForgottenFeastModel", "isToldOff", "(I)V"⟩, 108) := ⟨⟨by decide +kernel, by decide +kernel⟩, List.mem_of_getElem? (i := 1097) (by decide +kernel), List.mem_of_getElem? (i := 1512) (by decide +kernel), List.mem_of_getElem? (i := 1513) (by decide +kernel)⟩
theorem lw_p92 : lw_okq (⟨"ForgottenFeastModel", "personHere", "()I"⟩, 108) := ⟨⟨by decide +kernel, by decide +kernel⟩, List.mem_of_getElem? (i := 1097) (by decide +kernel), List.mem_of_getElem? (i := 1516) (by decide +kernel), List.mem_of_getElem? (i := 1517) (by decide +kernel)⟩
theorem lw_p93 : lw_okq (⟨"ForgottenFeastModel", "remindsTold", "(I)V"⟩, 108) := ⟨⟨by decide +kernel, by decide +kernel⟩, List.mem_of_getElem? (i := 1097) (by decide +kernel), List.mem_of_getElem? (i := 1520) (by decide +kernel), List.mem_of_getElem? (i := 1521) (by decide +kernel)⟩
theorem lw_p94 : lw_okq (⟨"ForgottenFeastModel", "frostTold", "(I)V"⟩, 108) := ⟨⟨by decide +kernel, by decide +kernel⟩, List.mem_of_getElem? (i := 1097) (by decide +kernel), List.mem_of_getElem? (i := 1524) (by decide +kernel), List.mem_of_getElem? (i := 1525) (by decide +kernel)⟩
theorem lw_p95 : lw_okq (⟨"ForgottenFeastModel", "codesTold", "(II)V"⟩, 108) := ⟨⟨by decide +kernel, by decide +kernel⟩, List.mem_of_getElem? (i := 1097) (by decide +kernel), List.mem_of_getElem? (i := 1528) (by decide +kernel), List.mem_of_getElem? (i := 1529) (by decide +kernel)⟩
def lw_privs_6 : List (MethodName × Nat) := [(⟨"ForgottenFeastModel", "look", "()I"⟩, 108), (⟨"ForgottenFeastModel", "fail", "(II)V"⟩, 108), (⟨"ForgottenFeastModel", "number", "(II)I"⟩, 108), (⟨"ForgottenFeastModel", "asksSign", "(I)V"⟩, 108), (⟨"ForgottenFeastModel", "takesSign", "(I)Z"⟩, 108), (⟨"ForgottenFeastModel", "statementTold", "()V"⟩, 108), (⟨"ForgottenFeastModel", "personTold", "(I)V"⟩, 108), (⟨"ForgottenFeastModel", "isFull", "(III)Z"⟩, 108), (⟨"ForgottenFeastModel", "name", "()J"⟩, 108), (⟨"ForgottenFeastModel", "isOwnHere", "()Z"⟩, 108), (⟨"ForgottenFeastModel", "personOf", "(J)I"⟩, 108), (⟨"ForgottenFeastModel", "isToldOff", "(I)V"⟩, 108), (⟨"ForgottenFeastModel", "personHere", "()I"⟩, 108), (⟨"ForgottenFeastModel", "remindsTold", "(I)V"⟩, 108), (⟨"ForgottenFeastModel", "frostTold", "(I)V"⟩, 108), (⟨"ForgottenFeastModel", "codesTold", "(II)V"⟩, 108)]
theorem lw_r6 : ∀ q ∈ lw_privs_6, lw_okq q := List.forall_mem_cons.mpr ⟨lw_p80, List.forall_mem_cons.mpr ⟨lw_p81, List.forall_mem_cons.mpr ⟨lw_p82, List.forall_mem_cons.mpr ⟨lw_p83, List.forall_mem_cons.mpr ⟨lw_p84, List.forall_mem_cons.mpr ⟨lw_p85, List.forall_mem_cons.mpr ⟨lw_p86, List.forall_mem_cons.mpr ⟨lw_p87, List.forall_mem_cons.mpr ⟨lw_p88, List.forall_mem_cons.mpr ⟨lw_p89, List.forall_mem_cons.mpr ⟨lw_p90, List.forall_mem_cons.mpr ⟨lw_p91, List.forall_mem_cons.mpr ⟨lw_p92, List.forall_mem_cons.mpr ⟨lw_p93, List.forall_mem_cons.mpr ⟨lw_p94, List.forall_mem_cons.mpr ⟨lw_p95, fun _ h => absurd h List.not_mem_nil⟩⟩⟩⟩⟩⟩⟩⟩⟩⟩⟩⟩⟩⟩⟩⟩
theorem lw_p96 : lw_okq (⟨"ForgottenFeastModel", "qTest", "()V"⟩, 108) := ⟨⟨by decide +kernel, by decide +kernel⟩, List.mem_of_getElem? (i := 1097) (by decide +kernel), List.mem_of_getElem? (i := 1532) (by decide +kernel), List.mem_of_getElem? (i := 1533) (by decide +kernel)⟩
theorem lw_p97 : lw_okq (⟨"ForgottenFeastModel", "qOpens", "(II)V"⟩, 108) := ⟨⟨by decide +kernel, by decide +kernel⟩, List.mem_of_getElem? (i := 1097) (by decide +kernel), List.mem_of_getElem? (i := 1536) (by decide +kernel), List.mem_of_getElem? (i := 1537) (by decide +kernel)⟩
theorem lw_p98 : lw_okq (⟨"ForgottenFeastModel", "qFact", "()V"⟩, 108) := ⟨⟨by decide +kernel, by decide +kernel⟩, List.mem_of_getElem? (i := 1097) (by decide +kernel), List.mem_of_getElem? (i := 1540) (by decide +kernel), List.mem_of_getElem? (i := 1541) (by decide +kernel)⟩
theorem lw_p99 : lw_okq (⟨"ForgottenFeastModel", "qCode", "(I)V"⟩, 108) := ⟨⟨by decide +kernel, by decide +kernel⟩, List.mem_of_getElem? (i := 1097) (by decide +kernel), List.mem_of_getElem? (i := 1544) (by decide +kernel), List.mem_of_getElem? (i := 1545) (by decide +kernel)⟩
theorem lw_p100 : lw_okq (⟨"ForgottenFeastModel", "qSums", "()V"⟩, 108) := ⟨⟨by decide +kernel, by decide +kernel⟩, List.mem_of_getElem? (i := 1097) (by decide +kernel), List.mem_of_getElem? (i := 1548) (by decide +kernel), List.mem_of_getElem? (i := 1549) (by decide +kernel)⟩
theorem lw_p101 : lw_okq (⟨"ForgottenFeastModel", "qPartTold", "()V"⟩, 108) := ⟨⟨by decide +kernel, by decide +kernel⟩, List.mem_of_getElem? (i := 1097) (by decide +kernel), List.mem_of_getElem? (i := 1552) (by decide +kernel), List.mem_of_getElem? (i := 1553) (by decide +kernel)⟩
theorem lw_p102 : lw_okq (⟨"ForgottenFeastModel", "qWordOf", "(II)I"⟩, 108) := ⟨⟨by decide +kernel, by decide +kernel⟩, List.mem_of_getElem? (i := 1097) (by decide +kernel), List.mem_of_getElem? (i := 1556) (by decide +kernel), List.mem_of_getElem? (i := 1557) (by decide +kernel)⟩
theorem lw_p103 : lw_okq (⟨"ForgottenFeastModel", "qWordHere", "()I"⟩, 108) := ⟨⟨by decide +kernel, by decide +kernel⟩, List.mem_of_getElem? (i := 1097) (by decide +kernel), List.mem_of_getElem? (i := 1560) (by decide +kernel), List.mem_of_getElem? (i := 1561) (by decide +kernel)⟩
theorem lw_p104 : lw_okq (⟨"ForgottenFeastModel", "isAllowed", "(I)Z"⟩, 108) := ⟨⟨by decide +kernel, by decide +kernel⟩, List.mem_of_getElem? (i := 1097) (by decide +kernel), List.mem_of_getElem? (i := 1564) (by decide +kernel), List.mem_of_getElem? (i := 1565) (by decide +kernel)⟩
theorem lw_p105 : lw_okq (⟨"ForgottenFeastModel", "qAsksWord", "(I)V"⟩, 108) := ⟨⟨by decide +kernel, by decide +kernel⟩, List.mem_of_getElem? (i := 1097) (by decide +kernel), List.mem_of_getElem? (i := 1568) (by decide +kernel), List.mem_of_getElem? (i := 1569) (by decide +kernel)⟩
theorem lw_p106 : lw_okq (⟨"ForgottenFeastModel", "qEndsPart", "()V"⟩, 108) := ⟨⟨by decide +kernel, by decide +kernel⟩, List.mem_of_getElem? (i := 1097) (by decide +kernel), List.mem_of_getElem? (i := 1572) (by decide +kernel), List.mem_of_getElem? (i := 1573) (by decide +kernel)⟩
theorem lw_p107 : lw_okq (⟨"ForgottenFeastModel", "qDrops", "()V"⟩, 108) := ⟨⟨by decide +kernel, by decide +kernel⟩, List.mem_of_getElem? (i := 1097) (by decide +kernel), List.mem_of_getElem? (i := 1576) (by decide +kernel), List.mem_of_getElem? (i := 1577) (by decide +kernel)⟩
theorem lw_p108 : lw_okq (⟨"ForgottenFeastModel", "qGoesOn", "()Z"⟩, 108) := ⟨⟨by decide +kernel, by decide +kernel⟩, List.mem_of_getElem? (i := 1097) (by decide +kernel), List.mem_of_getElem? (i := 1580) (by decide +kernel), List.mem_of_getElem? (i := 1581) (by decide +kernel)⟩
theorem lw_p109 : lw_okq (⟨"ForgottenFeastModel", "qBracket", "()I"⟩, 108) := ⟨⟨by decide +kernel, by decide +kernel⟩, List.mem_of_getElem? (i := 1097) (by decide +kernel), List.mem_of_getElem? (i := 1584) (by decide +kernel), List.mem_of_getElem? (i := 1585) (by decide +kernel)⟩
theorem lw_p110 : lw_okq (⟨"ForgottenFeastModel", "qDropsToBracket", "()V"⟩, 108) := ⟨⟨by decide +kernel, by decide +kernel⟩, List.mem_of_getElem? (i := 1097) (by decide +kernel), List.mem_of_getElem? (i := 1591) (by decide +kernel), List.mem_of_getElem? (i := 1592) (by decide +kernel)⟩
theorem lw_p111 : lw_okq (⟨"ForgottenFeastModel", "qIsOn", "(I)Z"⟩, 108) := ⟨⟨by decide +kernel, by decide +kernel⟩, List.mem_of_getElem? (i := 1097) (by decide +kernel), List.mem_of_getElem? (i := 1595) (by decide +kernel), List.mem_of_getElem? (i := 1596) (by decide +kernel)⟩
def lw_privs_7 : List (MethodName × Nat) := [(⟨"ForgottenFeastModel", "qTest", "()V"⟩, 108), (⟨"ForgottenFeastModel", "qOpens", "(II)V"⟩, 108), (⟨"ForgottenFeastModel", "qFact", "()V"⟩, 108), (⟨"ForgottenFeastModel", "qCode", "(I)V"⟩, 108), (⟨"ForgottenFeastModel", "qSums", "()V"⟩, 108), (⟨"ForgottenFeastModel", "qPartTold", "()V"⟩, 108), (⟨"ForgottenFeastModel", "qWordOf", "(II)I"⟩, 108), (⟨"ForgottenFeastModel", "qWordHere", "()I"⟩, 108), (⟨"ForgottenFeastModel", "isAllowed", "(I)Z"⟩, 108), (⟨"ForgottenFeastModel", "qAsksWord", "(I)V"⟩, 108), (⟨"ForgottenFeastModel", "qEndsPart", "()V"⟩, 108), (⟨"ForgottenFeastModel", "qDrops", "()V"⟩, 108), (⟨"ForgottenFeastModel", "qGoesOn", "()Z"⟩, 108), (⟨"ForgottenFeastModel", "qBracket", "()I"⟩, 108), (⟨"ForgottenFeastModel", "qDropsToBracket", "()V"⟩, 108), (⟨"ForgottenFeastModel", "qIsOn", "(I)Z"⟩, 108)]
theorem lw_r7 : ∀ q ∈ lw_privs_7, lw_okq q := List.forall_mem_cons.mpr ⟨lw_p96, List.forall_mem_cons.mpr ⟨lw_p97, List.forall_mem_cons.mpr ⟨lw_p98, List.forall_mem_cons.mpr ⟨lw_p99, List.forall_mem_cons.mpr ⟨lw_p100, List.forall_mem_cons.mpr ⟨lw_p101, List.forall_mem_cons.mpr ⟨lw_p102, List.forall_mem_cons.mpr ⟨lw_p103, List.forall_mem_cons.mpr ⟨lw_p104, List.forall_mem_cons.mpr ⟨lw_p105, List.forall_mem_cons.mpr ⟨lw_p106, List.forall_mem_cons.mpr ⟨lw_p107, List.forall_mem_cons.mpr ⟨lw_p108, List.forall_mem_cons.mpr ⟨lw_p109, List.forall_mem_cons.mpr ⟨lw_p110, List.forall_mem_cons.mpr ⟨lw_p111, fun _ h => absurd h List.not_mem_nil⟩⟩⟩⟩⟩⟩⟩⟩⟩⟩⟩⟩⟩⟩⟩⟩
theorem lw_p112 : lw_okq (⟨"ForgottenFeastModel", "qDropsNots", "()V"⟩, 108) := ⟨⟨by decide +kernel, by decide +kernel⟩, List.mem_of_getElem? (i := 1097) (by decide +kernel), List.mem_of_getElem? (i := 1599) (by decide +kernel), List.mem_of_getElem? (i := 1600) (by decide +kernel)⟩
theorem lw_p113 : lw_okq (⟨"ForgottenFeastModel", "qGoesOnTest", "()Z"⟩, 108) := ⟨⟨by decide +kernel, by decide +kernel⟩, List.mem_of_getElem? (i := 1097) (by decide +kernel), List.mem_of_getElem? (i := 1603) (by decide +kernel), List.mem_of_getElem? (i := 1604) (by decide +kernel)⟩
theorem lw_p114 : lw_okq (⟨"ForgottenFeastModel", "qHasSquare", "()Z"⟩, 108) := ⟨⟨by decide +kernel, by decide +kernel⟩, List.mem_of_getElem? (i := 1097) (by decide +kernel), List.mem_of_getElem? (i := 1607) (by decide +kernel), List.mem_of_getElem? (i := 1608) (by decide +kernel)⟩
theorem lw_p115 : lw_okq (⟨"ForgottenFeastModel", "stands", "()V"⟩, 108) := ⟨⟨by decide +kernel, by decide +kernel⟩, List.mem_of_getElem? (i := 1097) (by decide +kernel), List.mem_of_getElem? (i := 1611) (by decide +kernel), List.mem_of_getElem? (i := 1612) (by decide +kernel)⟩
theorem lw_p116 : lw_okq (⟨"ForgottenFeastModel", "yearDays", "()I"⟩, 108) := ⟨⟨by decide +kernel, by decide +kernel⟩, List.mem_of_getElem? (i := 1097) (by decide +kernel), List.mem_of_getElem? (i := 1623) (by decide +kernel), List.mem_of_getElem? (i := 1624) (by decide +kernel)⟩
theorem lw_p117 : lw_okq (⟨"ForgottenFeastModel", "peopleMany", "()I"⟩, 108) := ⟨⟨by decide +kernel, by decide +kernel⟩, List.mem_of_getElem? (i := 1097) (by decide +kernel), List.mem_of_getElem? (i := 1627) (by decide +kernel), List.mem_of_getElem? (i := 1628) (by decide +kernel)⟩
theorem lw_p118 : lw_okq (⟨"ForgottenFeastModel", "living", "()I"⟩, 108) := ⟨⟨by decide +kernel, by decide +kernel⟩, List.mem_of_getElem? (i := 1097) (by decide +kernel), List.mem_of_getElem? (i := 1631) (by decide +kernel), List.mem_of_getElem? (i := 1632) (by decide +kernel)⟩
theorem lw_p119 : lw_okq (⟨"ForgottenFeastModel", "isDead", "(I)Z"⟩, 108) := ⟨⟨by decide +kernel, by decide +kernel⟩, List.mem_of_getElem? (i := 1097) (by decide +kernel), List.mem_of_getElem? (i := 1635) (by decide +kernel), List.mem_of_getElem? (i := 1636) (by decide +kernel)⟩
theorem lw_p120 : lw_okq (⟨"ForgottenFeastModel", "setsOf", "(I)I"⟩, 108) := ⟨⟨by decide +kernel, by decide +kernel⟩, List.mem_of_getElem? (i := 1097) (by decide +kernel), List.mem_of_getElem? (i := 1642) (by decide +kernel), List.mem_of_getElem? (i := 1643) (by decide +kernel)⟩
theorem lw_p121 : lw_okq (⟨"ForgottenFeastModel", "isPerson", "(I)Z"⟩, 108) := ⟨⟨by decide +kernel, by decide +kernel⟩, List.mem_of_getElem? (i := 1097) (by decide +kernel), List.mem_of_getElem? (i := 1650) (by decide +kernel), List.mem_of_getElem? (i := 1651) (by decide +kernel)⟩
theorem lw_p122 : lw_okq (⟨"ForgottenFeastModel", "mindOf", "(I)I"⟩, 108) := ⟨⟨by decide +kernel, by decide +kernel⟩, List.mem_of_getElem? (i := 1097) (by decide +kernel), List.mem_of_getElem? (i := 1659) (by decide +kernel), List.mem_of_getElem? (i := 1660) (by decide +kernel)⟩
theorem lw_p123 : lw_okq (⟨"ForgottenFeastModel", "askedBy", "(I)I"⟩, 108) := ⟨⟨by decide +kernel, by decide +kernel⟩, List.mem_of_getElem? (i := 1097) (by decide +kernel), List.mem_of_getElem? (i := 1663) (by decide +kernel), List.mem_of_getElem? (i := 1664) (by decide +kernel)⟩
theorem lw_p124 : lw_okq (⟨"ForgottenFeastModel", "agoOf", "(I)I"⟩, 108) := ⟨⟨by decide +kernel, by decide +kernel⟩, List.mem_of_getElem? (i := 1097) (by decide +kernel), List.mem_of_getElem? (i := 1667) (by decide +kernel), List.mem_of_getElem? (i := 1668) (by decide +kernel)⟩
theorem lw_p125 : lw_okq (⟨"ForgottenFeastModel", "remindersOf", "(I)I"⟩, 108) := ⟨⟨by decide +kernel, by decide +kernel⟩, List.mem_of_getElem? (i := 1097) (by decide +kernel), List.mem_of_getElem? (i := 1671) (by decide +kernel), List.mem_of_getElem? (i := 1672) (by decide +kernel)⟩
theorem lw_p126 : lw_okq (⟨"ForgottenFeastModel", "toldDays", "(I)I"⟩, 108) := ⟨⟨by decide +kernel, by decide +kernel⟩, List.mem_of_getElem? (i := 1097) (by decide +kernel), List.mem_of_getElem? (i := 1675) (by decide +kernel), List.mem_of_getElem? (i := 1676) (by decide +kernel)⟩
theorem lw_p127 : lw_okq (⟨"ForgottenFeastModel", "isDay", "(I)Z"⟩, 108) := ⟨⟨by decide +kernel, by decide +kernel⟩, List.mem_of_getElem? (i := 1097) (by decide +kernel), List.mem_of_getElem? (i := 1683) (by decide +kernel), List.mem_of_getElem? (i := 1684) (by decide +kernel)⟩
def lw_privs_8 : List (MethodName × Nat) := [(⟨"ForgottenFeastModel", "qDropsNots", "()V"⟩, 108), (⟨"ForgottenFeastModel", "qGoesOnTest", "()Z"⟩, 108), (⟨"ForgottenFeastModel", "qHasSquare", "()Z"⟩, 108), (⟨"ForgottenFeastModel", "stands", "()V"⟩, 108), (⟨"ForgottenFeastModel", "yearDays", "()I"⟩, 108), (⟨"ForgottenFeastModel", "peopleMany", "()I"⟩, 108), (⟨"ForgottenFeastModel", "living", "()I"⟩, 108), (⟨"ForgottenFeastModel", "isDead", "(I)Z"⟩, 108), (⟨"ForgottenFeastModel", "setsOf", "(I)I"⟩, 108), (⟨"ForgottenFeastModel", "isPerson", "(I)Z"⟩, 108), (⟨"ForgottenFeastModel", "mindOf", "(I)I"⟩, 108), (⟨"ForgottenFeastModel", "askedBy", "(I)I"⟩, 108), (⟨"ForgottenFeastModel", "agoOf", "(I)I"⟩, 108), (⟨"ForgottenFeastModel", "remindersOf", "(I)I"⟩, 108), (⟨"ForgottenFeastModel", "toldDays", "(I)I"⟩, 108), (⟨"ForgottenFeastModel", "isDay", "(I)Z"⟩, 108)]
theorem lw_r8 : ∀ q ∈ lw_privs_8, lw_okq q := List.forall_mem_cons.mpr ⟨lw_p112, List.forall_mem_cons.mpr ⟨lw_p113, List.forall_mem_cons.mpr ⟨lw_p114, List.forall_mem_cons.mpr ⟨lw_p115, List.forall_mem_cons.mpr ⟨lw_p116, List.forall_mem_cons.mpr ⟨lw_p117, List.forall_mem_cons.mpr ⟨lw_p118, List.forall_mem_cons.mpr ⟨lw_p119, List.forall_mem_cons.mpr ⟨lw_p120, List.forall_mem_cons.mpr ⟨lw_p121, List.forall_mem_cons.mpr ⟨lw_p122, List.forall_mem_cons.mpr ⟨lw_p123, List.forall_mem_cons.mpr ⟨lw_p124, List.forall_mem_cons.mpr ⟨lw_p125, List.forall_mem_cons.mpr ⟨lw_p126, List.forall_mem_cons.mpr ⟨lw_p127, fun _ h => absurd h List.not_mem_nil⟩⟩⟩⟩⟩⟩⟩⟩⟩⟩⟩⟩⟩⟩⟩⟩
theorem lw_p128 : lw_okq (⟨"ForgottenFeastModel", "isFrost", "(I)Z"⟩, 108) := ⟨⟨by decide +kernel, by decide +kernel⟩, List.mem_of_getElem? (i := 1097) (by decide +kernel), List.mem_of_getElem? (i := 1687) (by decide +kernel), List.mem_of_getElem? (i := 1688) (by decide +kernel)⟩
theorem lw_p129 : lw_okq (⟨"ForgottenFeastModel", "isAhead", "(I)Z"⟩, 108) := ⟨⟨by decide +kernel, by decide +kernel⟩, List.mem_of_getElem? (i := 1097) (by decide +kernel), List.mem_of_getElem? (i := 1700) (by decide +kernel), List.mem_of_getElem? (i := 1701) (by decide +kernel)⟩
theorem lw_p130 : lw_okq (⟨"ForgottenFeastModel", "daysLeft", "()I"⟩, 108) := ⟨⟨by decide +kernel, by decide +kernel⟩, List.mem_of_getElem? (i := 1097) (by decide +kernel), List.mem_of_getElem? (i := 1705) (by decide +kernel), List.mem_of_getElem? (i := 1706) (by decide +kernel)⟩
theorem lw_p131 : lw_okq (⟨"ForgottenFeastModel", "putsAside", "()V"⟩, 108) := ⟨⟨by decide +kernel, by decide +kernel⟩, List.mem_of_getElem? (i := 1097) (by decide +kernel), List.mem_of_getElem? (i := 1710) (by decide +kernel), List.mem_of_getElem? (i := 1711) (by decide +kernel)⟩
theorem lw_p132 : lw_okq (⟨"ForgottenFeastModel", "daysGo", "(I)V"⟩, 108) := ⟨⟨by decide +kernel, by decide +kernel⟩, List.mem_of_getElem? (i := 1097) (by decide +kernel), List.mem_of_getElem? (i := 1714) (by decide +kernel), List.mem_of_getElem? (i := 1715) (by decide +kernel)⟩
theorem lw_p133 : lw_okq (⟨"ForgottenFeastModel", "dayGoes", "()V"⟩, 108) := ⟨⟨by decide +kernel, by decide +kernel⟩, List.mem_of_getElem? (i := 1097) (by decide +kernel), List.mem_of_getElem? (i := 1718) (by decide +kernel), List.mem_of_getElem? (i := 1719) (by decide +kernel)⟩
theorem lw_p134 : lw_okq (⟨"ForgottenFeastModel", "begins", "()V"⟩, 108) := ⟨⟨by decide +kernel, by decide +kernel⟩, List.mem_of_getElem? (i := 1097) (by decide +kernel), List.mem_of_getElem? (i := 1722) (by decide +kernel), List.mem_of_getElem? (i := 1723) (by decide +kernel)⟩
theorem lw_p135 : lw_okq (⟨"ForgottenFeastModel", "selves", "(II)I"⟩, 108) := ⟨⟨by decide +kernel, by decide +kernel⟩, List.mem_of_getElem? (i := 1097) (by decide +kernel), List.mem_of_getElem? (i := 1726) (by decide +kernel), List.mem_of_getElem? (i := 1727) (by decide +kernel)⟩
theorem lw_p136 : lw_okq (⟨"ForgottenFeastModel", "asksDay", "(I)V"⟩, 108) := ⟨⟨by decide +kernel, by decide +kernel⟩, List.mem_of_getElem? (i := 1097) (by decide +kernel), List.mem_of_getElem? (i := 1730) (by decide +kernel), List.mem_of_getElem? (i := 1731) (by decide +kernel)⟩
theorem lw_p137 : lw_okq (⟨"ForgottenFeastModel", "isTold", "(II)Z"⟩, 108) := ⟨⟨by decide +kernel, by decide +kernel⟩, List.mem_of_getElem? (i := 1097) (by decide +kernel), List.mem_of_getElem? (i := 1734) (by decide +kernel), List.mem_of_getElem? (i := 1735) (by decide +kernel)⟩
theorem lw_p138 : lw_okq (⟨"ForgottenFeastModel", "qPuts", "(J)V"⟩, 108) := ⟨⟨by decide +kernel, by decide +kernel⟩, List.mem_of_getElem? (i := 1097) (by decide +kernel), List.mem_of_getElem? (i := 1738) (by decide +kernel), List.mem_of_getElem? (i := 1739) (by decide +kernel)⟩
theorem lw_p139 : lw_okq (⟨"ForgottenFeastModel", "qPartOf", "(II)J"⟩, 108) := ⟨⟨by decide +kernel, by decide +kernel⟩, List.mem_of_getElem? (i := 1097) (by decide +kernel), List.mem_of_getElem? (i := 1742) (by decide +kernel), List.mem_of_getElem? (i := 1743) (by decide +kernel)⟩
theorem lw_p140 : lw_okq (⟨"ForgottenFeastModel", "qJoins", "(I)V"⟩, 108) := ⟨⟨by decide +kernel, by decide +kernel⟩, List.mem_of_getElem? (i := 1097) (by decide +kernel), List.mem_of_getElem? (i := 1746) (by decide +kernel), List.mem_of_getElem? (i := 1747) (by decide +kernel)⟩
theorem lw_p141 : lw_okq (⟨"ForgottenFeastModel", "reminded", "(II)I"⟩, 108) := ⟨⟨by decide +kernel, by decide +kernel⟩, List.mem_of_getElem? (i := 1097) (by decide +kernel), List.mem_of_getElem? (i := 1758) (by decide +kernel), List.mem_of_getElem? (i := 1759) (by decide +kernel)⟩
theorem lw_p142 : lw_okq (⟨"ForgottenFeastModel", "isReminded", "(II)Z"⟩, 108) := ⟨⟨by decide +kernel, by decide +kernel⟩, List.mem_of_getElem? (i := 1097) (by decide +kernel), List.mem_of_getElem? (i := 1762) (by decide +kernel), List.mem_of_getElem? (i := 1763) (by decide +kernel)⟩
theorem lw_p143 : lw_okq (⟨"ForgottenFeastModel", "reminderOf", "(II)I"⟩, 108) := ⟨⟨by decide +kernel, by decide +kernel⟩, List.mem_of_getElem? (i := 1097) (by decide +kernel), List.mem_of_getElem? (i := 1766) (by decide +kernel), List.mem_of_getElem? (i := 1767) (by decide +kernel)⟩
def lw_privs_9 : List (MethodName × Nat) := [(⟨"ForgottenFeastModel", "isFrost", "(I)Z"⟩, 108), (⟨"ForgottenFeastModel", "isAhead", "(I)Z"⟩, 108), (⟨"ForgottenFeastModel", "daysLeft", "()I"⟩, 108), (⟨"ForgottenFeastModel", "putsAside", "()V"⟩, 108), (⟨"ForgottenFeastModel", "daysGo", "(I)V"⟩, 108), (⟨"ForgottenFeastModel", "dayGoes", "()V"⟩, 108), (⟨"ForgottenFeastModel", "begins", "()V"⟩, 108), (⟨"ForgottenFeastModel", "selves", "(II)I"⟩, 108), (⟨"ForgottenFeastModel", "asksDay", "(I)V"⟩, 108), (⟨"ForgottenFeastModel", "isTold", "(II)Z"⟩, 108), (⟨"ForgottenFeastModel", "qPuts", "(J)V"⟩, 108), (⟨"ForgottenFeastModel", "qPartOf", "(II)J"⟩, 108), (⟨"ForgottenFeastModel", "qJoins", "(I)V"⟩, 108), (⟨"ForgottenFeastModel", "reminded", "(II)I"⟩, 108), (⟨"ForgottenFeastModel", "isReminded", "(II)Z"⟩, 108), (⟨"ForgottenFeastModel", "reminderOf", "(II)I"⟩, 108)]
theorem lw_r9 : ∀ q ∈ lw_privs_9, lw_okq q := List.forall_mem_cons.mpr ⟨lw_p128, List.forall_mem_cons.mpr ⟨lw_p129, List.forall_mem_cons.mpr ⟨lw_p130, List.forall_mem_cons.mpr ⟨lw_p131, List.forall_mem_cons.mpr ⟨lw_p132, List.forall_mem_cons.mpr ⟨lw_p133, List.forall_mem_cons.mpr ⟨lw_p134, List.forall_mem_cons.mpr ⟨lw_p135, List.forall_mem_cons.mpr ⟨lw_p136, List.forall_mem_cons.mpr ⟨lw_p137, List.forall_mem_cons.mpr ⟨lw_p138, List.forall_mem_cons.mpr ⟨lw_p139, List.forall_mem_cons.mpr ⟨lw_p140, List.forall_mem_cons.mpr ⟨lw_p141, List.forall_mem_cons.mpr ⟨lw_p142, List.forall_mem_cons.mpr ⟨lw_p143, fun _ h => absurd h List.not_mem_nil⟩⟩⟩⟩⟩⟩⟩⟩⟩⟩⟩⟩⟩⟩⟩⟩
theorem lw_p144 : lw_okq (⟨"ForgottenFeastModel", "isKept", "()V"⟩, 108) := ⟨⟨by decide +kernel, by decide +kernel⟩, List.mem_of_getElem? (i := 1097) (by decide +kernel), List.mem_of_getElem? (i := 1770) (by decide +kernel), List.mem_of_getElem? (i := 1771) (by decide +kernel)⟩
theorem lw_p145 : lw_okq (⟨"ForgottenFeastModel", "takesBack", "()V"⟩, 108) := ⟨⟨by decide +kernel, by decide +kernel⟩, List.mem_of_getElem? (i := 1097) (by decide +kernel), List.mem_of_getElem? (i := 1774) (by decide +kernel), List.mem_of_getElem? (i := 1775) (by decide +kernel)⟩
theorem lw_p146 : lw_okq (⟨"ForgottenFeastModel", "hangsNext", "()I"⟩, 108) := ⟨⟨by decide +kernel, by decide +kernel⟩, List.mem_of_getElem? (i := 1097) (by decide +kernel), List.mem_of_getElem? (i := 1786) (by decide +kernel), List.mem_of_getElem? (i := 1787) (by decide +kernel)⟩
theorem lw_p147 : lw_okq (⟨"ForgottenFeastModel", "costOf", "(I)I"⟩, 108) := ⟨⟨by decide +kernel, by decide +kernel⟩, List.mem_of_getElem? (i := 1097) (by decide +kernel), List.mem_of_getElem? (i := 1803) (by decide +kernel), List.mem_of_getElem? (i := 1804) (by decide +kernel)⟩
theorem lw_p148 : lw_okq (⟨"ForgottenFeastModel", "canCome", "()Z"⟩, 108) := ⟨⟨by decide +kernel, by decide +kernel⟩, List.mem_of_getElem? (i := 1097) (by decide +kernel), List.mem_of_getElem? (i := 1815) (by decide +kernel), List.mem_of_getElem? (i := 1816) (by decide +kernel)⟩
theorem lw_p149 : lw_okq (⟨"ForgottenFeastModel", "anyThinks", "(II)Z"⟩, 108) := ⟨⟨by decide +kernel, by decide +kernel⟩, List.mem_of_getElem? (i := 1097) (by decide +kernel), List.mem_of_getElem? (i := 1824) (by decide +kernel), List.mem_of_getElem? (i := 1825) (by decide +kernel)⟩
theorem lw_p150 : lw_okq (⟨"ForgottenFeastModel", "tellsLast", "(II)Z"⟩, 108) := ⟨⟨by decide +kernel, by decide +kernel⟩, List.mem_of_getElem? (i := 1097) (by decide +kernel), List.mem_of_getElem? (i := 1828) (by decide +kernel), List.mem_of_getElem? (i := 1829) (by decide +kernel)⟩
theorem lw_p151 : lw_okq (⟨"ForgottenFeastModel", "bribesLast", "(II)Z"⟩, 108) := ⟨⟨by decide +kernel, by decide +kernel⟩, List.mem_of_getElem? (i := 1097) (by decide +kernel), List.mem_of_getElem? (i := 1832) (by decide +kernel), List.mem_of_getElem? (i := 1833) (by decide +kernel)⟩
theorem lw_p152 : lw_okq (⟨"ForgottenFeastModel", "tellsFirst", "()Z"⟩, 108) := ⟨⟨by decide +kernel, by decide +kernel⟩, List.mem_of_getElem? (i := 1097) (by decide +kernel), List.mem_of_getElem? (i := 1836) (by decide +kernel), List.mem_of_getElem? (i := 1837) (by decide +kernel)⟩
theorem lw_p153 : lw_okq (⟨"ForgottenFeastModel", "bribesFirst", "(I)Z"⟩, 108) := ⟨⟨by decide +kernel, by decide +kernel⟩, List.mem_of_getElem? (i := 1097) (by decide +kernel), List.mem_of_getElem? (i := 1840) (by decide +kernel), List.mem_of_getElem? (i := 1841) (by decide +kernel)⟩
theorem lw_p154 : lw_okq (⟨"ForgottenFeastModel", "isAsSeen", "(I)Z"⟩, 108) := ⟨⟨by decide +kernel, by decide +kernel⟩, List.mem_of_getElem? (i := 1097) (by decide +kernel), List.mem_of_getElem? (i := 1852) (by decide +kernel), List.mem_of_getElem? (i := 1853) (by decide +kernel)⟩
theorem lw_p155 : lw_okq (⟨"ForgottenFeastModel", "hoursFrom", "(I)I"⟩, 108) := ⟨⟨by decide +kernel, by decide +kernel⟩, List.mem_of_getElem? (i := 1097) (by decide +kernel), List.mem_of_getElem? (i := 1861) (by decide +kernel), List.mem_of_getElem? (i := 1862) (by decide +kernel)⟩
theorem lw_p156 : lw_okq (⟨"ForgottenFeastModel", "isLaw", "(I)Z"⟩, 108) := ⟨⟨by decide +kernel, by decide +kernel⟩, List.mem_of_getElem? (i := 1097) (by decide +kernel), List.mem_of_getElem? (i := 1869) (by decide +kernel), List.mem_of_getElem? (i := 1870) (by decide +kernel)⟩
theorem lw_p157 : lw_okq (⟨"ForgottenFeastModel", "refuses", "(I)I"⟩, 108) := ⟨⟨by decide +kernel, by decide +kernel⟩, List.mem_of_getElem? (i := 1097) (by decide +kernel), List.mem_of_getElem? (i := 1882) (by decide +kernel), List.mem_of_getElem? (i := 1883) (by decide +kernel)⟩
theorem lw_p158 : lw_okq (⟨"ForgottenFeastModel", "keeps", "()V"⟩, 108) := ⟨⟨by decide +kernel, by decide +kernel⟩, List.mem_of_getElem? (i := 1097) (by decide +kernel), List.mem_of_getElem? (i := 1886) (by decide +kernel), List.mem_of_getElem? (i := 1887) (by decide +kernel)⟩
theorem lw_p159 : lw_okq (⟨"ForgottenFeastModel", "drawOf", "(I)I"⟩, 108) := ⟨⟨by decide +kernel, by decide +kernel⟩, List.mem_of_getElem? (i := 1097) (by decide +kernel), List.mem_of_getElem? (i := 1911) (by decide +kernel), List.mem_of_getElem? (i := 1912) (by decide +kernel)⟩
def lw_privs_10 : List (MethodName × Nat) := [(⟨"ForgottenFeastModel", "isKept", "()V"⟩, 108), (⟨"ForgottenFeastModel", "takesBack", "()V"⟩, 108), (⟨"ForgottenFeastModel", "hangsNext", "()I"⟩, 108), (⟨"ForgottenFeastModel", "costOf", "(I)I"⟩, 108), (⟨"ForgottenFeastModel", "canCome", "()Z"⟩, 108), (⟨"ForgottenFeastModel", "anyThinks", "(II)Z"⟩, 108), (⟨"ForgottenFeastModel", "tellsLast", "(II)Z"⟩, 108), (⟨"ForgottenFeastModel", "bribesLast", "(II)Z"⟩, 108), (⟨"ForgottenFeastModel", "tellsFirst", "()Z"⟩, 108), (⟨"ForgottenFeastModel", "bribesFirst", "(I)Z"⟩, 108), (⟨"ForgottenFeastModel", "isAsSeen", "(I)Z"⟩, 108), (⟨"ForgottenFeastModel", "hoursFrom", "(I)I"⟩, 108), (⟨"ForgottenFeastModel", "isLaw", "(I)Z"⟩, 108), (⟨"ForgottenFeastModel", "refuses", "(I)I"⟩, 108), (⟨"ForgottenFeastModel", "keeps", "()V"⟩, 108), (⟨"ForgottenFeastModel", "drawOf", "(I)I"⟩, 108)]
theorem lw_r10 : ∀ q ∈ lw_privs_10, lw_okq q := List.forall_mem_cons.mpr ⟨lw_p144, List.forall_mem_cons.mpr ⟨lw_p145, List.forall_mem_cons.mpr ⟨lw_p146, List.forall_mem_cons.mpr ⟨lw_p147, List.forall_mem_cons.mpr ⟨lw_p148, List.forall_mem_cons.mpr ⟨lw_p149, List.forall_mem_cons.mpr ⟨lw_p150, List.forall_mem_cons.mpr ⟨lw_p151, List.forall_mem_cons.mpr ⟨lw_p152, List.forall_mem_cons.mpr ⟨lw_p153, List.forall_mem_cons.mpr ⟨lw_p154, List.forall_mem_cons.mpr ⟨lw_p155, List.forall_mem_cons.mpr ⟨lw_p156, List.forall_mem_cons.mpr ⟨lw_p157, List.forall_mem_cons.mpr ⟨lw_p158, List.forall_mem_cons.mpr ⟨lw_p159, fun _ h => absurd h List.not_mem_nil⟩⟩⟩⟩⟩⟩⟩⟩⟩⟩⟩⟩⟩⟩⟩⟩
theorem lw_p160 : lw_okq (⟨"ForgottenFeastModel", "qKind", "()I"⟩, 108) := ⟨⟨by decide +kernel, by decide +kernel⟩, List.mem_of_getElem? (i := 1097) (by decide +kernel), List.mem_of_getElem? (i := 1924) (by decide +kernel), List.mem_of_getElem? (i := 1925) (by decide +kernel)⟩
theorem lw_p161 : lw_okq (⟨"ForgottenFeastModel", "qTold", "(I)J"⟩, 108) := ⟨⟨by decide +kernel, by decide +kernel⟩, List.mem_of_getElem? (i := 1097) (by decide +kernel), List.mem_of_getElem? (i := 1929) (by decide +kernel), List.mem_of_getElem? (i := 1930) (by decide +kernel)⟩
theorem lw_p162 : lw_okq (⟨"ForgottenFeastModel", "qOf", "(IJI)J"⟩, 108) := ⟨⟨by decide +kernel, by decide +kernel⟩, List.mem_of_getElem? (i := 1097) (by decide +kernel), List.mem_of_getElem? (i := 1933) (by decide +kernel), List.mem_of_getElem? (i := 1934) (by decide +kernel)⟩
theorem lw_p163 : lw_okq (⟨"ForgottenFeastModel", "qTakes", "(IJI)V"⟩, 108) := ⟨⟨by decide +kernel, by decide +kernel⟩, List.mem_of_getElem? (i := 1097) (by decide +kernel), List.mem_of_getElem? (i := 1937) (by decide +kernel), List.mem_of_getElem? (i := 1938) (by decide +kernel)⟩
theorem lw_p164 : lw_okq (⟨"ForgottenFeastModel", "writes", "(I)V"⟩, 108) := ⟨⟨by decide +kernel, by decide +kernel⟩, List.mem_of_getElem? (i := 1097) (by decide +kernel), List.mem_of_getElem? (i := 1945) (by decide +kernel), List.mem_of_getElem? (i := 1946) (by decide +kernel)⟩
theorem lw_p165 : lw_okq (⟨"ForgottenFeastModel", "writesSets", "(I)V"⟩, 108) := ⟨⟨by decide +kernel, by decide +kernel⟩, List.mem_of_getElem? (i := 1097) (by decide +kernel), List.mem_of_getElem? (i := 1950) (by decide +kernel), List.mem_of_getElem? (i := 1951) (by decide +kernel)⟩
theorem lw_p166 : lw_okq (⟨"ForgottenFeastModel", "isImage", "(I)Z"⟩, 108) := ⟨⟨by decide +kernel, by decide +kernel⟩, List.mem_of_getElem? (i := 1097) (by decide +kernel), List.mem_of_getElem? (i := 1965) (by decide +kernel), List.mem_of_getElem? (i := 1966) (by decide +kernel)⟩
theorem lw_p167 : lw_okq (⟨"ForgottenFeastModel", "setsFrom", "()I"⟩, 108) := ⟨⟨by decide +kernel, by decide +kernel⟩, List.mem_of_getElem? (i := 1097) (by decide +kernel), List.mem_of_getElem? (i := 1969) (by decide +kernel), List.mem_of_getElem? (i := 1970) (by decide +kernel)⟩
theorem lw_p168 : lw_okq (⟨"ForgottenFeastModel", "isHeadTold", "()Z"⟩, 108) := ⟨⟨by decide +kernel, by decide +kernel⟩, List.mem_of_getElem? (i := 1097) (by decide +kernel), List.mem_of_getElem? (i := 1973) (by decide +kernel), List.mem_of_getElem? (i := 1974) (by decide +kernel)⟩
theorem lw_p169 : lw_okq (⟨"ForgottenFeastModel", "coinsTold", "()I"⟩, 108) := ⟨⟨by decide +kernel, by decide +kernel⟩, List.mem_of_getElem? (i := 1097) (by decide +kernel), List.mem_of_getElem? (i := 1978) (by decide +kernel), List.mem_of_getElem? (i := 1979) (by decide +kernel)⟩
theorem lw_p170 : lw_okq (⟨"ForgottenFeastModel", "areSetsTold", "(III)Z"⟩, 108) := ⟨⟨by decide +kernel, by decide +kernel⟩, List.mem_of_getElem? (i := 1097) (by decide +kernel), List.mem_of_getElem? (i := 1982) (by decide +kernel), List.mem_of_getElem? (i := 1983) (by decide +kernel)⟩
theorem lw_p171 : lw_okq (⟨"ForgottenFeastModel", "takesSets", "(II)V"⟩, 108) := ⟨⟨by decide +kernel, by decide +kernel⟩, List.mem_of_getElem? (i := 1097) (by decide +kernel), List.mem_of_getElem? (i := 1986) (by decide +kernel), List.mem_of_getElem? (i := 1987) (by decide +kernel)⟩
def lw_privs_11 : List (MethodName × Nat) := [(⟨"ForgottenFeastModel", "qKind", "()I"⟩, 108), (⟨"ForgottenFeastModel", "qTold", "(I)J"⟩, 108), (⟨"ForgottenFeastModel", "qOf", "(IJI)J"⟩, 108), (⟨"ForgottenFeastModel", "qTakes", "(IJI)V"⟩, 108), (⟨"ForgottenFeastModel", "writes", "(I)V"⟩, 108), (⟨"ForgottenFeastModel", "writesSets", "(I)V"⟩, 108), (⟨"ForgottenFeastModel", "isImage", "(I)Z"⟩, 108), (⟨"ForgottenFeastModel", "setsFrom", "()I"⟩, 108), (⟨"ForgottenFeastModel", "isHeadTold", "()Z"⟩, 108), (⟨"ForgottenFeastModel", "coinsTold", "()I"⟩, 108), (⟨"ForgottenFeastModel", "areSetsTold", "(III)Z"⟩, 108), (⟨"ForgottenFeastModel", "takesSets", "(II)V"⟩, 108)]
theorem lw_r11 : ∀ q ∈ lw_privs_11, lw_okq q := List.forall_mem_cons.mpr ⟨lw_p160, List.forall_mem_cons.mpr ⟨lw_p161, List.forall_mem_cons.mpr ⟨lw_p162, List.forall_mem_cons.mpr ⟨lw_p163, List.forall_mem_cons.mpr ⟨lw_p164, List.forall_mem_cons.mpr ⟨lw_p165, List.forall_mem_cons.mpr ⟨lw_p166, List.forall_mem_cons.mpr ⟨lw_p167, List.forall_mem_cons.mpr ⟨lw_p168, List.forall_mem_cons.mpr ⟨lw_p169, List.forall_mem_cons.mpr ⟨lw_p170, List.forall_mem_cons.mpr ⟨lw_p171, fun _ h => absurd h List.not_mem_nil⟩⟩⟩⟩⟩⟩⟩⟩⟩⟩⟩⟩
def lw_privs : List (MethodName × Nat) := lw_privs_1 ++ (lw_privs_2 ++ (lw_privs_3 ++ (lw_privs_4 ++ (lw_privs_5 ++ (lw_privs_6 ++ (lw_privs_7 ++ (lw_privs_8 ++ (lw_privs_9 ++ (lw_privs_10 ++ (lw_privs_11))))))))))
def lw_tbl : List Cond := k2_sels lw_privs ++ tables_1
theorem lw_privs_ok : ∀ q ∈ lw_privs, lw_okq q := by
  show ∀ q ∈ lw_privs_1 ++ (lw_privs_2 ++ (lw_privs_3 ++ (lw_privs_4 ++ (lw_privs_5 ++ (lw_privs_6 ++ (lw_privs_7 ++ (lw_privs_8 ++ (lw_privs_9 ++ (lw_privs_10 ++ (lw_privs_11)))))))))), lw_okq q
  exact List.forall_mem_append.mpr ⟨lw_r1, List.forall_mem_append.mpr ⟨lw_r2, List.forall_mem_append.mpr ⟨lw_r3, List.forall_mem_append.mpr ⟨lw_r4, List.forall_mem_append.mpr ⟨lw_r5, List.forall_mem_append.mpr ⟨lw_r6, List.forall_mem_append.mpr ⟨lw_r7, List.forall_mem_append.mpr ⟨lw_r8, List.forall_mem_append.mpr ⟨lw_r9, List.forall_mem_append.mpr ⟨lw_r10, lw_r11⟩⟩⟩⟩⟩⟩⟩⟩⟩⟩
-- ===== end of PART A; then your names; then what follows =====
def RX0 : String := "ForgottenFeast$Dawn"
def TX0 : u_T := fun k => match k with
  | 0 => ("ForgottenFeast$Dawn", "year", "I", false)
  | 1 => ("ForgottenFeast$Dawn", "day", "I", false)
  | 2 => ("ForgottenFeast$Dawn", "feastSoFar", "I", false)
  | 3 => ("ForgottenFeast$Dawn", "awake", "I", false)
  | 4 => ("ForgottenFeast$Dawn", "ofThemselves", "I", false)
  | 5 => ("ForgottenFeast$Dawn", "thinkers", "I", false)
  | 6 => ("ForgottenFeast$Dawn", "isFeast", "Z", false)
  | 7 => ("ForgottenFeast$Dawn", "coming", "Z", false)
  | 8 => ("ForgottenFeast$Dawn", "town", "LForgottenFeast$Town;", false)
  | 9 => ("ForgottenFeast$Dawn", "life", "LForgottenFeast$Life;", false)
  | 10 => ("ForgottenFeast$Dawn", "parts", "[I", true)
  | 11 => ("ForgottenFeast$Dawn", "stack", "[I", true)
  | 12 => ("ForgottenFeast$Dawn", "tried", "[I", true)
  | _ => ("ForgottenFeast$Dawn", "heard", "[I", true)
def tyX0 : Nat → FieldType := fun k => match k with
  | 0 => .int
  | 1 => .int
  | 2 => .int
  | 3 => .int
  | 4 => .int
  | 5 => .int
  | 6 => .boolean
  | 7 => .boolean
  | 8 => .object "ForgottenFeast$Town"
  | 9 => .object "ForgottenFeast$Life"
  | 10 => .array .int
  | 11 => .array .int
  | 12 => .array .int
  | _ => .array .int
theorem nmX0 : ∀ a, a < 14 → ∀ b, b < 14 → a ≠ b → (TX0 a).2.1 ≠ (TX0 b).2.1 := by decide +kernel
theorem tyX0_ok : ∀ k, k < 14 → parseFieldDescriptor (TX0 k).2.2.1 = some (tyX0 k) := by decide +kernel
abbrev cX0_init : ByteArray := prog_2_method_1_code
def yX0_init : MethodName := ⟨RX0, "<init>", "(LForgottenFeast$Town;LForgottenFeast$Life;)V"⟩
abbrev cX0_lookAt : ByteArray := prog_2_method_2_code
def yX0_lookAt : MethodName := ⟨RX0, "lookAt", "(LForgottenFeast$Town;LForgottenFeast$Life;)Z"⟩
abbrev cX0_settle : ByteArray := prog_2_method_3_code
def yX0_settle : MethodName := ⟨RX0, "settle", "()V"⟩
abbrev cX0_ofThemselves : ByteArray := prog_2_method_4_code
def yX0_ofThemselves : MethodName := ⟨RX0, "ofThemselves", "(II)I"⟩
abbrev cX0_spread : ByteArray := prog_2_method_5_code
def yX0_spread : MethodName := ⟨RX0, "spread", "(II)I"⟩
abbrev cX0_wouldHear : ByteArray := prog_2_method_6_code
def yX0_wouldHear : MethodName := ⟨RX0, "wouldHear", "(II)Z"⟩
abbrev cX0_setPerson : ByteArray := prog_2_method_7_code
def yX0_setPerson : MethodName := ⟨RX0, "setPerson", "(II)V"⟩
abbrev cX0_valueFor : ByteArray := prog_2_method_8_code
def yX0_valueFor : MethodName := ⟨RX0, "valueFor", "(LForgottenFeast$Rule;LForgottenFeast$Life;I)I"⟩
def RX1 : String := "ForgottenFeast$Life"
def TX1 : u_T := fun k => match k with
  | 0 => ("ForgottenFeast$Life", "year", "I", false)
  | 1 => ("ForgottenFeast$Life", "day", "I", false)
  | 2 => ("ForgottenFeast$Life", "feast", "I", false)
  | 3 => ("ForgottenFeast$Life", "coins", "I", false)
  | 4 => ("ForgottenFeast$Life", "dead", "I", false)
  | 5 => ("ForgottenFeast$Life", "ago", "[I", true)
  | 6 => ("ForgottenFeast$Life", "told", "[I", true)
  | 7 => ("ForgottenFeast$Life", "bribed", "[I", true)
  | 8 => ("ForgottenFeast$Life", "rows", "[I", true)
  | 9 => ("ForgottenFeast$Life", "rowFrom", "I", false)
  | _ => ("ForgottenFeast$Life", "rowCount", "I", false)
def tyX1 : Nat → FieldType := fun k => match k with
  | 0 => .int
  | 1 => .int
  | 2 => .int
  | 3 => .int
  | 4 => .int
  | 5 => .array .int
  | 6 => .array .int
  | 7 => .array .int
  | 8 => .array .int
  | 9 => .int
  | _ => .int
theorem nmX1 : ∀ a, a < 11 → ∀ b, b < 11 → a ≠ b → (TX1 a).2.1 ≠ (TX1 b).2.1 := by decide +kernel
theorem tyX1_ok : ∀ k, k < 11 → parseFieldDescriptor (TX1 k).2.2.1 = some (tyX1 k) := by decide +kernel
abbrev cX1_init : ByteArray := prog_3_method_1_code
def yX1_init : MethodName := ⟨RX1, "<init>", "()V"⟩
abbrev cX1_begin : ByteArray := prog_3_method_2_code
def yX1_begin : MethodName := ⟨RX1, "begin", "(LForgottenFeast$Town;)V"⟩
abbrev cX1_copyFrom : ByteArray := prog_3_method_3_code
def yX1_copyFrom : MethodName := ⟨RX1, "copyFrom", "(LForgottenFeast$Life;)V"⟩
abbrev cX1_toldOn : ByteArray := prog_3_method_4_code
def yX1_toldOn : MethodName := ⟨RX1, "toldOn", "(I)I"⟩
abbrev cX1_daysLeft : ByteArray := prog_3_method_5_code
def yX1_daysLeft : MethodName := ⟨RX1, "daysLeft", "(LForgottenFeast$Town;)I"⟩
abbrev cX1_addRow : ByteArray := prog_3_method_6_code
def yX1_addRow : MethodName := ⟨RX1, "addRow", "(IZ)V"⟩
abbrev cX1_rowAt : ByteArray := prog_3_method_7_code
def yX1_rowAt : MethodName := ⟨RX1, "rowAt", "(I)I"⟩
abbrev cX1_rowYear : ByteArray := prog_3_method_8_code
def yX1_rowYear : MethodName := ⟨RX1, "rowYear", "(I)I"⟩
abbrev cX1_rowDay : ByteArray := prog_3_method_9_code
def yX1_rowDay : MethodName := ⟨RX1, "rowDay", "(I)I"⟩
abbrev cX1_rowThinkers : ByteArray := prog_3_method_10_code
def yX1_rowThinkers : MethodName := ⟨RX1, "rowThinkers", "(I)I"⟩
abbrev cX1_rowFeast : ByteArray := prog_3_method_11_code
def yX1_rowFeast : MethodName := ⟨RX1, "rowFeast", "(I)I"⟩
def RX2 : String := "ForgottenFeast$Past"
def TX2 : u_T := fun k => match k with
  | 0 => ("ForgottenFeast$Past", "lives", "[LForgottenFeast$Life;", true)
  | 1 => ("ForgottenFeast$Past", "from", "I", false)
  | _ => ("ForgottenFeast$Past", "count", "I", false)
def tyX2 : Nat → FieldType := fun k => match k with
  | 0 => .array (.object "ForgottenFeast$Life")
  | 1 => .int
  | _ => .int
theorem nmX2 : ∀ a, a < 3 → ∀ b, b < 3 → a ≠ b → (TX2 a).2.1 ≠ (TX2 b).2.1 := by decide +kernel
theorem tyX2_ok : ∀ k, k < 3 → parseFieldDescriptor (TX2 k).2.2.1 = some (tyX2 k) := by decide +kernel
abbrev cX2_init : ByteArray := prog_4_method_1_code
def yX2_init : MethodName := ⟨RX2, "<init>", "()V"⟩
abbrev cX2_forget : ByteArray := prog_4_method_2_code
def yX2_forget : MethodName := ⟨RX2, "forget", "()V"⟩
abbrev cX2_remember : ByteArray := prog_4_method_3_code
def yX2_remember : MethodName := ⟨RX2, "remember", "(LForgottenFeast$Life;)V"⟩
abbrev cX2_bringBack : ByteArray := prog_4_method_4_code
def yX2_bringBack : MethodName := ⟨RX2, "bringBack", "(LForgottenFeast$Life;)V"⟩
def RX3 : String := "ForgottenFeast$Picture"
def TX3 : u_T := fun k => match k with
  | 0 => ("ForgottenFeast$Picture", "bytes", "[I", true)
  | _ => ("ForgottenFeast$Picture", "size", "I", false)
def tyX3 : Nat → FieldType := fun k => match k with
  | 0 => .array .int
  | _ => .int
theorem nmX3 : ∀ a, a < 2 → ∀ b, b < 2 → a ≠ b → (TX3 a).2.1 ≠ (TX3 b).2.1 := by decide +kernel
theorem tyX3_ok : ∀ k, k < 2 → parseFieldDescriptor (TX3 k).2.2.1 = some (tyX3 k) := by decide +kernel
abbrev cX3_init : ByteArray := prog_5_method_1_code
def yX3_init : MethodName := ⟨RX3, "<init>", "()V"⟩
abbrev cX3_paint : ByteArray := prog_5_method_2_code
def yX3_paint : MethodName := ⟨RX3, "paint", "(LForgottenFeast$Town;LForgottenFeast$Life;)V"⟩
abbrev cX3_add : ByteArray := prog_5_method_3_code
def yX3_add : MethodName := ⟨RX3, "add", "(I)V"⟩
abbrev cX3_addList : ByteArray := prog_5_method_4_code
def yX3_addList : MethodName := ⟨RX3, "addList", "([I)V"⟩
abbrev cX3_checkOf : ByteArray := prog_5_method_5_code
def yX3_checkOf : MethodName := ⟨RX3, "checkOf", "([II)I"⟩
abbrev cX3_readInto : ByteArray := prog_5_method_6_code
def yX3_readInto : MethodName := ⟨RX3, "readInto", "(LForgottenFeast$Tape;LForgottenFeast$Town;LForgottenFeast$Life;)Z"⟩
abbrev cX3_readHead : ByteArray := prog_5_method_7_code
def yX3_readHead : MethodName := ⟨RX3, "readHead", "([ILForgottenFeast$Town;LForgottenFeast$Life;)Z"⟩
abbrev cX3_readPeople : ByteArray := prog_5_method_8_code
def yX3_readPeople : MethodName := ⟨RX3, "readPeople", "([ILForgottenFeast$Town;LForgottenFeast$Life;)Z"⟩
abbrev cX3_readList : ByteArray := prog_5_method_9_code
def yX3_readList : MethodName := ⟨RX3, "readList", "(LForgottenFeast$Tape;ILForgottenFeast$Town;[II)I"⟩
def RX4 : String := "ForgottenFeast$Reader"
def TX4 : u_T := fun k => match k with
  | 0 => ("ForgottenFeast$Reader", "tokens", "LForgottenFeast$Tokens;", true)
  | 1 => ("ForgottenFeast$Reader", "rule", "LForgottenFeast$Rule;", true)
  | 2 => ("ForgottenFeast$Reader", "town", "LForgottenFeast$Town;", false)
  | 3 => ("ForgottenFeast$Reader", "at", "I", false)
  | 4 => ("ForgottenFeast$Reader", "kind", "I", false)
  | 5 => ("ForgottenFeast$Reader", "spot", "I", false)
  | 6 => ("ForgottenFeast$Reader", "value", "I", false)
  | 7 => ("ForgottenFeast$Reader", "opened", "I", false)
  | 8 => ("ForgottenFeast$Reader", "fault", "I", false)
  | 9 => ("ForgottenFeast$Reader", "place", "I", false)
  | 10 => ("ForgottenFeast$Reader", "asked", "I", false)
  | 11 => ("ForgottenFeast$Reader", "asking", "Z", false)
  | _ => ("ForgottenFeast$Reader", "hearing", "Z", false)
def tyX4 : Nat → FieldType := fun k => match k with
  | 0 => .object "ForgottenFeast$Tokens"
  | 1 => .object "ForgottenFeast$Rule"
  | 2 => .object "ForgottenFeast$Town"
  | 3 => .int
  | 4 => .int
  | 5 => .int
  | 6 => .int
  | 7 => .int
  | 8 => .int
  | 9 => .int
  | 10 => .int
  | 11 => .boolean
  | _ => .boolean
theorem nmX4 : ∀ a, a < 13 → ∀ b, b < 13 → a ≠ b → (TX4 a).2.1 ≠ (TX4 b).2.1 := by decide +kernel
theorem tyX4_ok : ∀ k, k < 13 → parseFieldDescriptor (TX4 k).2.2.1 = some (tyX4 k) := by decide +kernel
abbrev cX4_init : ByteArray := prog_6_method_1_code
def yX4_init : MethodName := ⟨RX4, "<init>", "(LForgottenFeast$Tape;LForgottenFeast$Town;)V"⟩
abbrev cX4_readTown : ByteArray := prog_6_method_2_code
def yX4_readTown : MethodName := ⟨RX4, "readTown", "(LForgottenFeast$Town;)Z"⟩
abbrev cX4_readQuestion : ByteArray := prog_6_method_3_code
def yX4_readQuestion : MethodName := ⟨RX4, "readQuestion", "()Z"⟩
abbrev cX4_begin : ByteArray := prog_6_method_4_code
def yX4_begin : MethodName := ⟨RX4, "begin", "()V"⟩
abbrev cX4_pass : ByteArray := prog_6_method_5_code
def yX4_pass : MethodName := ⟨RX4, "pass", "(ZI)V"⟩
abbrev cX4_fail : ByteArray := prog_6_method_6_code
def yX4_fail : MethodName := ⟨RX4, "fail", "(II)V"⟩
abbrev cX4_readStatement : ByteArray := prog_6_method_7_code
def yX4_readStatement : MethodName := ⟨RX4, "readStatement", "()V"⟩
abbrev cX4_readPerson : ByteArray := prog_6_method_8_code
def yX4_readPerson : MethodName := ⟨RX4, "readPerson", "()V"⟩
abbrev cX4_readTold : ByteArray := prog_6_method_9_code
def yX4_readTold : MethodName := ⟨RX4, "readTold", "()V"⟩
abbrev cX4_readReminds : ByteArray := prog_6_method_10_code
def yX4_readReminds : MethodName := ⟨RX4, "readReminds", "()V"⟩
abbrev cX4_readFrost : ByteArray := prog_6_method_11_code
def yX4_readFrost : MethodName := ⟨RX4, "readFrost", "()V"⟩
abbrev cX4_readNumber : ByteArray := prog_6_method_12_code
def yX4_readNumber : MethodName := ⟨RX4, "readNumber", "(II)I"⟩
abbrev cX4_readName : ByteArray := prog_6_method_13_code
def yX4_readName : MethodName := ⟨RX4, "readName", "(Z)V"⟩
abbrev cX4_open : ByteArray := prog_6_method_14_code
def yX4_open : MethodName := ⟨RX4, "open", "()Z"⟩
abbrev cX4_readTest : ByteArray := prog_6_method_15_code
def yX4_readTest : MethodName := ⟨RX4, "readTest", "()V"⟩
abbrev cX4_readFact : ByteArray := prog_6_method_16_code
def yX4_readFact : MethodName := ⟨RX4, "readFact", "()V"⟩
abbrev cX4_readSum : ByteArray := prog_6_method_17_code
def yX4_readSum : MethodName := ⟨RX4, "readSum", "()V"⟩
abbrev cX4_isSumSign : ByteArray := prog_6_method_18_code
def yX4_isSumSign : MethodName := ⟨RX4, "isSumSign", "(I)Z"⟩
abbrev cX4_readPart : ByteArray := prog_6_method_19_code
def yX4_readPart : MethodName := ⟨RX4, "readPart", "()V"⟩
abbrev cX4_readSumsInside : ByteArray := prog_6_method_20_code
def yX4_readSumsInside : MethodName := ⟨RX4, "readSumsInside", "(Z)V"⟩
abbrev cX4_isPartWord : ByteArray := prog_6_method_21_code
def yX4_isPartWord : MethodName := ⟨RX4, "isPartWord", "(I)Z"⟩
def RX5 : String := "ForgottenFeast$Rule"
def TX5 : u_T := fun k => match k with
  | 0 => ("ForgottenFeast$Rule", "codes", "[I", false)
  | _ => ("ForgottenFeast$Rule", "size", "I", false)
def tyX5 : Nat → FieldType := fun k => match k with
  | 0 => .array .int
  | _ => .int
theorem nmX5 : ∀ a, a < 2 → ∀ b, b < 2 → a ≠ b → (TX5 a).2.1 ≠ (TX5 b).2.1 := by decide +kernel
theorem tyX5_ok : ∀ k, k < 2 → parseFieldDescriptor (TX5 k).2.2.1 = some (tyX5 k) := by decide +kernel
abbrev cX5_init : ByteArray := prog_7_method_1_code
def yX5_init : MethodName := ⟨RX5, "<init>", "(I)V"⟩
abbrev cX5_add : ByteArray := prog_7_method_2_code
def yX5_add : MethodName := ⟨RX5, "add", "(I)V"⟩
abbrev cX5_copyFrom : ByteArray := prog_7_method_3_code
def yX5_copyFrom : MethodName := ⟨RX5, "copyFrom", "(LForgottenFeast$Rule;)V"⟩
abbrev cX5_valueOf : ByteArray := prog_7_method_4_code
def yX5_valueOf : MethodName := ⟨RX5, "valueOf", "([I[I)I"⟩
abbrev cX5_partAt : ByteArray := prog_7_method_5_code
def yX5_partAt : MethodName := ⟨RX5, "partAt", "([II)I"⟩
abbrev cX5_isRemindedBy : ByteArray := prog_7_method_6_code
def yX5_isRemindedBy : MethodName := ⟨RX5, "isRemindedBy", "(I[I)I"⟩
abbrev cX5_pairUp : ByteArray := prog_7_method_7_code
def yX5_pairUp : MethodName := ⟨RX5, "pairUp", "(III)I"⟩
def RX6 : String := "ForgottenFeast$Tape"
def TX6 : u_T := fun k => match k with
  | 0 => ("ForgottenFeast$Tape", "bytes", "[I", true)
  | _ => ("ForgottenFeast$Tape", "length", "I", false)
def tyX6 : Nat → FieldType := fun k => match k with
  | 0 => .array .int
  | _ => .int
theorem nmX6 : ∀ a, a < 2 → ∀ b, b < 2 → a ≠ b → (TX6 a).2.1 ≠ (TX6 b).2.1 := by decide +kernel
theorem tyX6_ok : ∀ k, k < 2 → parseFieldDescriptor (TX6 k).2.2.1 = some (tyX6 k) := by decide +kernel
abbrev cX6_init : ByteArray := prog_8_method_1_code
def yX6_init : MethodName := ⟨RX6, "<init>", "()V"⟩
abbrev cX6_addNumber : ByteArray := prog_8_method_2_code
def yX6_addNumber : MethodName := ⟨RX6, "addNumber", "(I)V"⟩
def RX7 : String := "ForgottenFeast$Tokens"
def TX7 : u_T := fun k => match k with
  | 0 => ("ForgottenFeast$Tokens", "tape", "LForgottenFeast$Tape;", true)
  | 1 => ("ForgottenFeast$Tokens", "marks", "[J", true)
  | _ => ("ForgottenFeast$Tokens", "count", "I", false)
def tyX7 : Nat → FieldType := fun k => match k with
  | 0 => .object "ForgottenFeast$Tape"
  | 1 => .array .long
  | _ => .int
theorem nmX7 : ∀ a, a < 3 → ∀ b, b < 3 → a ≠ b → (TX7 a).2.1 ≠ (TX7 b).2.1 := by decide +kernel
theorem tyX7_ok : ∀ k, k < 3 → parseFieldDescriptor (TX7 k).2.2.1 = some (tyX7 k) := by decide +kernel
abbrev cX7_init : ByteArray := prog_9_method_1_code
def yX7_init : MethodName := ⟨RX7, "<init>", "(LForgottenFeast$Tape;)V"⟩
abbrev cX7_cut : ByteArray := prog_9_method_2_code
def yX7_cut : MethodName := ⟨RX7, "cut", "()V"⟩
abbrev cX7_add : ByteArray := prog_9_method_3_code
def yX7_add : MethodName := ⟨RX7, "add", "(III)V"⟩
abbrev cX7_runFrom : ByteArray := prog_9_method_4_code
def yX7_runFrom : MethodName := ⟨RX7, "runFrom", "(I)I"⟩
abbrev cX7_wordKind : ByteArray := prog_9_method_5_code
def yX7_wordKind : MethodName := ⟨RX7, "wordKind", "(II)I"⟩
abbrev cX7_isWord : ByteArray := prog_9_method_6_code
def yX7_isWord : MethodName := ⟨RX7, "isWord", "(III)Z"⟩
abbrev cX7_lettersOf : ByteArray := prog_9_method_7_code
def yX7_lettersOf : MethodName := ⟨RX7, "lettersOf", "(II)I"⟩
abbrev cX7_numberOf : ByteArray := prog_9_method_8_code
def yX7_numberOf : MethodName := ⟨RX7, "numberOf", "(II)I"⟩
abbrev cX7_isLetter : ByteArray := prog_9_method_9_code
def yX7_isLetter : MethodName := ⟨RX7, "isLetter", "(I)Z"⟩
abbrev cX7_isDigit : ByteArray := prog_9_method_10_code
def yX7_isDigit : MethodName := ⟨RX7, "isDigit", "(I)Z"⟩
def RX8 : String := "ForgottenFeast$Town"
def TX8 : u_T := fun k => match k with
  | 0 => ("ForgottenFeast$Town", "days", "I", false)
  | 1 => ("ForgottenFeast$Town", "statements", "I", false)
  | 2 => ("ForgottenFeast$Town", "people", "I", false)
  | 3 => ("ForgottenFeast$Town", "toldCount", "I", false)
  | 4 => ("ForgottenFeast$Town", "remindsCount", "I", false)
  | 5 => ("ForgottenFeast$Town", "frostCount", "I", false)
  | 6 => ("ForgottenFeast$Town", "slips", "I", false)
  | 7 => ("ForgottenFeast$Town", "mortal", "I", false)
  | 8 => ("ForgottenFeast$Town", "names", "[I", true)
  | 9 => ("ForgottenFeast$Town", "minds", "[I", true)
  | 10 => ("ForgottenFeast$Town", "asks", "[I", true)
  | 11 => ("ForgottenFeast$Town", "reminds", "[I", true)
  | 12 => ("ForgottenFeast$Town", "remindedBy", "[I", true)
  | 13 => ("ForgottenFeast$Town", "told", "[I", true)
  | 14 => ("ForgottenFeast$Town", "frost", "[I", true)
  | 15 => ("ForgottenFeast$Town", "thinks", "LForgottenFeast$Rule;", true)
  | _ => ("ForgottenFeast$Town", "hears", "LForgottenFeast$Rule;", true)
def tyX8 : Nat → FieldType := fun k => match k with
  | 0 => .int
  | 1 => .int
  | 2 => .int
  | 3 => .int
  | 4 => .int
  | 5 => .int
  | 6 => .int
  | 7 => .int
  | 8 => .array .int
  | 9 => .array .int
  | 10 => .array .int
  | 11 => .array .int
  | 12 => .array .int
  | 13 => .array .int
  | 14 => .array .int
  | 15 => .object "ForgottenFeast$Rule"
  | _ => .object "ForgottenFeast$Rule"
theorem nmX8 : ∀ a, a < 17 → ∀ b, b < 17 → a ≠ b → (TX8 a).2.1 ≠ (TX8 b).2.1 := by decide +kernel
theorem tyX8_ok : ∀ k, k < 17 → parseFieldDescriptor (TX8 k).2.2.1 = some (tyX8 k) := by decide +kernel
abbrev cX8_init : ByteArray := prog_10_method_1_code
def yX8_init : MethodName := ⟨RX8, "<init>", "()V"⟩
abbrev cX8_clear : ByteArray := prog_10_method_2_code
def yX8_clear : MethodName := ⟨RX8, "clear", "()V"⟩
abbrev cX8_everybody : ByteArray := prog_10_method_3_code
def yX8_everybody : MethodName := ⟨RX8, "everybody", "()I"⟩
abbrev cX8_find : ByteArray := prog_10_method_4_code
def yX8_find : MethodName := ⟨RX8, "find", "(I)I"⟩
abbrev cX8_ruleOf : ByteArray := prog_10_method_5_code
def yX8_ruleOf : MethodName := ⟨RX8, "ruleOf", "(I)LForgottenFeast$Rule;"⟩
abbrev cX8_isFull : ByteArray := prog_10_method_6_code
def yX8_isFull : MethodName := ⟨RX8, "isFull", "(I)Z"⟩
abbrev cX8_addPerson : ByteArray := prog_10_method_7_code
def yX8_addPerson : MethodName := ⟨RX8, "addPerson", "(III)V"⟩
abbrev cX8_addTold : ByteArray := prog_10_method_8_code
def yX8_addTold : MethodName := ⟨RX8, "addTold", "(II)Z"⟩
abbrev cX8_addReminds : ByteArray := prog_10_method_9_code
def yX8_addReminds : MethodName := ⟨RX8, "addReminds", "(II)Z"⟩
abbrev cX8_addFrost : ByteArray := prog_10_method_10_code
def yX8_addFrost : MethodName := ⟨RX8, "addFrost", "(II)V"⟩
def RX9 : String := "ForgottenFeast"
def TX9 : u_T := fun k => match k with
  | 0 => ("ForgottenFeast", "tape", "LForgottenFeast$Tape;", true)
  | 1 => ("ForgottenFeast", "reader", "LForgottenFeast$Reader;", true)
  | 2 => ("ForgottenFeast", "town", "LForgottenFeast$Town;", false)
  | 3 => ("ForgottenFeast", "spareTown", "LForgottenFeast$Town;", false)
  | 4 => ("ForgottenFeast", "life", "LForgottenFeast$Life;", true)
  | 5 => ("ForgottenFeast", "ahead", "LForgottenFeast$Life;", true)
  | 6 => ("ForgottenFeast", "past", "LForgottenFeast$Past;", true)
  | 7 => ("ForgottenFeast", "dawn", "LForgottenFeast$Dawn;", true)
  | 8 => ("ForgottenFeast", "picture", "LForgottenFeast$Picture;", true)
  | 9 => ("ForgottenFeast", "seenPerson", "[I", true)
  | 10 => ("ForgottenFeast", "seenThinking", "[I", true)
  | 11 => ("ForgottenFeast", "seenCount", "I", false)
  | 12 => ("ForgottenFeast", "quietFor", "[I", true)
  | 13 => ("ForgottenFeast", "refused", "[I", true)
  | 14 => ("ForgottenFeast", "faultKind", "I", false)
  | 15 => ("ForgottenFeast", "faultPlace", "I", false)
  | _ => ("ForgottenFeast", "draw", "J", false)
def tyX9 : Nat → FieldType := fun k => match k with
  | 0 => .object "ForgottenFeast$Tape"
  | 1 => .object "ForgottenFeast$Reader"
  | 2 => .object "ForgottenFeast$Town"
  | 3 => .object "ForgottenFeast$Town"
  | 4 => .object "ForgottenFeast$Life"
  | 5 => .object "ForgottenFeast$Life"
  | 6 => .object "ForgottenFeast$Past"
  | 7 => .object "ForgottenFeast$Dawn"
  | 8 => .object "ForgottenFeast$Picture"
  | 9 => .array .int
  | 10 => .array .int
  | 11 => .int
  | 12 => .array .int
  | 13 => .array .int
  | 14 => .int
  | 15 => .int
  | _ => .long
theorem nmX9 : ∀ a, a < 17 → ∀ b, b < 17 → a ≠ b → (TX9 a).2.1 ≠ (TX9 b).2.1 := by decide +kernel
theorem tyX9_ok : ∀ k, k < 17 → parseFieldDescriptor (TX9 k).2.2.1 = some (tyX9 k) := by decide +kernel
abbrev cX9_init : ByteArray := prog_1_method_1_code
def yX9_init : MethodName := ⟨RX9, "<init>", "()V"⟩
abbrev cX9_feed : ByteArray := prog_1_method_2_code
def yX9_feed : MethodName := ⟨RX9, "feed", "(IIIII)I"⟩
abbrev cX9_end : ByteArray := prog_1_method_3_code
def yX9_end : MethodName := ⟨RX9, "end", "(I)Z"⟩
abbrev cX9_town : ByteArray := prog_1_method_4_code
def yX9_town : MethodName := ⟨RX9, "town", "()I"⟩
abbrev cX9_fault : ByteArray := prog_1_method_5_code
def yX9_fault : MethodName := ⟨RX9, "fault", "(I)I"⟩
abbrev cX9_has : ByteArray := prog_1_method_6_code
def yX9_has : MethodName := ⟨RX9, "has", "(I)I"⟩
abbrev cX9_letter : ByteArray := prog_1_method_7_code
def yX9_letter : MethodName := ⟨RX9, "letter", "(II)I"⟩
abbrev cX9_person : ByteArray := prog_1_method_8_code
def yX9_person : MethodName := ⟨RX9, "person", "(II)I"⟩
abbrev cX9_day : ByteArray := prog_1_method_9_code
def yX9_day : MethodName := ⟨RX9, "day", "(II)I"⟩
abbrev cX9_kept : ByteArray := prog_1_method_10_code
def yX9_kept : MethodName := ⟨RX9, "kept", "(II)I"⟩
abbrev cX9_later : ByteArray := prog_1_method_11_code
def yX9_later : MethodName := ⟨RX9, "later", "(II)I"⟩
abbrev cX9_first : ByteArray := prog_1_method_12_code
def yX9_first : MethodName := ⟨RX9, "first", "(I)I"⟩
abbrev cX9_hangs : ByteArray := prog_1_method_13_code
def yX9_hangs : MethodName := ⟨RX9, "hangs", "(I)I"⟩
abbrev cX9_sure : ByteArray := prog_1_method_14_code
def yX9_sure : MethodName := ⟨RX9, "sure", "(I)I"⟩
abbrev cX9_slips : ByteArray := prog_1_method_15_code
def yX9_slips : MethodName := ⟨RX9, "slips", "(I)I"⟩
abbrev cX9_costs : ByteArray := prog_1_method_16_code
def yX9_costs : MethodName := ⟨RX9, "costs", "(I)I"⟩
abbrev cX9_cheapest : ByteArray := prog_1_method_17_code
def yX9_cheapest : MethodName := ⟨RX9, "cheapest", "(I)I"⟩
abbrev cX9_enough : ByteArray := prog_1_method_18_code
def yX9_enough : MethodName := ⟨RX9, "enough", "(I)I"⟩
abbrev cX9_turnsOf : ByteArray := prog_1_method_19_code
def yX9_turnsOf : MethodName := ⟨RX9, "turnsOf", "(I)I"⟩
abbrev cX9_see : ByteArray := prog_1_method_20_code
def yX9_see : MethodName := ⟨RX9, "see", "()I"⟩
abbrev cX9_thought : ByteArray := prog_1_method_21_code
def yX9_thought : MethodName := ⟨RX9, "thought", "(I)I"⟩
abbrev cX9_hours : ByteArray := prog_1_method_22_code
def yX9_hours : MethodName := ⟨RX9, "hours", "(I)I"⟩
abbrev cX9_law : ByteArray := prog_1_method_23_code
def yX9_law : MethodName := ⟨RX9, "law", "(I)I"⟩
abbrev cX9_go : ByteArray := prog_1_method_24_code
def yX9_go : MethodName := ⟨RX9, "go", "(I)I"⟩
abbrev cX9_tell : ByteArray := prog_1_method_25_code
def yX9_tell : MethodName := ⟨RX9, "tell", "(II)I"⟩
abbrev cX9_bribe : ByteArray := prog_1_method_26_code
def yX9_bribe : MethodName := ⟨RX9, "bribe", "(II)I"⟩
abbrev cX9_dies : ByteArray := prog_1_method_27_code
def yX9_dies : MethodName := ⟨RX9, "dies", "(I)Z"⟩
abbrev cX9_chance : ByteArray := prog_1_method_28_code
def yX9_chance : MethodName := ⟨RX9, "chance", "(I)I"⟩
abbrev cX9_undo : ByteArray := prog_1_method_29_code
def yX9_undo : MethodName := ⟨RX9, "undo", "()Z"⟩
abbrev cX9_seed : ByteArray := prog_1_method_30_code
def yX9_seed : MethodName := ⟨RX9, "seed", "(I)Z"⟩
abbrev cX9_ask : ByteArray := prog_1_method_31_code
def yX9_ask : MethodName := ⟨RX9, "ask", "(I)J"⟩
abbrev cX9_image : ByteArray := prog_1_method_32_code
def yX9_image : MethodName := ⟨RX9, "image", "()I"⟩
abbrev cX9_octet : ByteArray := prog_1_method_33_code
def yX9_octet : MethodName := ⟨RX9, "octet", "(I)I"⟩
abbrev cX9_on : ByteArray := prog_1_method_34_code
def yX9_on : MethodName := ⟨RX9, "on", "()Z"⟩
abbrev cX9_status : ByteArray := prog_1_method_35_code
def yX9_status : MethodName := ⟨RX9, "status", "(I)I"⟩
abbrev cX9_refuse : ByteArray := prog_1_method_36_code
def yX9_refuse : MethodName := ⟨RX9, "refuse", "(I)I"⟩
abbrev cX9_noteFault : ByteArray := prog_1_method_37_code
def yX9_noteFault : MethodName := ⟨RX9, "noteFault", "()V"⟩
abbrev cX9_bit : ByteArray := prog_1_method_38_code
def yX9_bit : MethodName := ⟨RX9, "bit", "(II)I"⟩
abbrev cX9_countBits : ByteArray := prog_1_method_39_code
def yX9_countBits : MethodName := ⟨RX9, "countBits", "([I)I"⟩
abbrev cX9_isPerson : ByteArray := prog_1_method_40_code
def yX9_isPerson : MethodName := ⟨RX9, "isPerson", "(I)Z"⟩
abbrev cX9_isDay : ByteArray := prog_1_method_41_code
def yX9_isDay : MethodName := ⟨RX9, "isDay", "(I)Z"⟩
abbrev cX9_living : ByteArray := prog_1_method_42_code
def yX9_living : MethodName := ⟨RX9, "living", "()I"⟩
abbrev cX9_daysToldOff : ByteArray := prog_1_method_43_code
def yX9_daysToldOff : MethodName := ⟨RX9, "daysToldOff", "(I)I"⟩
abbrev cX9_isAhead : ByteArray := prog_1_method_44_code
def yX9_isAhead : MethodName := ⟨RX9, "isAhead", "(I)Z"⟩
abbrev cX9_foresee : ByteArray := prog_1_method_45_code
def yX9_foresee : MethodName := ⟨RX9, "foresee", "(I)Z"⟩
abbrev cX9_hangsOn : ByteArray := prog_1_method_46_code
def yX9_hangsOn : MethodName := ⟨RX9, "hangsOn", "()I"⟩
abbrev cX9_chanceOfNobody : ByteArray := prog_1_method_47_code
def yX9_chanceOfNobody : MethodName := ⟨RX9, "chanceOfNobody", "(I)I"⟩
abbrev cX9_priceOf : ByteArray := prog_1_method_48_code
def yX9_priceOf : MethodName := ⟨RX9, "priceOf", "(I)I"⟩
abbrev cX9_somebodyByTurns : ByteArray := prog_1_method_49_code
def yX9_somebodyByTurns : MethodName := ⟨RX9, "somebodyByTurns", "(IIIII)Z"⟩
abbrev cX9_canBeSilenced : ByteArray := prog_1_method_50_code
def yX9_canBeSilenced : MethodName := ⟨RX9, "canBeSilenced", "(IIIII)Z"⟩
abbrev cX9_isSight : ByteArray := prog_1_method_51_code
def yX9_isSight : MethodName := ⟨RX9, "isSight", "()Z"⟩
abbrev cX9_isAsSeen : ByteArray := prog_1_method_52_code
def yX9_isAsSeen : MethodName := ⟨RX9, "isAsSeen", "(I)Z"⟩
abbrev cX9_hoursFrom : ByteArray := prog_1_method_53_code
def yX9_hoursFrom : MethodName := ⟨RX9, "hoursFrom", "(II)I"⟩
abbrev cX9_isLaw : ByteArray := prog_1_method_54_code
def yX9_isLaw : MethodName := ⟨RX9, "isLaw", "(I)Z"⟩
abbrev cX9_liveOneDay : ByteArray := prog_1_method_55_code
def yX9_liveOneDay : MethodName := ⟨RX9, "liveOneDay", "()I"⟩
abbrev cX9_drawDeaths : ByteArray := prog_1_method_56_code
def yX9_drawDeaths : MethodName := ⟨RX9, "drawDeaths", "()V"⟩
abbrev cX9_answerOf : ByteArray := prog_1_method_57_code
def yX9_answerOf : MethodName := ⟨RX9, "answerOf", "(I)J"⟩
def RX10 : String := "ForgottenFeastModel"
def TX10 : u_T := fun k => match k with
  | 0 => ("ForgottenFeastModel", "tape", "[I", true)
  | 1 => ("ForgottenFeastModel", "taped", "I", false)
  | 2 => ("ForgottenFeastModel", "at", "I", false)
  | 3 => ("ForgottenFeastModel", "end", "I", false)
  | 4 => ("ForgottenFeastModel", "ended", "I", false)
  | 5 => ("ForgottenFeastModel", "bad", "I", false)
  | 6 => ("ForgottenFeastModel", "badPlace", "I", false)
  | 7 => ("ForgottenFeastModel", "fault", "I", false)
  | 8 => ("ForgottenFeastModel", "faultPlace", "I", false)
  | 9 => ("ForgottenFeastModel", "refused", "[I", true)
  | 10 => ("ForgottenFeastModel", "numberPlace", "I", false)
  | 11 => ("ForgottenFeastModel", "daysWord", "[C", true)
  | 12 => ("ForgottenFeastModel", "personWord", "[C", true)
  | 13 => ("ForgottenFeastModel", "mindWord", "[C", true)
  | 14 => ("ForgottenFeastModel", "asksWord", "[C", true)
  | 15 => ("ForgottenFeastModel", "toldWord", "[C", true)
  | 16 => ("ForgottenFeastModel", "onWord", "[C", true)
  | 17 => ("ForgottenFeastModel", "remindsWord", "[C", true)
  | 18 => ("ForgottenFeastModel", "frostWord", "[C", true)
  | 19 => ("ForgottenFeastModel", "forWord", "[C", true)
  | 20 => ("ForgottenFeastModel", "thinksWord", "[C", true)
  | 21 => ("ForgottenFeastModel", "hearsWord", "[C", true)
  | 22 => ("ForgottenFeastModel", "slipsWord", "[C", true)
  | 23 => ("ForgottenFeastModel", "mortalWord", "[C", true)
  | 24 => ("ForgottenFeastModel", "dayWord", "[C", true)
  | 25 => ("ForgottenFeastModel", "yearWord", "[C", true)
  | 26 => ("ForgottenFeastModel", "agoWord", "[C", true)
  | 27 => ("ForgottenFeastModel", "feastWord", "[C", true)
  | 28 => ("ForgottenFeastModel", "otherWord", "[C", true)
  | 29 => ("ForgottenFeastModel", "numberWord", "[C", true)
  | 30 => ("ForgottenFeastModel", "deadWord", "[C", true)
  | 31 => ("ForgottenFeastModel", "knowsWord", "[C", true)
  | 32 => ("ForgottenFeastModel", "orWord", "[C", true)
  | 33 => ("ForgottenFeastModel", "andWord", "[C", true)
  | 34 => ("ForgottenFeastModel", "notWord", "[C", true)
  | 35 => ("ForgottenFeastModel", "allWord", "[C", true)
  | 36 => ("ForgottenFeastModel", "minWord", "[C", true)
  | 37 => ("ForgottenFeastModel", "maxWord", "[C", true)
  | 38 => ("ForgottenFeastModel", "namePlace", "I", false)
  | 39 => ("ForgottenFeastModel", "many", "[I", true)
  | 40 => ("ForgottenFeastModel", "names", "[J", true)
  | 41 => ("ForgottenFeastModel", "minds", "[I", true)
  | 42 => ("ForgottenFeastModel", "asked", "[I", true)
  | 43 => ("ForgottenFeastModel", "remind", "[I", true)
  | 44 => ("ForgottenFeastModel", "toldFor", "[I", true)
  | 45 => ("ForgottenFeastModel", "frosts", "[I", true)
  | 46 => ("ForgottenFeastModel", "settings", "[I", true)
  | 47 => ("ForgottenFeastModel", "codeFrom", "[I", true)
  | 48 => ("ForgottenFeastModel", "codeEnd", "[I", true)
  | 49 => ("ForgottenFeastModel", "codes", "[I", true)
  | 50 => ("ForgottenFeastModel", "coded", "I", false)
  | 51 => ("ForgottenFeastModel", "statements", "I", false)
  | 52 => ("ForgottenFeastModel", "isTown", "Z", false)
  | 53 => ("ForgottenFeastModel", "textKind", "I", false)
  | 54 => ("ForgottenFeastModel", "now", "[I", true)
  | 55 => ("ForgottenFeastModel", "aside", "[I", true)
  | 56 => ("ForgottenFeastModel", "askToldSet", "I", false)
  | 57 => ("ForgottenFeastModel", "askFeast", "J", false)
  | 58 => ("ForgottenFeastModel", "askFrost", "J", false)
  | 59 => ("ForgottenFeastModel", "askOther", "J", false)
  | 60 => ("ForgottenFeastModel", "selfSet", "I", false)
  | 61 => ("ForgottenFeastModel", "thinkSet", "I", false)
  | 62 => ("ForgottenFeastModel", "feastToday", "Z", false)
  | 63 => ("ForgottenFeastModel", "before", "[I", true)
  | 64 => ("ForgottenFeastModel", "after", "[I", true)
  | 65 => ("ForgottenFeastModel", "rowMany", "I", false)
  | 66 => ("ForgottenFeastModel", "rows", "[I", true)
  | 67 => ("ForgottenFeastModel", "ago", "[I", true)
  | 68 => ("ForgottenFeastModel", "kept0", "[I", true)
  | 69 => ("ForgottenFeastModel", "undoable", "I", false)
  | 70 => ("ForgottenFeastModel", "newest", "I", false)
  | 71 => ("ForgottenFeastModel", "seeded", "J", false)
  | 72 => ("ForgottenFeastModel", "firstAsked", "[C", true)
  | 73 => ("ForgottenFeastModel", "lastAsked", "[C", true)
  | 74 => ("ForgottenFeastModel", "oftenAsked", "[C", true)
  | 75 => ("ForgottenFeastModel", "totalAsked", "[C", true)
  | 76 => ("ForgottenFeastModel", "mostAsked", "[C", true)
  | 77 => ("ForgottenFeastModel", "leastAsked", "[C", true)
  | 78 => ("ForgottenFeastModel", "notAsked", "[C", true)
  | 79 => ("ForgottenFeastModel", "andAsked", "[C", true)
  | 80 => ("ForgottenFeastModel", "orAsked", "[C", true)
  | 81 => ("ForgottenFeastModel", "allAsked", "[C", true)
  | 82 => ("ForgottenFeastModel", "minAsked", "[C", true)
  | 83 => ("ForgottenFeastModel", "maxAsked", "[C", true)
  | 84 => ("ForgottenFeastModel", "dayAsked", "[C", true)
  | 85 => ("ForgottenFeastModel", "toldAsked", "[C", true)
  | 86 => ("ForgottenFeastModel", "agoAsked", "[C", true)
  | 87 => ("ForgottenFeastModel", "mindAsked", "[C", true)
  | 88 => ("ForgottenFeastModel", "feastAsked", "[C", true)
  | 89 => ("ForgottenFeastModel", "yearAsked", "[C", true)
  | 90 => ("ForgottenFeastModel", "frostAsked", "[C", true)
  | 91 => ("ForgottenFeastModel", "otherAsked", "[C", true)
  | 92 => ("ForgottenFeastModel", "numberAsked", "[C", true)
  | 93 => ("ForgottenFeastModel", "deadAsked", "[C", true)
  | 94 => ("ForgottenFeastModel", "thinksAsked", "[C", true)
  | 95 => ("ForgottenFeastModel", "knowsAsked", "[C", true)
  | 96 => ("ForgottenFeastModel", "qCodes", "[I", true)
  | 97 => ("ForgottenFeastModel", "qCoded", "I", false)
  | 98 => ("ForgottenFeastModel", "qWait", "[I", true)
  | 99 => ("ForgottenFeastModel", "qWaits", "I", false)
  | 100 => ("ForgottenFeastModel", "qOpened", "I", false)
  | 101 => ("ForgottenFeastModel", "qBase", "I", false)
  | 102 => ("ForgottenFeastModel", "qPile", "[J", true)
  | 103 => ("ForgottenFeastModel", "qPiled", "I", false)
  | 104 => ("ForgottenFeastModel", "qAnswer", "J", false)
  | 105 => ("ForgottenFeastModel", "qIsNew", "Z", false)
  | 106 => ("ForgottenFeastModel", "octet", "[I", true)
  | _ => ("ForgottenFeastModel", "octets", "I", false)
def tyX10 : Nat → FieldType := fun k => match k with
  | 0 => .array .int
  | 1 => .int
  | 2 => .int
  | 3 => .int
  | 4 => .int
  | 5 => .int
  | 6 => .int
  | 7 => .int
  | 8 => .int
  | 9 => .array .int
  | 10 => .int
  | 11 => .array .char
  | 12 => .array .char
  | 13 => .array .char
  | 14 => .array .char
  | 15 => .array .char
  | 16 => .array .char
  | 17 => .array .char
  | 18 => .array .char
  | 19 => .array .char
  | 20 => .array .char
  | 21 => .array .char
  | 22 => .array .char
  | 23 => .array .char
  | 24 => .array .char
  | 25 => .array .char
  | 26 => .array .char
  | 27 => .array .char
  | 28 => .array .char
  | 29 => .array .char
  | 30 => .array .char
  | 31 => .array .char
  | 32 => .array .char
  | 33 => .array .char
  | 34 => .array .char
  | 35 => .array .char
  | 36 => .array .char
  | 37 => .array .char
  | 38 => .int
  | 39 => .array .int
  | 40 => .array .long
  | 41 => .array .int
  | 42 => .array .int
  | 43 => .array .int
  | 44 => .array .int
  | 45 => .array .int
  | 46 => .array .int
  | 47 => .array .int
  | 48 => .array .int
  | 49 => .array .int
  | 50 => .int
  | 51 => .int
  | 52 => .boolean
  | 53 => .int
  | 54 => .array .int
  | 55 => .array .int
  | 56 => .int
  | 57 => .long
  | 58 => .long
  | 59 => .long
  | 60 => .int
  | 61 => .int
  | 62 => .boolean
  | 63 => .array .int
  | 64 => .array .int
  | 65 => .int
  | 66 => .array .int
  | 67 => .array .int
  | 68 => .array .int
  | 69 => .int
  | 70 => .int
  | 71 => .long
  | 72 => .array .char
  | 73 => .array .char
  | 74 => .array .char
  | 75 => .array .char
  | 76 => .array .char
  | 77 => .array .char
  | 78 => .array .char
  | 79 => .array .char
  | 80 => .array .char
  | 81 => .array .char
  | 82 => .array .char
  | 83 => .array .char
  | 84 => .array .char
  | 85 => .array .char
  | 86 => .array .char
  | 87 => .array .char
  | 88 => .array .char
  | 89 => .array .char
  | 90 => .array .char
  | 91 => .array .char
  | 92 => .array .char
  | 93 => .array .char
  | 94 => .array .char
  | 95 => .array .char
  | 96 => .array .int
  | 97 => .int
  | 98 => .array .int
  | 99 => .int
  | 100 => .int
  | 101 => .int
  | 102 => .array .long
  | 103 => .int
  | 104 => .long
  | 105 => .boolean
  | 106 => .array .int
  | _ => .int
theorem nmX10 : ∀ a, a < 108 → ∀ b, b < 108 → a ≠ b → (TX10 a).2.1 ≠ (TX10 b).2.1 := by decide +kernel
theorem tyX10_ok : ∀ k, k < 108 → parseFieldDescriptor (TX10 k).2.2.1 = some (tyX10 k) := by decide +kernel
abbrev cX10_init : ByteArray := prog_12_method_1_code
def yX10_init : MethodName := ⟨RX10, "<init>", "()V"⟩
abbrev cX10_isIn : ByteArray := prog_12_method_2_code
def yX10_isIn : MethodName := ⟨RX10, "isIn", "(JJJ)Z"⟩
abbrev cX10_feed : ByteArray := prog_12_method_3_code
def yX10_feed : MethodName := ⟨RX10, "feed", "(IIIII)I"⟩
abbrev cX10_end : ByteArray := prog_12_method_4_code
def yX10_end : MethodName := ⟨RX10, "end", "(I)Z"⟩
abbrev cX10_fail : ByteArray := prog_12_method_5_code
def yX10_fail : MethodName := ⟨RX10, "fail", "(II)V"⟩
abbrev cX10_isLetter : ByteArray := prog_12_method_6_code
def yX10_isLetter : MethodName := ⟨RX10, "isLetter", "(I)Z"⟩
abbrev cX10_isDigit : ByteArray := prog_12_method_7_code
def yX10_isDigit : MethodName := ⟨RX10, "isDigit", "(I)Z"⟩
abbrev cX10_look : ByteArray := prog_12_method_8_code
def yX10_look : MethodName := ⟨RX10, "look", "()I"⟩
abbrev cX10_isHere : ByteArray := prog_12_method_9_code
def yX10_isHere : MethodName := ⟨RX10, "isHere", "([C)Z"⟩
abbrev cX10_takes : ByteArray := prog_12_method_10_code
def yX10_takes : MethodName := ⟨RX10, "takes", "([C)Z"⟩
abbrev cX10_asks : ByteArray := prog_12_method_11_code
def yX10_asks : MethodName := ⟨RX10, "asks", "([C)V"⟩
abbrev cX10_takesSign : ByteArray := prog_12_method_12_code
def yX10_takesSign : MethodName := ⟨RX10, "takesSign", "(I)Z"⟩
abbrev cX10_asksSign : ByteArray := prog_12_method_13_code
def yX10_asksSign : MethodName := ⟨RX10, "asksSign", "(I)V"⟩
abbrev cX10_number : ByteArray := prog_12_method_14_code
def yX10_number : MethodName := ⟨RX10, "number", "(II)I"⟩
abbrev cX10_isOwnHere : ByteArray := prog_12_method_15_code
def yX10_isOwnHere : MethodName := ⟨RX10, "isOwnHere", "()Z"⟩
abbrev cX10_name : ByteArray := prog_12_method_16_code
def yX10_name : MethodName := ⟨RX10, "name", "()J"⟩
abbrev cX10_isAllowed : ByteArray := prog_12_method_17_code
def yX10_isAllowed : MethodName := ⟨RX10, "isAllowed", "(I)Z"⟩
abbrev cX10_isFull : ByteArray := prog_12_method_18_code
def yX10_isFull : MethodName := ⟨RX10, "isFull", "(III)Z"⟩
abbrev cX10_personOf : ByteArray := prog_12_method_19_code
def yX10_personOf : MethodName := ⟨RX10, "personOf", "(J)I"⟩
abbrev cX10_personHere : ByteArray := prog_12_method_20_code
def yX10_personHere : MethodName := ⟨RX10, "personHere", "()I"⟩
abbrev cX10_daysTold : ByteArray := prog_12_method_21_code
def yX10_daysTold : MethodName := ⟨RX10, "daysTold", "()V"⟩
abbrev cX10_personTold : ByteArray := prog_12_method_22_code
def yX10_personTold : MethodName := ⟨RX10, "personTold", "(I)V"⟩
abbrev cX10_isToldOff : ByteArray := prog_12_method_23_code
def yX10_isToldOff : MethodName := ⟨RX10, "isToldOff", "(I)V"⟩
abbrev cX10_remindsTold : ByteArray := prog_12_method_24_code
def yX10_remindsTold : MethodName := ⟨RX10, "remindsTold", "(I)V"⟩
abbrev cX10_frostTold : ByteArray := prog_12_method_25_code
def yX10_frostTold : MethodName := ⟨RX10, "frostTold", "(I)V"⟩
abbrev cX10_codesTold : ByteArray := prog_12_method_26_code
def yX10_codesTold : MethodName := ⟨RX10, "codesTold", "(II)V"⟩
abbrev cX10_statementTold : ByteArray := prog_12_method_27_code
def yX10_statementTold : MethodName := ⟨RX10, "statementTold", "()V"⟩
abbrev cX10_town : ByteArray := prog_12_method_28_code
def yX10_town : MethodName := ⟨RX10, "town", "()I"⟩
abbrev cX10_stands : ByteArray := prog_12_method_29_code
def yX10_stands : MethodName := ⟨RX10, "stands", "()V"⟩
abbrev cX10_fault : ByteArray := prog_12_method_30_code
def yX10_fault : MethodName := ⟨RX10, "fault", "(I)I"⟩
abbrev cX10_peopleMany : ByteArray := prog_12_method_31_code
def yX10_peopleMany : MethodName := ⟨RX10, "peopleMany", "()I"⟩
abbrev cX10_yearDays : ByteArray := prog_12_method_32_code
def yX10_yearDays : MethodName := ⟨RX10, "yearDays", "()I"⟩
abbrev cX10_isPerson : ByteArray := prog_12_method_33_code
def yX10_isPerson : MethodName := ⟨RX10, "isPerson", "(I)Z"⟩
abbrev cX10_isDay : ByteArray := prog_12_method_34_code
def yX10_isDay : MethodName := ⟨RX10, "isDay", "(I)Z"⟩
abbrev cX10_mindOf : ByteArray := prog_12_method_35_code
def yX10_mindOf : MethodName := ⟨RX10, "mindOf", "(I)I"⟩
abbrev cX10_askedBy : ByteArray := prog_12_method_36_code
def yX10_askedBy : MethodName := ⟨RX10, "askedBy", "(I)I"⟩
abbrev cX10_agoOf : ByteArray := prog_12_method_37_code
def yX10_agoOf : MethodName := ⟨RX10, "agoOf", "(I)I"⟩
abbrev cX10_isDead : ByteArray := prog_12_method_38_code
def yX10_isDead : MethodName := ⟨RX10, "isDead", "(I)Z"⟩
abbrev cX10_living : ByteArray := prog_12_method_39_code
def yX10_living : MethodName := ⟨RX10, "living", "()I"⟩
abbrev cX10_isFrost : ByteArray := prog_12_method_40_code
def yX10_isFrost : MethodName := ⟨RX10, "isFrost", "(I)Z"⟩
abbrev cX10_bits : ByteArray := prog_12_method_41_code
def yX10_bits : MethodName := ⟨RX10, "bits", "(I)I"⟩
abbrev cX10_isTold : ByteArray := prog_12_method_42_code
def yX10_isTold : MethodName := ⟨RX10, "isTold", "(II)Z"⟩
abbrev cX10_asksDay : ByteArray := prog_12_method_43_code
def yX10_asksDay : MethodName := ⟨RX10, "asksDay", "(I)V"⟩
abbrev cX10_selves : ByteArray := prog_12_method_44_code
def yX10_selves : MethodName := ⟨RX10, "selves", "(II)I"⟩
abbrev cX10_reminderOf : ByteArray := prog_12_method_45_code
def yX10_reminderOf : MethodName := ⟨RX10, "reminderOf", "(II)I"⟩
abbrev cX10_isReminded : ByteArray := prog_12_method_46_code
def yX10_isReminded : MethodName := ⟨RX10, "isReminded", "(II)Z"⟩
abbrev cX10_reminded : ByteArray := prog_12_method_47_code
def yX10_reminded : MethodName := ⟨RX10, "reminded", "(II)I"⟩
abbrev cX10_canCome : ByteArray := prog_12_method_48_code
def yX10_canCome : MethodName := ⟨RX10, "canCome", "()Z"⟩
abbrev cX10_begins : ByteArray := prog_12_method_49_code
def yX10_begins : MethodName := ⟨RX10, "begins", "()V"⟩
abbrev cX10_dayGoes : ByteArray := prog_12_method_50_code
def yX10_dayGoes : MethodName := ⟨RX10, "dayGoes", "()V"⟩
abbrev cX10_isKept : ByteArray := prog_12_method_51_code
def yX10_isKept : MethodName := ⟨RX10, "isKept", "()V"⟩
abbrev cX10_daysGo : ByteArray := prog_12_method_52_code
def yX10_daysGo : MethodName := ⟨RX10, "daysGo", "(I)V"⟩
abbrev cX10_putsAside : ByteArray := prog_12_method_53_code
def yX10_putsAside : MethodName := ⟨RX10, "putsAside", "()V"⟩
abbrev cX10_takesBack : ByteArray := prog_12_method_54_code
def yX10_takesBack : MethodName := ⟨RX10, "takesBack", "()V"⟩
abbrev cX10_daysLeft : ByteArray := prog_12_method_55_code
def yX10_daysLeft : MethodName := ⟨RX10, "daysLeft", "()I"⟩
abbrev cX10_isAhead : ByteArray := prog_12_method_56_code
def yX10_isAhead : MethodName := ⟨RX10, "isAhead", "(I)Z"⟩
abbrev cX10_setsOf : ByteArray := prog_12_method_57_code
def yX10_setsOf : MethodName := ⟨RX10, "setsOf", "(I)I"⟩
abbrev cX10_has : ByteArray := prog_12_method_58_code
def yX10_has : MethodName := ⟨RX10, "has", "(I)I"⟩
abbrev cX10_letter : ByteArray := prog_12_method_59_code
def yX10_letter : MethodName := ⟨RX10, "letter", "(II)I"⟩
abbrev cX10_remindersOf : ByteArray := prog_12_method_60_code
def yX10_remindersOf : MethodName := ⟨RX10, "remindersOf", "(I)I"⟩
abbrev cX10_toldDays : ByteArray := prog_12_method_61_code
def yX10_toldDays : MethodName := ⟨RX10, "toldDays", "(I)I"⟩
abbrev cX10_person : ByteArray := prog_12_method_62_code
def yX10_person : MethodName := ⟨RX10, "person", "(II)I"⟩
abbrev cX10_day : ByteArray := prog_12_method_63_code
def yX10_day : MethodName := ⟨RX10, "day", "(II)I"⟩
abbrev cX10_kept : ByteArray := prog_12_method_64_code
def yX10_kept : MethodName := ⟨RX10, "kept", "(II)I"⟩
abbrev cX10_later : ByteArray := prog_12_method_65_code
def yX10_later : MethodName := ⟨RX10, "later", "(II)I"⟩
abbrev cX10_first : ByteArray := prog_12_method_66_code
def yX10_first : MethodName := ⟨RX10, "first", "(I)I"⟩
abbrev cX10_hangsNext : ByteArray := prog_12_method_67_code
def yX10_hangsNext : MethodName := ⟨RX10, "hangsNext", "()I"⟩
abbrev cX10_hangs : ByteArray := prog_12_method_68_code
def yX10_hangs : MethodName := ⟨RX10, "hangs", "(I)I"⟩
abbrev cX10_sure : ByteArray := prog_12_method_69_code
def yX10_sure : MethodName := ⟨RX10, "sure", "(I)I"⟩
abbrev cX10_slips : ByteArray := prog_12_method_70_code
def yX10_slips : MethodName := ⟨RX10, "slips", "(I)I"⟩
abbrev cX10_costOf : ByteArray := prog_12_method_71_code
def yX10_costOf : MethodName := ⟨RX10, "costOf", "(I)I"⟩
abbrev cX10_costs : ByteArray := prog_12_method_72_code
def yX10_costs : MethodName := ⟨RX10, "costs", "(I)I"⟩
abbrev cX10_cheapest : ByteArray := prog_12_method_73_code
def yX10_cheapest : MethodName := ⟨RX10, "cheapest", "(I)I"⟩
abbrev cX10_enough : ByteArray := prog_12_method_74_code
def yX10_enough : MethodName := ⟨RX10, "enough", "(I)I"⟩
abbrev cX10_anyThinks : ByteArray := prog_12_method_75_code
def yX10_anyThinks : MethodName := ⟨RX10, "anyThinks", "(II)Z"⟩
abbrev cX10_bribesLast : ByteArray := prog_12_method_76_code
def yX10_bribesLast : MethodName := ⟨RX10, "bribesLast", "(II)Z"⟩
abbrev cX10_tellsLast : ByteArray := prog_12_method_77_code
def yX10_tellsLast : MethodName := ⟨RX10, "tellsLast", "(II)Z"⟩
abbrev cX10_bribesFirst : ByteArray := prog_12_method_78_code
def yX10_bribesFirst : MethodName := ⟨RX10, "bribesFirst", "(I)Z"⟩
abbrev cX10_tellsFirst : ByteArray := prog_12_method_79_code
def yX10_tellsFirst : MethodName := ⟨RX10, "tellsFirst", "()Z"⟩
abbrev cX10_turnsOf : ByteArray := prog_12_method_80_code
def yX10_turnsOf : MethodName := ⟨RX10, "turnsOf", "(I)I"⟩
abbrev cX10_see : ByteArray := prog_12_method_81_code
def yX10_see : MethodName := ⟨RX10, "see", "()I"⟩
abbrev cX10_isAsSeen : ByteArray := prog_12_method_82_code
def yX10_isAsSeen : MethodName := ⟨RX10, "isAsSeen", "(I)Z"⟩
abbrev cX10_thought : ByteArray := prog_12_method_83_code
def yX10_thought : MethodName := ⟨RX10, "thought", "(I)I"⟩
abbrev cX10_hoursFrom : ByteArray := prog_12_method_84_code
def yX10_hoursFrom : MethodName := ⟨RX10, "hoursFrom", "(I)I"⟩
abbrev cX10_hours : ByteArray := prog_12_method_85_code
def yX10_hours : MethodName := ⟨RX10, "hours", "(I)I"⟩
abbrev cX10_isLaw : ByteArray := prog_12_method_86_code
def yX10_isLaw : MethodName := ⟨RX10, "isLaw", "(I)Z"⟩
abbrev cX10_law : ByteArray := prog_12_method_87_code
def yX10_law : MethodName := ⟨RX10, "law", "(I)I"⟩
abbrev cX10_keeps : ByteArray := prog_12_method_88_code
def yX10_keeps : MethodName := ⟨RX10, "keeps", "()V"⟩
abbrev cX10_undo : ByteArray := prog_12_method_89_code
def yX10_undo : MethodName := ⟨RX10, "undo", "()Z"⟩
abbrev cX10_refuses : ByteArray := prog_12_method_90_code
def yX10_refuses : MethodName := ⟨RX10, "refuses", "(I)I"⟩
abbrev cX10_go : ByteArray := prog_12_method_91_code
def yX10_go : MethodName := ⟨RX10, "go", "(I)I"⟩
abbrev cX10_tell : ByteArray := prog_12_method_92_code
def yX10_tell : MethodName := ⟨RX10, "tell", "(II)I"⟩
abbrev cX10_bribe : ByteArray := prog_12_method_93_code
def yX10_bribe : MethodName := ⟨RX10, "bribe", "(II)I"⟩
abbrev cX10_dies : ByteArray := prog_12_method_94_code
def yX10_dies : MethodName := ⟨RX10, "dies", "(I)Z"⟩
abbrev cX10_seed : ByteArray := prog_12_method_95_code
def yX10_seed : MethodName := ⟨RX10, "seed", "(I)Z"⟩
abbrev cX10_drawOf : ByteArray := prog_12_method_96_code
def yX10_drawOf : MethodName := ⟨RX10, "drawOf", "(I)I"⟩
abbrev cX10_chance : ByteArray := prog_12_method_97_code
def yX10_chance : MethodName := ⟨RX10, "chance", "(I)I"⟩
abbrev cX10_qCode : ByteArray := prog_12_method_98_code
def yX10_qCode : MethodName := ⟨RX10, "qCode", "(I)V"⟩
abbrev cX10_qOpens : ByteArray := prog_12_method_99_code
def yX10_qOpens : MethodName := ⟨RX10, "qOpens", "(II)V"⟩
abbrev cX10_qIsOn : ByteArray := prog_12_method_100_code
def yX10_qIsOn : MethodName := ⟨RX10, "qIsOn", "(I)Z"⟩
abbrev cX10_qDrops : ByteArray := prog_12_method_101_code
def yX10_qDrops : MethodName := ⟨RX10, "qDrops", "()V"⟩
abbrev cX10_qIsBracket : ByteArray := prog_12_method_102_code
def yX10_qIsBracket : MethodName := ⟨RX10, "qIsBracket", "(I)Z"⟩
abbrev cX10_qBracket : ByteArray := prog_12_method_103_code
def yX10_qBracket : MethodName := ⟨RX10, "qBracket", "()I"⟩
abbrev cX10_qDropsToBracket : ByteArray := prog_12_method_104_code
def yX10_qDropsToBracket : MethodName := ⟨RX10, "qDropsToBracket", "()V"⟩
abbrev cX10_qWordHere : ByteArray := prog_12_method_105_code
def yX10_qWordHere : MethodName := ⟨RX10, "qWordHere", "()I"⟩
abbrev cX10_qWordOf : ByteArray := prog_12_method_106_code
def yX10_qWordOf : MethodName := ⟨RX10, "qWordOf", "(II)I"⟩
abbrev cX10_qAsksWord : ByteArray := prog_12_method_107_code
def yX10_qAsksWord : MethodName := ⟨RX10, "qAsksWord", "(I)V"⟩
abbrev cX10_qEndsPart : ByteArray := prog_12_method_108_code
def yX10_qEndsPart : MethodName := ⟨RX10, "qEndsPart", "()V"⟩
abbrev cX10_qPartTold : ByteArray := prog_12_method_109_code
def yX10_qPartTold : MethodName := ⟨RX10, "qPartTold", "()V"⟩
abbrev cX10_qGoesOn : ByteArray := prog_12_method_110_code
def yX10_qGoesOn : MethodName := ⟨RX10, "qGoesOn", "()Z"⟩
abbrev cX10_qSums : ByteArray := prog_12_method_111_code
def yX10_qSums : MethodName := ⟨RX10, "qSums", "()V"⟩
abbrev cX10_qFact : ByteArray := prog_12_method_112_code
def yX10_qFact : MethodName := ⟨RX10, "qFact", "()V"⟩
abbrev cX10_qHasSquare : ByteArray := prog_12_method_113_code
def yX10_qHasSquare : MethodName := ⟨RX10, "qHasSquare", "()Z"⟩
abbrev cX10_qDropsNots : ByteArray := prog_12_method_114_code
def yX10_qDropsNots : MethodName := ⟨RX10, "qDropsNots", "()V"⟩
abbrev cX10_qTest : ByteArray := prog_12_method_115_code
def yX10_qTest : MethodName := ⟨RX10, "qTest", "()V"⟩
abbrev cX10_qGoesOnTest : ByteArray := prog_12_method_116_code
def yX10_qGoesOnTest : MethodName := ⟨RX10, "qGoesOnTest", "()Z"⟩
abbrev cX10_qClip : ByteArray := prog_12_method_117_code
def yX10_qClip : MethodName := ⟨RX10, "qClip", "(J)J"⟩
abbrev cX10_qFloor : ByteArray := prog_12_method_118_code
def yX10_qFloor : MethodName := ⟨RX10, "qFloor", "(JJ)J"⟩
abbrev cX10_qPuts : ByteArray := prog_12_method_119_code
def yX10_qPuts : MethodName := ⟨RX10, "qPuts", "(J)V"⟩
abbrev cX10_qJoins : ByteArray := prog_12_method_120_code
def yX10_qJoins : MethodName := ⟨RX10, "qJoins", "(I)V"⟩
abbrev cX10_qPartOf : ByteArray := prog_12_method_121_code
def yX10_qPartOf : MethodName := ⟨RX10, "qPartOf", "(II)J"⟩
abbrev cX10_qOf : ByteArray := prog_12_method_122_code
def yX10_qOf : MethodName := ⟨RX10, "qOf", "(IJI)J"⟩
abbrev cX10_qTold : ByteArray := prog_12_method_123_code
def yX10_qTold : MethodName := ⟨RX10, "qTold", "(I)J"⟩
abbrev cX10_qKind : ByteArray := prog_12_method_124_code
def yX10_qKind : MethodName := ⟨RX10, "qKind", "()I"⟩
abbrev cX10_qTakes : ByteArray := prog_12_method_125_code
def yX10_qTakes : MethodName := ⟨RX10, "qTakes", "(IJI)V"⟩
abbrev cX10_ask : ByteArray := prog_12_method_126_code
def yX10_ask : MethodName := ⟨RX10, "ask", "(I)J"⟩
abbrev cX10_checked : ByteArray := prog_12_method_127_code
def yX10_checked : MethodName := ⟨RX10, "checked", "([II)I"⟩
abbrev cX10_writes : ByteArray := prog_12_method_128_code
def yX10_writes : MethodName := ⟨RX10, "writes", "(I)V"⟩
abbrev cX10_writesSets : ByteArray := prog_12_method_129_code
def yX10_writesSets : MethodName := ⟨RX10, "writesSets", "(I)V"⟩
abbrev cX10_image : ByteArray := prog_12_method_130_code
def yX10_image : MethodName := ⟨RX10, "image", "()I"⟩
abbrev cX10_octet : ByteArray := prog_12_method_131_code
def yX10_octet : MethodName := ⟨RX10, "octet", "(I)I"⟩
abbrev cX10_coinsTold : ByteArray := prog_12_method_132_code
def yX10_coinsTold : MethodName := ⟨RX10, "coinsTold", "()I"⟩
abbrev cX10_setsFrom : ByteArray := prog_12_method_133_code
def yX10_setsFrom : MethodName := ⟨RX10, "setsFrom", "()I"⟩
abbrev cX10_areSetsTold : ByteArray := prog_12_method_134_code
def yX10_areSetsTold : MethodName := ⟨RX10, "areSetsTold", "(III)Z"⟩
abbrev cX10_isHeadTold : ByteArray := prog_12_method_135_code
def yX10_isHeadTold : MethodName := ⟨RX10, "isHeadTold", "()Z"⟩
abbrev cX10_isImage : ByteArray := prog_12_method_136_code
def yX10_isImage : MethodName := ⟨RX10, "isImage", "(I)Z"⟩
abbrev cX10_takesSets : ByteArray := prog_12_method_137_code
def yX10_takesSets : MethodName := ⟨RX10, "takesSets", "(II)V"⟩
abbrev cX10_on : ByteArray := prog_12_method_138_code
def yX10_on : MethodName := ⟨RX10, "on", "()Z"⟩
abbrev cX10_status : ByteArray := prog_12_method_139_code
def yX10_status : MethodName := ⟨RX10, "status", "(I)I"⟩
def RJ11 : String := "java/lang/Character"
abbrev cJ11_isValidCodePoint_9a6ad : ByteArray := prog_13_method_11_code
def yJ11_isValidCodePoint_9a6ad : MethodName := ⟨RJ11, "isValidCodePoint", "(I)Z"⟩
abbrev cJ11_highSurrogate_5068e : ByteArray := prog_13_method_28_code
def yJ11_highSurrogate_5068e : MethodName := ⟨RJ11, "highSurrogate", "(I)C"⟩
abbrev cJ11_lowSurrogate_5068e : ByteArray := prog_13_method_29_code
def yJ11_lowSurrogate_5068e : MethodName := ⟨RJ11, "lowSurrogate", "(I)C"⟩
def RJ6 : String := "java/lang/Integer"
abbrev cJ6_numberOfTrailingZeros_0f7a4 : ByteArray := prog_14_method_48_code
def yJ6_numberOfTrailingZeros_0f7a4 : MethodName := ⟨RJ6, "numberOfTrailingZeros", "(I)I"⟩
abbrev cJ6_bitCount_0f7a4 : ByteArray := prog_14_method_49_code
def yJ6_bitCount_0f7a4 : MethodName := ⟨RJ6, "bitCount", "(I)I"⟩
def RJ9 : String := "java/lang/Math"
abbrev cJ9_floorDiv_7cf53 : ByteArray := prog_15_method_47_code
def yJ9_floorDiv_7cf53 : MethodName := ⟨RJ9, "floorDiv", "(II)I"⟩
abbrev cJ9_max_7cf53 : ByteArray := prog_15_method_65_code
def yJ9_max_7cf53 : MethodName := ⟨RJ9, "max", "(II)I"⟩
abbrev cJ9_max_f86c9 : ByteArray := prog_15_method_66_code
def yJ9_max_f86c9 : MethodName := ⟨RJ9, "max", "(JJ)J"⟩
abbrev cJ9_min_7cf53 : ByteArray := prog_15_method_69_code
def yJ9_min_7cf53 : MethodName := ⟨RJ9, "min", "(II)I"⟩
abbrev cJ9_min_f86c9 : ByteArray := prog_15_method_70_code
def yJ9_min_f86c9 : MethodName := ⟨RJ9, "min", "(JJ)J"⟩
def RJ0 : String := "java/lang/String"
abbrev cJ0_length_8abf5 : ByteArray := prog_16_method_54_code
def yJ0_length_8abf5 : MethodName := ⟨RJ0, "length", "()I"⟩
abbrev cJ0_charAt_5068e : ByteArray := prog_16_method_56_code
def yJ0_charAt_5068e : MethodName := ⟨RJ0, "charAt", "(I)C"⟩
abbrev cJ0_indexOf_0f7a4 : ByteArray := prog_16_method_79_code
def yJ0_indexOf_0f7a4 : MethodName := ⟨RJ0, "indexOf", "(I)I"⟩
abbrev cJ0_indexOf_7cf53 : ByteArray := prog_16_method_80_code
def yJ0_indexOf_7cf53 : MethodName := ⟨RJ0, "indexOf", "(II)I"⟩
abbrev cJ0_coder_7d493 : ByteArray := prog_16_method_152_code
def yJ0_coder_7d493 : MethodName := ⟨RJ0, "coder", "()B"⟩
abbrev cJ0_isLatin1_aae02 : ByteArray := prog_16_method_154_code
def yJ0_isLatin1_aae02 : MethodName := ⟨RJ0, "isLatin1", "()Z"⟩
abbrev cJ0_checkIndex_df160 : ByteArray := prog_16_method_155_code
def yJ0_checkIndex_df160 : MethodName := ⟨RJ0, "checkIndex", "(II)V"⟩
abbrev cJ0_checkBoundsBeginEnd_23922 : ByteArray := prog_16_method_158_code
def yJ0_checkBoundsBeginEnd_23922 : MethodName := ⟨RJ0, "checkBoundsBeginEnd", "(III)V"⟩
def RJ1 : String := "java/lang/StringLatin1"
abbrev cJ1_charAt_3b067 : ByteArray := prog_17_method_2_code
def yJ1_charAt_3b067 : MethodName := ⟨RJ1, "charAt", "([BI)C"⟩
abbrev cJ1_canEncode_9a6ad : ByteArray := prog_17_method_4_code
def yJ1_canEncode_9a6ad : MethodName := ⟨RJ1, "canEncode", "(I)Z"⟩
abbrev cJ1_indexOf_4cfef : ByteArray := prog_17_method_22_code
def yJ1_indexOf_4cfef : MethodName := ⟨RJ1, "indexOf", "([BIII)I"⟩
abbrev cJ1_indexOfChar_4cfef : ByteArray := prog_17_method_23_code
def yJ1_indexOfChar_4cfef : MethodName := ⟨RJ1, "indexOfChar", "([BIII)I"⟩
def RJ2 : String := "java/lang/StringUTF16"
abbrev cJ2_getChar_3b067 : ByteArray := prog_18_method_5_code
def yJ2_getChar_3b067 : MethodName := ⟨RJ2, "getChar", "([BI)C"⟩
abbrev cJ2_length_9d52b : ByteArray := prog_18_method_6_code
def yJ2_length_9d52b : MethodName := ⟨RJ2, "length", "([B)I"⟩
abbrev cJ2_indexOf_4cfef : ByteArray := prog_18_method_40_code
def yJ2_indexOf_4cfef : MethodName := ⟨RJ2, "indexOf", "([BIII)I"⟩
abbrev cJ2_indexOfChar_4cfef : ByteArray := prog_18_method_47_code
def yJ2_indexOfChar_4cfef : MethodName := ⟨RJ2, "indexOfChar", "([BIII)I"⟩
abbrev cJ2_indexOfCharUnsafe_4cfef : ByteArray := prog_18_method_48_code
def yJ2_indexOfCharUnsafe_4cfef : MethodName := ⟨RJ2, "indexOfCharUnsafe", "([BIII)I"⟩
abbrev cJ2_indexOfSupplementary_4cfef : ByteArray := prog_18_method_49_code
def yJ2_indexOfSupplementary_4cfef : MethodName := ⟨RJ2, "indexOfSupplementary", "([BIII)I"⟩
abbrev cJ2_charAt_3b067 : ByteArray := prog_18_method_83_code
def yJ2_charAt_3b067 : MethodName := ⟨RJ2, "charAt", "([BI)C"⟩
abbrev cJ2_checkIndex_2214a : ByteArray := prog_18_method_91_code
def yJ2_checkIndex_2214a : MethodName := ⟨RJ2, "checkIndex", "(I[B)V"⟩
abbrev cJ2_checkBoundsBeginEnd_d044e : ByteArray := prog_18_method_93_code
def yJ2_checkBoundsBeginEnd_d044e : MethodName := ⟨RJ2, "checkBoundsBeginEnd", "(II[B)V"⟩
def RJ10 : String := "java/lang/System"
def RJ7 : String := "java/util/Arrays"
abbrev cJ7_fill_53178 : ByteArray := prog_20_method_103_code
def yJ7_fill_53178 : MethodName := ⟨RJ7, "fill", "([II)V"⟩
def RJ3 : String := "jdk/internal/util/Preconditions"
abbrev cJ3_checkIndex_8e157 : ByteArray := prog_21_method_11_code
def yJ3_checkIndex_8e157 : MethodName := ⟨RJ3, "checkIndex", "(IILjava/util/function/BiFunction;)I"⟩
abbrev cJ3_checkFromToIndex_8c36e : ByteArray := prog_21_method_12_code
def yJ3_checkFromToIndex_8c36e : MethodName := ⟨RJ3, "checkFromToIndex", "(IIILjava/util/function/BiFunction;)I"⟩
def RL : String := "ForgottenFeastLaw"
abbrev vwCl : List vw_C := [(RX0, TX0, 14), (RX1, TX1, 11), (RX2, TX2, 3), (RX3, TX3, 2), (RX4, TX4, 13), (RX5, TX5, 2), (RX6, TX6, 2), (RX7, TX7, 3), (RX8, TX8, 17), (RX9, TX9, 17), (RX10, TX10, 108)]
def am_good (w : Cond) : Bool := match w with
  | .fieldLinkNest _ _ _ _ _ _ => true
  | .methodLinkNest _ _ _ _ => true
  | w => goodWord w
def am_tb : List Cond := lw_tbl.filter am_good
theorem am_in {w : Cond} (i : Nat) (h : tables_1[i]? = some w) (hg : am_good w = true) : w ∈ am_tb := List.mem_filter.mpr ⟨List.mem_append_right _ (List.mem_of_getElem? h), hg⟩
theorem am_inS {y : MethodName} {n i : Nat} (h : lw_privs[i]? = some (y, n)) : Cond.selects y.cls y y ∈ am_tb := List.mem_filter.mpr ⟨List.mem_append_left _ (List.mem_map.mpr ⟨(y, n), List.mem_of_getElem? h, rfl⟩), rfl⟩
theorem am_lay_good {C : String} {T : u_T} {N : Nat} : ∀ w ∈ u_ws C T N, am_good w = true := by
  intro w hw
  obtain ⟨k, -, rfl⟩ := List.mem_map.mp hw
  unfold u_lay
  split <;> rfl
set_option maxRecDepth 20000 in
theorem am_inX0 : ∀ w ∈ u_ws RX0 TX0 14, w ∈ am_tb := by
  have hp : u_ws RX0 TX0 14 = ([332, 334, 336, 338, 340, 342, 344, 346, 348, 350, 352, 354, 356, 358] : List Nat).filterMap (fun i => tables_1[i]?) := by decide +kernel
  intro w hw
  have hg := am_lay_good w hw
  rw [hp] at hw
  obtain ⟨i, -, hi⟩ := List.mem_filterMap.mp hw
  exact am_in i hi hg
set_option maxRecDepth 20000 in
theorem am_inX1 : ∀ w ∈ u_ws RX1 TX1 11, w ∈ am_tb := by
  have hp : u_ws RX1 TX1 11 = ([264, 266, 268, 270, 272, 274, 276, 278, 280, 282, 284] : List Nat).filterMap (fun i => tables_1[i]?) := by decide +kernel
  intro w hw
  have hg := am_lay_good w hw
  rw [hp] at hw
  obtain ⟨i, -, hi⟩ := List.mem_filterMap.mp hw
  exact am_in i hi hg
set_option maxRecDepth 20000 in
theorem am_inX2 : ∀ w ∈ u_ws RX2 TX2 3, w ∈ am_tb := by
  have hp : u_ws RX2 TX2 3 = ([299, 301, 303] : List Nat).filterMap (fun i => tables_1[i]?) := by decide +kernel
  intro w hw
  have hg := am_lay_good w hw
  rw [hp] at hw
  obtain ⟨i, -, hi⟩ := List.mem_filterMap.mp hw
  exact am_in i hi hg
set_option maxRecDepth 20000 in
theorem am_inX3 : ∀ w ∈ u_ws RX3 TX3 2, w ∈ am_tb := by
  have hp : u_ws RX3 TX3 2 = ([371, 373] : List Nat).filterMap (fun i => tables_1[i]?) := by decide +kernel
  intro w hw
  have hg := am_lay_good w hw
  rw [hp] at hw
  obtain ⟨i, -, hi⟩ := List.mem_filterMap.mp hw
  exact am_in i hi hg
set_option maxRecDepth 20000 in
theorem am_inX4 : ∀ w ∈ u_ws RX4 TX4 13, w ∈ am_tb := by
  have hp : u_ws RX4 TX4 13 = ([196, 198, 200, 202, 204, 206, 208, 210, 212, 214, 216, 218, 220] : List Nat).filterMap (fun i => tables_1[i]?) := by decide +kernel
  intro w hw
  have hg := am_lay_good w hw
  rw [hp] at hw
  obtain ⟨i, -, hi⟩ := List.mem_filterMap.mp hw
  exact am_in i hi hg
set_option maxRecDepth 20000 in
theorem am_inX5 : ∀ w ∈ u_ws RX5 TX5 2, w ∈ am_tb := by
  have hp : u_ws RX5 TX5 2 = ([69, 71] : List Nat).filterMap (fun i => tables_1[i]?) := by decide +kernel
  intro w hw
  have hg := am_lay_good w hw
  rw [hp] at hw
  obtain ⟨i, -, hi⟩ := List.mem_filterMap.mp hw
  exact am_in i hi hg
set_option maxRecDepth 20000 in
theorem am_inX6 : ∀ w ∈ u_ws RX6 TX6 2, w ∈ am_tb := by
  have hp : u_ws RX6 TX6 2 = ([43, 45] : List Nat).filterMap (fun i => tables_1[i]?) := by decide +kernel
  intro w hw
  have hg := am_lay_good w hw
  rw [hp] at hw
  obtain ⟨i, -, hi⟩ := List.mem_filterMap.mp hw
  exact am_in i hi hg
set_option maxRecDepth 20000 in
theorem am_inX7 : ∀ w ∈ u_ws RX7 TX7 3, w ∈ am_tb := by
  have hp : u_ws RX7 TX7 3 = ([171, 173, 175] : List Nat).filterMap (fun i => tables_1[i]?) := by decide +kernel
  intro w hw
  have hg := am_lay_good w hw
  rw [hp] at hw
  obtain ⟨i, -, hi⟩ := List.mem_filterMap.mp hw
  exact am_in i hi hg
set_option maxRecDepth 20000 in
theorem am_inX8 : ∀ w ∈ u_ws RX8 TX8 17, w ∈ am_tb := by
  have hp : u_ws RX8 TX8 17 = ([117, 119, 121, 123, 125, 127, 129, 131, 133, 135, 137, 139, 141, 143, 145, 147, 149] : List Nat).filterMap (fun i => tables_1[i]?) := by decide +kernel
  intro w hw
  have hg := am_lay_good w hw
  rw [hp] at hw
  obtain ⟨i, -, hi⟩ := List.mem_filterMap.mp hw
  exact am_in i hi hg
set_option maxRecDepth 20000 in
theorem am_inX9 : ∀ w ∈ u_ws RX9 TX9 17, w ∈ am_tb := by
  have hp : u_ws RX9 TX9 17 = ([393, 395, 397, 399, 401, 403, 405, 407, 409, 411, 413, 415, 417, 419, 421, 423, 425] : List Nat).filterMap (fun i => tables_1[i]?) := by decide +kernel
  intro w hw
  have hg := am_lay_good w hw
  rw [hp] at hw
  obtain ⟨i, -, hi⟩ := List.mem_filterMap.mp hw
  exact am_in i hi hg
set_option maxRecDepth 20000 in
theorem am_inX10 : ∀ w ∈ u_ws RX10 TX10 108, w ∈ am_tb := by
  have hp : u_ws RX10 TX10 108 = ([1210, 1212, 1214, 1216, 1218, 1220, 1222, 1224, 1226, 1228, 1230, 1232, 1234, 1236, 1238, 1240, 1242, 1244, 1246, 1248, 1250, 1252, 1254, 1256, 1258, 1260, 1262, 1264, 1266, 1268, 1270, 1272, 1274, 1276, 1278, 1280, 1282, 1284, 1286, 1288, 1290, 1292, 1294, 1296, 1298, 1300, 1302, 1304, 1306, 1308, 1310, 1312, 1314, 1316, 1318, 1320, 1322, 1324, 1326, 1328, 1330, 1332, 1334, 1336, 1338, 1340, 1342, 1344, 1346, 1348, 1350, 1352, 1354, 1356, 1358, 1360, 1362, 1364, 1366, 1368, 1370, 1372, 1374, 1376, 1378, 1380, 1382, 1384, 1386, 1388, 1390, 1392, 1394, 1396, 1398, 1400, 1402, 1404, 1406, 1408, 1410, 1412, 1414, 1416, 1418, 1420, 1422, 1424] : List Nat).filterMap (fun i => tables_1[i]?) := by decide +kernel
  intro w hw
  have hg := am_lay_good w hw
  rw [hp] at hw
  obtain ⟨i, -, hi⟩ := List.mem_filterMap.mp hw
  exact am_in i hi hg
