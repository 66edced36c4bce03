section
-- ===== PART A: goes FIRST, ahead of the names: the tables' words, and 'selects' of the private methods out of them =====
/-- a private method of a class that the tables say can be made, by its rows of tables_1 -/
def lw_okq (q : MethodName × Nat) : Prop := (q.1.cls ≠ "java/lang/invoke/MethodHandle" ∧ q.1.cls ≠ "java/lang/invoke/VarHandle") ∧ Cond.instantiable q.1.cls q.2 ∈ tables_1 ∧ Cond.privateMethod q.1 ∈ tables_1 ∧ Cond.instanceMethod q.1 ∈ tables_1
theorem lw_p0 : lw_okq (⟨"Selfkindle", "putLeaf", "(IIJ)I"⟩, 11) := ⟨⟨by decide +kernel, by decide +kernel⟩, List.mem_of_getElem? (i := 34) (by decide +kernel), List.mem_of_getElem? (i := 317) (by decide +kernel), List.mem_of_getElem? (i := 318) (by decide +kernel)⟩
theorem lw_p1 : lw_okq (⟨"java/lang/Throwable", "fillInStackTrace", "(I)Ljava/lang/Throwable;"⟩, 6) := ⟨⟨by decide +kernel, by decide +kernel⟩, List.mem_of_getElem? (i := 361) (by decide +kernel), List.mem_of_getElem? (i := 359) (by decide +kernel), List.mem_of_getElem? (i := 360) (by decide +kernel)⟩
theorem lw_p2 : lw_okq (⟨"Selfkindle", "join", "(III)I"⟩, 11) := ⟨⟨by decide +kernel, by decide +kernel⟩, List.mem_of_getElem? (i := 34) (by decide +kernel), List.mem_of_getElem? (i := 433) (by decide +kernel), List.mem_of_getElem? (i := 434) (by decide +kernel)⟩
theorem lw_p3 : lw_okq (⟨"Selfkindle$Term", "binder", "(II)I"⟩, 8) := ⟨⟨by decide +kernel, by decide +kernel⟩, List.mem_of_getElem? (i := 42) (by decide +kernel), List.mem_of_getElem? (i := 555) (by decide +kernel), List.mem_of_getElem? (i := 556) (by decide +kernel)⟩
theorem lw_p4 : lw_okq (⟨"Selfkindle$Term", "bindsAt", "(II)I"⟩, 8) := ⟨⟨by decide +kernel, by decide +kernel⟩, List.mem_of_getElem? (i := 42) (by decide +kernel), List.mem_of_getElem? (i := 563) (by decide +kernel), List.mem_of_getElem? (i := 564) (by decide +kernel)⟩
theorem lw_p5 : lw_okq (⟨"Selfkindle$Term", "distance", "(II)I"⟩, 8) := ⟨⟨by decide +kernel, by decide +kernel⟩, List.mem_of_getElem? (i := 42) (by decide +kernel), List.mem_of_getElem? (i := 567) (by decide +kernel), List.mem_of_getElem? (i := 568) (by decide +kernel)⟩
theorem lw_p6 : lw_okq (⟨"Selfkindle$Types", "add", "(III)I"⟩, 15) := ⟨⟨by decide +kernel, by decide +kernel⟩, List.mem_of_getElem? (i := 95) (by decide +kernel), List.mem_of_getElem? (i := 579) (by decide +kernel), List.mem_of_getElem? (i := 580) (by decide +kernel)⟩
theorem lw_p7 : lw_okq (⟨"Selfkindle$Types", "prepare", "(LSelfkindle$Term;)V"⟩, 15) := ⟨⟨by decide +kernel, by decide +kernel⟩, List.mem_of_getElem? (i := 95) (by decide +kernel), List.mem_of_getElem? (i := 583) (by decide +kernel), List.mem_of_getElem? (i := 584) (by decide +kernel)⟩
theorem lw_p8 : lw_okq (⟨"Selfkindle$Types", "typeOfBound", "(II)I"⟩, 15) := ⟨⟨by decide +kernel, by decide +kernel⟩, List.mem_of_getElem? (i := 95) (by decide +kernel), List.mem_of_getElem? (i := 593) (by decide +kernel), List.mem_of_getElem? (i := 594) (by decide +kernel)⟩
theorem lw_p9 : lw_okq (⟨"Selfkindle$Types", "addVariable", "(I)I"⟩, 15) := ⟨⟨by decide +kernel, by decide +kernel⟩, List.mem_of_getElem? (i := 95) (by decide +kernel), List.mem_of_getElem? (i := 597) (by decide +kernel), List.mem_of_getElem? (i := 598) (by decide +kernel)⟩
theorem lw_p10 : lw_okq (⟨"Selfkindle$Types", "typeFrom", "(LSelfkindle$Term;I)I"⟩, 15) := ⟨⟨by decide +kernel, by decide +kernel⟩, List.mem_of_getElem? (i := 95) (by decide +kernel), List.mem_of_getElem? (i := 601) (by decide +kernel), List.mem_of_getElem? (i := 602) (by decide +kernel)⟩
theorem lw_p11 : lw_okq (⟨"Selfkindle$Types", "typeAt", "(I)I"⟩, 15) := ⟨⟨by decide +kernel, by decide +kernel⟩, List.mem_of_getElem? (i := 95) (by decide +kernel), List.mem_of_getElem? (i := 605) (by decide +kernel), List.mem_of_getElem? (i := 606) (by decide +kernel)⟩
theorem lw_p12 : lw_okq (⟨"Selfkindle$Types", "typeOfNamed", "(LSelfkindle$Term;I)I"⟩, 15) := ⟨⟨by decide +kernel, by decide +kernel⟩, List.mem_of_getElem? (i := 95) (by decide +kernel), List.mem_of_getElem? (i := 609) (by decide +kernel), List.mem_of_getElem? (i := 610) (by decide +kernel)⟩
theorem lw_p13 : lw_okq (⟨"Selfkindle$Types", "instance", "(III)I"⟩, 15) := ⟨⟨by decide +kernel, by decide +kernel⟩, List.mem_of_getElem? (i := 95) (by decide +kernel), List.mem_of_getElem? (i := 617) (by decide +kernel), List.mem_of_getElem? (i := 618) (by decide +kernel)⟩
theorem lw_p14 : lw_okq (⟨"Selfkindle$Types", "flatten", "(I)I"⟩, 15) := ⟨⟨by decide +kernel, by decide +kernel⟩, List.mem_of_getElem? (i := 95) (by decide +kernel), List.mem_of_getElem? (i := 621) (by decide +kernel), List.mem_of_getElem? (i := 622) (by decide +kernel)⟩
theorem lw_p15 : lw_okq (⟨"Selfkindle$Types", "resolve", "(I)I"⟩, 15) := ⟨⟨by decide +kernel, by decide +kernel⟩, List.mem_of_getElem? (i := 95) (by decide +kernel), List.mem_of_getElem? (i := 625) (by decide +kernel), List.mem_of_getElem? (i := 626) (by decide +kernel)⟩
def lw_privs_1 : List (MethodName × Nat) := [(⟨"Selfkindle", "putLeaf", "(IIJ)I"⟩, 11), (⟨"java/lang/Throwable", "fillInStackTrace", "(I)Ljava/lang/Throwable;"⟩, 6), (⟨"Selfkindle", "join", "(III)I"⟩, 11), (⟨"Selfkindle$Term", "binder", "(II)I"⟩, 8), (⟨"Selfkindle$Term", "bindsAt", "(II)I"⟩, 8), (⟨"Selfkindle$Term", "distance", "(II)I"⟩, 8), (⟨"Selfkindle$Types", "add", "(III)I"⟩, 15), (⟨"Selfkindle$Types", "prepare", "(LSelfkindle$Term;)V"⟩, 15), (⟨"Selfkindle$Types", "typeOfBound", "(II)I"⟩, 15), (⟨"Selfkindle$Types", "addVariable", "(I)I"⟩, 15), (⟨"Selfkindle$Types", "typeFrom", "(LSelfkindle$Term;I)I"⟩, 15), (⟨"Selfkindle$Types", "typeAt", "(I)I"⟩, 15), (⟨"Selfkindle$Types", "typeOfNamed", "(LSelfkindle$Term;I)I"⟩, 15), (⟨"Selfkindle$Types", "instance", "(III)I"⟩, 15), (⟨"Selfkindle$Types", "flatten", "(I)I"⟩, 15), (⟨"Selfkindle$Types", "resolve", "(I)I"⟩, 15)]
theorem lw_r1 : ∀ q ∈ lw_privs_1, lw_okq q := List.forall_mem_cons.mpr ⟨lw_p0, List.forall_mem_cons.mpr ⟨lw_p1, List.forall_mem_cons.mpr ⟨lw_p2, List.forall_mem_cons.mpr ⟨lw_p3, List.forall_mem_cons.mpr ⟨lw_p4, List.forall_mem_cons.mpr ⟨lw_p5, List.forall_mem_cons.mpr ⟨lw_p6, List.forall_mem_cons.mpr ⟨lw_p7, List.forall_mem_cons.mpr ⟨lw_p8, List.forall_mem_cons.mpr ⟨lw_p9, List.forall_mem_cons.mpr ⟨lw_p10, List.forall_mem_cons.mpr ⟨lw_p11, List.forall_mem_cons.mpr ⟨lw_p12, List.forall_mem_cons.mpr ⟨lw_p13, List.forall_mem_cons.mpr ⟨lw_p14, List.forall_mem_cons.mpr ⟨lw_p15, fun _ h => absurd h List.not_mem_nil⟩⟩⟩⟩⟩⟩⟩⟩⟩⟩⟩⟩⟩⟩⟩⟩
theorem lw_p16 : lw_okq (⟨"Selfkindle$Types", "copyOf", "(III)I"⟩, 15) := ⟨⟨by decide +kernel, by decide +kernel⟩, List.mem_of_getElem? (i := 95) (by decide +kernel), List.mem_of_getElem? (i := 629) (by decide +kernel), List.mem_of_getElem? (i := 630) (by decide +kernel)⟩
theorem lw_p17 : lw_okq (⟨"Selfkindle$Types", "unify", "(II)V"⟩, 15) := ⟨⟨by decide +kernel, by decide +kernel⟩, List.mem_of_getElem? (i := 95) (by decide +kernel), List.mem_of_getElem? (i := 635) (by decide +kernel), List.mem_of_getElem? (i := 636) (by decide +kernel)⟩
theorem lw_p18 : lw_okq (⟨"Selfkindle$Types", "stand", "(II)V"⟩, 15) := ⟨⟨by decide +kernel, by decide +kernel⟩, List.mem_of_getElem? (i := 95) (by decide +kernel), List.mem_of_getElem? (i := 639) (by decide +kernel), List.mem_of_getElem? (i := 640) (by decide +kernel)⟩
theorem lw_p19 : lw_okq (⟨"Selfkindle$Types", "closeBodyOfRec", "(LSelfkindle$Term;I)V"⟩, 15) := ⟨⟨by decide +kernel, by decide +kernel⟩, List.mem_of_getElem? (i := 95) (by decide +kernel), List.mem_of_getElem? (i := 643) (by decide +kernel), List.mem_of_getElem? (i := 644) (by decide +kernel)⟩
theorem lw_p20 : lw_okq (⟨"Selfkindle$Types", "writeAnswer", "(I)V"⟩, 15) := ⟨⟨by decide +kernel, by decide +kernel⟩, List.mem_of_getElem? (i := 95) (by decide +kernel), List.mem_of_getElem? (i := 647) (by decide +kernel), List.mem_of_getElem? (i := 648) (by decide +kernel)⟩
theorem lw_p21 : lw_okq (⟨"Selfkindle$Types", "firstInRow", "(I)I"⟩, 15) := ⟨⟨by decide +kernel, by decide +kernel⟩, List.mem_of_getElem? (i := 95) (by decide +kernel), List.mem_of_getElem? (i := 651) (by decide +kernel), List.mem_of_getElem? (i := 652) (by decide +kernel)⟩
theorem lw_p22 : lw_okq (⟨"Selfkindle", "begin", "()V"⟩, 11) := ⟨⟨by decide +kernel, by decide +kernel⟩, List.mem_of_getElem? (i := 34) (by decide +kernel), List.mem_of_getElem? (i := 655) (by decide +kernel), List.mem_of_getElem? (i := 656) (by decide +kernel)⟩
theorem lw_p23 : lw_okq (⟨"Selfkindle$Code", "lengthAt", "(I)I"⟩, 7) := ⟨⟨by decide +kernel, by decide +kernel⟩, List.mem_of_getElem? (i := 147) (by decide +kernel), List.mem_of_getElem? (i := 669) (by decide +kernel), List.mem_of_getElem? (i := 670) (by decide +kernel)⟩
theorem lw_p24 : lw_okq (⟨"Selfkindle$Code", "write", "(LSelfkindle$Term;II)V"⟩, 7) := ⟨⟨by decide +kernel, by decide +kernel⟩, List.mem_of_getElem? (i := 147) (by decide +kernel), List.mem_of_getElem? (i := 673) (by decide +kernel), List.mem_of_getElem? (i := 674) (by decide +kernel)⟩
theorem lw_p25 : lw_okq (⟨"Selfkindle$Code", "put", "(IIJ)V"⟩, 7) := ⟨⟨by decide +kernel, by decide +kernel⟩, List.mem_of_getElem? (i := 147) (by decide +kernel), List.mem_of_getElem? (i := 681) (by decide +kernel), List.mem_of_getElem? (i := 682) (by decide +kernel)⟩
theorem lw_p26 : lw_okq (⟨"Selfkindle$Code", "writeBody", "(LSelfkindle$Term;III)V"⟩, 7) := ⟨⟨by decide +kernel, by decide +kernel⟩, List.mem_of_getElem? (i := 147) (by decide +kernel), List.mem_of_getElem? (i := 693) (by decide +kernel), List.mem_of_getElem? (i := 694) (by decide +kernel)⟩
theorem lw_p27 : lw_okq (⟨"Selfkindle$Code", "setPlace", "(II)V"⟩, 7) := ⟨⟨by decide +kernel, by decide +kernel⟩, List.mem_of_getElem? (i := 147) (by decide +kernel), List.mem_of_getElem? (i := 697) (by decide +kernel), List.mem_of_getElem? (i := 698) (by decide +kernel)⟩
theorem lw_p28 : lw_okq (⟨"Selfkindle$Code", "writeBoth", "(LSelfkindle$Term;III)V"⟩, 7) := ⟨⟨by decide +kernel, by decide +kernel⟩, List.mem_of_getElem? (i := 147) (by decide +kernel), List.mem_of_getElem? (i := 701) (by decide +kernel), List.mem_of_getElem? (i := 702) (by decide +kernel)⟩
theorem lw_p29 : lw_okq (⟨"Selfkindle$Code", "writeIf", "(LSelfkindle$Term;II)V"⟩, 7) := ⟨⟨by decide +kernel, by decide +kernel⟩, List.mem_of_getElem? (i := 147) (by decide +kernel), List.mem_of_getElem? (i := 706) (by decide +kernel), List.mem_of_getElem? (i := 707) (by decide +kernel)⟩
theorem lw_p30 : lw_okq (⟨"Selfkindle$Code", "writeBound", "(LSelfkindle$Term;II)V"⟩, 7) := ⟨⟨by decide +kernel, by decide +kernel⟩, List.mem_of_getElem? (i := 147) (by decide +kernel), List.mem_of_getElem? (i := 710) (by decide +kernel), List.mem_of_getElem? (i := 711) (by decide +kernel)⟩
theorem lw_p31 : lw_okq (⟨"Selfkindle$Code", "writeBehind", "(LSelfkindle$Term;III)V"⟩, 7) := ⟨⟨by decide +kernel, by decide +kernel⟩, List.mem_of_getElem? (i := 147) (by decide +kernel), List.mem_of_getElem? (i := 714) (by decide +kernel), List.mem_of_getElem? (i := 715) (by decide +kernel)⟩
def lw_privs_2 : List (MethodName × Nat) := [(⟨"Selfkindle$Types", "copyOf", "(III)I"⟩, 15), (⟨"Selfkindle$Types", "unify", "(II)V"⟩, 15), (⟨"Selfkindle$Types", "stand", "(II)V"⟩, 15), (⟨"Selfkindle$Types", "closeBodyOfRec", "(LSelfkindle$Term;I)V"⟩, 15), (⟨"Selfkindle$Types", "writeAnswer", "(I)V"⟩, 15), (⟨"Selfkindle$Types", "firstInRow", "(I)I"⟩, 15), (⟨"Selfkindle", "begin", "()V"⟩, 11), (⟨"Selfkindle$Code", "lengthAt", "(I)I"⟩, 7), (⟨"Selfkindle$Code", "write", "(LSelfkindle$Term;II)V"⟩, 7), (⟨"Selfkindle$Code", "put", "(IIJ)V"⟩, 7), (⟨"Selfkindle$Code", "writeBody", "(LSelfkindle$Term;III)V"⟩, 7), (⟨"Selfkindle$Code", "setPlace", "(II)V"⟩, 7), (⟨"Selfkindle$Code", "writeBoth", "(LSelfkindle$Term;III)V"⟩, 7), (⟨"Selfkindle$Code", "writeIf", "(LSelfkindle$Term;II)V"⟩, 7), (⟨"Selfkindle$Code", "writeBound", "(LSelfkindle$Term;II)V"⟩, 7), (⟨"Selfkindle$Code", "writeBehind", "(LSelfkindle$Term;III)V"⟩, 7)]
theorem lw_r2 : ∀ q ∈ lw_privs_2, lw_okq q := List.forall_mem_cons.mpr ⟨lw_p16, List.forall_mem_cons.mpr ⟨lw_p17, List.forall_mem_cons.mpr ⟨lw_p18, List.forall_mem_cons.mpr ⟨lw_p19, List.forall_mem_cons.mpr ⟨lw_p20, List.forall_mem_cons.mpr ⟨lw_p21, List.forall_mem_cons.mpr ⟨lw_p22, List.forall_mem_cons.mpr ⟨lw_p23, List.forall_mem_cons.mpr ⟨lw_p24, List.forall_mem_cons.mpr ⟨lw_p25, List.forall_mem_cons.mpr ⟨lw_p26, List.forall_mem_cons.mpr ⟨lw_p27, List.forall_mem_cons.mpr ⟨lw_p28, List.forall_mem_cons.mpr ⟨lw_p29, List.forall_mem_cons.mpr ⟨lw_p30, List.forall_mem_cons.mpr ⟨lw_p31, fun _ h => absurd h List.not_mem_nil⟩⟩⟩⟩⟩⟩⟩⟩⟩⟩⟩⟩⟩⟩⟩⟩
theorem lw_p32 : lw_okq (⟨"Selfkindle$Code", "writeHandler", "(LSelfkindle$Term;II)V"⟩, 7) := ⟨⟨by decide +kernel, by decide +kernel⟩, List.mem_of_getElem? (i := 147) (by decide +kernel), List.mem_of_getElem? (i := 718) (by decide +kernel), List.mem_of_getElem? (i := 719) (by decide +kernel)⟩
theorem lw_p33 : lw_okq (⟨"Selfkindle", "checkProgram", "()V"⟩, 11) := ⟨⟨by decide +kernel, by decide +kernel⟩, List.mem_of_getElem? (i := 34) (by decide +kernel), List.mem_of_getElem? (i := 748) (by decide +kernel), List.mem_of_getElem? (i := 749) (by decide +kernel)⟩
theorem lw_p34 : lw_okq (⟨"Selfkindle$Rewriter", "folds", "(I)Z"⟩, 2) := ⟨⟨by decide +kernel, by decide +kernel⟩, List.mem_of_getElem? (i := 80) (by decide +kernel), List.mem_of_getElem? (i := 769) (by decide +kernel), List.mem_of_getElem? (i := 770) (by decide +kernel)⟩
theorem lw_p35 : lw_okq (⟨"Selfkindle$Rewriter", "foldsTwo", "(I)Z"⟩, 2) := ⟨⟨by decide +kernel, by decide +kernel⟩, List.mem_of_getElem? (i := 80) (by decide +kernel), List.mem_of_getElem? (i := 774) (by decide +kernel), List.mem_of_getElem? (i := 775) (by decide +kernel)⟩
theorem lw_p36 : lw_okq (⟨"Selfkindle$Rewriter", "foldsIf", "(I)Z"⟩, 2) := ⟨⟨by decide +kernel, by decide +kernel⟩, List.mem_of_getElem? (i := 80) (by decide +kernel), List.mem_of_getElem? (i := 786) (by decide +kernel), List.mem_of_getElem? (i := 787) (by decide +kernel)⟩
theorem lw_p37 : lw_okq (⟨"Selfkindle$Term", "copyPart", "(II)V"⟩, 8) := ⟨⟨by decide +kernel, by decide +kernel⟩, List.mem_of_getElem? (i := 42) (by decide +kernel), List.mem_of_getElem? (i := 794) (by decide +kernel), List.mem_of_getElem? (i := 795) (by decide +kernel)⟩
theorem lw_p38 : lw_okq (⟨"Selfkindle$Rewriter", "foldsHalf", "(I)Z"⟩, 2) := ⟨⟨by decide +kernel, by decide +kernel⟩, List.mem_of_getElem? (i := 80) (by decide +kernel), List.mem_of_getElem? (i := 798) (by decide +kernel), List.mem_of_getElem? (i := 799) (by decide +kernel)⟩
theorem lw_p39 : lw_okq (⟨"Selfkindle$Rewriter", "inlines", "(I)Z"⟩, 2) := ⟨⟨by decide +kernel, by decide +kernel⟩, List.mem_of_getElem? (i := 80) (by decide +kernel), List.mem_of_getElem? (i := 806) (by decide +kernel), List.mem_of_getElem? (i := 807) (by decide +kernel)⟩
theorem lw_p40 : lw_okq (⟨"Selfkindle$Rewriter", "isNumber", "(I)Z"⟩, 2) := ⟨⟨by decide +kernel, by decide +kernel⟩, List.mem_of_getElem? (i := 80) (by decide +kernel), List.mem_of_getElem? (i := 811) (by decide +kernel), List.mem_of_getElem? (i := 812) (by decide +kernel)⟩
theorem lw_p41 : lw_okq (⟨"Selfkindle$Rewriter", "isNameToInline", "(III)Z"⟩, 2) := ⟨⟨by decide +kernel, by decide +kernel⟩, List.mem_of_getElem? (i := 80) (by decide +kernel), List.mem_of_getElem? (i := 815) (by decide +kernel), List.mem_of_getElem? (i := 816) (by decide +kernel)⟩
theorem lw_p42 : lw_okq (⟨"Selfkindle$Rewriter", "drops", "(I)Z"⟩, 2) := ⟨⟨by decide +kernel, by decide +kernel⟩, List.mem_of_getElem? (i := 80) (by decide +kernel), List.mem_of_getElem? (i := 827) (by decide +kernel), List.mem_of_getElem? (i := 828) (by decide +kernel)⟩
theorem lw_p43 : lw_okq (⟨"Selfkindle$Rewriter", "reduces", "(I)Z"⟩, 2) := ⟨⟨by decide +kernel, by decide +kernel⟩, List.mem_of_getElem? (i := 80) (by decide +kernel), List.mem_of_getElem? (i := 835) (by decide +kernel), List.mem_of_getElem? (i := 836) (by decide +kernel)⟩
theorem lw_p44 : lw_okq (⟨"Selfkindle", "checkOrder", "(I)V"⟩, 11) := ⟨⟨by decide +kernel, by decide +kernel⟩, List.mem_of_getElem? (i := 34) (by decide +kernel), List.mem_of_getElem? (i := 854) (by decide +kernel), List.mem_of_getElem? (i := 855) (by decide +kernel)⟩
theorem lw_p45 : lw_okq (⟨"Selfkindle$Machine", "step", "()V"⟩, 16) := ⟨⟨by decide +kernel, by decide +kernel⟩, List.mem_of_getElem? (i := 178) (by decide +kernel), List.mem_of_getElem? (i := 897) (by decide +kernel), List.mem_of_getElem? (i := 898) (by decide +kernel)⟩
theorem lw_p46 : lw_okq (⟨"Selfkindle$Machine", "perform", "(IJ)V"⟩, 16) := ⟨⟨by decide +kernel, by decide +kernel⟩, List.mem_of_getElem? (i := 178) (by decide +kernel), List.mem_of_getElem? (i := 907) (by decide +kernel), List.mem_of_getElem? (i := 908) (by decide +kernel)⟩
theorem lw_p47 : lw_okq (⟨"Selfkindle$Heap", "add", "(IJII)I"⟩, 10) := ⟨⟨by decide +kernel, by decide +kernel⟩, List.mem_of_getElem? (i := 184) (by decide +kernel), List.mem_of_getElem? (i := 915) (by decide +kernel), List.mem_of_getElem? (i := 916) (by decide +kernel)⟩
def lw_privs_3 : List (MethodName × Nat) := [(⟨"Selfkindle$Code", "writeHandler", "(LSelfkindle$Term;II)V"⟩, 7), (⟨"Selfkindle", "checkProgram", "()V"⟩, 11), (⟨"Selfkindle$Rewriter", "folds", "(I)Z"⟩, 2), (⟨"Selfkindle$Rewriter", "foldsTwo", "(I)Z"⟩, 2), (⟨"Selfkindle$Rewriter", "foldsIf", "(I)Z"⟩, 2), (⟨"Selfkindle$Term", "copyPart", "(II)V"⟩, 8), (⟨"Selfkindle$Rewriter", "foldsHalf", "(I)Z"⟩, 2), (⟨"Selfkindle$Rewriter", "inlines", "(I)Z"⟩, 2), (⟨"Selfkindle$Rewriter", "isNumber", "(I)Z"⟩, 2), (⟨"Selfkindle$Rewriter", "isNameToInline", "(III)Z"⟩, 2), (⟨"Selfkindle$Rewriter", "drops", "(I)Z"⟩, 2), (⟨"Selfkindle$Rewriter", "reduces", "(I)Z"⟩, 2), (⟨"Selfkindle", "checkOrder", "(I)V"⟩, 11), (⟨"Selfkindle$Machine", "step", "()V"⟩, 16), (⟨"Selfkindle$Machine", "perform", "(IJ)V"⟩, 16), (⟨"Selfkindle$Heap", "add", "(IJII)I"⟩, 10)]
theorem lw_r3 : ∀ q ∈ lw_privs_3, lw_okq q := List.forall_mem_cons.mpr ⟨lw_p32, List.forall_mem_cons.mpr ⟨lw_p33, List.forall_mem_cons.mpr ⟨lw_p34, List.forall_mem_cons.mpr ⟨lw_p35, List.forall_mem_cons.mpr ⟨lw_p36, List.forall_mem_cons.mpr ⟨lw_p37, List.forall_mem_cons.mpr ⟨lw_p38, List.forall_mem_cons.mpr ⟨lw_p39, List.forall_mem_cons.mpr ⟨lw_p40, List.forall_mem_cons.mpr ⟨lw_p41, List.forall_mem_cons.mpr ⟨lw_p42, List.forall_mem_cons.mpr ⟨lw_p43, List.forall_mem_cons.mpr ⟨lw_p44, List.forall_mem_cons.mpr ⟨lw_p45, List.forall_mem_cons.mpr ⟨lw_p46, List.forall_mem_cons.mpr ⟨lw_p47, fun _ h => absurd h List.not_mem_nil⟩⟩⟩⟩⟩⟩⟩⟩⟩⟩⟩⟩⟩⟩⟩⟩
theorem lw_p48 : lw_okq (⟨"Selfkindle$Machine", "push", "(I)V"⟩, 16) := ⟨⟨by decide +kernel, by decide +kernel⟩, List.mem_of_getElem? (i := 178) (by decide +kernel), List.mem_of_getElem? (i := 919) (by decide +kernel), List.mem_of_getElem? (i := 920) (by decide +kernel)⟩
theorem lw_p49 : lw_okq (⟨"Selfkindle$Heap", "hasValue", "(I)Z"⟩, 10) := ⟨⟨by decide +kernel, by decide +kernel⟩, List.mem_of_getElem? (i := 184) (by decide +kernel), List.mem_of_getElem? (i := 931) (by decide +kernel), List.mem_of_getElem? (i := 932) (by decide +kernel)⟩
theorem lw_p50 : lw_okq (⟨"Selfkindle$Machine", "pop", "()I"⟩, 16) := ⟨⟨by decide +kernel, by decide +kernel⟩, List.mem_of_getElem? (i := 178) (by decide +kernel), List.mem_of_getElem? (i := 935) (by decide +kernel), List.mem_of_getElem? (i := 936) (by decide +kernel)⟩
theorem lw_p51 : lw_okq (⟨"Selfkindle$Heap", "hasName", "(I)Z"⟩, 10) := ⟨⟨by decide +kernel, by decide +kernel⟩, List.mem_of_getElem? (i := 184) (by decide +kernel), List.mem_of_getElem? (i := 944) (by decide +kernel), List.mem_of_getElem? (i := 945) (by decide +kernel)⟩
theorem lw_p52 : lw_okq (⟨"Selfkindle$Machine", "attempt", "(I)V"⟩, 16) := ⟨⟨by decide +kernel, by decide +kernel⟩, List.mem_of_getElem? (i := 178) (by decide +kernel), List.mem_of_getElem? (i := 952) (by decide +kernel), List.mem_of_getElem? (i := 953) (by decide +kernel)⟩
theorem lw_p53 : lw_okq (⟨"Selfkindle$Machine", "enter", "(I)V"⟩, 16) := ⟨⟨by decide +kernel, by decide +kernel⟩, List.mem_of_getElem? (i := 178) (by decide +kernel), List.mem_of_getElem? (i := 956) (by decide +kernel), List.mem_of_getElem? (i := 957) (by decide +kernel)⟩
theorem lw_p54 : lw_okq (⟨"Selfkindle$Machine", "leave", "()V"⟩, 16) := ⟨⟨by decide +kernel, by decide +kernel⟩, List.mem_of_getElem? (i := 178) (by decide +kernel), List.mem_of_getElem? (i := 968) (by decide +kernel), List.mem_of_getElem? (i := 969) (by decide +kernel)⟩
theorem lw_p55 : lw_okq (⟨"Selfkindle$Machine", "recover", "()V"⟩, 16) := ⟨⟨by decide +kernel, by decide +kernel⟩, List.mem_of_getElem? (i := 178) (by decide +kernel), List.mem_of_getElem? (i := 972) (by decide +kernel), List.mem_of_getElem? (i := 973) (by decide +kernel)⟩
theorem lw_p56 : lw_okq (⟨"Selfkindle$Machine", "made", "(IJ)I"⟩, 16) := ⟨⟨by decide +kernel, by decide +kernel⟩, List.mem_of_getElem? (i := 178) (by decide +kernel), List.mem_of_getElem? (i := 976) (by decide +kernel), List.mem_of_getElem? (i := 977) (by decide +kernel)⟩
theorem lw_p57 : lw_okq (⟨"Selfkindle$Machine", "top", "()I"⟩, 16) := ⟨⟨by decide +kernel, by decide +kernel⟩, List.mem_of_getElem? (i := 178) (by decide +kernel), List.mem_of_getElem? (i := 993) (by decide +kernel), List.mem_of_getElem? (i := 994) (by decide +kernel)⟩
theorem lw_p58 : lw_okq (⟨"Selfkindle", "interpreted", "()LSelfkindle$Interpreter;"⟩, 11) := ⟨⟨by decide +kernel, by decide +kernel⟩, List.mem_of_getElem? (i := 34) (by decide +kernel), List.mem_of_getElem? (i := 1048) (by decide +kernel), List.mem_of_getElem? (i := 1049) (by decide +kernel)⟩
theorem lw_p59 : lw_okq (⟨"Selfkindle$Interpreter", "enter", "(II)V"⟩, 11) := ⟨⟨by decide +kernel, by decide +kernel⟩, List.mem_of_getElem? (i := 1052) (by decide +kernel), List.mem_of_getElem? (i := 1101) (by decide +kernel), List.mem_of_getElem? (i := 1102) (by decide +kernel)⟩
theorem lw_p60 : lw_okq (⟨"Selfkindle$Interpreter", "turn", "(I)V"⟩, 11) := ⟨⟨by decide +kernel, by decide +kernel⟩, List.mem_of_getElem? (i := 1052) (by decide +kernel), List.mem_of_getElem? (i := 1106) (by decide +kernel), List.mem_of_getElem? (i := 1107) (by decide +kernel)⟩
theorem lw_p61 : lw_okq (⟨"Selfkindle$Interpreter", "leave", "(I)V"⟩, 11) := ⟨⟨by decide +kernel, by decide +kernel⟩, List.mem_of_getElem? (i := 1052) (by decide +kernel), List.mem_of_getElem? (i := 1113) (by decide +kernel), List.mem_of_getElem? (i := 1114) (by decide +kernel)⟩
theorem lw_p62 : lw_okq (⟨"Selfkindle$Interpreter", "turnBoth", "(II)V"⟩, 11) := ⟨⟨by decide +kernel, by decide +kernel⟩, List.mem_of_getElem? (i := 1052) (by decide +kernel), List.mem_of_getElem? (i := 1121) (by decide +kernel), List.mem_of_getElem? (i := 1122) (by decide +kernel)⟩
theorem lw_p63 : lw_okq (⟨"Selfkindle$Interpreter", "turnCall", "(II)V"⟩, 11) := ⟨⟨by decide +kernel, by decide +kernel⟩, List.mem_of_getElem? (i := 1052) (by decide +kernel), List.mem_of_getElem? (i := 1125) (by decide +kernel), List.mem_of_getElem? (i := 1126) (by decide +kernel)⟩
def lw_privs_4 : List (MethodName × Nat) := [(⟨"Selfkindle$Machine", "push", "(I)V"⟩, 16), (⟨"Selfkindle$Heap", "hasValue", "(I)Z"⟩, 10), (⟨"Selfkindle$Machine", "pop", "()I"⟩, 16), (⟨"Selfkindle$Heap", "hasName", "(I)Z"⟩, 10), (⟨"Selfkindle$Machine", "attempt", "(I)V"⟩, 16), (⟨"Selfkindle$Machine", "enter", "(I)V"⟩, 16), (⟨"Selfkindle$Machine", "leave", "()V"⟩, 16), (⟨"Selfkindle$Machine", "recover", "()V"⟩, 16), (⟨"Selfkindle$Machine", "made", "(IJ)I"⟩, 16), (⟨"Selfkindle$Machine", "top", "()I"⟩, 16), (⟨"Selfkindle", "interpreted", "()LSelfkindle$Interpreter;"⟩, 11), (⟨"Selfkindle$Interpreter", "enter", "(II)V"⟩, 11), (⟨"Selfkindle$Interpreter", "turn", "(I)V"⟩, 11), (⟨"Selfkindle$Interpreter", "leave", "(I)V"⟩, 11), (⟨"Selfkindle$Interpreter", "turnBoth", "(II)V"⟩, 11), (⟨"Selfkindle$Interpreter", "turnCall", "(II)V"⟩, 11)]
theorem lw_r4 : ∀ q ∈ lw_privs_4, lw_okq q := List.forall_mem_cons.mpr ⟨lw_p48, List.forall_mem_cons.mpr ⟨lw_p49, List.forall_mem_cons.mpr ⟨lw_p50, List.forall_mem_cons.mpr ⟨lw_p51, List.forall_mem_cons.mpr ⟨lw_p52, List.forall_mem_cons.mpr ⟨lw_p53, List.forall_mem_cons.mpr ⟨lw_p54, List.forall_mem_cons.mpr ⟨lw_p55, List.forall_mem_cons.mpr ⟨lw_p56, List.forall_mem_cons.mpr ⟨lw_p57, List.forall_mem_cons.mpr ⟨lw_p58, List.forall_mem_cons.mpr ⟨lw_p59, List.forall_mem_cons.mpr ⟨lw_p60, List.forall_mem_cons.mpr ⟨lw_p61, List.forall_mem_cons.mpr ⟨lw_p62, List.forall_mem_cons.mpr ⟨lw_p63, fun _ h => absurd h List.not_mem_nil⟩⟩⟩⟩⟩⟩⟩⟩⟩⟩⟩⟩⟩⟩⟩⟩
theorem lw_p64 : lw_okq (⟨"Selfkindle$Interpreter", "turnRec", "(II)V"⟩, 11) := ⟨⟨by decide +kernel, by decide +kernel⟩, List.mem_of_getElem? (i := 1052) (by decide +kernel), List.mem_of_getElem? (i := 1136) (by decide +kernel), List.mem_of_getElem? (i := 1137) (by decide +kernel)⟩
theorem lw_p65 : lw_okq (⟨"Selfkindle$Interpreter", "turnFirst", "(II)V"⟩, 11) := ⟨⟨by decide +kernel, by decide +kernel⟩, List.mem_of_getElem? (i := 1052) (by decide +kernel), List.mem_of_getElem? (i := 1141) (by decide +kernel), List.mem_of_getElem? (i := 1142) (by decide +kernel)⟩
theorem lw_p66 : lw_okq (⟨"Selfkindle$Interpreter", "recover", "(I)V"⟩, 11) := ⟨⟨by decide +kernel, by decide +kernel⟩, List.mem_of_getElem? (i := 1052) (by decide +kernel), List.mem_of_getElem? (i := 1145) (by decide +kernel), List.mem_of_getElem? (i := 1146) (by decide +kernel)⟩
theorem lw_p67 : lw_okq (⟨"SelfkindleModel", "put", "(LSelfkindleModel$Term;)I"⟩, 24) := ⟨⟨by decide +kernel, by decide +kernel⟩, List.mem_of_getElem? (i := 1157) (by decide +kernel), List.mem_of_getElem? (i := 1302) (by decide +kernel), List.mem_of_getElem? (i := 1303) (by decide +kernel)⟩
theorem lw_p68 : lw_okq (⟨"java/util/ArrayList", "add", "(Ljava/lang/Object;[Ljava/lang/Object;I)V"⟩, 3) := ⟨⟨by decide +kernel, by decide +kernel⟩, List.mem_of_getElem? (i := 1163) (by decide +kernel), List.mem_of_getElem? (i := 1310) (by decide +kernel), List.mem_of_getElem? (i := 1311) (by decide +kernel)⟩
theorem lw_p69 : lw_okq (⟨"java/util/ArrayList", "grow", "()[Ljava/lang/Object;"⟩, 3) := ⟨⟨by decide +kernel, by decide +kernel⟩, List.mem_of_getElem? (i := 1163) (by decide +kernel), List.mem_of_getElem? (i := 1314) (by decide +kernel), List.mem_of_getElem? (i := 1315) (by decide +kernel)⟩
theorem lw_p70 : lw_okq (⟨"java/util/ArrayList", "grow", "(I)[Ljava/lang/Object;"⟩, 3) := ⟨⟨by decide +kernel, by decide +kernel⟩, List.mem_of_getElem? (i := 1163) (by decide +kernel), List.mem_of_getElem? (i := 1318) (by decide +kernel), List.mem_of_getElem? (i := 1319) (by decide +kernel)⟩
theorem lw_p71 : lw_okq (⟨"SelfkindleModel", "fits", "(I)Z"⟩, 24) := ⟨⟨by decide +kernel, by decide +kernel⟩, List.mem_of_getElem? (i := 1157) (by decide +kernel), List.mem_of_getElem? (i := 1385) (by decide +kernel), List.mem_of_getElem? (i := 1386) (by decide +kernel)⟩
theorem lw_p72 : lw_okq (⟨"SelfkindleModel", "top", "(I)LSelfkindleModel$Term;"⟩, 24) := ⟨⟨by decide +kernel, by decide +kernel⟩, List.mem_of_getElem? (i := 1157) (by decide +kernel), List.mem_of_getElem? (i := 1389) (by decide +kernel), List.mem_of_getElem? (i := 1390) (by decide +kernel)⟩
theorem lw_p73 : lw_okq (⟨"SelfkindleModel", "makes", "(IJII)I"⟩, 24) := ⟨⟨by decide +kernel, by decide +kernel⟩, List.mem_of_getElem? (i := 1157) (by decide +kernel), List.mem_of_getElem? (i := 1407) (by decide +kernel), List.mem_of_getElem? (i := 1408) (by decide +kernel)⟩
theorem lw_p74 : lw_okq (⟨"java/util/ArrayList", "fastRemove", "([Ljava/lang/Object;I)V"⟩, 3) := ⟨⟨by decide +kernel, by decide +kernel⟩, List.mem_of_getElem? (i := 1163) (by decide +kernel), List.mem_of_getElem? (i := 1415) (by decide +kernel), List.mem_of_getElem? (i := 1416) (by decide +kernel)⟩
theorem lw_p75 : lw_okq (⟨"SelfkindleModel", "hasType", "(LSelfkindleModel$Term;)Z"⟩, 24) := ⟨⟨by decide +kernel, by decide +kernel⟩, List.mem_of_getElem? (i := 1157) (by decide +kernel), List.mem_of_getElem? (i := 1507) (by decide +kernel), List.mem_of_getElem? (i := 1508) (by decide +kernel)⟩
theorem lw_p76 : lw_okq (⟨"SelfkindleModel", "infers", "(LSelfkindleModel$Term;LSelfkindleModel$Names;)LSelfkindleModel$Type;"⟩, 24) := ⟨⟨by decide +kernel, by decide +kernel⟩, List.mem_of_getElem? (i := 1157) (by decide +kernel), List.mem_of_getElem? (i := 1515) (by decide +kernel), List.mem_of_getElem? (i := 1516) (by decide +kernel)⟩
theorem lw_p77 : lw_okq (⟨"SelfkindleModel", "infersOne", "(LSelfkindleModel$Term;LSelfkindleModel$Names;)LSelfkindleModel$Type;"⟩, 24) := ⟨⟨by decide +kernel, by decide +kernel⟩, List.mem_of_getElem? (i := 1157) (by decide +kernel), List.mem_of_getElem? (i := 1519) (by decide +kernel), List.mem_of_getElem? (i := 1520) (by decide +kernel)⟩
theorem lw_p78 : lw_okq (⟨"SelfkindleModel", "parts", "(LSelfkindleModel$Type;)I"⟩, 24) := ⟨⟨by decide +kernel, by decide +kernel⟩, List.mem_of_getElem? (i := 1157) (by decide +kernel), List.mem_of_getElem? (i := 1545) (by decide +kernel), List.mem_of_getElem? (i := 1546) (by decide +kernel)⟩
theorem lw_p79 : lw_okq (⟨"SelfkindleModel", "another", "(LSelfkindleModel$Type;LSelfkindleModel$Names;Ljava/util/ArrayList;Ljava/util/ArrayList;)LSelfkindleModel$Type;"⟩, 24) := ⟨⟨by decide +kernel, by decide +kernel⟩, List.mem_of_getElem? (i := 1157) (by decide +kernel), List.mem_of_getElem? (i := 1552) (by decide +kernel), List.mem_of_getElem? (i := 1553) (by decide +kernel)⟩
def lw_privs_5 : List (MethodName × Nat) := [(⟨"Selfkindle$Interpreter", "turnRec", "(II)V"⟩, 11), (⟨"Selfkindle$Interpreter", "turnFirst", "(II)V"⟩, 11), (⟨"Selfkindle$Interpreter", "recover", "(I)V"⟩, 11), (⟨"SelfkindleModel", "put", "(LSelfkindleModel$Term;)I"⟩, 24), (⟨"java/util/ArrayList", "add", "(Ljava/lang/Object;[Ljava/lang/Object;I)V"⟩, 3), (⟨"java/util/ArrayList", "grow", "()[Ljava/lang/Object;"⟩, 3), (⟨"java/util/ArrayList", "grow", "(I)[Ljava/lang/Object;"⟩, 3), (⟨"SelfkindleModel", "fits", "(I)Z"⟩, 24), (⟨"SelfkindleModel", "top", "(I)LSelfkindleModel$Term;"⟩, 24), (⟨"SelfkindleModel", "makes", "(IJII)I"⟩, 24), (⟨"java/util/ArrayList", "fastRemove", "([Ljava/lang/Object;I)V"⟩, 3), (⟨"SelfkindleModel", "hasType", "(LSelfkindleModel$Term;)Z"⟩, 24), (⟨"SelfkindleModel", "infers", "(LSelfkindleModel$Term;LSelfkindleModel$Names;)LSelfkindleModel$Type;"⟩, 24), (⟨"SelfkindleModel", "infersOne", "(LSelfkindleModel$Term;LSelfkindleModel$Names;)LSelfkindleModel$Type;"⟩, 24), (⟨"SelfkindleModel", "parts", "(LSelfkindleModel$Type;)I"⟩, 24), (⟨"SelfkindleModel", "another", "(LSelfkindleModel$Type;LSelfkindleModel$Names;Ljava/util/ArrayList;Ljava/util/ArrayList;)LSelfkindleModel$Type;"⟩, 24)]
theorem lw_r5 : ∀ q ∈ lw_privs_5, lw_okq q := List.forall_mem_cons.mpr ⟨lw_p64, List.forall_mem_cons.mpr ⟨lw_p65, List.forall_mem_cons.mpr ⟨lw_p66, List.forall_mem_cons.mpr ⟨lw_p67, List.forall_mem_cons.mpr ⟨lw_p68, List.forall_mem_cons.mpr ⟨lw_p69, List.forall_mem_cons.mpr ⟨lw_p70, List.forall_mem_cons.mpr ⟨lw_p71, List.forall_mem_cons.mpr ⟨lw_p72, List.forall_mem_cons.mpr ⟨lw_p73, List.forall_mem_cons.mpr ⟨lw_p74, List.forall_mem_cons.mpr ⟨lw_p75, List.forall_mem_cons.mpr ⟨lw_p76, List.forall_mem_cons.mpr ⟨lw_p77, List.forall_mem_cons.mpr ⟨lw_p78, List.forall_mem_cons.mpr ⟨lw_p79, fun _ h => absurd h List.not_mem_nil⟩⟩⟩⟩⟩⟩⟩⟩⟩⟩⟩⟩⟩⟩⟩⟩
theorem lw_p80 : lw_okq (⟨"SelfkindleModel", "isAround", "(LSelfkindleModel$Type;LSelfkindleModel$Names;)Z"⟩, 24) := ⟨⟨by decide +kernel, by decide +kernel⟩, List.mem_of_getElem? (i := 1157) (by decide +kernel), List.mem_of_getElem? (i := 1556) (by decide +kernel), List.mem_of_getElem? (i := 1557) (by decide +kernel)⟩
theorem lw_p81 : lw_okq (⟨"SelfkindleModel", "isWithin", "(LSelfkindleModel$Type;LSelfkindleModel$Type;)Z"⟩, 24) := ⟨⟨by decide +kernel, by decide +kernel⟩, List.mem_of_getElem? (i := 1157) (by decide +kernel), List.mem_of_getElem? (i := 1560) (by decide +kernel), List.mem_of_getElem? (i := 1561) (by decide +kernel)⟩
theorem lw_p82 : lw_okq (⟨"SelfkindleModel", "unifies", "(LSelfkindleModel$Type;LSelfkindleModel$Type;)Z"⟩, 24) := ⟨⟨by decide +kernel, by decide +kernel⟩, List.mem_of_getElem? (i := 1157) (by decide +kernel), List.mem_of_getElem? (i := 1605) (by decide +kernel), List.mem_of_getElem? (i := 1606) (by decide +kernel)⟩
theorem lw_p83 : lw_okq (⟨"SelfkindleModel", "isInt", "(LSelfkindleModel$Term;LSelfkindleModel$Names;)Z"⟩, 24) := ⟨⟨by decide +kernel, by decide +kernel⟩, List.mem_of_getElem? (i := 1157) (by decide +kernel), List.mem_of_getElem? (i := 1609) (by decide +kernel), List.mem_of_getElem? (i := 1610) (by decide +kernel)⟩
theorem lw_p84 : lw_okq (⟨"SelfkindleModel", "recs", "(LSelfkindleModel$Term;LSelfkindleModel$Names;)LSelfkindleModel$Type;"⟩, 24) := ⟨⟨by decide +kernel, by decide +kernel⟩, List.mem_of_getElem? (i := 1157) (by decide +kernel), List.mem_of_getElem? (i := 1613) (by decide +kernel), List.mem_of_getElem? (i := 1614) (by decide +kernel)⟩
theorem lw_p85 : lw_okq (⟨"SelfkindleModel", "compiles", "()V"⟩, 24) := ⟨⟨by decide +kernel, by decide +kernel⟩, List.mem_of_getElem? (i := 1157) (by decide +kernel), List.mem_of_getElem? (i := 1617) (by decide +kernel), List.mem_of_getElem? (i := 1618) (by decide +kernel)⟩
theorem lw_p86 : lw_okq (⟨"SelfkindleModel", "compile", "(LSelfkindleModel$Term;LSelfkindleModel$Names;)V"⟩, 24) := ⟨⟨by decide +kernel, by decide +kernel⟩, List.mem_of_getElem? (i := 1157) (by decide +kernel), List.mem_of_getElem? (i := 1621) (by decide +kernel), List.mem_of_getElem? (i := 1622) (by decide +kernel)⟩
theorem lw_p87 : lw_okq (⟨"SelfkindleModel", "lays", "(IJ)LSelfkindleModel$Order;"⟩, 24) := ⟨⟨by decide +kernel, by decide +kernel⟩, List.mem_of_getElem? (i := 1157) (by decide +kernel), List.mem_of_getElem? (i := 1625) (by decide +kernel), List.mem_of_getElem? (i := 1626) (by decide +kernel)⟩
theorem lw_p88 : lw_okq (⟨"SelfkindleModel", "behind", "(I)J"⟩, 24) := ⟨⟨by decide +kernel, by decide +kernel⟩, List.mem_of_getElem? (i := 1157) (by decide +kernel), List.mem_of_getElem? (i := 1650) (by decide +kernel), List.mem_of_getElem? (i := 1651) (by decide +kernel)⟩
theorem lw_p89 : lw_okq (⟨"SelfkindleModel", "begins", "()V"⟩, 24) := ⟨⟨by decide +kernel, by decide +kernel⟩, List.mem_of_getElem? (i := 1157) (by decide +kernel), List.mem_of_getElem? (i := 1654) (by decide +kernel), List.mem_of_getElem? (i := 1655) (by decide +kernel)⟩
theorem lw_p90 : lw_okq (⟨"SelfkindleModel", "isRight", "()Z"⟩, 24) := ⟨⟨by decide +kernel, by decide +kernel⟩, List.mem_of_getElem? (i := 1157) (by decide +kernel), List.mem_of_getElem? (i := 1666) (by decide +kernel), List.mem_of_getElem? (i := 1667) (by decide +kernel)⟩
theorem lw_p91 : lw_okq (⟨"SelfkindleModel", "goesThrough", "(LSelfkindleModel$Term;I)LSelfkindleModel$Term;"⟩, 24) := ⟨⟨by decide +kernel, by decide +kernel⟩, List.mem_of_getElem? (i := 1157) (by decide +kernel), List.mem_of_getElem? (i := 1674) (by decide +kernel), List.mem_of_getElem? (i := 1675) (by decide +kernel)⟩
theorem lw_p92 : lw_okq (⟨"SelfkindleModel", "folds", "(LSelfkindleModel$Term;)LSelfkindleModel$Term;"⟩, 24) := ⟨⟨by decide +kernel, by decide +kernel⟩, List.mem_of_getElem? (i := 1157) (by decide +kernel), List.mem_of_getElem? (i := 1678) (by decide +kernel), List.mem_of_getElem? (i := 1679) (by decide +kernel)⟩
theorem lw_p93 : lw_okq (⟨"SelfkindleModel", "changes", "(LSelfkindleModel$Term;)LSelfkindleModel$Term;"⟩, 24) := ⟨⟨by decide +kernel, by decide +kernel⟩, List.mem_of_getElem? (i := 1157) (by decide +kernel), List.mem_of_getElem? (i := 1685) (by decide +kernel), List.mem_of_getElem? (i := 1686) (by decide +kernel)⟩
theorem lw_p94 : lw_okq (⟨"SelfkindleModel", "inlines", "(LSelfkindleModel$Term;)LSelfkindleModel$Term;"⟩, 24) := ⟨⟨by decide +kernel, by decide +kernel⟩, List.mem_of_getElem? (i := 1157) (by decide +kernel), List.mem_of_getElem? (i := 1692) (by decide +kernel), List.mem_of_getElem? (i := 1693) (by decide +kernel)⟩
theorem lw_p95 : lw_okq (⟨"SelfkindleModel", "drops", "(LSelfkindleModel$Term;)LSelfkindleModel$Term;"⟩, 24) := ⟨⟨by decide +kernel, by decide +kernel⟩, List.mem_of_getElem? (i := 1157) (by decide +kernel), List.mem_of_getElem? (i := 1706) (by decide +kernel), List.mem_of_getElem? (i := 1707) (by decide +kernel)⟩
def lw_privs_6 : List (MethodName × Nat) := [(⟨"SelfkindleModel", "isAround", "(LSelfkindleModel$Type;LSelfkindleModel$Names;)Z"⟩, 24), (⟨"SelfkindleModel", "isWithin", "(LSelfkindleModel$Type;LSelfkindleModel$Type;)Z"⟩, 24), (⟨"SelfkindleModel", "unifies", "(LSelfkindleModel$Type;LSelfkindleModel$Type;)Z"⟩, 24), (⟨"SelfkindleModel", "isInt", "(LSelfkindleModel$Term;LSelfkindleModel$Names;)Z"⟩, 24), (⟨"SelfkindleModel", "recs", "(LSelfkindleModel$Term;LSelfkindleModel$Names;)LSelfkindleModel$Type;"⟩, 24), (⟨"SelfkindleModel", "compiles", "()V"⟩, 24), (⟨"SelfkindleModel", "compile", "(LSelfkindleModel$Term;LSelfkindleModel$Names;)V"⟩, 24), (⟨"SelfkindleModel", "lays", "(IJ)LSelfkindleModel$Order;"⟩, 24), (⟨"SelfkindleModel", "behind", "(I)J"⟩, 24), (⟨"SelfkindleModel", "begins", "()V"⟩, 24), (⟨"SelfkindleModel", "isRight", "()Z"⟩, 24), (⟨"SelfkindleModel", "goesThrough", "(LSelfkindleModel$Term;I)LSelfkindleModel$Term;"⟩, 24), (⟨"SelfkindleModel", "folds", "(LSelfkindleModel$Term;)LSelfkindleModel$Term;"⟩, 24), (⟨"SelfkindleModel", "changes", "(LSelfkindleModel$Term;)LSelfkindleModel$Term;"⟩, 24), (⟨"SelfkindleModel", "inlines", "(LSelfkindleModel$Term;)LSelfkindleModel$Term;"⟩, 24), (⟨"SelfkindleModel", "drops", "(LSelfkindleModel$Term;)LSelfkindleModel$Term;"⟩, 24)]
theorem lw_r6 : ∀ q ∈ lw_privs_6, lw_okq q := List.forall_mem_cons.mpr ⟨lw_p80, List.forall_mem_cons.mpr ⟨lw_p81, List.forall_mem_cons.mpr ⟨lw_p82, List.forall_mem_cons.mpr ⟨lw_p83, List.forall_mem_cons.mpr ⟨lw_p84, List.forall_mem_cons.mpr ⟨lw_p85, List.forall_mem_cons.mpr ⟨lw_p86, List.forall_mem_cons.mpr ⟨lw_p87, List.forall_mem_cons.mpr ⟨lw_p88, List.forall_mem_cons.mpr ⟨lw_p89, List.forall_mem_cons.mpr ⟨lw_p90, List.forall_mem_cons.mpr ⟨lw_p91, List.forall_mem_cons.mpr ⟨lw_p92, List.forall_mem_cons.mpr ⟨lw_p93, List.forall_mem_cons.mpr ⟨lw_p94, List.forall_mem_cons.mpr ⟨lw_p95, fun _ h => absurd h List.not_mem_nil⟩⟩⟩⟩⟩⟩⟩⟩⟩⟩⟩⟩⟩⟩⟩⟩
theorem lw_p96 : lw_okq (⟨"SelfkindleModel", "betas", "(LSelfkindleModel$Term;)LSelfkindleModel$Term;"⟩, 24) := ⟨⟨by decide +kernel, by decide +kernel⟩, List.mem_of_getElem? (i := 1157) (by decide +kernel), List.mem_of_getElem? (i := 1713) (by decide +kernel), List.mem_of_getElem? (i := 1714) (by decide +kernel)⟩
theorem lw_p97 : lw_okq (⟨"SelfkindleModel", "isOrder", "(I)Z"⟩, 24) := ⟨⟨by decide +kernel, by decide +kernel⟩, List.mem_of_getElem? (i := 1157) (by decide +kernel), List.mem_of_getElem? (i := 1729) (by decide +kernel), List.mem_of_getElem? (i := 1730) (by decide +kernel)⟩
theorem lw_p98 : lw_okq (⟨"SelfkindleModel", "goes", "()Z"⟩, 24) := ⟨⟨by decide +kernel, by decide +kernel⟩, List.mem_of_getElem? (i := 1157) (by decide +kernel), List.mem_of_getElem? (i := 1741) (by decide +kernel), List.mem_of_getElem? (i := 1742) (by decide +kernel)⟩
theorem lw_p99 : lw_okq (⟨"SelfkindleModel", "innermost", "()I"⟩, 24) := ⟨⟨by decide +kernel, by decide +kernel⟩, List.mem_of_getElem? (i := 1157) (by decide +kernel), List.mem_of_getElem? (i := 1745) (by decide +kernel), List.mem_of_getElem? (i := 1746) (by decide +kernel)⟩
theorem lw_p100 : lw_okq (⟨"SelfkindleModel", "does", "(LSelfkindleModel$Order;)V"⟩, 24) := ⟨⟨by decide +kernel, by decide +kernel⟩, List.mem_of_getElem? (i := 1157) (by decide +kernel), List.mem_of_getElem? (i := 1751) (by decide +kernel), List.mem_of_getElem? (i := 1752) (by decide +kernel)⟩
theorem lw_p101 : lw_okq (⟨"SelfkindleModel", "take", "()LSelfkindleModel$Value;"⟩, 24) := ⟨⟨by decide +kernel, by decide +kernel⟩, List.mem_of_getElem? (i := 1157) (by decide +kernel), List.mem_of_getElem? (i := 1796) (by decide +kernel), List.mem_of_getElem? (i := 1797) (by decide +kernel)⟩
theorem lw_p102 : lw_okq (⟨"SelfkindleModel", "reckons", "(II)V"⟩, 24) := ⟨⟨by decide +kernel, by decide +kernel⟩, List.mem_of_getElem? (i := 1157) (by decide +kernel), List.mem_of_getElem? (i := 1825) (by decide +kernel), List.mem_of_getElem? (i := 1826) (by decide +kernel)⟩
theorem lw_p103 : lw_okq (⟨"SelfkindleModel", "endsAnew", "()I"⟩, 24) := ⟨⟨by decide +kernel, by decide +kernel⟩, List.mem_of_getElem? (i := 1157) (by decide +kernel), List.mem_of_getElem? (i := 1849) (by decide +kernel), List.mem_of_getElem? (i := 1850) (by decide +kernel)⟩
theorem lw_p104 : lw_okq (⟨"SelfkindleModel", "finds", "(LSelfkindleModel$Term;LSelfkindleModel$Names;)LSelfkindleModel$Value;"⟩, 24) := ⟨⟨by decide +kernel, by decide +kernel⟩, List.mem_of_getElem? (i := 1157) (by decide +kernel), List.mem_of_getElem? (i := 1855) (by decide +kernel), List.mem_of_getElem? (i := 1856) (by decide +kernel)⟩
theorem lw_p105 : lw_okq (⟨"SelfkindleModel", "findsOne", "(LSelfkindleModel$Term;LSelfkindleModel$Names;)LSelfkindleModel$Value;"⟩, 24) := ⟨⟨by decide +kernel, by decide +kernel⟩, List.mem_of_getElem? (i := 1157) (by decide +kernel), List.mem_of_getElem? (i := 1878) (by decide +kernel), List.mem_of_getElem? (i := 1879) (by decide +kernel)⟩
theorem lw_p106 : lw_okq (⟨"SelfkindleModel", "handles", "(LSelfkindleModel$Term;LSelfkindleModel$Names;)LSelfkindleModel$Value;"⟩, 24) := ⟨⟨by decide +kernel, by decide +kernel⟩, List.mem_of_getElem? (i := 1157) (by decide +kernel), List.mem_of_getElem? (i := 1903) (by decide +kernel), List.mem_of_getElem? (i := 1904) (by decide +kernel)⟩
def lw_privs_7 : List (MethodName × Nat) := [(⟨"SelfkindleModel", "betas", "(LSelfkindleModel$Term;)LSelfkindleModel$Term;"⟩, 24), (⟨"SelfkindleModel", "isOrder", "(I)Z"⟩, 24), (⟨"SelfkindleModel", "goes", "()Z"⟩, 24), (⟨"SelfkindleModel", "innermost", "()I"⟩, 24), (⟨"SelfkindleModel", "does", "(LSelfkindleModel$Order;)V"⟩, 24), (⟨"SelfkindleModel", "take", "()LSelfkindleModel$Value;"⟩, 24), (⟨"SelfkindleModel", "reckons", "(II)V"⟩, 24), (⟨"SelfkindleModel", "endsAnew", "()I"⟩, 24), (⟨"SelfkindleModel", "finds", "(LSelfkindleModel$Term;LSelfkindleModel$Names;)LSelfkindleModel$Value;"⟩, 24), (⟨"SelfkindleModel", "findsOne", "(LSelfkindleModel$Term;LSelfkindleModel$Names;)LSelfkindleModel$Value;"⟩, 24), (⟨"SelfkindleModel", "handles", "(LSelfkindleModel$Term;LSelfkindleModel$Names;)LSelfkindleModel$Value;"⟩, 24)]
theorem lw_r7 : ∀ q ∈ lw_privs_7, lw_okq q := List.forall_mem_cons.mpr ⟨lw_p96, List.forall_mem_cons.mpr ⟨lw_p97, List.forall_mem_cons.mpr ⟨lw_p98, List.forall_mem_cons.mpr ⟨lw_p99, List.forall_mem_cons.mpr ⟨lw_p100, List.forall_mem_cons.mpr ⟨lw_p101, List.forall_mem_cons.mpr ⟨lw_p102, List.forall_mem_cons.mpr ⟨lw_p103, List.forall_mem_cons.mpr ⟨lw_p104, List.forall_mem_cons.mpr ⟨lw_p105, List.forall_mem_cons.mpr ⟨lw_p106, fun _ h => absurd h List.not_mem_nil⟩⟩⟩⟩⟩⟩⟩⟩⟩⟩⟩
def lw_privs : List (MethodName × Nat) := lw_privs_1 ++ (lw_privs_2 ++ (lw_privs_3 ++ (lw_privs_4 ++ (lw_privs_5 ++ (lw_privs_6 ++ (lw_privs_7))))))
def lw_tbl : List Cond := k2_sels lw_privs ++ tables_1
theorem lw_privs_ok : ∀ q ∈ lw_privs, lw_okq q := by
  show ∀ q ∈ lw_privs_1 ++ (lw_privs_2 ++ (lw_privs_3 ++ (lw_privs_4 ++ (lw_privs_5 ++ (lw_privs_6 ++ (lw_privs_7)))))), lw_okq q
  exact List.forall_mem_append.mpr ⟨lw_r1, List.forall_mem_append.mpr ⟨lw_r2, List.forall_mem_append.mpr ⟨lw_r3, List.forall_mem_append.mpr ⟨lw_r4, List.forall_mem_append.mpr ⟨lw_r5, List.forall_mem_append.mpr ⟨lw_r6, lw_r7⟩⟩⟩⟩⟩⟩
-- ===== end of PART A; then your names; then what follows =====
end
section
/-! ===== BEGIN words of one list among another's, by their places ===== -/
theorem goodIn_r {big : List Cond} (ws : List Cond) (ps : List Nat) (hp : ws = ps.filterMap (fun i => big[i]?)) (h : ws.all goodWord = true) : GoodIn big ws := by
  intro w hw
  have h1 := List.all_eq_true.mp h w hw
  rw [hp] at hw
  obtain ⟨i, -, hi⟩ := List.mem_filterMap.mp hw
  have hm : w ∈ big := by first | exact List.mem_of_getElem? hi | exact List.getElem?_mem hi
  exact ⟨hm, good_of_word h1⟩
theorem goodIn_app {big a b : List Cond} (ha : GoodIn big a) (hb : GoodIn big b) : GoodIn big (a ++ b) := fun w h => (List.mem_append.mp h).elim (ha w) (hb w)
theorem goodIn_ca {big a b : List Cond} {c : Cond} (ha : GoodIn big (c :: a)) (hb : GoodIn big b) : GoodIn big (c :: (a ++ b)) := fun w h => (List.mem_cons.mp h).elim (fun e => ha w (List.mem_cons.mpr (Or.inl e))) (fun h => (List.mem_append.mp h).elim (fun h => ha w (List.mem_cons.mpr (Or.inr h))) (hb w))
theorem goodIn_sub {big ws : List Cond} (hm : ∀ w ∈ ws, w ∈ big) (h : ws.all goodWord = true) : GoodIn big ws := fun w hw => ⟨hm w hw, good_of_word (List.all_eq_true.mp h w hw)⟩
/-! ===== END ===== -/

/-! ===== BEGIN exceptions that leave a method, and their catching by the caller (launches without stack traces) ===== -/
section VXA
/-! The laws vx_back, vx_callV, vx_callS, vx_callSW, vx_throw0, vx_throwS follow proofs of the library, with one case more: JvmDerived/Free/Laws.lean (Back.of_free), Shelf42/LK1.lean (callV, callS), Shelf/KitTraced.lean (throwNew0V, throwNewS). -/
/-- where a method has thrown q: the class by its name, the cell, what was written, the world -/
def vx_T (XC : String → State → State → Prop) (st : State) (q : Addr) (t : State) (mc ms : Nat) (free : Addr → Prop) : Prop :=
  ∃ (E : String) (ce : Cell) (L : List Loc), XC E st t ∧ t.heap[q]? = some ce ∧ ce.vm = .none ∧ st.vm.findClass E = some ce.cls ∧ st.WarmedH t.vm ∧ st.sameButNew ({ t with vm := st.vm } : State) L mc ms ∧ ∀ z ∈ L, free z.base
def vx_Q (Qc : Array Value → State → Outcome → State → Prop) (XC : String → State → State → Prop) (mc ms : Nat) (free : Addr → Prop) : Array Value → State → Outcome → State → Prop := fun a st o t =>
  (Qc a st o t ∧ ∃ L, FrameEnd st o t L mc ms ∧ ∀ q ∈ L, free q.base) ∨ ∃ q, o = .threw q ∧ vx_T XC st q t mc ms free
/-- a callee that returns or throws -/
def vx_Met (l : Launch) (y : MethodName) (ws : List Cond) (rm : Room) (Pc : Array Value → State → Prop) (Qc : Array Value → State → Outcome → State → Prop) (XC : String → State → State → Prop) (mc ms : Nat) (free : Addr → Prop) : Prop :=
  MetFree l y (headSpec ws rm) Pc (fun _ _ _ _ _ => True) (vx_Q Qc XC mc ms free)
def vx_Post (XC : String → State → State → Prop) (mc ms : Nat) (free : Addr → Prop) : Pt → Array Value → Addr → Pt → Prop := fun A a q B =>
  ∃ (g : JFrame) (mk : MethodId) (t : State) (L : List Loc) (E : String) (ce : Cell), B.U.heap = t.heap ∧ B.U.vm = t.vm ∧ XC E (A.U.calling g mk a) t ∧ t.heap[q]? = some ce ∧ ce.vm = .none ∧ A.U.vm.findClass E = some ce.cls ∧ B.locs = A.locs ++ L ∧ (∀ z ∈ L, free z.base) ∧ B.cells = A.cells + mc ∧ B.slots = A.slots + ms
def vx_Back (l : Launch) (R : Room) (p : Program) (e : Env) (below : List Frame) (s : State) (sargs : Array Value) (y : MethodName) (len W9 : Nat)
    (Pre : Pt → Array Value → Prop) (Post : Pt → Array Value → Option Value → Pt → Prop) (PostX : Pt → Array Value → Addr → Pt → Prop) : Prop :=
  ∀ (m : MethodId) (meth : Method) (c : Code) (A : Pt) (g : JFrame) (ig : Instr) (mk : MethodId) (a : Array Value),
    Stand p l e R s m sargs below meth c A.U A.locs A.cells A.slots → g.method = m → g.locals.size = c.maxLocals → decode c.code g.pc = .ok (ig, len) →
    2 * g.monitorRoom + (g.stack.map fun v => v.category).sum ≤ W9 → A.U.methodNamed? y = some mk → Pre A a →
    (∃ (v : Option Value) (B : Pt), Stand p l e R s m sargs below meth c B.U B.locs B.cells B.slots ∧ Post A a v B ∧
      Steps p.tables e below (doInvoke e (A.U.setTop g) [] mk a).1 (B.U.setTop { g with pc := g.pc + len, stack := v.toList ++ g.stack })) ∨
    (∃ (q : Addr) (B : Pt), Stand p l e R s m sargs below meth c B.U B.locs B.cells B.slots ∧ PostX A a q B ∧
      Steps p.tables e below (doInvoke e (A.U.setTop g) [] mk a).1 ((B.U.setTop g).pushFrame (.throwing q)))
section Payer
variable {l : Launch} {R : Room} {p : Program} {e : Env} {below : List Frame} {s : State} {sargs : Array Value} {y : MethodName} {len W9 : Nat}
theorem vx_back {ws : List Cond} {rm : Room} {Pc : Array Value → State → Prop} {Qc : Array Value → State → Outcome → State → Prop} {XC : String → State → State → Prop} {mc ms : Nat} {free : Addr → Prop} {bytes : ByteArray} {maxL : Nat} {ret : Option FieldType}
    (hM : vx_Met l y ws rm Pc Qc XC mc ms free) (hblind : FrameBlind Pc) (hrc : rm.cells = mc) (hrs : rm.slots = ms)
    (hframes : rm.frames + 1 ≤ R.frames) (hlocals : W9 + (maxL + 11) + rm.locals ≤ R.locals)
    (hws : ∀ w ∈ ws, ∀ a' U, s.WarmedH U.vm → w.before a' U = true) (hcode : Cond.code y bytes maxL ret ∈ ws) (hinit : ∀ a' U, s.WarmedH U.vm → (Cond.initialized y.cls).before a' U = true) :
    vx_Back l R p e below s sargs y len W9 (PreOf R mc ms Pc) (PostOf Qc mc ms free) (vx_Post XC mc ms free) := by
  intro m meth c A g ig mk a X hg hsize hdg hW hn hp
  have h1 : (headSpec ws rm).pre.before a A.U = true := atoms_intro fun w hw => hws w hw _ _ X.warmed
  have h2 : (Cond.code y bytes maxL ret).before a A.U = true := hws _ hcode _ _ X.warmed
  have h3 : (Cond.initialized y.cls).before a A.U = true := hinit _ _ X.warmed
  have h4 : A.cells + (headSpec ws rm).room.cells ≤ R.cells := by rw [show (headSpec ws rm).room.cells = mc from hrc]; exact hp.1
  have h5 : A.slots + (headSpec ws rm).room.slots ≤ R.slots := by rw [show (headSpec ws rm).room.slots = ms from hrs]; exact hp.2.1
  have hPc : Pc a (A.U.calling g mk a) := hblind _ _ _ _ hp.2.2
  obtain ⟨U, Ls, c0, s0⟩ := A
  dsimp only [Pt.U, Pt.locs, Pt.cells, Pt.slots] at h1 h2 h3 h4 h5 X hn hPc ⊢
  obtain ⟨methY, cY, hmY, hcY, -, hlY, -, -, -, -⟩ := Cond.code_spec hn h2
  obtain ⟨kY, hkY, -⟩ := className_of_methodNamed hn
  have hinitY : kY.init = .initialized := Cond.initialized_spec (findClass_of_methodNamed hn) hkY h3
  have h : At U g.method c below := by rw [hg]; exact X.here
  have hlocals9 : W9 + (maxL + 11) + (headSpec ws rm).room.locals ≤ R.locals := hlocals
  have happ : (headSpec ws rm).appliesLoose y e.platform (U.calling g mk a) = true :=
    Spec.appliesLoose_calling (g := g) h hdg hn hkY hinitY
      (X.room_calling (g := g) (R' := (headSpec ws rm).room) hsize hmY hcY hframes (by rw [hlY]; omega) h4 h5) h1
  obtain ⟨mid, hmid⟩ := h.above
  have hfr : (U.setTop g).frames = (.java g :: mid) ++ below := by rw [State.frames_setTop' g h.top, hmid]; rfl
  obtain ⟨o, s₂, hsteps, -, hend, hq⟩ := Steps.callFree hM p X.admits X.cas X.clock (acts := []) hfr happ hPc trivial
  have hq' : vx_Q Qc XC mc ms free a (U.calling g mk a) o s₂ := hq
  rw [State.frames_setTop' g h.top] at hend
  obtain ⟨g₀, hg0⟩ := Option.isSome_iff_exists.mp h.top
  obtain ⟨r, hr⟩ := State.topJava?_eq_some.mp hg0
  have hr' : (({ U with heap := s₂.heap, slotsUsed := s₂.slotsUsed } : State).setVm s₂.vm).frames = .java g₀ :: r := hr
  rcases hq' with ⟨hqc, L, hfe, hL⟩ | ⟨q, rfl, E, ce, L, hx, hce, hcv, hcl, hW₂, hsm, hL⟩
  · obtain ⟨⟨v, rfl⟩, hW₂, e2, q2, q3, q4, q5, q6⟩ := id hfe
    have e3 : s₂ = ({ (U.calling g mk a).setFrames s₂.frames with heap := s₂.heap, slotsUsed := s₂.slotsUsed } : State).setVm s₂.vm := by
      have : s₂ = ({ s₂ with vm := (U.calling g mk a).vm } : State).setVm s₂.vm := rfl
      rw [e2] at this
      exact this
    obtain ⟨c₂, i₂, len₂, hc₂, hd₂, hf₂⟩ := hend
    have hW' : U.WarmedH s₂.vm := hW₂
    have hcc : c₂ = c := by
      have h1 : s₂.code? g.method = U.code? g.method := by
        rw [State.code?_eq, State.code?_eq, hW'.alike.method?]
      exact Option.some.inj (hc₂.symm.trans (h1.trans h.code))
    subst hcc
    have hlen : len₂ = len := by rw [hdg] at hd₂; cases hd₂; rfl
    subst hlen
    have hs₂ : s₂ = (({ U with heap := s₂.heap, slotsUsed := s₂.slotsUsed } : State).setVm s₂.vm).setTop { g with pc := g.pc + len₂, stack := v.toList ++ g.stack } := by
      refine e3.trans ?_
      rw [hf₂, State.calling_eq h.top, State.setFrames_setFrames, State.setTop_of_frames _ hr', hr]
      rfl
    have hsame : U.sameButNew ({ U with heap := s₂.heap, slotsUsed := s₂.slotsUsed } : State) L mc ms := by
      refine ⟨?_, q2, q3, q4, q5, q6⟩
      obtain ⟨t, ht, -⟩ := State.frames_cons hr
      show ({ U with heap := s₂.heap, slotsUsed := s₂.slotsUsed } : State) = { U.setFrames U.frames with heap := s₂.heap, slotsUsed := s₂.slotsUsed }
      rw [State.setFrames_self ht]
    subst hg
    refine Or.inl ⟨v, ⟨(({ U with heap := s₂.heap, slotsUsed := s₂.slotsUsed } : State).setVm s₂.vm), Ls ++ L, c0 + mc, s0 + ms⟩,
      ⟨X.admits, X.cas, X.clock, X.frames, X.room, X.hears, X.method, X.code, (X.here.setHeapUsed s₂.heap s₂.slotsUsed).setVm hW'.alike, X.tail, State.WarmedH.trans X.warmed hW', X.limits, X.bytes, X.same.trans (hsame.setVm s.vm)⟩,
      ⟨g, mk, s₂, L, rfl, rfl, hqc, rfl, hL, rfl, rfl⟩, ?_⟩
    show Steps p.tables e below _ ((({ U with heap := s₂.heap, slotsUsed := s₂.slotsUsed } : State).setVm s₂.vm).setTop { g with pc := g.pc + len₂, stack := v.toList ++ g.stack })
    rw [← hs₂]
    exact hsteps
  · obtain ⟨e2, q2, q3, q4, q5, q6⟩ := id hsm
    have e3 : s₂ = ({ (U.calling g mk a).setFrames s₂.frames with heap := s₂.heap, slotsUsed := s₂.slotsUsed } : State).setVm s₂.vm := by
      have : s₂ = ({ s₂ with vm := (U.calling g mk a).vm } : State).setVm s₂.vm := rfl
      rw [e2] at this
      exact this
    have hf₂ : s₂.frames = .throwing q :: .java g :: U.frames.tail := hend
    have hW' : U.WarmedH s₂.vm := hW₂
    have hs₂ : s₂ = ((({ U with heap := s₂.heap, slotsUsed := s₂.slotsUsed } : State).setVm s₂.vm).setTop g).pushFrame (.throwing q) := by
      refine e3.trans ?_
      rw [hf₂, State.calling_eq h.top, State.setFrames_setFrames, State.pushFrame, State.frames_setTop _ hr', State.setTop_of_frames _ hr', State.setFrames_setFrames, hr]
      rfl
    have hsame : U.sameButNew ({ U with heap := s₂.heap, slotsUsed := s₂.slotsUsed } : State) L mc ms := by
      refine ⟨?_, q2, q3, q4, q5, q6⟩
      obtain ⟨t, ht, -⟩ := State.frames_cons hr
      show ({ U with heap := s₂.heap, slotsUsed := s₂.slotsUsed } : State) = { U.setFrames U.frames with heap := s₂.heap, slotsUsed := s₂.slotsUsed }
      rw [State.setFrames_self ht]
    subst hg
    refine Or.inr ⟨q, ⟨(({ U with heap := s₂.heap, slotsUsed := s₂.slotsUsed } : State).setVm s₂.vm), Ls ++ L, c0 + mc, s0 + ms⟩,
      ⟨X.admits, X.cas, X.clock, X.frames, X.room, X.hears, X.method, X.code, (X.here.setHeapUsed s₂.heap s₂.slotsUsed).setVm hW'.alike, X.tail, State.WarmedH.trans X.warmed hW', X.limits, X.bytes, X.same.trans (hsame.setVm s.vm)⟩,
      ⟨g, mk, s₂, L, E, ce, rfl, rfl, hx, hce, hcv, hcl, rfl, hL, rfl, rfl⟩, ?_⟩
    show Steps p.tables e below _ (((({ U with heap := s₂.heap, slotsUsed := s₂.slotsUsed } : State).setVm s₂.vm).setTop g).pushFrame (.throwing q))
    rw [← hs₂]
    exact hsteps
end Payer
section Calls
variable {p : Program} {l : Launch} {e : Env} {R : Room} {s : State} {m : MethodId} {args : Array Value} {below : List Frame} {meth : Method} {c : Code} {T : State} {locs : List Loc} {cells slots : Nat}
theorem vx_callV (X : Stand p l e R s m args below meth c T locs cells slots) (hexec : p.tables.exec = Jvm.exec) {own C : String} {index : Nat} {y : MethodName} {bytes : ByteArray} {maxL : Nat} {ret : Option FieldType}
    (hown : s.vm.findClass own = some m.cls) (hlink : (Cond.methodLink own index y).before args s = true) (hinst : (Cond.instanceMethod y).before args s = true) (hsel : (Cond.selects C y y).before args s = true)
    (hcode : (Cond.code y bytes maxL ret).before args s = true) (hy : y.cls ≠ "java/lang/invoke/MethodHandle" ∧ y.cls ≠ "java/lang/invoke/VarHandle")
    {W9 : Nat} {Pre : Pt → Array Value → Prop} {Post : Pt → Array Value → Option Value → Pt → Prop} {PostX : Pt → Array Value → Addr → Pt → Prop} (hK : vx_Back l R p e below s args y 3 W9 Pre Post PostX)
    {b : Addr} {cellB : Cell} (hcell : T.heap[b]? = some cellB) (hobj : cellB.vm.isStatics = false) (hcls : s.vm.findClass C = some cellB.cls)
    {g : JFrame} (hg : g.method = m) (hsize : g.locals.size = c.maxLocals) {argsL rest : List Value} (hlen : ∀ sig, parseMethodDescriptor y.desc = some sig → argsL.length = sig.parameters.length)
    (hstack : g.stack = argsL.reverse ++ .ref b :: rest) (hW : 2 * g.monitorRoom + (rest.map fun v => v.category).sum ≤ W9) (hdg : decode c.code g.pc = .ok (.invokevirtual index, 3))
    (hpre : ∀ vm₁, s.WarmedH vm₁ → Pre ⟨T.setVm vm₁, locs, cells, slots⟩ (Value.ref b :: argsL).toArray) :
    (∃ (v : Option Value) (vm₁ : Vm) (B : Pt), s.WarmedH vm₁ ∧ Stand p l e R s m args below meth c B.U B.locs B.cells B.slots ∧ Post ⟨T.setVm vm₁, locs, cells, slots⟩ (Value.ref b :: argsL).toArray v B ∧
      ∀ target, Steps p.tables e below (B.U.setTop { g with pc := g.pc + 3, stack := v.toList ++ rest }) target → Steps p.tables e below (T.setTop g) target) ∨
    (∃ (q : Addr) (vm₁ : Vm) (B : Pt), s.WarmedH vm₁ ∧ Stand p l e R s m args below meth c B.U B.locs B.cells B.slots ∧ PostX ⟨T.setVm vm₁, locs, cells, slots⟩ (Value.ref b :: argsL).toArray q B ∧
      Steps p.tables e below (T.setTop g) ((B.U.setTop { g with stack := rest }).pushFrame (.throwing q))) := by
  obtain ⟨mk, methM, hnamed, hmethM, hstM, habM⟩ := Cond.instanceMethod_spec hinst
  obtain ⟨methM', cM, hmethM', -, -, -, -, -, -, hsigM⟩ := Cond.code_spec hnamed hcode
  cases hmethM.symm.trans hmethM'
  obtain ⟨c2, r2, m2, q1, q2, q3, q4, kP, hkP, hkPi⟩ := Cond.selects_spec hsel
  cases hcls.symm.trans q1
  cases (State.methodFound?_of_named hnamed hy).symm.trans q2
  cases hnamed.symm.trans q3
  have hselP : selectMethod e.platform s.vm cellB.cls mk = .method mk := by rw [Launch.admits_selectMethod X.admits]; exact q4
  obtain ⟨vm₁, X₁, hstep₁⟩ := X.invokevirtual hexec hown hlink hnamed hmethM hstM hkP hkPi hy (a := b) (cell := cellB) hcell
    (fun z h => by rw [h] at hobj; cases hobj) hselP hmethM habM hkP hkPi (g := g) hg (argsL := argsL) (rest := rest) (hlen _ hsigM) hstack hdg
  rcases hK m meth c ⟨T.setVm vm₁, locs, cells, slots⟩ { g with stack := rest } (.invokevirtual index) mk (Value.ref b :: argsL).toArray X₁ hg hsize hdg hW (X₁.named hnamed) (hpre vm₁ X₁.warmed) with ⟨v, B, X', hpost, hsteps⟩ | ⟨q, B, X', hpost, hsteps⟩
  · exact Or.inl ⟨v, vm₁, B, X₁.warmed, X', hpost, fun target h => hstep₁ _ fun acts => by rw [doInvoke_state]; exact hsteps.trans h⟩
  · exact Or.inr ⟨q, vm₁, B, X₁.warmed, X', hpost, hstep₁ _ fun acts => by rw [doInvoke_state]; exact hsteps⟩
theorem vx_callS (X : Stand p l e R s m args below meth c T locs cells slots) (hexec : p.tables.exec = Jvm.exec) {own : String} {index : Nat} {y : MethodName} {bytes : ByteArray} {maxL : Nat} {ret : Option FieldType}
    (hown : s.vm.findClass own = some m.cls) (hlink : (Cond.methodLink own index y).before args s = true) (hstat : (Cond.static y).before args s = true) (hinit : (Cond.initialized y.cls).before args s = true)
    (hcode : (Cond.code y bytes maxL ret).before args s = true) (hy : y.cls ≠ "java/lang/invoke/MethodHandle" ∧ y.cls ≠ "java/lang/invoke/VarHandle")
    {W9 : Nat} {Pre : Pt → Array Value → Prop} {Post : Pt → Array Value → Option Value → Pt → Prop} {PostX : Pt → Array Value → Addr → Pt → Prop} (hK : vx_Back l R p e below s args y 3 W9 Pre Post PostX)
    {g : JFrame} (hg : g.method = m) (hsize : g.locals.size = c.maxLocals) {argsL rest : List Value} (hlen : ∀ sig, parseMethodDescriptor y.desc = some sig → argsL.length = sig.parameters.length)
    (hstack : g.stack = argsL.reverse ++ rest) (hW : 2 * g.monitorRoom + (rest.map fun v => v.category).sum ≤ W9) (hdg : decode c.code g.pc = .ok (.invokestatic index, 3))
    (hpre : ∀ vm₁, s.WarmedH vm₁ → Pre ⟨T.setVm vm₁, locs, cells, slots⟩ argsL.toArray) :
    (∃ (v : Option Value) (vm₁ : Vm) (B : Pt), s.WarmedH vm₁ ∧ Stand p l e R s m args below meth c B.U B.locs B.cells B.slots ∧ Post ⟨T.setVm vm₁, locs, cells, slots⟩ argsL.toArray v B ∧
      ∀ target, Steps p.tables e below (B.U.setTop { g with pc := g.pc + 3, stack := v.toList ++ rest }) target → Steps p.tables e below (T.setTop g) target) ∨
    (∃ (q : Addr) (vm₁ : Vm) (B : Pt), s.WarmedH vm₁ ∧ Stand p l e R s m args below meth c B.U B.locs B.cells B.slots ∧ PostX ⟨T.setVm vm₁, locs, cells, slots⟩ argsL.toArray q B ∧
      Steps p.tables e below (T.setTop g) ((B.U.setTop { g with stack := rest }).pushFrame (.throwing q))) := by
  obtain ⟨mk, hnamed⟩ := Cond.code_named hcode
  obtain ⟨methM, cM, hmethM, -, -, -, -, -, -, hsigM⟩ := Cond.code_spec hnamed hcode
  have hstatic : methM.isStatic = true := Cond.static_spec hnamed hmethM hstat
  obtain ⟨kP, hkP, -⟩ := className_of_methodNamed hnamed
  have hinitP : kP.init = .initialized := Cond.initialized_spec (findClass_of_methodNamed hnamed) hkP hinit
  obtain ⟨vm₁, X₁, hstep₁⟩ := X.invokestatic hexec hown hlink hnamed hmethM hstatic hkP hinitP hy (g := g) hg (argsL := argsL) (rest := rest) (hlen _ hsigM) hstack hdg
  rcases hK m meth c ⟨T.setVm vm₁, locs, cells, slots⟩ { g with stack := rest } (.invokestatic index) mk argsL.toArray X₁ hg hsize hdg hW (X₁.named hnamed) (hpre vm₁ X₁.warmed) with ⟨v, B, X', hpost, hsteps⟩ | ⟨q, B, X', hpost, hsteps⟩
  · exact Or.inl ⟨v, vm₁, B, X₁.warmed, X', hpost, fun target h => hstep₁ _ fun acts => by rw [doInvoke_state]; exact hsteps.trans h⟩
  · exact Or.inr ⟨q, vm₁, B, X₁.warmed, X', hpost, hstep₁ _ fun acts => by rw [doInvoke_state]; exact hsteps⟩
end Calls
theorem vx_cls {s : State} {T : State} {vm₁ : Vm} {E : String} {k : ClassId} (hW : s.WarmedH vm₁) (h : (T.setVm vm₁).vm.findClass E = some k) : s.vm.findClass E = some k := by
  have h1 : vm₁.findClass E = some k := h
  rw [hW.alike.findClass] at h1
  exact h1
/-- the method's frame g, with q thrown over it -/
def vx_W (p : Program) (l : Launch) (e : Env) (R : Room) (s : State) (m : MethodId) (args : Array Value) (below : List Frame) (meth : Method) (c : Code) (H : Heap) (locs : List Loc) (cells slots : Nat) (Q : State → Prop) (g : JFrame) (q : Addr) : Prop :=
  ∀ T : State, T.heap = H → Stand p l e R s m args below meth c T locs cells slots → ∃ t, Steps p.tables e below ((T.setTop g).pushFrame (.throwing q)) t ∧ Q t
def vx_Run (p : Program) (l : Launch) (e : Env) (R : Room) (s : State) (m : MethodId) (args : Array Value) (below : List Frame) (meth : Method) (c : Code) (H : Heap) (locs : List Loc) (cells slots mc ms : Nat) (g : JFrame) (rest : List Value) (Qa : State → Outcome → State → Prop) (XC : String → State → State → Prop) (free : Addr → Prop) : Prop :=
  ∀ T : State, T.heap = H → Stand p l e R s m args below meth c T locs cells slots →
    (∃ (v : Option Value) (st₀ t T' : State) (L : List Loc), st₀.heap = H ∧ Stand p l e R s m args below meth c T' (locs ++ L) (cells + mc) (slots + ms) ∧ (∀ q ∈ L, free q.base) ∧ T'.heap = t.heap ∧ T'.vm = t.vm ∧ Qa st₀ (.returned v) t ∧
      Goes p e below T g T' { g with pc := g.pc + 3, stack := v.toList ++ rest }) ∨
    (∃ (q : Addr) (st₀ t T' : State) (L : List Loc) (E : String) (ce : Cell), st₀.heap = H ∧ Stand p l e R s m args below meth c T' (locs ++ L) (cells + mc) (slots + ms) ∧ (∀ z ∈ L, free z.base) ∧ T'.heap = t.heap ∧ T'.vm = t.vm ∧ XC E st₀ t ∧ t.heap[q]? = some ce ∧ ce.vm = .none ∧ s.vm.findClass E = some ce.cls ∧
      Steps p.tables e below (T.setTop g) ((T'.setTop { g with stack := rest }).pushFrame (.throwing q)))
def vx_X {S : Type} (px : S → Prop) (B : String → S → State → Prop) (A : Nat → Prop) : String → State → State → Prop := fun E st t => ∃ u : S, px u ∧ B E u t ∧ va_F A st t
section Runs
variable {p : Program} {l : Launch} {e : Env} {R : Room} {s : State} {m : MethodId} {args : Array Value} {below : List Frame} {meth : Method} {c : Code} {H : Heap} {locs : List Loc} {cells slots : Nat}
variable {y : MethodName} {bytes cc : ByteArray} {maxL nL mc ms n index : Nat} {ret : Option FieldType} {ws : List Cond} {rm : Room} {Pc : Array Value → State → Prop} {Qc : Array Value → State → Outcome → State → Prop} {XC : String → State → State → Prop} {free : Addr → Prop} {Ts : List Cond} {own C : String} {b : Addr} {As rest : List Value} {g : JFrame}
theorem vx_callBack (cb : CallB R s args own index y bytes maxL ret ws rm mc ms n) (hM : vx_Met l y ws rm Pc Qc XC mc ms free) (hbl : FrameBlind Pc) : vx_Back l R p e below s args y 3 8 (PreOf R mc ms Pc) (PostOf Qc mc ms free) (vx_Post XC mc ms free) := by
  obtain ⟨hrc, hrs, hfr, hlo, hws, hcw, -, hini, -⟩ := cb
  exact vx_back (bytes := bytes) (maxL := maxL) (ret := ret) hM hbl hrc hrs hfr hlo hws hcw (fun a' U hW => word_at hW (Or.inl (by first | rfl | simp [Cond.onTables, Cond.keeps, Cond.steady])) hini)
theorem vx_runV (S : CallFix p m c cc nL s args Ts own) (hM : vx_Met l y ws rm Pc Qc XC mc ms free) (cw : CallW R s args own C index y bytes maxL ret ws rm mc ms n) (hp : PreV s H C b Pc As)
    (hg : g.method = m) (hn : As.length = n) (hsize : g.locals.size = nL) (hstack : g.stack = As.reverse ++ .ref b :: rest) (hW : 2 * g.monitorRoom + (rest.map fun v => v.category).sum ≤ 8) (hdg : decode cc g.pc = .ok (.invokevirtual index, 3)) (hf : cells + mc ≤ R.cells ∧ slots + ms ≤ R.slots) :
    vx_Run p l e R s m args below meth c H locs cells slots mc ms g rest (Qc (Value.ref b :: As).toArray) XC free := by
  have hK : vx_Back l R p e below s args y 3 8 (PreOf R mc ms Pc) (PostOf Qc mc ms free) (vx_Post XC mc ms free) := vx_callBack cw.1 hM hp.1
  obtain ⟨⟨-, -, -, -, -, -, hcode, -, hy, hlen, hl⟩, hin, hse⟩ := cw
  obtain ⟨hx, hb, hml, ho, -⟩ := S
  obtain ⟨-, ⟨cellB, hcB, hoB, hclB⟩, hPc⟩ := hp
  intro T hT X
  rcases vx_callV X hx (C := C) (bytes := bytes) (maxL := maxL) (ret := ret) ho hl hin hse hcode hy hK (by rw [hT]; exact hcB) hoB hclB hg (hsize.trans hml.symm) (argsL := As) (rest := rest) (fun sig h => hn.trans (hlen sig h)) hstack hW (by rw [hb]; exact hdg)
    (fun vm₁ hW₁ => ⟨hf.1, hf.2, hPc (T.setVm vm₁) hT hW₁⟩) with ⟨v, vm₁, ⟨U', l2, c2, s2⟩, hW₁, X', ⟨g', mk, t, L, e1, e2, hq, h1, hL, h2, h3⟩, st⟩ | ⟨q, vm₁, ⟨U', l2, c2, s2⟩, hW₁, X', ⟨g', mk, t, L, E, ce, e1, e2, hq, hce, hcv, hcl, h1, hL, h2, h3⟩, st⟩
  · dsimp only [Pt.U, Pt.locs, Pt.cells, Pt.slots] at X' e1 e2 h1 h2 h3 st
    subst h1; subst h2; subst h3
    exact Or.inl ⟨v, (T.setVm vm₁).calling g' mk (Value.ref b :: As).toArray, t, U', L, hT, X', hL, e1, e2, hq, st⟩
  · dsimp only [Pt.U, Pt.locs, Pt.cells, Pt.slots] at X' e1 e2 h1 h2 h3 st hcl
    subst h1; subst h2; subst h3
    exact Or.inr ⟨q, (T.setVm vm₁).calling g' mk (Value.ref b :: As).toArray, t, U', L, E, ce, hT, X', hL, e1, e2, hq, hce, hcv, vx_cls hW₁ hcl, st⟩
theorem vx_runS (S : CallFix p m c cc nL s args Ts own) (hM : vx_Met l y ws rm Pc Qc XC mc ms free) (cw : CallB R s args own index y bytes maxL ret ws rm mc ms n ∧ (Cond.static y).before args s = true) (hp : PreS s H Pc As)
    (hg : g.method = m) (hn : As.length = n) (hsize : g.locals.size = nL) (hstack : g.stack = As.reverse ++ rest) (hW : 2 * g.monitorRoom + (rest.map fun v => v.category).sum ≤ 8) (hdg : decode cc g.pc = .ok (.invokestatic index, 3)) (hf : cells + mc ≤ R.cells ∧ slots + ms ≤ R.slots) :
    vx_Run p l e R s m args below meth c H locs cells slots mc ms g rest (Qc As.toArray) XC free := by
  have hK : vx_Back l R p e below s args y 3 8 (PreOf R mc ms Pc) (PostOf Qc mc ms free) (vx_Post XC mc ms free) := vx_callBack cw.1 hM hp.1
  obtain ⟨⟨-, -, -, -, -, -, hcode, hini, hy, hlen, hl⟩, hstt⟩ := cw
  obtain ⟨hx, hb, hml, ho, -⟩ := S
  intro T hT X
  rcases vx_callS X hx (bytes := bytes) (maxL := maxL) (ret := ret) ho hl hstt hini hcode hy hK hg (hsize.trans hml.symm) (argsL := As) (rest := rest) (fun sig h => hn.trans (hlen sig h)) hstack hW (by rw [hb]; exact hdg)
    (fun vm₁ hW₁ => ⟨hf.1, hf.2, hp.2 (T.setVm vm₁) hT hW₁⟩) with ⟨v, vm₁, ⟨U', l2, c2, s2⟩, hW₁, X', ⟨g', mk, t, L, e1, e2, hq, h1, hL, h2, h3⟩, st⟩ | ⟨q, vm₁, ⟨U', l2, c2, s2⟩, hW₁, X', ⟨g', mk, t, L, E, ce, e1, e2, hq, hce, hcv, hcl, h1, hL, h2, h3⟩, st⟩
  · dsimp only [Pt.U, Pt.locs, Pt.cells, Pt.slots] at X' e1 e2 h1 h2 h3 st
    subst h1; subst h2; subst h3
    exact Or.inl ⟨v, (T.setVm vm₁).calling g' mk As.toArray, t, U', L, hT, X', hL, e1, e2, hq, st⟩
  · dsimp only [Pt.U, Pt.locs, Pt.cells, Pt.slots] at X' e1 e2 h1 h2 h3 st hcl
    subst h1; subst h2; subst h3
    exact Or.inr ⟨q, (T.setVm vm₁).calling g' mk As.toArray, t, U', L, E, ce, hT, X', hL, e1, e2, hq, hce, hcv, vx_cls hW₁ hcl, st⟩
end Runs
section Rows
variable {p : Program} {l : Launch} {e : Env} {R : Room} {s : State} {m : MethodId} {args : Array Value} {below : List Frame} {meth : Method} {c : Code} {H : Heap} {locs : List Loc} {cells slots : Nat} {Q : State → Prop}
variable {mc ms : Nat} {free : Addr → Prop} {A0 A1 : Nat → Prop} {H0 : Heap} {a : Array Value} {pc : Nat} {ls : Array Slot} {st0 rest : List Value}
theorem vx_keep {st₀ t T' : State} {L : List Loc} (h0 : st₀.heap = H) (e1 : T'.heap = t.heap) (hS : va_S A0 H0 H locs) (hA : ∀ q, q < H.size → A1 q → A0 q) (hf : ∀ q, free q → A0 q) (hL : ∀ q ∈ L, free q.base) (hF : va_F A1 st₀ t) :
    H.size ≤ T'.heap.size ∧ (∀ q : Nat, q < H.size → ¬ A1 q → T'.heap[q]? = H[q]?) ∧ va_S A0 H0 T'.heap (locs ++ L) := by
  obtain ⟨hz, hk⟩ := hF
  rw [h0] at hz hk
  exact ⟨by rw [e1]; exact hz, fun q h1 h2 => by rw [e1]; exact hk q h1 h2,
    ⟨Nat.le_trans hS.1 (by rw [e1]; exact hz), fun q h1 h2 => by rw [e1, hk q (Nat.lt_of_lt_of_le h1 hS.1) (fun z => h2 (hA q (Nat.lt_of_lt_of_le h1 hS.1) z))]; exact hS.2.1 q h1 h2, fun q hq => by
      rcases List.mem_append.mp hq with h | h
      · exact hS.2.2 q h
      · exact hf _ (hL q h)⟩⟩
theorem vx_calli {S SX : Type} {post : Int32 → S → Prop} {px : SX → Prop} {B : S → State → Prop} {BX : String → SX → State → Prop} {AX : Nat → Prop} (hr : vx_Run p l e R s m args below meth c H locs cells slots mc ms (F0 m pc ls st0) rest (va_Qi post B A1 a) (vx_X px BX AX) free) (hS : va_S A0 H0 H locs) (hA : ∀ q, q < H.size → A1 q → A0 q) (hf : ∀ q, free q → A0 q) (hAX : ∀ q, q < H.size → AX q → A0 q)
    (kx : ∀ (E : String) (ce : Cell) (q9 : Addr) (u : SX) (t : State) (H1 : Heap) (locs1 : List Loc), t.heap = H1 → s.vm.Alike t.vm → px u → BX E u t → H.size ≤ H1.size → (∀ q : Nat, q < H.size → ¬ AX q → H1[q]? = H[q]?) → va_S A0 H0 H1 locs1 → H1[q9]? = some ce → ce.vm = .none → s.vm.findClass E = some ce.cls → vx_W p l e R s m args below meth c H1 locs1 (cells + mc) (slots + ms) Q (F0 m pc ls rest) q9)
    (kk : ∀ (r : Int32) (u : S) (t : State) (H1 : Heap) (locs1 : List Loc), t.heap = H1 → s.vm.Alike t.vm → post r u → B u t → H.size ≤ H1.size → (∀ q : Nat, q < H.size → ¬ A1 q → H1[q]? = H[q]?) → va_S A0 H0 H1 locs1 → W p l e R s m args below meth c H1 locs1 (cells + mc) (slots + ms) Q (F0 m (pc + 3) ls (.int r :: rest))) : W p l e R s m args below meth c H locs cells slots Q (F0 m pc ls st0) := by
  intro T hT X
  rcases hr T hT X with ⟨v, st₀, t, T', L, h0, X', hL, e1, e2, ⟨⟨r, u, hv, hp, hb⟩, hF⟩, st⟩ | ⟨q, st₀, t, T', L, E, ce, h0, X', hL, e1, e2, ⟨u, hp, hb, hF⟩, hce, hcv, hcl, st⟩
  · cases hv
    obtain ⟨k1, k2, k3⟩ := vx_keep h0 e1 hS hA hf hL hF
    obtain ⟨t2, a1, b1⟩ := kk r u t T'.heap (locs ++ L) e1.symm (by rw [← e2]; exact X'.warmed.alike) hp hb k1 k2 k3 T' rfl X'
    exact ⟨t2, st t2 a1, b1⟩
  · obtain ⟨k1, k2, k3⟩ := vx_keep h0 e1 hS hAX hf hL hF
    obtain ⟨t2, a1, b1⟩ := kx E ce q u t T'.heap (locs ++ L) e1.symm (by rw [← e2]; exact X'.warmed.alike) hp hb k1 k2 k3 (by rw [e1]; exact hce) hcv hcl T' rfl X'
    exact ⟨t2, st.trans a1, b1⟩
theorem vx_calll {S SX : Type} {post : Int64 → S → Prop} {px : SX → Prop} {B : S → State → Prop} {BX : String → SX → State → Prop} {AX : Nat → Prop} (hr : vx_Run p l e R s m args below meth c H locs cells slots mc ms (F0 m pc ls st0) rest (va_Ql post B A1 a) (vx_X px BX AX) free) (hS : va_S A0 H0 H locs) (hA : ∀ q, q < H.size → A1 q → A0 q) (hf : ∀ q, free q → A0 q) (hAX : ∀ q, q < H.size → AX q → A0 q)
    (kx : ∀ (E : String) (ce : Cell) (q9 : Addr) (u : SX) (t : State) (H1 : Heap) (locs1 : List Loc), t.heap = H1 → s.vm.Alike t.vm → px u → BX E u t → H.size ≤ H1.size → (∀ q : Nat, q < H.size → ¬ AX q → H1[q]? = H[q]?) → va_S A0 H0 H1 locs1 → H1[q9]? = some ce → ce.vm = .none → s.vm.findClass E = some ce.cls → vx_W p l e R s m args below meth c H1 locs1 (cells + mc) (slots + ms) Q (F0 m pc ls rest) q9)
    (kk : ∀ (r : Int64) (u : S) (t : State) (H1 : Heap) (locs1 : List Loc), t.heap = H1 → s.vm.Alike t.vm → post r u → B u t → H.size ≤ H1.size → (∀ q : Nat, q < H.size → ¬ A1 q → H1[q]? = H[q]?) → va_S A0 H0 H1 locs1 → W p l e R s m args below meth c H1 locs1 (cells + mc) (slots + ms) Q (F0 m (pc + 3) ls (.long r :: rest))) : W p l e R s m args below meth c H locs cells slots Q (F0 m pc ls st0) := by
  intro T hT X
  rcases hr T hT X with ⟨v, st₀, t, T', L, h0, X', hL, e1, e2, ⟨⟨r, u, hv, hp, hb⟩, hF⟩, st⟩ | ⟨q, st₀, t, T', L, E, ce, h0, X', hL, e1, e2, ⟨u, hp, hb, hF⟩, hce, hcv, hcl, st⟩
  · cases hv
    obtain ⟨k1, k2, k3⟩ := vx_keep h0 e1 hS hA hf hL hF
    obtain ⟨t2, a1, b1⟩ := kk r u t T'.heap (locs ++ L) e1.symm (by rw [← e2]; exact X'.warmed.alike) hp hb k1 k2 k3 T' rfl X'
    exact ⟨t2, st t2 a1, b1⟩
  · obtain ⟨k1, k2, k3⟩ := vx_keep h0 e1 hS hAX hf hL hF
    obtain ⟨t2, a1, b1⟩ := kx E ce q u t T'.heap (locs ++ L) e1.symm (by rw [← e2]; exact X'.warmed.alike) hp hb k1 k2 k3 (by rw [e1]; exact hce) hcv hcl T' rfl X'
    exact ⟨t2, st.trans a1, b1⟩
theorem vx_callf {S SX : Type} {post : UInt32 → S → Prop} {px : SX → Prop} {B : S → State → Prop} {BX : String → SX → State → Prop} {AX : Nat → Prop} (hr : vx_Run p l e R s m args below meth c H locs cells slots mc ms (F0 m pc ls st0) rest (va_Qf post B A1 a) (vx_X px BX AX) free) (hS : va_S A0 H0 H locs) (hA : ∀ q, q < H.size → A1 q → A0 q) (hf : ∀ q, free q → A0 q) (hAX : ∀ q, q < H.size → AX q → A0 q)
    (kx : ∀ (E : String) (ce : Cell) (q9 : Addr) (u : SX) (t : State) (H1 : Heap) (locs1 : List Loc), t.heap = H1 → s.vm.Alike t.vm → px u → BX E u t → H.size ≤ H1.size → (∀ q : Nat, q < H.size → ¬ AX q → H1[q]? = H[q]?) → va_S A0 H0 H1 locs1 → H1[q9]? = some ce → ce.vm = .none → s.vm.findClass E = some ce.cls → vx_W p l e R s m args below meth c H1 locs1 (cells + mc) (slots + ms) Q (F0 m pc ls rest) q9)
    (kk : ∀ (r : UInt32) (u : S) (t : State) (H1 : Heap) (locs1 : List Loc), t.heap = H1 → s.vm.Alike t.vm → post r u → B u t → H.size ≤ H1.size → (∀ q : Nat, q < H.size → ¬ A1 q → H1[q]? = H[q]?) → va_S A0 H0 H1 locs1 → W p l e R s m args below meth c H1 locs1 (cells + mc) (slots + ms) Q (F0 m (pc + 3) ls (.float r :: rest))) : W p l e R s m args below meth c H locs cells slots Q (F0 m pc ls st0) := by
  intro T hT X
  rcases hr T hT X with ⟨v, st₀, t, T', L, h0, X', hL, e1, e2, ⟨⟨r, u, hv, hp, hb⟩, hF⟩, st⟩ | ⟨q, st₀, t, T', L, E, ce, h0, X', hL, e1, e2, ⟨u, hp, hb, hF⟩, hce, hcv, hcl, st⟩
  · cases hv
    obtain ⟨k1, k2, k3⟩ := vx_keep h0 e1 hS hA hf hL hF
    obtain ⟨t2, a1, b1⟩ := kk r u t T'.heap (locs ++ L) e1.symm (by rw [← e2]; exact X'.warmed.alike) hp hb k1 k2 k3 T' rfl X'
    exact ⟨t2, st t2 a1, b1⟩
  · obtain ⟨k1, k2, k3⟩ := vx_keep h0 e1 hS hAX hf hL hF
    obtain ⟨t2, a1, b1⟩ := kx E ce q u t T'.heap (locs ++ L) e1.symm (by rw [← e2]; exact X'.warmed.alike) hp hb k1 k2 k3 (by rw [e1]; exact hce) hcv hcl T' rfl X'
    exact ⟨t2, st.trans a1, b1⟩
theorem vx_calld {S SX : Type} {post : UInt64 → S → Prop} {px : SX → Prop} {B : S → State → Prop} {BX : String → SX → State → Prop} {AX : Nat → Prop} (hr : vx_Run p l e R s m args below meth c H locs cells slots mc ms (F0 m pc ls st0) rest (va_Qd post B A1 a) (vx_X px BX AX) free) (hS : va_S A0 H0 H locs) (hA : ∀ q, q < H.size → A1 q → A0 q) (hf : ∀ q, free q → A0 q) (hAX : ∀ q, q < H.size → AX q → A0 q)
    (kx : ∀ (E : String) (ce : Cell) (q9 : Addr) (u : SX) (t : State) (H1 : Heap) (locs1 : List Loc), t.heap = H1 → s.vm.Alike t.vm → px u → BX E u t → H.size ≤ H1.size → (∀ q : Nat, q < H.size → ¬ AX q → H1[q]? = H[q]?) → va_S A0 H0 H1 locs1 → H1[q9]? = some ce → ce.vm = .none → s.vm.findClass E = some ce.cls → vx_W p l e R s m args below meth c H1 locs1 (cells + mc) (slots + ms) Q (F0 m pc ls rest) q9)
    (kk : ∀ (r : UInt64) (u : S) (t : State) (H1 : Heap) (locs1 : List Loc), t.heap = H1 → s.vm.Alike t.vm → post r u → B u t → H.size ≤ H1.size → (∀ q : Nat, q < H.size → ¬ A1 q → H1[q]? = H[q]?) → va_S A0 H0 H1 locs1 → W p l e R s m args below meth c H1 locs1 (cells + mc) (slots + ms) Q (F0 m (pc + 3) ls (.double r :: rest))) : W p l e R s m args below meth c H locs cells slots Q (F0 m pc ls st0) := by
  intro T hT X
  rcases hr T hT X with ⟨v, st₀, t, T', L, h0, X', hL, e1, e2, ⟨⟨r, u, hv, hp, hb⟩, hF⟩, st⟩ | ⟨q, st₀, t, T', L, E, ce, h0, X', hL, e1, e2, ⟨u, hp, hb, hF⟩, hce, hcv, hcl, st⟩
  · cases hv
    obtain ⟨k1, k2, k3⟩ := vx_keep h0 e1 hS hA hf hL hF
    obtain ⟨t2, a1, b1⟩ := kk r u t T'.heap (locs ++ L) e1.symm (by rw [← e2]; exact X'.warmed.alike) hp hb k1 k2 k3 T' rfl X'
    exact ⟨t2, st t2 a1, b1⟩
  · obtain ⟨k1, k2, k3⟩ := vx_keep h0 e1 hS hAX hf hL hF
    obtain ⟨t2, a1, b1⟩ := kx E ce q u t T'.heap (locs ++ L) e1.symm (by rw [← e2]; exact X'.warmed.alike) hp hb k1 k2 k3 (by rw [e1]; exact hce) hcv hcl T' rfl X'
    exact ⟨t2, st.trans a1, b1⟩
theorem vx_callv {S SX : Type} {post : S → Prop} {px : SX → Prop} {B : S → State → Prop} {BX : String → SX → State → Prop} {AX : Nat → Prop} (hr : vx_Run p l e R s m args below meth c H locs cells slots mc ms (F0 m pc ls st0) rest (va_Qv post B A1 a) (vx_X px BX AX) free) (hS : va_S A0 H0 H locs) (hA : ∀ q, q < H.size → A1 q → A0 q) (hf : ∀ q, free q → A0 q) (hAX : ∀ q, q < H.size → AX q → A0 q)
    (kx : ∀ (E : String) (ce : Cell) (q9 : Addr) (u : SX) (t : State) (H1 : Heap) (locs1 : List Loc), t.heap = H1 → s.vm.Alike t.vm → px u → BX E u t → H.size ≤ H1.size → (∀ q : Nat, q < H.size → ¬ AX q → H1[q]? = H[q]?) → va_S A0 H0 H1 locs1 → H1[q9]? = some ce → ce.vm = .none → s.vm.findClass E = some ce.cls → vx_W p l e R s m args below meth c H1 locs1 (cells + mc) (slots + ms) Q (F0 m pc ls rest) q9)
    (kk : ∀ (u : S) (t : State) (H1 : Heap) (locs1 : List Loc), t.heap = H1 → s.vm.Alike t.vm → post u → B u t → H.size ≤ H1.size → (∀ q : Nat, q < H.size → ¬ A1 q → H1[q]? = H[q]?) → va_S A0 H0 H1 locs1 → W p l e R s m args below meth c H1 locs1 (cells + mc) (slots + ms) Q (F0 m (pc + 3) ls (rest))) : W p l e R s m args below meth c H locs cells slots Q (F0 m pc ls st0) := by
  intro T hT X
  rcases hr T hT X with ⟨v, st₀, t, T', L, h0, X', hL, e1, e2, ⟨⟨u, hv, hp, hb⟩, hF⟩, st⟩ | ⟨q, st₀, t, T', L, E, ce, h0, X', hL, e1, e2, ⟨u, hp, hb, hF⟩, hce, hcv, hcl, st⟩
  · cases hv
    obtain ⟨k1, k2, k3⟩ := vx_keep h0 e1 hS hA hf hL hF
    obtain ⟨t2, a1, b1⟩ := kk u t T'.heap (locs ++ L) e1.symm (by rw [← e2]; exact X'.warmed.alike) hp hb k1 k2 k3 T' rfl X'
    exact ⟨t2, st t2 a1, b1⟩
  · obtain ⟨k1, k2, k3⟩ := vx_keep h0 e1 hS hAX hf hL hF
    obtain ⟨t2, a1, b1⟩ := kx E ce q u t T'.heap (locs ++ L) e1.symm (by rw [← e2]; exact X'.warmed.alike) hp hb k1 k2 k3 (by rw [e1]; exact hce) hcv hcl T' rfl X'
    exact ⟨t2, st.trans a1, b1⟩
/-- caught by the row x of this method's table; the rows ahead don't take it -/
theorem vx_catch {own name : String} {E : String} {ce : Cell} {q : Addr} (hown : s.vm.findClass own = some m.cls) (pre : List ExceptionTableEntry) (x : ExceptionTableEntry) (suf : List ExceptionTableEntry) (hsplit : c.exceptionTable.toList = pre ++ x :: suf)
    (hpass : ∀ z ∈ pre, covers z pc = false ∨ (z.catchType ≠ 0 ∧ ∃ nm : String, (Cond.classLink own z.catchType nm).before args s = true ∧ va_Nc E nm s)) (hx : covers x pc = true) (h0 : x.catchType ≠ 0)
    (hlink : (Cond.classLink own x.catchType name).before args s = true) (hcast : (Cond.castable E name).before args s = true) (hcell : H[q]? = some ce) (hv : ce.vm = .none) (hcl : s.vm.findClass E = some ce.cls)
    (kk : W p l e R s m args below meth c H locs cells slots Q (F0 m x.handlerPc ls [.ref q])) : vx_W p l e R s m args below meth c H locs cells slots Q (F0 m pc ls rest) q := by
  intro T hT X
  have hpl : e.platform.magicAccessors = ({} : Platform).magicAccessors := by rw [X.admits.platform]
  obtain ⟨c3, c4, hc3, hc4, hasg⟩ := Cond.castable_spec hcast
  cases Option.some.inj (hc3.symm.trans hcl)
  obtain ⟨c5, hc5, hcl5⟩ := Cond.classLink_spec hown hlink e.platform hpl
  cases Option.some.inj (hc4.symm.trans hc5)
  obtain ⟨vm', X', st⟩ := X.thenCaughtThrough q (g := F0 m pc ls rest) rfl (Steps.refl _) (by rw [hT]; exact hcell) (by rw [hv]; rfl) (by obtain ⟨k9, h9, -⟩ := Vm.findClass_spec hcl; exact ⟨k9, h9⟩) pre x suf hsplit
    (fun z hz => by
      rcases hpass z hz with h | ⟨hz0, nm, hl1, hn1⟩
      · exact Or.inl h
      · obtain ⟨c6, hc6, hcl6⟩ := Cond.classLink_spec hown hl1 e.platform hpl
        obtain ⟨a8, b8, h1, h2, h3⟩ := hn1
        cases Option.some.inj (h1.symm.trans hcl)
        cases Option.some.inj (h2.symm.trans hc6)
        exact Or.inr ⟨hz0, _, hcl6, h3⟩) hx (Or.inr ⟨h0, c4, hcl5, hasg⟩)
  obtain ⟨t, a1, b1⟩ := kk (T.setVm vm') hT X'
  exact ⟨t, st.trans a1, b1⟩
end Rows
section Ends
variable {p : Program} {l : Launch} {e : Env} {R : Room} {s : State} {m : MethodId} {args : Array Value} {below : List Frame} {meth : Method} {c : Code} {H : Heap} {locs : List Loc} {cells slots : Nat} {Q : State → Prop}
variable {mc ms : Nat} {free : Addr → Prop} {A0 A1 : Nat → Prop} {H0 : Heap} {a : Array Value} {ls : Array Slot} {st0 rest : List Value}
variable {Qc : Array Value → State → Outcome → State → Prop} {XC : String → State → State → Prop}
/-- what a body that may throw owes at its end -/
def vx_MQ (below : List Frame) (Qc : Array Value → State → Outcome → State → Prop) (XC : String → State → State → Prop) (a : Array Value) (s : State) (mc ms : Nat) (free : Addr → Prop) : State → Prop := fun t =>
  ∃ o, t.status = .running ∧ Ended t below o ∧ vx_Q Qc XC mc ms free a s o t
theorem vx_ret {g : JFrame} {mc ms : Nat} (k : W p l e R s m args below meth c H locs cells slots (MQ below Qc args s mc ms free) g) : W p l e R s m args below meth c H locs cells slots (vx_MQ below Qc XC args s mc ms free) g := by
  intro T hT X
  obtain ⟨t, a1, o, b1, b2, b3, b4⟩ := k T hT X
  exact ⟨t, a1, o, b1, b2, Or.inl ⟨b3, b4⟩⟩
/-- not caught here: it goes on to the caller -/
theorem vx_widen {g : JFrame} {q : Addr} {k n : Nat} (h1 : cells ≤ k) (h2 : slots ≤ n) (kk : vx_W p l e R s m args below meth c H locs k n Q g q) : vx_W p l e R s m args below meth c H locs cells slots Q g q := fun T hT X => kk T hT (stand_widen X h1 h2)
theorem vx_out {pc : Nat} {E : String} {ce : Cell} {q : Addr} {mc ms : Nat} (hout : ∀ x ∈ c.exceptionTable.toList, covers x pc = false) (hlocks : meth.locks = false) (hcell : H[q]? = some ce) (hv : ce.vm = .none) (hcl : s.vm.findClass E = some ce.cls)
    (hx : ∀ t : State, t.heap = H → s.vm.Alike t.vm → XC E s t) (hf : ∀ z ∈ locs, free z.base) (hc : cells ≤ mc) (hs : slots ≤ ms) :
    vx_W p l e R s m args below meth c H locs cells slots (vx_MQ below Qc XC args s mc ms free) (F0 m pc ls rest) q := by
  intro T hT X
  obtain ⟨st1, hrun, hend, hW, hsm⟩ := X.leaveThrown q (g := F0 m pc ls rest) rfl rfl rfl hout hlocks
  have hcell9 : (T.setFrames (.throwing q :: below)).heap[q]? = some ce := by
    show T.heap[q]? = some ce
    rw [hT]; exact hcell
  exact ⟨_, st1, .threw q, hrun, hend, Or.inr ⟨q, rfl, E, ce, locs, hx _ hT hW.alike, hcell9, hv, hcl, hW, hsm.mono hc hs, hf⟩⟩
theorem vx_frame {U : State} {k n : Nat} (h : s.sameButNew ({ U with vm := s.vm } : State) locs k n) : s.heap.size ≤ U.heap.size ∧ ∀ q : Nat, q < s.heap.size → (∀ z ∈ locs, z.base ≠ q) → U.heap[q]? = s.heap[q]? := by
  obtain ⟨-, h2, -, -, -, h6⟩ := h
  refine ⟨h2, fun q hq hz => ?_⟩
  obtain ⟨c9, e1, e2, e3, e4⟩ := h6 q _ (Array.getElem?_eq_getElem hq)
  have hs : c9.slots = (s.heap[q]).slots := Array.ext_getElem? fun i => e4 i fun hm => hz _ hm rfl
  have h9 : c9 = s.heap[q] := by
    rw [hs] at e2
    exact e2
  have e5 : U.heap[q]? = some c9 := e1
  rw [e5, h9, Array.getElem?_eq_getElem hq]
/-- the words of a throw but the four that speak of the heap -/
def vx_no (w : Cond) : Bool := decide (w ≠ .isRef (.static Bundle.tN "UNASSIGNED_STACK" Bundle.steD)) && decide (w ≠ .isRef (.static Bundle.tN "SUPPRESSED_SENTINEL" Bundle.listD)) && decide (w ≠ .laysStatic Bundle.tN "UNASSIGNED_STACK" Bundle.steD) && decide (w ≠ .laysStatic Bundle.tN "SUPPRESSED_SENTINEL" Bundle.listD)
def vx_at0 (own : String) (ic : Nat) (X : String) (names : List String) : List Cond := (Bundle.ownAtoms0 own ic X names).filter vx_no
def vx_atS (own : String) (ic : Nat) (X : String) (names : List String) : List Cond := (Bundle.ownAtoms own ic X names).filter vx_no
/-- a word that the tables alone decide, or a good one -/
def vx_ot (w : Cond) : Bool := w.onTables || goodWord w
theorem vx_ot_at {args a' : Array Value} {s U : State} {w : Cond} (hW : s.WarmedH U.vm) (hvm : s.vm = U.vm) (hg : vx_ot w = true) (h : w.before args s = true) : w.before a' U = true := by
  simp only [vx_ot, Bool.or_eq_true] at hg
  rcases hg with hg | hg
  · exact va_tabs hg hvm h
  · exact word_at hW (good_of_word hg) h
/-- a list's words: the good ones out of the method's own list, the others by premises of their own -/
theorem vx_hat {args : Array Value} {s : State} {L B : List Cond} (h1 : ∀ w ∈ L.filter goodWord, w.before args s = true) (h2 : ∀ w ∈ L.filter (fun w => !goodWord w), w ∈ B) (h3 : ∀ w ∈ B, w.before args s = true) : ∀ w ∈ L, w.before args s = true := by
  intro w hw
  by_cases g : goodWord w = true
  · exact h1 w (List.mem_filter.mpr ⟨hw, g⟩)
  · refine h3 w (h2 w (List.mem_filter.mpr ⟨hw, ?_⟩))
    show (!goodWord w) = true
    cases hgw : goodWord w
    · rfl
    · exact absurd hgw g
theorem vx_c {args : Array Value} {s : State} {w : Cond} {B : List Cond} (h : w.before args s = true) (t : ∀ w ∈ B, w.before args s = true) : ∀ w' ∈ w :: B, w'.before args s = true := fun w' h' => (List.mem_cons.mp h').elim (fun e => by rw [e]; exact h) (t w')
theorem vx_n {args : Array Value} {s : State} : ∀ w ∈ ([] : List Cond), w.before args s = true := fun _ h => nomatch h
theorem vx_own {args : Array Value} {s : State} {L : List Cond} (h1 : ∀ w ∈ L.filter vx_no, w.before args s = true)
    (hU : (Cond.isRef (.static Bundle.tN "UNASSIGNED_STACK" Bundle.steD)).before args s = true) (hN : (Cond.isRef (.static Bundle.tN "SUPPRESSED_SENTINEL" Bundle.listD)).before args s = true)
    (lU : (Cond.laysStatic Bundle.tN "UNASSIGNED_STACK" Bundle.steD).before args s = true) (lN : (Cond.laysStatic Bundle.tN "SUPPRESSED_SENTINEL" Bundle.listD).before args s = true) : ∀ w ∈ L, w.before args s = true := by
  intro w hw
  by_cases e1 : w = .isRef (.static Bundle.tN "UNASSIGNED_STACK" Bundle.steD)
  · rw [e1]; exact hU
  · by_cases e2 : w = .isRef (.static Bundle.tN "SUPPRESSED_SENTINEL" Bundle.listD)
    · rw [e2]; exact hN
    · by_cases e3 : w = .laysStatic Bundle.tN "UNASSIGNED_STACK" Bundle.steD
      · rw [e3]; exact lU
      · by_cases e4 : w = .laysStatic Bundle.tN "SUPPRESSED_SENTINEL" Bundle.listD
        · rw [e4]; exact lN
        · exact h1 w (List.mem_filter.mpr ⟨hw, by unfold vx_no; rw [decide_eq_true e1, decide_eq_true e2, decide_eq_true e3, decide_eq_true e4]; rfl⟩)
/-- where a static field lies, its class's statics cell in H -/
def vx_L (C n d : String) (A : Nat → Prop) (U : State) (H : Heap) : Prop := ∃ (c : ClassId) (k : Class) (i : Nat) (f : Field) (a : Nat) (cell : Cell), U.vm.findClass C = some c ∧ U.fieldFound? C n d = some (c, k, i, f) ∧ f.isStatic = true ∧ k.statics = some a ∧ H[a]? = some cell ∧ cell.vm.isStatics = true ∧ cell.cls = c ∧ f.slot < cell.slots.size ∧ k.staticTypes[f.slot]? = some f.type ∧ ¬ A a
theorem vx_L.moved {C n d : String} {A : Nat → Prop} {u U : State} {H : Heap} (hvm : u.vm.Alike U.vm) (h : vx_L C n d A u H) : vx_L C n d A U H := by
  obtain ⟨c, k, i, f, a, cell, h1, h2, h3, h4, h5, h6, h7, h8, h9, h10⟩ := h
  obtain ⟨k', hi', he⟩ := State.fieldFound?_setVm hvm h2
  exact ⟨c, k', i, f, a, cell, by rw [hvm.findClass]; exact h1, hi', h3, by rw [he]; exact h4, h5, h6, h7, h8, by rw [he]; exact h9, h10⟩
theorem vx_L.kept {C n d : String} {A : Nat → Prop} {U : State} {H H1 : Heap} (h : vx_L C n d A U H) (hq : ∀ a : Nat, a < H.size → ¬ A a → H1[a]? = H[a]?) : vx_L C n d A U H1 := by
  obtain ⟨c, k, i, f, a, cell, h1, h2, h3, h4, h5, h6, h7, h8, h9, h10⟩ := h
  exact ⟨c, k, i, f, a, cell, h1, h2, h3, h4, by rw [hq a (Array.getElem?_eq_some_iff.mp h5).1 h10]; exact h5, h6, h7, h8, h9, h10⟩
theorem vx_L.narrow {C n d : String} {A B : Nat → Prop} {U : State} {H : Heap} (h : vx_L C n d A U H) (hAB : ∀ q, B q → A q) : vx_L C n d B U H := by
  obtain ⟨c, k, i, f, a, cell, h1, h2, h3, h4, h5, h6, h7, h8, h9, h10⟩ := h
  exact ⟨c, k, i, f, a, cell, h1, h2, h3, h4, h5, h6, h7, h8, h9, fun z => h10 (hAB _ z)⟩
theorem vx_L.word {C n d : String} {A : Nat → Prop} {s : State} {args : Array Value} (h : vx_L C n d A s s.heap) : (Cond.laysStatic C n d).before args s = true := by
  obtain ⟨c, k, i, f, a, cell, h1, h2, h3, h4, h5, h6, h7, h8, h9, -⟩ := h
  show (Cond.laysStatic C n d).holds args s none s [] = true
  exact Cond.laysStatic_of h1 h2 h3 h4 h5 h6 h7 h8 h9
/-- .. and what it holds: null or some reference -/
def vx_Zq (C n d : String) (A : Nat → Prop) (U : State) (H : Heap) : Prop := va_Zq C n d A U H ∧ vx_L C n d A U H
theorem vx_Zq.moved {C n d : String} {A : Nat → Prop} {u U : State} {H : Heap} (hvm : u.vm.Alike U.vm) (h : vx_Zq C n d A u H) : vx_Zq C n d A U H := ⟨va_Zq.moved hvm h.1, vx_L.moved hvm h.2⟩
theorem vx_Zq.kept {C n d : String} {A : Nat → Prop} {U : State} {H H1 : Heap} (h : vx_Zq C n d A U H) (hq : ∀ a : Nat, a < H.size → ¬ A a → H1[a]? = H[a]?) : vx_Zq C n d A U H1 := ⟨va_Zq.kept h.1 hq, vx_L.kept h.2 hq⟩
theorem vx_Zq.narrow {C n d : String} {A B : Nat → Prop} {U : State} {H : Heap} (h : vx_Zq C n d A U H) (hAB : ∀ q, B q → A q) : vx_Zq C n d B U H := ⟨va_Zq.narrow h.1 hAB, vx_L.narrow h.2 hAB⟩
theorem vx_Zqof {args : Array Value} {s : State} {C n d : String} {A : Nat → Prop} (hl : (Cond.laysStatic C n d).before args s = true) (hini : (Cond.initialized C).before args s = true) (h : (Cond.isRef (.static C n d)).before args s = true) (hA : ∀ a : Nat, a < s.heap.size → ¬ A a) : vx_Zq C n d A s s.heap := by
  refine ⟨va_Zqof hl hini h hA, ?_⟩
  obtain ⟨c, k, i, f, a, cell, h1, h2, h3, h4, h5, h6, h7, h8, h9⟩ := Cond.laysStatic_spec hl
  exact ⟨c, k, i, f, a, cell, h1, h2, h3, h4, h5, h6, h7, h8, h9, hA a (Array.getElem?_eq_some_iff.mp h5).1⟩
theorem vx_isRef {C n d : String} {v : Value} {A : Nat → Prop} {s : State} {args : Array Value} (h : va_Z C n d v A s s.heap) (hv : v.isRef = true) : (Cond.isRef (.static C n d)).before args s = true := by
  obtain ⟨cf, kf, fi, f, a, cell, h1, h2, h3, h4, h5, h6, h7, -⟩ := h
  have he : (Term.static C n d).eval args s none [] s = some v := by
    simp [Term.eval, State.fieldNamed?, h1, h2, h4, h5, h6, h7]
  simp only [Cond.before, Cond.holds, Cond.value, he]
  cases v <;> simp_all [Value.isRef]
theorem vx_isRefq {C n d : String} {A : Nat → Prop} {s : State} {args : Array Value} (h : va_Zq C n d A s s.heap) : (Cond.isRef (.static C n d)).before args s = true := by
  rcases h with h | ⟨t, h⟩
  · exact vx_isRef h rfl
  · exact vx_isRef h rfl
/-- the same frame, seen from here: as if the method were called anew in this heap -/
theorem vx_rebase {T : State} (X : Stand p l e R s m args below meth c T locs cells slots) {R' : Room} (hf : R'.frames ≤ R.frames) (hl : R'.locals ≤ R.locals) (hc : cells + R'.cells ≤ R.cells) (hs : slots + R'.slots ≤ R.slots) :
    Stand p l e R' ((T.setVm s.vm).setFrames (.invoking m args :: below)) m args below meth c T [] 0 0 := by
  have htop : (T.setVm s.vm).topJava?.isSome := X.here.top
  have hF : ((T.setVm s.vm).setFrames (.invoking m args :: below)).frames = .invoking m args :: below := State.frames_setFrames _ (State.cur_lt_of_top htop)
  obtain ⟨g₀, hg0⟩ := Option.isSome_iff_exists.mp htop
  obtain ⟨r, hr⟩ := State.topJava?_eq_some.mp hg0
  have hl9 : e.platform.stackLimits (T.setVm s.vm).me = e.platform.stackLimits s.me := X.limits
  have hb9 : (T.setVm s.vm).me.stackBytes = s.me.stackBytes := X.bytes
  refine ⟨X.admits, X.cas, X.clock, hF, ?_, X.hears, X.method, X.code, X.here, X.tail, X.warmed, ?_, ?_, ?_⟩
  · have h := X.room
    have hU : ((T.setVm s.vm).setFrames (.invoking m args :: below)).localsInUse = s.localsInUse := by
      rw [State.localsInUse_invoking hF (meth := meth) (c := c) X.method X.code, State.localsInUse_invoking X.frames X.method X.code]
    simp only [State.hasRoom, Bool.and_eq_true, decide_eq_true_eq] at h ⊢
    obtain ⟨⟨⟨⟨h1, h2, h3, h4, h5, h6⟩, h7⟩, h8⟩, h9⟩ := h
    rw [X.frames, List.length_cons] at h2 h3
    have q1 := X.heapSize
    have q2 := X.used
    simp only [hF, hU, List.length_cons, State.stackLimits_setFrames, State.stackBytes_setFrames, hl9, hb9]
    refine ⟨⟨⟨⟨by omega, by omega, by omega, by omega, by omega, h6⟩, ?_⟩, ?_⟩, X.book⟩
    · show T.heap.size + R'.cells ≤ e.platform.maxCells
      omega
    · show T.slotsUsed + R'.slots ≤ e.platform.maxSlots
      omega
  · rw [State.stackLimits_setFrames]; rfl
  · rw [State.stackBytes_setFrames]; rfl
  · refine ⟨?_, Nat.le_refl _, Nat.le_refl _, ?_, ?_, fun a c9 h9 => ⟨c9, h9, rfl, rfl, fun _ _ => rfl⟩⟩
    · obtain ⟨t, ht, -⟩ := State.frames_cons hr
      show T.setVm s.vm = { ((T.setVm s.vm).setFrames (.invoking m args :: below)).setFrames (T.setVm s.vm).frames with heap := T.heap, slotsUsed := T.slotsUsed }
      rw [State.setFrames_setFrames, State.setFrames_self ht]
      rfl
    · show T.slotsUsed = T.slotsUsed + ((T.heap.toList.drop T.heap.size).map (·.slots.size)).sum
      rw [List.drop_eq_nil_of_le (Nat.le_of_eq Array.length_toList)]
      rfl
    · show ((T.heap.toList.drop T.heap.size).map (·.slots.size)).sum ≤ 0
      rw [List.drop_eq_nil_of_le (Nat.le_of_eq Array.length_toList)]
      exact Nat.le_refl _
/-- 'throw new E()': new; dup; invokespecial; athrow -/
theorem vx_throw0 {cc : ByteArray} {pc : Nat} (hexec : p.tables.exec = Jvm.exec) (hb : c.code = cc) (hl : l.stackTraces = false) {own cls : String} {names : List String} {ik ic mc ms : Nat} {A : Nat → Prop}
    (hown : s.vm.findClass own = some m.cls) (hcls : Bundle.fit cls = true) (hnames : ∀ n ∈ names, Bundle.fit n = true)
    (hk : (Cond.classLink own ik cls).before args s = true) (hini : (Cond.initialized cls).before args s = true) (hat : ∀ w ∈ vx_at0 own ic cls names, w.before args s = true)
    (hgood : ∀ w ∈ Cond.classLink own ik cls :: Cond.initialized cls :: vx_at0 own ic cls names, vx_ot w = true)
    (hU : vx_Zq Bundle.tN "UNASSIGNED_STACK" Bundle.steD A s s.heap) (hN : vx_Zq Bundle.tN "SUPPRESSED_SENTINEL" Bundle.listD A s s.heap) (hS : va_S A s.heap H locs) (hsize : ls.size = c.maxLocals)
    (d0 : decode cc pc = .ok (.new ik, 3)) (d3 : decode cc (pc + 3) = .ok (.dup, 1)) (d4 : decode cc (pc + 4) = .ok (.invokespecial ic, 3)) (d7 : decode cc (pc + 7) = .ok (.athrow, 1))
    (hout : ∀ x ∈ c.exceptionTable.toList, covers x (pc + 7) = false)
    (hRframes : names.length + 3 < R.frames) (hRlocals : (rest.map fun v => v.category).sum + (13 * (names.length + 1) + 42) ≤ R.locals) (hRcells : cells + 1 ≤ R.cells) (hRslots : slots + 6 ≤ R.slots) (hlocks : meth.locks = false)
    (hx : ∀ t : State, s.vm.Alike t.vm → H.size ≤ t.heap.size → (∀ q : Nat, q < H.size → t.heap[q]? = H[q]?) → XC cls s t)
    (hf : ∀ z ∈ locs, free z.base) (hc : cells + 1 ≤ mc) (hs : slots + 6 ≤ ms) :
    W p l e R s m args below meth c H locs cells slots (vx_MQ below Qc XC args s mc ms free) (F0 m pc ls rest) := by
  intro T hT X
  have htr : e.platform.stackTraces = false := (show e.platform.stackTraces = l.stackTraces by rw [X.admits.platform]).trans hl
  have Y := vx_rebase X (R' := { frames := R.frames, locals := R.locals, cells := 1, slots := 6 }) (Nat.le_refl _) (Nat.le_refl _) hRcells hRslots
  obtain ⟨s', hA⟩ : ∃ z, z = (T.setVm s.vm).setFrames (.invoking m args :: below) := ⟨_, rfl⟩
  rw [← hA] at Y
  have hvm : s'.vm = s.vm := by rw [hA]; rfl
  have hhp : s'.heap = H := by rw [hA]; exact hT
  have hW0 : s.WarmedH s'.vm := by rw [hvm]; exact State.WarmedH.refl s
  have hat' : ∀ w ∈ vx_at0 own ic cls names, w.before args s' = true := fun w hw => vx_ot_at hW0 hvm.symm (hgood w (List.mem_cons_of_mem _ (List.mem_cons_of_mem _ hw))) (hat w hw)
  have hk' : (Cond.classLink own ik cls).before args s' = true := vx_ot_at hW0 hvm.symm (hgood _ List.mem_cons_self) hk
  have hini' : (Cond.initialized cls).before args s' = true := vx_ot_at hW0 hvm.symm (hgood _ (List.mem_cons_of_mem _ List.mem_cons_self)) hini
  have hU' : vx_Zq Bundle.tN "UNASSIGNED_STACK" Bundle.steD A s' s'.heap := by rw [hhp]; exact vx_Zq.moved hW0.alike (hU.kept hS.2.1)
  have hN' : vx_Zq Bundle.tN "SUPPRESSED_SENTINEL" Bundle.listD A s' s'.heap := by rw [hhp]; exact vx_Zq.moved hW0.alike (hN.kept hS.2.1)
  have h : ∀ w ∈ Bundle.ownAtoms0 own ic cls names, w.before args s' = true := vx_own hat' (vx_isRefq hU'.1) (vx_isRefq hN'.1) hU'.2.word hN'.2.word
  have hown' : s'.vm.findClass own = some m.cls := by rw [hvm]; exact hown
  have hins : (Cond.instantiable cls 6).before args s' = true := h _ (by simp [Bundle.ownAtoms0])
  obtain ⟨vm₁, cX, kX, hfX, hkX, -, -, X₁, st1⟩ := Y.newCold hexec (own := own) (C := cls) (index := ik) (n := 6) hown' hk' hins hini'
    (g := F0 m pc ls rest) rfl (by rw [hb]; exact d0) (Nat.le_refl _) (Nat.le_refl _)
  generalize hT1 : (T.setVm vm₁).pushCell { cls := cX, slots := kX.instanceTypes.map defaultValue, vm := .none } = T1 at X₁ st1
  have hcat : (Value.ref T.heap.size).category = 1 := rfl
  have hcellA : T1.heap[T.heap.size]? = some (freshCell cX kX) := by rw [← hT1]; exact State.heap_pushCell_size _ _
  have d3' : decode c.code (pc + 3) = .ok (.dup, 1) := by rw [hb]; exact d3
  obtain ⟨U, hsteps, hrun, hend, hW, hsame, ce, hce, hO⟩ := X₁.ctorThrow0 hexec htr (own := own) (cls := cls) (names := names) (ic := ic) hown' hcls hnames h (fun x hx => nomatch hx) hfX hkX hcellA (by rw [hhp, hT]; exact Nat.le_refl _)
    (g := { method := m, pc := pc + 4, locals := ls, stack := .ref T.heap.size :: .ref T.heap.size :: rest, locked := none }) rfl hsize rfl rfl (rest := rest) rfl
    (by rw [hb]; exact d4) (by rw [hb]; exact d7) hout hRframes (by simp only [List.map_cons, List.sum_cons, hcat]; omega) hlocks
  obtain ⟨f1, f2⟩ := vx_frame hsame
  rw [hhp] at f1 f2
  have hWs : s.WarmedH U.vm := State.WarmedH.trans hW0 hW
  have hcl : s.vm.findClass cls = some ce.cls := by
    have h9 := hO.cls
    rw [hvm] at h9
    exact h9
  have hall : s.sameButNew ({ U with vm := s.vm } : State) locs mc ms := by
    subst hA
    obtain ⟨e1, e2⟩ := hsame
    rw [State.setFrames_setFrames] at e1
    have h2 : (T.setVm s.vm).sameButNew ({ U with vm := s.vm } : State) [] (0 + 1) (0 + 6) := ⟨e1, e2⟩
    have h3 := X.same.trans h2
    rw [List.append_nil] at h3
    exact h3.mono hc hs
  refine ⟨U, ?_, .threw T.heap.size, hrun, hend, Or.inr ⟨T.heap.size, rfl, cls, ce, locs, hx U hWs.alike f1 (fun q hq => f2 q hq (fun z hz => nomatch hz)), hce, hO.vm, hcl, hWs, hall, hf⟩⟩
  refine st1 _ ?_
  show Steps p.tables e below (T1.setTop { method := m, pc := pc + 3, locals := ls, stack := .ref T.heap.size :: rest, locked := none }) _
  jvm_step X₁.here [X₁.here.top, hexec, d3', Value.category]
  exact hsteps
/-- 'throw new E("text")': new; dup; ldc; invokespecial; athrow -/
theorem vx_throwS {cc : ByteArray} {pc : Nat} (hexec : p.tables.exec = Jvm.exec) (hb : c.code = cc) (hl : l.stackTraces = false) {own cls text : String} {names : List String} {ik is ic mc ms sa : Nat} {A : Nat → Prop}
    (hown : s.vm.findClass own = some m.cls) (hcls : Bundle.fit cls = true) (hnames : ∀ n ∈ names, Bundle.fit n = true)
    (hk : (Cond.classLink own ik cls).before args s = true) (hini : (Cond.initialized cls).before args s = true) (hstr : vk_R own is text sa s) (hat : ∀ w ∈ vx_atS own ic cls names, w.before args s = true)
    (hgood : ∀ w ∈ Cond.classLink own ik cls :: Cond.initialized cls :: vx_atS own ic cls names, vx_ot w = true)
    (hU : vx_Zq Bundle.tN "UNASSIGNED_STACK" Bundle.steD A s s.heap) (hN : vx_Zq Bundle.tN "SUPPRESSED_SENTINEL" Bundle.listD A s s.heap) (hS : va_S A s.heap H locs) (hsize : ls.size = c.maxLocals)
    (d0 : decode cc pc = .ok (.new ik, 3)) (d3 : decode cc (pc + 3) = .ok (.dup, 1)) (d4 : decode cc (pc + 4) = .ok (.ldc is, 2)) (d6 : decode cc (pc + 6) = .ok (.invokespecial ic, 3)) (d9 : decode cc (pc + 9) = .ok (.athrow, 1))
    (hout : ∀ x ∈ c.exceptionTable.toList, covers x (pc + 9) = false)
    (hRframes : names.length + 3 < R.frames) (hRlocals : (rest.map fun v => v.category).sum + (13 * (names.length + 1) + 43) ≤ R.locals) (hRcells : cells + 1 ≤ R.cells) (hRslots : slots + 6 ≤ R.slots) (hlocks : meth.locks = false)
    (hx : ∀ t : State, s.vm.Alike t.vm → H.size ≤ t.heap.size → (∀ q : Nat, q < H.size → t.heap[q]? = H[q]?) → XC cls s t)
    (hf : ∀ z ∈ locs, free z.base) (hc : cells + 1 ≤ mc) (hs : slots + 6 ≤ ms) :
    W p l e R s m args below meth c H locs cells slots (vx_MQ below Qc XC args s mc ms free) (F0 m pc ls rest) := by
  intro T hT X
  have htr : e.platform.stackTraces = false := (show e.platform.stackTraces = l.stackTraces by rw [X.admits.platform]).trans hl
  have Y := vx_rebase X (R' := { frames := R.frames, locals := R.locals, cells := 1, slots := 6 }) (Nat.le_refl _) (Nat.le_refl _) hRcells hRslots
  obtain ⟨s', hA⟩ : ∃ z, z = (T.setVm s.vm).setFrames (.invoking m args :: below) := ⟨_, rfl⟩
  rw [← hA] at Y
  have hvm : s'.vm = s.vm := by rw [hA]; rfl
  have hhp : s'.heap = H := by rw [hA]; exact hT
  have hW0 : s.WarmedH s'.vm := by rw [hvm]; exact State.WarmedH.refl s
  have hat' : ∀ w ∈ vx_atS own ic cls names, w.before args s' = true := fun w hw => vx_ot_at hW0 hvm.symm (hgood w (List.mem_cons_of_mem _ (List.mem_cons_of_mem _ hw))) (hat w hw)
  have hk' : (Cond.classLink own ik cls).before args s' = true := vx_ot_at hW0 hvm.symm (hgood _ List.mem_cons_self) hk
  have hini' : (Cond.initialized cls).before args s' = true := vx_ot_at hW0 hvm.symm (hgood _ (List.mem_cons_of_mem _ List.mem_cons_self)) hini
  have hU' : vx_Zq Bundle.tN "UNASSIGNED_STACK" Bundle.steD A s' s'.heap := by rw [hhp]; exact vx_Zq.moved hW0.alike (hU.kept hS.2.1)
  have hN' : vx_Zq Bundle.tN "SUPPRESSED_SENTINEL" Bundle.listD A s' s'.heap := by rw [hhp]; exact vx_Zq.moved hW0.alike (hN.kept hS.2.1)
  have h : ∀ w ∈ Bundle.ownAtoms own ic cls names, w.before args s' = true := vx_own hat' (vx_isRefq hU'.1) (vx_isRefq hN'.1) hU'.2.word hN'.2.word
  have hown' : s'.vm.findClass own = some m.cls := by rw [hvm]; exact hown
  have hins : (Cond.instantiable cls 6).before args s' = true := h _ (by simp [Bundle.ownAtoms])
  obtain ⟨vm₁, cX, kX, hfX, hkX, -, -, X₁, st1⟩ := Y.newCold hexec (own := own) (C := cls) (index := ik) (n := 6) hown' hk' hins hini'
    (g := F0 m pc ls rest) rfl (by rw [hb]; exact d0) (Nat.le_refl _) (Nat.le_refl _)
  generalize hT1 : (T.setVm vm₁).pushCell { cls := cX, slots := kX.instanceTypes.map defaultValue, vm := .none } = T1 at X₁ st1
  have hcat : (Value.ref T.heap.size).category = 1 := rfl
  have hcellA : T1.heap[T.heap.size]? = some (freshCell cX kX) := by rw [← hT1]; exact State.heap_pushCell_size _ _
  have d3' : decode c.code (pc + 3) = .ok (.dup, 1) := by rw [hb]; exact d3
  have d4' : decode c.code (pc + 4) = .ok (.ldc is, 2) := by rw [hb]; exact d4
  have hstr' : vk_R own is text sa s' := vk_R.warm hW0 hstr
  obtain ⟨U, hsteps, hrun, hend, hW, hsame, ce, hce, hO⟩ := X₁.ctorThrowS hexec htr (own := own) (cls := cls) (names := names) (ic := ic) hown' hcls hnames h (fun x hx => nomatch hx) hfX hkX hcellA (by rw [hhp, hT]; exact Nat.le_refl _) (msg := .ref sa) rfl
    (g := { method := m, pc := pc + 6, locals := ls, stack := .ref sa :: .ref T.heap.size :: .ref T.heap.size :: rest, locked := none }) rfl hsize rfl rfl (rest := rest) rfl
    (by rw [hb]; exact d6) (by rw [hb]; exact d9) hout hRframes (by simp only [List.map_cons, List.sum_cons, hcat]; omega) hlocks
  obtain ⟨f1, f2⟩ := vx_frame hsame
  rw [hhp] at f1 f2
  have hWs : s.WarmedH U.vm := State.WarmedH.trans hW0 hW
  have hcl : s.vm.findClass cls = some ce.cls := by
    have h9 := hO.cls
    rw [hvm] at h9
    exact h9
  have hall : s.sameButNew ({ U with vm := s.vm } : State) locs mc ms := by
    subst hA
    obtain ⟨e1, e2⟩ := hsame
    rw [State.setFrames_setFrames] at e1
    have h2 : (T.setVm s.vm).sameButNew ({ U with vm := s.vm } : State) [] (0 + 1) (0 + 6) := ⟨e1, e2⟩
    have h3 := X.same.trans h2
    rw [List.append_nil] at h3
    exact h3.mono hc hs
  refine ⟨U, ?_, .threw T.heap.size, hrun, hend, Or.inr ⟨T.heap.size, rfl, cls, ce, locs, hx U hWs.alike f1 (fun q hq => f2 q hq (fun z hz => nomatch hz)), hce, hO.vm, hcl, hWs, hall, hf⟩⟩
  refine st1 _ ?_
  show Steps p.tables e below (T1.setTop { method := m, pc := pc + 3, locals := ls, stack := .ref T.heap.size :: rest, locked := none }) _
  jvm_step X₁.here [X₁.here.top, hexec, d3', Value.category]
  exact X₁.ldcString hexec (own := own) (text := text) (index := is) (a := sa) hown' hstr'.1 hstr'.2
    (g := { method := m, pc := pc + 4, locals := ls, stack := .ref T.heap.size :: .ref T.heap.size :: rest, locked := none }) rfl d4' _ hsteps
/-- 'throw new E("text")', the text by a wide index -/
theorem vx_throwSW {cc : ByteArray} {pc : Nat} (hexec : p.tables.exec = Jvm.exec) (hb : c.code = cc) (hl : l.stackTraces = false) {own cls text : String} {names : List String} {ik is ic mc ms sa : Nat} {A : Nat → Prop}
    (hown : s.vm.findClass own = some m.cls) (hcls : Bundle.fit cls = true) (hnames : ∀ n ∈ names, Bundle.fit n = true)
    (hk : (Cond.classLink own ik cls).before args s = true) (hini : (Cond.initialized cls).before args s = true) (hstr : vk_R own is text sa s) (hat : ∀ w ∈ vx_atS own ic cls names, w.before args s = true)
    (hgood : ∀ w ∈ Cond.classLink own ik cls :: Cond.initialized cls :: vx_atS own ic cls names, vx_ot w = true)
    (hU : vx_Zq Bundle.tN "UNASSIGNED_STACK" Bundle.steD A s s.heap) (hN : vx_Zq Bundle.tN "SUPPRESSED_SENTINEL" Bundle.listD A s s.heap) (hS : va_S A s.heap H locs) (hsize : ls.size = c.maxLocals)
    (d0 : decode cc pc = .ok (.new ik, 3)) (d3 : decode cc (pc + 3) = .ok (.dup, 1)) (d4 : decode cc (pc + 4) = .ok (.ldc_w is, 3)) (d7 : decode cc (pc + 7) = .ok (.invokespecial ic, 3)) (d10 : decode cc (pc + 10) = .ok (.athrow, 1))
    (hout : ∀ x ∈ c.exceptionTable.toList, covers x (pc + 10) = false)
    (hRframes : names.length + 3 < R.frames) (hRlocals : (rest.map fun v => v.category).sum + (13 * (names.length + 1) + 43) ≤ R.locals) (hRcells : cells + 1 ≤ R.cells) (hRslots : slots + 6 ≤ R.slots) (hlocks : meth.locks = false)
    (hx : ∀ t : State, s.vm.Alike t.vm → H.size ≤ t.heap.size → (∀ q : Nat, q < H.size → t.heap[q]? = H[q]?) → XC cls s t)
    (hf : ∀ z ∈ locs, free z.base) (hc : cells + 1 ≤ mc) (hs : slots + 6 ≤ ms) :
    W p l e R s m args below meth c H locs cells slots (vx_MQ below Qc XC args s mc ms free) (F0 m pc ls rest) := by
  intro T hT X
  have htr : e.platform.stackTraces = false := (show e.platform.stackTraces = l.stackTraces by rw [X.admits.platform]).trans hl
  have Y := vx_rebase X (R' := { frames := R.frames, locals := R.locals, cells := 1, slots := 6 }) (Nat.le_refl _) (Nat.le_refl _) hRcells hRslots
  obtain ⟨s', hA⟩ : ∃ z, z = (T.setVm s.vm).setFrames (.invoking m args :: below) := ⟨_, rfl⟩
  rw [← hA] at Y
  have hvm : s'.vm = s.vm := by rw [hA]; rfl
  have hhp : s'.heap = H := by rw [hA]; exact hT
  have hW0 : s.WarmedH s'.vm := by rw [hvm]; exact State.WarmedH.refl s
  have hat' : ∀ w ∈ vx_atS own ic cls names, w.before args s' = true := fun w hw => vx_ot_at hW0 hvm.symm (hgood w (List.mem_cons_of_mem _ (List.mem_cons_of_mem _ hw))) (hat w hw)
  have hk' : (Cond.classLink own ik cls).before args s' = true := vx_ot_at hW0 hvm.symm (hgood _ List.mem_cons_self) hk
  have hini' : (Cond.initialized cls).before args s' = true := vx_ot_at hW0 hvm.symm (hgood _ (List.mem_cons_of_mem _ List.mem_cons_self)) hini
  have hU' : vx_Zq Bundle.tN "UNASSIGNED_STACK" Bundle.steD A s' s'.heap := by rw [hhp]; exact vx_Zq.moved hW0.alike (hU.kept hS.2.1)
  have hN' : vx_Zq Bundle.tN "SUPPRESSED_SENTINEL" Bundle.listD A s' s'.heap := by rw [hhp]; exact vx_Zq.moved hW0.alike (hN.kept hS.2.1)
  have h : ∀ w ∈ Bundle.ownAtoms own ic cls names, w.before args s' = true := vx_own hat' (vx_isRefq hU'.1) (vx_isRefq hN'.1) hU'.2.word hN'.2.word
  have hown' : s'.vm.findClass own = some m.cls := by rw [hvm]; exact hown
  have hins : (Cond.instantiable cls 6).before args s' = true := h _ (by simp [Bundle.ownAtoms])
  obtain ⟨vm₁, cX, kX, hfX, hkX, -, -, X₁, st1⟩ := Y.newCold hexec (own := own) (C := cls) (index := ik) (n := 6) hown' hk' hins hini'
    (g := F0 m pc ls rest) rfl (by rw [hb]; exact d0) (Nat.le_refl _) (Nat.le_refl _)
  generalize hT1 : (T.setVm vm₁).pushCell { cls := cX, slots := kX.instanceTypes.map defaultValue, vm := .none } = T1 at X₁ st1
  have hcat : (Value.ref T.heap.size).category = 1 := rfl
  have hcellA : T1.heap[T.heap.size]? = some (freshCell cX kX) := by rw [← hT1]; exact State.heap_pushCell_size _ _
  have d3' : decode c.code (pc + 3) = .ok (.dup, 1) := by rw [hb]; exact d3
  have d4' : decode c.code (pc + 4) = .ok (.ldc_w is, 3) := by rw [hb]; exact d4
  have hstr' : vk_R own is text sa s' := vk_R.warm hW0 hstr
  obtain ⟨U, hsteps, hrun, hend, hW, hsame, ce, hce, hO⟩ := X₁.ctorThrowS hexec htr (own := own) (cls := cls) (names := names) (ic := ic) hown' hcls hnames h (fun x hx => nomatch hx) hfX hkX hcellA (by rw [hhp, hT]; exact Nat.le_refl _) (msg := .ref sa) rfl
    (g := { method := m, pc := pc + 7, locals := ls, stack := .ref sa :: .ref T.heap.size :: .ref T.heap.size :: rest, locked := none }) rfl hsize rfl rfl (rest := rest) rfl
    (by rw [hb]; exact d7) (by rw [hb]; exact d10) hout hRframes (by simp only [List.map_cons, List.sum_cons, hcat]; omega) hlocks
  obtain ⟨f1, f2⟩ := vx_frame hsame
  rw [hhp] at f1 f2
  have hWs : s.WarmedH U.vm := State.WarmedH.trans hW0 hW
  have hcl : s.vm.findClass cls = some ce.cls := by
    have h9 := hO.cls
    rw [hvm] at h9
    exact h9
  have hall : s.sameButNew ({ U with vm := s.vm } : State) locs mc ms := by
    subst hA
    obtain ⟨e1, e2⟩ := hsame
    rw [State.setFrames_setFrames] at e1
    have h2 : (T.setVm s.vm).sameButNew ({ U with vm := s.vm } : State) [] (0 + 1) (0 + 6) := ⟨e1, e2⟩
    have h3 := X.same.trans h2
    rw [List.append_nil] at h3
    exact h3.mono hc hs
  refine ⟨U, ?_, .threw T.heap.size, hrun, hend, Or.inr ⟨T.heap.size, rfl, cls, ce, locs, hx U hWs.alike f1 (fun q hq => f2 q hq (fun z hz => nomatch hz)), hce, hO.vm, hcl, hWs, hall, hf⟩⟩
  refine st1 _ ?_
  show Steps p.tables e below (T1.setTop { method := m, pc := pc + 3, locals := ls, stack := .ref T.heap.size :: rest, locked := none }) _
  jvm_step X₁.here [X₁.here.top, hexec, d3', Value.category]
  exact X₁.ldcStringW hexec (own := own) (text := text) (index := is) (a := sa) hown' hstr'.1 hstr'.2
    (g := { method := m, pc := pc + 4, locals := ls, stack := .ref T.heap.size :: .ref T.heap.size :: rest, locked := none }) rfl d4' _ hsteps
end Ends
section Bodies
variable {l : Launch}
theorem vx_ofW {y : MethodName} {ws ws' : List Cond} {rm : Room} {Pc : Array Value → State → Prop} {Qc : Array Value → State → Outcome → State → Prop} {XC : String → State → State → Prop} {mc ms : Nat} {free : Addr → Prop} {cc : ByteArray} {maxL : Nat} {ret : Option FieldType}
    (hy : plainName y.cls = true) (hw : ws = Cond.code y cc maxL ret :: ws')
    (body : ∀ p e s m args below meth c s₁, BodyLoose p l y (headSpec ws rm) cc maxL ret e s m args below meth c s₁ → c.maxLocals = maxL → (∀ x ∈ c.exceptionTable.toList, False) → Pc args s →
      W p l e (headSpec ws rm).room s m args below meth c s.heap [] 0 0 (vx_MQ below Qc XC args s mc ms free) (entryFrame m args maxL)) : vx_Met l y ws rm Pc Qc XC mc ms free := by
  refine MetFree.of_bodyS (code := cc) (maxLocals := maxL) (ret := ret) hy ?_ ?_
  · intro args s m h hn
    obtain ⟨meth, c, h1, h2, h3, h4, h5, h6, -, -⟩ := Cond.code_spec hn (atoms_spec (ws := ws) h _ (by rw [hw]; exact List.mem_cons_self))
    exact ⟨meth, c, h1, h2, h3, h4, h5, h6⟩
  · intro p e s m args below meth c s₁ B hml hP _
    have hh0 : s₁.heap = s.heap := by rw [B.state]; rfl
    have ht : ∀ x ∈ c.exceptionTable.toList, False := by
      obtain ⟨meth9, c9, h1, h2, -, -, -, -, h7, -⟩ := Cond.code_spec B.named (atoms_spec (ws := ws) B.pre _ (by rw [hw]; exact List.mem_cons_self))
      cases Option.some.inj (h1.symm.trans B.method)
      cases Option.some.inj (h2.symm.trans (Stand.of_body B).code)
      intro x hx
      rw [Array.isEmpty_iff.mp h7] at hx
      cases hx
    obtain ⟨t, a1, o, b1, b2, b3⟩ := body p e s m args below meth c s₁ B hml ht hP s₁ hh0 (Stand.of_body B)
    exact ⟨t, o, a1, b1, b2, b3⟩
/-- the table of a body with handlers -/
theorem vx_table {p : Program} {x y : MethodName} {S : Spec} {cc bytes : ByteArray} {maxL maxL' : Nat} {ret ret' : Option FieldType} {e : Env} {s s₁ : State} {m : MethodId} {args : Array Value} {below : List Frame} {meth : Method} {c : Code} {hh : List (Nat × Nat × Nat × Nat)}
    (B : BodyLoose p l y S cc maxL ret e s m args below meth c s₁) (h : (Cond.codeWith y bytes maxL' ret' hh).before args s = true) : c.exceptionTable.toList = tableOf hh := by
  obtain ⟨m9, meth9, c9, hn9, h1, h2, -, -, h6, -⟩ := Cond.codeWith_spec h
  cases Option.some.inj (hn9.symm.trans B.named)
  cases Option.some.inj (h1.symm.trans B.method)
  cases Option.some.inj (h2.symm.trans (Stand.of_body B).code)
  rw [← h6, table_eq]
end Bodies
end VXA
/-! ===== END ===== -/
/-! ===== BEGIN a static call of a method with an exception table ===== -/
section VXS
variable {p : Program} {l : Launch} {e : Env} {R : Room} {s : State} {m : MethodId} {args : Array Value} {below : List Frame} {meth : Method} {c : Code} {T : State} {H : Heap} {locs : List Loc} {cells slots : Nat}
abbrev vx_CSW (R : Room) (s : State) (args : Array Value) (own : String) (index : Nat) (y : MethodName) (bytes : ByteArray) (maxL : Nat) (ret : Option FieldType) (hh : List (Nat × Nat × Nat × Nat)) (ws : List Cond) (rm : Room) (mc ms n : Nat) : Prop :=
  (rm.cells = mc ∧ rm.slots = ms ∧ rm.frames + 1 ≤ R.frames ∧ 8 + (maxL + 11) + rm.locals ≤ R.locals ∧ (∀ w ∈ ws, ∀ (a' : Array Value) (U : State), s.WarmedH U.vm → w.before a' U = true) ∧ Cond.codeWith y bytes maxL ret hh ∈ ws) ∧
  (Cond.codeWith y bytes maxL ret hh).before args s = true ∧ (Cond.initialized y.cls).before args s = true ∧ (y.cls ≠ "java/lang/invoke/MethodHandle" ∧ y.cls ≠ "java/lang/invoke/VarHandle") ∧
  (∀ sig, parseMethodDescriptor y.desc = some sig → n = sig.parameters.length) ∧ (Cond.methodLink own index y).before args s = true ∧ (Cond.static y).before args s = true
theorem vx_cwSW {own : String} {index maxL mc ms : Nat} {y : MethodName} {bytes : ByteArray} {ret : Option FieldType} {hh : List (Nat × Nat × Nat × Nat)} {Ts ws ws' : List Cond} {rm : Room} (n : Nat) (ht : ∀ w ∈ Ts, w.before args s = true) (hT : GoodIn Ts (va_wsS own index y ws)) (hw : ws = Cond.codeWith y bytes maxL ret hh :: ws') (hrc : rm.cells = mc) (hrs : rm.slots = ms)
    (hd : y.cls ≠ "java/lang/invoke/MethodHandle" ∧ y.cls ≠ "java/lang/invoke/VarHandle" ∧ (parseMethodDescriptor y.desc).map (fun d => d.parameters.length) = some n) (hR : rm.frames + 1 ≤ R.frames ∧ 8 + (maxL + 11) + rm.locals ≤ R.locals) :
    vx_CSW R s args own index y bytes maxL ret hh ws rm mc ms n := by
  have ok : ∀ w ∈ va_wsS own index y ws, w.before args s = true := fun w h => ht w (hT w h).1
  have hG : GoodIn Ts ws := fun w h => hT w (by unfold va_wsS; exact List.mem_append_right _ h)
  have hc : Cond.codeWith y bytes maxL ret hh ∈ ws := by rw [hw]; exact List.mem_cons_self
  refine ⟨⟨hrc, hrs, hR.1, hR.2, pay_in ht hG, hc⟩, ht _ (hG _ hc).1, ok _ (by simp [va_wsS]), ⟨hd.1, hd.2.1⟩, fun sig h => ?_, ok _ (by simp [va_wsS]), ok _ (by simp [va_wsS])⟩
  have h2 := hd.2.2
  rw [h] at h2
  exact (Option.some.inj h2).symm
theorem vx_callSW (X : Stand p l e R s m args below meth c T locs cells slots) (hexec : p.tables.exec = Jvm.exec) {own : String} {index : Nat} {y : MethodName} {bytes : ByteArray} {maxL : Nat} {ret : Option FieldType} {hh : List (Nat × Nat × Nat × Nat)}
    (hown : s.vm.findClass own = some m.cls) (hlink : (Cond.methodLink own index y).before args s = true) (hstat : (Cond.static y).before args s = true) (hinit : (Cond.initialized y.cls).before args s = true)
    (hcode : (Cond.codeWith y bytes maxL ret hh).before args s = true) (hy : y.cls ≠ "java/lang/invoke/MethodHandle" ∧ y.cls ≠ "java/lang/invoke/VarHandle")
    {W9 : Nat} {Pre : Pt → Array Value → Prop} {Post : Pt → Array Value → Option Value → Pt → Prop} (hK : Back l R p e below s args y 3 W9 Pre Post)
    {g : JFrame} (hg : g.method = m) (hsize : g.locals.size = c.maxLocals) {argsL rest : List Value} (hlen : ∀ sig, parseMethodDescriptor y.desc = some sig → argsL.length = sig.parameters.length)
    (hstack : g.stack = argsL.reverse ++ rest) (hW : 2 * g.monitorRoom + (rest.map fun v => v.category).sum ≤ W9) (hdg : decode c.code g.pc = .ok (.invokestatic index, 3))
    (hpre : ∀ vm₁, s.WarmedH vm₁ → Pre ⟨T.setVm vm₁, locs, cells, slots⟩ argsL.toArray) :
    ∃ (v : Option Value) (vm₁ : Vm) (B : Pt), s.WarmedH vm₁ ∧ Stand p l e R s m args below meth c B.U B.locs B.cells B.slots ∧ Post ⟨T.setVm vm₁, locs, cells, slots⟩ argsL.toArray v B ∧
      ∀ target, Steps p.tables e below (B.U.setTop { g with pc := g.pc + 3, stack := v.toList ++ rest }) target → Steps p.tables e below (T.setTop g) target := by
  obtain ⟨mk, methM, cM, hnamed, hmethM, -, -, -, -, -, -, hsigM⟩ := Cond.codeWith_spec hcode
  have hstatic : methM.isStatic = true := Cond.static_spec hnamed hmethM hstat
  obtain ⟨kP, hkP, -⟩ := className_of_methodNamed hnamed
  have hinitP : kP.init = .initialized := Cond.initialized_spec (findClass_of_methodNamed hnamed) hkP hinit
  obtain ⟨vm₁, X₁, hstep₁⟩ := X.invokestatic hexec hown hlink hnamed hmethM hstatic hkP hinitP hy (g := g) hg (argsL := argsL) (rest := rest) (hlen _ hsigM) hstack hdg
  obtain ⟨v, B, X', hpost, hsteps⟩ := hK m meth c ⟨T.setVm vm₁, locs, cells, slots⟩ { g with stack := rest } (.invokestatic index) mk argsL.toArray X₁ hg hsize hdg hW (X₁.named hnamed) (hpre vm₁ X₁.warmed)
  exact ⟨v, vm₁, B, X₁.warmed, X', hpost, fun target h => hstep₁ _ fun acts => by rw [doInvoke_state]; exact hsteps.trans h⟩
theorem vx_runSW {y : MethodName} {bytes cc : ByteArray} {maxL nL mc ms n index : Nat} {ret : Option FieldType} {hh : List (Nat × Nat × Nat × Nat)} {ws : List Cond} {rm : Room} {Pc : Array Value → State → Prop} {Qc : Array Value → State → Outcome → State → Prop} {free : Addr → Prop} {Ts : List Cond} {own : String} {As rest : List Value} {g : JFrame}
    (S : CallFix p m c cc nL s args Ts own) (hM : Met l y ws rm Pc Qc mc ms free) (cw : vx_CSW R s args own index y bytes maxL ret hh ws rm mc ms n) (hp : PreS s H Pc As)
    (hg : g.method = m) (hn : As.length = n) (hsize : g.locals.size = nL) (hstack : g.stack = As.reverse ++ rest) (hW : 2 * g.monitorRoom + (rest.map fun v => v.category).sum ≤ 8) (hdg : decode cc g.pc = .ok (.invokestatic index, 3)) (hf : cells + mc ≤ R.cells ∧ slots + ms ≤ R.slots) :
    va_Run p l e R s m args below meth c H locs cells slots mc ms g rest (Qc As.toArray) (free) := by
  obtain ⟨⟨hrc, hrs, hfr, hlo, hws, hcw⟩, hcode, hini, hy, hlen, hl, hstt⟩ := cw
  have hK : Back l R p e below s args y 3 8 (PreOf R mc ms Pc) (PostOf Qc mc ms free) := va_backW (hh := hh) (bytes := bytes) (maxL := maxL) (ret := ret) hM hp.1 hrc hrs hfr hlo hws hcw (fun a' U hW => word_at hW (Or.inl (by first | rfl | simp [Cond.onTables, Cond.keeps, Cond.steady])) hini)
  obtain ⟨hx, hb, hml, ho, -⟩ := S
  intro T hT X
  obtain ⟨v, vm₁, ⟨U', l2, c2, s2⟩, hW₁, X', ⟨g', mk, t, L, e1, e2, hq, h1, hL, h2, h3⟩, st⟩ := vx_callSW X hx (hh := hh) (bytes := bytes) (maxL := maxL) (ret := ret) ho hl hstt hini hcode hy hK hg (hsize.trans hml.symm) (argsL := As) (rest := rest) (fun sig h => hn.trans (hlen sig h)) hstack hW (by rw [hb]; exact hdg)
    (fun vm₁ hW₁ => ⟨hf.1, hf.2, hp.2 (T.setVm vm₁) hT hW₁⟩)
  dsimp only [Pt.U, Pt.locs, Pt.cells, Pt.slots] at X' e1 e2 h1 h2 h3 st
  subst h1; subst h2; subst h3
  exact ⟨v, (T.setVm vm₁).calling g' mk As.toArray, t, U', L, hT, X', hL, e1, e2, hq, st⟩
/-- not caught here, past rows that name other classes: it goes on to the caller -/
theorem vx_outP {p : Program} {l : Launch} {e : Env} {R : Room} {s : State} {m : MethodId} {args : Array Value} {below : List Frame} {meth : Method} {c : Code} {H : Heap} {locs : List Loc} {cells slots : Nat} {free : Addr → Prop} {ls : Array Slot} {rest : List Value} {Qc : Array Value → State → Outcome → State → Prop} {XC : String → State → State → Prop}
    {pc : Nat} {own E : String} {ce : Cell} {q : Addr} {mc ms : Nat} (hown : s.vm.findClass own = some m.cls) (hlocks : meth.locks = false)
    (hpass : ∀ z ∈ c.exceptionTable.toList, covers z pc = false ∨ (z.catchType ≠ 0 ∧ ∃ nm : String, (Cond.classLink own z.catchType nm).before args s = true ∧ va_Nc E nm s)) (hcell : H[q]? = some ce) (hv : ce.vm = .none) (hcl : s.vm.findClass E = some ce.cls)
    (hx : ∀ t : State, t.heap = H → s.vm.Alike t.vm → XC E s t) (hf : ∀ z ∈ locs, free z.base) (hc : cells ≤ mc) (hs : slots ≤ ms) :
    vx_W p l e R s m args below meth c H locs cells slots (vx_MQ below Qc XC args s mc ms free) (F0 m pc ls rest) q := by
  intro T hT X
  have hpl : e.platform.magicAccessors = ({} : Platform).magicAccessors := by rw [X.admits.platform]
  obtain ⟨vm', hW', X', st⟩ := X.outThrough hlocks q (g := F0 m pc ls rest) rfl rfl rfl (cell := ce) (by rw [hT]; exact hcell) (by rw [hv]; rfl)
    (by obtain ⟨k9, h9, -⟩ := Vm.findClass_spec hcl; exact ⟨k9, h9⟩) (fun z hz => by
      rcases hpass z hz with h | ⟨hz0, nm, hl1, hn1⟩
      · exact Or.inl h
      · obtain ⟨c6, hc6, hcl6⟩ := Cond.classLink_spec hown hl1 e.platform hpl
        obtain ⟨a8, b8, h1, h2, h3⟩ := hn1
        cases Option.some.inj (h1.symm.trans hcl)
        cases Option.some.inj (h2.symm.trans hc6)
        exact Or.inr ⟨hz0, _, hcl6, h3⟩)
  obtain ⟨g₀, hfr⟩ := X'.frames_eq
  have hcell9 : ((T.setVm vm').setFrames (.throwing q :: below)).heap[q]? = some ce := by
    show T.heap[q]? = some ce
    rw [hT]; exact hcell
  have hend : Ended ((T.setVm vm').setFrames (.throwing q :: below)) below (.threw q) := State.frames_setFrames _ (State.cur_lt_of_frames hfr)
  refine ⟨(T.setVm vm').setFrames (.throwing q :: below), ?_, .threw q, X'.here.running, hend, Or.inr ⟨q, rfl, E, ce, locs, hx _ hT (X'.ends _).1.alike, hcell9, hv, hcl, (X'.ends _).1, (X'.ends _).2.mono hc hs, hf⟩⟩
  rw [X.pushThrowing_eq]
  exact st
/-- a thing of a world lies in the heap -/
theorem vx_lt {D : va_G} {cl : List vw_C} {ws : va_W} {H1 : Heap} (h : va_P D cl ws H1) {k : Nat} {q : Nat × va_E} (hk : ws[k]? = some q) : q.1 < H1.size := (h k q hk).lt
end VXS
/-! ===== END ===== -/
/-! ===== BEGIN methods with a table of their own: called by a name, returning or throwing ===== -/
section VXH
/-! vx_backW, vx_callVX, vx_callSX, vx_callVW, vx_runVW, vx_runVX, vx_runSX, vx_ofWH follow the same proofs as their sisters above (Free/Laws.lean, Shelf42/LK1.lean); vx_outP calls Shelf42/NT130.lean (outThrough). -/
section
variable {l : Launch} {R : Room} {p : Program} {e : Env} {below : List Frame} {s : State} {sargs : Array Value} {y : MethodName} {len W9 : Nat}
theorem vx_backW {ws : List Cond} {rm : Room} {Pc : Array Value → State → Prop} {Qc : Array Value → State → Outcome → State → Prop} {XC : String → State → State → Prop} {mc ms : Nat} {free : Addr → Prop} {bytes : ByteArray} {maxL : Nat} {ret : Option FieldType} {hh : List (Nat × Nat × Nat × Nat)}
    (hM : vx_Met l y ws rm Pc Qc XC mc ms free) (hblind : FrameBlind Pc) (hrc : rm.cells = mc) (hrs : rm.slots = ms)
    (hframes : rm.frames + 1 ≤ R.frames) (hlocals : W9 + (maxL + 11) + rm.locals ≤ R.locals)
    (hws : ∀ w ∈ ws, ∀ a' U, s.WarmedH U.vm → w.before a' U = true) (hcode : Cond.codeWith y bytes maxL ret hh ∈ ws) (hinit : ∀ a' U, s.WarmedH U.vm → (Cond.initialized y.cls).before a' U = true) :
    vx_Back l R p e below s sargs y len W9 (PreOf R mc ms Pc) (PostOf Qc mc ms free) (vx_Post XC mc ms free) := by
  intro m meth c A g ig mk a X hg hsize hdg hW hn hp
  have h1 : (headSpec ws rm).pre.before a A.U = true := atoms_intro fun w hw => hws w hw _ _ X.warmed
  have h2 : (Cond.codeWith y bytes maxL ret hh).before a A.U = true := hws _ hcode _ _ X.warmed
  have h3 : (Cond.initialized y.cls).before a A.U = true := hinit _ _ X.warmed
  have h4 : A.cells + (headSpec ws rm).room.cells ≤ R.cells := by rw [show (headSpec ws rm).room.cells = mc from hrc]; exact hp.1
  have h5 : A.slots + (headSpec ws rm).room.slots ≤ R.slots := by rw [show (headSpec ws rm).room.slots = ms from hrs]; exact hp.2.1
  have hPc : Pc a (A.U.calling g mk a) := hblind _ _ _ _ hp.2.2
  obtain ⟨U, Ls, c0, s0⟩ := A
  dsimp only [Pt.U, Pt.locs, Pt.cells, Pt.slots] at h1 h2 h3 h4 h5 X hn hPc ⊢
  obtain ⟨m9, methY, cY, hn9, hmY, hcY, -, hlY, -⟩ := Cond.codeWith_spec h2
  cases Option.some.inj (hn9.symm.trans hn)
  obtain ⟨kY, hkY, -⟩ := className_of_methodNamed hn
  have hinitY : kY.init = .initialized := Cond.initialized_spec (findClass_of_methodNamed hn) hkY h3
  have h : At U g.method c below := by rw [hg]; exact X.here
  have hlocals9 : W9 + (maxL + 11) + (headSpec ws rm).room.locals ≤ R.locals := hlocals
  have happ : (headSpec ws rm).appliesLoose y e.platform (U.calling g mk a) = true :=
    Spec.appliesLoose_calling (g := g) h hdg hn hkY hinitY
      (X.room_calling (g := g) (R' := (headSpec ws rm).room) hsize hmY hcY hframes (by rw [hlY]; omega) h4 h5) h1
  obtain ⟨mid, hmid⟩ := h.above
  have hfr : (U.setTop g).frames = (.java g :: mid) ++ below := by rw [State.frames_setTop' g h.top, hmid]; rfl
  obtain ⟨o, s₂, hsteps, -, hend, hq⟩ := Steps.callFree hM p X.admits X.cas X.clock (acts := []) hfr happ hPc trivial
  have hq' : vx_Q Qc XC mc ms free a (U.calling g mk a) o s₂ := hq
  rw [State.frames_setTop' g h.top] at hend
  obtain ⟨g₀, hg0⟩ := Option.isSome_iff_exists.mp h.top
  obtain ⟨r, hr⟩ := State.topJava?_eq_some.mp hg0
  have hr' : (({ U with heap := s₂.heap, slotsUsed := s₂.slotsUsed } : State).setVm s₂.vm).frames = .java g₀ :: r := hr
  rcases hq' with ⟨hqc, L, hfe, hL⟩ | ⟨q, rfl, E, ce, L, hx, hce, hcv, hcl, hW₂, hsm, hL⟩
  · obtain ⟨⟨v, rfl⟩, hW₂, e2, q2, q3, q4, q5, q6⟩ := id hfe
    have e3 : s₂ = ({ (U.calling g mk a).setFrames s₂.frames with heap := s₂.heap, slotsUsed := s₂.slotsUsed } : State).setVm s₂.vm := by
      have : s₂ = ({ s₂ with vm := (U.calling g mk a).vm } : State).setVm s₂.vm := rfl
      rw [e2] at this
      exact this
    obtain ⟨c₂, i₂, len₂, hc₂, hd₂, hf₂⟩ := hend
    have hW' : U.WarmedH s₂.vm := hW₂
    have hcc : c₂ = c := by
      have h1 : s₂.code? g.method = U.code? g.method := by
        rw [State.code?_eq, State.code?_eq, hW'.alike.method?]
      exact Option.some.inj (hc₂.symm.trans (h1.trans h.code))
    subst hcc
    have hlen : len₂ = len := by rw [hdg] at hd₂; cases hd₂; rfl
    subst hlen
    have hs₂ : s₂ = (({ U with heap := s₂.heap, slotsUsed := s₂.slotsUsed } : State).setVm s₂.vm).setTop { g with pc := g.pc + len₂, stack := v.toList ++ g.stack } := by
      refine e3.trans ?_
      rw [hf₂, State.calling_eq h.top, State.setFrames_setFrames, State.setTop_of_frames _ hr', hr]
      rfl
    have hsame : U.sameButNew ({ U with heap := s₂.heap, slotsUsed := s₂.slotsUsed } : State) L mc ms := by
      refine ⟨?_, q2, q3, q4, q5, q6⟩
      obtain ⟨t, ht, -⟩ := State.frames_cons hr
      show ({ U with heap := s₂.heap, slotsUsed := s₂.slotsUsed } : State) = { U.setFrames U.frames with heap := s₂.heap, slotsUsed := s₂.slotsUsed }
      rw [State.setFrames_self ht]
    subst hg
    refine Or.inl ⟨v, ⟨(({ U with heap := s₂.heap, slotsUsed := s₂.slotsUsed } : State).setVm s₂.vm), Ls ++ L, c0 + mc, s0 + ms⟩,
      ⟨X.admits, X.cas, X.clock, X.frames, X.room, X.hears, X.method, X.code, (X.here.setHeapUsed s₂.heap s₂.slotsUsed).setVm hW'.alike, X.tail, State.WarmedH.trans X.warmed hW', X.limits, X.bytes, X.same.trans (hsame.setVm s.vm)⟩,
      ⟨g, mk, s₂, L, rfl, rfl, hqc, rfl, hL, rfl, rfl⟩, ?_⟩
    show Steps p.tables e below _ ((({ U with heap := s₂.heap, slotsUsed := s₂.slotsUsed } : State).setVm s₂.vm).setTop { g with pc := g.pc + len₂, stack := v.toList ++ g.stack })
    rw [← hs₂]
    exact hsteps
  · obtain ⟨e2, q2, q3, q4, q5, q6⟩ := id hsm
    have e3 : s₂ = ({ (U.calling g mk a).setFrames s₂.frames with heap := s₂.heap, slotsUsed := s₂.slotsUsed } : State).setVm s₂.vm := by
      have : s₂ = ({ s₂ with vm := (U.calling g mk a).vm } : State).setVm s₂.vm := rfl
      rw [e2] at this
      exact this
    have hf₂ : s₂.frames = .throwing q :: .java g :: U.frames.tail := hend
    have hW' : U.WarmedH s₂.vm := hW₂
    have hs₂ : s₂ = ((({ U with heap := s₂.heap, slotsUsed := s₂.slotsUsed } : State).setVm s₂.vm).setTop g).pushFrame (.throwing q) := by
      refine e3.trans ?_
      rw [hf₂, State.calling_eq h.top, State.setFrames_setFrames, State.pushFrame, State.frames_setTop _ hr', State.setTop_of_frames _ hr', State.setFrames_setFrames, hr]
      rfl
    have hsame : U.sameButNew ({ U with heap := s₂.heap, slotsUsed := s₂.slotsUsed } : State) L mc ms := by
      refine ⟨?_, q2, q3, q4, q5, q6⟩
      obtain ⟨t, ht, -⟩ := State.frames_cons hr
      show ({ U with heap := s₂.heap, slotsUsed := s₂.slotsUsed } : State) = { U.setFrames U.frames with heap := s₂.heap, slotsUsed := s₂.slotsUsed }
      rw [State.setFrames_self ht]
    subst hg
    refine Or.inr ⟨q, ⟨(({ U with heap := s₂.heap, slotsUsed := s₂.slotsUsed } : State).setVm s₂.vm), Ls ++ L, c0 + mc, s0 + ms⟩,
      ⟨X.admits, X.cas, X.clock, X.frames, X.room, X.hears, X.method, X.code, (X.here.setHeapUsed s₂.heap s₂.slotsUsed).setVm hW'.alike, X.tail, State.WarmedH.trans X.warmed hW', X.limits, X.bytes, X.same.trans (hsame.setVm s.vm)⟩,
      ⟨g, mk, s₂, L, E, ce, rfl, rfl, hx, hce, hcv, hcl, rfl, hL, rfl, rfl⟩, ?_⟩
    show Steps p.tables e below _ (((({ U with heap := s₂.heap, slotsUsed := s₂.slotsUsed } : State).setVm s₂.vm).setTop g).pushFrame (.throwing q))
    rw [← hs₂]
    exact hsteps
end
variable {p : Program} {l : Launch} {e : Env} {R : Room} {s : State} {m : MethodId} {args : Array Value} {below : List Frame} {meth : Method} {c : Code} {T : State} {H : Heap} {locs : List Loc} {cells slots : Nat}
theorem vx_callVX (X : Stand p l e R s m args below meth c T locs cells slots) (hexec : p.tables.exec = Jvm.exec) {own C : String} {index : Nat} {y : MethodName} {bytes : ByteArray} {maxL : Nat} {ret : Option FieldType} {hh : List (Nat × Nat × Nat × Nat)}
    (hown : s.vm.findClass own = some m.cls) (hlink : (Cond.methodLink own index y).before args s = true) (hinst : (Cond.instanceMethod y).before args s = true) (hsel : (Cond.selects C y y).before args s = true)
    (hcode : (Cond.codeWith y bytes maxL ret hh).before args s = true) (hy : y.cls ≠ "java/lang/invoke/MethodHandle" ∧ y.cls ≠ "java/lang/invoke/VarHandle")
    {W9 : Nat} {Pre : Pt → Array Value → Prop} {Post : Pt → Array Value → Option Value → Pt → Prop} {PostX : Pt → Array Value → Addr → Pt → Prop} (hK : vx_Back l R p e below s args y 3 W9 Pre Post PostX)
    {b : Addr} {cellB : Cell} (hcell : T.heap[b]? = some cellB) (hobj : cellB.vm.isStatics = false) (hcls : s.vm.findClass C = some cellB.cls)
    {g : JFrame} (hg : g.method = m) (hsize : g.locals.size = c.maxLocals) {argsL rest : List Value} (hlen : ∀ sig, parseMethodDescriptor y.desc = some sig → argsL.length = sig.parameters.length)
    (hstack : g.stack = argsL.reverse ++ .ref b :: rest) (hW : 2 * g.monitorRoom + (rest.map fun v => v.category).sum ≤ W9) (hdg : decode c.code g.pc = .ok (.invokevirtual index, 3))
    (hpre : ∀ vm₁, s.WarmedH vm₁ → Pre ⟨T.setVm vm₁, locs, cells, slots⟩ (Value.ref b :: argsL).toArray) :
    (∃ (v : Option Value) (vm₁ : Vm) (B : Pt), s.WarmedH vm₁ ∧ Stand p l e R s m args below meth c B.U B.locs B.cells B.slots ∧ Post ⟨T.setVm vm₁, locs, cells, slots⟩ (Value.ref b :: argsL).toArray v B ∧
      ∀ target, Steps p.tables e below (B.U.setTop { g with pc := g.pc + 3, stack := v.toList ++ rest }) target → Steps p.tables e below (T.setTop g) target) ∨
    (∃ (q : Addr) (vm₁ : Vm) (B : Pt), s.WarmedH vm₁ ∧ Stand p l e R s m args below meth c B.U B.locs B.cells B.slots ∧ PostX ⟨T.setVm vm₁, locs, cells, slots⟩ (Value.ref b :: argsL).toArray q B ∧
      Steps p.tables e below (T.setTop g) ((B.U.setTop { g with stack := rest }).pushFrame (.throwing q))) := by
  obtain ⟨mk, methM, hnamed, hmethM, hstM, habM⟩ := Cond.instanceMethod_spec hinst
  obtain ⟨m8, methM', cM, hn8, hmethM', -, -, -, -, -, -, hsigM⟩ := Cond.codeWith_spec hcode
  cases Option.some.inj (hn8.symm.trans hnamed)
  cases hmethM.symm.trans hmethM'
  obtain ⟨c2, r2, m2, q1, q2, q3, q4, kP, hkP, hkPi⟩ := Cond.selects_spec hsel
  cases hcls.symm.trans q1
  cases (State.methodFound?_of_named hnamed hy).symm.trans q2
  cases hnamed.symm.trans q3
  have hselP : selectMethod e.platform s.vm cellB.cls mk = .method mk := by rw [Launch.admits_selectMethod X.admits]; exact q4
  obtain ⟨vm₁, X₁, hstep₁⟩ := X.invokevirtual hexec hown hlink hnamed hmethM hstM hkP hkPi hy (a := b) (cell := cellB) hcell
    (fun z h => by rw [h] at hobj; cases hobj) hselP hmethM habM hkP hkPi (g := g) hg (argsL := argsL) (rest := rest) (hlen _ hsigM) hstack hdg
  rcases hK m meth c ⟨T.setVm vm₁, locs, cells, slots⟩ { g with stack := rest } (.invokevirtual index) mk (Value.ref b :: argsL).toArray X₁ hg hsize hdg hW (X₁.named hnamed) (hpre vm₁ X₁.warmed) with ⟨v, B, X', hpost, hsteps⟩ | ⟨q, B, X', hpost, hsteps⟩
  · exact Or.inl ⟨v, vm₁, B, X₁.warmed, X', hpost, fun target h => hstep₁ _ fun acts => by rw [doInvoke_state]; exact hsteps.trans h⟩
  · exact Or.inr ⟨q, vm₁, B, X₁.warmed, X', hpost, hstep₁ _ fun acts => by rw [doInvoke_state]; exact hsteps⟩
theorem vx_callSX (X : Stand p l e R s m args below meth c T locs cells slots) (hexec : p.tables.exec = Jvm.exec) {own : String} {index : Nat} {y : MethodName} {bytes : ByteArray} {maxL : Nat} {ret : Option FieldType} {hh : List (Nat × Nat × Nat × Nat)}
    (hown : s.vm.findClass own = some m.cls) (hlink : (Cond.methodLink own index y).before args s = true) (hstat : (Cond.static y).before args s = true) (hinit : (Cond.initialized y.cls).before args s = true)
    (hcode : (Cond.codeWith y bytes maxL ret hh).before args s = true) (hy : y.cls ≠ "java/lang/invoke/MethodHandle" ∧ y.cls ≠ "java/lang/invoke/VarHandle")
    {W9 : Nat} {Pre : Pt → Array Value → Prop} {Post : Pt → Array Value → Option Value → Pt → Prop} {PostX : Pt → Array Value → Addr → Pt → Prop} (hK : vx_Back l R p e below s args y 3 W9 Pre Post PostX)
    {g : JFrame} (hg : g.method = m) (hsize : g.locals.size = c.maxLocals) {argsL rest : List Value} (hlen : ∀ sig, parseMethodDescriptor y.desc = some sig → argsL.length = sig.parameters.length)
    (hstack : g.stack = argsL.reverse ++ rest) (hW : 2 * g.monitorRoom + (rest.map fun v => v.category).sum ≤ W9) (hdg : decode c.code g.pc = .ok (.invokestatic index, 3))
    (hpre : ∀ vm₁, s.WarmedH vm₁ → Pre ⟨T.setVm vm₁, locs, cells, slots⟩ argsL.toArray) :
    (∃ (v : Option Value) (vm₁ : Vm) (B : Pt), s.WarmedH vm₁ ∧ Stand p l e R s m args below meth c B.U B.locs B.cells B.slots ∧ Post ⟨T.setVm vm₁, locs, cells, slots⟩ argsL.toArray v B ∧
      ∀ target, Steps p.tables e below (B.U.setTop { g with pc := g.pc + 3, stack := v.toList ++ rest }) target → Steps p.tables e below (T.setTop g) target) ∨
    (∃ (q : Addr) (vm₁ : Vm) (B : Pt), s.WarmedH vm₁ ∧ Stand p l e R s m args below meth c B.U B.locs B.cells B.slots ∧ PostX ⟨T.setVm vm₁, locs, cells, slots⟩ argsL.toArray q B ∧
      Steps p.tables e below (T.setTop g) ((B.U.setTop { g with stack := rest }).pushFrame (.throwing q))) := by
  obtain ⟨mk, methM, cM, hnamed, hmethM, -, -, -, -, -, -, hsigM⟩ := Cond.codeWith_spec hcode
  have hstatic : methM.isStatic = true := Cond.static_spec hnamed hmethM hstat
  obtain ⟨kP, hkP, -⟩ := className_of_methodNamed hnamed
  have hinitP : kP.init = .initialized := Cond.initialized_spec (findClass_of_methodNamed hnamed) hkP hinit
  obtain ⟨vm₁, X₁, hstep₁⟩ := X.invokestatic hexec hown hlink hnamed hmethM hstatic hkP hinitP hy (g := g) hg (argsL := argsL) (rest := rest) (hlen _ hsigM) hstack hdg
  rcases hK m meth c ⟨T.setVm vm₁, locs, cells, slots⟩ { g with stack := rest } (.invokestatic index) mk argsL.toArray X₁ hg hsize hdg hW (X₁.named hnamed) (hpre vm₁ X₁.warmed) with ⟨v, B, X', hpost, hsteps⟩ | ⟨q, B, X', hpost, hsteps⟩
  · exact Or.inl ⟨v, vm₁, B, X₁.warmed, X', hpost, fun target h => hstep₁ _ fun acts => by rw [doInvoke_state]; exact hsteps.trans h⟩
  · exact Or.inr ⟨q, vm₁, B, X₁.warmed, X', hpost, hstep₁ _ fun acts => by rw [doInvoke_state]; exact hsteps⟩
theorem vx_callVW (X : Stand p l e R s m args below meth c T locs cells slots) (hexec : p.tables.exec = Jvm.exec) {own C : String} {index : Nat} {y : MethodName} {bytes : ByteArray} {maxL : Nat} {ret : Option FieldType} {hh : List (Nat × Nat × Nat × Nat)}
    (hown : s.vm.findClass own = some m.cls) (hlink : (Cond.methodLink own index y).before args s = true) (hinst : (Cond.instanceMethod y).before args s = true) (hsel : (Cond.selects C y y).before args s = true)
    (hcode : (Cond.codeWith y bytes maxL ret hh).before args s = true) (hy : y.cls ≠ "java/lang/invoke/MethodHandle" ∧ y.cls ≠ "java/lang/invoke/VarHandle")
    {W9 : Nat} {Pre : Pt → Array Value → Prop} {Post : Pt → Array Value → Option Value → Pt → Prop} (hK : Back l R p e below s args y 3 W9 Pre Post)
    {b : Addr} {cellB : Cell} (hcell : T.heap[b]? = some cellB) (hobj : cellB.vm.isStatics = false) (hcls : s.vm.findClass C = some cellB.cls)
    {g : JFrame} (hg : g.method = m) (hsize : g.locals.size = c.maxLocals) {argsL rest : List Value} (hlen : ∀ sig, parseMethodDescriptor y.desc = some sig → argsL.length = sig.parameters.length)
    (hstack : g.stack = argsL.reverse ++ .ref b :: rest) (hW : 2 * g.monitorRoom + (rest.map fun v => v.category).sum ≤ W9) (hdg : decode c.code g.pc = .ok (.invokevirtual index, 3))
    (hpre : ∀ vm₁, s.WarmedH vm₁ → Pre ⟨T.setVm vm₁, locs, cells, slots⟩ (Value.ref b :: argsL).toArray) :
    ∃ (v : Option Value) (vm₁ : Vm) (B : Pt), s.WarmedH vm₁ ∧ Stand p l e R s m args below meth c B.U B.locs B.cells B.slots ∧ Post ⟨T.setVm vm₁, locs, cells, slots⟩ (Value.ref b :: argsL).toArray v B ∧
      ∀ target, Steps p.tables e below (B.U.setTop { g with pc := g.pc + 3, stack := v.toList ++ rest }) target → Steps p.tables e below (T.setTop g) target := by
  obtain ⟨mk, methM, hnamed, hmethM, hstM, habM⟩ := Cond.instanceMethod_spec hinst
  obtain ⟨m8, methM', cM, hn8, hmethM', -, -, -, -, -, -, hsigM⟩ := Cond.codeWith_spec hcode
  cases Option.some.inj (hn8.symm.trans hnamed)
  cases hmethM.symm.trans hmethM'
  obtain ⟨c2, r2, m2, q1, q2, q3, q4, kP, hkP, hkPi⟩ := Cond.selects_spec hsel
  cases hcls.symm.trans q1
  cases (State.methodFound?_of_named hnamed hy).symm.trans q2
  cases hnamed.symm.trans q3
  have hselP : selectMethod e.platform s.vm cellB.cls mk = .method mk := by rw [Launch.admits_selectMethod X.admits]; exact q4
  obtain ⟨vm₁, X₁, hstep₁⟩ := X.invokevirtual hexec hown hlink hnamed hmethM hstM hkP hkPi hy (a := b) (cell := cellB) hcell
    (fun z h => by rw [h] at hobj; cases hobj) hselP hmethM habM hkP hkPi (g := g) hg (argsL := argsL) (rest := rest) (hlen _ hsigM) hstack hdg
  obtain ⟨v, B, X', hpost, hsteps⟩ := hK m meth c ⟨T.setVm vm₁, locs, cells, slots⟩ { g with stack := rest } (.invokevirtual index) mk (Value.ref b :: argsL).toArray X₁ hg hsize hdg hW (X₁.named hnamed) (hpre vm₁ X₁.warmed)
  exact ⟨v, vm₁, B, X₁.warmed, X', hpost, fun target h => hstep₁ _ fun acts => by rw [doInvoke_state]; exact hsteps.trans h⟩
abbrev vx_CVW (R : Room) (s : State) (args : Array Value) (own C : String) (index : Nat) (y : MethodName) (bytes : ByteArray) (maxL : Nat) (ret : Option FieldType) (hh : List (Nat × Nat × Nat × Nat)) (ws : List Cond) (rm : Room) (mc ms n : Nat) : Prop :=
  (rm.cells = mc ∧ rm.slots = ms ∧ rm.frames + 1 ≤ R.frames ∧ 8 + (maxL + 11) + rm.locals ≤ R.locals ∧ (∀ w ∈ ws, ∀ (a' : Array Value) (U : State), s.WarmedH U.vm → w.before a' U = true) ∧ Cond.codeWith y bytes maxL ret hh ∈ ws) ∧
  (Cond.codeWith y bytes maxL ret hh).before args s = true ∧ (Cond.initialized y.cls).before args s = true ∧ (y.cls ≠ "java/lang/invoke/MethodHandle" ∧ y.cls ≠ "java/lang/invoke/VarHandle") ∧
  (∀ sig, parseMethodDescriptor y.desc = some sig → n = sig.parameters.length) ∧ (Cond.methodLink own index y).before args s = true ∧ (Cond.instanceMethod y).before args s = true ∧ (Cond.selects C y y).before args s = true
theorem vx_cwVW {own C : String} {index maxL mc ms : Nat} {y : MethodName} {bytes : ByteArray} {ret : Option FieldType} {hh : List (Nat × Nat × Nat × Nat)} {Ts ws ws' : List Cond} {rm : Room} (n : Nat) (ht : ∀ w ∈ Ts, w.before args s = true) (hT : GoodIn Ts (wsV own index C y ws)) (hw : ws = Cond.codeWith y bytes maxL ret hh :: ws') (hrc : rm.cells = mc) (hrs : rm.slots = ms)
    (hd : y.cls = C ∧ y.cls ≠ "java/lang/invoke/MethodHandle" ∧ y.cls ≠ "java/lang/invoke/VarHandle" ∧ (parseMethodDescriptor y.desc).map (fun d => d.parameters.length) = some n) (hR : rm.frames + 1 ≤ R.frames ∧ 8 + (maxL + 11) + rm.locals ≤ R.locals) :
    vx_CVW R s args own C index y bytes maxL ret hh ws rm mc ms n := by
  obtain ⟨hC, hd⟩ := hd
  subst hC
  have ok : ∀ w ∈ wsV own index y.cls y ws, w.before args s = true := fun w h => ht w (hT w h).1
  have hG : GoodIn Ts ws := fun w h => hT w (by unfold wsV; exact List.mem_append_right _ h)
  have hc : Cond.codeWith y bytes maxL ret hh ∈ ws := by rw [hw]; exact List.mem_cons_self
  refine ⟨⟨hrc, hrs, hR.1, hR.2, pay_in ht hG, hc⟩, ht _ (hG _ hc).1, ok _ (by simp [wsV]), ⟨hd.1, hd.2.1⟩, fun sig h => ?_, ok _ (by simp [wsV]), ok _ (by simp [wsV]), ok _ (by simp [wsV])⟩
  have h2 := hd.2.2
  rw [h] at h2
  exact (Option.some.inj h2).symm
theorem vx_runVW {y : MethodName} {bytes cc : ByteArray} {maxL nL mc ms n index : Nat} {ret : Option FieldType} {hh : List (Nat × Nat × Nat × Nat)} {ws : List Cond} {rm : Room} {Pc : Array Value → State → Prop} {Qc : Array Value → State → Outcome → State → Prop} {free : Addr → Prop} {Ts : List Cond} {own C : String} {b : Addr} {As rest : List Value} {g : JFrame}
    (S : CallFix p m c cc nL s args Ts own) (hM : Met l y ws rm Pc Qc mc ms free) (cw : vx_CVW R s args own C index y bytes maxL ret hh ws rm mc ms n) (hp : PreV s H C b Pc As)
    (hg : g.method = m) (hn : As.length = n) (hsize : g.locals.size = nL) (hstack : g.stack = As.reverse ++ .ref b :: rest) (hW : 2 * g.monitorRoom + (rest.map fun v => v.category).sum ≤ 8) (hdg : decode cc g.pc = .ok (.invokevirtual index, 3)) (hf : cells + mc ≤ R.cells ∧ slots + ms ≤ R.slots) :
    va_Run p l e R s m args below meth c H locs cells slots mc ms g rest (Qc (Value.ref b :: As).toArray) free := by
  obtain ⟨⟨hrc, hrs, hfr, hlo, hws, hcw⟩, hcode, hini, hy, hlen, hl, hin, hse⟩ := cw
  have hK : Back l R p e below s args y 3 8 (PreOf R mc ms Pc) (PostOf Qc mc ms free) := va_backW (hh := hh) (bytes := bytes) (maxL := maxL) (ret := ret) hM hp.1 hrc hrs hfr hlo hws hcw (fun a' U hW => word_at hW (Or.inl (by first | rfl | simp [Cond.onTables, Cond.keeps, Cond.steady])) hini)
  obtain ⟨hx, hb, hml, ho, -⟩ := S
  obtain ⟨-, ⟨cellB, hcB, hoB, hclB⟩, hPc⟩ := hp
  intro T hT X
  obtain ⟨v, vm₁, ⟨U', l2, c2, s2⟩, hW₁, X', ⟨g', mk, t, L, e1, e2, hq, h1, hL, h2, h3⟩, st⟩ := vx_callVW X hx (C := C) (hh := hh) (bytes := bytes) (maxL := maxL) (ret := ret) ho hl hin hse hcode hy hK (by rw [hT]; exact hcB) hoB hclB hg (hsize.trans hml.symm) (argsL := As) (rest := rest) (fun sig h => hn.trans (hlen sig h)) hstack hW (by rw [hb]; exact hdg)
    (fun vm₁ hW₁ => ⟨hf.1, hf.2, hPc (T.setVm vm₁) hT hW₁⟩)
  dsimp only [Pt.U, Pt.locs, Pt.cells, Pt.slots] at X' e1 e2 h1 h2 h3 st
  subst h1; subst h2; subst h3
  exact ⟨v, (T.setVm vm₁).calling g' mk (Value.ref b :: As).toArray, t, U', L, hT, X', hL, e1, e2, hq, st⟩
section
variable {y : MethodName} {bytes cc : ByteArray} {maxL nL mc ms n index : Nat} {ret : Option FieldType} {ws : List Cond} {rm : Room} {Pc : Array Value → State → Prop} {Qc : Array Value → State → Outcome → State → Prop} {XC : String → State → State → Prop} {free : Addr → Prop} {Ts : List Cond} {own C : String} {b : Addr} {As rest : List Value} {g : JFrame}
theorem vx_runVX {hh : List (Nat × Nat × Nat × Nat)} (S : CallFix p m c cc nL s args Ts own) (hM : vx_Met l y ws rm Pc Qc XC mc ms free) (cw : vx_CVW R s args own C index y bytes maxL ret hh ws rm mc ms n) (hp : PreV s H C b Pc As)
    (hg : g.method = m) (hn : As.length = n) (hsize : g.locals.size = nL) (hstack : g.stack = As.reverse ++ .ref b :: rest) (hW : 2 * g.monitorRoom + (rest.map fun v => v.category).sum ≤ 8) (hdg : decode cc g.pc = .ok (.invokevirtual index, 3)) (hf : cells + mc ≤ R.cells ∧ slots + ms ≤ R.slots) :
    vx_Run p l e R s m args below meth c H locs cells slots mc ms g rest (Qc (Value.ref b :: As).toArray) XC free := by
  obtain ⟨⟨hrc, hrs, hfr, hlo, hws, hcw⟩, hcode, hini, hy, hlen, hl, hin, hse⟩ := cw
  have hK : vx_Back l R p e below s args y 3 8 (PreOf R mc ms Pc) (PostOf Qc mc ms free) (vx_Post XC mc ms free) := vx_backW (hh := hh) (bytes := bytes) (maxL := maxL) (ret := ret) hM hp.1 hrc hrs hfr hlo hws hcw (fun a' U hW => word_at hW (Or.inl (by first | rfl | simp [Cond.onTables, Cond.keeps, Cond.steady])) hini)
  obtain ⟨hx, hb, hml, ho, -⟩ := S
  obtain ⟨-, ⟨cellB, hcB, hoB, hclB⟩, hPc⟩ := hp
  intro T hT X
  rcases vx_callVX X hx (C := C) (hh := hh) (bytes := bytes) (maxL := maxL) (ret := ret) ho hl hin hse hcode hy hK (by rw [hT]; exact hcB) hoB hclB hg (hsize.trans hml.symm) (argsL := As) (rest := rest) (fun sig h => hn.trans (hlen sig h)) hstack hW (by rw [hb]; exact hdg)
    (fun vm₁ hW₁ => ⟨hf.1, hf.2, hPc (T.setVm vm₁) hT hW₁⟩) with ⟨v, vm₁, ⟨U', l2, c2, s2⟩, hW₁, X', ⟨g', mk, t, L, e1, e2, hq, h1, hL, h2, h3⟩, st⟩ | ⟨q, vm₁, ⟨U', l2, c2, s2⟩, hW₁, X', ⟨g', mk, t, L, E, ce, e1, e2, hq, hce, hcv, hcl, h1, hL, h2, h3⟩, st⟩
  · dsimp only [Pt.U, Pt.locs, Pt.cells, Pt.slots] at X' e1 e2 h1 h2 h3 st
    subst h1; subst h2; subst h3
    exact Or.inl ⟨v, (T.setVm vm₁).calling g' mk (Value.ref b :: As).toArray, t, U', L, hT, X', hL, e1, e2, hq, st⟩
  · dsimp only [Pt.U, Pt.locs, Pt.cells, Pt.slots] at X' e1 e2 h1 h2 h3 st hcl
    subst h1; subst h2; subst h3
    exact Or.inr ⟨q, (T.setVm vm₁).calling g' mk (Value.ref b :: As).toArray, t, U', L, E, ce, hT, X', hL, e1, e2, hq, hce, hcv, vx_cls hW₁ hcl, st⟩
theorem vx_runSX {hh : List (Nat × Nat × Nat × Nat)} (S : CallFix p m c cc nL s args Ts own) (hM : vx_Met l y ws rm Pc Qc XC mc ms free) (cw : vx_CSW R s args own index y bytes maxL ret hh ws rm mc ms n) (hp : PreS s H Pc As)
    (hg : g.method = m) (hn : As.length = n) (hsize : g.locals.size = nL) (hstack : g.stack = As.reverse ++ rest) (hW : 2 * g.monitorRoom + (rest.map fun v => v.category).sum ≤ 8) (hdg : decode cc g.pc = .ok (.invokestatic index, 3)) (hf : cells + mc ≤ R.cells ∧ slots + ms ≤ R.slots) :
    vx_Run p l e R s m args below meth c H locs cells slots mc ms g rest (Qc As.toArray) XC free := by
  obtain ⟨⟨hrc, hrs, hfr, hlo, hws, hcw⟩, hcode, hini, hy, hlen, hl, hstt⟩ := cw
  have hK : vx_Back l R p e below s args y 3 8 (PreOf R mc ms Pc) (PostOf Qc mc ms free) (vx_Post XC mc ms free) := vx_backW (hh := hh) (bytes := bytes) (maxL := maxL) (ret := ret) hM hp.1 hrc hrs hfr hlo hws hcw (fun a' U hW => word_at hW (Or.inl (by first | rfl | simp [Cond.onTables, Cond.keeps, Cond.steady])) hini)
  obtain ⟨hx, hb, hml, ho, -⟩ := S
  intro T hT X
  rcases vx_callSX X hx (hh := hh) (bytes := bytes) (maxL := maxL) (ret := ret) ho hl hstt hini hcode hy hK hg (hsize.trans hml.symm) (argsL := As) (rest := rest) (fun sig h => hn.trans (hlen sig h)) hstack hW (by rw [hb]; exact hdg)
    (fun vm₁ hW₁ => ⟨hf.1, hf.2, hp.2 (T.setVm vm₁) hT hW₁⟩) with ⟨v, vm₁, ⟨U', l2, c2, s2⟩, hW₁, X', ⟨g', mk, t, L, e1, e2, hq, h1, hL, h2, h3⟩, st⟩ | ⟨q, vm₁, ⟨U', l2, c2, s2⟩, hW₁, X', ⟨g', mk, t, L, E, ce, e1, e2, hq, hce, hcv, hcl, h1, hL, h2, h3⟩, st⟩
  · dsimp only [Pt.U, Pt.locs, Pt.cells, Pt.slots] at X' e1 e2 h1 h2 h3 st
    subst h1; subst h2; subst h3
    exact Or.inl ⟨v, (T.setVm vm₁).calling g' mk As.toArray, t, U', L, hT, X', hL, e1, e2, hq, st⟩
  · dsimp only [Pt.U, Pt.locs, Pt.cells, Pt.slots] at X' e1 e2 h1 h2 h3 st hcl
    subst h1; subst h2; subst h3
    exact Or.inr ⟨q, (T.setVm vm₁).calling g' mk As.toArray, t, U', L, E, ce, hT, X', hL, e1, e2, hq, hce, hcv, vx_cls hW₁ hcl, st⟩
end
end VXH
theorem vx_ofWH {l : Launch} {y : MethodName} {ws ws' : List Cond} {rm : Room} {Pc : Array Value → State → Prop} {Qc : Array Value → State → Outcome → State → Prop} {XC : String → State → State → Prop} {mc ms : Nat} {free : Addr → Prop} {cc : ByteArray} {maxL : Nat} {ret : Option FieldType} {hh : List (Nat × Nat × Nat × Nat)}
    (hy : plainName y.cls = true) (hw : ws = Cond.codeWith y cc maxL ret hh :: ws')
    (body : ∀ p e s m args below meth c s₁, BodyLoose p l y (headSpec ws rm) cc maxL ret e s m args below meth c s₁ → c.maxLocals = maxL → Pc args s →
      W p l e (headSpec ws rm).room s m args below meth c s.heap [] 0 0 (vx_MQ below Qc XC args s mc ms free) (entryFrame m args maxL)) : vx_Met l y ws rm Pc Qc XC mc ms free := by
  refine MetFree.of_bodyS (code := cc) (maxLocals := maxL) (ret := ret) hy ?_ ?_
  · intro args s m h hn
    obtain ⟨m9, meth, c, hn9, h1, h2, h3, h4, -, h5, h6, -⟩ := Cond.codeWith_spec (atoms_spec (ws := ws) h _ (by rw [hw]; exact List.mem_cons_self))
    cases hn.symm.trans hn9
    exact ⟨meth, c, h1, h2, h3, h4, h5, h6⟩
  · intro p e s m args below meth c s₁ B hml hP _
    have hh0 : s₁.heap = s.heap := by rw [B.state]; rfl
    obtain ⟨t, a1, o, b1, b2, b3⟩ := body p e s m args below meth c s₁ B hml hP s₁ hh0 (Stand.of_body B)
    exact ⟨t, o, a1, b1, b2, b3⟩
/-! ===== END ===== -/
end
section
def RX0 : String := "Selfkindle$Code"
def TX0 : u_T := fun k => match k with
  | 0 => ("Selfkindle$Code", "whats", "[I", true)
  | 1 => ("Selfkindle$Code", "numbers", "[J", true)
  | 2 => ("Selfkindle$Code", "times", "[I", true)
  | 3 => ("Selfkindle$Code", "stops", "[Z", true)
  | 4 => ("Selfkindle$Code", "lengths", "[I", true)
  | 5 => ("Selfkindle$Code", "places", "[I", true)
  | _ => ("Selfkindle$Code", "count", "I", false)
def tyX0 : Nat → FieldType := fun k => match k with
  | 0 => .array .int
  | 1 => .array .long
  | 2 => .array .int
  | 3 => .array .boolean
  | 4 => .array .int
  | 5 => .array .int
  | _ => .int
abbrev wsX00 : List Cond := u_ws RX0 TX0 7
theorem nmX0 : ∀ a, a < 7 → ∀ b, b < 7 → a ≠ b → (TX0 a).2.1 ≠ (TX0 b).2.1 := by decide +kernel
theorem tyX0_ok : ∀ k, k < 7 → parseFieldDescriptor (TX0 k).2.2.1 = some (tyX0 k) := by decide +kernel
def RX1 : String := "Selfkindle$Heap"
def TX1 : u_T := fun k => match k with
  | 0 => ("Selfkindle$Heap", "room", "I", true)
  | 1 => ("Selfkindle$Heap", "kinds", "[I", true)
  | 2 => ("Selfkindle$Heap", "numbers", "[J", true)
  | 3 => ("Selfkindle$Heap", "firsts", "[I", true)
  | 4 => ("Selfkindle$Heap", "seconds", "[I", true)
  | 5 => ("Selfkindle$Heap", "values", "I", false)
  | 6 => ("Selfkindle$Heap", "bound", "[I", true)
  | 7 => ("Selfkindle$Heap", "outers", "[I", true)
  | 8 => ("Selfkindle$Heap", "depths", "[I", true)
  | _ => ("Selfkindle$Heap", "names", "I", false)
def tyX1 : Nat → FieldType := fun k => match k with
  | 0 => .int
  | 1 => .array .int
  | 2 => .array .long
  | 3 => .array .int
  | 4 => .array .int
  | 5 => .int
  | 6 => .array .int
  | 7 => .array .int
  | 8 => .array .int
  | _ => .int
abbrev wsX10 : List Cond := u_ws RX1 TX1 10
theorem nmX1 : ∀ a, a < 10 → ∀ b, b < 10 → a ≠ b → (TX1 a).2.1 ≠ (TX1 b).2.1 := by decide +kernel
theorem tyX1_ok : ∀ k, k < 10 → parseFieldDescriptor (TX1 k).2.2.1 = some (tyX1 k) := by decide +kernel
def RX2 : String := "Selfkindle$Interpreter"
def TX2 : u_T := fun k => match k with
  | 0 => ("Selfkindle$Interpreter", "term", "LSelfkindle$Term;", true)
  | 1 => ("Selfkindle$Interpreter", "heap", "LSelfkindle$Heap;", true)
  | 2 => ("Selfkindle$Interpreter", "terms", "[I", true)
  | 3 => ("Selfkindle$Interpreter", "begun", "[I", true)
  | 4 => ("Selfkindle$Interpreter", "around", "[I", true)
  | 5 => ("Selfkindle$Interpreter", "kept", "[I", true)
  | 6 => ("Selfkindle$Interpreter", "depth", "I", false)
  | 7 => ("Selfkindle$Interpreter", "calls", "I", false)
  | 8 => ("Selfkindle$Interpreter", "result", "I", false)
  | 9 => ("Selfkindle$Interpreter", "outcome", "I", false)
  | _ => ("Selfkindle$Interpreter", "answer", "J", false)
def tyX2 : Nat → FieldType := fun k => match k with
  | 0 => .object "Selfkindle$Term"
  | 1 => .object "Selfkindle$Heap"
  | 2 => .array .int
  | 3 => .array .int
  | 4 => .array .int
  | 5 => .array .int
  | 6 => .int
  | 7 => .int
  | 8 => .int
  | 9 => .int
  | _ => .long
abbrev wsX20 : List Cond := u_ws RX2 TX2 11
theorem nmX2 : ∀ a, a < 11 → ∀ b, b < 11 → a ≠ b → (TX2 a).2.1 ≠ (TX2 b).2.1 := by decide +kernel
theorem tyX2_ok : ∀ k, k < 11 → parseFieldDescriptor (TX2 k).2.2.1 = some (tyX2 k) := by decide +kernel
def RX3 : String := "Selfkindle$Machine"
def TX3 : u_T := fun k => match k with
  | 0 => ("Selfkindle$Machine", "code", "LSelfkindle$Code;", true)
  | 1 => ("Selfkindle$Machine", "heap", "LSelfkindle$Heap;", true)
  | 2 => ("Selfkindle$Machine", "stack", "[I", true)
  | 3 => ("Selfkindle$Machine", "callPlaces", "[I", true)
  | 4 => ("Selfkindle$Machine", "callNames", "[I", true)
  | 5 => ("Selfkindle$Machine", "tryPlaces", "[I", true)
  | 6 => ("Selfkindle$Machine", "tryHeights", "[I", true)
  | 7 => ("Selfkindle$Machine", "tryNames", "[I", true)
  | 8 => ("Selfkindle$Machine", "tryCalls", "[I", true)
  | 9 => ("Selfkindle$Machine", "height", "I", false)
  | 10 => ("Selfkindle$Machine", "names", "I", false)
  | 11 => ("Selfkindle$Machine", "calls", "I", false)
  | 12 => ("Selfkindle$Machine", "tries", "I", false)
  | 13 => ("Selfkindle$Machine", "place", "I", false)
  | 14 => ("Selfkindle$Machine", "steps", "I", false)
  | _ => ("Selfkindle$Machine", "outcome", "I", false)
def tyX3 : Nat → FieldType := fun k => match k with
  | 0 => .object "Selfkindle$Code"
  | 1 => .object "Selfkindle$Heap"
  | 2 => .array .int
  | 3 => .array .int
  | 4 => .array .int
  | 5 => .array .int
  | 6 => .array .int
  | 7 => .array .int
  | 8 => .array .int
  | 9 => .int
  | 10 => .int
  | 11 => .int
  | 12 => .int
  | 13 => .int
  | 14 => .int
  | _ => .int
abbrev wsX30 : List Cond := u_ws RX3 TX3 16
theorem nmX3 : ∀ a, a < 16 → ∀ b, b < 16 → a ≠ b → (TX3 a).2.1 ≠ (TX3 b).2.1 := by decide +kernel
theorem tyX3_ok : ∀ k, k < 16 → parseFieldDescriptor (TX3 k).2.2.1 = some (tyX3 k) := by decide +kernel
def RX4 : String := "Selfkindle$Rewriter"
def TX4 : u_T := fun k => match k with
  | 0 => ("Selfkindle$Rewriter", "made", "LSelfkindle$Term;", true)
  | _ => ("Selfkindle$Rewriter", "spare", "LSelfkindle$Term;", true)
def tyX4 : Nat → FieldType := fun k => match k with
  | 0 => .object "Selfkindle$Term"
  | _ => .object "Selfkindle$Term"
abbrev wsX40 : List Cond := u_ws RX4 TX4 2
theorem nmX4 : ∀ a, a < 2 → ∀ b, b < 2 → a ≠ b → (TX4 a).2.1 ≠ (TX4 b).2.1 := by decide +kernel
theorem tyX4_ok : ∀ k, k < 2 → parseFieldDescriptor (TX4 k).2.2.1 = some (tyX4 k) := by decide +kernel
def RX5 : String := "Selfkindle$Term"
def TX5 : u_T := fun k => match k with
  | 0 => ("Selfkindle$Term", "kinds", "[I", true)
  | 1 => ("Selfkindle$Term", "names", "[I", true)
  | 2 => ("Selfkindle$Term", "others", "[I", true)
  | 3 => ("Selfkindle$Term", "numbers", "[J", true)
  | 4 => ("Selfkindle$Term", "sizes", "[I", true)
  | 5 => ("Selfkindle$Term", "binders", "[I", true)
  | 6 => ("Selfkindle$Term", "distances", "[I", true)
  | _ => ("Selfkindle$Term", "count", "I", false)
def tyX5 : Nat → FieldType := fun k => match k with
  | 0 => .array .int
  | 1 => .array .int
  | 2 => .array .int
  | 3 => .array .long
  | 4 => .array .int
  | 5 => .array .int
  | 6 => .array .int
  | _ => .int
abbrev wsX50 : List Cond := u_ws RX5 TX5 8
theorem nmX5 : ∀ a, a < 8 → ∀ b, b < 8 → a ≠ b → (TX5 a).2.1 ≠ (TX5 b).2.1 := by decide +kernel
theorem tyX5_ok : ∀ k, k < 8 → parseFieldDescriptor (TX5 k).2.2.1 = some (tyX5 k) := by decide +kernel
def RX6 : String := "Selfkindle$Types"
def TX6 : u_T := fun k => match k with
  | 0 => ("Selfkindle$Types", "heads", "[I", true)
  | 1 => ("Selfkindle$Types", "lefts", "[I", true)
  | 2 => ("Selfkindle$Types", "rights", "[I", true)
  | 3 => ("Selfkindle$Types", "copies", "[I", true)
  | 4 => ("Selfkindle$Types", "count", "I", false)
  | 5 => ("Selfkindle$Types", "row", "[I", true)
  | 6 => ("Selfkindle$Types", "work", "[I", true)
  | 7 => ("Selfkindle$Types", "pairs", "[I", true)
  | 8 => ("Selfkindle$Types", "typeOfPart", "[I", true)
  | 9 => ("Selfkindle$Types", "typeOfName", "[I", true)
  | 10 => ("Selfkindle$Types", "levels", "[I", true)
  | 11 => ("Selfkindle$Types", "parents", "[I", true)
  | 12 => ("Selfkindle$Types", "answer", "[I", true)
  | 13 => ("Selfkindle$Types", "answered", "I", false)
  | _ => ("Selfkindle$Types", "isWrong", "Z", false)
def tyX6 : Nat → FieldType := fun k => match k with
  | 0 => .array .int
  | 1 => .array .int
  | 2 => .array .int
  | 3 => .array .int
  | 4 => .int
  | 5 => .array .int
  | 6 => .array .int
  | 7 => .array .int
  | 8 => .array .int
  | 9 => .array .int
  | 10 => .array .int
  | 11 => .array .int
  | 12 => .array .int
  | 13 => .int
  | _ => .boolean
abbrev wsX60 : List Cond := u_ws RX6 TX6 15
theorem nmX6 : ∀ a, a < 15 → ∀ b, b < 15 → a ≠ b → (TX6 a).2.1 ≠ (TX6 b).2.1 := by decide +kernel
theorem tyX6_ok : ∀ k, k < 15 → parseFieldDescriptor (TX6 k).2.2.1 = some (tyX6 k) := by decide +kernel
def RX7 : String := "Selfkindle"
def TX7 : u_T := fun k => match k with
  | 0 => ("Selfkindle", "pile", "LSelfkindle$Term;", true)
  | 1 => ("Selfkindle", "height", "I", false)
  | 2 => ("Selfkindle", "told", "LSelfkindle$Term;", true)
  | 3 => ("Selfkindle", "current", "LSelfkindle$Term;", true)
  | 4 => ("Selfkindle", "wrong", "I", false)
  | 5 => ("Selfkindle", "rewriter", "LSelfkindle$Rewriter;", true)
  | 6 => ("Selfkindle", "types", "LSelfkindle$Types;", true)
  | 7 => ("Selfkindle", "code", "LSelfkindle$Code;", true)
  | 8 => ("Selfkindle", "runner", "LSelfkindle$Machine;", true)
  | 9 => ("Selfkindle", "interpreter", "LSelfkindle$Interpreter;", false)
  | _ => ("Selfkindle", "isInterpreted", "Z", false)
def tyX7 : Nat → FieldType := fun k => match k with
  | 0 => .object "Selfkindle$Term"
  | 1 => .int
  | 2 => .object "Selfkindle$Term"
  | 3 => .object "Selfkindle$Term"
  | 4 => .int
  | 5 => .object "Selfkindle$Rewriter"
  | 6 => .object "Selfkindle$Types"
  | 7 => .object "Selfkindle$Code"
  | 8 => .object "Selfkindle$Machine"
  | 9 => .object "Selfkindle$Interpreter"
  | _ => .boolean
abbrev wsX70 : List Cond := u_ws RX7 TX7 11
theorem nmX7 : ∀ a, a < 11 → ∀ b, b < 11 → a ≠ b → (TX7 a).2.1 ≠ (TX7 b).2.1 := by decide +kernel
theorem tyX7_ok : ∀ k, k < 11 → parseFieldDescriptor (TX7 k).2.2.1 = some (tyX7 k) := by decide +kernel
def RX8 : String := "SelfkindleModel$Mark"
def TX8 : u_T := fun k => match k with
  | 0 => ("SelfkindleModel$Mark", "isTry", "Z", true)
  | 1 => ("SelfkindleModel$Mark", "place", "I", true)
  | 2 => ("SelfkindleModel$Mark", "names", "LSelfkindleModel$Names;", true)
  | _ => ("SelfkindleModel$Mark", "height", "I", true)
def tyX8 : Nat → FieldType := fun k => match k with
  | 0 => .boolean
  | 1 => .int
  | 2 => .object "SelfkindleModel$Names"
  | _ => .int
abbrev wsX80 : List Cond := u_ws RX8 TX8 4
theorem nmX8 : ∀ a, a < 4 → ∀ b, b < 4 → a ≠ b → (TX8 a).2.1 ≠ (TX8 b).2.1 := by decide +kernel
theorem tyX8_ok : ∀ k, k < 4 → parseFieldDescriptor (TX8 k).2.2.1 = some (tyX8 k) := by decide +kernel
def RX9 : String := "SelfkindleModel$Names"
def TX9 : u_T := fun k => match k with
  | 0 => ("SelfkindleModel$Names", "name", "I", true)
  | 1 => ("SelfkindleModel$Names", "type", "LSelfkindleModel$Type;", true)
  | 2 => ("SelfkindleModel$Names", "isGeneral", "Z", true)
  | 3 => ("SelfkindleModel$Names", "value", "LSelfkindleModel$Value;", true)
  | _ => ("SelfkindleModel$Names", "outer", "LSelfkindleModel$Names;", true)
def tyX9 : Nat → FieldType := fun k => match k with
  | 0 => .int
  | 1 => .object "SelfkindleModel$Type"
  | 2 => .boolean
  | 3 => .object "SelfkindleModel$Value"
  | _ => .object "SelfkindleModel$Names"
abbrev wsX90 : List Cond := u_ws RX9 TX9 5
theorem nmX9 : ∀ a, a < 5 → ∀ b, b < 5 → a ≠ b → (TX9 a).2.1 ≠ (TX9 b).2.1 := by decide +kernel
theorem tyX9_ok : ∀ k, k < 5 → parseFieldDescriptor (TX9 k).2.2.1 = some (tyX9 k) := by decide +kernel
def RX10 : String := "SelfkindleModel$Order"
def TX10 : u_T := fun k => match k with
  | 0 => ("SelfkindleModel$Order", "what", "I", true)
  | 1 => ("SelfkindleModel$Order", "number", "J", false)
  | 2 => ("SelfkindleModel$Order", "times", "I", false)
  | _ => ("SelfkindleModel$Order", "isStop", "Z", false)
def tyX10 : Nat → FieldType := fun k => match k with
  | 0 => .int
  | 1 => .long
  | 2 => .int
  | _ => .boolean
abbrev wsX100 : List Cond := u_ws RX10 TX10 4
theorem nmX10 : ∀ a, a < 4 → ∀ b, b < 4 → a ≠ b → (TX10 a).2.1 ≠ (TX10 b).2.1 := by decide +kernel
theorem tyX10_ok : ∀ k, k < 4 → parseFieldDescriptor (TX10 k).2.2.1 = some (tyX10 k) := by decide +kernel
def RX11 : String := "SelfkindleModel$Raised"
def TX11 : u_T := fun k => match k with
  | 0 => ("java/lang/Throwable", "cause", "Ljava/lang/Throwable;", false)
  | 1 => ("java/lang/Throwable", "stackTrace", "[Ljava/lang/StackTraceElement;", false)
  | 2 => ("java/lang/Throwable", "suppressedExceptions", "Ljava/util/List;", false)
  | 3 => ("java/lang/Throwable", "detailMessage", "Ljava/lang/String;", false)
  | 4 => ("java/lang/Throwable", "backtrace", "Ljava/lang/Object;", false)
  | 5 => ("java/lang/Throwable", "depth", "I", false)
  | _ => ("SelfkindleModel$Raised", "number", "J", true)
def tyX11 : Nat → FieldType := fun k => match k with
  | 0 => .object "java/lang/Throwable"
  | 1 => .array (.object "java/lang/StackTraceElement")
  | 2 => .object "java/util/List"
  | 3 => .object "java/lang/String"
  | 4 => .object "java/lang/Object"
  | 5 => .int
  | _ => .long
abbrev wsX110 : List Cond := u_ws RX11 TX11 7
theorem nmX11 : ∀ a, a < 7 → ∀ b, b < 7 → a ≠ b → (TX11 a).2.1 ≠ (TX11 b).2.1 := by decide +kernel
theorem tyX11_ok : ∀ k, k < 7 → parseFieldDescriptor (TX11 k).2.2.1 = some (tyX11 k) := by decide +kernel
def RX12 : String := "SelfkindleModel$Term"
def TX12 : u_T := fun k => match k with
  | 0 => ("SelfkindleModel$Term", "kind", "I", true)
  | 1 => ("SelfkindleModel$Term", "number", "J", true)
  | 2 => ("SelfkindleModel$Term", "x", "I", true)
  | 3 => ("SelfkindleModel$Term", "parts", "[LSelfkindleModel$Term;", true)
  | _ => ("SelfkindleModel$Term", "size", "I", true)
def tyX12 : Nat → FieldType := fun k => match k with
  | 0 => .int
  | 1 => .long
  | 2 => .int
  | 3 => .array (.object "SelfkindleModel$Term")
  | _ => .int
abbrev wsX120 : List Cond := u_ws RX12 TX12 5
theorem nmX12 : ∀ a, a < 5 → ∀ b, b < 5 → a ≠ b → (TX12 a).2.1 ≠ (TX12 b).2.1 := by decide +kernel
theorem tyX12_ok : ∀ k, k < 5 → parseFieldDescriptor (TX12 k).2.2.1 = some (tyX12 k) := by decide +kernel
def RX13 : String := "SelfkindleModel$Tired"
def TX13 : u_T := fun k => match k with
  | 0 => ("java/lang/Throwable", "cause", "Ljava/lang/Throwable;", false)
  | 1 => ("java/lang/Throwable", "stackTrace", "[Ljava/lang/StackTraceElement;", false)
  | 2 => ("java/lang/Throwable", "suppressedExceptions", "Ljava/util/List;", false)
  | 3 => ("java/lang/Throwable", "detailMessage", "Ljava/lang/String;", false)
  | 4 => ("java/lang/Throwable", "backtrace", "Ljava/lang/Object;", false)
  | _ => ("java/lang/Throwable", "depth", "I", false)
def tyX13 : Nat → FieldType := fun k => match k with
  | 0 => .object "java/lang/Throwable"
  | 1 => .array (.object "java/lang/StackTraceElement")
  | 2 => .object "java/util/List"
  | 3 => .object "java/lang/String"
  | 4 => .object "java/lang/Object"
  | _ => .int
abbrev wsX130 : List Cond := u_ws RX13 TX13 6
theorem nmX13 : ∀ a, a < 6 → ∀ b, b < 6 → a ≠ b → (TX13 a).2.1 ≠ (TX13 b).2.1 := by decide +kernel
theorem tyX13_ok : ∀ k, k < 6 → parseFieldDescriptor (TX13 k).2.2.1 = some (tyX13 k) := by decide +kernel
def RX14 : String := "SelfkindleModel$Type"
def TX14 : u_T := fun k => match k with
  | 0 => ("SelfkindleModel$Type", "kind", "I", true)
  | 1 => ("SelfkindleModel$Type", "a", "LSelfkindleModel$Type;", true)
  | 2 => ("SelfkindleModel$Type", "b", "LSelfkindleModel$Type;", true)
  | _ => ("SelfkindleModel$Type", "is", "LSelfkindleModel$Type;", false)
def tyX14 : Nat → FieldType := fun k => match k with
  | 0 => .int
  | 1 => .object "SelfkindleModel$Type"
  | 2 => .object "SelfkindleModel$Type"
  | _ => .object "SelfkindleModel$Type"
abbrev wsX140 : List Cond := u_ws RX14 TX14 4
theorem nmX14 : ∀ a, a < 4 → ∀ b, b < 4 → a ≠ b → (TX14 a).2.1 ≠ (TX14 b).2.1 := by decide +kernel
theorem tyX14_ok : ∀ k, k < 4 → parseFieldDescriptor (TX14 k).2.2.1 = some (tyX14 k) := by decide +kernel
def RX15 : String := "SelfkindleModel$Value"
def TX15 : u_T := fun k => match k with
  | 0 => ("SelfkindleModel$Value", "kind", "I", true)
  | 1 => ("SelfkindleModel$Value", "number", "J", true)
  | 2 => ("SelfkindleModel$Value", "place", "I", true)
  | 3 => ("SelfkindleModel$Value", "isRec", "Z", true)
  | 4 => ("SelfkindleModel$Value", "term", "LSelfkindleModel$Term;", true)
  | 5 => ("SelfkindleModel$Value", "names", "LSelfkindleModel$Names;", true)
  | 6 => ("SelfkindleModel$Value", "a", "LSelfkindleModel$Value;", true)
  | _ => ("SelfkindleModel$Value", "b", "LSelfkindleModel$Value;", true)
def tyX15 : Nat → FieldType := fun k => match k with
  | 0 => .int
  | 1 => .long
  | 2 => .int
  | 3 => .boolean
  | 4 => .object "SelfkindleModel$Term"
  | 5 => .object "SelfkindleModel$Names"
  | 6 => .object "SelfkindleModel$Value"
  | _ => .object "SelfkindleModel$Value"
abbrev wsX150 : List Cond := u_ws RX15 TX15 8
theorem nmX15 : ∀ a, a < 8 → ∀ b, b < 8 → a ≠ b → (TX15 a).2.1 ≠ (TX15 b).2.1 := by decide +kernel
theorem tyX15_ok : ∀ k, k < 8 → parseFieldDescriptor (TX15 k).2.2.1 = some (tyX15 k) := by decide +kernel
def RX16 : String := "SelfkindleModel"
def TX16 : u_T := fun k => match k with
  | 0 => ("SelfkindleModel", "pile", "Ljava/util/ArrayList;", true)
  | 1 => ("SelfkindleModel", "told", "LSelfkindleModel$Term;", false)
  | 2 => ("SelfkindleModel", "program", "LSelfkindleModel$Term;", false)
  | 3 => ("SelfkindleModel", "wrong", "I", false)
  | 4 => ("SelfkindleModel", "thrown", "I", false)
  | 5 => ("SelfkindleModel", "found", "Ljava/util/ArrayList;", true)
  | 6 => ("SelfkindleModel", "counting", "Ljava/util/ArrayList;", true)
  | 7 => ("SelfkindleModel", "looking", "Ljava/util/ArrayList;", true)
  | 8 => ("SelfkindleModel", "looked", "Ljava/util/ArrayList;", true)
  | 9 => ("SelfkindleModel", "joining", "Ljava/util/ArrayList;", true)
  | 10 => ("SelfkindleModel", "typedOf", "LSelfkindleModel$Term;", false)
  | 11 => ("SelfkindleModel", "typed", "LSelfkindleModel$Type;", false)
  | 12 => ("SelfkindleModel", "changed", "I", false)
  | 13 => ("SelfkindleModel", "orders", "Ljava/util/ArrayList;", true)
  | 14 => ("SelfkindleModel", "state", "I", false)
  | 15 => ("SelfkindleModel", "place", "I", false)
  | 16 => ("SelfkindleModel", "steps", "I", false)
  | 17 => ("SelfkindleModel", "given", "J", false)
  | 18 => ("SelfkindleModel", "names", "LSelfkindleModel$Names;", false)
  | 19 => ("SelfkindleModel", "stack", "Ljava/util/ArrayList;", true)
  | 20 => ("SelfkindleModel", "marks", "Ljava/util/ArrayList;", true)
  | 21 => ("SelfkindleModel", "calls", "I", false)
  | 22 => ("SelfkindleModel", "deep", "I", false)
  | _ => ("SelfkindleModel", "anew", "J", false)
def tyX16 : Nat → FieldType := fun k => match k with
  | 0 => .object "java/util/ArrayList"
  | 1 => .object "SelfkindleModel$Term"
  | 2 => .object "SelfkindleModel$Term"
  | 3 => .int
  | 4 => .int
  | 5 => .object "java/util/ArrayList"
  | 6 => .object "java/util/ArrayList"
  | 7 => .object "java/util/ArrayList"
  | 8 => .object "java/util/ArrayList"
  | 9 => .object "java/util/ArrayList"
  | 10 => .object "SelfkindleModel$Term"
  | 11 => .object "SelfkindleModel$Type"
  | 12 => .int
  | 13 => .object "java/util/ArrayList"
  | 14 => .int
  | 15 => .int
  | 16 => .int
  | 17 => .long
  | 18 => .object "SelfkindleModel$Names"
  | 19 => .object "java/util/ArrayList"
  | 20 => .object "java/util/ArrayList"
  | 21 => .int
  | 22 => .int
  | _ => .long
abbrev wsX160 : List Cond := u_ws RX16 TX16 24
theorem nmX16 : ∀ a, a < 24 → ∀ b, b < 24 → a ≠ b → (TX16 a).2.1 ≠ (TX16 b).2.1 := by decide +kernel
theorem tyX16_ok : ∀ k, k < 24 → parseFieldDescriptor (TX16 k).2.2.1 = some (tyX16 k) := by decide +kernel
def RJx4a65c : String := "java/util/ArrayList"
def TJx4a65c : u_T := fun k => match k with
  | 0 => ("java/util/AbstractList", "modCount", "I", false)
  | 1 => ("java/util/ArrayList", "elementData", "[Ljava/lang/Object;", false)
  | _ => ("java/util/ArrayList", "size", "I", false)
def tyJx4a65c : Nat → FieldType := fun k => match k with
  | 0 => .int
  | 1 => .array (.object "java/lang/Object")
  | _ => .int
abbrev wsJx4a65c0 : List Cond := u_ws RJx4a65c TJx4a65c 3
theorem nmJx4a65c : ∀ a, a < 3 → ∀ b, b < 3 → a ≠ b → (TJx4a65c a).2.1 ≠ (TJx4a65c b).2.1 := by decide +kernel
theorem tyJx4a65c_ok : ∀ k, k < 3 → parseFieldDescriptor (TJx4a65c k).2.2.1 = some (tyJx4a65c k) := by decide +kernel
abbrev vwCl : List vw_C := [(RJx4a65c, TJx4a65c, 3), (RX0, TX0, 7), (RX1, TX1, 10), (RX2, TX2, 11), (RX3, TX3, 16), (RX4, TX4, 2), (RX5, TX5, 8), (RX6, TX6, 15), (RX7, TX7, 11), (RX8, TX8, 4), (RX9, TX9, 5), (RX10, TX10, 4), (RX11, TX11, 7), (RX12, TX12, 5), (RX13, TX13, 6), (RX14, TX14, 4), (RX15, TX15, 8), (RX16, TX16, 24)]
end
section

def ISE : String := "java/lang/IllegalStateException"
def IOB : String := "java/lang/IndexOutOfBoundsException"
def IAE : String := "java/lang/IllegalArgumentException"
def pfv (j : Nat) : Value := .int (match j with | 0 => 0 | 1 => 0 | 2 => 1 | 3 => 2 | 4 => 2 | 5 => 3 | 6 => 2 | 7 => 2 | 8 => 2 | 9 => 1 | 10 => 1 | _ => 2)
/-- what every call may count on: the statics that nobody writes, and what the tables say of classes -/
def gx (tp te : Nat) (A : Nat → Prop) (U : State) (H : Heap) : Prop :=
  va_Z "Selfkindle$Term" "PARTS_OF" "[I" (.ref tp) A U H ∧ va_T .int tp 12 pfv A U H ∧ va_Z "java/util/ArrayList" "DEFAULTCAPACITY_EMPTY_ELEMENTDATA" "[Ljava/lang/Object;" (.ref te) A U H ∧ va_T (.object "java/lang/Object") te 0 (fun _ => .null) A U H ∧ vx_Zq Bundle.tN "UNASSIGNED_STACK" Bundle.steD A U H ∧ vx_Zq Bundle.tN "SUPPRESSED_SENTINEL" Bundle.listD A U H ∧
  va_Nw (.castable "java/lang/IllegalStateException" "java/lang/IllegalStateException") U ∧ va_Nw (.castable "java/lang/IndexOutOfBoundsException" "java/lang/IndexOutOfBoundsException") U ∧ va_Nw (.castable "java/lang/IllegalArgumentException" "java/lang/IllegalArgumentException") U ∧ va_Nw (.castable "SelfkindleModel$Term" "java/lang/Object") U ∧ va_Nc "java/lang/IllegalStateException" "java/lang/IndexOutOfBoundsException" U ∧ va_Nc "java/lang/IllegalStateException" "java/lang/IllegalArgumentException" U ∧ va_AO "SelfkindleModel$Term" U ∧ va_AO "java/lang/Object" U ∧ va_Nw (.declares (Bundle.init0 "java/lang/RuntimeException")) U ∧ va_Nw (.declares (Bundle.init0 "java/lang/Exception")) U ∧ va_Nw (.declares (Bundle.init0 "java/lang/Throwable")) U
theorem gx.blind {tp te : Nat} {A : Nat → Prop} {U : State} (g : JFrame) (mk : MethodId) (a : Array Value) (h : gx tp te A U U.heap) : gx tp te A (U.calling g mk a) (U.calling g mk a).heap := by
  obtain ⟨h1, h2, h3, h4, h5, h6, h7, h8, h9, h10, h11, h12, h13, h14, h15, h16, h17⟩ := h
  have r : U.vm.Alike (U.calling g mk a).vm := Vm.Alike.refl U.vm
  exact ⟨h1.moved r, h2.moved r, h3.moved r, h4.moved r, h5.moved r, h6.moved r, va_Nw.same rfl rfl h7, va_Nw.same rfl rfl h8, va_Nw.same rfl rfl h9, va_Nw.same rfl rfl h10, h11.moved r, h12.moved r, h13.moved r, h14.moved r, va_Nw.same rfl rfl h15, va_Nw.same rfl rfl h16, va_Nw.same rfl rfl h17⟩
theorem gx.go {tp te : Nat} {A B : Nat → Prop} {s U : State} {H : Heap} {locs : List Loc} (h : gx tp te A s s.heap) (hS : va_S A s.heap H locs) (hB : ∀ q, B q → A q) (hU : U.heap = H) (hW : s.WarmedH U.vm) : gx tp te B U U.heap := by
  obtain ⟨h1, h2, h3, h4, h5, h6, h7, h8, h9, h10, h11, h12, h13, h14, h15, h16, h17⟩ := h
  have r : s.vm.Alike U.vm := hW.alike
  rw [hU]
  exact ⟨((h1.kept hS.2.1).narrow hB).moved r, ((h2.kept hS.2.1).narrow hB).moved r, ((h3.kept hS.2.1).narrow hB).moved r, ((h4.kept hS.2.1).narrow hB).moved r, ((h5.kept hS.2.1).narrow hB).moved r, ((h6.kept hS.2.1).narrow hB).moved r, va_Nw.warmC hW h7, va_Nw.warmC hW h8, va_Nw.warmC hW h9, va_Nw.warmC hW h10, h11.moved r, h12.moved r, h13.moved r, h14.moved r, va_Nw.warmD hW h15, va_Nw.warmD hW h16, va_Nw.warmD hW h17⟩
/-- a method's start: its world, apart, and what every call may count on -/
def Pw (dC : Nat → ClassId) (dI : Nat → Nat → Nat) (WS : va_W) (TYS : List (ClassId × FieldType)) (sz tp te : Nat) (U : State) : Prop :=
  U.heap.size = sz ∧ va_P (dC, dI) vwCl WS U.heap ∧ va_K (dC, dI) vwCl TYS U ∧ va_D (fun _ => True) WS ∧ gx tp te (va_A WS sz) U U.heap
theorem Pw.blind {av : List Value} {dC : Nat → ClassId} {dI : Nat → Nat → Nat} {WS : va_W} {TYS : List (ClassId × FieldType)} {sz tp te : Nat} : FrameBlind (va_Pc av (Pw dC dI WS TYS sz tp te)) :=
  fun a U g mk q => by
    obtain ⟨q0, q1, qP, qK, qD, qG⟩ := q
    exact ⟨q0, q1, qP, va_K.moved (u := U) (U := U.calling g mk a) (Vm.Alike.refl U.vm) qK, qD, qG.blind g mk a⟩
theorem Pw.mk {av : List Value} {dC : Nat → ClassId} {dI : Nat → Nat → Nat} {WS : va_W} {TYS : List (ClassId × FieldType)} {tp te : Nat} {A : Nat → Prop} {s : State} {H : Heap} {locs : List Loc} (hP : va_P (dC, dI) vwCl WS H) (hK : va_K (dC, dI) vwCl TYS s) (hD : va_D A WS) (hG : gx tp te A s s.heap) (hS : va_S A s.heap H locs) (hF : ∀ q, va_A WS H.size q → A q) :
    ∀ U : State, U.heap = H → s.WarmedH U.vm → va_Pc av (Pw dC dI WS TYS H.size tp te) av.toArray U :=
  fun U hU hW => ⟨rfl, by rw [hU], by rw [hU]; exact hP, va_K.moved hW.alike hK, hD.weaken (fun _ _ _ _ => trivial), hG.go hS hF hU hW⟩
/-- a method's end: its world -/
def Bw (dC : Nat → ClassId) (dI : Nat → Nat → Nat) (WS : va_W) (TYS : List (ClassId × FieldType)) (A : Nat → Prop) (t : State) : Prop :=
  va_P (dC, dI) vwCl WS t.heap ∧ va_K (dC, dI) vwCl TYS t ∧ va_D A WS
theorem va_P.nil {D : va_G} {cl : List vw_C} {H : Heap} : va_P D cl [] H := fun k q h => by simp at h
theorem va_D.nil {A : Nat → Prop} : va_D A [] := ⟨fun i j p q h => by simp at h, fun k q h => by simp at h⟩
end
section
abbrev cX0_init : ByteArray := prog_2_method_1_code
def yX0_init : MethodName := ⟨RX0, "<init>", "()V"⟩
abbrev cX1_init : ByteArray := prog_3_method_1_code
def yX1_init : MethodName := ⟨RX1, "<init>", "(I)V"⟩
abbrev cX3_init : ByteArray := prog_5_method_1_code
def yX3_init : MethodName := ⟨RX3, "<init>", "(LSelfkindle$Code;)V"⟩
abbrev cX4_init : ByteArray := prog_6_method_1_code
def yX4_init : MethodName := ⟨RX4, "<init>", "()V"⟩
abbrev cX5_init : ByteArray := prog_7_method_1_code
def yX5_init : MethodName := ⟨RX5, "<init>", "(I)V"⟩
abbrev cX6_init : ByteArray := prog_8_method_1_code
def yX6_init : MethodName := ⟨RX6, "<init>", "()V"⟩
abbrev cX7_init : ByteArray := prog_1_method_1_code
def yX7_init : MethodName := ⟨RX7, "<init>", "()V"⟩
theorem dX0_init_0 : decode cX0_init 0 = .ok (.aload_n 0, 1) := by decide +kernel
theorem dX0_init_1 : decode cX0_init 1 = .ok (.invokespecial 5, 3) := by decide +kernel
theorem dX0_init_4 : decode cX0_init 4 = .ok (.aload_n 0, 1) := by decide +kernel
theorem dX0_init_5 : decode cX0_init 5 = .ok (.sipush 240, 3) := by decide +kernel
theorem dX0_init_8 : decode cX0_init 8 = .ok (.newarray .int, 2) := by decide +kernel
theorem dX0_init_10 : decode cX0_init 10 = .ok (.putfield 11, 3) := by decide +kernel
theorem dX0_init_13 : decode cX0_init 13 = .ok (.aload_n 0, 1) := by decide +kernel
theorem dX0_init_14 : decode cX0_init 14 = .ok (.sipush 240, 3) := by decide +kernel
theorem dX0_init_17 : decode cX0_init 17 = .ok (.newarray .long, 2) := by decide +kernel
theorem dX0_init_19 : decode cX0_init 19 = .ok (.putfield 15, 3) := by decide +kernel
theorem dX0_init_22 : decode cX0_init 22 = .ok (.aload_n 0, 1) := by decide +kernel
theorem dX0_init_23 : decode cX0_init 23 = .ok (.sipush 240, 3) := by decide +kernel
theorem dX0_init_26 : decode cX0_init 26 = .ok (.newarray .int, 2) := by decide +kernel
theorem dX0_init_28 : decode cX0_init 28 = .ok (.putfield 19, 3) := by decide +kernel
theorem dX0_init_31 : decode cX0_init 31 = .ok (.aload_n 0, 1) := by decide +kernel
theorem dX0_init_32 : decode cX0_init 32 = .ok (.sipush 240, 3) := by decide +kernel
theorem dX0_init_35 : decode cX0_init 35 = .ok (.newarray .boolean, 2) := by decide +kernel
theorem dX0_init_37 : decode cX0_init 37 = .ok (.putfield 22, 3) := by decide +kernel
theorem dX0_init_40 : decode cX0_init 40 = .ok (.aload_n 0, 1) := by decide +kernel
theorem dX0_init_41 : decode cX0_init 41 = .ok (.bipush 60, 2) := by decide +kernel
theorem dX0_init_43 : decode cX0_init 43 = .ok (.newarray .int, 2) := by decide +kernel
theorem dX0_init_45 : decode cX0_init 45 = .ok (.putfield 26, 3) := by decide +kernel
theorem dX0_init_48 : decode cX0_init 48 = .ok (.aload_n 0, 1) := by decide +kernel
theorem dX0_init_49 : decode cX0_init 49 = .ok (.bipush 60, 2) := by decide +kernel
theorem dX0_init_51 : decode cX0_init 51 = .ok (.newarray .int, 2) := by decide +kernel
theorem dX0_init_53 : decode cX0_init 53 = .ok (.putfield 29, 3) := by decide +kernel
theorem dX0_init_56 : decode cX0_init 56 = .ok (.return_, 1) := by decide +kernel
theorem dX1_init_0 : decode cX1_init 0 = .ok (.aload_n 0, 1) := by decide +kernel
theorem dX1_init_1 : decode cX1_init 1 = .ok (.invokespecial 3, 3) := by decide +kernel
theorem dX1_init_4 : decode cX1_init 4 = .ok (.aload_n 0, 1) := by decide +kernel
theorem dX1_init_5 : decode cX1_init 5 = .ok (.iload_n 1, 1) := by decide +kernel
theorem dX1_init_6 : decode cX1_init 6 = .ok (.ifCond .le 7, 3) := by decide +kernel
theorem dX1_init_9 : decode cX1_init 9 = .ok (.iload_n 1, 1) := by decide +kernel
theorem dX1_init_10 : decode cX1_init 10 = .ok (.goto 4, 3) := by decide +kernel
theorem dX1_init_14 : decode cX1_init 14 = .ok (.putfield 9, 3) := by decide +kernel
theorem dX1_init_17 : decode cX1_init 17 = .ok (.aload_n 0, 1) := by decide +kernel
theorem dX1_init_18 : decode cX1_init 18 = .ok (.aload_n 0, 1) := by decide +kernel
theorem dX1_init_19 : decode cX1_init 19 = .ok (.getfield 9, 3) := by decide +kernel
theorem dX1_init_22 : decode cX1_init 22 = .ok (.newarray .int, 2) := by decide +kernel
theorem dX1_init_24 : decode cX1_init 24 = .ok (.putfield 15, 3) := by decide +kernel
theorem dX1_init_27 : decode cX1_init 27 = .ok (.aload_n 0, 1) := by decide +kernel
theorem dX1_init_28 : decode cX1_init 28 = .ok (.aload_n 0, 1) := by decide +kernel
theorem dX1_init_29 : decode cX1_init 29 = .ok (.getfield 9, 3) := by decide +kernel
theorem dX1_init_32 : decode cX1_init 32 = .ok (.newarray .long, 2) := by decide +kernel
theorem dX1_init_34 : decode cX1_init 34 = .ok (.putfield 19, 3) := by decide +kernel
theorem dX1_init_37 : decode cX1_init 37 = .ok (.aload_n 0, 1) := by decide +kernel
theorem dX1_init_38 : decode cX1_init 38 = .ok (.aload_n 0, 1) := by decide +kernel
theorem dX1_init_39 : decode cX1_init 39 = .ok (.getfield 9, 3) := by decide +kernel
theorem dX1_init_42 : decode cX1_init 42 = .ok (.newarray .int, 2) := by decide +kernel
theorem dX1_init_44 : decode cX1_init 44 = .ok (.putfield 23, 3) := by decide +kernel
theorem dX1_init_47 : decode cX1_init 47 = .ok (.aload_n 0, 1) := by decide +kernel
theorem dX1_init_48 : decode cX1_init 48 = .ok (.aload_n 0, 1) := by decide +kernel
theorem dX1_init_49 : decode cX1_init 49 = .ok (.getfield 9, 3) := by decide +kernel
theorem dX1_init_52 : decode cX1_init 52 = .ok (.newarray .int, 2) := by decide +kernel
theorem dX1_init_54 : decode cX1_init 54 = .ok (.putfield 26, 3) := by decide +kernel
theorem dX1_init_57 : decode cX1_init 57 = .ok (.aload_n 0, 1) := by decide +kernel
theorem dX1_init_58 : decode cX1_init 58 = .ok (.aload_n 0, 1) := by decide +kernel
theorem dX1_init_59 : decode cX1_init 59 = .ok (.getfield 9, 3) := by decide +kernel
theorem dX1_init_62 : decode cX1_init 62 = .ok (.newarray .int, 2) := by decide +kernel
theorem dX1_init_64 : decode cX1_init 64 = .ok (.putfield 29, 3) := by decide +kernel
theorem dX1_init_67 : decode cX1_init 67 = .ok (.aload_n 0, 1) := by decide +kernel
theorem dX1_init_68 : decode cX1_init 68 = .ok (.aload_n 0, 1) := by decide +kernel
theorem dX1_init_69 : decode cX1_init 69 = .ok (.getfield 9, 3) := by decide +kernel
theorem dX1_init_72 : decode cX1_init 72 = .ok (.newarray .int, 2) := by decide +kernel
theorem dX1_init_74 : decode cX1_init 74 = .ok (.putfield 32, 3) := by decide +kernel
theorem dX1_init_77 : decode cX1_init 77 = .ok (.aload_n 0, 1) := by decide +kernel
theorem dX1_init_78 : decode cX1_init 78 = .ok (.aload_n 0, 1) := by decide +kernel
theorem dX1_init_79 : decode cX1_init 79 = .ok (.getfield 9, 3) := by decide +kernel
theorem dX1_init_82 : decode cX1_init 82 = .ok (.newarray .int, 2) := by decide +kernel
theorem dX1_init_84 : decode cX1_init 84 = .ok (.putfield 35, 3) := by decide +kernel
theorem dX1_init_87 : decode cX1_init 87 = .ok (.return_, 1) := by decide +kernel
theorem dX3_init_0 : decode cX3_init 0 = .ok (.aload_n 0, 1) := by decide +kernel
theorem dX3_init_1 : decode cX3_init 1 = .ok (.invokespecial 3, 3) := by decide +kernel
theorem dX3_init_4 : decode cX3_init 4 = .ok (.aload_n 0, 1) := by decide +kernel
theorem dX3_init_5 : decode cX3_init 5 = .ok (.aload_n 1, 1) := by decide +kernel
theorem dX3_init_6 : decode cX3_init 6 = .ok (.putfield 9, 3) := by decide +kernel
theorem dX3_init_9 : decode cX3_init 9 = .ok (.aload_n 0, 1) := by decide +kernel
theorem dX3_init_10 : decode cX3_init 10 = .ok (.new 15, 3) := by decide +kernel
theorem dX3_init_13 : decode cX3_init 13 = .ok (.dup, 1) := by decide +kernel
theorem dX3_init_14 : decode cX3_init 14 = .ok (.sipush 2000, 3) := by decide +kernel
theorem dX3_init_17 : decode cX3_init 17 = .ok (.invokespecial 17, 3) := by decide +kernel
theorem dX3_init_20 : decode cX3_init 20 = .ok (.putfield 20, 3) := by decide +kernel
theorem dX3_init_23 : decode cX3_init 23 = .ok (.aload_n 0, 1) := by decide +kernel
theorem dX3_init_24 : decode cX3_init 24 = .ok (.sipush 2000, 3) := by decide +kernel
theorem dX3_init_27 : decode cX3_init 27 = .ok (.newarray .int, 2) := by decide +kernel
theorem dX3_init_29 : decode cX3_init 29 = .ok (.putfield 24, 3) := by decide +kernel
theorem dX3_init_32 : decode cX3_init 32 = .ok (.aload_n 0, 1) := by decide +kernel
theorem dX3_init_33 : decode cX3_init 33 = .ok (.sipush 200, 3) := by decide +kernel
theorem dX3_init_36 : decode cX3_init 36 = .ok (.newarray .int, 2) := by decide +kernel
theorem dX3_init_38 : decode cX3_init 38 = .ok (.putfield 28, 3) := by decide +kernel
theorem dX3_init_41 : decode cX3_init 41 = .ok (.aload_n 0, 1) := by decide +kernel
theorem dX3_init_42 : decode cX3_init 42 = .ok (.sipush 200, 3) := by decide +kernel
theorem dX3_init_45 : decode cX3_init 45 = .ok (.newarray .int, 2) := by decide +kernel
theorem dX3_init_47 : decode cX3_init 47 = .ok (.putfield 31, 3) := by decide +kernel
theorem dX3_init_50 : decode cX3_init 50 = .ok (.aload_n 0, 1) := by decide +kernel
theorem dX3_init_51 : decode cX3_init 51 = .ok (.sipush 200, 3) := by decide +kernel
theorem dX3_init_54 : decode cX3_init 54 = .ok (.newarray .int, 2) := by decide +kernel
theorem dX3_init_56 : decode cX3_init 56 = .ok (.putfield 34, 3) := by decide +kernel
theorem dX3_init_59 : decode cX3_init 59 = .ok (.aload_n 0, 1) := by decide +kernel
theorem dX3_init_60 : decode cX3_init 60 = .ok (.sipush 200, 3) := by decide +kernel
theorem dX3_init_63 : decode cX3_init 63 = .ok (.newarray .int, 2) := by decide +kernel
theorem dX3_init_65 : decode cX3_init 65 = .ok (.putfield 37, 3) := by decide +kernel
theorem dX3_init_68 : decode cX3_init 68 = .ok (.aload_n 0, 1) := by decide +kernel
theorem dX3_init_69 : decode cX3_init 69 = .ok (.sipush 200, 3) := by decide +kernel
theorem dX3_init_72 : decode cX3_init 72 = .ok (.newarray .int, 2) := by decide +kernel
theorem dX3_init_74 : decode cX3_init 74 = .ok (.putfield 40, 3) := by decide +kernel
theorem dX3_init_77 : decode cX3_init 77 = .ok (.aload_n 0, 1) := by decide +kernel
theorem dX3_init_78 : decode cX3_init 78 = .ok (.sipush 200, 3) := by decide +kernel
theorem dX3_init_81 : decode cX3_init 81 = .ok (.newarray .int, 2) := by decide +kernel
theorem dX3_init_83 : decode cX3_init 83 = .ok (.putfield 43, 3) := by decide +kernel
theorem dX3_init_86 : decode cX3_init 86 = .ok (.aload_n 0, 1) := by decide +kernel
theorem dX3_init_87 : decode cX3_init 87 = .ok (.iconst (-1), 1) := by decide +kernel
theorem dX3_init_88 : decode cX3_init 88 = .ok (.putfield 46, 3) := by decide +kernel
theorem dX3_init_91 : decode cX3_init 91 = .ok (.return_, 1) := by decide +kernel
theorem dX4_init_0 : decode cX4_init 0 = .ok (.aload_n 0, 1) := by decide +kernel
theorem dX4_init_1 : decode cX4_init 1 = .ok (.invokespecial 3, 3) := by decide +kernel
theorem dX4_init_4 : decode cX4_init 4 = .ok (.aload_n 0, 1) := by decide +kernel
theorem dX4_init_5 : decode cX4_init 5 = .ok (.new 9, 3) := by decide +kernel
theorem dX4_init_8 : decode cX4_init 8 = .ok (.dup, 1) := by decide +kernel
theorem dX4_init_9 : decode cX4_init 9 = .ok (.bipush 60, 2) := by decide +kernel
theorem dX4_init_11 : decode cX4_init 11 = .ok (.invokespecial 11, 3) := by decide +kernel
theorem dX4_init_14 : decode cX4_init 14 = .ok (.putfield 14, 3) := by decide +kernel
theorem dX4_init_17 : decode cX4_init 17 = .ok (.aload_n 0, 1) := by decide +kernel
theorem dX4_init_18 : decode cX4_init 18 = .ok (.new 9, 3) := by decide +kernel
theorem dX4_init_21 : decode cX4_init 21 = .ok (.dup, 1) := by decide +kernel
theorem dX4_init_22 : decode cX4_init 22 = .ok (.bipush 60, 2) := by decide +kernel
theorem dX4_init_24 : decode cX4_init 24 = .ok (.invokespecial 11, 3) := by decide +kernel
theorem dX4_init_27 : decode cX4_init 27 = .ok (.putfield 20, 3) := by decide +kernel
theorem dX4_init_30 : decode cX4_init 30 = .ok (.return_, 1) := by decide +kernel
theorem dX5_init_0 : decode cX5_init 0 = .ok (.aload_n 0, 1) := by decide +kernel
theorem dX5_init_1 : decode cX5_init 1 = .ok (.invokespecial 3, 3) := by decide +kernel
theorem dX5_init_4 : decode cX5_init 4 = .ok (.iload_n 1, 1) := by decide +kernel
theorem dX5_init_5 : decode cX5_init 5 = .ok (.ifCond .le 7, 3) := by decide +kernel
theorem dX5_init_8 : decode cX5_init 8 = .ok (.iload_n 1, 1) := by decide +kernel
theorem dX5_init_9 : decode cX5_init 9 = .ok (.goto 4, 3) := by decide +kernel
theorem dX5_init_13 : decode cX5_init 13 = .ok (.istore_n 2, 1) := by decide +kernel
theorem dX5_init_14 : decode cX5_init 14 = .ok (.aload_n 0, 1) := by decide +kernel
theorem dX5_init_15 : decode cX5_init 15 = .ok (.iload_n 2, 1) := by decide +kernel
theorem dX5_init_16 : decode cX5_init 16 = .ok (.newarray .int, 2) := by decide +kernel
theorem dX5_init_18 : decode cX5_init 18 = .ok (.putfield 9, 3) := by decide +kernel
theorem dX5_init_21 : decode cX5_init 21 = .ok (.aload_n 0, 1) := by decide +kernel
theorem dX5_init_22 : decode cX5_init 22 = .ok (.iload_n 2, 1) := by decide +kernel
theorem dX5_init_23 : decode cX5_init 23 = .ok (.newarray .int, 2) := by decide +kernel
theorem dX5_init_25 : decode cX5_init 25 = .ok (.putfield 15, 3) := by decide +kernel
theorem dX5_init_28 : decode cX5_init 28 = .ok (.aload_n 0, 1) := by decide +kernel
theorem dX5_init_29 : decode cX5_init 29 = .ok (.iload_n 2, 1) := by decide +kernel
theorem dX5_init_30 : decode cX5_init 30 = .ok (.newarray .int, 2) := by decide +kernel
theorem dX5_init_32 : decode cX5_init 32 = .ok (.putfield 18, 3) := by decide +kernel
theorem dX5_init_35 : decode cX5_init 35 = .ok (.aload_n 0, 1) := by decide +kernel
theorem dX5_init_36 : decode cX5_init 36 = .ok (.iload_n 2, 1) := by decide +kernel
theorem dX5_init_37 : decode cX5_init 37 = .ok (.newarray .long, 2) := by decide +kernel
theorem dX5_init_39 : decode cX5_init 39 = .ok (.putfield 21, 3) := by decide +kernel
theorem dX5_init_42 : decode cX5_init 42 = .ok (.aload_n 0, 1) := by decide +kernel
theorem dX5_init_43 : decode cX5_init 43 = .ok (.iload_n 2, 1) := by decide +kernel
theorem dX5_init_44 : decode cX5_init 44 = .ok (.newarray .int, 2) := by decide +kernel
theorem dX5_init_46 : decode cX5_init 46 = .ok (.putfield 25, 3) := by decide +kernel
theorem dX5_init_49 : decode cX5_init 49 = .ok (.aload_n 0, 1) := by decide +kernel
theorem dX5_init_50 : decode cX5_init 50 = .ok (.iload_n 2, 1) := by decide +kernel
theorem dX5_init_51 : decode cX5_init 51 = .ok (.newarray .int, 2) := by decide +kernel
theorem dX5_init_53 : decode cX5_init 53 = .ok (.putfield 28, 3) := by decide +kernel
theorem dX5_init_56 : decode cX5_init 56 = .ok (.aload_n 0, 1) := by decide +kernel
theorem dX5_init_57 : decode cX5_init 57 = .ok (.iload_n 2, 1) := by decide +kernel
theorem dX5_init_58 : decode cX5_init 58 = .ok (.newarray .int, 2) := by decide +kernel
theorem dX5_init_60 : decode cX5_init 60 = .ok (.putfield 31, 3) := by decide +kernel
theorem dX5_init_63 : decode cX5_init 63 = .ok (.return_, 1) := by decide +kernel
theorem dX6_init_0 : decode cX6_init 0 = .ok (.aload_n 0, 1) := by decide +kernel
theorem dX6_init_1 : decode cX6_init 1 = .ok (.invokespecial 5, 3) := by decide +kernel
theorem dX6_init_4 : decode cX6_init 4 = .ok (.aload_n 0, 1) := by decide +kernel
theorem dX6_init_5 : decode cX6_init 5 = .ok (.sipush 12061, 3) := by decide +kernel
theorem dX6_init_8 : decode cX6_init 8 = .ok (.newarray .int, 2) := by decide +kernel
theorem dX6_init_10 : decode cX6_init 10 = .ok (.putfield 11, 3) := by decide +kernel
theorem dX6_init_13 : decode cX6_init 13 = .ok (.aload_n 0, 1) := by decide +kernel
theorem dX6_init_14 : decode cX6_init 14 = .ok (.sipush 12061, 3) := by decide +kernel
theorem dX6_init_17 : decode cX6_init 17 = .ok (.newarray .int, 2) := by decide +kernel
theorem dX6_init_19 : decode cX6_init 19 = .ok (.putfield 15, 3) := by decide +kernel
theorem dX6_init_22 : decode cX6_init 22 = .ok (.aload_n 0, 1) := by decide +kernel
theorem dX6_init_23 : decode cX6_init 23 = .ok (.sipush 12061, 3) := by decide +kernel
theorem dX6_init_26 : decode cX6_init 26 = .ok (.newarray .int, 2) := by decide +kernel
theorem dX6_init_28 : decode cX6_init 28 = .ok (.putfield 18, 3) := by decide +kernel
theorem dX6_init_31 : decode cX6_init 31 = .ok (.aload_n 0, 1) := by decide +kernel
theorem dX6_init_32 : decode cX6_init 32 = .ok (.sipush 12061, 3) := by decide +kernel
theorem dX6_init_35 : decode cX6_init 35 = .ok (.newarray .int, 2) := by decide +kernel
theorem dX6_init_37 : decode cX6_init 37 = .ok (.putfield 21, 3) := by decide +kernel
theorem dX6_init_40 : decode cX6_init 40 = .ok (.aload_n 0, 1) := by decide +kernel
theorem dX6_init_41 : decode cX6_init 41 = .ok (.sipush 200, 3) := by decide +kernel
theorem dX6_init_44 : decode cX6_init 44 = .ok (.newarray .int, 2) := by decide +kernel
theorem dX6_init_46 : decode cX6_init 46 = .ok (.putfield 24, 3) := by decide +kernel
theorem dX6_init_49 : decode cX6_init 49 = .ok (.aload_n 0, 1) := by decide +kernel
theorem dX6_init_50 : decode cX6_init 50 = .ok (.sipush 202, 3) := by decide +kernel
theorem dX6_init_53 : decode cX6_init 53 = .ok (.newarray .int, 2) := by decide +kernel
theorem dX6_init_55 : decode cX6_init 55 = .ok (.putfield 27, 3) := by decide +kernel
theorem dX6_init_58 : decode cX6_init 58 = .ok (.aload_n 0, 1) := by decide +kernel
theorem dX6_init_59 : decode cX6_init 59 = .ok (.sipush 404, 3) := by decide +kernel
theorem dX6_init_62 : decode cX6_init 62 = .ok (.newarray .int, 2) := by decide +kernel
theorem dX6_init_64 : decode cX6_init 64 = .ok (.putfield 30, 3) := by decide +kernel
theorem dX6_init_67 : decode cX6_init 67 = .ok (.aload_n 0, 1) := by decide +kernel
theorem dX6_init_68 : decode cX6_init 68 = .ok (.bipush 60, 2) := by decide +kernel
theorem dX6_init_70 : decode cX6_init 70 = .ok (.newarray .int, 2) := by decide +kernel
theorem dX6_init_72 : decode cX6_init 72 = .ok (.putfield 33, 3) := by decide +kernel
theorem dX6_init_75 : decode cX6_init 75 = .ok (.aload_n 0, 1) := by decide +kernel
theorem dX6_init_76 : decode cX6_init 76 = .ok (.bipush 60, 2) := by decide +kernel
theorem dX6_init_78 : decode cX6_init 78 = .ok (.newarray .int, 2) := by decide +kernel
theorem dX6_init_80 : decode cX6_init 80 = .ok (.putfield 36, 3) := by decide +kernel
theorem dX6_init_83 : decode cX6_init 83 = .ok (.aload_n 0, 1) := by decide +kernel
theorem dX6_init_84 : decode cX6_init 84 = .ok (.bipush 60, 2) := by decide +kernel
theorem dX6_init_86 : decode cX6_init 86 = .ok (.newarray .int, 2) := by decide +kernel
theorem dX6_init_88 : decode cX6_init 88 = .ok (.putfield 39, 3) := by decide +kernel
theorem dX6_init_91 : decode cX6_init 91 = .ok (.aload_n 0, 1) := by decide +kernel
theorem dX6_init_92 : decode cX6_init 92 = .ok (.bipush 60, 2) := by decide +kernel
theorem dX6_init_94 : decode cX6_init 94 = .ok (.newarray .int, 2) := by decide +kernel
theorem dX6_init_96 : decode cX6_init 96 = .ok (.putfield 42, 3) := by decide +kernel
theorem dX6_init_99 : decode cX6_init 99 = .ok (.aload_n 0, 1) := by decide +kernel
theorem dX6_init_100 : decode cX6_init 100 = .ok (.sipush 200, 3) := by decide +kernel
theorem dX6_init_103 : decode cX6_init 103 = .ok (.newarray .int, 2) := by decide +kernel
theorem dX6_init_105 : decode cX6_init 105 = .ok (.putfield 45, 3) := by decide +kernel
theorem dX6_init_108 : decode cX6_init 108 = .ok (.return_, 1) := by decide +kernel
theorem dX7_init_0 : decode cX7_init 0 = .ok (.aload_n 0, 1) := by decide +kernel
theorem dX7_init_1 : decode cX7_init 1 = .ok (.invokespecial 1, 3) := by decide +kernel
theorem dX7_init_4 : decode cX7_init 4 = .ok (.aload_n 0, 1) := by decide +kernel
theorem dX7_init_5 : decode cX7_init 5 = .ok (.new 7, 3) := by decide +kernel
theorem dX7_init_8 : decode cX7_init 8 = .ok (.dup, 1) := by decide +kernel
theorem dX7_init_9 : decode cX7_init 9 = .ok (.sipush 1200, 3) := by decide +kernel
theorem dX7_init_12 : decode cX7_init 12 = .ok (.invokespecial 11, 3) := by decide +kernel
theorem dX7_init_15 : decode cX7_init 15 = .ok (.putfield 14, 3) := by decide +kernel
theorem dX7_init_18 : decode cX7_init 18 = .ok (.aload_n 0, 1) := by decide +kernel
theorem dX7_init_19 : decode cX7_init 19 = .ok (.new 7, 3) := by decide +kernel
theorem dX7_init_22 : decode cX7_init 22 = .ok (.dup, 1) := by decide +kernel
theorem dX7_init_23 : decode cX7_init 23 = .ok (.bipush 60, 2) := by decide +kernel
theorem dX7_init_25 : decode cX7_init 25 = .ok (.invokespecial 11, 3) := by decide +kernel
theorem dX7_init_28 : decode cX7_init 28 = .ok (.putfield 18, 3) := by decide +kernel
theorem dX7_init_31 : decode cX7_init 31 = .ok (.aload_n 0, 1) := by decide +kernel
theorem dX7_init_32 : decode cX7_init 32 = .ok (.new 7, 3) := by decide +kernel
theorem dX7_init_35 : decode cX7_init 35 = .ok (.dup, 1) := by decide +kernel
theorem dX7_init_36 : decode cX7_init 36 = .ok (.bipush 60, 2) := by decide +kernel
theorem dX7_init_38 : decode cX7_init 38 = .ok (.invokespecial 11, 3) := by decide +kernel
theorem dX7_init_41 : decode cX7_init 41 = .ok (.putfield 21, 3) := by decide +kernel
theorem dX7_init_44 : decode cX7_init 44 = .ok (.aload_n 0, 1) := by decide +kernel
theorem dX7_init_45 : decode cX7_init 45 = .ok (.iconst (-1), 1) := by decide +kernel
theorem dX7_init_46 : decode cX7_init 46 = .ok (.putfield 24, 3) := by decide +kernel
theorem dX7_init_49 : decode cX7_init 49 = .ok (.aload_n 0, 1) := by decide +kernel
theorem dX7_init_50 : decode cX7_init 50 = .ok (.new 28, 3) := by decide +kernel
theorem dX7_init_53 : decode cX7_init 53 = .ok (.dup, 1) := by decide +kernel
theorem dX7_init_54 : decode cX7_init 54 = .ok (.invokespecial 30, 3) := by decide +kernel
theorem dX7_init_57 : decode cX7_init 57 = .ok (.putfield 31, 3) := by decide +kernel
theorem dX7_init_60 : decode cX7_init 60 = .ok (.aload_n 0, 1) := by decide +kernel
theorem dX7_init_61 : decode cX7_init 61 = .ok (.new 35, 3) := by decide +kernel
theorem dX7_init_64 : decode cX7_init 64 = .ok (.dup, 1) := by decide +kernel
theorem dX7_init_65 : decode cX7_init 65 = .ok (.invokespecial 37, 3) := by decide +kernel
theorem dX7_init_68 : decode cX7_init 68 = .ok (.putfield 38, 3) := by decide +kernel
theorem dX7_init_71 : decode cX7_init 71 = .ok (.aload_n 0, 1) := by decide +kernel
theorem dX7_init_72 : decode cX7_init 72 = .ok (.new 42, 3) := by decide +kernel
theorem dX7_init_75 : decode cX7_init 75 = .ok (.dup, 1) := by decide +kernel
theorem dX7_init_76 : decode cX7_init 76 = .ok (.invokespecial 44, 3) := by decide +kernel
theorem dX7_init_79 : decode cX7_init 79 = .ok (.putfield 45, 3) := by decide +kernel
theorem dX7_init_82 : decode cX7_init 82 = .ok (.aload_n 0, 1) := by decide +kernel
theorem dX7_init_83 : decode cX7_init 83 = .ok (.new 49, 3) := by decide +kernel
theorem dX7_init_86 : decode cX7_init 86 = .ok (.dup, 1) := by decide +kernel
theorem dX7_init_87 : decode cX7_init 87 = .ok (.aload_n 0, 1) := by decide +kernel
theorem dX7_init_88 : decode cX7_init 88 = .ok (.getfield 45, 3) := by decide +kernel
theorem dX7_init_91 : decode cX7_init 91 = .ok (.invokespecial 51, 3) := by decide +kernel
theorem dX7_init_94 : decode cX7_init 94 = .ok (.putfield 54, 3) := by decide +kernel
theorem dX7_init_97 : decode cX7_init 97 = .ok (.return_, 1) := by decide +kernel
theorem dflt_X5 : ∀ j, j < 8 → defaultValue (tyX5 j) = vp_V [.null, .null, .null, .null, .null, .null, .null, .int 0] j := fun j hj => by rcases (show j = 0 ∨ j = 1 ∨ j = 2 ∨ j = 3 ∨ j = 4 ∨ j = 5 ∨ j = 6 ∨ j = 7 by omega) with rfl | rfl | rfl | rfl | rfl | rfl | rfl | rfl <;> rfl
theorem dflt_X4 : ∀ j, j < 2 → defaultValue (tyX4 j) = vp_V [.null, .null] j := fun j hj => by rcases (show j = 0 ∨ j = 1 by omega) with rfl | rfl <;> rfl
theorem dflt_X6 : ∀ j, j < 15 → defaultValue (tyX6 j) = vp_V [.null, .null, .null, .null, .int 0, .null, .null, .null, .null, .null, .null, .null, .null, .int 0, .int 0] j := fun j hj => by rcases (show j = 0 ∨ j = 1 ∨ j = 2 ∨ j = 3 ∨ j = 4 ∨ j = 5 ∨ j = 6 ∨ j = 7 ∨ j = 8 ∨ j = 9 ∨ j = 10 ∨ j = 11 ∨ j = 12 ∨ j = 13 ∨ j = 14 by omega) with rfl | rfl | rfl | rfl | rfl | rfl | rfl | rfl | rfl | rfl | rfl | rfl | rfl | rfl | rfl <;> rfl
theorem dflt_X0 : ∀ j, j < 7 → defaultValue (tyX0 j) = vp_V [.null, .null, .null, .null, .null, .null, .int 0] j := fun j hj => by rcases (show j = 0 ∨ j = 1 ∨ j = 2 ∨ j = 3 ∨ j = 4 ∨ j = 5 ∨ j = 6 by omega) with rfl | rfl | rfl | rfl | rfl | rfl | rfl <;> rfl
theorem dflt_X1 : ∀ j, j < 10 → defaultValue (tyX1 j) = vp_V [.int 0, .null, .null, .null, .null, .int 0, .null, .null, .null, .int 0] j := fun j hj => by rcases (show j = 0 ∨ j = 1 ∨ j = 2 ∨ j = 3 ∨ j = 4 ∨ j = 5 ∨ j = 6 ∨ j = 7 ∨ j = 8 ∨ j = 9 by omega) with rfl | rfl | rfl | rfl | rfl | rfl | rfl | rfl | rfl | rfl <;> rfl
theorem dflt_X3 : ∀ j, j < 16 → defaultValue (tyX3 j) = vp_V [.null, .null, .null, .null, .null, .null, .null, .null, .null, .int 0, .int 0, .int 0, .int 0, .int 0, .int 0, .int 0] j := fun j hj => by rcases (show j = 0 ∨ j = 1 ∨ j = 2 ∨ j = 3 ∨ j = 4 ∨ j = 5 ∨ j = 6 ∨ j = 7 ∨ j = 8 ∨ j = 9 ∨ j = 10 ∨ j = 11 ∨ j = 12 ∨ j = 13 ∨ j = 14 ∨ j = 15 by omega) with rfl | rfl | rfl | rfl | rfl | rfl | rfl | rfl | rfl | rfl | rfl | rfl | rfl | rfl | rfl | rfl <;> rfl
set_option maxRecDepth 20000 in
def z_Ti60 : List Cond := .code yX5_init cX5_init 3 none :: (([.methodLink RX5 3 objectInit, .instanceMethod objectInit, .code objectInit ⟨#[0xb1]⟩ 1 none, .arrayClass .int, .fieldLink RX5 9 "Selfkindle$Term" "kinds" "[I", .fieldLink RX5 15 "Selfkindle$Term" "names" "[I", .fieldLink RX5 18 "Selfkindle$Term" "others" "[I", .arrayClass .long, .fieldLink RX5 21 "Selfkindle$Term" "numbers" "[J", .fieldLink RX5 25 "Selfkindle$Term" "sizes" "[I", .fieldLink RX5 28 "Selfkindle$Term" "binders" "[I", .fieldLink RX5 31 "Selfkindle$Term" "distances" "[I"] : List Cond) ++ wsX50)
theorem in_z_Ti60_X5 : ∀ w ∈ wsX50, w ∈ z_Ti60 := fun w h => List.mem_cons_of_mem _ (List.mem_append_right _ (h))
set_option maxHeartbeats 4000000 in
set_option maxRecDepth 100000 in
/-- Term(60) -/
theorem c_Ti60 (l : Launch) (dC : Nat → ClassId) (dI : Nat → Nat → Nat) (tp te : Nat) (sz : Nat) (h0 : Nat)  : Met l yX5_init z_Ti60 ({ frames := 1, cells := 7, slots := 420, locals := 12 }) (va_Pc [.ref h0, .int 60] (Pw dC dI [(h0, .inr (6, [.null, .null, .null, .null, .null, .null, .null, .int 0]))] [] sz tp te)) (va_Qv (fun (_ : Unit) => True) (fun (_ : Unit) (t : State) => ∃ (q_1 : Nat), ∃ (q_5 : Nat), ∃ (q_9 : Nat), ∃ (q_13 : Nat), ∃ (q_17 : Nat), ∃ (q_21 : Nat), ∃ (q_25 : Nat), Bw dC dI [(h0, .inr (6, [.ref q_1, .ref q_5, .ref q_9, .ref q_13, .ref q_17, .ref q_21, .ref q_25, .int 0]))] [] (va_A [(h0, .inr (6, [.null, .null, .null, .null, .null, .null, .null, .int 0]))] sz) t) (va_A [(h0, .inr (6, [.null, .null, .null, .null, .null, .null, .null, .int 0]))] sz)) 7 420 (va_A [(h0, .inr (6, [.null, .null, .null, .null, .null, .null, .null, .int 0]))] sz) := by
  refine Met.ofW (cc := cX5_init) (maxL := 3) (ret := none) (by decide) rfl ?_
  intro p e s m args below meth c s₁ B hml hv
  obtain ⟨rfl, hsz, hP, hK, hD0, hG⟩ := hv
  have hx := B.exec
  have hb := B.bytes
  have hr := B.returns
  have hts := atoms_spec (ws := z_Ti60) B.pre
  have hown : s.vm.findClass RX5 = some m.cls := findClass_of_methodNamed B.named
  have hlocks := B.notSynchronized
  have hin : meth.name = "<init>" := (name_of_methodNamed B.named B.method).1
  subst hsz
  have hD := hD0.self (sz := s.heap.size)
  generalize hAe : va_A [(h0, .inr (6, [.null, .null, .null, .null, .null, .null, .null, .int 0]))] s.heap.size = A at hD hG ⊢
  have hA : ∀ q : Nat, s.heap.size ≤ q → A q := fun q h => by rw [← hAe]; exact Or.inr h
  have hS : va_S A s.heap s.heap [] := va_S.rf
  have hl := lv_entry ([.ref h0, .int 60]) (n := 3) (Nat.le_of_ble_eq_true rfl)
  rw [lg_entry_eq]
  generalize (lg_sl ([.ref h0, .int 60]) ++ List.replicate (3 - (lg_sl ([.ref h0, .int 60])).length) Slot.unset).toArray = ls at hl ⊢
  have hl : lv_has ls 3 [(0, .ref h0), (1, .int 60)] := hl
  refine lv_aload_n hx hb dX5_init_0 rfl (lv_at hl 0 rfl) ?_
  refine W.objInit hx hb hown (hts (.methodLink RX5 3 objectInit) (List.mem_of_getElem? (i := 1) rfl)) (hts (.instanceMethod objectInit) (List.mem_of_getElem? (i := 2) rfl)) (hts _ (List.mem_of_getElem? (i := 3) rfl)) rfl (by rw [hml]; exact hl.1) rfl dX5_init_1 (Nat.le_of_ble_eq_true rfl) (Nat.le_of_ble_eq_true rfl) ?_
  refine W.eq (g2 := F0 m 4 ls []) rfl ?_
  refine lv_iload_n hx hb dX5_init_4 rfl (lv_at hl 1 rfl) ?_
  refine lv_if_le (tgt := 12) hx hb dX5_init_5 (by decide) (fun c9 => absurd c9 (by decide)) (fun c9 => ?_)
  refine lv_iload_n hx hb dX5_init_8 rfl (lv_at hl 1 rfl) ?_
  refine lv_goto (tgt := 13) hx hb dX5_init_9 (by decide) ?_
  refine lv_istore_n (lv' := [(2, .int 60), (0, .ref h0), (1, .int 60)]) hx hb dX5_init_13 rfl hl (by decide) rfl (fun ls hl => ?_)
  refine lv_aload_n hx hb dX5_init_14 rfl (lv_at hl 1 rfl) ?_
  refine lv_iload_n hx hb dX5_init_15 rfl (lv_at hl 0 rfl) ?_
  refine va_newa (atype := .int) (ty := .int) (a0 := (60, .inl (fun _ => 0))) hx hb (hts (.arrayClass .int) (List.mem_of_getElem? (i := 4) rfl)) rfl hK hP hD hS hA (fun _ => rfl) (by decide) (by decide +kernel) (Nat.le_of_ble_eq_true rfl) (Nat.le_of_ble_eq_true rfl) (Nat.le_of_ble_eq_true rfl) dX5_init_16 (fun q_1 cA_2 H_3 hK hP hD hS => ?_)
  have hP : va_P (dC, dI) vwCl [(h0, .inr (6, [.null, .null, .null, .null, .null, .null, .null, .int 0])), (q_1, .inl (cA_2, 60, .inl (fun _ => 0)))] H_3 := hP
  have hD : va_D A [(h0, .inr (6, [.null, .null, .null, .null, .null, .null, .null, .int 0])), (q_1, .inl (cA_2, 60, .inl (fun _ => 0)))] := hD
  have hK : va_K (dC, dI) vwCl [(cA_2, .int)] s := hK
  refine W.widen (k := 1) (n := 60) (Nat.le_of_ble_eq_true rfl) (Nat.le_of_ble_eq_true rfl) ?_
  refine va_putF (D := (dC, dI)) (ci := 6) (v := .ref q_1) (ty := .array .int) (C := RX5) (T := TX5) (N := 8) hx hb hts in_z_Ti60_X5 tyX5 tyX5_ok nmX5 hown hK hP hD hS 0 rfl rfl 0 (by decide) (hts (.fieldLink RX5 9 "Selfkindle$Term" "kinds" "[I") (List.mem_of_getElem? (i := 5) rfl)) (fun _ h9 => h9) rfl hin rfl (by decide +kernel) rfl rfl (Nat.le_of_ble_eq_true rfl) dX5_init_18 (fun H_4 locs hP hD hS => ?_)
  have hP : va_P (dC, dI) vwCl [(h0, .inr (6, [.ref q_1, .null, .null, .null, .null, .null, .null, .int 0])), (q_1, .inl (cA_2, 60, .inl (fun _ => 0)))] H_4 := hP
  have hD : va_D A [(h0, .inr (6, [.ref q_1, .null, .null, .null, .null, .null, .null, .int 0])), (q_1, .inl (cA_2, 60, .inl (fun _ => 0)))] := hD
  have hK : va_K (dC, dI) vwCl [(cA_2, .int)] s := hK
  have hP := hP.sub (ws' := [(h0, .inr (6, [.ref q_1, .null, .null, .null, .null, .null, .null, .int 0]))]) [0] rfl
  have hD := hD.sub (ws' := [(h0, .inr (6, [.ref q_1, .null, .null, .null, .null, .null, .null, .int 0]))]) [0] (by decide) rfl
  have hK := hK.sub (tys' := []) [] rfl
  have hP : va_P (dC, dI) vwCl [(h0, .inr (6, [.ref q_1, .null, .null, .null, .null, .null, .null, .int 0]))] H_4 := hP
  have hD : va_D A [(h0, .inr (6, [.ref q_1, .null, .null, .null, .null, .null, .null, .int 0]))] := hD
  have hK : va_K (dC, dI) vwCl [] s := hK
  refine lv_aload_n hx hb dX5_init_21 rfl (lv_at hl 1 rfl) ?_
  refine lv_iload_n hx hb dX5_init_22 rfl (lv_at hl 0 rfl) ?_
  refine va_newa (atype := .int) (ty := .int) (a0 := (60, .inl (fun _ => 0))) hx hb (hts (.arrayClass .int) (List.mem_of_getElem? (i := 4) rfl)) rfl hK hP hD hS hA (fun _ => rfl) (by decide) (by decide +kernel) (Nat.le_of_ble_eq_true rfl) (Nat.le_of_ble_eq_true rfl) (Nat.le_of_ble_eq_true rfl) dX5_init_23 (fun q_5 cA_6 H_7 hK hP hD hS => ?_)
  have hP : va_P (dC, dI) vwCl [(h0, .inr (6, [.ref q_1, .null, .null, .null, .null, .null, .null, .int 0])), (q_5, .inl (cA_6, 60, .inl (fun _ => 0)))] H_7 := hP
  have hD : va_D A [(h0, .inr (6, [.ref q_1, .null, .null, .null, .null, .null, .null, .int 0])), (q_5, .inl (cA_6, 60, .inl (fun _ => 0)))] := hD
  have hK : va_K (dC, dI) vwCl [(cA_6, .int)] s := hK
  refine W.widen (k := 2) (n := 120) (Nat.le_of_ble_eq_true rfl) (Nat.le_of_ble_eq_true rfl) ?_
  refine va_putF (D := (dC, dI)) (ci := 6) (v := .ref q_5) (ty := .array .int) (C := RX5) (T := TX5) (N := 8) hx hb hts in_z_Ti60_X5 tyX5 tyX5_ok nmX5 hown hK hP hD hS 0 rfl rfl 1 (by decide) (hts (.fieldLink RX5 15 "Selfkindle$Term" "names" "[I") (List.mem_of_getElem? (i := 6) rfl)) (fun _ h9 => h9) rfl hin rfl (by decide +kernel) rfl rfl (Nat.le_of_ble_eq_true rfl) dX5_init_25 (fun H_8 locs hP hD hS => ?_)
  have hP : va_P (dC, dI) vwCl [(h0, .inr (6, [.ref q_1, .ref q_5, .null, .null, .null, .null, .null, .int 0])), (q_5, .inl (cA_6, 60, .inl (fun _ => 0)))] H_8 := hP
  have hD : va_D A [(h0, .inr (6, [.ref q_1, .ref q_5, .null, .null, .null, .null, .null, .int 0])), (q_5, .inl (cA_6, 60, .inl (fun _ => 0)))] := hD
  have hK : va_K (dC, dI) vwCl [(cA_6, .int)] s := hK
  have hP := hP.sub (ws' := [(h0, .inr (6, [.ref q_1, .ref q_5, .null, .null, .null, .null, .null, .int 0]))]) [0] rfl
  have hD := hD.sub (ws' := [(h0, .inr (6, [.ref q_1, .ref q_5, .null, .null, .null, .null, .null, .int 0]))]) [0] (by decide) rfl
  have hK := hK.sub (tys' := []) [] rfl
  have hP : va_P (dC, dI) vwCl [(h0, .inr (6, [.ref q_1, .ref q_5, .null, .null, .null, .null, .null, .int 0]))] H_8 := hP
  have hD : va_D A [(h0, .inr (6, [.ref q_1, .ref q_5, .null, .null, .null, .null, .null, .int 0]))] := hD
  have hK : va_K (dC, dI) vwCl [] s := hK
  refine lv_aload_n hx hb dX5_init_28 rfl (lv_at hl 1 rfl) ?_
  refine lv_iload_n hx hb dX5_init_29 rfl (lv_at hl 0 rfl) ?_
  refine va_newa (atype := .int) (ty := .int) (a0 := (60, .inl (fun _ => 0))) hx hb (hts (.arrayClass .int) (List.mem_of_getElem? (i := 4) rfl)) rfl hK hP hD hS hA (fun _ => rfl) (by decide) (by decide +kernel) (Nat.le_of_ble_eq_true rfl) (Nat.le_of_ble_eq_true rfl) (Nat.le_of_ble_eq_true rfl) dX5_init_30 (fun q_9 cA_10 H_11 hK hP hD hS => ?_)
  have hP : va_P (dC, dI) vwCl [(h0, .inr (6, [.ref q_1, .ref q_5, .null, .null, .null, .null, .null, .int 0])), (q_9, .inl (cA_10, 60, .inl (fun _ => 0)))] H_11 := hP
  have hD : va_D A [(h0, .inr (6, [.ref q_1, .ref q_5, .null, .null, .null, .null, .null, .int 0])), (q_9, .inl (cA_10, 60, .inl (fun _ => 0)))] := hD
  have hK : va_K (dC, dI) vwCl [(cA_10, .int)] s := hK
  refine W.widen (k := 3) (n := 180) (Nat.le_of_ble_eq_true rfl) (Nat.le_of_ble_eq_true rfl) ?_
  refine va_putF (D := (dC, dI)) (ci := 6) (v := .ref q_9) (ty := .array .int) (C := RX5) (T := TX5) (N := 8) hx hb hts in_z_Ti60_X5 tyX5 tyX5_ok nmX5 hown hK hP hD hS 0 rfl rfl 2 (by decide) (hts (.fieldLink RX5 18 "Selfkindle$Term" "others" "[I") (List.mem_of_getElem? (i := 7) rfl)) (fun _ h9 => h9) rfl hin rfl (by decide +kernel) rfl rfl (Nat.le_of_ble_eq_true rfl) dX5_init_32 (fun H_12 locs hP hD hS => ?_)
  have hP : va_P (dC, dI) vwCl [(h0, .inr (6, [.ref q_1, .ref q_5, .ref q_9, .null, .null, .null, .null, .int 0])), (q_9, .inl (cA_10, 60, .inl (fun _ => 0)))] H_12 := hP
  have hD : va_D A [(h0, .inr (6, [.ref q_1, .ref q_5, .ref q_9, .null, .null, .null, .null, .int 0])), (q_9, .inl (cA_10, 60, .inl (fun _ => 0)))] := hD
  have hK : va_K (dC, dI) vwCl [(cA_10, .int)] s := hK
  have hP := hP.sub (ws' := [(h0, .inr (6, [.ref q_1, .ref q_5, .ref q_9, .null, .null, .null, .null, .int 0]))]) [0] rfl
  have hD := hD.sub (ws' := [(h0, .inr (6, [.ref q_1, .ref q_5, .ref q_9, .null, .null, .null, .null, .int 0]))]) [0] (by decide) rfl
  have hK := hK.sub (tys' := []) [] rfl
  have hP : va_P (dC, dI) vwCl [(h0, .inr (6, [.ref q_1, .ref q_5, .ref q_9, .null, .null, .null, .null, .int 0]))] H_12 := hP
  have hD : va_D A [(h0, .inr (6, [.ref q_1, .ref q_5, .ref q_9, .null, .null, .null, .null, .int 0]))] := hD
  have hK : va_K (dC, dI) vwCl [] s := hK
  refine lv_aload_n hx hb dX5_init_35 rfl (lv_at hl 1 rfl) ?_
  refine lv_iload_n hx hb dX5_init_36 rfl (lv_at hl 0 rfl) ?_
  refine va_newa (atype := .long) (ty := .long) (a0 := (60, .inr (.inl (fun _ => 0)))) hx hb (hts (.arrayClass .long) (List.mem_of_getElem? (i := 8) rfl)) rfl hK hP hD hS hA (fun _ => rfl) (by decide) (by decide +kernel) (Nat.le_of_ble_eq_true rfl) (Nat.le_of_ble_eq_true rfl) (Nat.le_of_ble_eq_true rfl) dX5_init_37 (fun q_13 cA_14 H_15 hK hP hD hS => ?_)
  have hP : va_P (dC, dI) vwCl [(h0, .inr (6, [.ref q_1, .ref q_5, .ref q_9, .null, .null, .null, .null, .int 0])), (q_13, .inl (cA_14, 60, .inr (.inl (fun _ => 0))))] H_15 := hP
  have hD : va_D A [(h0, .inr (6, [.ref q_1, .ref q_5, .ref q_9, .null, .null, .null, .null, .int 0])), (q_13, .inl (cA_14, 60, .inr (.inl (fun _ => 0))))] := hD
  have hK : va_K (dC, dI) vwCl [(cA_14, .long)] s := hK
  refine W.widen (k := 4) (n := 240) (Nat.le_of_ble_eq_true rfl) (Nat.le_of_ble_eq_true rfl) ?_
  refine va_putF (D := (dC, dI)) (ci := 6) (v := .ref q_13) (ty := .array .long) (C := RX5) (T := TX5) (N := 8) hx hb hts in_z_Ti60_X5 tyX5 tyX5_ok nmX5 hown hK hP hD hS 0 rfl rfl 3 (by decide) (hts (.fieldLink RX5 21 "Selfkindle$Term" "numbers" "[J") (List.mem_of_getElem? (i := 9) rfl)) (fun _ h9 => h9) rfl hin rfl (by decide +kernel) rfl rfl (Nat.le_of_ble_eq_true rfl) dX5_init_39 (fun H_16 locs hP hD hS => ?_)
  have hP : va_P (dC, dI) vwCl [(h0, .inr (6, [.ref q_1, .ref q_5, .ref q_9, .ref q_13, .null, .null, .null, .int 0])), (q_13, .inl (cA_14, 60, .inr (.inl (fun _ => 0))))] H_16 := hP
  have hD : va_D A [(h0, .inr (6, [.ref q_1, .ref q_5, .ref q_9, .ref q_13, .null, .null, .null, .int 0])), (q_13, .inl (cA_14, 60, .inr (.inl (fun _ => 0))))] := hD
  have hK : va_K (dC, dI) vwCl [(cA_14, .long)] s := hK
  have hP := hP.sub (ws' := [(h0, .inr (6, [.ref q_1, .ref q_5, .ref q_9, .ref q_13, .null, .null, .null, .int 0]))]) [0] rfl
  have hD := hD.sub (ws' := [(h0, .inr (6, [.ref q_1, .ref q_5, .ref q_9, .ref q_13, .null, .null, .null, .int 0]))]) [0] (by decide) rfl
  have hK := hK.sub (tys' := []) [] rfl
  have hP : va_P (dC, dI) vwCl [(h0, .inr (6, [.ref q_1, .ref q_5, .ref q_9, .ref q_13, .null, .null, .null, .int 0]))] H_16 := hP
  have hD : va_D A [(h0, .inr (6, [.ref q_1, .ref q_5, .ref q_9, .ref q_13, .null, .null, .null, .int 0]))] := hD
  have hK : va_K (dC, dI) vwCl [] s := hK
  refine lv_aload_n hx hb dX5_init_42 rfl (lv_at hl 1 rfl) ?_
  refine lv_iload_n hx hb dX5_init_43 rfl (lv_at hl 0 rfl) ?_
  refine va_newa (atype := .int) (ty := .int) (a0 := (60, .inl (fun _ => 0))) hx hb (hts (.arrayClass .int) (List.mem_of_getElem? (i := 4) rfl)) rfl hK hP hD hS hA (fun _ => rfl) (by decide) (by decide +kernel) (Nat.le_of_ble_eq_true rfl) (Nat.le_of_ble_eq_true rfl) (Nat.le_of_ble_eq_true rfl) dX5_init_44 (fun q_17 cA_18 H_19 hK hP hD hS => ?_)
  have hP : va_P (dC, dI) vwCl [(h0, .inr (6, [.ref q_1, .ref q_5, .ref q_9, .ref q_13, .null, .null, .null, .int 0])), (q_17, .inl (cA_18, 60, .inl (fun _ => 0)))] H_19 := hP
  have hD : va_D A [(h0, .inr (6, [.ref q_1, .ref q_5, .ref q_9, .ref q_13, .null, .null, .null, .int 0])), (q_17, .inl (cA_18, 60, .inl (fun _ => 0)))] := hD
  have hK : va_K (dC, dI) vwCl [(cA_18, .int)] s := hK
  refine W.widen (k := 5) (n := 300) (Nat.le_of_ble_eq_true rfl) (Nat.le_of_ble_eq_true rfl) ?_
  refine va_putF (D := (dC, dI)) (ci := 6) (v := .ref q_17) (ty := .array .int) (C := RX5) (T := TX5) (N := 8) hx hb hts in_z_Ti60_X5 tyX5 tyX5_ok nmX5 hown hK hP hD hS 0 rfl rfl 4 (by decide) (hts (.fieldLink RX5 25 "Selfkindle$Term" "sizes" "[I") (List.mem_of_getElem? (i := 10) rfl)) (fun _ h9 => h9) rfl hin rfl (by decide +kernel) rfl rfl (Nat.le_of_ble_eq_true rfl) dX5_init_46 (fun H_20 locs hP hD hS => ?_)
  have hP : va_P (dC, dI) vwCl [(h0, .inr (6, [.ref q_1, .ref q_5, .ref q_9, .ref q_13, .ref q_17, .null, .null, .int 0])), (q_17, .inl (cA_18, 60, .inl (fun _ => 0)))] H_20 := hP
  have hD : va_D A [(h0, .inr (6, [.ref q_1, .ref q_5, .ref q_9, .ref q_13, .ref q_17, .null, .null, .int 0])), (q_17, .inl (cA_18, 60, .inl (fun _ => 0)))] := hD
  have hK : va_K (dC, dI) vwCl [(cA_18, .int)] s := hK
  have hP := hP.sub (ws' := [(h0, .inr (6, [.ref q_1, .ref q_5, .ref q_9, .ref q_13, .ref q_17, .null, .null, .int 0]))]) [0] rfl
  have hD := hD.sub (ws' := [(h0, .inr (6, [.ref q_1, .ref q_5, .ref q_9, .ref q_13, .ref q_17, .null, .null, .int 0]))]) [0] (by decide) rfl
  have hK := hK.sub (tys' := []) [] rfl
  have hP : va_P (dC, dI) vwCl [(h0, .inr (6, [.ref q_1, .ref q_5, .ref q_9, .ref q_13, .ref q_17, .null, .null, .int 0]))] H_20 := hP
  have hD : va_D A [(h0, .inr (6, [.ref q_1, .ref q_5, .ref q_9, .ref q_13, .ref q_17, .null, .null, .int 0]))] := hD
  have hK : va_K (dC, dI) vwCl [] s := hK
  refine lv_aload_n hx hb dX5_init_49 rfl (lv_at hl 1 rfl) ?_
  refine lv_iload_n hx hb dX5_init_50 rfl (lv_at hl 0 rfl) ?_
  refine va_newa (atype := .int) (ty := .int) (a0 := (60, .inl (fun _ => 0))) hx hb (hts (.arrayClass .int) (List.mem_of_getElem? (i := 4) rfl)) rfl hK hP hD hS hA (fun _ => rfl) (by decide) (by decide +kernel) (Nat.le_of_ble_eq_true rfl) (Nat.le_of_ble_eq_true rfl) (Nat.le_of_ble_eq_true rfl) dX5_init_51 (fun q_21 cA_22 H_23 hK hP hD hS => ?_)
  have hP : va_P (dC, dI) vwCl [(h0, .inr (6, [.ref q_1, .ref q_5, .ref q_9, .ref q_13, .ref q_17, .null, .null, .int 0])), (q_21, .inl (cA_22, 60, .inl (fun _ => 0)))] H_23 := hP
  have hD : va_D A [(h0, .inr (6, [.ref q_1, .ref q_5, .ref q_9, .ref q_13, .ref q_17, .null, .null, .int 0])), (q_21, .inl (cA_22, 60, .inl (fun _ => 0)))] := hD
  have hK : va_K (dC, dI) vwCl [(cA_22, .int)] s := hK
  refine W.widen (k := 6) (n := 360) (Nat.le_of_ble_eq_true rfl) (Nat.le_of_ble_eq_true rfl) ?_
  refine va_putF (D := (dC, dI)) (ci := 6) (v := .ref q_21) (ty := .array .int) (C := RX5) (T := TX5) (N := 8) hx hb hts in_z_Ti60_X5 tyX5 tyX5_ok nmX5 hown hK hP hD hS 0 rfl rfl 5 (by decide) (hts (.fieldLink RX5 28 "Selfkindle$Term" "binders" "[I") (List.mem_of_getElem? (i := 11) rfl)) (fun _ h9 => h9) rfl hin rfl (by decide +kernel) rfl rfl (Nat.le_of_ble_eq_true rfl) dX5_init_53 (fun H_24 locs hP hD hS => ?_)
  have hP : va_P (dC, dI) vwCl [(h0, .inr (6, [.ref q_1, .ref q_5, .ref q_9, .ref q_13, .ref q_17, .ref q_21, .null, .int 0])), (q_21, .inl (cA_22, 60, .inl (fun _ => 0)))] H_24 := hP
  have hD : va_D A [(h0, .inr (6, [.ref q_1, .ref q_5, .ref q_9, .ref q_13, .ref q_17, .ref q_21, .null, .int 0])), (q_21, .inl (cA_22, 60, .inl (fun _ => 0)))] := hD
  have hK : va_K (dC, dI) vwCl [(cA_22, .int)] s := hK
  have hP := hP.sub (ws' := [(h0, .inr (6, [.ref q_1, .ref q_5, .ref q_9, .ref q_13, .ref q_17, .ref q_21, .null, .int 0]))]) [0] rfl
  have hD := hD.sub (ws' := [(h0, .inr (6, [.ref q_1, .ref q_5, .ref q_9, .ref q_13, .ref q_17, .ref q_21, .null, .int 0]))]) [0] (by decide) rfl
  have hK := hK.sub (tys' := []) [] rfl
  have hP : va_P (dC, dI) vwCl [(h0, .inr (6, [.ref q_1, .ref q_5, .ref q_9, .ref q_13, .ref q_17, .ref q_21, .null, .int 0]))] H_24 := hP
  have hD : va_D A [(h0, .inr (6, [.ref q_1, .ref q_5, .ref q_9, .ref q_13, .ref q_17, .ref q_21, .null, .int 0]))] := hD
  have hK : va_K (dC, dI) vwCl [] s := hK
  refine lv_aload_n hx hb dX5_init_56 rfl (lv_at hl 1 rfl) ?_
  refine lv_iload_n hx hb dX5_init_57 rfl (lv_at hl 0 rfl) ?_
  refine va_newa (atype := .int) (ty := .int) (a0 := (60, .inl (fun _ => 0))) hx hb (hts (.arrayClass .int) (List.mem_of_getElem? (i := 4) rfl)) rfl hK hP hD hS hA (fun _ => rfl) (by decide) (by decide +kernel) (Nat.le_of_ble_eq_true rfl) (Nat.le_of_ble_eq_true rfl) (Nat.le_of_ble_eq_true rfl) dX5_init_58 (fun q_25 cA_26 H_27 hK hP hD hS => ?_)
  have hP : va_P (dC, dI) vwCl [(h0, .inr (6, [.ref q_1, .ref q_5, .ref q_9, .ref q_13, .ref q_17, .ref q_21, .null, .int 0])), (q_25, .inl (cA_26, 60, .inl (fun _ => 0)))] H_27 := hP
  have hD : va_D A [(h0, .inr (6, [.ref q_1, .ref q_5, .ref q_9, .ref q_13, .ref q_17, .ref q_21, .null, .int 0])), (q_25, .inl (cA_26, 60, .inl (fun _ => 0)))] := hD
  have hK : va_K (dC, dI) vwCl [(cA_26, .int)] s := hK
  refine W.widen (k := 7) (n := 420) (Nat.le_of_ble_eq_true rfl) (Nat.le_of_ble_eq_true rfl) ?_
  refine va_putF (D := (dC, dI)) (ci := 6) (v := .ref q_25) (ty := .array .int) (C := RX5) (T := TX5) (N := 8) hx hb hts in_z_Ti60_X5 tyX5 tyX5_ok nmX5 hown hK hP hD hS 0 rfl rfl 6 (by decide) (hts (.fieldLink RX5 31 "Selfkindle$Term" "distances" "[I") (List.mem_of_getElem? (i := 12) rfl)) (fun _ h9 => h9) rfl hin rfl (by decide +kernel) rfl rfl (Nat.le_of_ble_eq_true rfl) dX5_init_60 (fun H_28 locs hP hD hS => ?_)
  have hP : va_P (dC, dI) vwCl [(h0, .inr (6, [.ref q_1, .ref q_5, .ref q_9, .ref q_13, .ref q_17, .ref q_21, .ref q_25, .int 0])), (q_25, .inl (cA_26, 60, .inl (fun _ => 0)))] H_28 := hP
  have hD : va_D A [(h0, .inr (6, [.ref q_1, .ref q_5, .ref q_9, .ref q_13, .ref q_17, .ref q_21, .ref q_25, .int 0])), (q_25, .inl (cA_26, 60, .inl (fun _ => 0)))] := hD
  have hK : va_K (dC, dI) vwCl [(cA_26, .int)] s := hK
  have hP := hP.sub (ws' := [(h0, .inr (6, [.ref q_1, .ref q_5, .ref q_9, .ref q_13, .ref q_17, .ref q_21, .ref q_25, .int 0]))]) [0] rfl
  have hD := hD.sub (ws' := [(h0, .inr (6, [.ref q_1, .ref q_5, .ref q_9, .ref q_13, .ref q_17, .ref q_21, .ref q_25, .int 0]))]) [0] (by decide) rfl
  have hK := hK.sub (tys' := []) [] rfl
  have hP : va_P (dC, dI) vwCl [(h0, .inr (6, [.ref q_1, .ref q_5, .ref q_9, .ref q_13, .ref q_17, .ref q_21, .ref q_25, .int 0]))] H_28 := hP
  have hD : va_D A [(h0, .inr (6, [.ref q_1, .ref q_5, .ref q_9, .ref q_13, .ref q_17, .ref q_21, .ref q_25, .int 0]))] := hD
  have hK : va_K (dC, dI) vwCl [] s := hK
  refine W.widen (k := 7) (n := 420) (Nat.le_of_ble_eq_true rfl) (Nat.le_of_ble_eq_true rfl) ?_
  exact W.vret hx hb hr (fun t ht hW => ⟨⟨(), rfl, trivial, ⟨q_1, q_5, q_9, q_13, q_17, q_21, q_25, by rw [ht]; exact hP, va_K.moved hW.alike hK, hD⟩⟩, hS.F ht⟩) hS.2.2 dX5_init_63

set_option maxRecDepth 20000 in
def z_Ti1200 : List Cond := .code yX5_init cX5_init 3 none :: (([.methodLink RX5 3 objectInit, .instanceMethod objectInit, .code objectInit ⟨#[0xb1]⟩ 1 none, .arrayClass .int, .fieldLink RX5 9 "Selfkindle$Term" "kinds" "[I", .fieldLink RX5 15 "Selfkindle$Term" "names" "[I", .fieldLink RX5 18 "Selfkindle$Term" "others" "[I", .arrayClass .long, .fieldLink RX5 21 "Selfkindle$Term" "numbers" "[J", .fieldLink RX5 25 "Selfkindle$Term" "sizes" "[I", .fieldLink RX5 28 "Selfkindle$Term" "binders" "[I", .fieldLink RX5 31 "Selfkindle$Term" "distances" "[I"] : List Cond) ++ wsX50)
theorem in_z_Ti1200_X5 : ∀ w ∈ wsX50, w ∈ z_Ti1200 := fun w h => List.mem_cons_of_mem _ (List.mem_append_right _ (h))
set_option maxHeartbeats 4000000 in
set_option maxRecDepth 100000 in
/-- Term(1200) -/
theorem c_Ti1200 (l : Launch) (dC : Nat → ClassId) (dI : Nat → Nat → Nat) (tp te : Nat) (sz : Nat) (h0 : Nat)  : Met l yX5_init z_Ti1200 ({ frames := 1, cells := 7, slots := 8400, locals := 12 }) (va_Pc [.ref h0, .int 1200] (Pw dC dI [(h0, .inr (6, [.null, .null, .null, .null, .null, .null, .null, .int 0]))] [] sz tp te)) (va_Qv (fun (_ : Unit) => True) (fun (_ : Unit) (t : State) => ∃ (q_1 : Nat), ∃ (q_5 : Nat), ∃ (q_9 : Nat), ∃ (q_13 : Nat), ∃ (q_17 : Nat), ∃ (q_21 : Nat), ∃ (q_25 : Nat), ∃ (cA_2 : ClassId), ∃ (cA_6 : ClassId), ∃ (cA_10 : ClassId), ∃ (cA_14 : ClassId), ∃ (cA_18 : ClassId), ∃ (cA_22 : ClassId), ∃ (cA_26 : ClassId), Bw dC dI [(h0, .inr (6, [.ref q_1, .ref q_5, .ref q_9, .ref q_13, .ref q_17, .ref q_21, .ref q_25, .int 0])), (q_1, .inl (cA_2, 1200, .inl (fun _ => 0))), (q_5, .inl (cA_6, 1200, .inl (fun _ => 0))), (q_9, .inl (cA_10, 1200, .inl (fun _ => 0))), (q_13, .inl (cA_14, 1200, .inr (.inl (fun _ => 0)))), (q_17, .inl (cA_18, 1200, .inl (fun _ => 0))), (q_21, .inl (cA_22, 1200, .inl (fun _ => 0))), (q_25, .inl (cA_26, 1200, .inl (fun _ => 0)))] [(cA_2, .int), (cA_6, .int), (cA_10, .int), (cA_14, .long), (cA_18, .int), (cA_22, .int), (cA_26, .int)] (va_A [(h0, .inr (6, [.null, .null, .null, .null, .null, .null, .null, .int 0]))] sz) t) (va_A [(h0, .inr (6, [.null, .null, .null, .null, .null, .null, .null, .int 0]))] sz)) 7 8400 (va_A [(h0, .inr (6, [.null, .null, .null, .null, .null, .null, .null, .int 0]))] sz) := by
  refine Met.ofW (cc := cX5_init) (maxL := 3) (ret := none) (by decide) rfl ?_
  intro p e s m args below meth c s₁ B hml hv
  obtain ⟨rfl, hsz, hP, hK, hD0, hG⟩ := hv
  have hx := B.exec
  have hb := B.bytes
  have hr := B.returns
  have hts := atoms_spec (ws := z_Ti1200) B.pre
  have hown : s.vm.findClass RX5 = some m.cls := findClass_of_methodNamed B.named
  have hlocks := B.notSynchronized
  have hin : meth.name = "<init>" := (name_of_methodNamed B.named B.method).1
  subst hsz
  have hD := hD0.self (sz := s.heap.size)
  generalize hAe : va_A [(h0, .inr (6, [.null, .null, .null, .null, .null, .null, .null, .int 0]))] s.heap.size = A at hD hG ⊢
  have hA : ∀ q : Nat, s.heap.size ≤ q → A q := fun q h => by rw [← hAe]; exact Or.inr h
  have hS : va_S A s.heap s.heap [] := va_S.rf
  have hl := lv_entry ([.ref h0, .int 1200]) (n := 3) (Nat.le_of_ble_eq_true rfl)
  rw [lg_entry_eq]
  generalize (lg_sl ([.ref h0, .int 1200]) ++ List.replicate (3 - (lg_sl ([.ref h0, .int 1200])).length) Slot.unset).toArray = ls at hl ⊢
  have hl : lv_has ls 3 [(0, .ref h0), (1, .int 1200)] := hl
  refine lv_aload_n hx hb dX5_init_0 rfl (lv_at hl 0 rfl) ?_
  refine W.objInit hx hb hown (hts (.methodLink RX5 3 objectInit) (List.mem_of_getElem? (i := 1) rfl)) (hts (.instanceMethod objectInit) (List.mem_of_getElem? (i := 2) rfl)) (hts _ (List.mem_of_getElem? (i := 3) rfl)) rfl (by rw [hml]; exact hl.1) rfl dX5_init_1 (Nat.le_of_ble_eq_true rfl) (Nat.le_of_ble_eq_true rfl) ?_
  refine W.eq (g2 := F0 m 4 ls []) rfl ?_
  refine lv_iload_n hx hb dX5_init_4 rfl (lv_at hl 1 rfl) ?_
  refine lv_if_le (tgt := 12) hx hb dX5_init_5 (by decide) (fun c9 => absurd c9 (by decide)) (fun c9 => ?_)
  refine lv_iload_n hx hb dX5_init_8 rfl (lv_at hl 1 rfl) ?_
  refine lv_goto (tgt := 13) hx hb dX5_init_9 (by decide) ?_
  refine lv_istore_n (lv' := [(2, .int 1200), (0, .ref h0), (1, .int 1200)]) hx hb dX5_init_13 rfl hl (by decide) rfl (fun ls hl => ?_)
  refine lv_aload_n hx hb dX5_init_14 rfl (lv_at hl 1 rfl) ?_
  refine lv_iload_n hx hb dX5_init_15 rfl (lv_at hl 0 rfl) ?_
  refine va_newa (atype := .int) (ty := .int) (a0 := (1200, .inl (fun _ => 0))) hx hb (hts (.arrayClass .int) (List.mem_of_getElem? (i := 4) rfl)) rfl hK hP hD hS hA (fun _ => rfl) (by decide) (by decide +kernel) (Nat.le_of_ble_eq_true rfl) (Nat.le_of_ble_eq_true rfl) (Nat.le_of_ble_eq_true rfl) dX5_init_16 (fun q_1 cA_2 H_3 hK hP hD hS => ?_)
  have hP : va_P (dC, dI) vwCl [(h0, .inr (6, [.null, .null, .null, .null, .null, .null, .null, .int 0])), (q_1, .inl (cA_2, 1200, .inl (fun _ => 0)))] H_3 := hP
  have hD : va_D A [(h0, .inr (6, [.null, .null, .null, .null, .null, .null, .null, .int 0])), (q_1, .inl (cA_2, 1200, .inl (fun _ => 0)))] := hD
  have hK : va_K (dC, dI) vwCl [(cA_2, .int)] s := hK
  refine W.widen (k := 1) (n := 1200) (Nat.le_of_ble_eq_true rfl) (Nat.le_of_ble_eq_true rfl) ?_
  refine va_putF (D := (dC, dI)) (ci := 6) (v := .ref q_1) (ty := .array .int) (C := RX5) (T := TX5) (N := 8) hx hb hts in_z_Ti1200_X5 tyX5 tyX5_ok nmX5 hown hK hP hD hS 0 rfl rfl 0 (by decide) (hts (.fieldLink RX5 9 "Selfkindle$Term" "kinds" "[I") (List.mem_of_getElem? (i := 5) rfl)) (fun _ h9 => h9) rfl hin rfl (by decide +kernel) rfl rfl (Nat.le_of_ble_eq_true rfl) dX5_init_18 (fun H_4 locs hP hD hS => ?_)
  have hP : va_P (dC, dI) vwCl [(h0, .inr (6, [.ref q_1, .null, .null, .null, .null, .null, .null, .int 0])), (q_1, .inl (cA_2, 1200, .inl (fun _ => 0)))] H_4 := hP
  have hD : va_D A [(h0, .inr (6, [.ref q_1, .null, .null, .null, .null, .null, .null, .int 0])), (q_1, .inl (cA_2, 1200, .inl (fun _ => 0)))] := hD
  have hK : va_K (dC, dI) vwCl [(cA_2, .int)] s := hK
  refine lv_aload_n hx hb dX5_init_21 rfl (lv_at hl 1 rfl) ?_
  refine lv_iload_n hx hb dX5_init_22 rfl (lv_at hl 0 rfl) ?_
  refine va_newa (atype := .int) (ty := .int) (a0 := (1200, .inl (fun _ => 0))) hx hb (hts (.arrayClass .int) (List.mem_of_getElem? (i := 4) rfl)) rfl hK hP hD hS hA (fun _ => rfl) (by decide) (by decide +kernel) (Nat.le_of_ble_eq_true rfl) (Nat.le_of_ble_eq_true rfl) (Nat.le_of_ble_eq_true rfl) dX5_init_23 (fun q_5 cA_6 H_7 hK hP hD hS => ?_)
  have hP : va_P (dC, dI) vwCl [(h0, .inr (6, [.ref q_1, .null, .null, .null, .null, .null, .null, .int 0])), (q_1, .inl (cA_2, 1200, .inl (fun _ => 0))), (q_5, .inl (cA_6, 1200, .inl (fun _ => 0)))] H_7 := hP
  have hD : va_D A [(h0, .inr (6, [.ref q_1, .null, .null, .null, .null, .null, .null, .int 0])), (q_1, .inl (cA_2, 1200, .inl (fun _ => 0))), (q_5, .inl (cA_6, 1200, .inl (fun _ => 0)))] := hD
  have hK : va_K (dC, dI) vwCl [(cA_2, .int), (cA_6, .int)] s := hK
  refine W.widen (k := 2) (n := 2400) (Nat.le_of_ble_eq_true rfl) (Nat.le_of_ble_eq_true rfl) ?_
  refine va_putF (D := (dC, dI)) (ci := 6) (v := .ref q_5) (ty := .array .int) (C := RX5) (T := TX5) (N := 8) hx hb hts in_z_Ti1200_X5 tyX5 tyX5_ok nmX5 hown hK hP hD hS 0 rfl rfl 1 (by decide) (hts (.fieldLink RX5 15 "Selfkindle$Term" "names" "[I") (List.mem_of_getElem? (i := 6) rfl)) (fun _ h9 => h9) rfl hin rfl (by decide +kernel) rfl rfl (Nat.le_of_ble_eq_true rfl) dX5_init_25 (fun H_8 locs hP hD hS => ?_)
  have hP : va_P (dC, dI) vwCl [(h0, .inr (6, [.ref q_1, .ref q_5, .null, .null, .null, .null, .null, .int 0])), (q_1, .inl (cA_2, 1200, .inl (fun _ => 0))), (q_5, .inl (cA_6, 1200, .inl (fun _ => 0)))] H_8 := hP
  have hD : va_D A [(h0, .inr (6, [.ref q_1, .ref q_5, .null, .null, .null, .null, .null, .int 0])), (q_1, .inl (cA_2, 1200, .inl (fun _ => 0))), (q_5, .inl (cA_6, 1200, .inl (fun _ => 0)))] := hD
  have hK : va_K (dC, dI) vwCl [(cA_2, .int), (cA_6, .int)] s := hK
  refine lv_aload_n hx hb dX5_init_28 rfl (lv_at hl 1 rfl) ?_
  refine lv_iload_n hx hb dX5_init_29 rfl (lv_at hl 0 rfl) ?_
  refine va_newa (atype := .int) (ty := .int) (a0 := (1200, .inl (fun _ => 0))) hx hb (hts (.arrayClass .int) (List.mem_of_getElem? (i := 4) rfl)) rfl hK hP hD hS hA (fun _ => rfl) (by decide) (by decide +kernel) (Nat.le_of_ble_eq_true rfl) (Nat.le_of_ble_eq_true rfl) (Nat.le_of_ble_eq_true rfl) dX5_init_30 (fun q_9 cA_10 H_11 hK hP hD hS => ?_)
  have hP : va_P (dC, dI) vwCl [(h0, .inr (6, [.ref q_1, .ref q_5, .null, .null, .null, .null, .null, .int 0])), (q_1, .inl (cA_2, 1200, .inl (fun _ => 0))), (q_5, .inl (cA_6, 1200, .inl (fun _ => 0))), (q_9, .inl (cA_10, 1200, .inl (fun _ => 0)))] H_11 := hP
  have hD : va_D A [(h0, .inr (6, [.ref q_1, .ref q_5, .null, .null, .null, .null, .null, .int 0])), (q_1, .inl (cA_2, 1200, .inl (fun _ => 0))), (q_5, .inl (cA_6, 1200, .inl (fun _ => 0))), (q_9, .inl (cA_10, 1200, .inl (fun _ => 0)))] := hD
  have hK : va_K (dC, dI) vwCl [(cA_2, .int), (cA_6, .int), (cA_10, .int)] s := hK
  refine W.widen (k := 3) (n := 3600) (Nat.le_of_ble_eq_true rfl) (Nat.le_of_ble_eq_true rfl) ?_
  refine va_putF (D := (dC, dI)) (ci := 6) (v := .ref q_9) (ty := .array .int) (C := RX5) (T := TX5) (N := 8) hx hb hts in_z_Ti1200_X5 tyX5 tyX5_ok nmX5 hown hK hP hD hS 0 rfl rfl 2 (by decide) (hts (.fieldLink RX5 18 "Selfkindle$Term" "others" "[I") (List.mem_of_getElem? (i := 7) rfl)) (fun _ h9 => h9) rfl hin rfl (by decide +kernel) rfl rfl (Nat.le_of_ble_eq_true rfl) dX5_init_32 (fun H_12 locs hP hD hS => ?_)
  have hP : va_P (dC, dI) vwCl [(h0, .inr (6, [.ref q_1, .ref q_5, .ref q_9, .null, .null, .null, .null, .int 0])), (q_1, .inl (cA_2, 1200, .inl (fun _ => 0))), (q_5, .inl (cA_6, 1200, .inl (fun _ => 0))), (q_9, .inl (cA_10, 1200, .inl (fun _ => 0)))] H_12 := hP
  have hD : va_D A [(h0, .inr (6, [.ref q_1, .ref q_5, .ref q_9, .null, .null, .null, .null, .int 0])), (q_1, .inl (cA_2, 1200, .inl (fun _ => 0))), (q_5, .inl (cA_6, 1200, .inl (fun _ => 0))), (q_9, .inl (cA_10, 1200, .inl (fun _ => 0)))] := hD
  have hK : va_K (dC, dI) vwCl [(cA_2, .int), (cA_6, .int), (cA_10, .int)] s := hK
  refine lv_aload_n hx hb dX5_init_35 rfl (lv_at hl 1 rfl) ?_
  refine lv_iload_n hx hb dX5_init_36 rfl (lv_at hl 0 rfl) ?_
  refine va_newa (atype := .long) (ty := .long) (a0 := (1200, .inr (.inl (fun _ => 0)))) hx hb (hts (.arrayClass .long) (List.mem_of_getElem? (i := 8) rfl)) rfl hK hP hD hS hA (fun _ => rfl) (by decide) (by decide +kernel) (Nat.le_of_ble_eq_true rfl) (Nat.le_of_ble_eq_true rfl) (Nat.le_of_ble_eq_true rfl) dX5_init_37 (fun q_13 cA_14 H_15 hK hP hD hS => ?_)
  have hP : va_P (dC, dI) vwCl [(h0, .inr (6, [.ref q_1, .ref q_5, .ref q_9, .null, .null, .null, .null, .int 0])), (q_1, .inl (cA_2, 1200, .inl (fun _ => 0))), (q_5, .inl (cA_6, 1200, .inl (fun _ => 0))), (q_9, .inl (cA_10, 1200, .inl (fun _ => 0))), (q_13, .inl (cA_14, 1200, .inr (.inl (fun _ => 0))))] H_15 := hP
  have hD : va_D A [(h0, .inr (6, [.ref q_1, .ref q_5, .ref q_9, .null, .null, .null, .null, .int 0])), (q_1, .inl (cA_2, 1200, .inl (fun _ => 0))), (q_5, .inl (cA_6, 1200, .inl (fun _ => 0))), (q_9, .inl (cA_10, 1200, .inl (fun _ => 0))), (q_13, .inl (cA_14, 1200, .inr (.inl (fun _ => 0))))] := hD
  have hK : va_K (dC, dI) vwCl [(cA_2, .int), (cA_6, .int), (cA_10, .int), (cA_14, .long)] s := hK
  refine W.widen (k := 4) (n := 4800) (Nat.le_of_ble_eq_true rfl) (Nat.le_of_ble_eq_true rfl) ?_
  refine va_putF (D := (dC, dI)) (ci := 6) (v := .ref q_13) (ty := .array .long) (C := RX5) (T := TX5) (N := 8) hx hb hts in_z_Ti1200_X5 tyX5 tyX5_ok nmX5 hown hK hP hD hS 0 rfl rfl 3 (by decide) (hts (.fieldLink RX5 21 "Selfkindle$Term" "numbers" "[J") (List.mem_of_getElem? (i := 9) rfl)) (fun _ h9 => h9) rfl hin rfl (by decide +kernel) rfl rfl (Nat.le_of_ble_eq_true rfl) dX5_init_39 (fun H_16 locs hP hD hS => ?_)
  have hP : va_P (dC, dI) vwCl [(h0, .inr (6, [.ref q_1, .ref q_5, .ref q_9, .ref q_13, .null, .null, .null, .int 0])), (q_1, .inl (cA_2, 1200, .inl (fun _ => 0))), (q_5, .inl (cA_6, 1200, .inl (fun _ => 0))), (q_9, .inl (cA_10, 1200, .inl (fun _ => 0))), (q_13, .inl (cA_14, 1200, .inr (.inl (fun _ => 0))))] H_16 := hP
  have hD : va_D A [(h0, .inr (6, [.ref q_1, .ref q_5, .ref q_9, .ref q_13, .null, .null, .null, .int 0])), (q_1, .inl (cA_2, 1200, .inl (fun _ => 0))), (q_5, .inl (cA_6, 1200, .inl (fun _ => 0))), (q_9, .inl (cA_10, 1200, .inl (fun _ => 0))), (q_13, .inl (cA_14, 1200, .inr (.inl (fun _ => 0))))] := hD
  have hK : va_K (dC, dI) vwCl [(cA_2, .int), (cA_6, .int), (cA_10, .int), (cA_14, .long)] s := hK
  refine lv_aload_n hx hb dX5_init_42 rfl (lv_at hl 1 rfl) ?_
  refine lv_iload_n hx hb dX5_init_43 rfl (lv_at hl 0 rfl) ?_
  refine va_newa (atype := .int) (ty := .int) (a0 := (1200, .inl (fun _ => 0))) hx hb (hts (.arrayClass .int) (List.mem_of_getElem? (i := 4) rfl)) rfl hK hP hD hS hA (fun _ => rfl) (by decide) (by decide +kernel) (Nat.le_of_ble_eq_true rfl) (Nat.le_of_ble_eq_true rfl) (Nat.le_of_ble_eq_true rfl) dX5_init_44 (fun q_17 cA_18 H_19 hK hP hD hS => ?_)
  have hP : va_P (dC, dI) vwCl [(h0, .inr (6, [.ref q_1, .ref q_5, .ref q_9, .ref q_13, .null, .null, .null, .int 0])), (q_1, .inl (cA_2, 1200, .inl (fun _ => 0))), (q_5, .inl (cA_6, 1200, .inl (fun _ => 0))), (q_9, .inl (cA_10, 1200, .inl (fun _ => 0))), (q_13, .inl (cA_14, 1200, .inr (.inl (fun _ => 0)))), (q_17, .inl (cA_18, 1200, .inl (fun _ => 0)))] H_19 := hP
  have hD : va_D A [(h0, .inr (6, [.ref q_1, .ref q_5, .ref q_9, .ref q_13, .null, .null, .null, .int 0])), (q_1, .inl (cA_2, 1200, .inl (fun _ => 0))), (q_5, .inl (cA_6, 1200, .inl (fun _ => 0))), (q_9, .inl (cA_10, 1200, .inl (fun _ => 0))), (q_13, .inl (cA_14, 1200, .inr (.inl (fun _ => 0)))), (q_17, .inl (cA_18, 1200, .inl (fun _ => 0)))] := hD
  have hK : va_K (dC, dI) vwCl [(cA_2, .int), (cA_6, .int), (cA_10, .int), (cA_14, .long), (cA_18, .int)] s := hK
  refine W.widen (k := 5) (n := 6000) (Nat.le_of_ble_eq_true rfl) (Nat.le_of_ble_eq_true rfl) ?_
  refine va_putF (D := (dC, dI)) (ci := 6) (v := .ref q_17) (ty := .array .int) (C := RX5) (T := TX5) (N := 8) hx hb hts in_z_Ti1200_X5 tyX5 tyX5_ok nmX5 hown hK hP hD hS 0 rfl rfl 4 (by decide) (hts (.fieldLink RX5 25 "Selfkindle$Term" "sizes" "[I") (List.mem_of_getElem? (i := 10) rfl)) (fun _ h9 => h9) rfl hin rfl (by decide +kernel) rfl rfl (Nat.le_of_ble_eq_true rfl) dX5_init_46 (fun H_20 locs hP hD hS => ?_)
  have hP : va_P (dC, dI) vwCl [(h0, .inr (6, [.ref q_1, .ref q_5, .ref q_9, .ref q_13, .ref q_17, .null, .null, .int 0])), (q_1, .inl (cA_2, 1200, .inl (fun _ => 0))), (q_5, .inl (cA_6, 1200, .inl (fun _ => 0))), (q_9, .inl (cA_10, 1200, .inl (fun _ => 0))), (q_13, .inl (cA_14, 1200, .inr (.inl (fun _ => 0)))), (q_17, .inl (cA_18, 1200, .inl (fun _ => 0)))] H_20 := hP
  have hD : va_D A [(h0, .inr (6, [.ref q_1, .ref q_5, .ref q_9, .ref q_13, .ref q_17, .null, .null, .int 0])), (q_1, .inl (cA_2, 1200, .inl (fun _ => 0))), (q_5, .inl (cA_6, 1200, .inl (fun _ => 0))), (q_9, .inl (cA_10, 1200, .inl (fun _ => 0))), (q_13, .inl (cA_14, 1200, .inr (.inl (fun _ => 0)))), (q_17, .inl (cA_18, 1200, .inl (fun _ => 0)))] := hD
  have hK : va_K (dC, dI) vwCl [(cA_2, .int), (cA_6, .int), (cA_10, .int), (cA_14, .long), (cA_18, .int)] s := hK
  refine lv_aload_n hx hb dX5_init_49 rfl (lv_at hl 1 rfl) ?_
  refine lv_iload_n hx hb dX5_init_50 rfl (lv_at hl 0 rfl) ?_
  refine va_newa (atype := .int) (ty := .int) (a0 := (1200, .inl (fun _ => 0))) hx hb (hts (.arrayClass .int) (List.mem_of_getElem? (i := 4) rfl)) rfl hK hP hD hS hA (fun _ => rfl) (by decide) (by decide +kernel) (Nat.le_of_ble_eq_true rfl) (Nat.le_of_ble_eq_true rfl) (Nat.le_of_ble_eq_true rfl) dX5_init_51 (fun q_21 cA_22 H_23 hK hP hD hS => ?_)
  have hP : va_P (dC, dI) vwCl [(h0, .inr (6, [.ref q_1, .ref q_5, .ref q_9, .ref q_13, .ref q_17, .null, .null, .int 0])), (q_1, .inl (cA_2, 1200, .inl (fun _ => 0))), (q_5, .inl (cA_6, 1200, .inl (fun _ => 0))), (q_9, .inl (cA_10, 1200, .inl (fun _ => 0))), (q_13, .inl (cA_14, 1200, .inr (.inl (fun _ => 0)))), (q_17, .inl (cA_18, 1200, .inl (fun _ => 0))), (q_21, .inl (cA_22, 1200, .inl (fun _ => 0)))] H_23 := hP
  have hD : va_D A [(h0, .inr (6, [.ref q_1, .ref q_5, .ref q_9, .ref q_13, .ref q_17, .null, .null, .int 0])), (q_1, .inl (cA_2, 1200, .inl (fun _ => 0))), (q_5, .inl (cA_6, 1200, .inl (fun _ => 0))), (q_9, .inl (cA_10, 1200, .inl (fun _ => 0))), (q_13, .inl (cA_14, 1200, .inr (.inl (fun _ => 0)))), (q_17, .inl (cA_18, 1200, .inl (fun _ => 0))), (q_21, .inl (cA_22, 1200, .inl (fun _ => 0)))] := hD
  have hK : va_K (dC, dI) vwCl [(cA_2, .int), (cA_6, .int), (cA_10, .int), (cA_14, .long), (cA_18, .int), (cA_22, .int)] s := hK
  refine W.widen (k := 6) (n := 7200) (Nat.le_of_ble_eq_true rfl) (Nat.le_of_ble_eq_true rfl) ?_
  refine va_putF (D := (dC, dI)) (ci := 6) (v := .ref q_21) (ty := .array .int) (C := RX5) (T := TX5) (N := 8) hx hb hts in_z_Ti1200_X5 tyX5 tyX5_ok nmX5 hown hK hP hD hS 0 rfl rfl 5 (by decide) (hts (.fieldLink RX5 28 "Selfkindle$Term" "binders" "[I") (List.mem_of_getElem? (i := 11) rfl)) (fun _ h9 => h9) rfl hin rfl (by decide +kernel) rfl rfl (Nat.le_of_ble_eq_true rfl) dX5_init_53 (fun H_24 locs hP hD hS => ?_)
  have hP : va_P (dC, dI) vwCl [(h0, .inr (6, [.ref q_1, .ref q_5, .ref q_9, .ref q_13, .ref q_17, .ref q_21, .null, .int 0])), (q_1, .inl (cA_2, 1200, .inl (fun _ => 0))), (q_5, .inl (cA_6, 1200, .inl (fun _ => 0))), (q_9, .inl (cA_10, 1200, .inl (fun _ => 0))), (q_13, .inl (cA_14, 1200, .inr (.inl (fun _ => 0)))), (q_17, .inl (cA_18, 1200, .inl (fun _ => 0))), (q_21, .inl (cA_22, 1200, .inl (fun _ => 0)))] H_24 := hP
  have hD : va_D A [(h0, .inr (6, [.ref q_1, .ref q_5, .ref q_9, .ref q_13, .ref q_17, .ref q_21, .null, .int 0])), (q_1, .inl (cA_2, 1200, .inl (fun _ => 0))), (q_5, .inl (cA_6, 1200, .inl (fun _ => 0))), (q_9, .inl (cA_10, 1200, .inl (fun _ => 0))), (q_13, .inl (cA_14, 1200, .inr (.inl (fun _ => 0)))), (q_17, .inl (cA_18, 1200, .inl (fun _ => 0))), (q_21, .inl (cA_22, 1200, .inl (fun _ => 0)))] := hD
  have hK : va_K (dC, dI) vwCl [(cA_2, .int), (cA_6, .int), (cA_10, .int), (cA_14, .long), (cA_18, .int), (cA_22, .int)] s := hK
  refine lv_aload_n hx hb dX5_init_56 rfl (lv_at hl 1 rfl) ?_
  refine lv_iload_n hx hb dX5_init_57 rfl (lv_at hl 0 rfl) ?_
  refine va_newa (atype := .int) (ty := .int) (a0 := (1200, .inl (fun _ => 0))) hx hb (hts (.arrayClass .int) (List.mem_of_getElem? (i := 4) rfl)) rfl hK hP hD hS hA (fun _ => rfl) (by decide) (by decide +kernel) (Nat.le_of_ble_eq_true rfl) (Nat.le_of_ble_eq_true rfl) (Nat.le_of_ble_eq_true rfl) dX5_init_58 (fun q_25 cA_26 H_27 hK hP hD hS => ?_)
  have hP : va_P (dC, dI) vwCl [(h0, .inr (6, [.ref q_1, .ref q_5, .ref q_9, .ref q_13, .ref q_17, .ref q_21, .null, .int 0])), (q_1, .inl (cA_2, 1200, .inl (fun _ => 0))), (q_5, .inl (cA_6, 1200, .inl (fun _ => 0))), (q_9, .inl (cA_10, 1200, .inl (fun _ => 0))), (q_13, .inl (cA_14, 1200, .inr (.inl (fun _ => 0)))), (q_17, .inl (cA_18, 1200, .inl (fun _ => 0))), (q_21, .inl (cA_22, 1200, .inl (fun _ => 0))), (q_25, .inl (cA_26, 1200, .inl (fun _ => 0)))] H_27 := hP
  have hD : va_D A [(h0, .inr (6, [.ref q_1, .ref q_5, .ref q_9, .ref q_13, .ref q_17, .ref q_21, .null, .int 0])), (q_1, .inl (cA_2, 1200, .inl (fun _ => 0))), (q_5, .inl (cA_6, 1200, .inl (fun _ => 0))), (q_9, .inl (cA_10, 1200, .inl (fun _ => 0))), (q_13, .inl (cA_14, 1200, .inr (.inl (fun _ => 0)))), (q_17, .inl (cA_18, 1200, .inl (fun _ => 0))), (q_21, .inl (cA_22, 1200, .inl (fun _ => 0))), (q_25, .inl (cA_26, 1200, .inl (fun _ => 0)))] := hD
  have hK : va_K (dC, dI) vwCl [(cA_2, .int), (cA_6, .int), (cA_10, .int), (cA_14, .long), (cA_18, .int), (cA_22, .int), (cA_26, .int)] s := hK
  refine W.widen (k := 7) (n := 8400) (Nat.le_of_ble_eq_true rfl) (Nat.le_of_ble_eq_true rfl) ?_
  refine va_putF (D := (dC, dI)) (ci := 6) (v := .ref q_25) (ty := .array .int) (C := RX5) (T := TX5) (N := 8) hx hb hts in_z_Ti1200_X5 tyX5 tyX5_ok nmX5 hown hK hP hD hS 0 rfl rfl 6 (by decide) (hts (.fieldLink RX5 31 "Selfkindle$Term" "distances" "[I") (List.mem_of_getElem? (i := 12) rfl)) (fun _ h9 => h9) rfl hin rfl (by decide +kernel) rfl rfl (Nat.le_of_ble_eq_true rfl) dX5_init_60 (fun H_28 locs hP hD hS => ?_)
  have hP : va_P (dC, dI) vwCl [(h0, .inr (6, [.ref q_1, .ref q_5, .ref q_9, .ref q_13, .ref q_17, .ref q_21, .ref q_25, .int 0])), (q_1, .inl (cA_2, 1200, .inl (fun _ => 0))), (q_5, .inl (cA_6, 1200, .inl (fun _ => 0))), (q_9, .inl (cA_10, 1200, .inl (fun _ => 0))), (q_13, .inl (cA_14, 1200, .inr (.inl (fun _ => 0)))), (q_17, .inl (cA_18, 1200, .inl (fun _ => 0))), (q_21, .inl (cA_22, 1200, .inl (fun _ => 0))), (q_25, .inl (cA_26, 1200, .inl (fun _ => 0)))] H_28 := hP
  have hD : va_D A [(h0, .inr (6, [.ref q_1, .ref q_5, .ref q_9, .ref q_13, .ref q_17, .ref q_21, .ref q_25, .int 0])), (q_1, .inl (cA_2, 1200, .inl (fun _ => 0))), (q_5, .inl (cA_6, 1200, .inl (fun _ => 0))), (q_9, .inl (cA_10, 1200, .inl (fun _ => 0))), (q_13, .inl (cA_14, 1200, .inr (.inl (fun _ => 0)))), (q_17, .inl (cA_18, 1200, .inl (fun _ => 0))), (q_21, .inl (cA_22, 1200, .inl (fun _ => 0))), (q_25, .inl (cA_26, 1200, .inl (fun _ => 0)))] := hD
  have hK : va_K (dC, dI) vwCl [(cA_2, .int), (cA_6, .int), (cA_10, .int), (cA_14, .long), (cA_18, .int), (cA_22, .int), (cA_26, .int)] s := hK
  refine W.widen (k := 7) (n := 8400) (Nat.le_of_ble_eq_true rfl) (Nat.le_of_ble_eq_true rfl) ?_
  exact W.vret hx hb hr (fun t ht hW => ⟨⟨(), rfl, trivial, ⟨q_1, q_5, q_9, q_13, q_17, q_21, q_25, cA_2, cA_6, cA_10, cA_14, cA_18, cA_22, cA_26, by rw [ht]; exact hP, va_K.moved hW.alike hK, hD⟩⟩, hS.F ht⟩) hS.2.2 dX5_init_63

set_option maxRecDepth 20000 in
def z_Ri : List Cond := .code yX4_init cX4_init 1 none :: (([.methodLink RX4 3 objectInit, .instanceMethod objectInit, .code objectInit ⟨#[0xb1]⟩ 1 none, .classLink RX4 9 RX5, .instantiable RX5 8, .initialized RX5, .methodLink RX4 11 yX5_init, .instanceMethod yX5_init, .code yX5_init cX5_init 3 none, .methodLink RX5 3 objectInit, .arrayClass .int, .fieldLink RX5 9 "Selfkindle$Term" "kinds" "[I", .fieldLink RX5 15 "Selfkindle$Term" "names" "[I", .fieldLink RX5 18 "Selfkindle$Term" "others" "[I", .arrayClass .long, .fieldLink RX5 21 "Selfkindle$Term" "numbers" "[J", .fieldLink RX5 25 "Selfkindle$Term" "sizes" "[I", .fieldLink RX5 28 "Selfkindle$Term" "binders" "[I", .fieldLink RX5 31 "Selfkindle$Term" "distances" "[I", .fieldLink RX4 14 "Selfkindle$Rewriter" "made" "LSelfkindle$Term;", .fieldLink RX4 20 "Selfkindle$Rewriter" "spare" "LSelfkindle$Term;"] : List Cond) ++ wsX50 ++ wsX40)
theorem in_z_Ri_X5 : ∀ w ∈ wsX50, w ∈ z_Ri := fun w h => List.mem_cons_of_mem _ (List.mem_append_left _ (List.mem_append_right _ (h)))
theorem in_z_Ri_X4 : ∀ w ∈ wsX40, w ∈ z_Ri := fun w h => List.mem_cons_of_mem _ (List.mem_append_right _ (h))
set_option maxRecDepth 20000 in
theorem g_Ri_11 : GoodIn z_Ri (z_Ti60) := goodIn_p _ [9, 3] rfl (by decide +kernel)
set_option maxRecDepth 20000 in
theorem g_Ri_24 : GoodIn z_Ri (z_Ti60) := goodIn_p _ [9, 3] rfl (by decide +kernel)
set_option maxHeartbeats 4000000 in
set_option maxRecDepth 100000 in
/-- Rewriter() -/
theorem c_Ri (l : Launch) (dC : Nat → ClassId) (dI : Nat → Nat → Nat) (tp te : Nat) (sz : Nat) (h0 : Nat)  : Met l yX4_init z_Ri ({ frames := 2, cells := 16, slots := 856, locals := 34 }) (va_Pc [.ref h0] (Pw dC dI [(h0, .inr (5, [.null, .null]))] [] sz tp te)) (va_Qv (fun (_ : Unit) => True) (fun (_ : Unit) (_ : State) => True) (va_A [(h0, .inr (5, [.null, .null]))] sz)) 16 856 (va_A [(h0, .inr (5, [.null, .null]))] sz) := by
  refine Met.ofW (cc := cX4_init) (maxL := 1) (ret := none) (by decide) rfl ?_
  intro p e s m args below meth c s₁ B hml hv
  obtain ⟨rfl, hsz, hP, hK, hD0, hG⟩ := hv
  have hx := B.exec
  have hb := B.bytes
  have hr := B.returns
  have hts := atoms_spec (ws := z_Ri) B.pre
  have hown : s.vm.findClass RX4 = some m.cls := findClass_of_methodNamed B.named
  have hlocks := B.notSynchronized
  have hin : meth.name = "<init>" := (name_of_methodNamed B.named B.method).1
  subst hsz
  have hD := hD0.self (sz := s.heap.size)
  generalize hAe : va_A [(h0, .inr (5, [.null, .null]))] s.heap.size = A at hD hG ⊢
  have hA : ∀ q : Nat, s.heap.size ≤ q → A q := fun q h => by rw [← hAe]; exact Or.inr h
  have hS : va_S A s.heap s.heap [] := va_S.rf
  have hl := lv_entry ([.ref h0]) (n := 1) (Nat.le_of_ble_eq_true rfl)
  rw [lg_entry_eq]
  generalize (lg_sl ([.ref h0]) ++ List.replicate (1 - (lg_sl ([.ref h0])).length) Slot.unset).toArray = ls at hl ⊢
  have hl : lv_has ls 1 [(0, .ref h0)] := hl
  refine lv_aload_n hx hb dX4_init_0 rfl (lv_at hl 0 rfl) ?_
  refine W.objInit hx hb hown (hts (.methodLink RX4 3 objectInit) (List.mem_of_getElem? (i := 1) rfl)) (hts (.instanceMethod objectInit) (List.mem_of_getElem? (i := 2) rfl)) (hts _ (List.mem_of_getElem? (i := 3) rfl)) rfl (by rw [hml]; exact hl.1) rfl dX4_init_1 (Nat.le_of_ble_eq_true rfl) (Nat.le_of_ble_eq_true rfl) ?_
  refine W.eq (g2 := F0 m 4 ls []) rfl ?_
  refine lv_aload_n hx hb dX4_init_4 rfl (lv_at hl 0 rfl) ?_
  refine va_new (D := (dC, dI)) (cl := vwCl) (ci := 6) (fs := [.null, .null, .null, .null, .null, .null, .null, .int 0]) (C := RX5) (T := TX5) (N := 8) hx hb hts in_z_Ri_X5 tyX5 tyX5_ok hown (hts (.classLink RX4 9 RX5) (List.mem_of_getElem? (i := 4) rfl)) (hts (.instantiable RX5 8) (List.mem_of_getElem? (i := 5) rfl)) (hts (.initialized RX5) (List.mem_of_getElem? (i := 6) rfl)) hK hP hD hS hA rfl dflt_X5 (Nat.le_of_ble_eq_true rfl) (Nat.le_of_ble_eq_true rfl) dX4_init_5 (fun q_1 H_2 hP hD hS => ?_)
  have hP : va_P (dC, dI) vwCl [(h0, .inr (5, [.null, .null])), (q_1, .inr (6, [.null, .null, .null, .null, .null, .null, .null, .int 0]))] H_2 := hP
  have hD : va_D A [(h0, .inr (5, [.null, .null])), (q_1, .inr (6, [.null, .null, .null, .null, .null, .null, .null, .int 0]))] := hD
  have hK : va_K (dC, dI) vwCl [] s := hK
  refine W.widen (k := 1) (n := 8) (Nat.le_of_ble_eq_true rfl) (Nat.le_of_ble_eq_true rfl) ?_
  refine lv_dup hx hb dX4_init_8 rfl ?_
  refine lv_bipush (v := 60) hx hb dX4_init_9 (by decide) ?_
  have hPc := hP.sub (ws' := [(q_1, .inr (6, [.null, .null, .null, .null, .null, .null, .null, .int 0]))]) [1] rfl
  have hDc := hD.sub (ws' := [(q_1, .inr (6, [.null, .null, .null, .null, .null, .null, .null, .int 0]))]) [1] (by decide) rfl
  have hKc := hK.sub (tys' := []) [] rfl
  have hFc := va_free (wc := [(q_1, .inr (6, [.null, .null, .null, .null, .null, .null, .null, .int 0]))]) hD hS hA [1] rfl
  refine va_callv (va_runI (As := [.int 60]) (rest := [.ref q_1, .ref h0]) ⟨hx, hb, hml, hown, hts⟩ (c_Ti60 l dC dI tp te H_2.size q_1) (cwI 1 hts g_Ri_11 rfl rfl rfl (hts (.initialized RX5) (List.mem_of_getElem? (i := 6) rfl)) (hts (.methodLink RX4 11 yX5_init) (List.mem_of_getElem? (i := 7) rfl)) (hts (.instanceMethod yX5_init) (List.mem_of_getElem? (i := 8) rfl)) rfl (by decide +kernel) ⟨Nat.le_of_ble_eq_true rfl, Nat.le_of_ble_eq_true rfl⟩) ⟨Pw.blind, Pw.mk hPc hKc hDc hG hS hFc⟩ rfl rfl hl.1 rfl (lv_room (Nat.le_of_ble_eq_true rfl)) dX4_init_11 ⟨Nat.le_of_ble_eq_true rfl, Nat.le_of_ble_eq_true rfl⟩) hS (fun q _ h => hFc q h) hFc (fun u t9 H_3 locs ht hvm hw hB hz1 hk1 hS => ?_)
  obtain ⟨q_4, q_5, q_6, q_7, q_8, q_9, q_10, hP1, hK1, hD1⟩ := hB
  rw [ht] at hP1
  have hK1 := va_K.moved hvm.symm hK1
  obtain ⟨hP, hD⟩ := va_join (wr := [(h0, .inr (5, [.null, .null]))]) (w1 := [(q_1, .inr (6, [.ref q_4, .ref q_5, .ref q_6, .ref q_7, .ref q_8, .ref q_9, .ref q_10, .int 0]))]) hP hD [1] [0] rfl rfl (by decide) (by decide) hk1 hFc hP1 hD1
  have hK := (hK.sub (tys' := []) [] rfl).app hK1
  have hP : va_P (dC, dI) vwCl [(h0, .inr (5, [.null, .null])), (q_1, .inr (6, [.ref q_4, .ref q_5, .ref q_6, .ref q_7, .ref q_8, .ref q_9, .ref q_10, .int 0]))] H_3 := hP
  have hD : va_D A [(h0, .inr (5, [.null, .null])), (q_1, .inr (6, [.ref q_4, .ref q_5, .ref q_6, .ref q_7, .ref q_8, .ref q_9, .ref q_10, .int 0]))] := hD
  have hK : va_K (dC, dI) vwCl [] s := hK
  refine W.widen (k := 8) (n := 428) (Nat.le_of_ble_eq_true rfl) (Nat.le_of_ble_eq_true rfl) ?_
  refine va_putF (D := (dC, dI)) (ci := 5) (v := .ref q_1) (ty := .object "Selfkindle$Term") (C := RX4) (T := TX4) (N := 2) hx hb hts in_z_Ri_X4 tyX4 tyX4_ok nmX4 hown hK hP hD hS 0 rfl rfl 0 (by decide) (hts (.fieldLink RX4 14 "Selfkindle$Rewriter" "made" "LSelfkindle$Term;") (List.mem_of_getElem? (i := 20) rfl)) (fun _ h9 => h9) rfl hin rfl (by decide +kernel) rfl rfl (Nat.le_of_ble_eq_true rfl) dX4_init_14 (fun H_11 locs hP hD hS => ?_)
  have hP : va_P (dC, dI) vwCl [(h0, .inr (5, [.ref q_1, .null])), (q_1, .inr (6, [.ref q_4, .ref q_5, .ref q_6, .ref q_7, .ref q_8, .ref q_9, .ref q_10, .int 0]))] H_11 := hP
  have hD : va_D A [(h0, .inr (5, [.ref q_1, .null])), (q_1, .inr (6, [.ref q_4, .ref q_5, .ref q_6, .ref q_7, .ref q_8, .ref q_9, .ref q_10, .int 0]))] := hD
  have hK : va_K (dC, dI) vwCl [] s := hK
  have hP := hP.sub (ws' := [(h0, .inr (5, [.ref q_1, .null]))]) [0] rfl
  have hD := hD.sub (ws' := [(h0, .inr (5, [.ref q_1, .null]))]) [0] (by decide) rfl
  have hK := hK.sub (tys' := []) [] rfl
  have hP : va_P (dC, dI) vwCl [(h0, .inr (5, [.ref q_1, .null]))] H_11 := hP
  have hD : va_D A [(h0, .inr (5, [.ref q_1, .null]))] := hD
  have hK : va_K (dC, dI) vwCl [] s := hK
  refine lv_aload_n hx hb dX4_init_17 rfl (lv_at hl 0 rfl) ?_
  refine va_new (D := (dC, dI)) (cl := vwCl) (ci := 6) (fs := [.null, .null, .null, .null, .null, .null, .null, .int 0]) (C := RX5) (T := TX5) (N := 8) hx hb hts in_z_Ri_X5 tyX5 tyX5_ok hown (hts (.classLink RX4 9 RX5) (List.mem_of_getElem? (i := 4) rfl)) (hts (.instantiable RX5 8) (List.mem_of_getElem? (i := 5) rfl)) (hts (.initialized RX5) (List.mem_of_getElem? (i := 6) rfl)) hK hP hD hS hA rfl dflt_X5 (Nat.le_of_ble_eq_true rfl) (Nat.le_of_ble_eq_true rfl) dX4_init_18 (fun q_12 H_13 hP hD hS => ?_)
  have hP : va_P (dC, dI) vwCl [(h0, .inr (5, [.ref q_1, .null])), (q_12, .inr (6, [.null, .null, .null, .null, .null, .null, .null, .int 0]))] H_13 := hP
  have hD : va_D A [(h0, .inr (5, [.ref q_1, .null])), (q_12, .inr (6, [.null, .null, .null, .null, .null, .null, .null, .int 0]))] := hD
  have hK : va_K (dC, dI) vwCl [] s := hK
  refine W.widen (k := 9) (n := 436) (Nat.le_of_ble_eq_true rfl) (Nat.le_of_ble_eq_true rfl) ?_
  refine lv_dup hx hb dX4_init_21 rfl ?_
  refine lv_bipush (v := 60) hx hb dX4_init_22 (by decide) ?_
  have hPc := hP.sub (ws' := [(q_12, .inr (6, [.null, .null, .null, .null, .null, .null, .null, .int 0]))]) [1] rfl
  have hDc := hD.sub (ws' := [(q_12, .inr (6, [.null, .null, .null, .null, .null, .null, .null, .int 0]))]) [1] (by decide) rfl
  have hKc := hK.sub (tys' := []) [] rfl
  have hFc := va_free (wc := [(q_12, .inr (6, [.null, .null, .null, .null, .null, .null, .null, .int 0]))]) hD hS hA [1] rfl
  refine va_callv (va_runI (As := [.int 60]) (rest := [.ref q_12, .ref h0]) ⟨hx, hb, hml, hown, hts⟩ (c_Ti60 l dC dI tp te H_13.size q_12) (cwI 1 hts g_Ri_24 rfl rfl rfl (hts (.initialized RX5) (List.mem_of_getElem? (i := 6) rfl)) (hts (.methodLink RX4 11 yX5_init) (List.mem_of_getElem? (i := 7) rfl)) (hts (.instanceMethod yX5_init) (List.mem_of_getElem? (i := 8) rfl)) rfl (by decide +kernel) ⟨Nat.le_of_ble_eq_true rfl, Nat.le_of_ble_eq_true rfl⟩) ⟨Pw.blind, Pw.mk hPc hKc hDc hG hS hFc⟩ rfl rfl hl.1 rfl (lv_room (Nat.le_of_ble_eq_true rfl)) dX4_init_24 ⟨Nat.le_of_ble_eq_true rfl, Nat.le_of_ble_eq_true rfl⟩) hS (fun q _ h => hFc q h) hFc (fun u t9 H_14 locs ht hvm hw hB hz1 hk1 hS => ?_)
  obtain ⟨q_15, q_16, q_17, q_18, q_19, q_20, q_21, hP1, hK1, hD1⟩ := hB
  rw [ht] at hP1
  have hK1 := va_K.moved hvm.symm hK1
  obtain ⟨hP, hD⟩ := va_join (wr := [(h0, .inr (5, [.ref q_1, .null]))]) (w1 := [(q_12, .inr (6, [.ref q_15, .ref q_16, .ref q_17, .ref q_18, .ref q_19, .ref q_20, .ref q_21, .int 0]))]) hP hD [1] [0] rfl rfl (by decide) (by decide) hk1 hFc hP1 hD1
  have hK := (hK.sub (tys' := []) [] rfl).app hK1
  have hP : va_P (dC, dI) vwCl [(h0, .inr (5, [.ref q_1, .null])), (q_12, .inr (6, [.ref q_15, .ref q_16, .ref q_17, .ref q_18, .ref q_19, .ref q_20, .ref q_21, .int 0]))] H_14 := hP
  have hD : va_D A [(h0, .inr (5, [.ref q_1, .null])), (q_12, .inr (6, [.ref q_15, .ref q_16, .ref q_17, .ref q_18, .ref q_19, .ref q_20, .ref q_21, .int 0]))] := hD
  have hK : va_K (dC, dI) vwCl [] s := hK
  refine W.widen (k := 16) (n := 856) (Nat.le_of_ble_eq_true rfl) (Nat.le_of_ble_eq_true rfl) ?_
  refine va_putF (D := (dC, dI)) (ci := 5) (v := .ref q_12) (ty := .object "Selfkindle$Term") (C := RX4) (T := TX4) (N := 2) hx hb hts in_z_Ri_X4 tyX4 tyX4_ok nmX4 hown hK hP hD hS 0 rfl rfl 1 (by decide) (hts (.fieldLink RX4 20 "Selfkindle$Rewriter" "spare" "LSelfkindle$Term;") (List.mem_of_getElem? (i := 21) rfl)) (fun _ h9 => h9) rfl hin rfl (by decide +kernel) rfl rfl (Nat.le_of_ble_eq_true rfl) dX4_init_27 (fun H_22 locs hP hD hS => ?_)
  have hP : va_P (dC, dI) vwCl [(h0, .inr (5, [.ref q_1, .ref q_12])), (q_12, .inr (6, [.ref q_15, .ref q_16, .ref q_17, .ref q_18, .ref q_19, .ref q_20, .ref q_21, .int 0]))] H_22 := hP
  have hD : va_D A [(h0, .inr (5, [.ref q_1, .ref q_12])), (q_12, .inr (6, [.ref q_15, .ref q_16, .ref q_17, .ref q_18, .ref q_19, .ref q_20, .ref q_21, .int 0]))] := hD
  have hK : va_K (dC, dI) vwCl [] s := hK
  have hP := hP.sub (ws' := [(h0, .inr (5, [.ref q_1, .ref q_12]))]) [0] rfl
  have hD := hD.sub (ws' := [(h0, .inr (5, [.ref q_1, .ref q_12]))]) [0] (by decide) rfl
  have hK := hK.sub (tys' := []) [] rfl
  have hP : va_P (dC, dI) vwCl [(h0, .inr (5, [.ref q_1, .ref q_12]))] H_22 := hP
  have hD : va_D A [(h0, .inr (5, [.ref q_1, .ref q_12]))] := hD
  have hK : va_K (dC, dI) vwCl [] s := hK
  refine W.widen (k := 16) (n := 856) (Nat.le_of_ble_eq_true rfl) (Nat.le_of_ble_eq_true rfl) ?_
  exact W.vret hx hb hr (fun t ht hW => ⟨⟨(), rfl, trivial, trivial⟩, hS.F ht⟩) hS.2.2 dX4_init_30

set_option maxRecDepth 20000 in
def z_Ty : List Cond := .code yX6_init cX6_init 1 none :: (([.methodLink RX6 5 objectInit, .instanceMethod objectInit, .code objectInit ⟨#[0xb1]⟩ 1 none, .arrayClass .int, .fieldLink RX6 11 "Selfkindle$Types" "heads" "[I", .fieldLink RX6 15 "Selfkindle$Types" "lefts" "[I", .fieldLink RX6 18 "Selfkindle$Types" "rights" "[I", .fieldLink RX6 21 "Selfkindle$Types" "copies" "[I", .fieldLink RX6 24 "Selfkindle$Types" "row" "[I", .fieldLink RX6 27 "Selfkindle$Types" "work" "[I", .fieldLink RX6 30 "Selfkindle$Types" "pairs" "[I", .fieldLink RX6 33 "Selfkindle$Types" "typeOfPart" "[I", .fieldLink RX6 36 "Selfkindle$Types" "typeOfName" "[I", .fieldLink RX6 39 "Selfkindle$Types" "levels" "[I", .fieldLink RX6 42 "Selfkindle$Types" "parents" "[I", .fieldLink RX6 45 "Selfkindle$Types" "answer" "[I"] : List Cond) ++ wsX60)
theorem in_z_Ty_X6 : ∀ w ∈ wsX60, w ∈ z_Ty := fun w h => List.mem_cons_of_mem _ (List.mem_append_right _ (h))
set_option maxHeartbeats 4000000 in
set_option maxRecDepth 100000 in
/-- Types() -/
theorem c_Ty (l : Launch) (dC : Nat → ClassId) (dI : Nat → Nat → Nat) (tp te : Nat) (sz : Nat) (h0 : Nat)  : Met l yX6_init z_Ty ({ frames := 1, cells := 12, slots := 49490, locals := 12 }) (va_Pc [.ref h0] (Pw dC dI [(h0, .inr (7, [.null, .null, .null, .null, .int 0, .null, .null, .null, .null, .null, .null, .null, .null, .int 0, .int 0]))] [] sz tp te)) (va_Qv (fun (_ : Unit) => True) (fun (_ : Unit) (_ : State) => True) (va_A [(h0, .inr (7, [.null, .null, .null, .null, .int 0, .null, .null, .null, .null, .null, .null, .null, .null, .int 0, .int 0]))] sz)) 12 49490 (va_A [(h0, .inr (7, [.null, .null, .null, .null, .int 0, .null, .null, .null, .null, .null, .null, .null, .null, .int 0, .int 0]))] sz) := by
  refine Met.ofW (cc := cX6_init) (maxL := 1) (ret := none) (by decide) rfl ?_
  intro p e s m args below meth c s₁ B hml hv
  obtain ⟨rfl, hsz, hP, hK, hD0, hG⟩ := hv
  have hx := B.exec
  have hb := B.bytes
  have hr := B.returns
  have hts := atoms_spec (ws := z_Ty) B.pre
  have hown : s.vm.findClass RX6 = some m.cls := findClass_of_methodNamed B.named
  have hlocks := B.notSynchronized
  have hin : meth.name = "<init>" := (name_of_methodNamed B.named B.method).1
  subst hsz
  have hD := hD0.self (sz := s.heap.size)
  generalize hAe : va_A [(h0, .inr (7, [.null, .null, .null, .null, .int 0, .null, .null, .null, .null, .null, .null, .null, .null, .int 0, .int 0]))] s.heap.size = A at hD hG ⊢
  have hA : ∀ q : Nat, s.heap.size ≤ q → A q := fun q h => by rw [← hAe]; exact Or.inr h
  have hS : va_S A s.heap s.heap [] := va_S.rf
  have hl := lv_entry ([.ref h0]) (n := 1) (Nat.le_of_ble_eq_true rfl)
  rw [lg_entry_eq]
  generalize (lg_sl ([.ref h0]) ++ List.replicate (1 - (lg_sl ([.ref h0])).length) Slot.unset).toArray = ls at hl ⊢
  have hl : lv_has ls 1 [(0, .ref h0)] := hl
  refine lv_aload_n hx hb dX6_init_0 rfl (lv_at hl 0 rfl) ?_
  refine W.objInit hx hb hown (hts (.methodLink RX6 5 objectInit) (List.mem_of_getElem? (i := 1) rfl)) (hts (.instanceMethod objectInit) (List.mem_of_getElem? (i := 2) rfl)) (hts _ (List.mem_of_getElem? (i := 3) rfl)) rfl (by rw [hml]; exact hl.1) rfl dX6_init_1 (Nat.le_of_ble_eq_true rfl) (Nat.le_of_ble_eq_true rfl) ?_
  refine W.eq (g2 := F0 m 4 ls []) rfl ?_
  refine lv_aload_n hx hb dX6_init_4 rfl (lv_at hl 0 rfl) ?_
  refine lv_sipush (v := 12061) hx hb dX6_init_5 (by decide) ?_
  refine va_newa (atype := .int) (ty := .int) (a0 := (12061, .inl (fun _ => 0))) hx hb (hts (.arrayClass .int) (List.mem_of_getElem? (i := 4) rfl)) rfl hK hP hD hS hA (fun _ => rfl) (by decide) (by decide +kernel) (Nat.le_of_ble_eq_true rfl) (Nat.le_of_ble_eq_true rfl) (Nat.le_of_ble_eq_true rfl) dX6_init_8 (fun q_1 cA_2 H_3 hK hP hD hS => ?_)
  have hP : va_P (dC, dI) vwCl [(h0, .inr (7, [.null, .null, .null, .null, .int 0, .null, .null, .null, .null, .null, .null, .null, .null, .int 0, .int 0])), (q_1, .inl (cA_2, 12061, .inl (fun _ => 0)))] H_3 := hP
  have hD : va_D A [(h0, .inr (7, [.null, .null, .null, .null, .int 0, .null, .null, .null, .null, .null, .null, .null, .null, .int 0, .int 0])), (q_1, .inl (cA_2, 12061, .inl (fun _ => 0)))] := hD
  have hK : va_K (dC, dI) vwCl [(cA_2, .int)] s := hK
  refine W.widen (k := 1) (n := 12061) (Nat.le_of_ble_eq_true rfl) (Nat.le_of_ble_eq_true rfl) ?_
  refine va_putF (D := (dC, dI)) (ci := 7) (v := .ref q_1) (ty := .array .int) (C := RX6) (T := TX6) (N := 15) hx hb hts in_z_Ty_X6 tyX6 tyX6_ok nmX6 hown hK hP hD hS 0 rfl rfl 0 (by decide) (hts (.fieldLink RX6 11 "Selfkindle$Types" "heads" "[I") (List.mem_of_getElem? (i := 5) rfl)) (fun _ h9 => h9) rfl hin rfl (by decide +kernel) rfl rfl (Nat.le_of_ble_eq_true rfl) dX6_init_10 (fun H_4 locs hP hD hS => ?_)
  have hP : va_P (dC, dI) vwCl [(h0, .inr (7, [.ref q_1, .null, .null, .null, .int 0, .null, .null, .null, .null, .null, .null, .null, .null, .int 0, .int 0])), (q_1, .inl (cA_2, 12061, .inl (fun _ => 0)))] H_4 := hP
  have hD : va_D A [(h0, .inr (7, [.ref q_1, .null, .null, .null, .int 0, .null, .null, .null, .null, .null, .null, .null, .null, .int 0, .int 0])), (q_1, .inl (cA_2, 12061, .inl (fun _ => 0)))] := hD
  have hK : va_K (dC, dI) vwCl [(cA_2, .int)] s := hK
  have hP := hP.sub (ws' := [(h0, .inr (7, [.ref q_1, .null, .null, .null, .int 0, .null, .null, .null, .null, .null, .null, .null, .null, .int 0, .int 0]))]) [0] rfl
  have hD := hD.sub (ws' := [(h0, .inr (7, [.ref q_1, .null, .null, .null, .int 0, .null, .null, .null, .null, .null, .null, .null, .null, .int 0, .int 0]))]) [0] (by decide) rfl
  have hK := hK.sub (tys' := []) [] rfl
  have hP : va_P (dC, dI) vwCl [(h0, .inr (7, [.ref q_1, .null, .null, .null, .int 0, .null, .null, .null, .null, .null, .null, .null, .null, .int 0, .int 0]))] H_4 := hP
  have hD : va_D A [(h0, .inr (7, [.ref q_1, .null, .null, .null, .int 0, .null, .null, .null, .null, .null, .null, .null, .null, .int 0, .int 0]))] := hD
  have hK : va_K (dC, dI) vwCl [] s := hK
  refine lv_aload_n hx hb dX6_init_13 rfl (lv_at hl 0 rfl) ?_
  refine lv_sipush (v := 12061) hx hb dX6_init_14 (by decide) ?_
  refine va_newa (atype := .int) (ty := .int) (a0 := (12061, .inl (fun _ => 0))) hx hb (hts (.arrayClass .int) (List.mem_of_getElem? (i := 4) rfl)) rfl hK hP hD hS hA (fun _ => rfl) (by decide) (by decide +kernel) (Nat.le_of_ble_eq_true rfl) (Nat.le_of_ble_eq_true rfl) (Nat.le_of_ble_eq_true rfl) dX6_init_17 (fun q_5 cA_6 H_7 hK hP hD hS => ?_)
  have hP : va_P (dC, dI) vwCl [(h0, .inr (7, [.ref q_1, .null, .null, .null, .int 0, .null, .null, .null, .null, .null, .null, .null, .null, .int 0, .int 0])), (q_5, .inl (cA_6, 12061, .inl (fun _ => 0)))] H_7 := hP
  have hD : va_D A [(h0, .inr (7, [.ref q_1, .null, .null, .null, .int 0, .null, .null, .null, .null, .null, .null, .null, .null, .int 0, .int 0])), (q_5, .inl (cA_6, 12061, .inl (fun _ => 0)))] := hD
  have hK : va_K (dC, dI) vwCl [(cA_6, .int)] s := hK
  refine W.widen (k := 2) (n := 24122) (Nat.le_of_ble_eq_true rfl) (Nat.le_of_ble_eq_true rfl) ?_
  refine va_putF (D := (dC, dI)) (ci := 7) (v := .ref q_5) (ty := .array .int) (C := RX6) (T := TX6) (N := 15) hx hb hts in_z_Ty_X6 tyX6 tyX6_ok nmX6 hown hK hP hD hS 0 rfl rfl 1 (by decide) (hts (.fieldLink RX6 15 "Selfkindle$Types" "lefts" "[I") (List.mem_of_getElem? (i := 6) rfl)) (fun _ h9 => h9) rfl hin rfl (by decide +kernel) rfl rfl (Nat.le_of_ble_eq_true rfl) dX6_init_19 (fun H_8 locs hP hD hS => ?_)
  have hP : va_P (dC, dI) vwCl [(h0, .inr (7, [.ref q_1, .ref q_5, .null, .null, .int 0, .null, .null, .null, .null, .null, .null, .null, .null, .int 0, .int 0])), (q_5, .inl (cA_6, 12061, .inl (fun _ => 0)))] H_8 := hP
  have hD : va_D A [(h0, .inr (7, [.ref q_1, .ref q_5, .null, .null, .int 0, .null, .null, .null, .null, .null, .null, .null, .null, .int 0, .int 0])), (q_5, .inl (cA_6, 12061, .inl (fun _ => 0)))] := hD
  have hK : va_K (dC, dI) vwCl [(cA_6, .int)] s := hK
  have hP := hP.sub (ws' := [(h0, .inr (7, [.ref q_1, .ref q_5, .null, .null, .int 0, .null, .null, .null, .null, .null, .null, .null, .null, .int 0, .int 0]))]) [0] rfl
  have hD := hD.sub (ws' := [(h0, .inr (7, [.ref q_1, .ref q_5, .null, .null, .int 0, .null, .null, .null, .null, .null, .null, .null, .null, .int 0, .int 0]))]) [0] (by decide) rfl
  have hK := hK.sub (tys' := []) [] rfl
  have hP : va_P (dC, dI) vwCl [(h0, .inr (7, [.ref q_1, .ref q_5, .null, .null, .int 0, .null, .null, .null, .null, .null, .null, .null, .null, .int 0, .int 0]))] H_8 := hP
  have hD : va_D A [(h0, .inr (7, [.ref q_1, .ref q_5, .null, .null, .int 0, .null, .null, .null, .null, .null, .null, .null, .null, .int 0, .int 0]))] := hD
  have hK : va_K (dC, dI) vwCl [] s := hK
  refine lv_aload_n hx hb dX6_init_22 rfl (lv_at hl 0 rfl) ?_
  refine lv_sipush (v := 12061) hx hb dX6_init_23 (by decide) ?_
  refine va_newa (atype := .int) (ty := .int) (a0 := (12061, .inl (fun _ => 0))) hx hb (hts (.arrayClass .int) (List.mem_of_getElem? (i := 4) rfl)) rfl hK hP hD hS hA (fun _ => rfl) (by decide) (by decide +kernel) (Nat.le_of_ble_eq_true rfl) (Nat.le_of_ble_eq_true rfl) (Nat.le_of_ble_eq_true rfl) dX6_init_26 (fun q_9 cA_10 H_11 hK hP hD hS => ?_)
  have hP : va_P (dC, dI) vwCl [(h0, .inr (7, [.ref q_1, .ref q_5, .null, .null, .int 0, .null, .null, .null, .null, .null, .null, .null, .null, .int 0, .int 0])), (q_9, .inl (cA_10, 12061, .inl (fun _ => 0)))] H_11 := hP
  have hD : va_D A [(h0, .inr (7, [.ref q_1, .ref q_5, .null, .null, .int 0, .null, .null, .null, .null, .null, .null, .null, .null, .int 0, .int 0])), (q_9, .inl (cA_10, 12061, .inl (fun _ => 0)))] := hD
  have hK : va_K (dC, dI) vwCl [(cA_10, .int)] s := hK
  refine W.widen (k := 3) (n := 36183) (Nat.le_of_ble_eq_true rfl) (Nat.le_of_ble_eq_true rfl) ?_
  refine va_putF (D := (dC, dI)) (ci := 7) (v := .ref q_9) (ty := .array .int) (C := RX6) (T := TX6) (N := 15) hx hb hts in_z_Ty_X6 tyX6 tyX6_ok nmX6 hown hK hP hD hS 0 rfl rfl 2 (by decide) (hts (.fieldLink RX6 18 "Selfkindle$Types" "rights" "[I") (List.mem_of_getElem? (i := 7) rfl)) (fun _ h9 => h9) rfl hin rfl (by decide +kernel) rfl rfl (Nat.le_of_ble_eq_true rfl) dX6_init_28 (fun H_12 locs hP hD hS => ?_)
  have hP : va_P (dC, dI) vwCl [(h0, .inr (7, [.ref q_1, .ref q_5, .ref q_9, .null, .int 0, .null, .null, .null, .null, .null, .null, .null, .null, .int 0, .int 0])), (q_9, .inl (cA_10, 12061, .inl (fun _ => 0)))] H_12 := hP
  have hD : va_D A [(h0, .inr (7, [.ref q_1, .ref q_5, .ref q_9, .null, .int 0, .null, .null, .null, .null, .null, .null, .null, .null, .int 0, .int 0])), (q_9, .inl (cA_10, 12061, .inl (fun _ => 0)))] := hD
  have hK : va_K (dC, dI) vwCl [(cA_10, .int)] s := hK
  have hP := hP.sub (ws' := [(h0, .inr (7, [.ref q_1, .ref q_5, .ref q_9, .null, .int 0, .null, .null, .null, .null, .null, .null, .null, .null, .int 0, .int 0]))]) [0] rfl
  have hD := hD.sub (ws' := [(h0, .inr (7, [.ref q_1, .ref q_5, .ref q_9, .null, .int 0, .null, .null, .null, .null, .null, .null, .null, .null, .int 0, .int 0]))]) [0] (by decide) rfl
  have hK := hK.sub (tys' := []) [] rfl
  have hP : va_P (dC, dI) vwCl [(h0, .inr (7, [.ref q_1, .ref q_5, .ref q_9, .null, .int 0, .null, .null, .null, .null, .null, .null, .null, .null, .int 0, .int 0]))] H_12 := hP
  have hD : va_D A [(h0, .inr (7, [.ref q_1, .ref q_5, .ref q_9, .null, .int 0, .null, .null, .null, .null, .null, .null, .null, .null, .int 0, .int 0]))] := hD
  have hK : va_K (dC, dI) vwCl [] s := hK
  refine lv_aload_n hx hb dX6_init_31 rfl (lv_at hl 0 rfl) ?_
  refine lv_sipush (v := 12061) hx hb dX6_init_32 (by decide) ?_
  refine va_newa (atype := .int) (ty := .int) (a0 := (12061, .inl (fun _ => 0))) hx hb (hts (.arrayClass .int) (List.mem_of_getElem? (i := 4) rfl)) rfl hK hP hD hS hA (fun _ => rfl) (by decide) (by decide +kernel) (Nat.le_of_ble_eq_true rfl) (Nat.le_of_ble_eq_true rfl) (Nat.le_of_ble_eq_true rfl) dX6_init_35 (fun q_13 cA_14 H_15 hK hP hD hS => ?_)
  have hP : va_P (dC, dI) vwCl [(h0, .inr (7, [.ref q_1, .ref q_5, .ref q_9, .null, .int 0, .null, .null, .null, .null, .null, .null, .null, .null, .int 0, .int 0])), (q_13, .inl (cA_14, 12061, .inl (fun _ => 0)))] H_15 := hP
  have hD : va_D A [(h0, .inr (7, [.ref q_1, .ref q_5, .ref q_9, .null, .int 0, .null, .null, .null, .null, .null, .null, .null, .null, .int 0, .int 0])), (q_13, .inl (cA_14, 12061, .inl (fun _ => 0)))] := hD
  have hK : va_K (dC, dI) vwCl [(cA_14, .int)] s := hK
  refine W.widen (k := 4) (n := 48244) (Nat.le_of_ble_eq_true rfl) (Nat.le_of_ble_eq_true rfl) ?_
  refine va_putF (D := (dC, dI)) (ci := 7) (v := .ref q_13) (ty := .array .int) (C := RX6) (T := TX6) (N := 15) hx hb hts in_z_Ty_X6 tyX6 tyX6_ok nmX6 hown hK hP hD hS 0 rfl rfl 3 (by decide) (hts (.fieldLink RX6 21 "Selfkindle$Types" "copies" "[I") (List.mem_of_getElem? (i := 8) rfl)) (fun _ h9 => h9) rfl hin rfl (by decide +kernel) rfl rfl (Nat.le_of_ble_eq_true rfl) dX6_init_37 (fun H_16 locs hP hD hS => ?_)
  have hP : va_P (dC, dI) vwCl [(h0, .inr (7, [.ref q_1, .ref q_5, .ref q_9, .ref q_13, .int 0, .null, .null, .null, .null, .null, .null, .null, .null, .int 0, .int 0])), (q_13, .inl (cA_14, 12061, .inl (fun _ => 0)))] H_16 := hP
  have hD : va_D A [(h0, .inr (7, [.ref q_1, .ref q_5, .ref q_9, .ref q_13, .int 0, .null, .null, .null, .null, .null, .null, .null, .null, .int 0, .int 0])), (q_13, .inl (cA_14, 12061, .inl (fun _ => 0)))] := hD
  have hK : va_K (dC, dI) vwCl [(cA_14, .int)] s := hK
  have hP := hP.sub (ws' := [(h0, .inr (7, [.ref q_1, .ref q_5, .ref q_9, .ref q_13, .int 0, .null, .null, .null, .null, .null, .null, .null, .null, .int 0, .int 0]))]) [0] rfl
  have hD := hD.sub (ws' := [(h0, .inr (7, [.ref q_1, .ref q_5, .ref q_9, .ref q_13, .int 0, .null, .null, .null, .null, .null, .null, .null, .null, .int 0, .int 0]))]) [0] (by decide) rfl
  have hK := hK.sub (tys' := []) [] rfl
  have hP : va_P (dC, dI) vwCl [(h0, .inr (7, [.ref q_1, .ref q_5, .ref q_9, .ref q_13, .int 0, .null, .null, .null, .null, .null, .null, .null, .null, .int 0, .int 0]))] H_16 := hP
  have hD : va_D A [(h0, .inr (7, [.ref q_1, .ref q_5, .ref q_9, .ref q_13, .int 0, .null, .null, .null, .null, .null, .null, .null, .null, .int 0, .int 0]))] := hD
  have hK : va_K (dC, dI) vwCl [] s := hK
  refine lv_aload_n hx hb dX6_init_40 rfl (lv_at hl 0 rfl) ?_
  refine lv_sipush (v := 200) hx hb dX6_init_41 (by decide) ?_
  refine va_newa (atype := .int) (ty := .int) (a0 := (200, .inl (fun _ => 0))) hx hb (hts (.arrayClass .int) (List.mem_of_getElem? (i := 4) rfl)) rfl hK hP hD hS hA (fun _ => rfl) (by decide) (by decide +kernel) (Nat.le_of_ble_eq_true rfl) (Nat.le_of_ble_eq_true rfl) (Nat.le_of_ble_eq_true rfl) dX6_init_44 (fun q_17 cA_18 H_19 hK hP hD hS => ?_)
  have hP : va_P (dC, dI) vwCl [(h0, .inr (7, [.ref q_1, .ref q_5, .ref q_9, .ref q_13, .int 0, .null, .null, .null, .null, .null, .null, .null, .null, .int 0, .int 0])), (q_17, .inl (cA_18, 200, .inl (fun _ => 0)))] H_19 := hP
  have hD : va_D A [(h0, .inr (7, [.ref q_1, .ref q_5, .ref q_9, .ref q_13, .int 0, .null, .null, .null, .null, .null, .null, .null, .null, .int 0, .int 0])), (q_17, .inl (cA_18, 200, .inl (fun _ => 0)))] := hD
  have hK : va_K (dC, dI) vwCl [(cA_18, .int)] s := hK
  refine W.widen (k := 5) (n := 48444) (Nat.le_of_ble_eq_true rfl) (Nat.le_of_ble_eq_true rfl) ?_
  refine va_putF (D := (dC, dI)) (ci := 7) (v := .ref q_17) (ty := .array .int) (C := RX6) (T := TX6) (N := 15) hx hb hts in_z_Ty_X6 tyX6 tyX6_ok nmX6 hown hK hP hD hS 0 rfl rfl 5 (by decide) (hts (.fieldLink RX6 24 "Selfkindle$Types" "row" "[I") (List.mem_of_getElem? (i := 9) rfl)) (fun _ h9 => h9) rfl hin rfl (by decide +kernel) rfl rfl (Nat.le_of_ble_eq_true rfl) dX6_init_46 (fun H_20 locs hP hD hS => ?_)
  have hP : va_P (dC, dI) vwCl [(h0, .inr (7, [.ref q_1, .ref q_5, .ref q_9, .ref q_13, .int 0, .ref q_17, .null, .null, .null, .null, .null, .null, .null, .int 0, .int 0])), (q_17, .inl (cA_18, 200, .inl (fun _ => 0)))] H_20 := hP
  have hD : va_D A [(h0, .inr (7, [.ref q_1, .ref q_5, .ref q_9, .ref q_13, .int 0, .ref q_17, .null, .null, .null, .null, .null, .null, .null, .int 0, .int 0])), (q_17, .inl (cA_18, 200, .inl (fun _ => 0)))] := hD
  have hK : va_K (dC, dI) vwCl [(cA_18, .int)] s := hK
  have hP := hP.sub (ws' := [(h0, .inr (7, [.ref q_1, .ref q_5, .ref q_9, .ref q_13, .int 0, .ref q_17, .null, .null, .null, .null, .null, .null, .null, .int 0, .int 0]))]) [0] rfl
  have hD := hD.sub (ws' := [(h0, .inr (7, [.ref q_1, .ref q_5, .ref q_9, .ref q_13, .int 0, .ref q_17, .null, .null, .null, .null, .null, .null, .null, .int 0, .int 0]))]) [0] (by decide) rfl
  have hK := hK.sub (tys' := []) [] rfl
  have hP : va_P (dC, dI) vwCl [(h0, .inr (7, [.ref q_1, .ref q_5, .ref q_9, .ref q_13, .int 0, .ref q_17, .null, .null, .null, .null, .null, .null, .null, .int 0, .int 0]))] H_20 := hP
  have hD : va_D A [(h0, .inr (7, [.ref q_1, .ref q_5, .ref q_9, .ref q_13, .int 0, .ref q_17, .null, .null, .null, .null, .null, .null, .null, .int 0, .int 0]))] := hD
  have hK : va_K (dC, dI) vwCl [] s := hK
  refine lv_aload_n hx hb dX6_init_49 rfl (lv_at hl 0 rfl) ?_
  refine lv_sipush (v := 202) hx hb dX6_init_50 (by decide) ?_
  refine va_newa (atype := .int) (ty := .int) (a0 := (202, .inl (fun _ => 0))) hx hb (hts (.arrayClass .int) (List.mem_of_getElem? (i := 4) rfl)) rfl hK hP hD hS hA (fun _ => rfl) (by decide) (by decide +kernel) (Nat.le_of_ble_eq_true rfl) (Nat.le_of_ble_eq_true rfl) (Nat.le_of_ble_eq_true rfl) dX6_init_53 (fun q_21 cA_22 H_23 hK hP hD hS => ?_)
  have hP : va_P (dC, dI) vwCl [(h0, .inr (7, [.ref q_1, .ref q_5, .ref q_9, .ref q_13, .int 0, .ref q_17, .null, .null, .null, .null, .null, .null, .null, .int 0, .int 0])), (q_21, .inl (cA_22, 202, .inl (fun _ => 0)))] H_23 := hP
  have hD : va_D A [(h0, .inr (7, [.ref q_1, .ref q_5, .ref q_9, .ref q_13, .int 0, .ref q_17, .null, .null, .null, .null, .null, .null, .null, .int 0, .int 0])), (q_21, .inl (cA_22, 202, .inl (fun _ => 0)))] := hD
  have hK : va_K (dC, dI) vwCl [(cA_22, .int)] s := hK
  refine W.widen (k := 6) (n := 48646) (Nat.le_of_ble_eq_true rfl) (Nat.le_of_ble_eq_true rfl) ?_
  refine va_putF (D := (dC, dI)) (ci := 7) (v := .ref q_21) (ty := .array .int) (C := RX6) (T := TX6) (N := 15) hx hb hts in_z_Ty_X6 tyX6 tyX6_ok nmX6 hown hK hP hD hS 0 rfl rfl 6 (by decide) (hts (.fieldLink RX6 27 "Selfkindle$Types" "work" "[I") (List.mem_of_getElem? (i := 10) rfl)) (fun _ h9 => h9) rfl hin rfl (by decide +kernel) rfl rfl (Nat.le_of_ble_eq_true rfl) dX6_init_55 (fun H_24 locs hP hD hS => ?_)
  have hP : va_P (dC, dI) vwCl [(h0, .inr (7, [.ref q_1, .ref q_5, .ref q_9, .ref q_13, .int 0, .ref q_17, .ref q_21, .null, .null, .null, .null, .null, .null, .int 0, .int 0])), (q_21, .inl (cA_22, 202, .inl (fun _ => 0)))] H_24 := hP
  have hD : va_D A [(h0, .inr (7, [.ref q_1, .ref q_5, .ref q_9, .ref q_13, .int 0, .ref q_17, .ref q_21, .null, .null, .null, .null, .null, .null, .int 0, .int 0])), (q_21, .inl (cA_22, 202, .inl (fun _ => 0)))] := hD
  have hK : va_K (dC, dI) vwCl [(cA_22, .int)] s := hK
  have hP := hP.sub (ws' := [(h0, .inr (7, [.ref q_1, .ref q_5, .ref q_9, .ref q_13, .int 0, .ref q_17, .ref q_21, .null, .null, .null, .null, .null, .null, .int 0, .int 0]))]) [0] rfl
  have hD := hD.sub (ws' := [(h0, .inr (7, [.ref q_1, .ref q_5, .ref q_9, .ref q_13, .int 0, .ref q_17, .ref q_21, .null, .null, .null, .null, .null, .null, .int 0, .int 0]))]) [0] (by decide) rfl
  have hK := hK.sub (tys' := []) [] rfl
  have hP : va_P (dC, dI) vwCl [(h0, .inr (7, [.ref q_1, .ref q_5, .ref q_9, .ref q_13, .int 0, .ref q_17, .ref q_21, .null, .null, .null, .null, .null, .null, .int 0, .int 0]))] H_24 := hP
  have hD : va_D A [(h0, .inr (7, [.ref q_1, .ref q_5, .ref q_9, .ref q_13, .int 0, .ref q_17, .ref q_21, .null, .null, .null, .null, .null, .null, .int 0, .int 0]))] := hD
  have hK : va_K (dC, dI) vwCl [] s := hK
  refine lv_aload_n hx hb dX6_init_58 rfl (lv_at hl 0 rfl) ?_
  refine lv_sipush (v := 404) hx hb dX6_init_59 (by decide) ?_
  refine va_newa (atype := .int) (ty := .int) (a0 := (404, .inl (fun _ => 0))) hx hb (hts (.arrayClass .int) (List.mem_of_getElem? (i := 4) rfl)) rfl hK hP hD hS hA (fun _ => rfl) (by decide) (by decide +kernel) (Nat.le_of_ble_eq_true rfl) (Nat.le_of_ble_eq_true rfl) (Nat.le_of_ble_eq_true rfl) dX6_init_62 (fun q_25 cA_26 H_27 hK hP hD hS => ?_)
  have hP : va_P (dC, dI) vwCl [(h0, .inr (7, [.ref q_1, .ref q_5, .ref q_9, .ref q_13, .int 0, .ref q_17, .ref q_21, .null, .null, .null, .null, .null, .null, .int 0, .int 0])), (q_25, .inl (cA_26, 404, .inl (fun _ => 0)))] H_27 := hP
  have hD : va_D A [(h0, .inr (7, [.ref q_1, .ref q_5, .ref q_9, .ref q_13, .int 0, .ref q_17, .ref q_21, .null, .null, .null, .null, .null, .null, .int 0, .int 0])), (q_25, .inl (cA_26, 404, .inl (fun _ => 0)))] := hD
  have hK : va_K (dC, dI) vwCl [(cA_26, .int)] s := hK
  refine W.widen (k := 7) (n := 49050) (Nat.le_of_ble_eq_true rfl) (Nat.le_of_ble_eq_true rfl) ?_
  refine va_putF (D := (dC, dI)) (ci := 7) (v := .ref q_25) (ty := .array .int) (C := RX6) (T := TX6) (N := 15) hx hb hts in_z_Ty_X6 tyX6 tyX6_ok nmX6 hown hK hP hD hS 0 rfl rfl 7 (by decide) (hts (.fieldLink RX6 30 "Selfkindle$Types" "pairs" "[I") (List.mem_of_getElem? (i := 11) rfl)) (fun _ h9 => h9) rfl hin rfl (by decide +kernel) rfl rfl (Nat.le_of_ble_eq_true rfl) dX6_init_64 (fun H_28 locs hP hD hS => ?_)
  have hP : va_P (dC, dI) vwCl [(h0, .inr (7, [.ref q_1, .ref q_5, .ref q_9, .ref q_13, .int 0, .ref q_17, .ref q_21, .ref q_25, .null, .null, .null, .null, .null, .int 0, .int 0])), (q_25, .inl (cA_26, 404, .inl (fun _ => 0)))] H_28 := hP
  have hD : va_D A [(h0, .inr (7, [.ref q_1, .ref q_5, .ref q_9, .ref q_13, .int 0, .ref q_17, .ref q_21, .ref q_25, .null, .null, .null, .null, .null, .int 0, .int 0])), (q_25, .inl (cA_26, 404, .inl (fun _ => 0)))] := hD
  have hK : va_K (dC, dI) vwCl [(cA_26, .int)] s := hK
  have hP := hP.sub (ws' := [(h0, .inr (7, [.ref q_1, .ref q_5, .ref q_9, .ref q_13, .int 0, .ref q_17, .ref q_21, .ref q_25, .null, .null, .null, .null, .null, .int 0, .int 0]))]) [0] rfl
  have hD := hD.sub (ws' := [(h0, .inr (7, [.ref q_1, .ref q_5, .ref q_9, .ref q_13, .int 0, .ref q_17, .ref q_21, .ref q_25, .null, .null, .null, .null, .null, .int 0, .int 0]))]) [0] (by decide) rfl
  have hK := hK.sub (tys' := []) [] rfl
  have hP : va_P (dC, dI) vwCl [(h0, .inr (7, [.ref q_1, .ref q_5, .ref q_9, .ref q_13, .int 0, .ref q_17, .ref q_21, .ref q_25, .null, .null, .null, .null, .null, .int 0, .int 0]))] H_28 := hP
  have hD : va_D A [(h0, .inr (7, [.ref q_1, .ref q_5, .ref q_9, .ref q_13, .int 0, .ref q_17, .ref q_21, .ref q_25, .null, .null, .null, .null, .null, .int 0, .int 0]))] := hD
  have hK : va_K (dC, dI) vwCl [] s := hK
  refine lv_aload_n hx hb dX6_init_67 rfl (lv_at hl 0 rfl) ?_
  refine lv_bipush (v := 60) hx hb dX6_init_68 (by decide) ?_
  refine va_newa (atype := .int) (ty := .int) (a0 := (60, .inl (fun _ => 0))) hx hb (hts (.arrayClass .int) (List.mem_of_getElem? (i := 4) rfl)) rfl hK hP hD hS hA (fun _ => rfl) (by decide) (by decide +kernel) (Nat.le_of_ble_eq_true rfl) (Nat.le_of_ble_eq_true rfl) (Nat.le_of_ble_eq_true rfl) dX6_init_70 (fun q_29 cA_30 H_31 hK hP hD hS => ?_)
  have hP : va_P (dC, dI) vwCl [(h0, .inr (7, [.ref q_1, .ref q_5, .ref q_9, .ref q_13, .int 0, .ref q_17, .ref q_21, .ref q_25, .null, .null, .null, .null, .null, .int 0, .int 0])), (q_29, .inl (cA_30, 60, .inl (fun _ => 0)))] H_31 := hP
  have hD : va_D A [(h0, .inr (7, [.ref q_1, .ref q_5, .ref q_9, .ref q_13, .int 0, .ref q_17, .ref q_21, .ref q_25, .null, .null, .null, .null, .null, .int 0, .int 0])), (q_29, .inl (cA_30, 60, .inl (fun _ => 0)))] := hD
  have hK : va_K (dC, dI) vwCl [(cA_30, .int)] s := hK
  refine W.widen (k := 8) (n := 49110) (Nat.le_of_ble_eq_true rfl) (Nat.le_of_ble_eq_true rfl) ?_
  refine va_putF (D := (dC, dI)) (ci := 7) (v := .ref q_29) (ty := .array .int) (C := RX6) (T := TX6) (N := 15) hx hb hts in_z_Ty_X6 tyX6 tyX6_ok nmX6 hown hK hP hD hS 0 rfl rfl 8 (by decide) (hts (.fieldLink RX6 33 "Selfkindle$Types" "typeOfPart" "[I") (List.mem_of_getElem? (i := 12) rfl)) (fun _ h9 => h9) rfl hin rfl (by decide +kernel) rfl rfl (Nat.le_of_ble_eq_true rfl) dX6_init_72 (fun H_32 locs hP hD hS => ?_)
  have hP : va_P (dC, dI) vwCl [(h0, .inr (7, [.ref q_1, .ref q_5, .ref q_9, .ref q_13, .int 0, .ref q_17, .ref q_21, .ref q_25, .ref q_29, .null, .null, .null, .null, .int 0, .int 0])), (q_29, .inl (cA_30, 60, .inl (fun _ => 0)))] H_32 := hP
  have hD : va_D A [(h0, .inr (7, [.ref q_1, .ref q_5, .ref q_9, .ref q_13, .int 0, .ref q_17, .ref q_21, .ref q_25, .ref q_29, .null, .null, .null, .null, .int 0, .int 0])), (q_29, .inl (cA_30, 60, .inl (fun _ => 0)))] := hD
  have hK : va_K (dC, dI) vwCl [(cA_30, .int)] s := hK
  have hP := hP.sub (ws' := [(h0, .inr (7, [.ref q_1, .ref q_5, .ref q_9, .ref q_13, .int 0, .ref q_17, .ref q_21, .ref q_25, .ref q_29, .null, .null, .null, .null, .int 0, .int 0]))]) [0] rfl
  have hD := hD.sub (ws' := [(h0, .inr (7, [.ref q_1, .ref q_5, .ref q_9, .ref q_13, .int 0, .ref q_17, .ref q_21, .ref q_25, .ref q_29, .null, .null, .null, .null, .int 0, .int 0]))]) [0] (by decide) rfl
  have hK := hK.sub (tys' := []) [] rfl
  have hP : va_P (dC, dI) vwCl [(h0, .inr (7, [.ref q_1, .ref q_5, .ref q_9, .ref q_13, .int 0, .ref q_17, .ref q_21, .ref q_25, .ref q_29, .null, .null, .null, .null, .int 0, .int 0]))] H_32 := hP
  have hD : va_D A [(h0, .inr (7, [.ref q_1, .ref q_5, .ref q_9, .ref q_13, .int 0, .ref q_17, .ref q_21, .ref q_25, .ref q_29, .null, .null, .null, .null, .int 0, .int 0]))] := hD
  have hK : va_K (dC, dI) vwCl [] s := hK
  refine lv_aload_n hx hb dX6_init_75 rfl (lv_at hl 0 rfl) ?_
  refine lv_bipush (v := 60) hx hb dX6_init_76 (by decide) ?_
  refine va_newa (atype := .int) (ty := .int) (a0 := (60, .inl (fun _ => 0))) hx hb (hts (.arrayClass .int) (List.mem_of_getElem? (i := 4) rfl)) rfl hK hP hD hS hA (fun _ => rfl) (by decide) (by decide +kernel) (Nat.le_of_ble_eq_true rfl) (Nat.le_of_ble_eq_true rfl) (Nat.le_of_ble_eq_true rfl) dX6_init_78 (fun q_33 cA_34 H_35 hK hP hD hS => ?_)
  have hP : va_P (dC, dI) vwCl [(h0, .inr (7, [.ref q_1, .ref q_5, .ref q_9, .ref q_13, .int 0, .ref q_17, .ref q_21, .ref q_25, .ref q_29, .null, .null, .null, .null, .int 0, .int 0])), (q_33, .inl (cA_34, 60, .inl (fun _ => 0)))] H_35 := hP
  have hD : va_D A [(h0, .inr (7, [.ref q_1, .ref q_5, .ref q_9, .ref q_13, .int 0, .ref q_17, .ref q_21, .ref q_25, .ref q_29, .null, .null, .null, .null, .int 0, .int 0])), (q_33, .inl (cA_34, 60, .inl (fun _ => 0)))] := hD
  have hK : va_K (dC, dI) vwCl [(cA_34, .int)] s := hK
  refine W.widen (k := 9) (n := 49170) (Nat.le_of_ble_eq_true rfl) (Nat.le_of_ble_eq_true rfl) ?_
  refine va_putF (D := (dC, dI)) (ci := 7) (v := .ref q_33) (ty := .array .int) (C := RX6) (T := TX6) (N := 15) hx hb hts in_z_Ty_X6 tyX6 tyX6_ok nmX6 hown hK hP hD hS 0 rfl rfl 9 (by decide) (hts (.fieldLink RX6 36 "Selfkindle$Types" "typeOfName" "[I") (List.mem_of_getElem? (i := 13) rfl)) (fun _ h9 => h9) rfl hin rfl (by decide +kernel) rfl rfl (Nat.le_of_ble_eq_true rfl) dX6_init_80 (fun H_36 locs hP hD hS => ?_)
  have hP : va_P (dC, dI) vwCl [(h0, .inr (7, [.ref q_1, .ref q_5, .ref q_9, .ref q_13, .int 0, .ref q_17, .ref q_21, .ref q_25, .ref q_29, .ref q_33, .null, .null, .null, .int 0, .int 0])), (q_33, .inl (cA_34, 60, .inl (fun _ => 0)))] H_36 := hP
  have hD : va_D A [(h0, .inr (7, [.ref q_1, .ref q_5, .ref q_9, .ref q_13, .int 0, .ref q_17, .ref q_21, .ref q_25, .ref q_29, .ref q_33, .null, .null, .null, .int 0, .int 0])), (q_33, .inl (cA_34, 60, .inl (fun _ => 0)))] := hD
  have hK : va_K (dC, dI) vwCl [(cA_34, .int)] s := hK
  have hP := hP.sub (ws' := [(h0, .inr (7, [.ref q_1, .ref q_5, .ref q_9, .ref q_13, .int 0, .ref q_17, .ref q_21, .ref q_25, .ref q_29, .ref q_33, .null, .null, .null, .int 0, .int 0]))]) [0] rfl
  have hD := hD.sub (ws' := [(h0, .inr (7, [.ref q_1, .ref q_5, .ref q_9, .ref q_13, .int 0, .ref q_17, .ref q_21, .ref q_25, .ref q_29, .ref q_33, .null, .null, .null, .int 0, .int 0]))]) [0] (by decide) rfl
  have hK := hK.sub (tys' := []) [] rfl
  have hP : va_P (dC, dI) vwCl [(h0, .inr (7, [.ref q_1, .ref q_5, .ref q_9, .ref q_13, .int 0, .ref q_17, .ref q_21, .ref q_25, .ref q_29, .ref q_33, .null, .null, .null, .int 0, .int 0]))] H_36 := hP
  have hD : va_D A [(h0, .inr (7, [.ref q_1, .ref q_5, .ref q_9, .ref q_13, .int 0, .ref q_17, .ref q_21, .ref q_25, .ref q_29, .ref q_33, .null, .null, .null, .int 0, .int 0]))] := hD
  have hK : va_K (dC, dI) vwCl [] s := hK
  refine lv_aload_n hx hb dX6_init_83 rfl (lv_at hl 0 rfl) ?_
  refine lv_bipush (v := 60) hx hb dX6_init_84 (by decide) ?_
  refine va_newa (atype := .int) (ty := .int) (a0 := (60, .inl (fun _ => 0))) hx hb (hts (.arrayClass .int) (List.mem_of_getElem? (i := 4) rfl)) rfl hK hP hD hS hA (fun _ => rfl) (by decide) (by decide +kernel) (Nat.le_of_ble_eq_true rfl) (Nat.le_of_ble_eq_true rfl) (Nat.le_of_ble_eq_true rfl) dX6_init_86 (fun q_37 cA_38 H_39 hK hP hD hS => ?_)
  have hP : va_P (dC, dI) vwCl [(h0, .inr (7, [.ref q_1, .ref q_5, .ref q_9, .ref q_13, .int 0, .ref q_17, .ref q_21, .ref q_25, .ref q_29, .ref q_33, .null, .null, .null, .int 0, .int 0])), (q_37, .inl (cA_38, 60, .inl (fun _ => 0)))] H_39 := hP
  have hD : va_D A [(h0, .inr (7, [.ref q_1, .ref q_5, .ref q_9, .ref q_13, .int 0, .ref q_17, .ref q_21, .ref q_25, .ref q_29, .ref q_33, .null, .null, .null, .int 0, .int 0])), (q_37, .inl (cA_38, 60, .inl (fun _ => 0)))] := hD
  have hK : va_K (dC, dI) vwCl [(cA_38, .int)] s := hK
  refine W.widen (k := 10) (n := 49230) (Nat.le_of_ble_eq_true rfl) (Nat.le_of_ble_eq_true rfl) ?_
  refine va_putF (D := (dC, dI)) (ci := 7) (v := .ref q_37) (ty := .array .int) (C := RX6) (T := TX6) (N := 15) hx hb hts in_z_Ty_X6 tyX6 tyX6_ok nmX6 hown hK hP hD hS 0 rfl rfl 10 (by decide) (hts (.fieldLink RX6 39 "Selfkindle$Types" "levels" "[I") (List.mem_of_getElem? (i := 14) rfl)) (fun _ h9 => h9) rfl hin rfl (by decide +kernel) rfl rfl (Nat.le_of_ble_eq_true rfl) dX6_init_88 (fun H_40 locs hP hD hS => ?_)
  have hP : va_P (dC, dI) vwCl [(h0, .inr (7, [.ref q_1, .ref q_5, .ref q_9, .ref q_13, .int 0, .ref q_17, .ref q_21, .ref q_25, .ref q_29, .ref q_33, .ref q_37, .null, .null, .int 0, .int 0])), (q_37, .inl (cA_38, 60, .inl (fun _ => 0)))] H_40 := hP
  have hD : va_D A [(h0, .inr (7, [.ref q_1, .ref q_5, .ref q_9, .ref q_13, .int 0, .ref q_17, .ref q_21, .ref q_25, .ref q_29, .ref q_33, .ref q_37, .null, .null, .int 0, .int 0])), (q_37, .inl (cA_38, 60, .inl (fun _ => 0)))] := hD
  have hK : va_K (dC, dI) vwCl [(cA_38, .int)] s := hK
  have hP := hP.sub (ws' := [(h0, .inr (7, [.ref q_1, .ref q_5, .ref q_9, .ref q_13, .int 0, .ref q_17, .ref q_21, .ref q_25, .ref q_29, .ref q_33, .ref q_37, .null, .null, .int 0, .int 0]))]) [0] rfl
  have hD := hD.sub (ws' := [(h0, .inr (7, [.ref q_1, .ref q_5, .ref q_9, .ref q_13, .int 0, .ref q_17, .ref q_21, .ref q_25, .ref q_29, .ref q_33, .ref q_37, .null, .null, .int 0, .int 0]))]) [0] (by decide) rfl
  have hK := hK.sub (tys' := []) [] rfl
  have hP : va_P (dC, dI) vwCl [(h0, .inr (7, [.ref q_1, .ref q_5, .ref q_9, .ref q_13, .int 0, .ref q_17, .ref q_21, .ref q_25, .ref q_29, .ref q_33, .ref q_37, .null, .null, .int 0, .int 0]))] H_40 := hP
  have hD : va_D A [(h0, .inr (7, [.ref q_1, .ref q_5, .ref q_9, .ref q_13, .int 0, .ref q_17, .ref q_21, .ref q_25, .ref q_29, .ref q_33, .ref q_37, .null, .null, .int 0, .int 0]))] := hD
  have hK : va_K (dC, dI) vwCl [] s := hK
  refine lv_aload_n hx hb dX6_init_91 rfl (lv_at hl 0 rfl) ?_
  refine lv_bipush (v := 60) hx hb dX6_init_92 (by decide) ?_
  refine va_newa (atype := .int) (ty := .int) (a0 := (60, .inl (fun _ => 0))) hx hb (hts (.arrayClass .int) (List.mem_of_getElem? (i := 4) rfl)) rfl hK hP hD hS hA (fun _ => rfl) (by decide) (by decide +kernel) (Nat.le_of_ble_eq_true rfl) (Nat.le_of_ble_eq_true rfl) (Nat.le_of_ble_eq_true rfl) dX6_init_94 (fun q_41 cA_42 H_43 hK hP hD hS => ?_)
  have hP : va_P (dC, dI) vwCl [(h0, .inr (7, [.ref q_1, .ref q_5, .ref q_9, .ref q_13, .int 0, .ref q_17, .ref q_21, .ref q_25, .ref q_29, .ref q_33, .ref q_37, .null, .null, .int 0, .int 0])), (q_41, .inl (cA_42, 60, .inl (fun _ => 0)))] H_43 := hP
  have hD : va_D A [(h0, .inr (7, [.ref q_1, .ref q_5, .ref q_9, .ref q_13, .int 0, .ref q_17, .ref q_21, .ref q_25, .ref q_29, .ref q_33, .ref q_37, .null, .null, .int 0, .int 0])), (q_41, .inl (cA_42, 60, .inl (fun _ => 0)))] := hD
  have hK : va_K (dC, dI) vwCl [(cA_42, .int)] s := hK
  refine W.widen (k := 11) (n := 49290) (Nat.le_of_ble_eq_true rfl) (Nat.le_of_ble_eq_true rfl) ?_
  refine va_putF (D := (dC, dI)) (ci := 7) (v := .ref q_41) (ty := .array .int) (C := RX6) (T := TX6) (N := 15) hx hb hts in_z_Ty_X6 tyX6 tyX6_ok nmX6 hown hK hP hD hS 0 rfl rfl 11 (by decide) (hts (.fieldLink RX6 42 "Selfkindle$Types" "parents" "[I") (List.mem_of_getElem? (i := 15) rfl)) (fun _ h9 => h9) rfl hin rfl (by decide +kernel) rfl rfl (Nat.le_of_ble_eq_true rfl) dX6_init_96 (fun H_44 locs hP hD hS => ?_)
  have hP : va_P (dC, dI) vwCl [(h0, .inr (7, [.ref q_1, .ref q_5, .ref q_9, .ref q_13, .int 0, .ref q_17, .ref q_21, .ref q_25, .ref q_29, .ref q_33, .ref q_37, .ref q_41, .null, .int 0, .int 0])), (q_41, .inl (cA_42, 60, .inl (fun _ => 0)))] H_44 := hP
  have hD : va_D A [(h0, .inr (7, [.ref q_1, .ref q_5, .ref q_9, .ref q_13, .int 0, .ref q_17, .ref q_21, .ref q_25, .ref q_29, .ref q_33, .ref q_37, .ref q_41, .null, .int 0, .int 0])), (q_41, .inl (cA_42, 60, .inl (fun _ => 0)))] := hD
  have hK : va_K (dC, dI) vwCl [(cA_42, .int)] s := hK
  have hP := hP.sub (ws' := [(h0, .inr (7, [.ref q_1, .ref q_5, .ref q_9, .ref q_13, .int 0, .ref q_17, .ref q_21, .ref q_25, .ref q_29, .ref q_33, .ref q_37, .ref q_41, .null, .int 0, .int 0]))]) [0] rfl
  have hD := hD.sub (ws' := [(h0, .inr (7, [.ref q_1, .ref q_5, .ref q_9, .ref q_13, .int 0, .ref q_17, .ref q_21, .ref q_25, .ref q_29, .ref q_33, .ref q_37, .ref q_41, .null, .int 0, .int 0]))]) [0] (by decide) rfl
  have hK := hK.sub (tys' := []) [] rfl
  have hP : va_P (dC, dI) vwCl [(h0, .inr (7, [.ref q_1, .ref q_5, .ref q_9, .ref q_13, .int 0, .ref q_17, .ref q_21, .ref q_25, .ref q_29, .ref q_33, .ref q_37, .ref q_41, .null, .int 0, .int 0]))] H_44 := hP
  have hD : va_D A [(h0, .inr (7, [.ref q_1, .ref q_5, .ref q_9, .ref q_13, .int 0, .ref q_17, .ref q_21, .ref q_25, .ref q_29, .ref q_33, .ref q_37, .ref q_41, .null, .int 0, .int 0]))] := hD
  have hK : va_K (dC, dI) vwCl [] s := hK
  refine lv_aload_n hx hb dX6_init_99 rfl (lv_at hl 0 rfl) ?_
  refine lv_sipush (v := 200) hx hb dX6_init_100 (by decide) ?_
  refine va_newa (atype := .int) (ty := .int) (a0 := (200, .inl (fun _ => 0))) hx hb (hts (.arrayClass .int) (List.mem_of_getElem? (i := 4) rfl)) rfl hK hP hD hS hA (fun _ => rfl) (by decide) (by decide +kernel) (Nat.le_of_ble_eq_true rfl) (Nat.le_of_ble_eq_true rfl) (Nat.le_of_ble_eq_true rfl) dX6_init_103 (fun q_45 cA_46 H_47 hK hP hD hS => ?_)
  have hP : va_P (dC, dI) vwCl [(h0, .inr (7, [.ref q_1, .ref q_5, .ref q_9, .ref q_13, .int 0, .ref q_17, .ref q_21, .ref q_25, .ref q_29, .ref q_33, .ref q_37, .ref q_41, .null, .int 0, .int 0])), (q_45, .inl (cA_46, 200, .inl (fun _ => 0)))] H_47 := hP
  have hD : va_D A [(h0, .inr (7, [.ref q_1, .ref q_5, .ref q_9, .ref q_13, .int 0, .ref q_17, .ref q_21, .ref q_25, .ref q_29, .ref q_33, .ref q_37, .ref q_41, .null, .int 0, .int 0])), (q_45, .inl (cA_46, 200, .inl (fun _ => 0)))] := hD
  have hK : va_K (dC, dI) vwCl [(cA_46, .int)] s := hK
  refine W.widen (k := 12) (n := 49490) (Nat.le_of_ble_eq_true rfl) (Nat.le_of_ble_eq_true rfl) ?_
  refine va_putF (D := (dC, dI)) (ci := 7) (v := .ref q_45) (ty := .array .int) (C := RX6) (T := TX6) (N := 15) hx hb hts in_z_Ty_X6 tyX6 tyX6_ok nmX6 hown hK hP hD hS 0 rfl rfl 12 (by decide) (hts (.fieldLink RX6 45 "Selfkindle$Types" "answer" "[I") (List.mem_of_getElem? (i := 16) rfl)) (fun _ h9 => h9) rfl hin rfl (by decide +kernel) rfl rfl (Nat.le_of_ble_eq_true rfl) dX6_init_105 (fun H_48 locs hP hD hS => ?_)
  have hP : va_P (dC, dI) vwCl [(h0, .inr (7, [.ref q_1, .ref q_5, .ref q_9, .ref q_13, .int 0, .ref q_17, .ref q_21, .ref q_25, .ref q_29, .ref q_33, .ref q_37, .ref q_41, .ref q_45, .int 0, .int 0])), (q_45, .inl (cA_46, 200, .inl (fun _ => 0)))] H_48 := hP
  have hD : va_D A [(h0, .inr (7, [.ref q_1, .ref q_5, .ref q_9, .ref q_13, .int 0, .ref q_17, .ref q_21, .ref q_25, .ref q_29, .ref q_33, .ref q_37, .ref q_41, .ref q_45, .int 0, .int 0])), (q_45, .inl (cA_46, 200, .inl (fun _ => 0)))] := hD
  have hK : va_K (dC, dI) vwCl [(cA_46, .int)] s := hK
  have hP := hP.sub (ws' := [(h0, .inr (7, [.ref q_1, .ref q_5, .ref q_9, .ref q_13, .int 0, .ref q_17, .ref q_21, .ref q_25, .ref q_29, .ref q_33, .ref q_37, .ref q_41, .ref q_45, .int 0, .int 0]))]) [0] rfl
  have hD := hD.sub (ws' := [(h0, .inr (7, [.ref q_1, .ref q_5, .ref q_9, .ref q_13, .int 0, .ref q_17, .ref q_21, .ref q_25, .ref q_29, .ref q_33, .ref q_37, .ref q_41, .ref q_45, .int 0, .int 0]))]) [0] (by decide) rfl
  have hK := hK.sub (tys' := []) [] rfl
  have hP : va_P (dC, dI) vwCl [(h0, .inr (7, [.ref q_1, .ref q_5, .ref q_9, .ref q_13, .int 0, .ref q_17, .ref q_21, .ref q_25, .ref q_29, .ref q_33, .ref q_37, .ref q_41, .ref q_45, .int 0, .int 0]))] H_48 := hP
  have hD : va_D A [(h0, .inr (7, [.ref q_1, .ref q_5, .ref q_9, .ref q_13, .int 0, .ref q_17, .ref q_21, .ref q_25, .ref q_29, .ref q_33, .ref q_37, .ref q_41, .ref q_45, .int 0, .int 0]))] := hD
  have hK : va_K (dC, dI) vwCl [] s := hK
  refine W.widen (k := 12) (n := 49490) (Nat.le_of_ble_eq_true rfl) (Nat.le_of_ble_eq_true rfl) ?_
  exact W.vret hx hb hr (fun t ht hW => ⟨⟨(), rfl, trivial, trivial⟩, hS.F ht⟩) hS.2.2 dX6_init_108

set_option maxRecDepth 20000 in
def z_Co : List Cond := .code yX0_init cX0_init 1 none :: (([.methodLink RX0 5 objectInit, .instanceMethod objectInit, .code objectInit ⟨#[0xb1]⟩ 1 none, .arrayClass .int, .fieldLink RX0 11 "Selfkindle$Code" "whats" "[I", .arrayClass .long, .fieldLink RX0 15 "Selfkindle$Code" "numbers" "[J", .fieldLink RX0 19 "Selfkindle$Code" "times" "[I", .arrayClass .boolean, .fieldLink RX0 22 "Selfkindle$Code" "stops" "[Z", .fieldLink RX0 26 "Selfkindle$Code" "lengths" "[I", .fieldLink RX0 29 "Selfkindle$Code" "places" "[I"] : List Cond) ++ wsX00)
theorem in_z_Co_X0 : ∀ w ∈ wsX00, w ∈ z_Co := fun w h => List.mem_cons_of_mem _ (List.mem_append_right _ (h))
set_option maxHeartbeats 4000000 in
set_option maxRecDepth 100000 in
/-- Code() -/
theorem c_Co (l : Launch) (dC : Nat → ClassId) (dI : Nat → Nat → Nat) (tp te : Nat) (sz : Nat) (h0 : Nat)  : Met l yX0_init z_Co ({ frames := 1, cells := 6, slots := 1080, locals := 12 }) (va_Pc [.ref h0] (Pw dC dI [(h0, .inr (1, [.null, .null, .null, .null, .null, .null, .int 0]))] [] sz tp te)) (va_Qv (fun (_ : Unit) => True) (fun (_ : Unit) (_ : State) => True) (va_A [(h0, .inr (1, [.null, .null, .null, .null, .null, .null, .int 0]))] sz)) 6 1080 (va_A [(h0, .inr (1, [.null, .null, .null, .null, .null, .null, .int 0]))] sz) := by
  refine Met.ofW (cc := cX0_init) (maxL := 1) (ret := none) (by decide) rfl ?_
  intro p e s m args below meth c s₁ B hml hv
  obtain ⟨rfl, hsz, hP, hK, hD0, hG⟩ := hv
  have hx := B.exec
  have hb := B.bytes
  have hr := B.returns
  have hts := atoms_spec (ws := z_Co) B.pre
  have hown : s.vm.findClass RX0 = some m.cls := findClass_of_methodNamed B.named
  have hlocks := B.notSynchronized
  have hin : meth.name = "<init>" := (name_of_methodNamed B.named B.method).1
  subst hsz
  have hD := hD0.self (sz := s.heap.size)
  generalize hAe : va_A [(h0, .inr (1, [.null, .null, .null, .null, .null, .null, .int 0]))] s.heap.size = A at hD hG ⊢
  have hA : ∀ q : Nat, s.heap.size ≤ q → A q := fun q h => by rw [← hAe]; exact Or.inr h
  have hS : va_S A s.heap s.heap [] := va_S.rf
  have hl := lv_entry ([.ref h0]) (n := 1) (Nat.le_of_ble_eq_true rfl)
  rw [lg_entry_eq]
  generalize (lg_sl ([.ref h0]) ++ List.replicate (1 - (lg_sl ([.ref h0])).length) Slot.unset).toArray = ls at hl ⊢
  have hl : lv_has ls 1 [(0, .ref h0)] := hl
  refine lv_aload_n hx hb dX0_init_0 rfl (lv_at hl 0 rfl) ?_
  refine W.objInit hx hb hown (hts (.methodLink RX0 5 objectInit) (List.mem_of_getElem? (i := 1) rfl)) (hts (.instanceMethod objectInit) (List.mem_of_getElem? (i := 2) rfl)) (hts _ (List.mem_of_getElem? (i := 3) rfl)) rfl (by rw [hml]; exact hl.1) rfl dX0_init_1 (Nat.le_of_ble_eq_true rfl) (Nat.le_of_ble_eq_true rfl) ?_
  refine W.eq (g2 := F0 m 4 ls []) rfl ?_
  refine lv_aload_n hx hb dX0_init_4 rfl (lv_at hl 0 rfl) ?_
  refine lv_sipush (v := 240) hx hb dX0_init_5 (by decide) ?_
  refine va_newa (atype := .int) (ty := .int) (a0 := (240, .inl (fun _ => 0))) hx hb (hts (.arrayClass .int) (List.mem_of_getElem? (i := 4) rfl)) rfl hK hP hD hS hA (fun _ => rfl) (by decide) (by decide +kernel) (Nat.le_of_ble_eq_true rfl) (Nat.le_of_ble_eq_true rfl) (Nat.le_of_ble_eq_true rfl) dX0_init_8 (fun q_1 cA_2 H_3 hK hP hD hS => ?_)
  have hP : va_P (dC, dI) vwCl [(h0, .inr (1, [.null, .null, .null, .null, .null, .null, .int 0])), (q_1, .inl (cA_2, 240, .inl (fun _ => 0)))] H_3 := hP
  have hD : va_D A [(h0, .inr (1, [.null, .null, .null, .null, .null, .null, .int 0])), (q_1, .inl (cA_2, 240, .inl (fun _ => 0)))] := hD
  have hK : va_K (dC, dI) vwCl [(cA_2, .int)] s := hK
  refine W.widen (k := 1) (n := 240) (Nat.le_of_ble_eq_true rfl) (Nat.le_of_ble_eq_true rfl) ?_
  refine va_putF (D := (dC, dI)) (ci := 1) (v := .ref q_1) (ty := .array .int) (C := RX0) (T := TX0) (N := 7) hx hb hts in_z_Co_X0 tyX0 tyX0_ok nmX0 hown hK hP hD hS 0 rfl rfl 0 (by decide) (hts (.fieldLink RX0 11 "Selfkindle$Code" "whats" "[I") (List.mem_of_getElem? (i := 5) rfl)) (fun _ h9 => h9) rfl hin rfl (by decide +kernel) rfl rfl (Nat.le_of_ble_eq_true rfl) dX0_init_10 (fun H_4 locs hP hD hS => ?_)
  have hP : va_P (dC, dI) vwCl [(h0, .inr (1, [.ref q_1, .null, .null, .null, .null, .null, .int 0])), (q_1, .inl (cA_2, 240, .inl (fun _ => 0)))] H_4 := hP
  have hD : va_D A [(h0, .inr (1, [.ref q_1, .null, .null, .null, .null, .null, .int 0])), (q_1, .inl (cA_2, 240, .inl (fun _ => 0)))] := hD
  have hK : va_K (dC, dI) vwCl [(cA_2, .int)] s := hK
  have hP := hP.sub (ws' := [(h0, .inr (1, [.ref q_1, .null, .null, .null, .null, .null, .int 0]))]) [0] rfl
  have hD := hD.sub (ws' := [(h0, .inr (1, [.ref q_1, .null, .null, .null, .null, .null, .int 0]))]) [0] (by decide) rfl
  have hK := hK.sub (tys' := []) [] rfl
  have hP : va_P (dC, dI) vwCl [(h0, .inr (1, [.ref q_1, .null, .null, .null, .null, .null, .int 0]))] H_4 := hP
  have hD : va_D A [(h0, .inr (1, [.ref q_1, .null, .null, .null, .null, .null, .int 0]))] := hD
  have hK : va_K (dC, dI) vwCl [] s := hK
  refine lv_aload_n hx hb dX0_init_13 rfl (lv_at hl 0 rfl) ?_
  refine lv_sipush (v := 240) hx hb dX0_init_14 (by decide) ?_
  refine va_newa (atype := .long) (ty := .long) (a0 := (240, .inr (.inl (fun _ => 0)))) hx hb (hts (.arrayClass .long) (List.mem_of_getElem? (i := 6) rfl)) rfl hK hP hD hS hA (fun _ => rfl) (by decide) (by decide +kernel) (Nat.le_of_ble_eq_true rfl) (Nat.le_of_ble_eq_true rfl) (Nat.le_of_ble_eq_true rfl) dX0_init_17 (fun q_5 cA_6 H_7 hK hP hD hS => ?_)
  have hP : va_P (dC, dI) vwCl [(h0, .inr (1, [.ref q_1, .null, .null, .null, .null, .null, .int 0])), (q_5, .inl (cA_6, 240, .inr (.inl (fun _ => 0))))] H_7 := hP
  have hD : va_D A [(h0, .inr (1, [.ref q_1, .null, .null, .null, .null, .null, .int 0])), (q_5, .inl (cA_6, 240, .inr (.inl (fun _ => 0))))] := hD
  have hK : va_K (dC, dI) vwCl [(cA_6, .long)] s := hK
  refine W.widen (k := 2) (n := 480) (Nat.le_of_ble_eq_true rfl) (Nat.le_of_ble_eq_true rfl) ?_
  refine va_putF (D := (dC, dI)) (ci := 1) (v := .ref q_5) (ty := .array .long) (C := RX0) (T := TX0) (N := 7) hx hb hts in_z_Co_X0 tyX0 tyX0_ok nmX0 hown hK hP hD hS 0 rfl rfl 1 (by decide) (hts (.fieldLink RX0 15 "Selfkindle$Code" "numbers" "[J") (List.mem_of_getElem? (i := 7) rfl)) (fun _ h9 => h9) rfl hin rfl (by decide +kernel) rfl rfl (Nat.le_of_ble_eq_true rfl) dX0_init_19 (fun H_8 locs hP hD hS => ?_)
  have hP : va_P (dC, dI) vwCl [(h0, .inr (1, [.ref q_1, .ref q_5, .null, .null, .null, .null, .int 0])), (q_5, .inl (cA_6, 240, .inr (.inl (fun _ => 0))))] H_8 := hP
  have hD : va_D A [(h0, .inr (1, [.ref q_1, .ref q_5, .null, .null, .null, .null, .int 0])), (q_5, .inl (cA_6, 240, .inr (.inl (fun _ => 0))))] := hD
  have hK : va_K (dC, dI) vwCl [(cA_6, .long)] s := hK
  have hP := hP.sub (ws' := [(h0, .inr (1, [.ref q_1, .ref q_5, .null, .null, .null, .null, .int 0]))]) [0] rfl
  have hD := hD.sub (ws' := [(h0, .inr (1, [.ref q_1, .ref q_5, .null, .null, .null, .null, .int 0]))]) [0] (by decide) rfl
  have hK := hK.sub (tys' := []) [] rfl
  have hP : va_P (dC, dI) vwCl [(h0, .inr (1, [.ref q_1, .ref q_5, .null, .null, .null, .null, .int 0]))] H_8 := hP
  have hD : va_D A [(h0, .inr (1, [.ref q_1, .ref q_5, .null, .null, .null, .null, .int 0]))] := hD
  have hK : va_K (dC, dI) vwCl [] s := hK
  refine lv_aload_n hx hb dX0_init_22 rfl (lv_at hl 0 rfl) ?_
  refine lv_sipush (v := 240) hx hb dX0_init_23 (by decide) ?_
  refine va_newa (atype := .int) (ty := .int) (a0 := (240, .inl (fun _ => 0))) hx hb (hts (.arrayClass .int) (List.mem_of_getElem? (i := 4) rfl)) rfl hK hP hD hS hA (fun _ => rfl) (by decide) (by decide +kernel) (Nat.le_of_ble_eq_true rfl) (Nat.le_of_ble_eq_true rfl) (Nat.le_of_ble_eq_true rfl) dX0_init_26 (fun q_9 cA_10 H_11 hK hP hD hS => ?_)
  have hP : va_P (dC, dI) vwCl [(h0, .inr (1, [.ref q_1, .ref q_5, .null, .null, .null, .null, .int 0])), (q_9, .inl (cA_10, 240, .inl (fun _ => 0)))] H_11 := hP
  have hD : va_D A [(h0, .inr (1, [.ref q_1, .ref q_5, .null, .null, .null, .null, .int 0])), (q_9, .inl (cA_10, 240, .inl (fun _ => 0)))] := hD
  have hK : va_K (dC, dI) vwCl [(cA_10, .int)] s := hK
  refine W.widen (k := 3) (n := 720) (Nat.le_of_ble_eq_true rfl) (Nat.le_of_ble_eq_true rfl) ?_
  refine va_putF (D := (dC, dI)) (ci := 1) (v := .ref q_9) (ty := .array .int) (C := RX0) (T := TX0) (N := 7) hx hb hts in_z_Co_X0 tyX0 tyX0_ok nmX0 hown hK hP hD hS 0 rfl rfl 2 (by decide) (hts (.fieldLink RX0 19 "Selfkindle$Code" "times" "[I") (List.mem_of_getElem? (i := 8) rfl)) (fun _ h9 => h9) rfl hin rfl (by decide +kernel) rfl rfl (Nat.le_of_ble_eq_true rfl) dX0_init_28 (fun H_12 locs hP hD hS => ?_)
  have hP : va_P (dC, dI) vwCl [(h0, .inr (1, [.ref q_1, .ref q_5, .ref q_9, .null, .null, .null, .int 0])), (q_9, .inl (cA_10, 240, .inl (fun _ => 0)))] H_12 := hP
  have hD : va_D A [(h0, .inr (1, [.ref q_1, .ref q_5, .ref q_9, .null, .null, .null, .int 0])), (q_9, .inl (cA_10, 240, .inl (fun _ => 0)))] := hD
  have hK : va_K (dC, dI) vwCl [(cA_10, .int)] s := hK
  have hP := hP.sub (ws' := [(h0, .inr (1, [.ref q_1, .ref q_5, .ref q_9, .null, .null, .null, .int 0]))]) [0] rfl
  have hD := hD.sub (ws' := [(h0, .inr (1, [.ref q_1, .ref q_5, .ref q_9, .null, .null, .null, .int 0]))]) [0] (by decide) rfl
  have hK := hK.sub (tys' := []) [] rfl
  have hP : va_P (dC, dI) vwCl [(h0, .inr (1, [.ref q_1, .ref q_5, .ref q_9, .null, .null, .null, .int 0]))] H_12 := hP
  have hD : va_D A [(h0, .inr (1, [.ref q_1, .ref q_5, .ref q_9, .null, .null, .null, .int 0]))] := hD
  have hK : va_K (dC, dI) vwCl [] s := hK
  refine lv_aload_n hx hb dX0_init_31 rfl (lv_at hl 0 rfl) ?_
  refine lv_sipush (v := 240) hx hb dX0_init_32 (by decide) ?_
  refine va_newa (atype := .boolean) (ty := .boolean) (a0 := (240, .inl (fun _ => 0))) hx hb (hts (.arrayClass .boolean) (List.mem_of_getElem? (i := 9) rfl)) rfl hK hP hD hS hA (fun _ => rfl) (by decide) (by decide +kernel) (Nat.le_of_ble_eq_true rfl) (Nat.le_of_ble_eq_true rfl) (Nat.le_of_ble_eq_true rfl) dX0_init_35 (fun q_13 cA_14 H_15 hK hP hD hS => ?_)
  have hP : va_P (dC, dI) vwCl [(h0, .inr (1, [.ref q_1, .ref q_5, .ref q_9, .null, .null, .null, .int 0])), (q_13, .inl (cA_14, 240, .inl (fun _ => 0)))] H_15 := hP
  have hD : va_D A [(h0, .inr (1, [.ref q_1, .ref q_5, .ref q_9, .null, .null, .null, .int 0])), (q_13, .inl (cA_14, 240, .inl (fun _ => 0)))] := hD
  have hK : va_K (dC, dI) vwCl [(cA_14, .boolean)] s := hK
  refine W.widen (k := 4) (n := 960) (Nat.le_of_ble_eq_true rfl) (Nat.le_of_ble_eq_true rfl) ?_
  refine va_putF (D := (dC, dI)) (ci := 1) (v := .ref q_13) (ty := .array .boolean) (C := RX0) (T := TX0) (N := 7) hx hb hts in_z_Co_X0 tyX0 tyX0_ok nmX0 hown hK hP hD hS 0 rfl rfl 3 (by decide) (hts (.fieldLink RX0 22 "Selfkindle$Code" "stops" "[Z") (List.mem_of_getElem? (i := 10) rfl)) (fun _ h9 => h9) rfl hin rfl (by decide +kernel) rfl rfl (Nat.le_of_ble_eq_true rfl) dX0_init_37 (fun H_16 locs hP hD hS => ?_)
  have hP : va_P (dC, dI) vwCl [(h0, .inr (1, [.ref q_1, .ref q_5, .ref q_9, .ref q_13, .null, .null, .int 0])), (q_13, .inl (cA_14, 240, .inl (fun _ => 0)))] H_16 := hP
  have hD : va_D A [(h0, .inr (1, [.ref q_1, .ref q_5, .ref q_9, .ref q_13, .null, .null, .int 0])), (q_13, .inl (cA_14, 240, .inl (fun _ => 0)))] := hD
  have hK : va_K (dC, dI) vwCl [(cA_14, .boolean)] s := hK
  have hP := hP.sub (ws' := [(h0, .inr (1, [.ref q_1, .ref q_5, .ref q_9, .ref q_13, .null, .null, .int 0]))]) [0] rfl
  have hD := hD.sub (ws' := [(h0, .inr (1, [.ref q_1, .ref q_5, .ref q_9, .ref q_13, .null, .null, .int 0]))]) [0] (by decide) rfl
  have hK := hK.sub (tys' := []) [] rfl
  have hP : va_P (dC, dI) vwCl [(h0, .inr (1, [.ref q_1, .ref q_5, .ref q_9, .ref q_13, .null, .null, .int 0]))] H_16 := hP
  have hD : va_D A [(h0, .inr (1, [.ref q_1, .ref q_5, .ref q_9, .ref q_13, .null, .null, .int 0]))] := hD
  have hK : va_K (dC, dI) vwCl [] s := hK
  refine lv_aload_n hx hb dX0_init_40 rfl (lv_at hl 0 rfl) ?_
  refine lv_bipush (v := 60) hx hb dX0_init_41 (by decide) ?_
  refine va_newa (atype := .int) (ty := .int) (a0 := (60, .inl (fun _ => 0))) hx hb (hts (.arrayClass .int) (List.mem_of_getElem? (i := 4) rfl)) rfl hK hP hD hS hA (fun _ => rfl) (by decide) (by decide +kernel) (Nat.le_of_ble_eq_true rfl) (Nat.le_of_ble_eq_true rfl) (Nat.le_of_ble_eq_true rfl) dX0_init_43 (fun q_17 cA_18 H_19 hK hP hD hS => ?_)
  have hP : va_P (dC, dI) vwCl [(h0, .inr (1, [.ref q_1, .ref q_5, .ref q_9, .ref q_13, .null, .null, .int 0])), (q_17, .inl (cA_18, 60, .inl (fun _ => 0)))] H_19 := hP
  have hD : va_D A [(h0, .inr (1, [.ref q_1, .ref q_5, .ref q_9, .ref q_13, .null, .null, .int 0])), (q_17, .inl (cA_18, 60, .inl (fun _ => 0)))] := hD
  have hK : va_K (dC, dI) vwCl [(cA_18, .int)] s := hK
  refine W.widen (k := 5) (n := 1020) (Nat.le_of_ble_eq_true rfl) (Nat.le_of_ble_eq_true rfl) ?_
  refine va_putF (D := (dC, dI)) (ci := 1) (v := .ref q_17) (ty := .array .int) (C := RX0) (T := TX0) (N := 7) hx hb hts in_z_Co_X0 tyX0 tyX0_ok nmX0 hown hK hP hD hS 0 rfl rfl 4 (by decide) (hts (.fieldLink RX0 26 "Selfkindle$Code" "lengths" "[I") (List.mem_of_getElem? (i := 11) rfl)) (fun _ h9 => h9) rfl hin rfl (by decide +kernel) rfl rfl (Nat.le_of_ble_eq_true rfl) dX0_init_45 (fun H_20 locs hP hD hS => ?_)
  have hP : va_P (dC, dI) vwCl [(h0, .inr (1, [.ref q_1, .ref q_5, .ref q_9, .ref q_13, .ref q_17, .null, .int 0])), (q_17, .inl (cA_18, 60, .inl (fun _ => 0)))] H_20 := hP
  have hD : va_D A [(h0, .inr (1, [.ref q_1, .ref q_5, .ref q_9, .ref q_13, .ref q_17, .null, .int 0])), (q_17, .inl (cA_18, 60, .inl (fun _ => 0)))] := hD
  have hK : va_K (dC, dI) vwCl [(cA_18, .int)] s := hK
  have hP := hP.sub (ws' := [(h0, .inr (1, [.ref q_1, .ref q_5, .ref q_9, .ref q_13, .ref q_17, .null, .int 0]))]) [0] rfl
  have hD := hD.sub (ws' := [(h0, .inr (1, [.ref q_1, .ref q_5, .ref q_9, .ref q_13, .ref q_17, .null, .int 0]))]) [0] (by decide) rfl
  have hK := hK.sub (tys' := []) [] rfl
  have hP : va_P (dC, dI) vwCl [(h0, .inr (1, [.ref q_1, .ref q_5, .ref q_9, .ref q_13, .ref q_17, .null, .int 0]))] H_20 := hP
  have hD : va_D A [(h0, .inr (1, [.ref q_1, .ref q_5, .ref q_9, .ref q_13, .ref q_17, .null, .int 0]))] := hD
  have hK : va_K (dC, dI) vwCl [] s := hK
  refine lv_aload_n hx hb dX0_init_48 rfl (lv_at hl 0 rfl) ?_
  refine lv_bipush (v := 60) hx hb dX0_init_49 (by decide) ?_
  refine va_newa (atype := .int) (ty := .int) (a0 := (60, .inl (fun _ => 0))) hx hb (hts (.arrayClass .int) (List.mem_of_getElem? (i := 4) rfl)) rfl hK hP hD hS hA (fun _ => rfl) (by decide) (by decide +kernel) (Nat.le_of_ble_eq_true rfl) (Nat.le_of_ble_eq_true rfl) (Nat.le_of_ble_eq_true rfl) dX0_init_51 (fun q_21 cA_22 H_23 hK hP hD hS => ?_)
  have hP : va_P (dC, dI) vwCl [(h0, .inr (1, [.ref q_1, .ref q_5, .ref q_9, .ref q_13, .ref q_17, .null, .int 0])), (q_21, .inl (cA_22, 60, .inl (fun _ => 0)))] H_23 := hP
  have hD : va_D A [(h0, .inr (1, [.ref q_1, .ref q_5, .ref q_9, .ref q_13, .ref q_17, .null, .int 0])), (q_21, .inl (cA_22, 60, .inl (fun _ => 0)))] := hD
  have hK : va_K (dC, dI) vwCl [(cA_22, .int)] s := hK
  refine W.widen (k := 6) (n := 1080) (Nat.le_of_ble_eq_true rfl) (Nat.le_of_ble_eq_true rfl) ?_
  refine va_putF (D := (dC, dI)) (ci := 1) (v := .ref q_21) (ty := .array .int) (C := RX0) (T := TX0) (N := 7) hx hb hts in_z_Co_X0 tyX0 tyX0_ok nmX0 hown hK hP hD hS 0 rfl rfl 5 (by decide) (hts (.fieldLink RX0 29 "Selfkindle$Code" "places" "[I") (List.mem_of_getElem? (i := 12) rfl)) (fun _ h9 => h9) rfl hin rfl (by decide +kernel) rfl rfl (Nat.le_of_ble_eq_true rfl) dX0_init_53 (fun H_24 locs hP hD hS => ?_)
  have hP : va_P (dC, dI) vwCl [(h0, .inr (1, [.ref q_1, .ref q_5, .ref q_9, .ref q_13, .ref q_17, .ref q_21, .int 0])), (q_21, .inl (cA_22, 60, .inl (fun _ => 0)))] H_24 := hP
  have hD : va_D A [(h0, .inr (1, [.ref q_1, .ref q_5, .ref q_9, .ref q_13, .ref q_17, .ref q_21, .int 0])), (q_21, .inl (cA_22, 60, .inl (fun _ => 0)))] := hD
  have hK : va_K (dC, dI) vwCl [(cA_22, .int)] s := hK
  have hP := hP.sub (ws' := [(h0, .inr (1, [.ref q_1, .ref q_5, .ref q_9, .ref q_13, .ref q_17, .ref q_21, .int 0]))]) [0] rfl
  have hD := hD.sub (ws' := [(h0, .inr (1, [.ref q_1, .ref q_5, .ref q_9, .ref q_13, .ref q_17, .ref q_21, .int 0]))]) [0] (by decide) rfl
  have hK := hK.sub (tys' := []) [] rfl
  have hP : va_P (dC, dI) vwCl [(h0, .inr (1, [.ref q_1, .ref q_5, .ref q_9, .ref q_13, .ref q_17, .ref q_21, .int 0]))] H_24 := hP
  have hD : va_D A [(h0, .inr (1, [.ref q_1, .ref q_5, .ref q_9, .ref q_13, .ref q_17, .ref q_21, .int 0]))] := hD
  have hK : va_K (dC, dI) vwCl [] s := hK
  refine W.widen (k := 6) (n := 1080) (Nat.le_of_ble_eq_true rfl) (Nat.le_of_ble_eq_true rfl) ?_
  exact W.vret hx hb hr (fun t ht hW => ⟨⟨(), rfl, trivial, trivial⟩, hS.F ht⟩) hS.2.2 dX0_init_56

set_option maxRecDepth 20000 in
def z_He2000 : List Cond := .code yX1_init cX1_init 2 none :: (([.methodLink RX1 3 objectInit, .instanceMethod objectInit, .code objectInit ⟨#[0xb1]⟩ 1 none, .fieldLink RX1 9 "Selfkindle$Heap" "room" "I", .arrayClass .int, .fieldLink RX1 15 "Selfkindle$Heap" "kinds" "[I", .arrayClass .long, .fieldLink RX1 19 "Selfkindle$Heap" "numbers" "[J", .fieldLink RX1 23 "Selfkindle$Heap" "firsts" "[I", .fieldLink RX1 26 "Selfkindle$Heap" "seconds" "[I", .fieldLink RX1 29 "Selfkindle$Heap" "bound" "[I", .fieldLink RX1 32 "Selfkindle$Heap" "outers" "[I", .fieldLink RX1 35 "Selfkindle$Heap" "depths" "[I"] : List Cond) ++ wsX10)
theorem in_z_He2000_X1 : ∀ w ∈ wsX10, w ∈ z_He2000 := fun w h => List.mem_cons_of_mem _ (List.mem_append_right _ (h))
set_option maxHeartbeats 4000000 in
set_option maxRecDepth 100000 in
/-- Heap(2000) -/
theorem c_He2000 (l : Launch) (dC : Nat → ClassId) (dI : Nat → Nat → Nat) (tp te : Nat) (sz : Nat) (h0 : Nat)  : Met l yX1_init z_He2000 ({ frames := 1, cells := 7, slots := 14000, locals := 12 }) (va_Pc [.ref h0, .int 2000] (Pw dC dI [(h0, .inr (2, [.int 0, .null, .null, .null, .null, .int 0, .null, .null, .null, .int 0]))] [] sz tp te)) (va_Qv (fun (_ : Unit) => True) (fun (_ : Unit) (_ : State) => True) (va_A [(h0, .inr (2, [.int 0, .null, .null, .null, .null, .int 0, .null, .null, .null, .int 0]))] sz)) 7 14000 (va_A [(h0, .inr (2, [.int 0, .null, .null, .null, .null, .int 0, .null, .null, .null, .int 0]))] sz) := by
  refine Met.ofW (cc := cX1_init) (maxL := 2) (ret := none) (by decide) rfl ?_
  intro p e s m args below meth c s₁ B hml hv
  obtain ⟨rfl, hsz, hP, hK, hD0, hG⟩ := hv
  have hx := B.exec
  have hb := B.bytes
  have hr := B.returns
  have hts := atoms_spec (ws := z_He2000) B.pre
  have hown : s.vm.findClass RX1 = some m.cls := findClass_of_methodNamed B.named
  have hlocks := B.notSynchronized
  have hin : meth.name = "<init>" := (name_of_methodNamed B.named B.method).1
  subst hsz
  have hD := hD0.self (sz := s.heap.size)
  generalize hAe : va_A [(h0, .inr (2, [.int 0, .null, .null, .null, .null, .int 0, .null, .null, .null, .int 0]))] s.heap.size = A at hD hG ⊢
  have hA : ∀ q : Nat, s.heap.size ≤ q → A q := fun q h => by rw [← hAe]; exact Or.inr h
  have hS : va_S A s.heap s.heap [] := va_S.rf
  have hl := lv_entry ([.ref h0, .int 2000]) (n := 2) (Nat.le_of_ble_eq_true rfl)
  rw [lg_entry_eq]
  generalize (lg_sl ([.ref h0, .int 2000]) ++ List.replicate (2 - (lg_sl ([.ref h0, .int 2000])).length) Slot.unset).toArray = ls at hl ⊢
  have hl : lv_has ls 2 [(0, .ref h0), (1, .int 2000)] := hl
  refine lv_aload_n hx hb dX1_init_0 rfl (lv_at hl 0 rfl) ?_
  refine W.objInit hx hb hown (hts (.methodLink RX1 3 objectInit) (List.mem_of_getElem? (i := 1) rfl)) (hts (.instanceMethod objectInit) (List.mem_of_getElem? (i := 2) rfl)) (hts _ (List.mem_of_getElem? (i := 3) rfl)) rfl (by rw [hml]; exact hl.1) rfl dX1_init_1 (Nat.le_of_ble_eq_true rfl) (Nat.le_of_ble_eq_true rfl) ?_
  refine W.eq (g2 := F0 m 4 ls []) rfl ?_
  refine lv_aload_n hx hb dX1_init_4 rfl (lv_at hl 0 rfl) ?_
  refine lv_iload_n hx hb dX1_init_5 rfl (lv_at hl 1 rfl) ?_
  refine lv_if_le (tgt := 13) hx hb dX1_init_6 (by decide) (fun c9 => absurd c9 (by decide)) (fun c9 => ?_)
  refine lv_iload_n hx hb dX1_init_9 rfl (lv_at hl 1 rfl) ?_
  refine lv_goto (tgt := 14) hx hb dX1_init_10 (by decide) ?_
  refine va_putF (D := (dC, dI)) (ci := 2) (v := .int 2000) (ty := .int) (C := RX1) (T := TX1) (N := 10) hx hb hts in_z_He2000_X1 tyX1 tyX1_ok nmX1 hown hK hP hD hS 0 rfl rfl 0 (by decide) (hts (.fieldLink RX1 9 "Selfkindle$Heap" "room" "I") (List.mem_of_getElem? (i := 4) rfl)) (fun _ h9 => h9) rfl hin rfl (by decide +kernel) rfl rfl (Nat.le_of_ble_eq_true rfl) dX1_init_14 (fun H_1 locs hP hD hS => ?_)
  have hP : va_P (dC, dI) vwCl [(h0, .inr (2, [.int 2000, .null, .null, .null, .null, .int 0, .null, .null, .null, .int 0]))] H_1 := hP
  have hD : va_D A [(h0, .inr (2, [.int 2000, .null, .null, .null, .null, .int 0, .null, .null, .null, .int 0]))] := hD
  have hK : va_K (dC, dI) vwCl [] s := hK
  refine lv_aload_n hx hb dX1_init_17 rfl (lv_at hl 0 rfl) ?_
  refine lv_aload_n hx hb dX1_init_18 rfl (lv_at hl 0 rfl) ?_
  refine va_get (D := (dC, dI)) (ci := 2) (v := .int 2000) (C := RX1) (T := TX1) (N := 10) hx hb hts in_z_He2000_X1 hown hK hP 0 rfl rfl 0 (by decide) (hts (.fieldLink RX1 9 "Selfkindle$Heap" "room" "I") (List.mem_of_getElem? (i := 4) rfl)) (fun _ h9 => h9) rfl dX1_init_19 ?_
  refine va_newa (atype := .int) (ty := .int) (a0 := (2000, .inl (fun _ => 0))) hx hb (hts (.arrayClass .int) (List.mem_of_getElem? (i := 5) rfl)) rfl hK hP hD hS hA (fun _ => rfl) (by decide) (by decide +kernel) (Nat.le_of_ble_eq_true rfl) (Nat.le_of_ble_eq_true rfl) (Nat.le_of_ble_eq_true rfl) dX1_init_22 (fun q_2 cA_3 H_4 hK hP hD hS => ?_)
  have hP : va_P (dC, dI) vwCl [(h0, .inr (2, [.int 2000, .null, .null, .null, .null, .int 0, .null, .null, .null, .int 0])), (q_2, .inl (cA_3, 2000, .inl (fun _ => 0)))] H_4 := hP
  have hD : va_D A [(h0, .inr (2, [.int 2000, .null, .null, .null, .null, .int 0, .null, .null, .null, .int 0])), (q_2, .inl (cA_3, 2000, .inl (fun _ => 0)))] := hD
  have hK : va_K (dC, dI) vwCl [(cA_3, .int)] s := hK
  refine W.widen (k := 1) (n := 2000) (Nat.le_of_ble_eq_true rfl) (Nat.le_of_ble_eq_true rfl) ?_
  refine va_putF (D := (dC, dI)) (ci := 2) (v := .ref q_2) (ty := .array .int) (C := RX1) (T := TX1) (N := 10) hx hb hts in_z_He2000_X1 tyX1 tyX1_ok nmX1 hown hK hP hD hS 0 rfl rfl 1 (by decide) (hts (.fieldLink RX1 15 "Selfkindle$Heap" "kinds" "[I") (List.mem_of_getElem? (i := 6) rfl)) (fun _ h9 => h9) rfl hin rfl (by decide +kernel) rfl rfl (Nat.le_of_ble_eq_true rfl) dX1_init_24 (fun H_5 locs hP hD hS => ?_)
  have hP : va_P (dC, dI) vwCl [(h0, .inr (2, [.int 2000, .ref q_2, .null, .null, .null, .int 0, .null, .null, .null, .int 0])), (q_2, .inl (cA_3, 2000, .inl (fun _ => 0)))] H_5 := hP
  have hD : va_D A [(h0, .inr (2, [.int 2000, .ref q_2, .null, .null, .null, .int 0, .null, .null, .null, .int 0])), (q_2, .inl (cA_3, 2000, .inl (fun _ => 0)))] := hD
  have hK : va_K (dC, dI) vwCl [(cA_3, .int)] s := hK
  have hP := hP.sub (ws' := [(h0, .inr (2, [.int 2000, .ref q_2, .null, .null, .null, .int 0, .null, .null, .null, .int 0]))]) [0] rfl
  have hD := hD.sub (ws' := [(h0, .inr (2, [.int 2000, .ref q_2, .null, .null, .null, .int 0, .null, .null, .null, .int 0]))]) [0] (by decide) rfl
  have hK := hK.sub (tys' := []) [] rfl
  have hP : va_P (dC, dI) vwCl [(h0, .inr (2, [.int 2000, .ref q_2, .null, .null, .null, .int 0, .null, .null, .null, .int 0]))] H_5 := hP
  have hD : va_D A [(h0, .inr (2, [.int 2000, .ref q_2, .null, .null, .null, .int 0, .null, .null, .null, .int 0]))] := hD
  have hK : va_K (dC, dI) vwCl [] s := hK
  refine lv_aload_n hx hb dX1_init_27 rfl (lv_at hl 0 rfl) ?_
  refine lv_aload_n hx hb dX1_init_28 rfl (lv_at hl 0 rfl) ?_
  refine va_get (D := (dC, dI)) (ci := 2) (v := .int 2000) (C := RX1) (T := TX1) (N := 10) hx hb hts in_z_He2000_X1 hown hK hP 0 rfl rfl 0 (by decide) (hts (.fieldLink RX1 9 "Selfkindle$Heap" "room" "I") (List.mem_of_getElem? (i := 4) rfl)) (fun _ h9 => h9) rfl dX1_init_29 ?_
  refine va_newa (atype := .long) (ty := .long) (a0 := (2000, .inr (.inl (fun _ => 0)))) hx hb (hts (.arrayClass .long) (List.mem_of_getElem? (i := 7) rfl)) rfl hK hP hD hS hA (fun _ => rfl) (by decide) (by decide +kernel) (Nat.le_of_ble_eq_true rfl) (Nat.le_of_ble_eq_true rfl) (Nat.le_of_ble_eq_true rfl) dX1_init_32 (fun q_6 cA_7 H_8 hK hP hD hS => ?_)
  have hP : va_P (dC, dI) vwCl [(h0, .inr (2, [.int 2000, .ref q_2, .null, .null, .null, .int 0, .null, .null, .null, .int 0])), (q_6, .inl (cA_7, 2000, .inr (.inl (fun _ => 0))))] H_8 := hP
  have hD : va_D A [(h0, .inr (2, [.int 2000, .ref q_2, .null, .null, .null, .int 0, .null, .null, .null, .int 0])), (q_6, .inl (cA_7, 2000, .inr (.inl (fun _ => 0))))] := hD
  have hK : va_K (dC, dI) vwCl [(cA_7, .long)] s := hK
  refine W.widen (k := 2) (n := 4000) (Nat.le_of_ble_eq_true rfl) (Nat.le_of_ble_eq_true rfl) ?_
  refine va_putF (D := (dC, dI)) (ci := 2) (v := .ref q_6) (ty := .array .long) (C := RX1) (T := TX1) (N := 10) hx hb hts in_z_He2000_X1 tyX1 tyX1_ok nmX1 hown hK hP hD hS 0 rfl rfl 2 (by decide) (hts (.fieldLink RX1 19 "Selfkindle$Heap" "numbers" "[J") (List.mem_of_getElem? (i := 8) rfl)) (fun _ h9 => h9) rfl hin rfl (by decide +kernel) rfl rfl (Nat.le_of_ble_eq_true rfl) dX1_init_34 (fun H_9 locs hP hD hS => ?_)
  have hP : va_P (dC, dI) vwCl [(h0, .inr (2, [.int 2000, .ref q_2, .ref q_6, .null, .null, .int 0, .null, .null, .null, .int 0])), (q_6, .inl (cA_7, 2000, .inr (.inl (fun _ => 0))))] H_9 := hP
  have hD : va_D A [(h0, .inr (2, [.int 2000, .ref q_2, .ref q_6, .null, .null, .int 0, .null, .null, .null, .int 0])), (q_6, .inl (cA_7, 2000, .inr (.inl (fun _ => 0))))] := hD
  have hK : va_K (dC, dI) vwCl [(cA_7, .long)] s := hK
  have hP := hP.sub (ws' := [(h0, .inr (2, [.int 2000, .ref q_2, .ref q_6, .null, .null, .int 0, .null, .null, .null, .int 0]))]) [0] rfl
  have hD := hD.sub (ws' := [(h0, .inr (2, [.int 2000, .ref q_2, .ref q_6, .null, .null, .int 0, .null, .null, .null, .int 0]))]) [0] (by decide) rfl
  have hK := hK.sub (tys' := []) [] rfl
  have hP : va_P (dC, dI) vwCl [(h0, .inr (2, [.int 2000, .ref q_2, .ref q_6, .null, .null, .int 0, .null, .null, .null, .int 0]))] H_9 := hP
  have hD : va_D A [(h0, .inr (2, [.int 2000, .ref q_2, .ref q_6, .null, .null, .int 0, .null, .null, .null, .int 0]))] := hD
  have hK : va_K (dC, dI) vwCl [] s := hK
  refine lv_aload_n hx hb dX1_init_37 rfl (lv_at hl 0 rfl) ?_
  refine lv_aload_n hx hb dX1_init_38 rfl (lv_at hl 0 rfl) ?_
  refine va_get (D := (dC, dI)) (ci := 2) (v := .int 2000) (C := RX1) (T := TX1) (N := 10) hx hb hts in_z_He2000_X1 hown hK hP 0 rfl rfl 0 (by decide) (hts (.fieldLink RX1 9 "Selfkindle$Heap" "room" "I") (List.mem_of_getElem? (i := 4) rfl)) (fun _ h9 => h9) rfl dX1_init_39 ?_
  refine va_newa (atype := .int) (ty := .int) (a0 := (2000, .inl (fun _ => 0))) hx hb (hts (.arrayClass .int) (List.mem_of_getElem? (i := 5) rfl)) rfl hK hP hD hS hA (fun _ => rfl) (by decide) (by decide +kernel) (Nat.le_of_ble_eq_true rfl) (Nat.le_of_ble_eq_true rfl) (Nat.le_of_ble_eq_true rfl) dX1_init_42 (fun q_10 cA_11 H_12 hK hP hD hS => ?_)
  have hP : va_P (dC, dI) vwCl [(h0, .inr (2, [.int 2000, .ref q_2, .ref q_6, .null, .null, .int 0, .null, .null, .null, .int 0])), (q_10, .inl (cA_11, 2000, .inl (fun _ => 0)))] H_12 := hP
  have hD : va_D A [(h0, .inr (2, [.int 2000, .ref q_2, .ref q_6, .null, .null, .int 0, .null, .null, .null, .int 0])), (q_10, .inl (cA_11, 2000, .inl (fun _ => 0)))] := hD
  have hK : va_K (dC, dI) vwCl [(cA_11, .int)] s := hK
  refine W.widen (k := 3) (n := 6000) (Nat.le_of_ble_eq_true rfl) (Nat.le_of_ble_eq_true rfl) ?_
  refine va_putF (D := (dC, dI)) (ci := 2) (v := .ref q_10) (ty := .array .int) (C := RX1) (T := TX1) (N := 10) hx hb hts in_z_He2000_X1 tyX1 tyX1_ok nmX1 hown hK hP hD hS 0 rfl rfl 3 (by decide) (hts (.fieldLink RX1 23 "Selfkindle$Heap" "firsts" "[I") (List.mem_of_getElem? (i := 9) rfl)) (fun _ h9 => h9) rfl hin rfl (by decide +kernel) rfl rfl (Nat.le_of_ble_eq_true rfl) dX1_init_44 (fun H_13 locs hP hD hS => ?_)
  have hP : va_P (dC, dI) vwCl [(h0, .inr (2, [.int 2000, .ref q_2, .ref q_6, .ref q_10, .null, .int 0, .null, .null, .null, .int 0])), (q_10, .inl (cA_11, 2000, .inl (fun _ => 0)))] H_13 := hP
  have hD : va_D A [(h0, .inr (2, [.int 2000, .ref q_2, .ref q_6, .ref q_10, .null, .int 0, .null, .null, .null, .int 0])), (q_10, .inl (cA_11, 2000, .inl (fun _ => 0)))] := hD
  have hK : va_K (dC, dI) vwCl [(cA_11, .int)] s := hK
  have hP := hP.sub (ws' := [(h0, .inr (2, [.int 2000, .ref q_2, .ref q_6, .ref q_10, .null, .int 0, .null, .null, .null, .int 0]))]) [0] rfl
  have hD := hD.sub (ws' := [(h0, .inr (2, [.int 2000, .ref q_2, .ref q_6, .ref q_10, .null, .int 0, .null, .null, .null, .int 0]))]) [0] (by decide) rfl
  have hK := hK.sub (tys' := []) [] rfl
  have hP : va_P (dC, dI) vwCl [(h0, .inr (2, [.int 2000, .ref q_2, .ref q_6, .ref q_10, .null, .int 0, .null, .null, .null, .int 0]))] H_13 := hP
  have hD : va_D A [(h0, .inr (2, [.int 2000, .ref q_2, .ref q_6, .ref q_10, .null, .int 0, .null, .null, .null, .int 0]))] := hD
  have hK : va_K (dC, dI) vwCl [] s := hK
  refine lv_aload_n hx hb dX1_init_47 rfl (lv_at hl 0 rfl) ?_
  refine lv_aload_n hx hb dX1_init_48 rfl (lv_at hl 0 rfl) ?_
  refine va_get (D := (dC, dI)) (ci := 2) (v := .int 2000) (C := RX1) (T := TX1) (N := 10) hx hb hts in_z_He2000_X1 hown hK hP 0 rfl rfl 0 (by decide) (hts (.fieldLink RX1 9 "Selfkindle$Heap" "room" "I") (List.mem_of_getElem? (i := 4) rfl)) (fun _ h9 => h9) rfl dX1_init_49 ?_
  refine va_newa (atype := .int) (ty := .int) (a0 := (2000, .inl (fun _ => 0))) hx hb (hts (.arrayClass .int) (List.mem_of_getElem? (i := 5) rfl)) rfl hK hP hD hS hA (fun _ => rfl) (by decide) (by decide +kernel) (Nat.le_of_ble_eq_true rfl) (Nat.le_of_ble_eq_true rfl) (Nat.le_of_ble_eq_true rfl) dX1_init_52 (fun q_14 cA_15 H_16 hK hP hD hS => ?_)
  have hP : va_P (dC, dI) vwCl [(h0, .inr (2, [.int 2000, .ref q_2, .ref q_6, .ref q_10, .null, .int 0, .null, .null, .null, .int 0])), (q_14, .inl (cA_15, 2000, .inl (fun _ => 0)))] H_16 := hP
  have hD : va_D A [(h0, .inr (2, [.int 2000, .ref q_2, .ref q_6, .ref q_10, .null, .int 0, .null, .null, .null, .int 0])), (q_14, .inl (cA_15, 2000, .inl (fun _ => 0)))] := hD
  have hK : va_K (dC, dI) vwCl [(cA_15, .int)] s := hK
  refine W.widen (k := 4) (n := 8000) (Nat.le_of_ble_eq_true rfl) (Nat.le_of_ble_eq_true rfl) ?_
  refine va_putF (D := (dC, dI)) (ci := 2) (v := .ref q_14) (ty := .array .int) (C := RX1) (T := TX1) (N := 10) hx hb hts in_z_He2000_X1 tyX1 tyX1_ok nmX1 hown hK hP hD hS 0 rfl rfl 4 (by decide) (hts (.fieldLink RX1 26 "Selfkindle$Heap" "seconds" "[I") (List.mem_of_getElem? (i := 10) rfl)) (fun _ h9 => h9) rfl hin rfl (by decide +kernel) rfl rfl (Nat.le_of_ble_eq_true rfl) dX1_init_54 (fun H_17 locs hP hD hS => ?_)
  have hP : va_P (dC, dI) vwCl [(h0, .inr (2, [.int 2000, .ref q_2, .ref q_6, .ref q_10, .ref q_14, .int 0, .null, .null, .null, .int 0])), (q_14, .inl (cA_15, 2000, .inl (fun _ => 0)))] H_17 := hP
  have hD : va_D A [(h0, .inr (2, [.int 2000, .ref q_2, .ref q_6, .ref q_10, .ref q_14, .int 0, .null, .null, .null, .int 0])), (q_14, .inl (cA_15, 2000, .inl (fun _ => 0)))] := hD
  have hK : va_K (dC, dI) vwCl [(cA_15, .int)] s := hK
  have hP := hP.sub (ws' := [(h0, .inr (2, [.int 2000, .ref q_2, .ref q_6, .ref q_10, .ref q_14, .int 0, .null, .null, .null, .int 0]))]) [0] rfl
  have hD := hD.sub (ws' := [(h0, .inr (2, [.int 2000, .ref q_2, .ref q_6, .ref q_10, .ref q_14, .int 0, .null, .null, .null, .int 0]))]) [0] (by decide) rfl
  have hK := hK.sub (tys' := []) [] rfl
  have hP : va_P (dC, dI) vwCl [(h0, .inr (2, [.int 2000, .ref q_2, .ref q_6, .ref q_10, .ref q_14, .int 0, .null, .null, .null, .int 0]))] H_17 := hP
  have hD : va_D A [(h0, .inr (2, [.int 2000, .ref q_2, .ref q_6, .ref q_10, .ref q_14, .int 0, .null, .null, .null, .int 0]))] := hD
  have hK : va_K (dC, dI) vwCl [] s := hK
  refine lv_aload_n hx hb dX1_init_57 rfl (lv_at hl 0 rfl) ?_
  refine lv_aload_n hx hb dX1_init_58 rfl (lv_at hl 0 rfl) ?_
  refine va_get (D := (dC, dI)) (ci := 2) (v := .int 2000) (C := RX1) (T := TX1) (N := 10) hx hb hts in_z_He2000_X1 hown hK hP 0 rfl rfl 0 (by decide) (hts (.fieldLink RX1 9 "Selfkindle$Heap" "room" "I") (List.mem_of_getElem? (i := 4) rfl)) (fun _ h9 => h9) rfl dX1_init_59 ?_
  refine va_newa (atype := .int) (ty := .int) (a0 := (2000, .inl (fun _ => 0))) hx hb (hts (.arrayClass .int) (List.mem_of_getElem? (i := 5) rfl)) rfl hK hP hD hS hA (fun _ => rfl) (by decide) (by decide +kernel) (Nat.le_of_ble_eq_true rfl) (Nat.le_of_ble_eq_true rfl) (Nat.le_of_ble_eq_true rfl) dX1_init_62 (fun q_18 cA_19 H_20 hK hP hD hS => ?_)
  have hP : va_P (dC, dI) vwCl [(h0, .inr (2, [.int 2000, .ref q_2, .ref q_6, .ref q_10, .ref q_14, .int 0, .null, .null, .null, .int 0])), (q_18, .inl (cA_19, 2000, .inl (fun _ => 0)))] H_20 := hP
  have hD : va_D A [(h0, .inr (2, [.int 2000, .ref q_2, .ref q_6, .ref q_10, .ref q_14, .int 0, .null, .null, .null, .int 0])), (q_18, .inl (cA_19, 2000, .inl (fun _ => 0)))] := hD
  have hK : va_K (dC, dI) vwCl [(cA_19, .int)] s := hK
  refine W.widen (k := 5) (n := 10000) (Nat.le_of_ble_eq_true rfl) (Nat.le_of_ble_eq_true rfl) ?_
  refine va_putF (D := (dC, dI)) (ci := 2) (v := .ref q_18) (ty := .array .int) (C := RX1) (T := TX1) (N := 10) hx hb hts in_z_He2000_X1 tyX1 tyX1_ok nmX1 hown hK hP hD hS 0 rfl rfl 6 (by decide) (hts (.fieldLink RX1 29 "Selfkindle$Heap" "bound" "[I") (List.mem_of_getElem? (i := 11) rfl)) (fun _ h9 => h9) rfl hin rfl (by decide +kernel) rfl rfl (Nat.le_of_ble_eq_true rfl) dX1_init_64 (fun H_21 locs hP hD hS => ?_)
  have hP : va_P (dC, dI) vwCl [(h0, .inr (2, [.int 2000, .ref q_2, .ref q_6, .ref q_10, .ref q_14, .int 0, .ref q_18, .null, .null, .int 0])), (q_18, .inl (cA_19, 2000, .inl (fun _ => 0)))] H_21 := hP
  have hD : va_D A [(h0, .inr (2, [.int 2000, .ref q_2, .ref q_6, .ref q_10, .ref q_14, .int 0, .ref q_18, .null, .null, .int 0])), (q_18, .inl (cA_19, 2000, .inl (fun _ => 0)))] := hD
  have hK : va_K (dC, dI) vwCl [(cA_19, .int)] s := hK
  have hP := hP.sub (ws' := [(h0, .inr (2, [.int 2000, .ref q_2, .ref q_6, .ref q_10, .ref q_14, .int 0, .ref q_18, .null, .null, .int 0]))]) [0] rfl
  have hD := hD.sub (ws' := [(h0, .inr (2, [.int 2000, .ref q_2, .ref q_6, .ref q_10, .ref q_14, .int 0, .ref q_18, .null, .null, .int 0]))]) [0] (by decide) rfl
  have hK := hK.sub (tys' := []) [] rfl
  have hP : va_P (dC, dI) vwCl [(h0, .inr (2, [.int 2000, .ref q_2, .ref q_6, .ref q_10, .ref q_14, .int 0, .ref q_18, .null, .null, .int 0]))] H_21 := hP
  have hD : va_D A [(h0, .inr (2, [.int 2000, .ref q_2, .ref q_6, .ref q_10, .ref q_14, .int 0, .ref q_18, .null, .null, .int 0]))] := hD
  have hK : va_K (dC, dI) vwCl [] s := hK
  refine lv_aload_n hx hb dX1_init_67 rfl (lv_at hl 0 rfl) ?_
  refine lv_aload_n hx hb dX1_init_68 rfl (lv_at hl 0 rfl) ?_
  refine va_get (D := (dC, dI)) (ci := 2) (v := .int 2000) (C := RX1) (T := TX1) (N := 10) hx hb hts in_z_He2000_X1 hown hK hP 0 rfl rfl 0 (by decide) (hts (.fieldLink RX1 9 "Selfkindle$Heap" "room" "I") (List.mem_of_getElem? (i := 4) rfl)) (fun _ h9 => h9) rfl dX1_init_69 ?_
  refine va_newa (atype := .int) (ty := .int) (a0 := (2000, .inl (fun _ => 0))) hx hb (hts (.arrayClass .int) (List.mem_of_getElem? (i := 5) rfl)) rfl hK hP hD hS hA (fun _ => rfl) (by decide) (by decide +kernel) (Nat.le_of_ble_eq_true rfl) (Nat.le_of_ble_eq_true rfl) (Nat.le_of_ble_eq_true rfl) dX1_init_72 (fun q_22 cA_23 H_24 hK hP hD hS => ?_)
  have hP : va_P (dC, dI) vwCl [(h0, .inr (2, [.int 2000, .ref q_2, .ref q_6, .ref q_10, .ref q_14, .int 0, .ref q_18, .null, .null, .int 0])), (q_22, .inl (cA_23, 2000, .inl (fun _ => 0)))] H_24 := hP
  have hD : va_D A [(h0, .inr (2, [.int 2000, .ref q_2, .ref q_6, .ref q_10, .ref q_14, .int 0, .ref q_18, .null, .null, .int 0])), (q_22, .inl (cA_23, 2000, .inl (fun _ => 0)))] := hD
  have hK : va_K (dC, dI) vwCl [(cA_23, .int)] s := hK
  refine W.widen (k := 6) (n := 12000) (Nat.le_of_ble_eq_true rfl) (Nat.le_of_ble_eq_true rfl) ?_
  refine va_putF (D := (dC, dI)) (ci := 2) (v := .ref q_22) (ty := .array .int) (C := RX1) (T := TX1) (N := 10) hx hb hts in_z_He2000_X1 tyX1 tyX1_ok nmX1 hown hK hP hD hS 0 rfl rfl 7 (by decide) (hts (.fieldLink RX1 32 "Selfkindle$Heap" "outers" "[I") (List.mem_of_getElem? (i := 12) rfl)) (fun _ h9 => h9) rfl hin rfl (by decide +kernel) rfl rfl (Nat.le_of_ble_eq_true rfl) dX1_init_74 (fun H_25 locs hP hD hS => ?_)
  have hP : va_P (dC, dI) vwCl [(h0, .inr (2, [.int 2000, .ref q_2, .ref q_6, .ref q_10, .ref q_14, .int 0, .ref q_18, .ref q_22, .null, .int 0])), (q_22, .inl (cA_23, 2000, .inl (fun _ => 0)))] H_25 := hP
  have hD : va_D A [(h0, .inr (2, [.int 2000, .ref q_2, .ref q_6, .ref q_10, .ref q_14, .int 0, .ref q_18, .ref q_22, .null, .int 0])), (q_22, .inl (cA_23, 2000, .inl (fun _ => 0)))] := hD
  have hK : va_K (dC, dI) vwCl [(cA_23, .int)] s := hK
  have hP := hP.sub (ws' := [(h0, .inr (2, [.int 2000, .ref q_2, .ref q_6, .ref q_10, .ref q_14, .int 0, .ref q_18, .ref q_22, .null, .int 0]))]) [0] rfl
  have hD := hD.sub (ws' := [(h0, .inr (2, [.int 2000, .ref q_2, .ref q_6, .ref q_10, .ref q_14, .int 0, .ref q_18, .ref q_22, .null, .int 0]))]) [0] (by decide) rfl
  have hK := hK.sub (tys' := []) [] rfl
  have hP : va_P (dC, dI) vwCl [(h0, .inr (2, [.int 2000, .ref q_2, .ref q_6, .ref q_10, .ref q_14, .int 0, .ref q_18, .ref q_22, .null, .int 0]))] H_25 := hP
  have hD : va_D A [(h0, .inr (2, [.int 2000, .ref q_2, .ref q_6, .ref q_10, .ref q_14, .int 0, .ref q_18, .ref q_22, .null, .int 0]))] := hD
  have hK : va_K (dC, dI) vwCl [] s := hK
  refine lv_aload_n hx hb dX1_init_77 rfl (lv_at hl 0 rfl) ?_
  refine lv_aload_n hx hb dX1_init_78 rfl (lv_at hl 0 rfl) ?_
  refine va_get (D := (dC, dI)) (ci := 2) (v := .int 2000) (C := RX1) (T := TX1) (N := 10) hx hb hts in_z_He2000_X1 hown hK hP 0 rfl rfl 0 (by decide) (hts (.fieldLink RX1 9 "Selfkindle$Heap" "room" "I") (List.mem_of_getElem? (i := 4) rfl)) (fun _ h9 => h9) rfl dX1_init_79 ?_
  refine va_newa (atype := .int) (ty := .int) (a0 := (2000, .inl (fun _ => 0))) hx hb (hts (.arrayClass .int) (List.mem_of_getElem? (i := 5) rfl)) rfl hK hP hD hS hA (fun _ => rfl) (by decide) (by decide +kernel) (Nat.le_of_ble_eq_true rfl) (Nat.le_of_ble_eq_true rfl) (Nat.le_of_ble_eq_true rfl) dX1_init_82 (fun q_26 cA_27 H_28 hK hP hD hS => ?_)
  have hP : va_P (dC, dI) vwCl [(h0, .inr (2, [.int 2000, .ref q_2, .ref q_6, .ref q_10, .ref q_14, .int 0, .ref q_18, .ref q_22, .null, .int 0])), (q_26, .inl (cA_27, 2000, .inl (fun _ => 0)))] H_28 := hP
  have hD : va_D A [(h0, .inr (2, [.int 2000, .ref q_2, .ref q_6, .ref q_10, .ref q_14, .int 0, .ref q_18, .ref q_22, .null, .int 0])), (q_26, .inl (cA_27, 2000, .inl (fun _ => 0)))] := hD
  have hK : va_K (dC, dI) vwCl [(cA_27, .int)] s := hK
  refine W.widen (k := 7) (n := 14000) (Nat.le_of_ble_eq_true rfl) (Nat.le_of_ble_eq_true rfl) ?_
  refine va_putF (D := (dC, dI)) (ci := 2) (v := .ref q_26) (ty := .array .int) (C := RX1) (T := TX1) (N := 10) hx hb hts in_z_He2000_X1 tyX1 tyX1_ok nmX1 hown hK hP hD hS 0 rfl rfl 8 (by decide) (hts (.fieldLink RX1 35 "Selfkindle$Heap" "depths" "[I") (List.mem_of_getElem? (i := 13) rfl)) (fun _ h9 => h9) rfl hin rfl (by decide +kernel) rfl rfl (Nat.le_of_ble_eq_true rfl) dX1_init_84 (fun H_29 locs hP hD hS => ?_)
  have hP : va_P (dC, dI) vwCl [(h0, .inr (2, [.int 2000, .ref q_2, .ref q_6, .ref q_10, .ref q_14, .int 0, .ref q_18, .ref q_22, .ref q_26, .int 0])), (q_26, .inl (cA_27, 2000, .inl (fun _ => 0)))] H_29 := hP
  have hD : va_D A [(h0, .inr (2, [.int 2000, .ref q_2, .ref q_6, .ref q_10, .ref q_14, .int 0, .ref q_18, .ref q_22, .ref q_26, .int 0])), (q_26, .inl (cA_27, 2000, .inl (fun _ => 0)))] := hD
  have hK : va_K (dC, dI) vwCl [(cA_27, .int)] s := hK
  have hP := hP.sub (ws' := [(h0, .inr (2, [.int 2000, .ref q_2, .ref q_6, .ref q_10, .ref q_14, .int 0, .ref q_18, .ref q_22, .ref q_26, .int 0]))]) [0] rfl
  have hD := hD.sub (ws' := [(h0, .inr (2, [.int 2000, .ref q_2, .ref q_6, .ref q_10, .ref q_14, .int 0, .ref q_18, .ref q_22, .ref q_26, .int 0]))]) [0] (by decide) rfl
  have hK := hK.sub (tys' := []) [] rfl
  have hP : va_P (dC, dI) vwCl [(h0, .inr (2, [.int 2000, .ref q_2, .ref q_6, .ref q_10, .ref q_14, .int 0, .ref q_18, .ref q_22, .ref q_26, .int 0]))] H_29 := hP
  have hD : va_D A [(h0, .inr (2, [.int 2000, .ref q_2, .ref q_6, .ref q_10, .ref q_14, .int 0, .ref q_18, .ref q_22, .ref q_26, .int 0]))] := hD
  have hK : va_K (dC, dI) vwCl [] s := hK
  refine W.widen (k := 7) (n := 14000) (Nat.le_of_ble_eq_true rfl) (Nat.le_of_ble_eq_true rfl) ?_
  exact W.vret hx hb hr (fun t ht hW => ⟨⟨(), rfl, trivial, trivial⟩, hS.F ht⟩) hS.2.2 dX1_init_87

set_option maxRecDepth 20000 in
def z_Ma : List Cond := .code yX3_init cX3_init 2 none :: (([.methodLink RX3 3 objectInit, .instanceMethod objectInit, .code objectInit ⟨#[0xb1]⟩ 1 none, .fieldLink RX3 9 "Selfkindle$Machine" "code" "LSelfkindle$Code;", .classLink RX3 15 RX1, .instantiable RX1 10, .initialized RX1, .methodLink RX3 17 yX1_init, .instanceMethod yX1_init, .code yX1_init cX1_init 2 none, .methodLink RX1 3 objectInit, .fieldLink RX1 9 "Selfkindle$Heap" "room" "I", .arrayClass .int, .fieldLink RX1 15 "Selfkindle$Heap" "kinds" "[I", .arrayClass .long, .fieldLink RX1 19 "Selfkindle$Heap" "numbers" "[J", .fieldLink RX1 23 "Selfkindle$Heap" "firsts" "[I", .fieldLink RX1 26 "Selfkindle$Heap" "seconds" "[I", .fieldLink RX1 29 "Selfkindle$Heap" "bound" "[I", .fieldLink RX1 32 "Selfkindle$Heap" "outers" "[I", .fieldLink RX1 35 "Selfkindle$Heap" "depths" "[I", .fieldLink RX3 20 "Selfkindle$Machine" "heap" "LSelfkindle$Heap;", .fieldLink RX3 24 "Selfkindle$Machine" "stack" "[I", .fieldLink RX3 28 "Selfkindle$Machine" "callPlaces" "[I", .fieldLink RX3 31 "Selfkindle$Machine" "callNames" "[I", .fieldLink RX3 34 "Selfkindle$Machine" "tryPlaces" "[I", .fieldLink RX3 37 "Selfkindle$Machine" "tryHeights" "[I", .fieldLink RX3 40 "Selfkindle$Machine" "tryNames" "[I", .fieldLink RX3 43 "Selfkindle$Machine" "tryCalls" "[I", .fieldLink RX3 46 "Selfkindle$Machine" "names" "I"] : List Cond) ++ wsX30 ++ wsX10)
theorem in_z_Ma_X3 : ∀ w ∈ wsX30, w ∈ z_Ma := fun w h => List.mem_cons_of_mem _ (List.mem_append_left _ (List.mem_append_right _ (h)))
theorem in_z_Ma_X1 : ∀ w ∈ wsX10, w ∈ z_Ma := fun w h => List.mem_cons_of_mem _ (List.mem_append_right _ (h))
set_option maxRecDepth 20000 in
theorem g_Ma_17 : GoodIn z_Ma (z_He2000) := goodIn_p _ [10, 3] rfl (by decide +kernel)
set_option maxHeartbeats 4000000 in
set_option maxRecDepth 100000 in
/-- Machine(code) -/
theorem c_Ma (l : Launch) (dC : Nat → ClassId) (dI : Nat → Nat → Nat) (tp te : Nat) (sz : Nat) (h0 : Nat) (h1 : Nat)  : Met l yX3_init z_Ma ({ frames := 2, cells := 15, slots := 17210, locals := 33 }) (va_Pc [.ref h0, .ref h1] (Pw dC dI [(h0, .inr (4, [.null, .null, .null, .null, .null, .null, .null, .null, .null, .int 0, .int 0, .int 0, .int 0, .int 0, .int 0, .int 0]))] [] sz tp te)) (va_Qv (fun (_ : Unit) => True) (fun (_ : Unit) (_ : State) => True) (va_A [(h0, .inr (4, [.null, .null, .null, .null, .null, .null, .null, .null, .null, .int 0, .int 0, .int 0, .int 0, .int 0, .int 0, .int 0]))] sz)) 15 17210 (va_A [(h0, .inr (4, [.null, .null, .null, .null, .null, .null, .null, .null, .null, .int 0, .int 0, .int 0, .int 0, .int 0, .int 0, .int 0]))] sz) := by
  refine Met.ofW (cc := cX3_init) (maxL := 2) (ret := none) (by decide) rfl ?_
  intro p e s m args below meth c s₁ B hml hv
  obtain ⟨rfl, hsz, hP, hK, hD0, hG⟩ := hv
  have hx := B.exec
  have hb := B.bytes
  have hr := B.returns
  have hts := atoms_spec (ws := z_Ma) B.pre
  have hown : s.vm.findClass RX3 = some m.cls := findClass_of_methodNamed B.named
  have hlocks := B.notSynchronized
  have hin : meth.name = "<init>" := (name_of_methodNamed B.named B.method).1
  subst hsz
  have hD := hD0.self (sz := s.heap.size)
  generalize hAe : va_A [(h0, .inr (4, [.null, .null, .null, .null, .null, .null, .null, .null, .null, .int 0, .int 0, .int 0, .int 0, .int 0, .int 0, .int 0]))] s.heap.size = A at hD hG ⊢
  have hA : ∀ q : Nat, s.heap.size ≤ q → A q := fun q h => by rw [← hAe]; exact Or.inr h
  have hS : va_S A s.heap s.heap [] := va_S.rf
  have hl := lv_entry ([.ref h0, .ref h1]) (n := 2) (Nat.le_of_ble_eq_true rfl)
  rw [lg_entry_eq]
  generalize (lg_sl ([.ref h0, .ref h1]) ++ List.replicate (2 - (lg_sl ([.ref h0, .ref h1])).length) Slot.unset).toArray = ls at hl ⊢
  have hl : lv_has ls 2 [(0, .ref h0), (1, .ref h1)] := hl
  refine lv_aload_n hx hb dX3_init_0 rfl (lv_at hl 0 rfl) ?_
  refine W.objInit hx hb hown (hts (.methodLink RX3 3 objectInit) (List.mem_of_getElem? (i := 1) rfl)) (hts (.instanceMethod objectInit) (List.mem_of_getElem? (i := 2) rfl)) (hts _ (List.mem_of_getElem? (i := 3) rfl)) rfl (by rw [hml]; exact hl.1) rfl dX3_init_1 (Nat.le_of_ble_eq_true rfl) (Nat.le_of_ble_eq_true rfl) ?_
  refine W.eq (g2 := F0 m 4 ls []) rfl ?_
  refine lv_aload_n hx hb dX3_init_4 rfl (lv_at hl 0 rfl) ?_
  refine lv_aload_n hx hb dX3_init_5 rfl (lv_at hl 1 rfl) ?_
  refine va_putF (D := (dC, dI)) (ci := 4) (v := .ref h1) (ty := .object "Selfkindle$Code") (C := RX3) (T := TX3) (N := 16) hx hb hts in_z_Ma_X3 tyX3 tyX3_ok nmX3 hown hK hP hD hS 0 rfl rfl 0 (by decide) (hts (.fieldLink RX3 9 "Selfkindle$Machine" "code" "LSelfkindle$Code;") (List.mem_of_getElem? (i := 4) rfl)) (fun _ h9 => h9) rfl hin rfl (by decide +kernel) rfl rfl (Nat.le_of_ble_eq_true rfl) dX3_init_6 (fun H_1 locs hP hD hS => ?_)
  have hP : va_P (dC, dI) vwCl [(h0, .inr (4, [.ref h1, .null, .null, .null, .null, .null, .null, .null, .null, .int 0, .int 0, .int 0, .int 0, .int 0, .int 0, .int 0]))] H_1 := hP
  have hD : va_D A [(h0, .inr (4, [.ref h1, .null, .null, .null, .null, .null, .null, .null, .null, .int 0, .int 0, .int 0, .int 0, .int 0, .int 0, .int 0]))] := hD
  have hK : va_K (dC, dI) vwCl [] s := hK
  refine lv_aload_n hx hb dX3_init_9 rfl (lv_at hl 0 rfl) ?_
  refine va_new (D := (dC, dI)) (cl := vwCl) (ci := 2) (fs := [.int 0, .null, .null, .null, .null, .int 0, .null, .null, .null, .int 0]) (C := RX1) (T := TX1) (N := 10) hx hb hts in_z_Ma_X1 tyX1 tyX1_ok hown (hts (.classLink RX3 15 RX1) (List.mem_of_getElem? (i := 5) rfl)) (hts (.instantiable RX1 10) (List.mem_of_getElem? (i := 6) rfl)) (hts (.initialized RX1) (List.mem_of_getElem? (i := 7) rfl)) hK hP hD hS hA rfl dflt_X1 (Nat.le_of_ble_eq_true rfl) (Nat.le_of_ble_eq_true rfl) dX3_init_10 (fun q_2 H_3 hP hD hS => ?_)
  have hP : va_P (dC, dI) vwCl [(h0, .inr (4, [.ref h1, .null, .null, .null, .null, .null, .null, .null, .null, .int 0, .int 0, .int 0, .int 0, .int 0, .int 0, .int 0])), (q_2, .inr (2, [.int 0, .null, .null, .null, .null, .int 0, .null, .null, .null, .int 0]))] H_3 := hP
  have hD : va_D A [(h0, .inr (4, [.ref h1, .null, .null, .null, .null, .null, .null, .null, .null, .int 0, .int 0, .int 0, .int 0, .int 0, .int 0, .int 0])), (q_2, .inr (2, [.int 0, .null, .null, .null, .null, .int 0, .null, .null, .null, .int 0]))] := hD
  have hK : va_K (dC, dI) vwCl [] s := hK
  refine W.widen (k := 1) (n := 10) (Nat.le_of_ble_eq_true rfl) (Nat.le_of_ble_eq_true rfl) ?_
  refine lv_dup hx hb dX3_init_13 rfl ?_
  refine lv_sipush (v := 2000) hx hb dX3_init_14 (by decide) ?_
  have hPc := hP.sub (ws' := [(q_2, .inr (2, [.int 0, .null, .null, .null, .null, .int 0, .null, .null, .null, .int 0]))]) [1] rfl
  have hDc := hD.sub (ws' := [(q_2, .inr (2, [.int 0, .null, .null, .null, .null, .int 0, .null, .null, .null, .int 0]))]) [1] (by decide) rfl
  have hKc := hK.sub (tys' := []) [] rfl
  have hFc := va_free (wc := [(q_2, .inr (2, [.int 0, .null, .null, .null, .null, .int 0, .null, .null, .null, .int 0]))]) hD hS hA [1] rfl
  refine va_callv (va_runI (As := [.int 2000]) (rest := [.ref q_2, .ref h0]) ⟨hx, hb, hml, hown, hts⟩ (c_He2000 l dC dI tp te H_3.size q_2) (cwI 1 hts g_Ma_17 rfl rfl rfl (hts (.initialized RX1) (List.mem_of_getElem? (i := 7) rfl)) (hts (.methodLink RX3 17 yX1_init) (List.mem_of_getElem? (i := 8) rfl)) (hts (.instanceMethod yX1_init) (List.mem_of_getElem? (i := 9) rfl)) rfl (by decide +kernel) ⟨Nat.le_of_ble_eq_true rfl, Nat.le_of_ble_eq_true rfl⟩) ⟨Pw.blind, Pw.mk hPc hKc hDc hG hS hFc⟩ rfl rfl hl.1 rfl (lv_room (Nat.le_of_ble_eq_true rfl)) dX3_init_17 ⟨Nat.le_of_ble_eq_true rfl, Nat.le_of_ble_eq_true rfl⟩) hS (fun q _ h => hFc q h) hFc (fun u t9 H_4 locs ht hvm hw hB hz1 hk1 hS => ?_)
  obtain ⟨hP, hD⟩ := va_join (wr := [(h0, .inr (4, [.ref h1, .null, .null, .null, .null, .null, .null, .null, .null, .int 0, .int 0, .int 0, .int 0, .int 0, .int 0, .int 0]))]) (w1 := []) hP hD [1] [0] rfl rfl (by decide) (by decide) hk1 hFc va_P.nil va_D.nil
  have hK := hK.sub (tys' := []) [] rfl
  have hP : va_P (dC, dI) vwCl [(h0, .inr (4, [.ref h1, .null, .null, .null, .null, .null, .null, .null, .null, .int 0, .int 0, .int 0, .int 0, .int 0, .int 0, .int 0]))] H_4 := hP
  have hD : va_D A [(h0, .inr (4, [.ref h1, .null, .null, .null, .null, .null, .null, .null, .null, .int 0, .int 0, .int 0, .int 0, .int 0, .int 0, .int 0]))] := hD
  have hK : va_K (dC, dI) vwCl [] s := hK
  refine W.widen (k := 8) (n := 14010) (Nat.le_of_ble_eq_true rfl) (Nat.le_of_ble_eq_true rfl) ?_
  refine va_putF (D := (dC, dI)) (ci := 4) (v := .ref q_2) (ty := .object "Selfkindle$Heap") (C := RX3) (T := TX3) (N := 16) hx hb hts in_z_Ma_X3 tyX3 tyX3_ok nmX3 hown hK hP hD hS 0 rfl rfl 1 (by decide) (hts (.fieldLink RX3 20 "Selfkindle$Machine" "heap" "LSelfkindle$Heap;") (List.mem_of_getElem? (i := 22) rfl)) (fun _ h9 => h9) rfl hin rfl (by decide +kernel) rfl rfl (Nat.le_of_ble_eq_true rfl) dX3_init_20 (fun H_5 locs hP hD hS => ?_)
  have hP : va_P (dC, dI) vwCl [(h0, .inr (4, [.ref h1, .ref q_2, .null, .null, .null, .null, .null, .null, .null, .int 0, .int 0, .int 0, .int 0, .int 0, .int 0, .int 0]))] H_5 := hP
  have hD : va_D A [(h0, .inr (4, [.ref h1, .ref q_2, .null, .null, .null, .null, .null, .null, .null, .int 0, .int 0, .int 0, .int 0, .int 0, .int 0, .int 0]))] := hD
  have hK : va_K (dC, dI) vwCl [] s := hK
  refine lv_aload_n hx hb dX3_init_23 rfl (lv_at hl 0 rfl) ?_
  refine lv_sipush (v := 2000) hx hb dX3_init_24 (by decide) ?_
  refine va_newa (atype := .int) (ty := .int) (a0 := (2000, .inl (fun _ => 0))) hx hb (hts (.arrayClass .int) (List.mem_of_getElem? (i := 13) rfl)) rfl hK hP hD hS hA (fun _ => rfl) (by decide) (by decide +kernel) (Nat.le_of_ble_eq_true rfl) (Nat.le_of_ble_eq_true rfl) (Nat.le_of_ble_eq_true rfl) dX3_init_27 (fun q_6 cA_7 H_8 hK hP hD hS => ?_)
  have hP : va_P (dC, dI) vwCl [(h0, .inr (4, [.ref h1, .ref q_2, .null, .null, .null, .null, .null, .null, .null, .int 0, .int 0, .int 0, .int 0, .int 0, .int 0, .int 0])), (q_6, .inl (cA_7, 2000, .inl (fun _ => 0)))] H_8 := hP
  have hD : va_D A [(h0, .inr (4, [.ref h1, .ref q_2, .null, .null, .null, .null, .null, .null, .null, .int 0, .int 0, .int 0, .int 0, .int 0, .int 0, .int 0])), (q_6, .inl (cA_7, 2000, .inl (fun _ => 0)))] := hD
  have hK : va_K (dC, dI) vwCl [(cA_7, .int)] s := hK
  refine W.widen (k := 9) (n := 16010) (Nat.le_of_ble_eq_true rfl) (Nat.le_of_ble_eq_true rfl) ?_
  refine va_putF (D := (dC, dI)) (ci := 4) (v := .ref q_6) (ty := .array .int) (C := RX3) (T := TX3) (N := 16) hx hb hts in_z_Ma_X3 tyX3 tyX3_ok nmX3 hown hK hP hD hS 0 rfl rfl 2 (by decide) (hts (.fieldLink RX3 24 "Selfkindle$Machine" "stack" "[I") (List.mem_of_getElem? (i := 23) rfl)) (fun _ h9 => h9) rfl hin rfl (by decide +kernel) rfl rfl (Nat.le_of_ble_eq_true rfl) dX3_init_29 (fun H_9 locs hP hD hS => ?_)
  have hP : va_P (dC, dI) vwCl [(h0, .inr (4, [.ref h1, .ref q_2, .ref q_6, .null, .null, .null, .null, .null, .null, .int 0, .int 0, .int 0, .int 0, .int 0, .int 0, .int 0])), (q_6, .inl (cA_7, 2000, .inl (fun _ => 0)))] H_9 := hP
  have hD : va_D A [(h0, .inr (4, [.ref h1, .ref q_2, .ref q_6, .null, .null, .null, .null, .null, .null, .int 0, .int 0, .int 0, .int 0, .int 0, .int 0, .int 0])), (q_6, .inl (cA_7, 2000, .inl (fun _ => 0)))] := hD
  have hK : va_K (dC, dI) vwCl [(cA_7, .int)] s := hK
  have hP := hP.sub (ws' := [(h0, .inr (4, [.ref h1, .ref q_2, .ref q_6, .null, .null, .null, .null, .null, .null, .int 0, .int 0, .int 0, .int 0, .int 0, .int 0, .int 0]))]) [0] rfl
  have hD := hD.sub (ws' := [(h0, .inr (4, [.ref h1, .ref q_2, .ref q_6, .null, .null, .null, .null, .null, .null, .int 0, .int 0, .int 0, .int 0, .int 0, .int 0, .int 0]))]) [0] (by decide) rfl
  have hK := hK.sub (tys' := []) [] rfl
  have hP : va_P (dC, dI) vwCl [(h0, .inr (4, [.ref h1, .ref q_2, .ref q_6, .null, .null, .null, .null, .null, .null, .int 0, .int 0, .int 0, .int 0, .int 0, .int 0, .int 0]))] H_9 := hP
  have hD : va_D A [(h0, .inr (4, [.ref h1, .ref q_2, .ref q_6, .null, .null, .null, .null, .null, .null, .int 0, .int 0, .int 0, .int 0, .int 0, .int 0, .int 0]))] := hD
  have hK : va_K (dC, dI) vwCl [] s := hK
  refine lv_aload_n hx hb dX3_init_32 rfl (lv_at hl 0 rfl) ?_
  refine lv_sipush (v := 200) hx hb dX3_init_33 (by decide) ?_
  refine va_newa (atype := .int) (ty := .int) (a0 := (200, .inl (fun _ => 0))) hx hb (hts (.arrayClass .int) (List.mem_of_getElem? (i := 13) rfl)) rfl hK hP hD hS hA (fun _ => rfl) (by decide) (by decide +kernel) (Nat.le_of_ble_eq_true rfl) (Nat.le_of_ble_eq_true rfl) (Nat.le_of_ble_eq_true rfl) dX3_init_36 (fun q_10 cA_11 H_12 hK hP hD hS => ?_)
  have hP : va_P (dC, dI) vwCl [(h0, .inr (4, [.ref h1, .ref q_2, .ref q_6, .null, .null, .null, .null, .null, .null, .int 0, .int 0, .int 0, .int 0, .int 0, .int 0, .int 0])), (q_10, .inl (cA_11, 200, .inl (fun _ => 0)))] H_12 := hP
  have hD : va_D A [(h0, .inr (4, [.ref h1, .ref q_2, .ref q_6, .null, .null, .null, .null, .null, .null, .int 0, .int 0, .int 0, .int 0, .int 0, .int 0, .int 0])), (q_10, .inl (cA_11, 200, .inl (fun _ => 0)))] := hD
  have hK : va_K (dC, dI) vwCl [(cA_11, .int)] s := hK
  refine W.widen (k := 10) (n := 16210) (Nat.le_of_ble_eq_true rfl) (Nat.le_of_ble_eq_true rfl) ?_
  refine va_putF (D := (dC, dI)) (ci := 4) (v := .ref q_10) (ty := .array .int) (C := RX3) (T := TX3) (N := 16) hx hb hts in_z_Ma_X3 tyX3 tyX3_ok nmX3 hown hK hP hD hS 0 rfl rfl 3 (by decide) (hts (.fieldLink RX3 28 "Selfkindle$Machine" "callPlaces" "[I") (List.mem_of_getElem? (i := 24) rfl)) (fun _ h9 => h9) rfl hin rfl (by decide +kernel) rfl rfl (Nat.le_of_ble_eq_true rfl) dX3_init_38 (fun H_13 locs hP hD hS => ?_)
  have hP : va_P (dC, dI) vwCl [(h0, .inr (4, [.ref h1, .ref q_2, .ref q_6, .ref q_10, .null, .null, .null, .null, .null, .int 0, .int 0, .int 0, .int 0, .int 0, .int 0, .int 0])), (q_10, .inl (cA_11, 200, .inl (fun _ => 0)))] H_13 := hP
  have hD : va_D A [(h0, .inr (4, [.ref h1, .ref q_2, .ref q_6, .ref q_10, .null, .null, .null, .null, .null, .int 0, .int 0, .int 0, .int 0, .int 0, .int 0, .int 0])), (q_10, .inl (cA_11, 200, .inl (fun _ => 0)))] := hD
  have hK : va_K (dC, dI) vwCl [(cA_11, .int)] s := hK
  have hP := hP.sub (ws' := [(h0, .inr (4, [.ref h1, .ref q_2, .ref q_6, .ref q_10, .null, .null, .null, .null, .null, .int 0, .int 0, .int 0, .int 0, .int 0, .int 0, .int 0]))]) [0] rfl
  have hD := hD.sub (ws' := [(h0, .inr (4, [.ref h1, .ref q_2, .ref q_6, .ref q_10, .null, .null, .null, .null, .null, .int 0, .int 0, .int 0, .int 0, .int 0, .int 0, .int 0]))]) [0] (by decide) rfl
  have hK := hK.sub (tys' := []) [] rfl
  have hP : va_P (dC, dI) vwCl [(h0, .inr (4, [.ref h1, .ref q_2, .ref q_6, .ref q_10, .null, .null, .null, .null, .null, .int 0, .int 0, .int 0, .int 0, .int 0, .int 0, .int 0]))] H_13 := hP
  have hD : va_D A [(h0, .inr (4, [.ref h1, .ref q_2, .ref q_6, .ref q_10, .null, .null, .null, .null, .null, .int 0, .int 0, .int 0, .int 0, .int 0, .int 0, .int 0]))] := hD
  have hK : va_K (dC, dI) vwCl [] s := hK
  refine lv_aload_n hx hb dX3_init_41 rfl (lv_at hl 0 rfl) ?_
  refine lv_sipush (v := 200) hx hb dX3_init_42 (by decide) ?_
  refine va_newa (atype := .int) (ty := .int) (a0 := (200, .inl (fun _ => 0))) hx hb (hts (.arrayClass .int) (List.mem_of_getElem? (i := 13) rfl)) rfl hK hP hD hS hA (fun _ => rfl) (by decide) (by decide +kernel) (Nat.le_of_ble_eq_true rfl) (Nat.le_of_ble_eq_true rfl) (Nat.le_of_ble_eq_true rfl) dX3_init_45 (fun q_14 cA_15 H_16 hK hP hD hS => ?_)
  have hP : va_P (dC, dI) vwCl [(h0, .inr (4, [.ref h1, .ref q_2, .ref q_6, .ref q_10, .null, .null, .null, .null, .null, .int 0, .int 0, .int 0, .int 0, .int 0, .int 0, .int 0])), (q_14, .inl (cA_15, 200, .inl (fun _ => 0)))] H_16 := hP
  have hD : va_D A [(h0, .inr (4, [.ref h1, .ref q_2, .ref q_6, .ref q_10, .null, .null, .null, .null, .null, .int 0, .int 0, .int 0, .int 0, .int 0, .int 0, .int 0])), (q_14, .inl (cA_15, 200, .inl (fun _ => 0)))] := hD
  have hK : va_K (dC, dI) vwCl [(cA_15, .int)] s := hK
  refine W.widen (k := 11) (n := 16410) (Nat.le_of_ble_eq_true rfl) (Nat.le_of_ble_eq_true rfl) ?_
  refine va_putF (D := (dC, dI)) (ci := 4) (v := .ref q_14) (ty := .array .int) (C := RX3) (T := TX3) (N := 16) hx hb hts in_z_Ma_X3 tyX3 tyX3_ok nmX3 hown hK hP hD hS 0 rfl rfl 4 (by decide) (hts (.fieldLink RX3 31 "Selfkindle$Machine" "callNames" "[I") (List.mem_of_getElem? (i := 25) rfl)) (fun _ h9 => h9) rfl hin rfl (by decide +kernel) rfl rfl (Nat.le_of_ble_eq_true rfl) dX3_init_47 (fun H_17 locs hP hD hS => ?_)
  have hP : va_P (dC, dI) vwCl [(h0, .inr (4, [.ref h1, .ref q_2, .ref q_6, .ref q_10, .ref q_14, .null, .null, .null, .null, .int 0, .int 0, .int 0, .int 0, .int 0, .int 0, .int 0])), (q_14, .inl (cA_15, 200, .inl (fun _ => 0)))] H_17 := hP
  have hD : va_D A [(h0, .inr (4, [.ref h1, .ref q_2, .ref q_6, .ref q_10, .ref q_14, .null, .null, .null, .null, .int 0, .int 0, .int 0, .int 0, .int 0, .int 0, .int 0])), (q_14, .inl (cA_15, 200, .inl (fun _ => 0)))] := hD
  have hK : va_K (dC, dI) vwCl [(cA_15, .int)] s := hK
  have hP := hP.sub (ws' := [(h0, .inr (4, [.ref h1, .ref q_2, .ref q_6, .ref q_10, .ref q_14, .null, .null, .null, .null, .int 0, .int 0, .int 0, .int 0, .int 0, .int 0, .int 0]))]) [0] rfl
  have hD := hD.sub (ws' := [(h0, .inr (4, [.ref h1, .ref q_2, .ref q_6, .ref q_10, .ref q_14, .null, .null, .null, .null, .int 0, .int 0, .int 0, .int 0, .int 0, .int 0, .int 0]))]) [0] (by decide) rfl
  have hK := hK.sub (tys' := []) [] rfl
  have hP : va_P (dC, dI) vwCl [(h0, .inr (4, [.ref h1, .ref q_2, .ref q_6, .ref q_10, .ref q_14, .null, .null, .null, .null, .int 0, .int 0, .int 0, .int 0, .int 0, .int 0, .int 0]))] H_17 := hP
  have hD : va_D A [(h0, .inr (4, [.ref h1, .ref q_2, .ref q_6, .ref q_10, .ref q_14, .null, .null, .null, .null, .int 0, .int 0, .int 0, .int 0, .int 0, .int 0, .int 0]))] := hD
  have hK : va_K (dC, dI) vwCl [] s := hK
  refine lv_aload_n hx hb dX3_init_50 rfl (lv_at hl 0 rfl) ?_
  refine lv_sipush (v := 200) hx hb dX3_init_51 (by decide) ?_
  refine va_newa (atype := .int) (ty := .int) (a0 := (200, .inl (fun _ => 0))) hx hb (hts (.arrayClass .int) (List.mem_of_getElem? (i := 13) rfl)) rfl hK hP hD hS hA (fun _ => rfl) (by decide) (by decide +kernel) (Nat.le_of_ble_eq_true rfl) (Nat.le_of_ble_eq_true rfl) (Nat.le_of_ble_eq_true rfl) dX3_init_54 (fun q_18 cA_19 H_20 hK hP hD hS => ?_)
  have hP : va_P (dC, dI) vwCl [(h0, .inr (4, [.ref h1, .ref q_2, .ref q_6, .ref q_10, .ref q_14, .null, .null, .null, .null, .int 0, .int 0, .int 0, .int 0, .int 0, .int 0, .int 0])), (q_18, .inl (cA_19, 200, .inl (fun _ => 0)))] H_20 := hP
  have hD : va_D A [(h0, .inr (4, [.ref h1, .ref q_2, .ref q_6, .ref q_10, .ref q_14, .null, .null, .null, .null, .int 0, .int 0, .int 0, .int 0, .int 0, .int 0, .int 0])), (q_18, .inl (cA_19, 200, .inl (fun _ => 0)))] := hD
  have hK : va_K (dC, dI) vwCl [(cA_19, .int)] s := hK
  refine W.widen (k := 12) (n := 16610) (Nat.le_of_ble_eq_true rfl) (Nat.le_of_ble_eq_true rfl) ?_
  refine va_putF (D := (dC, dI)) (ci := 4) (v := .ref q_18) (ty := .array .int) (C := RX3) (T := TX3) (N := 16) hx hb hts in_z_Ma_X3 tyX3 tyX3_ok nmX3 hown hK hP hD hS 0 rfl rfl 5 (by decide) (hts (.fieldLink RX3 34 "Selfkindle$Machine" "tryPlaces" "[I") (List.mem_of_getElem? (i := 26) rfl)) (fun _ h9 => h9) rfl hin rfl (by decide +kernel) rfl rfl (Nat.le_of_ble_eq_true rfl) dX3_init_56 (fun H_21 locs hP hD hS => ?_)
  have hP : va_P (dC, dI) vwCl [(h0, .inr (4, [.ref h1, .ref q_2, .ref q_6, .ref q_10, .ref q_14, .ref q_18, .null, .null, .null, .int 0, .int 0, .int 0, .int 0, .int 0, .int 0, .int 0])), (q_18, .inl (cA_19, 200, .inl (fun _ => 0)))] H_21 := hP
  have hD : va_D A [(h0, .inr (4, [.ref h1, .ref q_2, .ref q_6, .ref q_10, .ref q_14, .ref q_18, .null, .null, .null, .int 0, .int 0, .int 0, .int 0, .int 0, .int 0, .int 0])), (q_18, .inl (cA_19, 200, .inl (fun _ => 0)))] := hD
  have hK : va_K (dC, dI) vwCl [(cA_19, .int)] s := hK
  have hP := hP.sub (ws' := [(h0, .inr (4, [.ref h1, .ref q_2, .ref q_6, .ref q_10, .ref q_14, .ref q_18, .null, .null, .null, .int 0, .int 0, .int 0, .int 0, .int 0, .int 0, .int 0]))]) [0] rfl
  have hD := hD.sub (ws' := [(h0, .inr (4, [.ref h1, .ref q_2, .ref q_6, .ref q_10, .ref q_14, .ref q_18, .null, .null, .null, .int 0, .int 0, .int 0, .int 0, .int 0, .int 0, .int 0]))]) [0] (by decide) rfl
  have hK := hK.sub (tys' := []) [] rfl
  have hP : va_P (dC, dI) vwCl [(h0, .inr (4, [.ref h1, .ref q_2, .ref q_6, .ref q_10, .ref q_14, .ref q_18, .null, .null, .null, .int 0, .int 0, .int 0, .int 0, .int 0, .int 0, .int 0]))] H_21 := hP
  have hD : va_D A [(h0, .inr (4, [.ref h1, .ref q_2, .ref q_6, .ref q_10, .ref q_14, .ref q_18, .null, .null, .null, .int 0, .int 0, .int 0, .int 0, .int 0, .int 0, .int 0]))] := hD
  have hK : va_K (dC, dI) vwCl [] s := hK
  refine lv_aload_n hx hb dX3_init_59 rfl (lv_at hl 0 rfl) ?_
  refine lv_sipush (v := 200) hx hb dX3_init_60 (by decide) ?_
  refine va_newa (atype := .int) (ty := .int) (a0 := (200, .inl (fun _ => 0))) hx hb (hts (.arrayClass .int) (List.mem_of_getElem? (i := 13) rfl)) rfl hK hP hD hS hA (fun _ => rfl) (by decide) (by decide +kernel) (Nat.le_of_ble_eq_true rfl) (Nat.le_of_ble_eq_true rfl) (Nat.le_of_ble_eq_true rfl) dX3_init_63 (fun q_22 cA_23 H_24 hK hP hD hS => ?_)
  have hP : va_P (dC, dI) vwCl [(h0, .inr (4, [.ref h1, .ref q_2, .ref q_6, .ref q_10, .ref q_14, .ref q_18, .null, .null, .null, .int 0, .int 0, .int 0, .int 0, .int 0, .int 0, .int 0])), (q_22, .inl (cA_23, 200, .inl (fun _ => 0)))] H_24 := hP
  have hD : va_D A [(h0, .inr (4, [.ref h1, .ref q_2, .ref q_6, .ref q_10, .ref q_14, .ref q_18, .null, .null, .null, .int 0, .int 0, .int 0, .int 0, .int 0, .int 0, .int 0])), (q_22, .inl (cA_23, 200, .inl (fun _ => 0)))] := hD
  have hK : va_K (dC, dI) vwCl [(cA_23, .int)] s := hK
  refine W.widen (k := 13) (n := 16810) (Nat.le_of_ble_eq_true rfl) (Nat.le_of_ble_eq_true rfl) ?_
  refine va_putF (D := (dC, dI)) (ci := 4) (v := .ref q_22) (ty := .array .int) (C := RX3) (T := TX3) (N := 16) hx hb hts in_z_Ma_X3 tyX3 tyX3_ok nmX3 hown hK hP hD hS 0 rfl rfl 6 (by decide) (hts (.fieldLink RX3 37 "Selfkindle$Machine" "tryHeights" "[I") (List.mem_of_getElem? (i := 27) rfl)) (fun _ h9 => h9) rfl hin rfl (by decide +kernel) rfl rfl (Nat.le_of_ble_eq_true rfl) dX3_init_65 (fun H_25 locs hP hD hS => ?_)
  have hP : va_P (dC, dI) vwCl [(h0, .inr (4, [.ref h1, .ref q_2, .ref q_6, .ref q_10, .ref q_14, .ref q_18, .ref q_22, .null, .null, .int 0, .int 0, .int 0, .int 0, .int 0, .int 0, .int 0])), (q_22, .inl (cA_23, 200, .inl (fun _ => 0)))] H_25 := hP
  have hD : va_D A [(h0, .inr (4, [.ref h1, .ref q_2, .ref q_6, .ref q_10, .ref q_14, .ref q_18, .ref q_22, .null, .null, .int 0, .int 0, .int 0, .int 0, .int 0, .int 0, .int 0])), (q_22, .inl (cA_23, 200, .inl (fun _ => 0)))] := hD
  have hK : va_K (dC, dI) vwCl [(cA_23, .int)] s := hK
  have hP := hP.sub (ws' := [(h0, .inr (4, [.ref h1, .ref q_2, .ref q_6, .ref q_10, .ref q_14, .ref q_18, .ref q_22, .null, .null, .int 0, .int 0, .int 0, .int 0, .int 0, .int 0, .int 0]))]) [0] rfl
  have hD := hD.sub (ws' := [(h0, .inr (4, [.ref h1, .ref q_2, .ref q_6, .ref q_10, .ref q_14, .ref q_18, .ref q_22, .null, .null, .int 0, .int 0, .int 0, .int 0, .int 0, .int 0, .int 0]))]) [0] (by decide) rfl
  have hK := hK.sub (tys' := []) [] rfl
  have hP : va_P (dC, dI) vwCl [(h0, .inr (4, [.ref h1, .ref q_2, .ref q_6, .ref q_10, .ref q_14, .ref q_18, .ref q_22, .null, .null, .int 0, .int 0, .int 0, .int 0, .int 0, .int 0, .int 0]))] H_25 := hP
  have hD : va_D A [(h0, .inr (4, [.ref h1, .ref q_2, .ref q_6, .ref q_10, .ref q_14, .ref q_18, .ref q_22, .null, .null, .int 0, .int 0, .int 0, .int 0, .int 0, .int 0, .int 0]))] := hD
  have hK : va_K (dC, dI) vwCl [] s := hK
  refine lv_aload_n hx hb dX3_init_68 rfl (lv_at hl 0 rfl) ?_
  refine lv_sipush (v := 200) hx hb dX3_init_69 (by decide) ?_
  refine va_newa (atype := .int) (ty := .int) (a0 := (200, .inl (fun _ => 0))) hx hb (hts (.arrayClass .int) (List.mem_of_getElem? (i := 13) rfl)) rfl hK hP hD hS hA (fun _ => rfl) (by decide) (by decide +kernel) (Nat.le_of_ble_eq_true rfl) (Nat.le_of_ble_eq_true rfl) (Nat.le_of_ble_eq_true rfl) dX3_init_72 (fun q_26 cA_27 H_28 hK hP hD hS => ?_)
  have hP : va_P (dC, dI) vwCl [(h0, .inr (4, [.ref h1, .ref q_2, .ref q_6, .ref q_10, .ref q_14, .ref q_18, .ref q_22, .null, .null, .int 0, .int 0, .int 0, .int 0, .int 0, .int 0, .int 0])), (q_26, .inl (cA_27, 200, .inl (fun _ => 0)))] H_28 := hP
  have hD : va_D A [(h0, .inr (4, [.ref h1, .ref q_2, .ref q_6, .ref q_10, .ref q_14, .ref q_18, .ref q_22, .null, .null, .int 0, .int 0, .int 0, .int 0, .int 0, .int 0, .int 0])), (q_26, .inl (cA_27, 200, .inl (fun _ => 0)))] := hD
  have hK : va_K (dC, dI) vwCl [(cA_27, .int)] s := hK
  refine W.widen (k := 14) (n := 17010) (Nat.le_of_ble_eq_true rfl) (Nat.le_of_ble_eq_true rfl) ?_
  refine va_putF (D := (dC, dI)) (ci := 4) (v := .ref q_26) (ty := .array .int) (C := RX3) (T := TX3) (N := 16) hx hb hts in_z_Ma_X3 tyX3 tyX3_ok nmX3 hown hK hP hD hS 0 rfl rfl 7 (by decide) (hts (.fieldLink RX3 40 "Selfkindle$Machine" "tryNames" "[I") (List.mem_of_getElem? (i := 28) rfl)) (fun _ h9 => h9) rfl hin rfl (by decide +kernel) rfl rfl (Nat.le_of_ble_eq_true rfl) dX3_init_74 (fun H_29 locs hP hD hS => ?_)
  have hP : va_P (dC, dI) vwCl [(h0, .inr (4, [.ref h1, .ref q_2, .ref q_6, .ref q_10, .ref q_14, .ref q_18, .ref q_22, .ref q_26, .null, .int 0, .int 0, .int 0, .int 0, .int 0, .int 0, .int 0])), (q_26, .inl (cA_27, 200, .inl (fun _ => 0)))] H_29 := hP
  have hD : va_D A [(h0, .inr (4, [.ref h1, .ref q_2, .ref q_6, .ref q_10, .ref q_14, .ref q_18, .ref q_22, .ref q_26, .null, .int 0, .int 0, .int 0, .int 0, .int 0, .int 0, .int 0])), (q_26, .inl (cA_27, 200, .inl (fun _ => 0)))] := hD
  have hK : va_K (dC, dI) vwCl [(cA_27, .int)] s := hK
  have hP := hP.sub (ws' := [(h0, .inr (4, [.ref h1, .ref q_2, .ref q_6, .ref q_10, .ref q_14, .ref q_18, .ref q_22, .ref q_26, .null, .int 0, .int 0, .int 0, .int 0, .int 0, .int 0, .int 0]))]) [0] rfl
  have hD := hD.sub (ws' := [(h0, .inr (4, [.ref h1, .ref q_2, .ref q_6, .ref q_10, .ref q_14, .ref q_18, .ref q_22, .ref q_26, .null, .int 0, .int 0, .int 0, .int 0, .int 0, .int 0, .int 0]))]) [0] (by decide) rfl
  have hK := hK.sub (tys' := []) [] rfl
  have hP : va_P (dC, dI) vwCl [(h0, .inr (4, [.ref h1, .ref q_2, .ref q_6, .ref q_10, .ref q_14, .ref q_18, .ref q_22, .ref q_26, .null, .int 0, .int 0, .int 0, .int 0, .int 0, .int 0, .int 0]))] H_29 := hP
  have hD : va_D A [(h0, .inr (4, [.ref h1, .ref q_2, .ref q_6, .ref q_10, .ref q_14, .ref q_18, .ref q_22, .ref q_26, .null, .int 0, .int 0, .int 0, .int 0, .int 0, .int 0, .int 0]))] := hD
  have hK : va_K (dC, dI) vwCl [] s := hK
  refine lv_aload_n hx hb dX3_init_77 rfl (lv_at hl 0 rfl) ?_
  refine lv_sipush (v := 200) hx hb dX3_init_78 (by decide) ?_
  refine va_newa (atype := .int) (ty := .int) (a0 := (200, .inl (fun _ => 0))) hx hb (hts (.arrayClass .int) (List.mem_of_getElem? (i := 13) rfl)) rfl hK hP hD hS hA (fun _ => rfl) (by decide) (by decide +kernel) (Nat.le_of_ble_eq_true rfl) (Nat.le_of_ble_eq_true rfl) (Nat.le_of_ble_eq_true rfl) dX3_init_81 (fun q_30 cA_31 H_32 hK hP hD hS => ?_)
  have hP : va_P (dC, dI) vwCl [(h0, .inr (4, [.ref h1, .ref q_2, .ref q_6, .ref q_10, .ref q_14, .ref q_18, .ref q_22, .ref q_26, .null, .int 0, .int 0, .int 0, .int 0, .int 0, .int 0, .int 0])), (q_30, .inl (cA_31, 200, .inl (fun _ => 0)))] H_32 := hP
  have hD : va_D A [(h0, .inr (4, [.ref h1, .ref q_2, .ref q_6, .ref q_10, .ref q_14, .ref q_18, .ref q_22, .ref q_26, .null, .int 0, .int 0, .int 0, .int 0, .int 0, .int 0, .int 0])), (q_30, .inl (cA_31, 200, .inl (fun _ => 0)))] := hD
  have hK : va_K (dC, dI) vwCl [(cA_31, .int)] s := hK
  refine W.widen (k := 15) (n := 17210) (Nat.le_of_ble_eq_true rfl) (Nat.le_of_ble_eq_true rfl) ?_
  refine va_putF (D := (dC, dI)) (ci := 4) (v := .ref q_30) (ty := .array .int) (C := RX3) (T := TX3) (N := 16) hx hb hts in_z_Ma_X3 tyX3 tyX3_ok nmX3 hown hK hP hD hS 0 rfl rfl 8 (by decide) (hts (.fieldLink RX3 43 "Selfkindle$Machine" "tryCalls" "[I") (List.mem_of_getElem? (i := 29) rfl)) (fun _ h9 => h9) rfl hin rfl (by decide +kernel) rfl rfl (Nat.le_of_ble_eq_true rfl) dX3_init_83 (fun H_33 locs hP hD hS => ?_)
  have hP : va_P (dC, dI) vwCl [(h0, .inr (4, [.ref h1, .ref q_2, .ref q_6, .ref q_10, .ref q_14, .ref q_18, .ref q_22, .ref q_26, .ref q_30, .int 0, .int 0, .int 0, .int 0, .int 0, .int 0, .int 0])), (q_30, .inl (cA_31, 200, .inl (fun _ => 0)))] H_33 := hP
  have hD : va_D A [(h0, .inr (4, [.ref h1, .ref q_2, .ref q_6, .ref q_10, .ref q_14, .ref q_18, .ref q_22, .ref q_26, .ref q_30, .int 0, .int 0, .int 0, .int 0, .int 0, .int 0, .int 0])), (q_30, .inl (cA_31, 200, .inl (fun _ => 0)))] := hD
  have hK : va_K (dC, dI) vwCl [(cA_31, .int)] s := hK
  have hP := hP.sub (ws' := [(h0, .inr (4, [.ref h1, .ref q_2, .ref q_6, .ref q_10, .ref q_14, .ref q_18, .ref q_22, .ref q_26, .ref q_30, .int 0, .int 0, .int 0, .int 0, .int 0, .int 0, .int 0]))]) [0] rfl
  have hD := hD.sub (ws' := [(h0, .inr (4, [.ref h1, .ref q_2, .ref q_6, .ref q_10, .ref q_14, .ref q_18, .ref q_22, .ref q_26, .ref q_30, .int 0, .int 0, .int 0, .int 0, .int 0, .int 0, .int 0]))]) [0] (by decide) rfl
  have hK := hK.sub (tys' := []) [] rfl
  have hP : va_P (dC, dI) vwCl [(h0, .inr (4, [.ref h1, .ref q_2, .ref q_6, .ref q_10, .ref q_14, .ref q_18, .ref q_22, .ref q_26, .ref q_30, .int 0, .int 0, .int 0, .int 0, .int 0, .int 0, .int 0]))] H_33 := hP
  have hD : va_D A [(h0, .inr (4, [.ref h1, .ref q_2, .ref q_6, .ref q_10, .ref q_14, .ref q_18, .ref q_22, .ref q_26, .ref q_30, .int 0, .int 0, .int 0, .int 0, .int 0, .int 0, .int 0]))] := hD
  have hK : va_K (dC, dI) vwCl [] s := hK
  refine lv_aload_n hx hb dX3_init_86 rfl (lv_at hl 0 rfl) ?_
  refine lv_iconst (v := (-1)) hx hb dX3_init_87 (by decide) ?_
  refine va_put (D := (dC, dI)) (ci := 4) (v := .int ((-1))) (ty := .int) (C := RX3) (T := TX3) (N := 16) hx hb hts in_z_Ma_X3 tyX3 tyX3_ok nmX3 hown hK hP hD hS 0 rfl rfl 10 (by decide) (hts (.fieldLink RX3 46 "Selfkindle$Machine" "names" "I") (List.mem_of_getElem? (i := 30) rfl)) (fun _ h9 => h9) rfl (by decide +kernel) rfl rfl (Nat.le_of_ble_eq_true rfl) dX3_init_88 (fun H_34 locs hP hD hS => ?_)
  have hP : va_P (dC, dI) vwCl [(h0, .inr (4, [.ref h1, .ref q_2, .ref q_6, .ref q_10, .ref q_14, .ref q_18, .ref q_22, .ref q_26, .ref q_30, .int 0, .int ((-1)), .int 0, .int 0, .int 0, .int 0, .int 0]))] H_34 := hP
  have hD : va_D A [(h0, .inr (4, [.ref h1, .ref q_2, .ref q_6, .ref q_10, .ref q_14, .ref q_18, .ref q_22, .ref q_26, .ref q_30, .int 0, .int ((-1)), .int 0, .int 0, .int 0, .int 0, .int 0]))] := hD
  have hK : va_K (dC, dI) vwCl [] s := hK
  refine W.widen (k := 15) (n := 17210) (Nat.le_of_ble_eq_true rfl) (Nat.le_of_ble_eq_true rfl) ?_
  exact W.vret hx hb hr (fun t ht hW => ⟨⟨(), rfl, trivial, trivial⟩, hS.F ht⟩) hS.2.2 dX3_init_91

set_option maxRecDepth 20000 in
def z_Se : List Cond := .code yX7_init cX7_init 1 none :: (([.methodLink RX7 1 objectInit, .instanceMethod objectInit, .code objectInit ⟨#[0xb1]⟩ 1 none, .classLink RX7 7 RX5, .instantiable RX5 8, .initialized RX5, .methodLink RX7 11 yX5_init, .instanceMethod yX5_init, .code yX5_init cX5_init 3 none, .methodLink RX5 3 objectInit, .arrayClass .int, .fieldLink RX5 9 "Selfkindle$Term" "kinds" "[I", .fieldLink RX5 15 "Selfkindle$Term" "names" "[I", .fieldLink RX5 18 "Selfkindle$Term" "others" "[I", .arrayClass .long, .fieldLink RX5 21 "Selfkindle$Term" "numbers" "[J", .fieldLink RX5 25 "Selfkindle$Term" "sizes" "[I", .fieldLink RX5 28 "Selfkindle$Term" "binders" "[I", .fieldLink RX5 31 "Selfkindle$Term" "distances" "[I", .fieldLink RX7 14 "Selfkindle" "pile" "LSelfkindle$Term;", .fieldLink RX7 18 "Selfkindle" "told" "LSelfkindle$Term;", .fieldLink RX7 21 "Selfkindle" "current" "LSelfkindle$Term;", .fieldLink RX7 24 "Selfkindle" "wrong" "I", .classLink RX7 28 RX4, .instantiable RX4 2, .initialized RX4, .methodLink RX7 30 yX4_init, .instanceMethod yX4_init, .code yX4_init cX4_init 1 none, .methodLink RX4 3 objectInit, .classLink RX4 9 RX5, .methodLink RX4 11 yX5_init, .fieldLink RX4 14 "Selfkindle$Rewriter" "made" "LSelfkindle$Term;", .fieldLink RX4 20 "Selfkindle$Rewriter" "spare" "LSelfkindle$Term;", .fieldLink RX7 31 "Selfkindle" "rewriter" "LSelfkindle$Rewriter;", .classLink RX7 35 RX6, .instantiable RX6 15, .initialized RX6, .methodLink RX7 37 yX6_init, .instanceMethod yX6_init, .code yX6_init cX6_init 1 none, .methodLink RX6 5 objectInit, .fieldLink RX6 11 "Selfkindle$Types" "heads" "[I", .fieldLink RX6 15 "Selfkindle$Types" "lefts" "[I", .fieldLink RX6 18 "Selfkindle$Types" "rights" "[I", .fieldLink RX6 21 "Selfkindle$Types" "copies" "[I", .fieldLink RX6 24 "Selfkindle$Types" "row" "[I", .fieldLink RX6 27 "Selfkindle$Types" "work" "[I", .fieldLink RX6 30 "Selfkindle$Types" "pairs" "[I", .fieldLink RX6 33 "Selfkindle$Types" "typeOfPart" "[I", .fieldLink RX6 36 "Selfkindle$Types" "typeOfName" "[I", .fieldLink RX6 39 "Selfkindle$Types" "levels" "[I", .fieldLink RX6 42 "Selfkindle$Types" "parents" "[I", .fieldLink RX6 45 "Selfkindle$Types" "answer" "[I", .fieldLink RX7 38 "Selfkindle" "types" "LSelfkindle$Types;", .classLink RX7 42 RX0, .instantiable RX0 7, .initialized RX0, .methodLink RX7 44 yX0_init, .instanceMethod yX0_init, .code yX0_init cX0_init 1 none, .methodLink RX0 5 objectInit, .fieldLink RX0 11 "Selfkindle$Code" "whats" "[I", .fieldLink RX0 15 "Selfkindle$Code" "numbers" "[J", .fieldLink RX0 19 "Selfkindle$Code" "times" "[I", .arrayClass .boolean, .fieldLink RX0 22 "Selfkindle$Code" "stops" "[Z", .fieldLink RX0 26 "Selfkindle$Code" "lengths" "[I", .fieldLink RX0 29 "Selfkindle$Code" "places" "[I", .fieldLink RX7 45 "Selfkindle" "code" "LSelfkindle$Code;", .classLink RX7 49 RX3, .instantiable RX3 16, .initialized RX3, .methodLink RX7 51 yX3_init, .instanceMethod yX3_init, .code yX3_init cX3_init 2 none, .methodLink RX3 3 objectInit, .fieldLink RX3 9 "Selfkindle$Machine" "code" "LSelfkindle$Code;", .classLink RX3 15 RX1, .instantiable RX1 10, .initialized RX1, .methodLink RX3 17 yX1_init, .instanceMethod yX1_init, .code yX1_init cX1_init 2 none, .methodLink RX1 3 objectInit, .fieldLink RX1 9 "Selfkindle$Heap" "room" "I", .fieldLink RX1 15 "Selfkindle$Heap" "kinds" "[I", .fieldLink RX1 19 "Selfkindle$Heap" "numbers" "[J", .fieldLink RX1 23 "Selfkindle$Heap" "firsts" "[I", .fieldLink RX1 26 "Selfkindle$Heap" "seconds" "[I", .fieldLink RX1 29 "Selfkindle$Heap" "bound" "[I", .fieldLink RX1 32 "Selfkindle$Heap" "outers" "[I", .fieldLink RX1 35 "Selfkindle$Heap" "depths" "[I", .fieldLink RX3 20 "Selfkindle$Machine" "heap" "LSelfkindle$Heap;", .fieldLink RX3 24 "Selfkindle$Machine" "stack" "[I", .fieldLink RX3 28 "Selfkindle$Machine" "callPlaces" "[I", .fieldLink RX3 31 "Selfkindle$Machine" "callNames" "[I", .fieldLink RX3 34 "Selfkindle$Machine" "tryPlaces" "[I", .fieldLink RX3 37 "Selfkindle$Machine" "tryHeights" "[I", .fieldLink RX3 40 "Selfkindle$Machine" "tryNames" "[I", .fieldLink RX3 43 "Selfkindle$Machine" "tryCalls" "[I", .fieldLink RX3 46 "Selfkindle$Machine" "names" "I", .fieldLink RX7 54 "Selfkindle" "runner" "LSelfkindle$Machine;"] : List Cond) ++ wsX50 ++ wsX70 ++ wsX40 ++ wsX60 ++ wsX00 ++ wsX30 ++ wsX10)
theorem in_z_Se_X5 : ∀ w ∈ wsX50, w ∈ z_Se := fun w h => List.mem_cons_of_mem _ (List.mem_append_left _ (List.mem_append_left _ (List.mem_append_left _ (List.mem_append_left _ (List.mem_append_left _ (List.mem_append_left _ (List.mem_append_right _ (h))))))))
theorem in_z_Se_X7 : ∀ w ∈ wsX70, w ∈ z_Se := fun w h => List.mem_cons_of_mem _ (List.mem_append_left _ (List.mem_append_left _ (List.mem_append_left _ (List.mem_append_left _ (List.mem_append_left _ (List.mem_append_right _ (h)))))))
theorem in_z_Se_X4 : ∀ w ∈ wsX40, w ∈ z_Se := fun w h => List.mem_cons_of_mem _ (List.mem_append_left _ (List.mem_append_left _ (List.mem_append_left _ (List.mem_append_left _ (List.mem_append_right _ (h))))))
theorem in_z_Se_X6 : ∀ w ∈ wsX60, w ∈ z_Se := fun w h => List.mem_cons_of_mem _ (List.mem_append_left _ (List.mem_append_left _ (List.mem_append_left _ (List.mem_append_right _ (h)))))
theorem in_z_Se_X0 : ∀ w ∈ wsX00, w ∈ z_Se := fun w h => List.mem_cons_of_mem _ (List.mem_append_left _ (List.mem_append_left _ (List.mem_append_right _ (h))))
theorem in_z_Se_X3 : ∀ w ∈ wsX30, w ∈ z_Se := fun w h => List.mem_cons_of_mem _ (List.mem_append_left _ (List.mem_append_right _ (h)))
theorem in_z_Se_X1 : ∀ w ∈ wsX10, w ∈ z_Se := fun w h => List.mem_cons_of_mem _ (List.mem_append_right _ (h))
set_option maxRecDepth 20000 in
theorem g_Se_12 : GoodIn z_Se (z_Ti1200) := goodIn_p _ [9, 3] rfl (by decide +kernel)
set_option maxRecDepth 20000 in
theorem g_Se_25 : GoodIn z_Se (z_Ti60) := goodIn_p _ [9, 3] rfl (by decide +kernel)
set_option maxRecDepth 20000 in
theorem g_Se_38 : GoodIn z_Se (z_Ti60) := goodIn_p _ [9, 3] rfl (by decide +kernel)
set_option maxRecDepth 20000 in
theorem g_Se_54 : GoodIn z_Se (z_Ri) := goodIn_p _ [29, 3, 9] rfl (by decide +kernel)
set_option maxRecDepth 20000 in
theorem g_Se_65 : GoodIn z_Se (z_Ty) := goodIn_p _ [41, 3] rfl (by decide +kernel)
set_option maxRecDepth 20000 in
theorem g_Se_76 : GoodIn z_Se (z_Co) := goodIn_p _ [61, 3] rfl (by decide +kernel)
set_option maxRecDepth 20000 in
theorem g_Se_91 : GoodIn z_Se (z_Ma) := goodIn_p _ [76, 3, 84] rfl (by decide +kernel)
set_option maxHeartbeats 4000000 in
set_option maxRecDepth 100000 in
/-- Selfkindle() -/
theorem c_Se (l : Launch) (dC : Nat → ClassId) (dI : Nat → Nat → Nat) (tp te : Nat) (sz : Nat) (h0 : Nat)  : Met l yX7_init z_Se ({ frames := 3, cells := 77, slots := 77940, locals := 54 }) (va_Pc [.ref h0] (Pw dC dI [(h0, .inr (8, [.null, .int 0, .null, .null, .int 0, .null, .null, .null, .null, .null, .int 0]))] [] sz tp te)) (va_Qv (fun (_ : Unit) => True) (fun (_ : Unit) (t : State) => ∃ (q_1 : Nat), ∃ (q_19 : Nat), ∃ (q_30 : Nat), ∃ (q_42 : Nat), ∃ (q_46 : Nat), ∃ (q_50 : Nat), ∃ (q_54 : Nat), ∃ (q_4 : Nat), ∃ (q_5 : Nat), ∃ (q_6 : Nat), ∃ (q_7 : Nat), ∃ (q_8 : Nat), ∃ (q_9 : Nat), ∃ (q_10 : Nat), ∃ (cA_11 : ClassId), ∃ (cA_12 : ClassId), ∃ (cA_13 : ClassId), ∃ (cA_14 : ClassId), ∃ (cA_15 : ClassId), ∃ (cA_16 : ClassId), ∃ (cA_17 : ClassId), ∃ (q_22 : Nat), ∃ (q_23 : Nat), ∃ (q_24 : Nat), ∃ (q_25 : Nat), ∃ (q_26 : Nat), ∃ (q_27 : Nat), ∃ (q_28 : Nat), ∃ (q_33 : Nat), ∃ (q_34 : Nat), ∃ (q_35 : Nat), ∃ (q_36 : Nat), ∃ (q_37 : Nat), ∃ (q_38 : Nat), ∃ (q_39 : Nat), Bw dC dI [(h0, .inr (8, [.ref q_1, .int 0, .ref q_19, .ref q_30, .int ((-1)), .ref q_42, .ref q_46, .ref q_50, .ref q_54, .null, .int 0])), (q_1, .inr (6, [.ref q_4, .ref q_5, .ref q_6, .ref q_7, .ref q_8, .ref q_9, .ref q_10, .int 0])), (q_4, .inl (cA_11, 1200, .inl (fun _ => 0))), (q_5, .inl (cA_12, 1200, .inl (fun _ => 0))), (q_6, .inl (cA_13, 1200, .inl (fun _ => 0))), (q_7, .inl (cA_14, 1200, .inr (.inl (fun _ => 0)))), (q_8, .inl (cA_15, 1200, .inl (fun _ => 0))), (q_9, .inl (cA_16, 1200, .inl (fun _ => 0))), (q_10, .inl (cA_17, 1200, .inl (fun _ => 0))), (q_19, .inr (6, [.ref q_22, .ref q_23, .ref q_24, .ref q_25, .ref q_26, .ref q_27, .ref q_28, .int 0])), (q_30, .inr (6, [.ref q_33, .ref q_34, .ref q_35, .ref q_36, .ref q_37, .ref q_38, .ref q_39, .int 0]))] [(cA_11, .int), (cA_12, .int), (cA_13, .int), (cA_14, .long), (cA_15, .int), (cA_16, .int), (cA_17, .int)] (va_A [(h0, .inr (8, [.null, .int 0, .null, .null, .int 0, .null, .null, .null, .null, .null, .int 0]))] sz) t) (va_A [(h0, .inr (8, [.null, .int 0, .null, .null, .int 0, .null, .null, .null, .null, .null, .int 0]))] sz)) 77 77940 (va_A [(h0, .inr (8, [.null, .int 0, .null, .null, .int 0, .null, .null, .null, .null, .null, .int 0]))] sz) := by
  refine Met.ofW (cc := cX7_init) (maxL := 1) (ret := none) (by decide) rfl ?_
  intro p e s m args below meth c s₁ B hml hv
  obtain ⟨rfl, hsz, hP, hK, hD0, hG⟩ := hv
  have hx := B.exec
  have hb := B.bytes
  have hr := B.returns
  have hts := atoms_spec (ws := z_Se) B.pre
  have hown : s.vm.findClass RX7 = some m.cls := findClass_of_methodNamed B.named
  have hlocks := B.notSynchronized
  have hin : meth.name = "<init>" := (name_of_methodNamed B.named B.method).1
  subst hsz
  have hD := hD0.self (sz := s.heap.size)
  generalize hAe : va_A [(h0, .inr (8, [.null, .int 0, .null, .null, .int 0, .null, .null, .null, .null, .null, .int 0]))] s.heap.size = A at hD hG ⊢
  have hA : ∀ q : Nat, s.heap.size ≤ q → A q := fun q h => by rw [← hAe]; exact Or.inr h
  have hS : va_S A s.heap s.heap [] := va_S.rf
  have hl := lv_entry ([.ref h0]) (n := 1) (Nat.le_of_ble_eq_true rfl)
  rw [lg_entry_eq]
  generalize (lg_sl ([.ref h0]) ++ List.replicate (1 - (lg_sl ([.ref h0])).length) Slot.unset).toArray = ls at hl ⊢
  have hl : lv_has ls 1 [(0, .ref h0)] := hl
  refine lv_aload_n hx hb dX7_init_0 rfl (lv_at hl 0 rfl) ?_
  refine W.objInit hx hb hown (hts (.methodLink RX7 1 objectInit) (List.mem_of_getElem? (i := 1) rfl)) (hts (.instanceMethod objectInit) (List.mem_of_getElem? (i := 2) rfl)) (hts _ (List.mem_of_getElem? (i := 3) rfl)) rfl (by rw [hml]; exact hl.1) rfl dX7_init_1 (Nat.le_of_ble_eq_true rfl) (Nat.le_of_ble_eq_true rfl) ?_
  refine W.eq (g2 := F0 m 4 ls []) rfl ?_
  refine lv_aload_n hx hb dX7_init_4 rfl (lv_at hl 0 rfl) ?_
  refine va_new (D := (dC, dI)) (cl := vwCl) (ci := 6) (fs := [.null, .null, .null, .null, .null, .null, .null, .int 0]) (C := RX5) (T := TX5) (N := 8) hx hb hts in_z_Se_X5 tyX5 tyX5_ok hown (hts (.classLink RX7 7 RX5) (List.mem_of_getElem? (i := 4) rfl)) (hts (.instantiable RX5 8) (List.mem_of_getElem? (i := 5) rfl)) (hts (.initialized RX5) (List.mem_of_getElem? (i := 6) rfl)) hK hP hD hS hA rfl dflt_X5 (Nat.le_of_ble_eq_true rfl) (Nat.le_of_ble_eq_true rfl) dX7_init_5 (fun q_1 H_2 hP hD hS => ?_)
  have hP : va_P (dC, dI) vwCl [(h0, .inr (8, [.null, .int 0, .null, .null, .int 0, .null, .null, .null, .null, .null, .int 0])), (q_1, .inr (6, [.null, .null, .null, .null, .null, .null, .null, .int 0]))] H_2 := hP
  have hD : va_D A [(h0, .inr (8, [.null, .int 0, .null, .null, .int 0, .null, .null, .null, .null, .null, .int 0])), (q_1, .inr (6, [.null, .null, .null, .null, .null, .null, .null, .int 0]))] := hD
  have hK : va_K (dC, dI) vwCl [] s := hK
  refine W.widen (k := 1) (n := 8) (Nat.le_of_ble_eq_true rfl) (Nat.le_of_ble_eq_true rfl) ?_
  refine lv_dup hx hb dX7_init_8 rfl ?_
  refine lv_sipush (v := 1200) hx hb dX7_init_9 (by decide) ?_
  have hPc := hP.sub (ws' := [(q_1, .inr (6, [.null, .null, .null, .null, .null, .null, .null, .int 0]))]) [1] rfl
  have hDc := hD.sub (ws' := [(q_1, .inr (6, [.null, .null, .null, .null, .null, .null, .null, .int 0]))]) [1] (by decide) rfl
  have hKc := hK.sub (tys' := []) [] rfl
  have hFc := va_free (wc := [(q_1, .inr (6, [.null, .null, .null, .null, .null, .null, .null, .int 0]))]) hD hS hA [1] rfl
  refine va_callv (va_runI (As := [.int 1200]) (rest := [.ref q_1, .ref h0]) ⟨hx, hb, hml, hown, hts⟩ (c_Ti1200 l dC dI tp te H_2.size q_1) (cwI 1 hts g_Se_12 rfl rfl rfl (hts (.initialized RX5) (List.mem_of_getElem? (i := 6) rfl)) (hts (.methodLink RX7 11 yX5_init) (List.mem_of_getElem? (i := 7) rfl)) (hts (.instanceMethod yX5_init) (List.mem_of_getElem? (i := 8) rfl)) rfl (by decide +kernel) ⟨Nat.le_of_ble_eq_true rfl, Nat.le_of_ble_eq_true rfl⟩) ⟨Pw.blind, Pw.mk hPc hKc hDc hG hS hFc⟩ rfl rfl hl.1 rfl (lv_room (Nat.le_of_ble_eq_true rfl)) dX7_init_12 ⟨Nat.le_of_ble_eq_true rfl, Nat.le_of_ble_eq_true rfl⟩) hS (fun q _ h => hFc q h) hFc (fun u t9 H_3 locs ht hvm hw hB hz1 hk1 hS => ?_)
  obtain ⟨q_4, q_5, q_6, q_7, q_8, q_9, q_10, cA_11, cA_12, cA_13, cA_14, cA_15, cA_16, cA_17, hP1, hK1, hD1⟩ := hB
  rw [ht] at hP1
  have hK1 := va_K.moved hvm.symm hK1
  obtain ⟨hP, hD⟩ := va_join (wr := [(h0, .inr (8, [.null, .int 0, .null, .null, .int 0, .null, .null, .null, .null, .null, .int 0]))]) (w1 := [(q_1, .inr (6, [.ref q_4, .ref q_5, .ref q_6, .ref q_7, .ref q_8, .ref q_9, .ref q_10, .int 0])), (q_4, .inl (cA_11, 1200, .inl (fun _ => 0))), (q_5, .inl (cA_12, 1200, .inl (fun _ => 0))), (q_6, .inl (cA_13, 1200, .inl (fun _ => 0))), (q_7, .inl (cA_14, 1200, .inr (.inl (fun _ => 0)))), (q_8, .inl (cA_15, 1200, .inl (fun _ => 0))), (q_9, .inl (cA_16, 1200, .inl (fun _ => 0))), (q_10, .inl (cA_17, 1200, .inl (fun _ => 0)))]) hP hD [1] [0] rfl rfl (by decide) (by decide) hk1 hFc hP1 hD1
  have hK := (hK.sub (tys' := []) [] rfl).app hK1
  have hP : va_P (dC, dI) vwCl [(h0, .inr (8, [.null, .int 0, .null, .null, .int 0, .null, .null, .null, .null, .null, .int 0])), (q_1, .inr (6, [.ref q_4, .ref q_5, .ref q_6, .ref q_7, .ref q_8, .ref q_9, .ref q_10, .int 0])), (q_4, .inl (cA_11, 1200, .inl (fun _ => 0))), (q_5, .inl (cA_12, 1200, .inl (fun _ => 0))), (q_6, .inl (cA_13, 1200, .inl (fun _ => 0))), (q_7, .inl (cA_14, 1200, .inr (.inl (fun _ => 0)))), (q_8, .inl (cA_15, 1200, .inl (fun _ => 0))), (q_9, .inl (cA_16, 1200, .inl (fun _ => 0))), (q_10, .inl (cA_17, 1200, .inl (fun _ => 0)))] H_3 := hP
  have hD : va_D A [(h0, .inr (8, [.null, .int 0, .null, .null, .int 0, .null, .null, .null, .null, .null, .int 0])), (q_1, .inr (6, [.ref q_4, .ref q_5, .ref q_6, .ref q_7, .ref q_8, .ref q_9, .ref q_10, .int 0])), (q_4, .inl (cA_11, 1200, .inl (fun _ => 0))), (q_5, .inl (cA_12, 1200, .inl (fun _ => 0))), (q_6, .inl (cA_13, 1200, .inl (fun _ => 0))), (q_7, .inl (cA_14, 1200, .inr (.inl (fun _ => 0)))), (q_8, .inl (cA_15, 1200, .inl (fun _ => 0))), (q_9, .inl (cA_16, 1200, .inl (fun _ => 0))), (q_10, .inl (cA_17, 1200, .inl (fun _ => 0)))] := hD
  have hK : va_K (dC, dI) vwCl [(cA_11, .int), (cA_12, .int), (cA_13, .int), (cA_14, .long), (cA_15, .int), (cA_16, .int), (cA_17, .int)] s := hK
  refine W.widen (k := 8) (n := 8408) (Nat.le_of_ble_eq_true rfl) (Nat.le_of_ble_eq_true rfl) ?_
  refine va_putF (D := (dC, dI)) (ci := 8) (v := .ref q_1) (ty := .object "Selfkindle$Term") (C := RX7) (T := TX7) (N := 11) hx hb hts in_z_Se_X7 tyX7 tyX7_ok nmX7 hown hK hP hD hS 0 rfl rfl 0 (by decide) (hts (.fieldLink RX7 14 "Selfkindle" "pile" "LSelfkindle$Term;") (List.mem_of_getElem? (i := 20) rfl)) (fun _ h9 => h9) rfl hin rfl (by decide +kernel) rfl rfl (Nat.le_of_ble_eq_true rfl) dX7_init_15 (fun H_18 locs hP hD hS => ?_)
  have hP : va_P (dC, dI) vwCl [(h0, .inr (8, [.ref q_1, .int 0, .null, .null, .int 0, .null, .null, .null, .null, .null, .int 0])), (q_1, .inr (6, [.ref q_4, .ref q_5, .ref q_6, .ref q_7, .ref q_8, .ref q_9, .ref q_10, .int 0])), (q_4, .inl (cA_11, 1200, .inl (fun _ => 0))), (q_5, .inl (cA_12, 1200, .inl (fun _ => 0))), (q_6, .inl (cA_13, 1200, .inl (fun _ => 0))), (q_7, .inl (cA_14, 1200, .inr (.inl (fun _ => 0)))), (q_8, .inl (cA_15, 1200, .inl (fun _ => 0))), (q_9, .inl (cA_16, 1200, .inl (fun _ => 0))), (q_10, .inl (cA_17, 1200, .inl (fun _ => 0)))] H_18 := hP
  have hD : va_D A [(h0, .inr (8, [.ref q_1, .int 0, .null, .null, .int 0, .null, .null, .null, .null, .null, .int 0])), (q_1, .inr (6, [.ref q_4, .ref q_5, .ref q_6, .ref q_7, .ref q_8, .ref q_9, .ref q_10, .int 0])), (q_4, .inl (cA_11, 1200, .inl (fun _ => 0))), (q_5, .inl (cA_12, 1200, .inl (fun _ => 0))), (q_6, .inl (cA_13, 1200, .inl (fun _ => 0))), (q_7, .inl (cA_14, 1200, .inr (.inl (fun _ => 0)))), (q_8, .inl (cA_15, 1200, .inl (fun _ => 0))), (q_9, .inl (cA_16, 1200, .inl (fun _ => 0))), (q_10, .inl (cA_17, 1200, .inl (fun _ => 0)))] := hD
  have hK : va_K (dC, dI) vwCl [(cA_11, .int), (cA_12, .int), (cA_13, .int), (cA_14, .long), (cA_15, .int), (cA_16, .int), (cA_17, .int)] s := hK
  refine lv_aload_n hx hb dX7_init_18 rfl (lv_at hl 0 rfl) ?_
  refine va_new (D := (dC, dI)) (cl := vwCl) (ci := 6) (fs := [.null, .null, .null, .null, .null, .null, .null, .int 0]) (C := RX5) (T := TX5) (N := 8) hx hb hts in_z_Se_X5 tyX5 tyX5_ok hown (hts (.classLink RX7 7 RX5) (List.mem_of_getElem? (i := 4) rfl)) (hts (.instantiable RX5 8) (List.mem_of_getElem? (i := 5) rfl)) (hts (.initialized RX5) (List.mem_of_getElem? (i := 6) rfl)) hK hP hD hS hA rfl dflt_X5 (Nat.le_of_ble_eq_true rfl) (Nat.le_of_ble_eq_true rfl) dX7_init_19 (fun q_19 H_20 hP hD hS => ?_)
  have hP : va_P (dC, dI) vwCl [(h0, .inr (8, [.ref q_1, .int 0, .null, .null, .int 0, .null, .null, .null, .null, .null, .int 0])), (q_1, .inr (6, [.ref q_4, .ref q_5, .ref q_6, .ref q_7, .ref q_8, .ref q_9, .ref q_10, .int 0])), (q_4, .inl (cA_11, 1200, .inl (fun _ => 0))), (q_5, .inl (cA_12, 1200, .inl (fun _ => 0))), (q_6, .inl (cA_13, 1200, .inl (fun _ => 0))), (q_7, .inl (cA_14, 1200, .inr (.inl (fun _ => 0)))), (q_8, .inl (cA_15, 1200, .inl (fun _ => 0))), (q_9, .inl (cA_16, 1200, .inl (fun _ => 0))), (q_10, .inl (cA_17, 1200, .inl (fun _ => 0))), (q_19, .inr (6, [.null, .null, .null, .null, .null, .null, .null, .int 0]))] H_20 := hP
  have hD : va_D A [(h0, .inr (8, [.ref q_1, .int 0, .null, .null, .int 0, .null, .null, .null, .null, .null, .int 0])), (q_1, .inr (6, [.ref q_4, .ref q_5, .ref q_6, .ref q_7, .ref q_8, .ref q_9, .ref q_10, .int 0])), (q_4, .inl (cA_11, 1200, .inl (fun _ => 0))), (q_5, .inl (cA_12, 1200, .inl (fun _ => 0))), (q_6, .inl (cA_13, 1200, .inl (fun _ => 0))), (q_7, .inl (cA_14, 1200, .inr (.inl (fun _ => 0)))), (q_8, .inl (cA_15, 1200, .inl (fun _ => 0))), (q_9, .inl (cA_16, 1200, .inl (fun _ => 0))), (q_10, .inl (cA_17, 1200, .inl (fun _ => 0))), (q_19, .inr (6, [.null, .null, .null, .null, .null, .null, .null, .int 0]))] := hD
  have hK : va_K (dC, dI) vwCl [(cA_11, .int), (cA_12, .int), (cA_13, .int), (cA_14, .long), (cA_15, .int), (cA_16, .int), (cA_17, .int)] s := hK
  refine W.widen (k := 9) (n := 8416) (Nat.le_of_ble_eq_true rfl) (Nat.le_of_ble_eq_true rfl) ?_
  refine lv_dup hx hb dX7_init_22 rfl ?_
  refine lv_bipush (v := 60) hx hb dX7_init_23 (by decide) ?_
  have hPc := hP.sub (ws' := [(q_19, .inr (6, [.null, .null, .null, .null, .null, .null, .null, .int 0]))]) [9] rfl
  have hDc := hD.sub (ws' := [(q_19, .inr (6, [.null, .null, .null, .null, .null, .null, .null, .int 0]))]) [9] (by decide) rfl
  have hKc := hK.sub (tys' := []) [] rfl
  have hFc := va_free (wc := [(q_19, .inr (6, [.null, .null, .null, .null, .null, .null, .null, .int 0]))]) hD hS hA [9] rfl
  refine va_callv (va_runI (As := [.int 60]) (rest := [.ref q_19, .ref h0]) ⟨hx, hb, hml, hown, hts⟩ (c_Ti60 l dC dI tp te H_20.size q_19) (cwI 1 hts g_Se_25 rfl rfl rfl (hts (.initialized RX5) (List.mem_of_getElem? (i := 6) rfl)) (hts (.methodLink RX7 11 yX5_init) (List.mem_of_getElem? (i := 7) rfl)) (hts (.instanceMethod yX5_init) (List.mem_of_getElem? (i := 8) rfl)) rfl (by decide +kernel) ⟨Nat.le_of_ble_eq_true rfl, Nat.le_of_ble_eq_true rfl⟩) ⟨Pw.blind, Pw.mk hPc hKc hDc hG hS hFc⟩ rfl rfl hl.1 rfl (lv_room (Nat.le_of_ble_eq_true rfl)) dX7_init_25 ⟨Nat.le_of_ble_eq_true rfl, Nat.le_of_ble_eq_true rfl⟩) hS (fun q _ h => hFc q h) hFc (fun u t9 H_21 locs ht hvm hw hB hz1 hk1 hS => ?_)
  obtain ⟨q_22, q_23, q_24, q_25, q_26, q_27, q_28, hP1, hK1, hD1⟩ := hB
  rw [ht] at hP1
  have hK1 := va_K.moved hvm.symm hK1
  obtain ⟨hP, hD⟩ := va_join (wr := [(h0, .inr (8, [.ref q_1, .int 0, .null, .null, .int 0, .null, .null, .null, .null, .null, .int 0])), (q_1, .inr (6, [.ref q_4, .ref q_5, .ref q_6, .ref q_7, .ref q_8, .ref q_9, .ref q_10, .int 0])), (q_4, .inl (cA_11, 1200, .inl (fun _ => 0))), (q_5, .inl (cA_12, 1200, .inl (fun _ => 0))), (q_6, .inl (cA_13, 1200, .inl (fun _ => 0))), (q_7, .inl (cA_14, 1200, .inr (.inl (fun _ => 0)))), (q_8, .inl (cA_15, 1200, .inl (fun _ => 0))), (q_9, .inl (cA_16, 1200, .inl (fun _ => 0))), (q_10, .inl (cA_17, 1200, .inl (fun _ => 0)))]) (w1 := [(q_19, .inr (6, [.ref q_22, .ref q_23, .ref q_24, .ref q_25, .ref q_26, .ref q_27, .ref q_28, .int 0]))]) hP hD [9] [0, 1, 2, 3, 4, 5, 6, 7, 8] rfl rfl (by decide) (by decide) hk1 hFc hP1 hD1
  have hK := (hK.sub (tys' := [(cA_11, .int), (cA_12, .int), (cA_13, .int), (cA_14, .long), (cA_15, .int), (cA_16, .int), (cA_17, .int)]) [0, 1, 2, 3, 4, 5, 6] rfl).app hK1
  have hP : va_P (dC, dI) vwCl [(h0, .inr (8, [.ref q_1, .int 0, .null, .null, .int 0, .null, .null, .null, .null, .null, .int 0])), (q_1, .inr (6, [.ref q_4, .ref q_5, .ref q_6, .ref q_7, .ref q_8, .ref q_9, .ref q_10, .int 0])), (q_4, .inl (cA_11, 1200, .inl (fun _ => 0))), (q_5, .inl (cA_12, 1200, .inl (fun _ => 0))), (q_6, .inl (cA_13, 1200, .inl (fun _ => 0))), (q_7, .inl (cA_14, 1200, .inr (.inl (fun _ => 0)))), (q_8, .inl (cA_15, 1200, .inl (fun _ => 0))), (q_9, .inl (cA_16, 1200, .inl (fun _ => 0))), (q_10, .inl (cA_17, 1200, .inl (fun _ => 0))), (q_19, .inr (6, [.ref q_22, .ref q_23, .ref q_24, .ref q_25, .ref q_26, .ref q_27, .ref q_28, .int 0]))] H_21 := hP
  have hD : va_D A [(h0, .inr (8, [.ref q_1, .int 0, .null, .null, .int 0, .null, .null, .null, .null, .null, .int 0])), (q_1, .inr (6, [.ref q_4, .ref q_5, .ref q_6, .ref q_7, .ref q_8, .ref q_9, .ref q_10, .int 0])), (q_4, .inl (cA_11, 1200, .inl (fun _ => 0))), (q_5, .inl (cA_12, 1200, .inl (fun _ => 0))), (q_6, .inl (cA_13, 1200, .inl (fun _ => 0))), (q_7, .inl (cA_14, 1200, .inr (.inl (fun _ => 0)))), (q_8, .inl (cA_15, 1200, .inl (fun _ => 0))), (q_9, .inl (cA_16, 1200, .inl (fun _ => 0))), (q_10, .inl (cA_17, 1200, .inl (fun _ => 0))), (q_19, .inr (6, [.ref q_22, .ref q_23, .ref q_24, .ref q_25, .ref q_26, .ref q_27, .ref q_28, .int 0]))] := hD
  have hK : va_K (dC, dI) vwCl [(cA_11, .int), (cA_12, .int), (cA_13, .int), (cA_14, .long), (cA_15, .int), (cA_16, .int), (cA_17, .int)] s := hK
  refine W.widen (k := 16) (n := 8836) (Nat.le_of_ble_eq_true rfl) (Nat.le_of_ble_eq_true rfl) ?_
  refine va_putF (D := (dC, dI)) (ci := 8) (v := .ref q_19) (ty := .object "Selfkindle$Term") (C := RX7) (T := TX7) (N := 11) hx hb hts in_z_Se_X7 tyX7 tyX7_ok nmX7 hown hK hP hD hS 0 rfl rfl 2 (by decide) (hts (.fieldLink RX7 18 "Selfkindle" "told" "LSelfkindle$Term;") (List.mem_of_getElem? (i := 21) rfl)) (fun _ h9 => h9) rfl hin rfl (by decide +kernel) rfl rfl (Nat.le_of_ble_eq_true rfl) dX7_init_28 (fun H_29 locs hP hD hS => ?_)
  have hP : va_P (dC, dI) vwCl [(h0, .inr (8, [.ref q_1, .int 0, .ref q_19, .null, .int 0, .null, .null, .null, .null, .null, .int 0])), (q_1, .inr (6, [.ref q_4, .ref q_5, .ref q_6, .ref q_7, .ref q_8, .ref q_9, .ref q_10, .int 0])), (q_4, .inl (cA_11, 1200, .inl (fun _ => 0))), (q_5, .inl (cA_12, 1200, .inl (fun _ => 0))), (q_6, .inl (cA_13, 1200, .inl (fun _ => 0))), (q_7, .inl (cA_14, 1200, .inr (.inl (fun _ => 0)))), (q_8, .inl (cA_15, 1200, .inl (fun _ => 0))), (q_9, .inl (cA_16, 1200, .inl (fun _ => 0))), (q_10, .inl (cA_17, 1200, .inl (fun _ => 0))), (q_19, .inr (6, [.ref q_22, .ref q_23, .ref q_24, .ref q_25, .ref q_26, .ref q_27, .ref q_28, .int 0]))] H_29 := hP
  have hD : va_D A [(h0, .inr (8, [.ref q_1, .int 0, .ref q_19, .null, .int 0, .null, .null, .null, .null, .null, .int 0])), (q_1, .inr (6, [.ref q_4, .ref q_5, .ref q_6, .ref q_7, .ref q_8, .ref q_9, .ref q_10, .int 0])), (q_4, .inl (cA_11, 1200, .inl (fun _ => 0))), (q_5, .inl (cA_12, 1200, .inl (fun _ => 0))), (q_6, .inl (cA_13, 1200, .inl (fun _ => 0))), (q_7, .inl (cA_14, 1200, .inr (.inl (fun _ => 0)))), (q_8, .inl (cA_15, 1200, .inl (fun _ => 0))), (q_9, .inl (cA_16, 1200, .inl (fun _ => 0))), (q_10, .inl (cA_17, 1200, .inl (fun _ => 0))), (q_19, .inr (6, [.ref q_22, .ref q_23, .ref q_24, .ref q_25, .ref q_26, .ref q_27, .ref q_28, .int 0]))] := hD
  have hK : va_K (dC, dI) vwCl [(cA_11, .int), (cA_12, .int), (cA_13, .int), (cA_14, .long), (cA_15, .int), (cA_16, .int), (cA_17, .int)] s := hK
  refine lv_aload_n hx hb dX7_init_31 rfl (lv_at hl 0 rfl) ?_
  refine va_new (D := (dC, dI)) (cl := vwCl) (ci := 6) (fs := [.null, .null, .null, .null, .null, .null, .null, .int 0]) (C := RX5) (T := TX5) (N := 8) hx hb hts in_z_Se_X5 tyX5 tyX5_ok hown (hts (.classLink RX7 7 RX5) (List.mem_of_getElem? (i := 4) rfl)) (hts (.instantiable RX5 8) (List.mem_of_getElem? (i := 5) rfl)) (hts (.initialized RX5) (List.mem_of_getElem? (i := 6) rfl)) hK hP hD hS hA rfl dflt_X5 (Nat.le_of_ble_eq_true rfl) (Nat.le_of_ble_eq_true rfl) dX7_init_32 (fun q_30 H_31 hP hD hS => ?_)
  have hP : va_P (dC, dI) vwCl [(h0, .inr (8, [.ref q_1, .int 0, .ref q_19, .null, .int 0, .null, .null, .null, .null, .null, .int 0])), (q_1, .inr (6, [.ref q_4, .ref q_5, .ref q_6, .ref q_7, .ref q_8, .ref q_9, .ref q_10, .int 0])), (q_4, .inl (cA_11, 1200, .inl (fun _ => 0))), (q_5, .inl (cA_12, 1200, .inl (fun _ => 0))), (q_6, .inl (cA_13, 1200, .inl (fun _ => 0))), (q_7, .inl (cA_14, 1200, .inr (.inl (fun _ => 0)))), (q_8, .inl (cA_15, 1200, .inl (fun _ => 0))), (q_9, .inl (cA_16, 1200, .inl (fun _ => 0))), (q_10, .inl (cA_17, 1200, .inl (fun _ => 0))), (q_19, .inr (6, [.ref q_22, .ref q_23, .ref q_24, .ref q_25, .ref q_26, .ref q_27, .ref q_28, .int 0])), (q_30, .inr (6, [.null, .null, .null, .null, .null, .null, .null, .int 0]))] H_31 := hP
  have hD : va_D A [(h0, .inr (8, [.ref q_1, .int 0, .ref q_19, .null, .int 0, .null, .null, .null, .null, .null, .int 0])), (q_1, .inr (6, [.ref q_4, .ref q_5, .ref q_6, .ref q_7, .ref q_8, .ref q_9, .ref q_10, .int 0])), (q_4, .inl (cA_11, 1200, .inl (fun _ => 0))), (q_5, .inl (cA_12, 1200, .inl (fun _ => 0))), (q_6, .inl (cA_13, 1200, .inl (fun _ => 0))), (q_7, .inl (cA_14, 1200, .inr (.inl (fun _ => 0)))), (q_8, .inl (cA_15, 1200, .inl (fun _ => 0))), (q_9, .inl (cA_16, 1200, .inl (fun _ => 0))), (q_10, .inl (cA_17, 1200, .inl (fun _ => 0))), (q_19, .inr (6, [.ref q_22, .ref q_23, .ref q_24, .ref q_25, .ref q_26, .ref q_27, .ref q_28, .int 0])), (q_30, .inr (6, [.null, .null, .null, .null, .null, .null, .null, .int 0]))] := hD
  have hK : va_K (dC, dI) vwCl [(cA_11, .int), (cA_12, .int), (cA_13, .int), (cA_14, .long), (cA_15, .int), (cA_16, .int), (cA_17, .int)] s := hK
  refine W.widen (k := 17) (n := 8844) (Nat.le_of_ble_eq_true rfl) (Nat.le_of_ble_eq_true rfl) ?_
  refine lv_dup hx hb dX7_init_35 rfl ?_
  refine lv_bipush (v := 60) hx hb dX7_init_36 (by decide) ?_
  have hPc := hP.sub (ws' := [(q_30, .inr (6, [.null, .null, .null, .null, .null, .null, .null, .int 0]))]) [10] rfl
  have hDc := hD.sub (ws' := [(q_30, .inr (6, [.null, .null, .null, .null, .null, .null, .null, .int 0]))]) [10] (by decide) rfl
  have hKc := hK.sub (tys' := []) [] rfl
  have hFc := va_free (wc := [(q_30, .inr (6, [.null, .null, .null, .null, .null, .null, .null, .int 0]))]) hD hS hA [10] rfl
  refine va_callv (va_runI (As := [.int 60]) (rest := [.ref q_30, .ref h0]) ⟨hx, hb, hml, hown, hts⟩ (c_Ti60 l dC dI tp te H_31.size q_30) (cwI 1 hts g_Se_38 rfl rfl rfl (hts (.initialized RX5) (List.mem_of_getElem? (i := 6) rfl)) (hts (.methodLink RX7 11 yX5_init) (List.mem_of_getElem? (i := 7) rfl)) (hts (.instanceMethod yX5_init) (List.mem_of_getElem? (i := 8) rfl)) rfl (by decide +kernel) ⟨Nat.le_of_ble_eq_true rfl, Nat.le_of_ble_eq_true rfl⟩) ⟨Pw.blind, Pw.mk hPc hKc hDc hG hS hFc⟩ rfl rfl hl.1 rfl (lv_room (Nat.le_of_ble_eq_true rfl)) dX7_init_38 ⟨Nat.le_of_ble_eq_true rfl, Nat.le_of_ble_eq_true rfl⟩) hS (fun q _ h => hFc q h) hFc (fun u t9 H_32 locs ht hvm hw hB hz1 hk1 hS => ?_)
  obtain ⟨q_33, q_34, q_35, q_36, q_37, q_38, q_39, hP1, hK1, hD1⟩ := hB
  rw [ht] at hP1
  have hK1 := va_K.moved hvm.symm hK1
  obtain ⟨hP, hD⟩ := va_join (wr := [(h0, .inr (8, [.ref q_1, .int 0, .ref q_19, .null, .int 0, .null, .null, .null, .null, .null, .int 0])), (q_1, .inr (6, [.ref q_4, .ref q_5, .ref q_6, .ref q_7, .ref q_8, .ref q_9, .ref q_10, .int 0])), (q_4, .inl (cA_11, 1200, .inl (fun _ => 0))), (q_5, .inl (cA_12, 1200, .inl (fun _ => 0))), (q_6, .inl (cA_13, 1200, .inl (fun _ => 0))), (q_7, .inl (cA_14, 1200, .inr (.inl (fun _ => 0)))), (q_8, .inl (cA_15, 1200, .inl (fun _ => 0))), (q_9, .inl (cA_16, 1200, .inl (fun _ => 0))), (q_10, .inl (cA_17, 1200, .inl (fun _ => 0))), (q_19, .inr (6, [.ref q_22, .ref q_23, .ref q_24, .ref q_25, .ref q_26, .ref q_27, .ref q_28, .int 0]))]) (w1 := [(q_30, .inr (6, [.ref q_33, .ref q_34, .ref q_35, .ref q_36, .ref q_37, .ref q_38, .ref q_39, .int 0]))]) hP hD [10] [0, 1, 2, 3, 4, 5, 6, 7, 8, 9] rfl rfl (by decide) (by decide) hk1 hFc hP1 hD1
  have hK := (hK.sub (tys' := [(cA_11, .int), (cA_12, .int), (cA_13, .int), (cA_14, .long), (cA_15, .int), (cA_16, .int), (cA_17, .int)]) [0, 1, 2, 3, 4, 5, 6] rfl).app hK1
  have hP : va_P (dC, dI) vwCl [(h0, .inr (8, [.ref q_1, .int 0, .ref q_19, .null, .int 0, .null, .null, .null, .null, .null, .int 0])), (q_1, .inr (6, [.ref q_4, .ref q_5, .ref q_6, .ref q_7, .ref q_8, .ref q_9, .ref q_10, .int 0])), (q_4, .inl (cA_11, 1200, .inl (fun _ => 0))), (q_5, .inl (cA_12, 1200, .inl (fun _ => 0))), (q_6, .inl (cA_13, 1200, .inl (fun _ => 0))), (q_7, .inl (cA_14, 1200, .inr (.inl (fun _ => 0)))), (q_8, .inl (cA_15, 1200, .inl (fun _ => 0))), (q_9, .inl (cA_16, 1200, .inl (fun _ => 0))), (q_10, .inl (cA_17, 1200, .inl (fun _ => 0))), (q_19, .inr (6, [.ref q_22, .ref q_23, .ref q_24, .ref q_25, .ref q_26, .ref q_27, .ref q_28, .int 0])), (q_30, .inr (6, [.ref q_33, .ref q_34, .ref q_35, .ref q_36, .ref q_37, .ref q_38, .ref q_39, .int 0]))] H_32 := hP
  have hD : va_D A [(h0, .inr (8, [.ref q_1, .int 0, .ref q_19, .null, .int 0, .null, .null, .null, .null, .null, .int 0])), (q_1, .inr (6, [.ref q_4, .ref q_5, .ref q_6, .ref q_7, .ref q_8, .ref q_9, .ref q_10, .int 0])), (q_4, .inl (cA_11, 1200, .inl (fun _ => 0))), (q_5, .inl (cA_12, 1200, .inl (fun _ => 0))), (q_6, .inl (cA_13, 1200, .inl (fun _ => 0))), (q_7, .inl (cA_14, 1200, .inr (.inl (fun _ => 0)))), (q_8, .inl (cA_15, 1200, .inl (fun _ => 0))), (q_9, .inl (cA_16, 1200, .inl (fun _ => 0))), (q_10, .inl (cA_17, 1200, .inl (fun _ => 0))), (q_19, .inr (6, [.ref q_22, .ref q_23, .ref q_24, .ref q_25, .ref q_26, .ref q_27, .ref q_28, .int 0])), (q_30, .inr (6, [.ref q_33, .ref q_34, .ref q_35, .ref q_36, .ref q_37, .ref q_38, .ref q_39, .int 0]))] := hD
  have hK : va_K (dC, dI) vwCl [(cA_11, .int), (cA_12, .int), (cA_13, .int), (cA_14, .long), (cA_15, .int), (cA_16, .int), (cA_17, .int)] s := hK
  refine W.widen (k := 24) (n := 9264) (Nat.le_of_ble_eq_true rfl) (Nat.le_of_ble_eq_true rfl) ?_
  refine va_putF (D := (dC, dI)) (ci := 8) (v := .ref q_30) (ty := .object "Selfkindle$Term") (C := RX7) (T := TX7) (N := 11) hx hb hts in_z_Se_X7 tyX7 tyX7_ok nmX7 hown hK hP hD hS 0 rfl rfl 3 (by decide) (hts (.fieldLink RX7 21 "Selfkindle" "current" "LSelfkindle$Term;") (List.mem_of_getElem? (i := 22) rfl)) (fun _ h9 => h9) rfl hin rfl (by decide +kernel) rfl rfl (Nat.le_of_ble_eq_true rfl) dX7_init_41 (fun H_40 locs hP hD hS => ?_)
  have hP : va_P (dC, dI) vwCl [(h0, .inr (8, [.ref q_1, .int 0, .ref q_19, .ref q_30, .int 0, .null, .null, .null, .null, .null, .int 0])), (q_1, .inr (6, [.ref q_4, .ref q_5, .ref q_6, .ref q_7, .ref q_8, .ref q_9, .ref q_10, .int 0])), (q_4, .inl (cA_11, 1200, .inl (fun _ => 0))), (q_5, .inl (cA_12, 1200, .inl (fun _ => 0))), (q_6, .inl (cA_13, 1200, .inl (fun _ => 0))), (q_7, .inl (cA_14, 1200, .inr (.inl (fun _ => 0)))), (q_8, .inl (cA_15, 1200, .inl (fun _ => 0))), (q_9, .inl (cA_16, 1200, .inl (fun _ => 0))), (q_10, .inl (cA_17, 1200, .inl (fun _ => 0))), (q_19, .inr (6, [.ref q_22, .ref q_23, .ref q_24, .ref q_25, .ref q_26, .ref q_27, .ref q_28, .int 0])), (q_30, .inr (6, [.ref q_33, .ref q_34, .ref q_35, .ref q_36, .ref q_37, .ref q_38, .ref q_39, .int 0]))] H_40 := hP
  have hD : va_D A [(h0, .inr (8, [.ref q_1, .int 0, .ref q_19, .ref q_30, .int 0, .null, .null, .null, .null, .null, .int 0])), (q_1, .inr (6, [.ref q_4, .ref q_5, .ref q_6, .ref q_7, .ref q_8, .ref q_9, .ref q_10, .int 0])), (q_4, .inl (cA_11, 1200, .inl (fun _ => 0))), (q_5, .inl (cA_12, 1200, .inl (fun _ => 0))), (q_6, .inl (cA_13, 1200, .inl (fun _ => 0))), (q_7, .inl (cA_14, 1200, .inr (.inl (fun _ => 0)))), (q_8, .inl (cA_15, 1200, .inl (fun _ => 0))), (q_9, .inl (cA_16, 1200, .inl (fun _ => 0))), (q_10, .inl (cA_17, 1200, .inl (fun _ => 0))), (q_19, .inr (6, [.ref q_22, .ref q_23, .ref q_24, .ref q_25, .ref q_26, .ref q_27, .ref q_28, .int 0])), (q_30, .inr (6, [.ref q_33, .ref q_34, .ref q_35, .ref q_36, .ref q_37, .ref q_38, .ref q_39, .int 0]))] := hD
  have hK : va_K (dC, dI) vwCl [(cA_11, .int), (cA_12, .int), (cA_13, .int), (cA_14, .long), (cA_15, .int), (cA_16, .int), (cA_17, .int)] s := hK
  refine lv_aload_n hx hb dX7_init_44 rfl (lv_at hl 0 rfl) ?_
  refine lv_iconst (v := (-1)) hx hb dX7_init_45 (by decide) ?_
  refine va_put (D := (dC, dI)) (ci := 8) (v := .int ((-1))) (ty := .int) (C := RX7) (T := TX7) (N := 11) hx hb hts in_z_Se_X7 tyX7 tyX7_ok nmX7 hown hK hP hD hS 0 rfl rfl 4 (by decide) (hts (.fieldLink RX7 24 "Selfkindle" "wrong" "I") (List.mem_of_getElem? (i := 23) rfl)) (fun _ h9 => h9) rfl (by decide +kernel) rfl rfl (Nat.le_of_ble_eq_true rfl) dX7_init_46 (fun H_41 locs hP hD hS => ?_)
  have hP : va_P (dC, dI) vwCl [(h0, .inr (8, [.ref q_1, .int 0, .ref q_19, .ref q_30, .int ((-1)), .null, .null, .null, .null, .null, .int 0])), (q_1, .inr (6, [.ref q_4, .ref q_5, .ref q_6, .ref q_7, .ref q_8, .ref q_9, .ref q_10, .int 0])), (q_4, .inl (cA_11, 1200, .inl (fun _ => 0))), (q_5, .inl (cA_12, 1200, .inl (fun _ => 0))), (q_6, .inl (cA_13, 1200, .inl (fun _ => 0))), (q_7, .inl (cA_14, 1200, .inr (.inl (fun _ => 0)))), (q_8, .inl (cA_15, 1200, .inl (fun _ => 0))), (q_9, .inl (cA_16, 1200, .inl (fun _ => 0))), (q_10, .inl (cA_17, 1200, .inl (fun _ => 0))), (q_19, .inr (6, [.ref q_22, .ref q_23, .ref q_24, .ref q_25, .ref q_26, .ref q_27, .ref q_28, .int 0])), (q_30, .inr (6, [.ref q_33, .ref q_34, .ref q_35, .ref q_36, .ref q_37, .ref q_38, .ref q_39, .int 0]))] H_41 := hP
  have hD : va_D A [(h0, .inr (8, [.ref q_1, .int 0, .ref q_19, .ref q_30, .int ((-1)), .null, .null, .null, .null, .null, .int 0])), (q_1, .inr (6, [.ref q_4, .ref q_5, .ref q_6, .ref q_7, .ref q_8, .ref q_9, .ref q_10, .int 0])), (q_4, .inl (cA_11, 1200, .inl (fun _ => 0))), (q_5, .inl (cA_12, 1200, .inl (fun _ => 0))), (q_6, .inl (cA_13, 1200, .inl (fun _ => 0))), (q_7, .inl (cA_14, 1200, .inr (.inl (fun _ => 0)))), (q_8, .inl (cA_15, 1200, .inl (fun _ => 0))), (q_9, .inl (cA_16, 1200, .inl (fun _ => 0))), (q_10, .inl (cA_17, 1200, .inl (fun _ => 0))), (q_19, .inr (6, [.ref q_22, .ref q_23, .ref q_24, .ref q_25, .ref q_26, .ref q_27, .ref q_28, .int 0])), (q_30, .inr (6, [.ref q_33, .ref q_34, .ref q_35, .ref q_36, .ref q_37, .ref q_38, .ref q_39, .int 0]))] := hD
  have hK : va_K (dC, dI) vwCl [(cA_11, .int), (cA_12, .int), (cA_13, .int), (cA_14, .long), (cA_15, .int), (cA_16, .int), (cA_17, .int)] s := hK
  refine lv_aload_n hx hb dX7_init_49 rfl (lv_at hl 0 rfl) ?_
  refine va_new (D := (dC, dI)) (cl := vwCl) (ci := 5) (fs := [.null, .null]) (C := RX4) (T := TX4) (N := 2) hx hb hts in_z_Se_X4 tyX4 tyX4_ok hown (hts (.classLink RX7 28 RX4) (List.mem_of_getElem? (i := 24) rfl)) (hts (.instantiable RX4 2) (List.mem_of_getElem? (i := 25) rfl)) (hts (.initialized RX4) (List.mem_of_getElem? (i := 26) rfl)) hK hP hD hS hA rfl dflt_X4 (Nat.le_of_ble_eq_true rfl) (Nat.le_of_ble_eq_true rfl) dX7_init_50 (fun q_42 H_43 hP hD hS => ?_)
  have hP : va_P (dC, dI) vwCl [(h0, .inr (8, [.ref q_1, .int 0, .ref q_19, .ref q_30, .int ((-1)), .null, .null, .null, .null, .null, .int 0])), (q_1, .inr (6, [.ref q_4, .ref q_5, .ref q_6, .ref q_7, .ref q_8, .ref q_9, .ref q_10, .int 0])), (q_4, .inl (cA_11, 1200, .inl (fun _ => 0))), (q_5, .inl (cA_12, 1200, .inl (fun _ => 0))), (q_6, .inl (cA_13, 1200, .inl (fun _ => 0))), (q_7, .inl (cA_14, 1200, .inr (.inl (fun _ => 0)))), (q_8, .inl (cA_15, 1200, .inl (fun _ => 0))), (q_9, .inl (cA_16, 1200, .inl (fun _ => 0))), (q_10, .inl (cA_17, 1200, .inl (fun _ => 0))), (q_19, .inr (6, [.ref q_22, .ref q_23, .ref q_24, .ref q_25, .ref q_26, .ref q_27, .ref q_28, .int 0])), (q_30, .inr (6, [.ref q_33, .ref q_34, .ref q_35, .ref q_36, .ref q_37, .ref q_38, .ref q_39, .int 0])), (q_42, .inr (5, [.null, .null]))] H_43 := hP
  have hD : va_D A [(h0, .inr (8, [.ref q_1, .int 0, .ref q_19, .ref q_30, .int ((-1)), .null, .null, .null, .null, .null, .int 0])), (q_1, .inr (6, [.ref q_4, .ref q_5, .ref q_6, .ref q_7, .ref q_8, .ref q_9, .ref q_10, .int 0])), (q_4, .inl (cA_11, 1200, .inl (fun _ => 0))), (q_5, .inl (cA_12, 1200, .inl (fun _ => 0))), (q_6, .inl (cA_13, 1200, .inl (fun _ => 0))), (q_7, .inl (cA_14, 1200, .inr (.inl (fun _ => 0)))), (q_8, .inl (cA_15, 1200, .inl (fun _ => 0))), (q_9, .inl (cA_16, 1200, .inl (fun _ => 0))), (q_10, .inl (cA_17, 1200, .inl (fun _ => 0))), (q_19, .inr (6, [.ref q_22, .ref q_23, .ref q_24, .ref q_25, .ref q_26, .ref q_27, .ref q_28, .int 0])), (q_30, .inr (6, [.ref q_33, .ref q_34, .ref q_35, .ref q_36, .ref q_37, .ref q_38, .ref q_39, .int 0])), (q_42, .inr (5, [.null, .null]))] := hD
  have hK : va_K (dC, dI) vwCl [(cA_11, .int), (cA_12, .int), (cA_13, .int), (cA_14, .long), (cA_15, .int), (cA_16, .int), (cA_17, .int)] s := hK
  refine W.widen (k := 25) (n := 9266) (Nat.le_of_ble_eq_true rfl) (Nat.le_of_ble_eq_true rfl) ?_
  refine lv_dup hx hb dX7_init_53 rfl ?_
  have hPc := hP.sub (ws' := [(q_42, .inr (5, [.null, .null]))]) [11] rfl
  have hDc := hD.sub (ws' := [(q_42, .inr (5, [.null, .null]))]) [11] (by decide) rfl
  have hKc := hK.sub (tys' := []) [] rfl
  have hFc := va_free (wc := [(q_42, .inr (5, [.null, .null]))]) hD hS hA [11] rfl
  refine va_callv (va_runI (As := []) (rest := [.ref q_42, .ref h0]) ⟨hx, hb, hml, hown, hts⟩ (c_Ri l dC dI tp te H_43.size q_42) (cwI 0 hts g_Se_54 rfl rfl rfl (hts (.initialized RX4) (List.mem_of_getElem? (i := 26) rfl)) (hts (.methodLink RX7 30 yX4_init) (List.mem_of_getElem? (i := 27) rfl)) (hts (.instanceMethod yX4_init) (List.mem_of_getElem? (i := 28) rfl)) rfl (by decide +kernel) ⟨Nat.le_of_ble_eq_true rfl, Nat.le_of_ble_eq_true rfl⟩) ⟨Pw.blind, Pw.mk hPc hKc hDc hG hS hFc⟩ rfl rfl hl.1 rfl (lv_room (Nat.le_of_ble_eq_true rfl)) dX7_init_54 ⟨Nat.le_of_ble_eq_true rfl, Nat.le_of_ble_eq_true rfl⟩) hS (fun q _ h => hFc q h) hFc (fun u t9 H_44 locs ht hvm hw hB hz1 hk1 hS => ?_)
  obtain ⟨hP, hD⟩ := va_join (wr := [(h0, .inr (8, [.ref q_1, .int 0, .ref q_19, .ref q_30, .int ((-1)), .null, .null, .null, .null, .null, .int 0])), (q_1, .inr (6, [.ref q_4, .ref q_5, .ref q_6, .ref q_7, .ref q_8, .ref q_9, .ref q_10, .int 0])), (q_4, .inl (cA_11, 1200, .inl (fun _ => 0))), (q_5, .inl (cA_12, 1200, .inl (fun _ => 0))), (q_6, .inl (cA_13, 1200, .inl (fun _ => 0))), (q_7, .inl (cA_14, 1200, .inr (.inl (fun _ => 0)))), (q_8, .inl (cA_15, 1200, .inl (fun _ => 0))), (q_9, .inl (cA_16, 1200, .inl (fun _ => 0))), (q_10, .inl (cA_17, 1200, .inl (fun _ => 0))), (q_19, .inr (6, [.ref q_22, .ref q_23, .ref q_24, .ref q_25, .ref q_26, .ref q_27, .ref q_28, .int 0])), (q_30, .inr (6, [.ref q_33, .ref q_34, .ref q_35, .ref q_36, .ref q_37, .ref q_38, .ref q_39, .int 0]))]) (w1 := []) hP hD [11] [0, 1, 2, 3, 4, 5, 6, 7, 8, 9, 10] rfl rfl (by decide) (by decide) hk1 hFc va_P.nil va_D.nil
  have hK := hK.sub (tys' := [(cA_11, .int), (cA_12, .int), (cA_13, .int), (cA_14, .long), (cA_15, .int), (cA_16, .int), (cA_17, .int)]) [0, 1, 2, 3, 4, 5, 6] rfl
  have hP : va_P (dC, dI) vwCl [(h0, .inr (8, [.ref q_1, .int 0, .ref q_19, .ref q_30, .int ((-1)), .null, .null, .null, .null, .null, .int 0])), (q_1, .inr (6, [.ref q_4, .ref q_5, .ref q_6, .ref q_7, .ref q_8, .ref q_9, .ref q_10, .int 0])), (q_4, .inl (cA_11, 1200, .inl (fun _ => 0))), (q_5, .inl (cA_12, 1200, .inl (fun _ => 0))), (q_6, .inl (cA_13, 1200, .inl (fun _ => 0))), (q_7, .inl (cA_14, 1200, .inr (.inl (fun _ => 0)))), (q_8, .inl (cA_15, 1200, .inl (fun _ => 0))), (q_9, .inl (cA_16, 1200, .inl (fun _ => 0))), (q_10, .inl (cA_17, 1200, .inl (fun _ => 0))), (q_19, .inr (6, [.ref q_22, .ref q_23, .ref q_24, .ref q_25, .ref q_26, .ref q_27, .ref q_28, .int 0])), (q_30, .inr (6, [.ref q_33, .ref q_34, .ref q_35, .ref q_36, .ref q_37, .ref q_38, .ref q_39, .int 0]))] H_44 := hP
  have hD : va_D A [(h0, .inr (8, [.ref q_1, .int 0, .ref q_19, .ref q_30, .int ((-1)), .null, .null, .null, .null, .null, .int 0])), (q_1, .inr (6, [.ref q_4, .ref q_5, .ref q_6, .ref q_7, .ref q_8, .ref q_9, .ref q_10, .int 0])), (q_4, .inl (cA_11, 1200, .inl (fun _ => 0))), (q_5, .inl (cA_12, 1200, .inl (fun _ => 0))), (q_6, .inl (cA_13, 1200, .inl (fun _ => 0))), (q_7, .inl (cA_14, 1200, .inr (.inl (fun _ => 0)))), (q_8, .inl (cA_15, 1200, .inl (fun _ => 0))), (q_9, .inl (cA_16, 1200, .inl (fun _ => 0))), (q_10, .inl (cA_17, 1200, .inl (fun _ => 0))), (q_19, .inr (6, [.ref q_22, .ref q_23, .ref q_24, .ref q_25, .ref q_26, .ref q_27, .ref q_28, .int 0])), (q_30, .inr (6, [.ref q_33, .ref q_34, .ref q_35, .ref q_36, .ref q_37, .ref q_38, .ref q_39, .int 0]))] := hD
  have hK : va_K (dC, dI) vwCl [(cA_11, .int), (cA_12, .int), (cA_13, .int), (cA_14, .long), (cA_15, .int), (cA_16, .int), (cA_17, .int)] s := hK
  refine W.widen (k := 41) (n := 10122) (Nat.le_of_ble_eq_true rfl) (Nat.le_of_ble_eq_true rfl) ?_
  refine va_putF (D := (dC, dI)) (ci := 8) (v := .ref q_42) (ty := .object "Selfkindle$Rewriter") (C := RX7) (T := TX7) (N := 11) hx hb hts in_z_Se_X7 tyX7 tyX7_ok nmX7 hown hK hP hD hS 0 rfl rfl 5 (by decide) (hts (.fieldLink RX7 31 "Selfkindle" "rewriter" "LSelfkindle$Rewriter;") (List.mem_of_getElem? (i := 35) rfl)) (fun _ h9 => h9) rfl hin rfl (by decide +kernel) rfl rfl (Nat.le_of_ble_eq_true rfl) dX7_init_57 (fun H_45 locs hP hD hS => ?_)
  have hP : va_P (dC, dI) vwCl [(h0, .inr (8, [.ref q_1, .int 0, .ref q_19, .ref q_30, .int ((-1)), .ref q_42, .null, .null, .null, .null, .int 0])), (q_1, .inr (6, [.ref q_4, .ref q_5, .ref q_6, .ref q_7, .ref q_8, .ref q_9, .ref q_10, .int 0])), (q_4, .inl (cA_11, 1200, .inl (fun _ => 0))), (q_5, .inl (cA_12, 1200, .inl (fun _ => 0))), (q_6, .inl (cA_13, 1200, .inl (fun _ => 0))), (q_7, .inl (cA_14, 1200, .inr (.inl (fun _ => 0)))), (q_8, .inl (cA_15, 1200, .inl (fun _ => 0))), (q_9, .inl (cA_16, 1200, .inl (fun _ => 0))), (q_10, .inl (cA_17, 1200, .inl (fun _ => 0))), (q_19, .inr (6, [.ref q_22, .ref q_23, .ref q_24, .ref q_25, .ref q_26, .ref q_27, .ref q_28, .int 0])), (q_30, .inr (6, [.ref q_33, .ref q_34, .ref q_35, .ref q_36, .ref q_37, .ref q_38, .ref q_39, .int 0]))] H_45 := hP
  have hD : va_D A [(h0, .inr (8, [.ref q_1, .int 0, .ref q_19, .ref q_30, .int ((-1)), .ref q_42, .null, .null, .null, .null, .int 0])), (q_1, .inr (6, [.ref q_4, .ref q_5, .ref q_6, .ref q_7, .ref q_8, .ref q_9, .ref q_10, .int 0])), (q_4, .inl (cA_11, 1200, .inl (fun _ => 0))), (q_5, .inl (cA_12, 1200, .inl (fun _ => 0))), (q_6, .inl (cA_13, 1200, .inl (fun _ => 0))), (q_7, .inl (cA_14, 1200, .inr (.inl (fun _ => 0)))), (q_8, .inl (cA_15, 1200, .inl (fun _ => 0))), (q_9, .inl (cA_16, 1200, .inl (fun _ => 0))), (q_10, .inl (cA_17, 1200, .inl (fun _ => 0))), (q_19, .inr (6, [.ref q_22, .ref q_23, .ref q_24, .ref q_25, .ref q_26, .ref q_27, .ref q_28, .int 0])), (q_30, .inr (6, [.ref q_33, .ref q_34, .ref q_35, .ref q_36, .ref q_37, .ref q_38, .ref q_39, .int 0]))] := hD
  have hK : va_K (dC, dI) vwCl [(cA_11, .int), (cA_12, .int), (cA_13, .int), (cA_14, .long), (cA_15, .int), (cA_16, .int), (cA_17, .int)] s := hK
  refine lv_aload_n hx hb dX7_init_60 rfl (lv_at hl 0 rfl) ?_
  refine va_new (D := (dC, dI)) (cl := vwCl) (ci := 7) (fs := [.null, .null, .null, .null, .int 0, .null, .null, .null, .null, .null, .null, .null, .null, .int 0, .int 0]) (C := RX6) (T := TX6) (N := 15) hx hb hts in_z_Se_X6 tyX6 tyX6_ok hown (hts (.classLink RX7 35 RX6) (List.mem_of_getElem? (i := 36) rfl)) (hts (.instantiable RX6 15) (List.mem_of_getElem? (i := 37) rfl)) (hts (.initialized RX6) (List.mem_of_getElem? (i := 38) rfl)) hK hP hD hS hA rfl dflt_X6 (Nat.le_of_ble_eq_true rfl) (Nat.le_of_ble_eq_true rfl) dX7_init_61 (fun q_46 H_47 hP hD hS => ?_)
  have hP : va_P (dC, dI) vwCl [(h0, .inr (8, [.ref q_1, .int 0, .ref q_19, .ref q_30, .int ((-1)), .ref q_42, .null, .null, .null, .null, .int 0])), (q_1, .inr (6, [.ref q_4, .ref q_5, .ref q_6, .ref q_7, .ref q_8, .ref q_9, .ref q_10, .int 0])), (q_4, .inl (cA_11, 1200, .inl (fun _ => 0))), (q_5, .inl (cA_12, 1200, .inl (fun _ => 0))), (q_6, .inl (cA_13, 1200, .inl (fun _ => 0))), (q_7, .inl (cA_14, 1200, .inr (.inl (fun _ => 0)))), (q_8, .inl (cA_15, 1200, .inl (fun _ => 0))), (q_9, .inl (cA_16, 1200, .inl (fun _ => 0))), (q_10, .inl (cA_17, 1200, .inl (fun _ => 0))), (q_19, .inr (6, [.ref q_22, .ref q_23, .ref q_24, .ref q_25, .ref q_26, .ref q_27, .ref q_28, .int 0])), (q_30, .inr (6, [.ref q_33, .ref q_34, .ref q_35, .ref q_36, .ref q_37, .ref q_38, .ref q_39, .int 0])), (q_46, .inr (7, [.null, .null, .null, .null, .int 0, .null, .null, .null, .null, .null, .null, .null, .null, .int 0, .int 0]))] H_47 := hP
  have hD : va_D A [(h0, .inr (8, [.ref q_1, .int 0, .ref q_19, .ref q_30, .int ((-1)), .ref q_42, .null, .null, .null, .null, .int 0])), (q_1, .inr (6, [.ref q_4, .ref q_5, .ref q_6, .ref q_7, .ref q_8, .ref q_9, .ref q_10, .int 0])), (q_4, .inl (cA_11, 1200, .inl (fun _ => 0))), (q_5, .inl (cA_12, 1200, .inl (fun _ => 0))), (q_6, .inl (cA_13, 1200, .inl (fun _ => 0))), (q_7, .inl (cA_14, 1200, .inr (.inl (fun _ => 0)))), (q_8, .inl (cA_15, 1200, .inl (fun _ => 0))), (q_9, .inl (cA_16, 1200, .inl (fun _ => 0))), (q_10, .inl (cA_17, 1200, .inl (fun _ => 0))), (q_19, .inr (6, [.ref q_22, .ref q_23, .ref q_24, .ref q_25, .ref q_26, .ref q_27, .ref q_28, .int 0])), (q_30, .inr (6, [.ref q_33, .ref q_34, .ref q_35, .ref q_36, .ref q_37, .ref q_38, .ref q_39, .int 0])), (q_46, .inr (7, [.null, .null, .null, .null, .int 0, .null, .null, .null, .null, .null, .null, .null, .null, .int 0, .int 0]))] := hD
  have hK : va_K (dC, dI) vwCl [(cA_11, .int), (cA_12, .int), (cA_13, .int), (cA_14, .long), (cA_15, .int), (cA_16, .int), (cA_17, .int)] s := hK
  refine W.widen (k := 42) (n := 10137) (Nat.le_of_ble_eq_true rfl) (Nat.le_of_ble_eq_true rfl) ?_
  refine lv_dup hx hb dX7_init_64 rfl ?_
  have hPc := hP.sub (ws' := [(q_46, .inr (7, [.null, .null, .null, .null, .int 0, .null, .null, .null, .null, .null, .null, .null, .null, .int 0, .int 0]))]) [11] rfl
  have hDc := hD.sub (ws' := [(q_46, .inr (7, [.null, .null, .null, .null, .int 0, .null, .null, .null, .null, .null, .null, .null, .null, .int 0, .int 0]))]) [11] (by decide) rfl
  have hKc := hK.sub (tys' := []) [] rfl
  have hFc := va_free (wc := [(q_46, .inr (7, [.null, .null, .null, .null, .int 0, .null, .null, .null, .null, .null, .null, .null, .null, .int 0, .int 0]))]) hD hS hA [11] rfl
  refine va_callv (va_runI (As := []) (rest := [.ref q_46, .ref h0]) ⟨hx, hb, hml, hown, hts⟩ (c_Ty l dC dI tp te H_47.size q_46) (cwI 0 hts g_Se_65 rfl rfl rfl (hts (.initialized RX6) (List.mem_of_getElem? (i := 38) rfl)) (hts (.methodLink RX7 37 yX6_init) (List.mem_of_getElem? (i := 39) rfl)) (hts (.instanceMethod yX6_init) (List.mem_of_getElem? (i := 40) rfl)) rfl (by decide +kernel) ⟨Nat.le_of_ble_eq_true rfl, Nat.le_of_ble_eq_true rfl⟩) ⟨Pw.blind, Pw.mk hPc hKc hDc hG hS hFc⟩ rfl rfl hl.1 rfl (lv_room (Nat.le_of_ble_eq_true rfl)) dX7_init_65 ⟨Nat.le_of_ble_eq_true rfl, Nat.le_of_ble_eq_true rfl⟩) hS (fun q _ h => hFc q h) hFc (fun u t9 H_48 locs ht hvm hw hB hz1 hk1 hS => ?_)
  obtain ⟨hP, hD⟩ := va_join (wr := [(h0, .inr (8, [.ref q_1, .int 0, .ref q_19, .ref q_30, .int ((-1)), .ref q_42, .null, .null, .null, .null, .int 0])), (q_1, .inr (6, [.ref q_4, .ref q_5, .ref q_6, .ref q_7, .ref q_8, .ref q_9, .ref q_10, .int 0])), (q_4, .inl (cA_11, 1200, .inl (fun _ => 0))), (q_5, .inl (cA_12, 1200, .inl (fun _ => 0))), (q_6, .inl (cA_13, 1200, .inl (fun _ => 0))), (q_7, .inl (cA_14, 1200, .inr (.inl (fun _ => 0)))), (q_8, .inl (cA_15, 1200, .inl (fun _ => 0))), (q_9, .inl (cA_16, 1200, .inl (fun _ => 0))), (q_10, .inl (cA_17, 1200, .inl (fun _ => 0))), (q_19, .inr (6, [.ref q_22, .ref q_23, .ref q_24, .ref q_25, .ref q_26, .ref q_27, .ref q_28, .int 0])), (q_30, .inr (6, [.ref q_33, .ref q_34, .ref q_35, .ref q_36, .ref q_37, .ref q_38, .ref q_39, .int 0]))]) (w1 := []) hP hD [11] [0, 1, 2, 3, 4, 5, 6, 7, 8, 9, 10] rfl rfl (by decide) (by decide) hk1 hFc va_P.nil va_D.nil
  have hK := hK.sub (tys' := [(cA_11, .int), (cA_12, .int), (cA_13, .int), (cA_14, .long), (cA_15, .int), (cA_16, .int), (cA_17, .int)]) [0, 1, 2, 3, 4, 5, 6] rfl
  have hP : va_P (dC, dI) vwCl [(h0, .inr (8, [.ref q_1, .int 0, .ref q_19, .ref q_30, .int ((-1)), .ref q_42, .null, .null, .null, .null, .int 0])), (q_1, .inr (6, [.ref q_4, .ref q_5, .ref q_6, .ref q_7, .ref q_8, .ref q_9, .ref q_10, .int 0])), (q_4, .inl (cA_11, 1200, .inl (fun _ => 0))), (q_5, .inl (cA_12, 1200, .inl (fun _ => 0))), (q_6, .inl (cA_13, 1200, .inl (fun _ => 0))), (q_7, .inl (cA_14, 1200, .inr (.inl (fun _ => 0)))), (q_8, .inl (cA_15, 1200, .inl (fun _ => 0))), (q_9, .inl (cA_16, 1200, .inl (fun _ => 0))), (q_10, .inl (cA_17, 1200, .inl (fun _ => 0))), (q_19, .inr (6, [.ref q_22, .ref q_23, .ref q_24, .ref q_25, .ref q_26, .ref q_27, .ref q_28, .int 0])), (q_30, .inr (6, [.ref q_33, .ref q_34, .ref q_35, .ref q_36, .ref q_37, .ref q_38, .ref q_39, .int 0]))] H_48 := hP
  have hD : va_D A [(h0, .inr (8, [.ref q_1, .int 0, .ref q_19, .ref q_30, .int ((-1)), .ref q_42, .null, .null, .null, .null, .int 0])), (q_1, .inr (6, [.ref q_4, .ref q_5, .ref q_6, .ref q_7, .ref q_8, .ref q_9, .ref q_10, .int 0])), (q_4, .inl (cA_11, 1200, .inl (fun _ => 0))), (q_5, .inl (cA_12, 1200, .inl (fun _ => 0))), (q_6, .inl (cA_13, 1200, .inl (fun _ => 0))), (q_7, .inl (cA_14, 1200, .inr (.inl (fun _ => 0)))), (q_8, .inl (cA_15, 1200, .inl (fun _ => 0))), (q_9, .inl (cA_16, 1200, .inl (fun _ => 0))), (q_10, .inl (cA_17, 1200, .inl (fun _ => 0))), (q_19, .inr (6, [.ref q_22, .ref q_23, .ref q_24, .ref q_25, .ref q_26, .ref q_27, .ref q_28, .int 0])), (q_30, .inr (6, [.ref q_33, .ref q_34, .ref q_35, .ref q_36, .ref q_37, .ref q_38, .ref q_39, .int 0]))] := hD
  have hK : va_K (dC, dI) vwCl [(cA_11, .int), (cA_12, .int), (cA_13, .int), (cA_14, .long), (cA_15, .int), (cA_16, .int), (cA_17, .int)] s := hK
  refine W.widen (k := 54) (n := 59627) (Nat.le_of_ble_eq_true rfl) (Nat.le_of_ble_eq_true rfl) ?_
  refine va_putF (D := (dC, dI)) (ci := 8) (v := .ref q_46) (ty := .object "Selfkindle$Types") (C := RX7) (T := TX7) (N := 11) hx hb hts in_z_Se_X7 tyX7 tyX7_ok nmX7 hown hK hP hD hS 0 rfl rfl 6 (by decide) (hts (.fieldLink RX7 38 "Selfkindle" "types" "LSelfkindle$Types;") (List.mem_of_getElem? (i := 55) rfl)) (fun _ h9 => h9) rfl hin rfl (by decide +kernel) rfl rfl (Nat.le_of_ble_eq_true rfl) dX7_init_68 (fun H_49 locs hP hD hS => ?_)
  have hP : va_P (dC, dI) vwCl [(h0, .inr (8, [.ref q_1, .int 0, .ref q_19, .ref q_30, .int ((-1)), .ref q_42, .ref q_46, .null, .null, .null, .int 0])), (q_1, .inr (6, [.ref q_4, .ref q_5, .ref q_6, .ref q_7, .ref q_8, .ref q_9, .ref q_10, .int 0])), (q_4, .inl (cA_11, 1200, .inl (fun _ => 0))), (q_5, .inl (cA_12, 1200, .inl (fun _ => 0))), (q_6, .inl (cA_13, 1200, .inl (fun _ => 0))), (q_7, .inl (cA_14, 1200, .inr (.inl (fun _ => 0)))), (q_8, .inl (cA_15, 1200, .inl (fun _ => 0))), (q_9, .inl (cA_16, 1200, .inl (fun _ => 0))), (q_10, .inl (cA_17, 1200, .inl (fun _ => 0))), (q_19, .inr (6, [.ref q_22, .ref q_23, .ref q_24, .ref q_25, .ref q_26, .ref q_27, .ref q_28, .int 0])), (q_30, .inr (6, [.ref q_33, .ref q_34, .ref q_35, .ref q_36, .ref q_37, .ref q_38, .ref q_39, .int 0]))] H_49 := hP
  have hD : va_D A [(h0, .inr (8, [.ref q_1, .int 0, .ref q_19, .ref q_30, .int ((-1)), .ref q_42, .ref q_46, .null, .null, .null, .int 0])), (q_1, .inr (6, [.ref q_4, .ref q_5, .ref q_6, .ref q_7, .ref q_8, .ref q_9, .ref q_10, .int 0])), (q_4, .inl (cA_11, 1200, .inl (fun _ => 0))), (q_5, .inl (cA_12, 1200, .inl (fun _ => 0))), (q_6, .inl (cA_13, 1200, .inl (fun _ => 0))), (q_7, .inl (cA_14, 1200, .inr (.inl (fun _ => 0)))), (q_8, .inl (cA_15, 1200, .inl (fun _ => 0))), (q_9, .inl (cA_16, 1200, .inl (fun _ => 0))), (q_10, .inl (cA_17, 1200, .inl (fun _ => 0))), (q_19, .inr (6, [.ref q_22, .ref q_23, .ref q_24, .ref q_25, .ref q_26, .ref q_27, .ref q_28, .int 0])), (q_30, .inr (6, [.ref q_33, .ref q_34, .ref q_35, .ref q_36, .ref q_37, .ref q_38, .ref q_39, .int 0]))] := hD
  have hK : va_K (dC, dI) vwCl [(cA_11, .int), (cA_12, .int), (cA_13, .int), (cA_14, .long), (cA_15, .int), (cA_16, .int), (cA_17, .int)] s := hK
  refine lv_aload_n hx hb dX7_init_71 rfl (lv_at hl 0 rfl) ?_
  refine va_new (D := (dC, dI)) (cl := vwCl) (ci := 1) (fs := [.null, .null, .null, .null, .null, .null, .int 0]) (C := RX0) (T := TX0) (N := 7) hx hb hts in_z_Se_X0 tyX0 tyX0_ok hown (hts (.classLink RX7 42 RX0) (List.mem_of_getElem? (i := 56) rfl)) (hts (.instantiable RX0 7) (List.mem_of_getElem? (i := 57) rfl)) (hts (.initialized RX0) (List.mem_of_getElem? (i := 58) rfl)) hK hP hD hS hA rfl dflt_X0 (Nat.le_of_ble_eq_true rfl) (Nat.le_of_ble_eq_true rfl) dX7_init_72 (fun q_50 H_51 hP hD hS => ?_)
  have hP : va_P (dC, dI) vwCl [(h0, .inr (8, [.ref q_1, .int 0, .ref q_19, .ref q_30, .int ((-1)), .ref q_42, .ref q_46, .null, .null, .null, .int 0])), (q_1, .inr (6, [.ref q_4, .ref q_5, .ref q_6, .ref q_7, .ref q_8, .ref q_9, .ref q_10, .int 0])), (q_4, .inl (cA_11, 1200, .inl (fun _ => 0))), (q_5, .inl (cA_12, 1200, .inl (fun _ => 0))), (q_6, .inl (cA_13, 1200, .inl (fun _ => 0))), (q_7, .inl (cA_14, 1200, .inr (.inl (fun _ => 0)))), (q_8, .inl (cA_15, 1200, .inl (fun _ => 0))), (q_9, .inl (cA_16, 1200, .inl (fun _ => 0))), (q_10, .inl (cA_17, 1200, .inl (fun _ => 0))), (q_19, .inr (6, [.ref q_22, .ref q_23, .ref q_24, .ref q_25, .ref q_26, .ref q_27, .ref q_28, .int 0])), (q_30, .inr (6, [.ref q_33, .ref q_34, .ref q_35, .ref q_36, .ref q_37, .ref q_38, .ref q_39, .int 0])), (q_50, .inr (1, [.null, .null, .null, .null, .null, .null, .int 0]))] H_51 := hP
  have hD : va_D A [(h0, .inr (8, [.ref q_1, .int 0, .ref q_19, .ref q_30, .int ((-1)), .ref q_42, .ref q_46, .null, .null, .null, .int 0])), (q_1, .inr (6, [.ref q_4, .ref q_5, .ref q_6, .ref q_7, .ref q_8, .ref q_9, .ref q_10, .int 0])), (q_4, .inl (cA_11, 1200, .inl (fun _ => 0))), (q_5, .inl (cA_12, 1200, .inl (fun _ => 0))), (q_6, .inl (cA_13, 1200, .inl (fun _ => 0))), (q_7, .inl (cA_14, 1200, .inr (.inl (fun _ => 0)))), (q_8, .inl (cA_15, 1200, .inl (fun _ => 0))), (q_9, .inl (cA_16, 1200, .inl (fun _ => 0))), (q_10, .inl (cA_17, 1200, .inl (fun _ => 0))), (q_19, .inr (6, [.ref q_22, .ref q_23, .ref q_24, .ref q_25, .ref q_26, .ref q_27, .ref q_28, .int 0])), (q_30, .inr (6, [.ref q_33, .ref q_34, .ref q_35, .ref q_36, .ref q_37, .ref q_38, .ref q_39, .int 0])), (q_50, .inr (1, [.null, .null, .null, .null, .null, .null, .int 0]))] := hD
  have hK : va_K (dC, dI) vwCl [(cA_11, .int), (cA_12, .int), (cA_13, .int), (cA_14, .long), (cA_15, .int), (cA_16, .int), (cA_17, .int)] s := hK
  refine W.widen (k := 55) (n := 59634) (Nat.le_of_ble_eq_true rfl) (Nat.le_of_ble_eq_true rfl) ?_
  refine lv_dup hx hb dX7_init_75 rfl ?_
  have hPc := hP.sub (ws' := [(q_50, .inr (1, [.null, .null, .null, .null, .null, .null, .int 0]))]) [11] rfl
  have hDc := hD.sub (ws' := [(q_50, .inr (1, [.null, .null, .null, .null, .null, .null, .int 0]))]) [11] (by decide) rfl
  have hKc := hK.sub (tys' := []) [] rfl
  have hFc := va_free (wc := [(q_50, .inr (1, [.null, .null, .null, .null, .null, .null, .int 0]))]) hD hS hA [11] rfl
  refine va_callv (va_runI (As := []) (rest := [.ref q_50, .ref h0]) ⟨hx, hb, hml, hown, hts⟩ (c_Co l dC dI tp te H_51.size q_50) (cwI 0 hts g_Se_76 rfl rfl rfl (hts (.initialized RX0) (List.mem_of_getElem? (i := 58) rfl)) (hts (.methodLink RX7 44 yX0_init) (List.mem_of_getElem? (i := 59) rfl)) (hts (.instanceMethod yX0_init) (List.mem_of_getElem? (i := 60) rfl)) rfl (by decide +kernel) ⟨Nat.le_of_ble_eq_true rfl, Nat.le_of_ble_eq_true rfl⟩) ⟨Pw.blind, Pw.mk hPc hKc hDc hG hS hFc⟩ rfl rfl hl.1 rfl (lv_room (Nat.le_of_ble_eq_true rfl)) dX7_init_76 ⟨Nat.le_of_ble_eq_true rfl, Nat.le_of_ble_eq_true rfl⟩) hS (fun q _ h => hFc q h) hFc (fun u t9 H_52 locs ht hvm hw hB hz1 hk1 hS => ?_)
  obtain ⟨hP, hD⟩ := va_join (wr := [(h0, .inr (8, [.ref q_1, .int 0, .ref q_19, .ref q_30, .int ((-1)), .ref q_42, .ref q_46, .null, .null, .null, .int 0])), (q_1, .inr (6, [.ref q_4, .ref q_5, .ref q_6, .ref q_7, .ref q_8, .ref q_9, .ref q_10, .int 0])), (q_4, .inl (cA_11, 1200, .inl (fun _ => 0))), (q_5, .inl (cA_12, 1200, .inl (fun _ => 0))), (q_6, .inl (cA_13, 1200, .inl (fun _ => 0))), (q_7, .inl (cA_14, 1200, .inr (.inl (fun _ => 0)))), (q_8, .inl (cA_15, 1200, .inl (fun _ => 0))), (q_9, .inl (cA_16, 1200, .inl (fun _ => 0))), (q_10, .inl (cA_17, 1200, .inl (fun _ => 0))), (q_19, .inr (6, [.ref q_22, .ref q_23, .ref q_24, .ref q_25, .ref q_26, .ref q_27, .ref q_28, .int 0])), (q_30, .inr (6, [.ref q_33, .ref q_34, .ref q_35, .ref q_36, .ref q_37, .ref q_38, .ref q_39, .int 0]))]) (w1 := []) hP hD [11] [0, 1, 2, 3, 4, 5, 6, 7, 8, 9, 10] rfl rfl (by decide) (by decide) hk1 hFc va_P.nil va_D.nil
  have hK := hK.sub (tys' := [(cA_11, .int), (cA_12, .int), (cA_13, .int), (cA_14, .long), (cA_15, .int), (cA_16, .int), (cA_17, .int)]) [0, 1, 2, 3, 4, 5, 6] rfl
  have hP : va_P (dC, dI) vwCl [(h0, .inr (8, [.ref q_1, .int 0, .ref q_19, .ref q_30, .int ((-1)), .ref q_42, .ref q_46, .null, .null, .null, .int 0])), (q_1, .inr (6, [.ref q_4, .ref q_5, .ref q_6, .ref q_7, .ref q_8, .ref q_9, .ref q_10, .int 0])), (q_4, .inl (cA_11, 1200, .inl (fun _ => 0))), (q_5, .inl (cA_12, 1200, .inl (fun _ => 0))), (q_6, .inl (cA_13, 1200, .inl (fun _ => 0))), (q_7, .inl (cA_14, 1200, .inr (.inl (fun _ => 0)))), (q_8, .inl (cA_15, 1200, .inl (fun _ => 0))), (q_9, .inl (cA_16, 1200, .inl (fun _ => 0))), (q_10, .inl (cA_17, 1200, .inl (fun _ => 0))), (q_19, .inr (6, [.ref q_22, .ref q_23, .ref q_24, .ref q_25, .ref q_26, .ref q_27, .ref q_28, .int 0])), (q_30, .inr (6, [.ref q_33, .ref q_34, .ref q_35, .ref q_36, .ref q_37, .ref q_38, .ref q_39, .int 0]))] H_52 := hP
  have hD : va_D A [(h0, .inr (8, [.ref q_1, .int 0, .ref q_19, .ref q_30, .int ((-1)), .ref q_42, .ref q_46, .null, .null, .null, .int 0])), (q_1, .inr (6, [.ref q_4, .ref q_5, .ref q_6, .ref q_7, .ref q_8, .ref q_9, .ref q_10, .int 0])), (q_4, .inl (cA_11, 1200, .inl (fun _ => 0))), (q_5, .inl (cA_12, 1200, .inl (fun _ => 0))), (q_6, .inl (cA_13, 1200, .inl (fun _ => 0))), (q_7, .inl (cA_14, 1200, .inr (.inl (fun _ => 0)))), (q_8, .inl (cA_15, 1200, .inl (fun _ => 0))), (q_9, .inl (cA_16, 1200, .inl (fun _ => 0))), (q_10, .inl (cA_17, 1200, .inl (fun _ => 0))), (q_19, .inr (6, [.ref q_22, .ref q_23, .ref q_24, .ref q_25, .ref q_26, .ref q_27, .ref q_28, .int 0])), (q_30, .inr (6, [.ref q_33, .ref q_34, .ref q_35, .ref q_36, .ref q_37, .ref q_38, .ref q_39, .int 0]))] := hD
  have hK : va_K (dC, dI) vwCl [(cA_11, .int), (cA_12, .int), (cA_13, .int), (cA_14, .long), (cA_15, .int), (cA_16, .int), (cA_17, .int)] s := hK
  refine W.widen (k := 61) (n := 60714) (Nat.le_of_ble_eq_true rfl) (Nat.le_of_ble_eq_true rfl) ?_
  refine va_putF (D := (dC, dI)) (ci := 8) (v := .ref q_50) (ty := .object "Selfkindle$Code") (C := RX7) (T := TX7) (N := 11) hx hb hts in_z_Se_X7 tyX7 tyX7_ok nmX7 hown hK hP hD hS 0 rfl rfl 7 (by decide) (hts (.fieldLink RX7 45 "Selfkindle" "code" "LSelfkindle$Code;") (List.mem_of_getElem? (i := 70) rfl)) (fun _ h9 => h9) rfl hin rfl (by decide +kernel) rfl rfl (Nat.le_of_ble_eq_true rfl) dX7_init_79 (fun H_53 locs hP hD hS => ?_)
  have hP : va_P (dC, dI) vwCl [(h0, .inr (8, [.ref q_1, .int 0, .ref q_19, .ref q_30, .int ((-1)), .ref q_42, .ref q_46, .ref q_50, .null, .null, .int 0])), (q_1, .inr (6, [.ref q_4, .ref q_5, .ref q_6, .ref q_7, .ref q_8, .ref q_9, .ref q_10, .int 0])), (q_4, .inl (cA_11, 1200, .inl (fun _ => 0))), (q_5, .inl (cA_12, 1200, .inl (fun _ => 0))), (q_6, .inl (cA_13, 1200, .inl (fun _ => 0))), (q_7, .inl (cA_14, 1200, .inr (.inl (fun _ => 0)))), (q_8, .inl (cA_15, 1200, .inl (fun _ => 0))), (q_9, .inl (cA_16, 1200, .inl (fun _ => 0))), (q_10, .inl (cA_17, 1200, .inl (fun _ => 0))), (q_19, .inr (6, [.ref q_22, .ref q_23, .ref q_24, .ref q_25, .ref q_26, .ref q_27, .ref q_28, .int 0])), (q_30, .inr (6, [.ref q_33, .ref q_34, .ref q_35, .ref q_36, .ref q_37, .ref q_38, .ref q_39, .int 0]))] H_53 := hP
  have hD : va_D A [(h0, .inr (8, [.ref q_1, .int 0, .ref q_19, .ref q_30, .int ((-1)), .ref q_42, .ref q_46, .ref q_50, .null, .null, .int 0])), (q_1, .inr (6, [.ref q_4, .ref q_5, .ref q_6, .ref q_7, .ref q_8, .ref q_9, .ref q_10, .int 0])), (q_4, .inl (cA_11, 1200, .inl (fun _ => 0))), (q_5, .inl (cA_12, 1200, .inl (fun _ => 0))), (q_6, .inl (cA_13, 1200, .inl (fun _ => 0))), (q_7, .inl (cA_14, 1200, .inr (.inl (fun _ => 0)))), (q_8, .inl (cA_15, 1200, .inl (fun _ => 0))), (q_9, .inl (cA_16, 1200, .inl (fun _ => 0))), (q_10, .inl (cA_17, 1200, .inl (fun _ => 0))), (q_19, .inr (6, [.ref q_22, .ref q_23, .ref q_24, .ref q_25, .ref q_26, .ref q_27, .ref q_28, .int 0])), (q_30, .inr (6, [.ref q_33, .ref q_34, .ref q_35, .ref q_36, .ref q_37, .ref q_38, .ref q_39, .int 0]))] := hD
  have hK : va_K (dC, dI) vwCl [(cA_11, .int), (cA_12, .int), (cA_13, .int), (cA_14, .long), (cA_15, .int), (cA_16, .int), (cA_17, .int)] s := hK
  refine lv_aload_n hx hb dX7_init_82 rfl (lv_at hl 0 rfl) ?_
  refine va_new (D := (dC, dI)) (cl := vwCl) (ci := 4) (fs := [.null, .null, .null, .null, .null, .null, .null, .null, .null, .int 0, .int 0, .int 0, .int 0, .int 0, .int 0, .int 0]) (C := RX3) (T := TX3) (N := 16) hx hb hts in_z_Se_X3 tyX3 tyX3_ok hown (hts (.classLink RX7 49 RX3) (List.mem_of_getElem? (i := 71) rfl)) (hts (.instantiable RX3 16) (List.mem_of_getElem? (i := 72) rfl)) (hts (.initialized RX3) (List.mem_of_getElem? (i := 73) rfl)) hK hP hD hS hA rfl dflt_X3 (Nat.le_of_ble_eq_true rfl) (Nat.le_of_ble_eq_true rfl) dX7_init_83 (fun q_54 H_55 hP hD hS => ?_)
  have hP : va_P (dC, dI) vwCl [(h0, .inr (8, [.ref q_1, .int 0, .ref q_19, .ref q_30, .int ((-1)), .ref q_42, .ref q_46, .ref q_50, .null, .null, .int 0])), (q_1, .inr (6, [.ref q_4, .ref q_5, .ref q_6, .ref q_7, .ref q_8, .ref q_9, .ref q_10, .int 0])), (q_4, .inl (cA_11, 1200, .inl (fun _ => 0))), (q_5, .inl (cA_12, 1200, .inl (fun _ => 0))), (q_6, .inl (cA_13, 1200, .inl (fun _ => 0))), (q_7, .inl (cA_14, 1200, .inr (.inl (fun _ => 0)))), (q_8, .inl (cA_15, 1200, .inl (fun _ => 0))), (q_9, .inl (cA_16, 1200, .inl (fun _ => 0))), (q_10, .inl (cA_17, 1200, .inl (fun _ => 0))), (q_19, .inr (6, [.ref q_22, .ref q_23, .ref q_24, .ref q_25, .ref q_26, .ref q_27, .ref q_28, .int 0])), (q_30, .inr (6, [.ref q_33, .ref q_34, .ref q_35, .ref q_36, .ref q_37, .ref q_38, .ref q_39, .int 0])), (q_54, .inr (4, [.null, .null, .null, .null, .null, .null, .null, .null, .null, .int 0, .int 0, .int 0, .int 0, .int 0, .int 0, .int 0]))] H_55 := hP
  have hD : va_D A [(h0, .inr (8, [.ref q_1, .int 0, .ref q_19, .ref q_30, .int ((-1)), .ref q_42, .ref q_46, .ref q_50, .null, .null, .int 0])), (q_1, .inr (6, [.ref q_4, .ref q_5, .ref q_6, .ref q_7, .ref q_8, .ref q_9, .ref q_10, .int 0])), (q_4, .inl (cA_11, 1200, .inl (fun _ => 0))), (q_5, .inl (cA_12, 1200, .inl (fun _ => 0))), (q_6, .inl (cA_13, 1200, .inl (fun _ => 0))), (q_7, .inl (cA_14, 1200, .inr (.inl (fun _ => 0)))), (q_8, .inl (cA_15, 1200, .inl (fun _ => 0))), (q_9, .inl (cA_16, 1200, .inl (fun _ => 0))), (q_10, .inl (cA_17, 1200, .inl (fun _ => 0))), (q_19, .inr (6, [.ref q_22, .ref q_23, .ref q_24, .ref q_25, .ref q_26, .ref q_27, .ref q_28, .int 0])), (q_30, .inr (6, [.ref q_33, .ref q_34, .ref q_35, .ref q_36, .ref q_37, .ref q_38, .ref q_39, .int 0])), (q_54, .inr (4, [.null, .null, .null, .null, .null, .null, .null, .null, .null, .int 0, .int 0, .int 0, .int 0, .int 0, .int 0, .int 0]))] := hD
  have hK : va_K (dC, dI) vwCl [(cA_11, .int), (cA_12, .int), (cA_13, .int), (cA_14, .long), (cA_15, .int), (cA_16, .int), (cA_17, .int)] s := hK
  refine W.widen (k := 62) (n := 60730) (Nat.le_of_ble_eq_true rfl) (Nat.le_of_ble_eq_true rfl) ?_
  refine lv_dup hx hb dX7_init_86 rfl ?_
  refine lv_aload_n hx hb dX7_init_87 rfl (lv_at hl 0 rfl) ?_
  refine va_get (D := (dC, dI)) (ci := 8) (v := .ref q_50) (C := RX7) (T := TX7) (N := 11) hx hb hts in_z_Se_X7 hown hK hP 0 rfl rfl 7 (by decide) (hts (.fieldLink RX7 45 "Selfkindle" "code" "LSelfkindle$Code;") (List.mem_of_getElem? (i := 70) rfl)) (fun _ h9 => h9) rfl dX7_init_88 ?_
  have hPc := hP.sub (ws' := [(q_54, .inr (4, [.null, .null, .null, .null, .null, .null, .null, .null, .null, .int 0, .int 0, .int 0, .int 0, .int 0, .int 0, .int 0]))]) [11] rfl
  have hDc := hD.sub (ws' := [(q_54, .inr (4, [.null, .null, .null, .null, .null, .null, .null, .null, .null, .int 0, .int 0, .int 0, .int 0, .int 0, .int 0, .int 0]))]) [11] (by decide) rfl
  have hKc := hK.sub (tys' := []) [] rfl
  have hFc := va_free (wc := [(q_54, .inr (4, [.null, .null, .null, .null, .null, .null, .null, .null, .null, .int 0, .int 0, .int 0, .int 0, .int 0, .int 0, .int 0]))]) hD hS hA [11] rfl
  refine va_callv (va_runI (As := [.ref q_50]) (rest := [.ref q_54, .ref h0]) ⟨hx, hb, hml, hown, hts⟩ (c_Ma l dC dI tp te H_55.size q_54 q_50) (cwI 1 hts g_Se_91 rfl rfl rfl (hts (.initialized RX3) (List.mem_of_getElem? (i := 73) rfl)) (hts (.methodLink RX7 51 yX3_init) (List.mem_of_getElem? (i := 74) rfl)) (hts (.instanceMethod yX3_init) (List.mem_of_getElem? (i := 75) rfl)) rfl (by decide +kernel) ⟨Nat.le_of_ble_eq_true rfl, Nat.le_of_ble_eq_true rfl⟩) ⟨Pw.blind, Pw.mk hPc hKc hDc hG hS hFc⟩ rfl rfl hl.1 rfl (lv_room (Nat.le_of_ble_eq_true rfl)) dX7_init_91 ⟨Nat.le_of_ble_eq_true rfl, Nat.le_of_ble_eq_true rfl⟩) hS (fun q _ h => hFc q h) hFc (fun u t9 H_56 locs ht hvm hw hB hz1 hk1 hS => ?_)
  obtain ⟨hP, hD⟩ := va_join (wr := [(h0, .inr (8, [.ref q_1, .int 0, .ref q_19, .ref q_30, .int ((-1)), .ref q_42, .ref q_46, .ref q_50, .null, .null, .int 0])), (q_1, .inr (6, [.ref q_4, .ref q_5, .ref q_6, .ref q_7, .ref q_8, .ref q_9, .ref q_10, .int 0])), (q_4, .inl (cA_11, 1200, .inl (fun _ => 0))), (q_5, .inl (cA_12, 1200, .inl (fun _ => 0))), (q_6, .inl (cA_13, 1200, .inl (fun _ => 0))), (q_7, .inl (cA_14, 1200, .inr (.inl (fun _ => 0)))), (q_8, .inl (cA_15, 1200, .inl (fun _ => 0))), (q_9, .inl (cA_16, 1200, .inl (fun _ => 0))), (q_10, .inl (cA_17, 1200, .inl (fun _ => 0))), (q_19, .inr (6, [.ref q_22, .ref q_23, .ref q_24, .ref q_25, .ref q_26, .ref q_27, .ref q_28, .int 0])), (q_30, .inr (6, [.ref q_33, .ref q_34, .ref q_35, .ref q_36, .ref q_37, .ref q_38, .ref q_39, .int 0]))]) (w1 := []) hP hD [11] [0, 1, 2, 3, 4, 5, 6, 7, 8, 9, 10] rfl rfl (by decide) (by decide) hk1 hFc va_P.nil va_D.nil
  have hK := hK.sub (tys' := [(cA_11, .int), (cA_12, .int), (cA_13, .int), (cA_14, .long), (cA_15, .int), (cA_16, .int), (cA_17, .int)]) [0, 1, 2, 3, 4, 5, 6] rfl
  have hP : va_P (dC, dI) vwCl [(h0, .inr (8, [.ref q_1, .int 0, .ref q_19, .ref q_30, .int ((-1)), .ref q_42, .ref q_46, .ref q_50, .null, .null, .int 0])), (q_1, .inr (6, [.ref q_4, .ref q_5, .ref q_6, .ref q_7, .ref q_8, .ref q_9, .ref q_10, .int 0])), (q_4, .inl (cA_11, 1200, .inl (fun _ => 0))), (q_5, .inl (cA_12, 1200, .inl (fun _ => 0))), (q_6, .inl (cA_13, 1200, .inl (fun _ => 0))), (q_7, .inl (cA_14, 1200, .inr (.inl (fun _ => 0)))), (q_8, .inl (cA_15, 1200, .inl (fun _ => 0))), (q_9, .inl (cA_16, 1200, .inl (fun _ => 0))), (q_10, .inl (cA_17, 1200, .inl (fun _ => 0))), (q_19, .inr (6, [.ref q_22, .ref q_23, .ref q_24, .ref q_25, .ref q_26, .ref q_27, .ref q_28, .int 0])), (q_30, .inr (6, [.ref q_33, .ref q_34, .ref q_35, .ref q_36, .ref q_37, .ref q_38, .ref q_39, .int 0]))] H_56 := hP
  have hD : va_D A [(h0, .inr (8, [.ref q_1, .int 0, .ref q_19, .ref q_30, .int ((-1)), .ref q_42, .ref q_46, .ref q_50, .null, .null, .int 0])), (q_1, .inr (6, [.ref q_4, .ref q_5, .ref q_6, .ref q_7, .ref q_8, .ref q_9, .ref q_10, .int 0])), (q_4, .inl (cA_11, 1200, .inl (fun _ => 0))), (q_5, .inl (cA_12, 1200, .inl (fun _ => 0))), (q_6, .inl (cA_13, 1200, .inl (fun _ => 0))), (q_7, .inl (cA_14, 1200, .inr (.inl (fun _ => 0)))), (q_8, .inl (cA_15, 1200, .inl (fun _ => 0))), (q_9, .inl (cA_16, 1200, .inl (fun _ => 0))), (q_10, .inl (cA_17, 1200, .inl (fun _ => 0))), (q_19, .inr (6, [.ref q_22, .ref q_23, .ref q_24, .ref q_25, .ref q_26, .ref q_27, .ref q_28, .int 0])), (q_30, .inr (6, [.ref q_33, .ref q_34, .ref q_35, .ref q_36, .ref q_37, .ref q_38, .ref q_39, .int 0]))] := hD
  have hK : va_K (dC, dI) vwCl [(cA_11, .int), (cA_12, .int), (cA_13, .int), (cA_14, .long), (cA_15, .int), (cA_16, .int), (cA_17, .int)] s := hK
  refine W.widen (k := 77) (n := 77940) (Nat.le_of_ble_eq_true rfl) (Nat.le_of_ble_eq_true rfl) ?_
  refine va_putF (D := (dC, dI)) (ci := 8) (v := .ref q_54) (ty := .object "Selfkindle$Machine") (C := RX7) (T := TX7) (N := 11) hx hb hts in_z_Se_X7 tyX7 tyX7_ok nmX7 hown hK hP hD hS 0 rfl rfl 8 (by decide) (hts (.fieldLink RX7 54 "Selfkindle" "runner" "LSelfkindle$Machine;") (List.mem_of_getElem? (i := 103) rfl)) (fun _ h9 => h9) rfl hin rfl (by decide +kernel) rfl rfl (Nat.le_of_ble_eq_true rfl) dX7_init_94 (fun H_57 locs hP hD hS => ?_)
  have hP : va_P (dC, dI) vwCl [(h0, .inr (8, [.ref q_1, .int 0, .ref q_19, .ref q_30, .int ((-1)), .ref q_42, .ref q_46, .ref q_50, .ref q_54, .null, .int 0])), (q_1, .inr (6, [.ref q_4, .ref q_5, .ref q_6, .ref q_7, .ref q_8, .ref q_9, .ref q_10, .int 0])), (q_4, .inl (cA_11, 1200, .inl (fun _ => 0))), (q_5, .inl (cA_12, 1200, .inl (fun _ => 0))), (q_6, .inl (cA_13, 1200, .inl (fun _ => 0))), (q_7, .inl (cA_14, 1200, .inr (.inl (fun _ => 0)))), (q_8, .inl (cA_15, 1200, .inl (fun _ => 0))), (q_9, .inl (cA_16, 1200, .inl (fun _ => 0))), (q_10, .inl (cA_17, 1200, .inl (fun _ => 0))), (q_19, .inr (6, [.ref q_22, .ref q_23, .ref q_24, .ref q_25, .ref q_26, .ref q_27, .ref q_28, .int 0])), (q_30, .inr (6, [.ref q_33, .ref q_34, .ref q_35, .ref q_36, .ref q_37, .ref q_38, .ref q_39, .int 0]))] H_57 := hP
  have hD : va_D A [(h0, .inr (8, [.ref q_1, .int 0, .ref q_19, .ref q_30, .int ((-1)), .ref q_42, .ref q_46, .ref q_50, .ref q_54, .null, .int 0])), (q_1, .inr (6, [.ref q_4, .ref q_5, .ref q_6, .ref q_7, .ref q_8, .ref q_9, .ref q_10, .int 0])), (q_4, .inl (cA_11, 1200, .inl (fun _ => 0))), (q_5, .inl (cA_12, 1200, .inl (fun _ => 0))), (q_6, .inl (cA_13, 1200, .inl (fun _ => 0))), (q_7, .inl (cA_14, 1200, .inr (.inl (fun _ => 0)))), (q_8, .inl (cA_15, 1200, .inl (fun _ => 0))), (q_9, .inl (cA_16, 1200, .inl (fun _ => 0))), (q_10, .inl (cA_17, 1200, .inl (fun _ => 0))), (q_19, .inr (6, [.ref q_22, .ref q_23, .ref q_24, .ref q_25, .ref q_26, .ref q_27, .ref q_28, .int 0])), (q_30, .inr (6, [.ref q_33, .ref q_34, .ref q_35, .ref q_36, .ref q_37, .ref q_38, .ref q_39, .int 0]))] := hD
  have hK : va_K (dC, dI) vwCl [(cA_11, .int), (cA_12, .int), (cA_13, .int), (cA_14, .long), (cA_15, .int), (cA_16, .int), (cA_17, .int)] s := hK
  refine W.widen (k := 77) (n := 77940) (Nat.le_of_ble_eq_true rfl) (Nat.le_of_ble_eq_true rfl) ?_
  exact W.vret hx hb hr (fun t ht hW => ⟨⟨(), rfl, trivial, ⟨q_1, q_19, q_30, q_42, q_46, q_50, q_54, q_4, q_5, q_6, q_7, q_8, q_9, q_10, cA_11, cA_12, cA_13, cA_14, cA_15, cA_16, cA_17, q_22, q_23, q_24, q_25, q_26, q_27, q_28, q_33, q_34, q_35, q_36, q_37, q_38, q_39, by rw [ht]; exact hP, va_K.moved hW.alike hK, hD⟩⟩, hS.F ht⟩) hS.2.2 dX7_init_97
end
section
abbrev cX5_partsOf : ByteArray := prog_7_method_2_code
def yX5_partsOf : MethodName := ⟨RX5, "partsOf", "(I)I"⟩
abbrev cX5_add : ByteArray := prog_7_method_4_code
def yX5_add : MethodName := ⟨RX5, "add", "(IIIJ)V"⟩
abbrev cX5_sizeOfLast : ByteArray := prog_7_method_7_code
def yX5_sizeOfLast : MethodName := ⟨RX5, "sizeOfLast", "(I)I"⟩
abbrev cX7_number : ByteArray := prog_1_method_2_code
def yX7_number : MethodName := ⟨RX7, "number", "(J)I"⟩
abbrev cX7_name : ByteArray := prog_1_method_3_code
def yX7_name : MethodName := ⟨RX7, "name", "(I)I"⟩
abbrev cX7_function : ByteArray := prog_1_method_4_code
def yX7_function : MethodName := ⟨RX7, "function", "(I)I"⟩
abbrev cX7_putLeaf : ByteArray := prog_1_method_29_code
def yX7_putLeaf : MethodName := ⟨RX7, "putLeaf", "(IIJ)I"⟩
abbrev cX7_join : ByteArray := prog_1_method_30_code
def yX7_join : MethodName := ⟨RX7, "join", "(III)I"⟩
abbrev cX7_checkName : ByteArray := prog_1_method_33_code
def yX7_checkName : MethodName := ⟨RX7, "checkName", "(I)V"⟩
theorem dX5_partsOf_0 : decode cX5_partsOf 0 = .ok (.iload_n 0, 1) := by decide +kernel
theorem dX5_partsOf_1 : decode cX5_partsOf 1 = .ok (.ifCond .lt 19, 3) := by decide +kernel
theorem dX5_partsOf_4 : decode cX5_partsOf 4 = .ok (.iload_n 0, 1) := by decide +kernel
theorem dX5_partsOf_5 : decode cX5_partsOf 5 = .ok (.getstatic 34, 3) := by decide +kernel
theorem dX5_partsOf_8 : decode cX5_partsOf 8 = .ok (.arraylength, 1) := by decide +kernel
theorem dX5_partsOf_9 : decode cX5_partsOf 9 = .ok (.if_icmp .ge 11, 3) := by decide +kernel
theorem dX5_partsOf_12 : decode cX5_partsOf 12 = .ok (.getstatic 34, 3) := by decide +kernel
theorem dX5_partsOf_15 : decode cX5_partsOf 15 = .ok (.iload_n 0, 1) := by decide +kernel
theorem dX5_partsOf_16 : decode cX5_partsOf 16 = .ok (.iaload, 1) := by decide +kernel
theorem dX5_partsOf_17 : decode cX5_partsOf 17 = .ok (.goto 4, 3) := by decide +kernel
theorem dX5_partsOf_21 : decode cX5_partsOf 21 = .ok (.ireturn, 1) := by decide +kernel
theorem dX5_add_0 : decode cX5_add 0 = .ok (.aload_n 0, 1) := by decide +kernel
theorem dX5_add_1 : decode cX5_add 1 = .ok (.iload_n 1, 1) := by decide +kernel
theorem dX5_add_2 : decode cX5_add 2 = .ok (.invokestatic 41, 3) := by decide +kernel
theorem dX5_add_5 : decode cX5_add 5 = .ok (.invokevirtual 45, 3) := by decide +kernel
theorem dX5_add_8 : decode cX5_add 8 = .ok (.istore 6, 2) := by decide +kernel
theorem dX5_add_10 : decode cX5_add 10 = .ok (.aload_n 0, 1) := by decide +kernel
theorem dX5_add_11 : decode cX5_add 11 = .ok (.getfield 37, 3) := by decide +kernel
theorem dX5_add_14 : decode cX5_add 14 = .ok (.ifCond .lt 15, 3) := by decide +kernel
theorem dX5_add_17 : decode cX5_add 17 = .ok (.aload_n 0, 1) := by decide +kernel
theorem dX5_add_18 : decode cX5_add 18 = .ok (.getfield 37, 3) := by decide +kernel
theorem dX5_add_21 : decode cX5_add 21 = .ok (.aload_n 0, 1) := by decide +kernel
theorem dX5_add_22 : decode cX5_add 22 = .ok (.getfield 9, 3) := by decide +kernel
theorem dX5_add_25 : decode cX5_add 25 = .ok (.arraylength, 1) := by decide +kernel
theorem dX5_add_26 : decode cX5_add 26 = .ok (.if_icmp .lt 4, 3) := by decide +kernel
theorem dX5_add_30 : decode cX5_add 30 = .ok (.aload_n 0, 1) := by decide +kernel
theorem dX5_add_31 : decode cX5_add 31 = .ok (.getfield 9, 3) := by decide +kernel
theorem dX5_add_34 : decode cX5_add 34 = .ok (.aload_n 0, 1) := by decide +kernel
theorem dX5_add_35 : decode cX5_add 35 = .ok (.getfield 37, 3) := by decide +kernel
theorem dX5_add_38 : decode cX5_add 38 = .ok (.iload_n 1, 1) := by decide +kernel
theorem dX5_add_39 : decode cX5_add 39 = .ok (.iastore, 1) := by decide +kernel
theorem dX5_add_40 : decode cX5_add 40 = .ok (.aload_n 0, 1) := by decide +kernel
theorem dX5_add_41 : decode cX5_add 41 = .ok (.getfield 15, 3) := by decide +kernel
theorem dX5_add_44 : decode cX5_add 44 = .ok (.aload_n 0, 1) := by decide +kernel
theorem dX5_add_45 : decode cX5_add 45 = .ok (.getfield 37, 3) := by decide +kernel
theorem dX5_add_48 : decode cX5_add 48 = .ok (.iload_n 2, 1) := by decide +kernel
theorem dX5_add_49 : decode cX5_add 49 = .ok (.iastore, 1) := by decide +kernel
theorem dX5_add_50 : decode cX5_add 50 = .ok (.aload_n 0, 1) := by decide +kernel
theorem dX5_add_51 : decode cX5_add 51 = .ok (.getfield 18, 3) := by decide +kernel
theorem dX5_add_54 : decode cX5_add 54 = .ok (.aload_n 0, 1) := by decide +kernel
theorem dX5_add_55 : decode cX5_add 55 = .ok (.getfield 37, 3) := by decide +kernel
theorem dX5_add_58 : decode cX5_add 58 = .ok (.iload_n 3, 1) := by decide +kernel
theorem dX5_add_59 : decode cX5_add 59 = .ok (.iastore, 1) := by decide +kernel
theorem dX5_add_60 : decode cX5_add 60 = .ok (.aload_n 0, 1) := by decide +kernel
theorem dX5_add_61 : decode cX5_add 61 = .ok (.getfield 21, 3) := by decide +kernel
theorem dX5_add_64 : decode cX5_add 64 = .ok (.aload_n 0, 1) := by decide +kernel
theorem dX5_add_65 : decode cX5_add 65 = .ok (.getfield 37, 3) := by decide +kernel
theorem dX5_add_68 : decode cX5_add 68 = .ok (.lload 4, 2) := by decide +kernel
theorem dX5_add_70 : decode cX5_add 70 = .ok (.lastore, 1) := by decide +kernel
theorem dX5_add_71 : decode cX5_add 71 = .ok (.aload_n 0, 1) := by decide +kernel
theorem dX5_add_72 : decode cX5_add 72 = .ok (.getfield 25, 3) := by decide +kernel
theorem dX5_add_75 : decode cX5_add 75 = .ok (.aload_n 0, 1) := by decide +kernel
theorem dX5_add_76 : decode cX5_add 76 = .ok (.getfield 37, 3) := by decide +kernel
theorem dX5_add_79 : decode cX5_add 79 = .ok (.iconst 1, 1) := by decide +kernel
theorem dX5_add_80 : decode cX5_add 80 = .ok (.iload 6, 2) := by decide +kernel
theorem dX5_add_82 : decode cX5_add 82 = .ok (.iadd, 1) := by decide +kernel
theorem dX5_add_83 : decode cX5_add 83 = .ok (.iastore, 1) := by decide +kernel
theorem dX5_add_84 : decode cX5_add 84 = .ok (.aload_n 0, 1) := by decide +kernel
theorem dX5_add_85 : decode cX5_add 85 = .ok (.getfield 28, 3) := by decide +kernel
theorem dX5_add_88 : decode cX5_add 88 = .ok (.aload_n 0, 1) := by decide +kernel
theorem dX5_add_89 : decode cX5_add 89 = .ok (.getfield 37, 3) := by decide +kernel
theorem dX5_add_92 : decode cX5_add 92 = .ok (.iconst (-1), 1) := by decide +kernel
theorem dX5_add_93 : decode cX5_add 93 = .ok (.iastore, 1) := by decide +kernel
theorem dX5_add_94 : decode cX5_add 94 = .ok (.aload_n 0, 1) := by decide +kernel
theorem dX5_add_95 : decode cX5_add 95 = .ok (.getfield 31, 3) := by decide +kernel
theorem dX5_add_98 : decode cX5_add 98 = .ok (.aload_n 0, 1) := by decide +kernel
theorem dX5_add_99 : decode cX5_add 99 = .ok (.getfield 37, 3) := by decide +kernel
theorem dX5_add_102 : decode cX5_add 102 = .ok (.iconst (-1), 1) := by decide +kernel
theorem dX5_add_103 : decode cX5_add 103 = .ok (.iastore, 1) := by decide +kernel
theorem dX5_add_104 : decode cX5_add 104 = .ok (.aload_n 0, 1) := by decide +kernel
theorem dX5_add_105 : decode cX5_add 105 = .ok (.dup, 1) := by decide +kernel
theorem dX5_add_106 : decode cX5_add 106 = .ok (.getfield 37, 3) := by decide +kernel
theorem dX5_add_109 : decode cX5_add 109 = .ok (.iconst 1, 1) := by decide +kernel
theorem dX5_add_110 : decode cX5_add 110 = .ok (.iadd, 1) := by decide +kernel
theorem dX5_add_111 : decode cX5_add 111 = .ok (.putfield 37, 3) := by decide +kernel
theorem dX5_add_114 : decode cX5_add 114 = .ok (.return_, 1) := by decide +kernel
theorem dX5_sizeOfLast_0 : decode cX5_sizeOfLast 0 = .ok (.aload_n 0, 1) := by decide +kernel
theorem dX5_sizeOfLast_1 : decode cX5_sizeOfLast 1 = .ok (.getfield 37, 3) := by decide +kernel
theorem dX5_sizeOfLast_4 : decode cX5_sizeOfLast 4 = .ok (.istore_n 2, 1) := by decide +kernel
theorem dX5_sizeOfLast_5 : decode cX5_sizeOfLast 5 = .ok (.iconst 0, 1) := by decide +kernel
theorem dX5_sizeOfLast_6 : decode cX5_sizeOfLast 6 = .ok (.istore_n 3, 1) := by decide +kernel
theorem dX5_sizeOfLast_7 : decode cX5_sizeOfLast 7 = .ok (.iload_n 3, 1) := by decide +kernel
theorem dX5_sizeOfLast_8 : decode cX5_sizeOfLast 8 = .ok (.iload_n 1, 1) := by decide +kernel
theorem dX5_sizeOfLast_9 : decode cX5_sizeOfLast 9 = .ok (.if_icmp .ge 24, 3) := by decide +kernel
theorem dX5_sizeOfLast_33 : decode cX5_sizeOfLast 33 = .ok (.aload_n 0, 1) := by decide +kernel
theorem dX5_sizeOfLast_34 : decode cX5_sizeOfLast 34 = .ok (.getfield 37, 3) := by decide +kernel
theorem dX5_sizeOfLast_37 : decode cX5_sizeOfLast 37 = .ok (.iload_n 2, 1) := by decide +kernel
theorem dX5_sizeOfLast_38 : decode cX5_sizeOfLast 38 = .ok (.isub, 1) := by decide +kernel
theorem dX5_sizeOfLast_39 : decode cX5_sizeOfLast 39 = .ok (.ireturn, 1) := by decide +kernel
theorem dX7_number_0 : decode cX7_number 0 = .ok (.aload_n 0, 1) := by decide +kernel
theorem dX7_number_1 : decode cX7_number 1 = .ok (.iconst 0, 1) := by decide +kernel
theorem dX7_number_2 : decode cX7_number 2 = .ok (.iconst (-1), 1) := by decide +kernel
theorem dX7_number_3 : decode cX7_number 3 = .ok (.lload_n 1, 1) := by decide +kernel
theorem dX7_number_4 : decode cX7_number 4 = .ok (.invokevirtual 58, 3) := by decide +kernel
theorem dX7_number_7 : decode cX7_number 7 = .ok (.ireturn, 1) := by decide +kernel
theorem dX7_name_0 : decode cX7_name 0 = .ok (.iload_n 1, 1) := by decide +kernel
theorem dX7_name_1 : decode cX7_name 1 = .ok (.invokestatic 62, 3) := by decide +kernel
theorem dX7_name_4 : decode cX7_name 4 = .ok (.aload_n 0, 1) := by decide +kernel
theorem dX7_name_5 : decode cX7_name 5 = .ok (.iconst 1, 1) := by decide +kernel
theorem dX7_name_6 : decode cX7_name 6 = .ok (.iload_n 1, 1) := by decide +kernel
theorem dX7_name_7 : decode cX7_name 7 = .ok (.lconst 0, 1) := by decide +kernel
theorem dX7_name_8 : decode cX7_name 8 = .ok (.invokevirtual 58, 3) := by decide +kernel
theorem dX7_name_11 : decode cX7_name 11 = .ok (.ireturn, 1) := by decide +kernel
theorem dX7_function_0 : decode cX7_function 0 = .ok (.iload_n 1, 1) := by decide +kernel
theorem dX7_function_1 : decode cX7_function 1 = .ok (.invokestatic 62, 3) := by decide +kernel
theorem dX7_function_4 : decode cX7_function 4 = .ok (.aload_n 0, 1) := by decide +kernel
theorem dX7_function_5 : decode cX7_function 5 = .ok (.iconst 2, 1) := by decide +kernel
theorem dX7_function_6 : decode cX7_function 6 = .ok (.iload_n 1, 1) := by decide +kernel
theorem dX7_function_7 : decode cX7_function 7 = .ok (.iconst 0, 1) := by decide +kernel
theorem dX7_function_8 : decode cX7_function 8 = .ok (.invokevirtual 65, 3) := by decide +kernel
theorem dX7_putLeaf_0 : decode cX7_putLeaf 0 = .ok (.aload_n 0, 1) := by decide +kernel
theorem dX7_putLeaf_1 : decode cX7_putLeaf 1 = .ok (.getfield 72, 3) := by decide +kernel
theorem dX7_putLeaf_4 : decode cX7_putLeaf 4 = .ok (.bipush 20, 2) := by decide +kernel
theorem dX7_putLeaf_6 : decode cX7_putLeaf 6 = .ok (.if_icmp .lt 11, 3) := by decide +kernel
theorem dX7_putLeaf_17 : decode cX7_putLeaf 17 = .ok (.aload_n 0, 1) := by decide +kernel
theorem dX7_putLeaf_18 : decode cX7_putLeaf 18 = .ok (.getfield 14, 3) := by decide +kernel
theorem dX7_putLeaf_21 : decode cX7_putLeaf 21 = .ok (.iload_n 1, 1) := by decide +kernel
theorem dX7_putLeaf_22 : decode cX7_putLeaf 22 = .ok (.iload_n 2, 1) := by decide +kernel
theorem dX7_putLeaf_23 : decode cX7_putLeaf 23 = .ok (.iconst 0, 1) := by decide +kernel
theorem dX7_putLeaf_24 : decode cX7_putLeaf 24 = .ok (.lload_n 3, 1) := by decide +kernel
theorem dX7_putLeaf_25 : decode cX7_putLeaf 25 = .ok (.invokevirtual 169, 3) := by decide +kernel
theorem dX7_putLeaf_28 : decode cX7_putLeaf 28 = .ok (.aload_n 0, 1) := by decide +kernel
theorem dX7_putLeaf_29 : decode cX7_putLeaf 29 = .ok (.dup, 1) := by decide +kernel
theorem dX7_putLeaf_30 : decode cX7_putLeaf 30 = .ok (.getfield 72, 3) := by decide +kernel
theorem dX7_putLeaf_33 : decode cX7_putLeaf 33 = .ok (.iconst 1, 1) := by decide +kernel
theorem dX7_putLeaf_34 : decode cX7_putLeaf 34 = .ok (.iadd, 1) := by decide +kernel
theorem dX7_putLeaf_35 : decode cX7_putLeaf 35 = .ok (.putfield 72, 3) := by decide +kernel
theorem dX7_putLeaf_38 : decode cX7_putLeaf 38 = .ok (.aload_n 0, 1) := by decide +kernel
theorem dX7_putLeaf_39 : decode cX7_putLeaf 39 = .ok (.getfield 72, 3) := by decide +kernel
theorem dX7_putLeaf_42 : decode cX7_putLeaf 42 = .ok (.ireturn, 1) := by decide +kernel
theorem dX7_join_0 : decode cX7_join 0 = .ok (.iload_n 1, 1) := by decide +kernel
theorem dX7_join_1 : decode cX7_join 1 = .ok (.invokestatic 173, 3) := by decide +kernel
theorem dX7_join_4 : decode cX7_join 4 = .ok (.istore 4, 2) := by decide +kernel
theorem dX7_join_6 : decode cX7_join 6 = .ok (.aload_n 0, 1) := by decide +kernel
theorem dX7_join_7 : decode cX7_join 7 = .ok (.getfield 72, 3) := by decide +kernel
theorem dX7_join_10 : decode cX7_join 10 = .ok (.iload 4, 2) := by decide +kernel
theorem dX7_join_12 : decode cX7_join 12 = .ok (.if_icmp .lt 17, 3) := by decide +kernel
theorem dX7_join_29 : decode cX7_join 29 = .ok (.new 75, 3) := by decide +kernel
theorem dX7_join_32 : decode cX7_join 32 = .ok (.dup, 1) := by decide +kernel
theorem dX7_join_33 : decode cX7_join 33 = .ok (.invokespecial 77, 3) := by decide +kernel
theorem dX7_join_36 : decode cX7_join 36 = .ok (.athrow, 1) := by decide +kernel
theorem dX7_checkName_0 : decode cX7_checkName 0 = .ok (.iload_n 0, 1) := by decide +kernel
theorem dX7_checkName_1 : decode cX7_checkName 1 = .ok (.ifCond .lt 9, 3) := by decide +kernel
theorem dX7_checkName_4 : decode cX7_checkName 4 = .ok (.iload_n 0, 1) := by decide +kernel
theorem dX7_checkName_5 : decode cX7_checkName 5 = .ok (.bipush 10, 2) := by decide +kernel
theorem dX7_checkName_7 : decode cX7_checkName 7 = .ok (.if_icmp .lt 11, 3) := by decide +kernel
theorem dX7_checkName_10 : decode cX7_checkName 10 = .ok (.new 107, 3) := by decide +kernel
theorem dX7_checkName_13 : decode cX7_checkName 13 = .ok (.dup, 1) := by decide +kernel
theorem dX7_checkName_14 : decode cX7_checkName 14 = .ok (.invokespecial 109, 3) := by decide +kernel
theorem dX7_checkName_17 : decode cX7_checkName 17 = .ok (.athrow, 1) := by decide +kernel
theorem dX7_checkName_18 : decode cX7_checkName 18 = .ok (.return_, 1) := by decide +kernel
set_option maxRecDepth 20000 in
def z_pO0 : List Cond := .code yX5_partsOf cX5_partsOf 1 (some .int) :: (([.fieldLink RX5 34 "Selfkindle$Term" "PARTS_OF" "[I"] : List Cond))
set_option maxHeartbeats 4000000 in
set_option maxRecDepth 100000 in
theorem c_pO0 (l : Launch) (dC : Nat → ClassId) (dI : Nat → Nat → Nat) (tp te : Nat) (sz : Nat)   : Met l yX5_partsOf z_pO0 ({ frames := 0, cells := 0, slots := 0, locals := 0 }) (va_Pc [.int 0] (Pw dC dI [] [] sz tp te)) (va_Qi (fun (r : Int32) (_ : Unit) => r = 0) (fun (_ : Unit) (_ : State) => True) (va_A [] sz)) 0 0 (va_A [] sz) := by
  refine Met.ofW (cc := cX5_partsOf) (maxL := 1) (ret := (some .int)) (by decide) rfl ?_
  intro p e s m args below meth c s₁ B hml hv
  obtain ⟨rfl, hsz, hP, hK, hD0, hG⟩ := hv
  have hx := B.exec
  have hb := B.bytes
  have hr := B.returns
  have hts := atoms_spec (ws := z_pO0) B.pre
  have hown : s.vm.findClass RX5 = some m.cls := findClass_of_methodNamed B.named
  have hlocks := B.notSynchronized
  subst hsz
  have hD := hD0.self (sz := s.heap.size)
  generalize hAe : va_A [] s.heap.size = A at hD hG ⊢
  have hA : ∀ q : Nat, s.heap.size ≤ q → A q := fun q h => by rw [← hAe]; exact Or.inr h
  have hS : va_S A s.heap s.heap [] := va_S.rf
  have hl := lv_entry ([.int 0]) (n := 1) (Nat.le_of_ble_eq_true rfl)
  rw [lg_entry_eq]
  generalize (lg_sl ([.int 0]) ++ List.replicate (1 - (lg_sl ([.int 0])).length) Slot.unset).toArray = ls at hl ⊢
  have hl : lv_has ls 1 [(0, .int 0)] := hl
  refine lv_iload_n hx hb dX5_partsOf_0 rfl (lv_at hl 0 rfl) ?_
  refine lv_if_lt (tgt := 20) hx hb dX5_partsOf_1 (by decide) (fun c9 => absurd c9 (by decide)) (fun c9 => ?_)
  refine lv_iload_n hx hb dX5_partsOf_4 rfl (lv_at hl 0 rfl) ?_
  refine va_gets (v := .ref tp) hx hb hG.1 hS hown (hts (.fieldLink RX5 34 "Selfkindle$Term" "PARTS_OF" "[I") (List.mem_of_getElem? (i := 1) rfl)) (fun _ h9 => h9) dX5_partsOf_5 ?_
  refine va_tlen (v := 12) hx hb hG.2.1 hS (by decide) dX5_partsOf_8 ?_
  refine lv_icmp_ge (tgt := 20) hx hb dX5_partsOf_9 (by decide) (fun c9 => absurd c9 (by decide)) (fun c9 => ?_)
  refine va_gets (v := .ref tp) hx hb hG.1 hS hown (hts (.fieldLink RX5 34 "Selfkindle$Term" "PARTS_OF" "[I") (List.mem_of_getElem? (i := 1) rfl)) (fun _ h9 => h9) dX5_partsOf_12 ?_
  refine lv_iload_n hx hb dX5_partsOf_15 rfl (lv_at hl 0 rfl) ?_
  refine va_ti (v := .int 0) hx hb hG.2.1 hS (by unfold vp_in; decide +kernel) (by decide +kernel) dX5_partsOf_16 ?_
  refine lv_goto (tgt := 21) hx hb dX5_partsOf_17 (by decide) ?_
  refine W.widen (k := 0) (n := 0) (Nat.le_of_ble_eq_true rfl) (Nat.le_of_ble_eq_true rfl) ?_
  exact W.iret (v := 0) hx hb hr (fun t ht hW => ⟨⟨0, (), rfl, rfl, trivial⟩, hS.F ht⟩) hS.2.2 dX5_partsOf_21

set_option maxRecDepth 20000 in
def z_pO1 : List Cond := .code yX5_partsOf cX5_partsOf 1 (some .int) :: (([.fieldLink RX5 34 "Selfkindle$Term" "PARTS_OF" "[I"] : List Cond))
set_option maxHeartbeats 4000000 in
set_option maxRecDepth 100000 in
theorem c_pO1 (l : Launch) (dC : Nat → ClassId) (dI : Nat → Nat → Nat) (tp te : Nat) (sz : Nat)   : Met l yX5_partsOf z_pO1 ({ frames := 0, cells := 0, slots := 0, locals := 0 }) (va_Pc [.int 1] (Pw dC dI [] [] sz tp te)) (va_Qi (fun (r : Int32) (_ : Unit) => r = 0) (fun (_ : Unit) (_ : State) => True) (va_A [] sz)) 0 0 (va_A [] sz) := by
  refine Met.ofW (cc := cX5_partsOf) (maxL := 1) (ret := (some .int)) (by decide) rfl ?_
  intro p e s m args below meth c s₁ B hml hv
  obtain ⟨rfl, hsz, hP, hK, hD0, hG⟩ := hv
  have hx := B.exec
  have hb := B.bytes
  have hr := B.returns
  have hts := atoms_spec (ws := z_pO1) B.pre
  have hown : s.vm.findClass RX5 = some m.cls := findClass_of_methodNamed B.named
  have hlocks := B.notSynchronized
  subst hsz
  have hD := hD0.self (sz := s.heap.size)
  generalize hAe : va_A [] s.heap.size = A at hD hG ⊢
  have hA : ∀ q : Nat, s.heap.size ≤ q → A q := fun q h => by rw [← hAe]; exact Or.inr h
  have hS : va_S A s.heap s.heap [] := va_S.rf
  have hl := lv_entry ([.int 1]) (n := 1) (Nat.le_of_ble_eq_true rfl)
  rw [lg_entry_eq]
  generalize (lg_sl ([.int 1]) ++ List.replicate (1 - (lg_sl ([.int 1])).length) Slot.unset).toArray = ls at hl ⊢
  have hl : lv_has ls 1 [(0, .int 1)] := hl
  refine lv_iload_n hx hb dX5_partsOf_0 rfl (lv_at hl 0 rfl) ?_
  refine lv_if_lt (tgt := 20) hx hb dX5_partsOf_1 (by decide) (fun c9 => absurd c9 (by decide)) (fun c9 => ?_)
  refine lv_iload_n hx hb dX5_partsOf_4 rfl (lv_at hl 0 rfl) ?_
  refine va_gets (v := .ref tp) hx hb hG.1 hS hown (hts (.fieldLink RX5 34 "Selfkindle$Term" "PARTS_OF" "[I") (List.mem_of_getElem? (i := 1) rfl)) (fun _ h9 => h9) dX5_partsOf_5 ?_
  refine va_tlen (v := 12) hx hb hG.2.1 hS (by decide) dX5_partsOf_8 ?_
  refine lv_icmp_ge (tgt := 20) hx hb dX5_partsOf_9 (by decide) (fun c9 => absurd c9 (by decide)) (fun c9 => ?_)
  refine va_gets (v := .ref tp) hx hb hG.1 hS hown (hts (.fieldLink RX5 34 "Selfkindle$Term" "PARTS_OF" "[I") (List.mem_of_getElem? (i := 1) rfl)) (fun _ h9 => h9) dX5_partsOf_12 ?_
  refine lv_iload_n hx hb dX5_partsOf_15 rfl (lv_at hl 0 rfl) ?_
  refine va_ti (v := .int 0) hx hb hG.2.1 hS (by unfold vp_in; decide +kernel) (by decide +kernel) dX5_partsOf_16 ?_
  refine lv_goto (tgt := 21) hx hb dX5_partsOf_17 (by decide) ?_
  refine W.widen (k := 0) (n := 0) (Nat.le_of_ble_eq_true rfl) (Nat.le_of_ble_eq_true rfl) ?_
  exact W.iret (v := 0) hx hb hr (fun t ht hW => ⟨⟨0, (), rfl, rfl, trivial⟩, hS.F ht⟩) hS.2.2 dX5_partsOf_21

set_option maxRecDepth 20000 in
def z_pO2 : List Cond := .code yX5_partsOf cX5_partsOf 1 (some .int) :: (([.fieldLink RX5 34 "Selfkindle$Term" "PARTS_OF" "[I"] : List Cond))
set_option maxHeartbeats 4000000 in
set_option maxRecDepth 100000 in
theorem c_pO2 (l : Launch) (dC : Nat → ClassId) (dI : Nat → Nat → Nat) (tp te : Nat) (sz : Nat)   : Met l yX5_partsOf z_pO2 ({ frames := 0, cells := 0, slots := 0, locals := 0 }) (va_Pc [.int 2] (Pw dC dI [] [] sz tp te)) (va_Qi (fun (r : Int32) (_ : Unit) => r = 1) (fun (_ : Unit) (_ : State) => True) (va_A [] sz)) 0 0 (va_A [] sz) := by
  refine Met.ofW (cc := cX5_partsOf) (maxL := 1) (ret := (some .int)) (by decide) rfl ?_
  intro p e s m args below meth c s₁ B hml hv
  obtain ⟨rfl, hsz, hP, hK, hD0, hG⟩ := hv
  have hx := B.exec
  have hb := B.bytes
  have hr := B.returns
  have hts := atoms_spec (ws := z_pO2) B.pre
  have hown : s.vm.findClass RX5 = some m.cls := findClass_of_methodNamed B.named
  have hlocks := B.notSynchronized
  subst hsz
  have hD := hD0.self (sz := s.heap.size)
  generalize hAe : va_A [] s.heap.size = A at hD hG ⊢
  have hA : ∀ q : Nat, s.heap.size ≤ q → A q := fun q h => by rw [← hAe]; exact Or.inr h
  have hS : va_S A s.heap s.heap [] := va_S.rf
  have hl := lv_entry ([.int 2]) (n := 1) (Nat.le_of_ble_eq_true rfl)
  rw [lg_entry_eq]
  generalize (lg_sl ([.int 2]) ++ List.replicate (1 - (lg_sl ([.int 2])).length) Slot.unset).toArray = ls at hl ⊢
  have hl : lv_has ls 1 [(0, .int 2)] := hl
  refine lv_iload_n hx hb dX5_partsOf_0 rfl (lv_at hl 0 rfl) ?_
  refine lv_if_lt (tgt := 20) hx hb dX5_partsOf_1 (by decide) (fun c9 => absurd c9 (by decide)) (fun c9 => ?_)
  refine lv_iload_n hx hb dX5_partsOf_4 rfl (lv_at hl 0 rfl) ?_
  refine va_gets (v := .ref tp) hx hb hG.1 hS hown (hts (.fieldLink RX5 34 "Selfkindle$Term" "PARTS_OF" "[I") (List.mem_of_getElem? (i := 1) rfl)) (fun _ h9 => h9) dX5_partsOf_5 ?_
  refine va_tlen (v := 12) hx hb hG.2.1 hS (by decide) dX5_partsOf_8 ?_
  refine lv_icmp_ge (tgt := 20) hx hb dX5_partsOf_9 (by decide) (fun c9 => absurd c9 (by decide)) (fun c9 => ?_)
  refine va_gets (v := .ref tp) hx hb hG.1 hS hown (hts (.fieldLink RX5 34 "Selfkindle$Term" "PARTS_OF" "[I") (List.mem_of_getElem? (i := 1) rfl)) (fun _ h9 => h9) dX5_partsOf_12 ?_
  refine lv_iload_n hx hb dX5_partsOf_15 rfl (lv_at hl 0 rfl) ?_
  refine va_ti (v := .int 1) hx hb hG.2.1 hS (by unfold vp_in; decide +kernel) (by decide +kernel) dX5_partsOf_16 ?_
  refine lv_goto (tgt := 21) hx hb dX5_partsOf_17 (by decide) ?_
  refine W.widen (k := 0) (n := 0) (Nat.le_of_ble_eq_true rfl) (Nat.le_of_ble_eq_true rfl) ?_
  exact W.iret (v := 1) hx hb hr (fun t ht hW => ⟨⟨1, (), rfl, rfl, trivial⟩, hS.F ht⟩) hS.2.2 dX5_partsOf_21

set_option maxRecDepth 20000 in
def z_pO3 : List Cond := .code yX5_partsOf cX5_partsOf 1 (some .int) :: (([.fieldLink RX5 34 "Selfkindle$Term" "PARTS_OF" "[I"] : List Cond))
set_option maxHeartbeats 4000000 in
set_option maxRecDepth 100000 in
theorem c_pO3 (l : Launch) (dC : Nat → ClassId) (dI : Nat → Nat → Nat) (tp te : Nat) (sz : Nat)   : Met l yX5_partsOf z_pO3 ({ frames := 0, cells := 0, slots := 0, locals := 0 }) (va_Pc [.int 3] (Pw dC dI [] [] sz tp te)) (va_Qi (fun (r : Int32) (_ : Unit) => r = 2) (fun (_ : Unit) (_ : State) => True) (va_A [] sz)) 0 0 (va_A [] sz) := by
  refine Met.ofW (cc := cX5_partsOf) (maxL := 1) (ret := (some .int)) (by decide) rfl ?_
  intro p e s m args below meth c s₁ B hml hv
  obtain ⟨rfl, hsz, hP, hK, hD0, hG⟩ := hv
  have hx := B.exec
  have hb := B.bytes
  have hr := B.returns
  have hts := atoms_spec (ws := z_pO3) B.pre
  have hown : s.vm.findClass RX5 = some m.cls := findClass_of_methodNamed B.named
  have hlocks := B.notSynchronized
  subst hsz
  have hD := hD0.self (sz := s.heap.size)
  generalize hAe : va_A [] s.heap.size = A at hD hG ⊢
  have hA : ∀ q : Nat, s.heap.size ≤ q → A q := fun q h => by rw [← hAe]; exact Or.inr h
  have hS : va_S A s.heap s.heap [] := va_S.rf
  have hl := lv_entry ([.int 3]) (n := 1) (Nat.le_of_ble_eq_true rfl)
  rw [lg_entry_eq]
  generalize (lg_sl ([.int 3]) ++ List.replicate (1 - (lg_sl ([.int 3])).length) Slot.unset).toArray = ls at hl ⊢
  have hl : lv_has ls 1 [(0, .int 3)] := hl
  refine lv_iload_n hx hb dX5_partsOf_0 rfl (lv_at hl 0 rfl) ?_
  refine lv_if_lt (tgt := 20) hx hb dX5_partsOf_1 (by decide) (fun c9 => absurd c9 (by decide)) (fun c9 => ?_)
  refine lv_iload_n hx hb dX5_partsOf_4 rfl (lv_at hl 0 rfl) ?_
  refine va_gets (v := .ref tp) hx hb hG.1 hS hown (hts (.fieldLink RX5 34 "Selfkindle$Term" "PARTS_OF" "[I") (List.mem_of_getElem? (i := 1) rfl)) (fun _ h9 => h9) dX5_partsOf_5 ?_
  refine va_tlen (v := 12) hx hb hG.2.1 hS (by decide) dX5_partsOf_8 ?_
  refine lv_icmp_ge (tgt := 20) hx hb dX5_partsOf_9 (by decide) (fun c9 => absurd c9 (by decide)) (fun c9 => ?_)
  refine va_gets (v := .ref tp) hx hb hG.1 hS hown (hts (.fieldLink RX5 34 "Selfkindle$Term" "PARTS_OF" "[I") (List.mem_of_getElem? (i := 1) rfl)) (fun _ h9 => h9) dX5_partsOf_12 ?_
  refine lv_iload_n hx hb dX5_partsOf_15 rfl (lv_at hl 0 rfl) ?_
  refine va_ti (v := .int 2) hx hb hG.2.1 hS (by unfold vp_in; decide +kernel) (by decide +kernel) dX5_partsOf_16 ?_
  refine lv_goto (tgt := 21) hx hb dX5_partsOf_17 (by decide) ?_
  refine W.widen (k := 0) (n := 0) (Nat.le_of_ble_eq_true rfl) (Nat.le_of_ble_eq_true rfl) ?_
  exact W.iret (v := 2) hx hb hr (fun t ht hW => ⟨⟨2, (), rfl, rfl, trivial⟩, hS.F ht⟩) hS.2.2 dX5_partsOf_21

set_option maxRecDepth 20000 in
def z_pO4 : List Cond := .code yX5_partsOf cX5_partsOf 1 (some .int) :: (([.fieldLink RX5 34 "Selfkindle$Term" "PARTS_OF" "[I"] : List Cond))
set_option maxHeartbeats 4000000 in
set_option maxRecDepth 100000 in
theorem c_pO4 (l : Launch) (dC : Nat → ClassId) (dI : Nat → Nat → Nat) (tp te : Nat) (sz : Nat)   : Met l yX5_partsOf z_pO4 ({ frames := 0, cells := 0, slots := 0, locals := 0 }) (va_Pc [.int 4] (Pw dC dI [] [] sz tp te)) (va_Qi (fun (r : Int32) (_ : Unit) => r = 2) (fun (_ : Unit) (_ : State) => True) (va_A [] sz)) 0 0 (va_A [] sz) := by
  refine Met.ofW (cc := cX5_partsOf) (maxL := 1) (ret := (some .int)) (by decide) rfl ?_
  intro p e s m args below meth c s₁ B hml hv
  obtain ⟨rfl, hsz, hP, hK, hD0, hG⟩ := hv
  have hx := B.exec
  have hb := B.bytes
  have hr := B.returns
  have hts := atoms_spec (ws := z_pO4) B.pre
  have hown : s.vm.findClass RX5 = some m.cls := findClass_of_methodNamed B.named
  have hlocks := B.notSynchronized
  subst hsz
  have hD := hD0.self (sz := s.heap.size)
  generalize hAe : va_A [] s.heap.size = A at hD hG ⊢
  have hA : ∀ q : Nat, s.heap.size ≤ q → A q := fun q h => by rw [← hAe]; exact Or.inr h
  have hS : va_S A s.heap s.heap [] := va_S.rf
  have hl := lv_entry ([.int 4]) (n := 1) (Nat.le_of_ble_eq_true rfl)
  rw [lg_entry_eq]
  generalize (lg_sl ([.int 4]) ++ List.replicate (1 - (lg_sl ([.int 4])).length) Slot.unset).toArray = ls at hl ⊢
  have hl : lv_has ls 1 [(0, .int 4)] := hl
  refine lv_iload_n hx hb dX5_partsOf_0 rfl (lv_at hl 0 rfl) ?_
  refine lv_if_lt (tgt := 20) hx hb dX5_partsOf_1 (by decide) (fun c9 => absurd c9 (by decide)) (fun c9 => ?_)
  refine lv_iload_n hx hb dX5_partsOf_4 rfl (lv_at hl 0 rfl) ?_
  refine va_gets (v := .ref tp) hx hb hG.1 hS hown (hts (.fieldLink RX5 34 "Selfkindle$Term" "PARTS_OF" "[I") (List.mem_of_getElem? (i := 1) rfl)) (fun _ h9 => h9) dX5_partsOf_5 ?_
  refine va_tlen (v := 12) hx hb hG.2.1 hS (by decide) dX5_partsOf_8 ?_
  refine lv_icmp_ge (tgt := 20) hx hb dX5_partsOf_9 (by decide) (fun c9 => absurd c9 (by decide)) (fun c9 => ?_)
  refine va_gets (v := .ref tp) hx hb hG.1 hS hown (hts (.fieldLink RX5 34 "Selfkindle$Term" "PARTS_OF" "[I") (List.mem_of_getElem? (i := 1) rfl)) (fun _ h9 => h9) dX5_partsOf_12 ?_
  refine lv_iload_n hx hb dX5_partsOf_15 rfl (lv_at hl 0 rfl) ?_
  refine va_ti (v := .int 2) hx hb hG.2.1 hS (by unfold vp_in; decide +kernel) (by decide +kernel) dX5_partsOf_16 ?_
  refine lv_goto (tgt := 21) hx hb dX5_partsOf_17 (by decide) ?_
  refine W.widen (k := 0) (n := 0) (Nat.le_of_ble_eq_true rfl) (Nat.le_of_ble_eq_true rfl) ?_
  exact W.iret (v := 2) hx hb hr (fun t ht hW => ⟨⟨2, (), rfl, rfl, trivial⟩, hS.F ht⟩) hS.2.2 dX5_partsOf_21

set_option maxRecDepth 20000 in
def z_pO5 : List Cond := .code yX5_partsOf cX5_partsOf 1 (some .int) :: (([.fieldLink RX5 34 "Selfkindle$Term" "PARTS_OF" "[I"] : List Cond))
set_option maxHeartbeats 4000000 in
set_option maxRecDepth 100000 in
theorem c_pO5 (l : Launch) (dC : Nat → ClassId) (dI : Nat → Nat → Nat) (tp te : Nat) (sz : Nat)   : Met l yX5_partsOf z_pO5 ({ frames := 0, cells := 0, slots := 0, locals := 0 }) (va_Pc [.int 5] (Pw dC dI [] [] sz tp te)) (va_Qi (fun (r : Int32) (_ : Unit) => r = 3) (fun (_ : Unit) (_ : State) => True) (va_A [] sz)) 0 0 (va_A [] sz) := by
  refine Met.ofW (cc := cX5_partsOf) (maxL := 1) (ret := (some .int)) (by decide) rfl ?_
  intro p e s m args below meth c s₁ B hml hv
  obtain ⟨rfl, hsz, hP, hK, hD0, hG⟩ := hv
  have hx := B.exec
  have hb := B.bytes
  have hr := B.returns
  have hts := atoms_spec (ws := z_pO5) B.pre
  have hown : s.vm.findClass RX5 = some m.cls := findClass_of_methodNamed B.named
  have hlocks := B.notSynchronized
  subst hsz
  have hD := hD0.self (sz := s.heap.size)
  generalize hAe : va_A [] s.heap.size = A at hD hG ⊢
  have hA : ∀ q : Nat, s.heap.size ≤ q → A q := fun q h => by rw [← hAe]; exact Or.inr h
  have hS : va_S A s.heap s.heap [] := va_S.rf
  have hl := lv_entry ([.int 5]) (n := 1) (Nat.le_of_ble_eq_true rfl)
  rw [lg_entry_eq]
  generalize (lg_sl ([.int 5]) ++ List.replicate (1 - (lg_sl ([.int 5])).length) Slot.unset).toArray = ls at hl ⊢
  have hl : lv_has ls 1 [(0, .int 5)] := hl
  refine lv_iload_n hx hb dX5_partsOf_0 rfl (lv_at hl 0 rfl) ?_
  refine lv_if_lt (tgt := 20) hx hb dX5_partsOf_1 (by decide) (fun c9 => absurd c9 (by decide)) (fun c9 => ?_)
  refine lv_iload_n hx hb dX5_partsOf_4 rfl (lv_at hl 0 rfl) ?_
  refine va_gets (v := .ref tp) hx hb hG.1 hS hown (hts (.fieldLink RX5 34 "Selfkindle$Term" "PARTS_OF" "[I") (List.mem_of_getElem? (i := 1) rfl)) (fun _ h9 => h9) dX5_partsOf_5 ?_
  refine va_tlen (v := 12) hx hb hG.2.1 hS (by decide) dX5_partsOf_8 ?_
  refine lv_icmp_ge (tgt := 20) hx hb dX5_partsOf_9 (by decide) (fun c9 => absurd c9 (by decide)) (fun c9 => ?_)
  refine va_gets (v := .ref tp) hx hb hG.1 hS hown (hts (.fieldLink RX5 34 "Selfkindle$Term" "PARTS_OF" "[I") (List.mem_of_getElem? (i := 1) rfl)) (fun _ h9 => h9) dX5_partsOf_12 ?_
  refine lv_iload_n hx hb dX5_partsOf_15 rfl (lv_at hl 0 rfl) ?_
  refine va_ti (v := .int 3) hx hb hG.2.1 hS (by unfold vp_in; decide +kernel) (by decide +kernel) dX5_partsOf_16 ?_
  refine lv_goto (tgt := 21) hx hb dX5_partsOf_17 (by decide) ?_
  refine W.widen (k := 0) (n := 0) (Nat.le_of_ble_eq_true rfl) (Nat.le_of_ble_eq_true rfl) ?_
  exact W.iret (v := 3) hx hb hr (fun t ht hW => ⟨⟨3, (), rfl, rfl, trivial⟩, hS.F ht⟩) hS.2.2 dX5_partsOf_21

set_option maxRecDepth 20000 in
def z_pO6 : List Cond := .code yX5_partsOf cX5_partsOf 1 (some .int) :: (([.fieldLink RX5 34 "Selfkindle$Term" "PARTS_OF" "[I"] : List Cond))
set_option maxHeartbeats 4000000 in
set_option maxRecDepth 100000 in
theorem c_pO6 (l : Launch) (dC : Nat → ClassId) (dI : Nat → Nat → Nat) (tp te : Nat) (sz : Nat)   : Met l yX5_partsOf z_pO6 ({ frames := 0, cells := 0, slots := 0, locals := 0 }) (va_Pc [.int 6] (Pw dC dI [] [] sz tp te)) (va_Qi (fun (r : Int32) (_ : Unit) => r = 2) (fun (_ : Unit) (_ : State) => True) (va_A [] sz)) 0 0 (va_A [] sz) := by
  refine Met.ofW (cc := cX5_partsOf) (maxL := 1) (ret := (some .int)) (by decide) rfl ?_
  intro p e s m args below meth c s₁ B hml hv
  obtain ⟨rfl, hsz, hP, hK, hD0, hG⟩ := hv
  have hx := B.exec
  have hb := B.bytes
  have hr := B.returns
  have hts := atoms_spec (ws := z_pO6) B.pre
  have hown : s.vm.findClass RX5 = some m.cls := findClass_of_methodNamed B.named
  have hlocks := B.notSynchronized
  subst hsz
  have hD := hD0.self (sz := s.heap.size)
  generalize hAe : va_A [] s.heap.size = A at hD hG ⊢
  have hA : ∀ q : Nat, s.heap.size ≤ q → A q := fun q h => by rw [← hAe]; exact Or.inr h
  have hS : va_S A s.heap s.heap [] := va_S.rf
  have hl := lv_entry ([.int 6]) (n := 1) (Nat.le_of_ble_eq_true rfl)
  rw [lg_entry_eq]
  generalize (lg_sl ([.int 6]) ++ List.replicate (1 - (lg_sl ([.int 6])).length) Slot.unset).toArray = ls at hl ⊢
  have hl : lv_has ls 1 [(0, .int 6)] := hl
  refine lv_iload_n hx hb dX5_partsOf_0 rfl (lv_at hl 0 rfl) ?_
  refine lv_if_lt (tgt := 20) hx hb dX5_partsOf_1 (by decide) (fun c9 => absurd c9 (by decide)) (fun c9 => ?_)
  refine lv_iload_n hx hb dX5_partsOf_4 rfl (lv_at hl 0 rfl) ?_
  refine va_gets (v := .ref tp) hx hb hG.1 hS hown (hts (.fieldLink RX5 34 "Selfkindle$Term" "PARTS_OF" "[I") (List.mem_of_getElem? (i := 1) rfl)) (fun _ h9 => h9) dX5_partsOf_5 ?_
  refine va_tlen (v := 12) hx hb hG.2.1 hS (by decide) dX5_partsOf_8 ?_
  refine lv_icmp_ge (tgt := 20) hx hb dX5_partsOf_9 (by decide) (fun c9 => absurd c9 (by decide)) (fun c9 => ?_)
  refine va_gets (v := .ref tp) hx hb hG.1 hS hown (hts (.fieldLink RX5 34 "Selfkindle$Term" "PARTS_OF" "[I") (List.mem_of_getElem? (i := 1) rfl)) (fun _ h9 => h9) dX5_partsOf_12 ?_
  refine lv_iload_n hx hb dX5_partsOf_15 rfl (lv_at hl 0 rfl) ?_
  refine va_ti (v := .int 2) hx hb hG.2.1 hS (by unfold vp_in; decide +kernel) (by decide +kernel) dX5_partsOf_16 ?_
  refine lv_goto (tgt := 21) hx hb dX5_partsOf_17 (by decide) ?_
  refine W.widen (k := 0) (n := 0) (Nat.le_of_ble_eq_true rfl) (Nat.le_of_ble_eq_true rfl) ?_
  exact W.iret (v := 2) hx hb hr (fun t ht hW => ⟨⟨2, (), rfl, rfl, trivial⟩, hS.F ht⟩) hS.2.2 dX5_partsOf_21

set_option maxRecDepth 20000 in
def z_pO7 : List Cond := .code yX5_partsOf cX5_partsOf 1 (some .int) :: (([.fieldLink RX5 34 "Selfkindle$Term" "PARTS_OF" "[I"] : List Cond))
set_option maxHeartbeats 4000000 in
set_option maxRecDepth 100000 in
theorem c_pO7 (l : Launch) (dC : Nat → ClassId) (dI : Nat → Nat → Nat) (tp te : Nat) (sz : Nat)   : Met l yX5_partsOf z_pO7 ({ frames := 0, cells := 0, slots := 0, locals := 0 }) (va_Pc [.int 7] (Pw dC dI [] [] sz tp te)) (va_Qi (fun (r : Int32) (_ : Unit) => r = 2) (fun (_ : Unit) (_ : State) => True) (va_A [] sz)) 0 0 (va_A [] sz) := by
  refine Met.ofW (cc := cX5_partsOf) (maxL := 1) (ret := (some .int)) (by decide) rfl ?_
  intro p e s m args below meth c s₁ B hml hv
  obtain ⟨rfl, hsz, hP, hK, hD0, hG⟩ := hv
  have hx := B.exec
  have hb := B.bytes
  have hr := B.returns
  have hts := atoms_spec (ws := z_pO7) B.pre
  have hown : s.vm.findClass RX5 = some m.cls := findClass_of_methodNamed B.named
  have hlocks := B.notSynchronized
  subst hsz
  have hD := hD0.self (sz := s.heap.size)
  generalize hAe : va_A [] s.heap.size = A at hD hG ⊢
  have hA : ∀ q : Nat, s.heap.size ≤ q → A q := fun q h => by rw [← hAe]; exact Or.inr h
  have hS : va_S A s.heap s.heap [] := va_S.rf
  have hl := lv_entry ([.int 7]) (n := 1) (Nat.le_of_ble_eq_true rfl)
  rw [lg_entry_eq]
  generalize (lg_sl ([.int 7]) ++ List.replicate (1 - (lg_sl ([.int 7])).length) Slot.unset).toArray = ls at hl ⊢
  have hl : lv_has ls 1 [(0, .int 7)] := hl
  refine lv_iload_n hx hb dX5_partsOf_0 rfl (lv_at hl 0 rfl) ?_
  refine lv_if_lt (tgt := 20) hx hb dX5_partsOf_1 (by decide) (fun c9 => absurd c9 (by decide)) (fun c9 => ?_)
  refine lv_iload_n hx hb dX5_partsOf_4 rfl (lv_at hl 0 rfl) ?_
  refine va_gets (v := .ref tp) hx hb hG.1 hS hown (hts (.fieldLink RX5 34 "Selfkindle$Term" "PARTS_OF" "[I") (List.mem_of_getElem? (i := 1) rfl)) (fun _ h9 => h9) dX5_partsOf_5 ?_
  refine va_tlen (v := 12) hx hb hG.2.1 hS (by decide) dX5_partsOf_8 ?_
  refine lv_icmp_ge (tgt := 20) hx hb dX5_partsOf_9 (by decide) (fun c9 => absurd c9 (by decide)) (fun c9 => ?_)
  refine va_gets (v := .ref tp) hx hb hG.1 hS hown (hts (.fieldLink RX5 34 "Selfkindle$Term" "PARTS_OF" "[I") (List.mem_of_getElem? (i := 1) rfl)) (fun _ h9 => h9) dX5_partsOf_12 ?_
  refine lv_iload_n hx hb dX5_partsOf_15 rfl (lv_at hl 0 rfl) ?_
  refine va_ti (v := .int 2) hx hb hG.2.1 hS (by unfold vp_in; decide +kernel) (by decide +kernel) dX5_partsOf_16 ?_
  refine lv_goto (tgt := 21) hx hb dX5_partsOf_17 (by decide) ?_
  refine W.widen (k := 0) (n := 0) (Nat.le_of_ble_eq_true rfl) (Nat.le_of_ble_eq_true rfl) ?_
  exact W.iret (v := 2) hx hb hr (fun t ht hW => ⟨⟨2, (), rfl, rfl, trivial⟩, hS.F ht⟩) hS.2.2 dX5_partsOf_21

set_option maxRecDepth 20000 in
def z_pO8 : List Cond := .code yX5_partsOf cX5_partsOf 1 (some .int) :: (([.fieldLink RX5 34 "Selfkindle$Term" "PARTS_OF" "[I"] : List Cond))
set_option maxHeartbeats 4000000 in
set_option maxRecDepth 100000 in
theorem c_pO8 (l : Launch) (dC : Nat → ClassId) (dI : Nat → Nat → Nat) (tp te : Nat) (sz : Nat)   : Met l yX5_partsOf z_pO8 ({ frames := 0, cells := 0, slots := 0, locals := 0 }) (va_Pc [.int 8] (Pw dC dI [] [] sz tp te)) (va_Qi (fun (r : Int32) (_ : Unit) => r = 2) (fun (_ : Unit) (_ : State) => True) (va_A [] sz)) 0 0 (va_A [] sz) := by
  refine Met.ofW (cc := cX5_partsOf) (maxL := 1) (ret := (some .int)) (by decide) rfl ?_
  intro p e s m args below meth c s₁ B hml hv
  obtain ⟨rfl, hsz, hP, hK, hD0, hG⟩ := hv
  have hx := B.exec
  have hb := B.bytes
  have hr := B.returns
  have hts := atoms_spec (ws := z_pO8) B.pre
  have hown : s.vm.findClass RX5 = some m.cls := findClass_of_methodNamed B.named
  have hlocks := B.notSynchronized
  subst hsz
  have hD := hD0.self (sz := s.heap.size)
  generalize hAe : va_A [] s.heap.size = A at hD hG ⊢
  have hA : ∀ q : Nat, s.heap.size ≤ q → A q := fun q h => by rw [← hAe]; exact Or.inr h
  have hS : va_S A s.heap s.heap [] := va_S.rf
  have hl := lv_entry ([.int 8]) (n := 1) (Nat.le_of_ble_eq_true rfl)
  rw [lg_entry_eq]
  generalize (lg_sl ([.int 8]) ++ List.replicate (1 - (lg_sl ([.int 8])).length) Slot.unset).toArray = ls at hl ⊢
  have hl : lv_has ls 1 [(0, .int 8)] := hl
  refine lv_iload_n hx hb dX5_partsOf_0 rfl (lv_at hl 0 rfl) ?_
  refine lv_if_lt (tgt := 20) hx hb dX5_partsOf_1 (by decide) (fun c9 => absurd c9 (by decide)) (fun c9 => ?_)
  refine lv_iload_n hx hb dX5_partsOf_4 rfl (lv_at hl 0 rfl) ?_
  refine va_gets (v := .ref tp) hx hb hG.1 hS hown (hts (.fieldLink RX5 34 "Selfkindle$Term" "PARTS_OF" "[I") (List.mem_of_getElem? (i := 1) rfl)) (fun _ h9 => h9) dX5_partsOf_5 ?_
  refine va_tlen (v := 12) hx hb hG.2.1 hS (by decide) dX5_partsOf_8 ?_
  refine lv_icmp_ge (tgt := 20) hx hb dX5_partsOf_9 (by decide) (fun c9 => absurd c9 (by decide)) (fun c9 => ?_)
  refine va_gets (v := .ref tp) hx hb hG.1 hS hown (hts (.fieldLink RX5 34 "Selfkindle$Term" "PARTS_OF" "[I") (List.mem_of_getElem? (i := 1) rfl)) (fun _ h9 => h9) dX5_partsOf_12 ?_
  refine lv_iload_n hx hb dX5_partsOf_15 rfl (lv_at hl 0 rfl) ?_
  refine va_ti (v := .int 2) hx hb hG.2.1 hS (by unfold vp_in; decide +kernel) (by decide +kernel) dX5_partsOf_16 ?_
  refine lv_goto (tgt := 21) hx hb dX5_partsOf_17 (by decide) ?_
  refine W.widen (k := 0) (n := 0) (Nat.le_of_ble_eq_true rfl) (Nat.le_of_ble_eq_true rfl) ?_
  exact W.iret (v := 2) hx hb hr (fun t ht hW => ⟨⟨2, (), rfl, rfl, trivial⟩, hS.F ht⟩) hS.2.2 dX5_partsOf_21

set_option maxRecDepth 20000 in
def z_pO9 : List Cond := .code yX5_partsOf cX5_partsOf 1 (some .int) :: (([.fieldLink RX5 34 "Selfkindle$Term" "PARTS_OF" "[I"] : List Cond))
set_option maxHeartbeats 4000000 in
set_option maxRecDepth 100000 in
theorem c_pO9 (l : Launch) (dC : Nat → ClassId) (dI : Nat → Nat → Nat) (tp te : Nat) (sz : Nat)   : Met l yX5_partsOf z_pO9 ({ frames := 0, cells := 0, slots := 0, locals := 0 }) (va_Pc [.int 9] (Pw dC dI [] [] sz tp te)) (va_Qi (fun (r : Int32) (_ : Unit) => r = 1) (fun (_ : Unit) (_ : State) => True) (va_A [] sz)) 0 0 (va_A [] sz) := by
  refine Met.ofW (cc := cX5_partsOf) (maxL := 1) (ret := (some .int)) (by decide) rfl ?_
  intro p e s m args below meth c s₁ B hml hv
  obtain ⟨rfl, hsz, hP, hK, hD0, hG⟩ := hv
  have hx := B.exec
  have hb := B.bytes
  have hr := B.returns
  have hts := atoms_spec (ws := z_pO9) B.pre
  have hown : s.vm.findClass RX5 = some m.cls := findClass_of_methodNamed B.named
  have hlocks := B.notSynchronized
  subst hsz
  have hD := hD0.self (sz := s.heap.size)
  generalize hAe : va_A [] s.heap.size = A at hD hG ⊢
  have hA : ∀ q : Nat, s.heap.size ≤ q → A q := fun q h => by rw [← hAe]; exact Or.inr h
  have hS : va_S A s.heap s.heap [] := va_S.rf
  have hl := lv_entry ([.int 9]) (n := 1) (Nat.le_of_ble_eq_true rfl)
  rw [lg_entry_eq]
  generalize (lg_sl ([.int 9]) ++ List.replicate (1 - (lg_sl ([.int 9])).length) Slot.unset).toArray = ls at hl ⊢
  have hl : lv_has ls 1 [(0, .int 9)] := hl
  refine lv_iload_n hx hb dX5_partsOf_0 rfl (lv_at hl 0 rfl) ?_
  refine lv_if_lt (tgt := 20) hx hb dX5_partsOf_1 (by decide) (fun c9 => absurd c9 (by decide)) (fun c9 => ?_)
  refine lv_iload_n hx hb dX5_partsOf_4 rfl (lv_at hl 0 rfl) ?_
  refine va_gets (v := .ref tp) hx hb hG.1 hS hown (hts (.fieldLink RX5 34 "Selfkindle$Term" "PARTS_OF" "[I") (List.mem_of_getElem? (i := 1) rfl)) (fun _ h9 => h9) dX5_partsOf_5 ?_
  refine va_tlen (v := 12) hx hb hG.2.1 hS (by decide) dX5_partsOf_8 ?_
  refine lv_icmp_ge (tgt := 20) hx hb dX5_partsOf_9 (by decide) (fun c9 => absurd c9 (by decide)) (fun c9 => ?_)
  refine va_gets (v := .ref tp) hx hb hG.1 hS hown (hts (.fieldLink RX5 34 "Selfkindle$Term" "PARTS_OF" "[I") (List.mem_of_getElem? (i := 1) rfl)) (fun _ h9 => h9) dX5_partsOf_12 ?_
  refine lv_iload_n hx hb dX5_partsOf_15 rfl (lv_at hl 0 rfl) ?_
  refine va_ti (v := .int 1) hx hb hG.2.1 hS (by unfold vp_in; decide +kernel) (by decide +kernel) dX5_partsOf_16 ?_
  refine lv_goto (tgt := 21) hx hb dX5_partsOf_17 (by decide) ?_
  refine W.widen (k := 0) (n := 0) (Nat.le_of_ble_eq_true rfl) (Nat.le_of_ble_eq_true rfl) ?_
  exact W.iret (v := 1) hx hb hr (fun t ht hW => ⟨⟨1, (), rfl, rfl, trivial⟩, hS.F ht⟩) hS.2.2 dX5_partsOf_21

set_option maxRecDepth 20000 in
def z_pO10 : List Cond := .code yX5_partsOf cX5_partsOf 1 (some .int) :: (([.fieldLink RX5 34 "Selfkindle$Term" "PARTS_OF" "[I"] : List Cond))
set_option maxHeartbeats 4000000 in
set_option maxRecDepth 100000 in
theorem c_pO10 (l : Launch) (dC : Nat → ClassId) (dI : Nat → Nat → Nat) (tp te : Nat) (sz : Nat)   : Met l yX5_partsOf z_pO10 ({ frames := 0, cells := 0, slots := 0, locals := 0 }) (va_Pc [.int 10] (Pw dC dI [] [] sz tp te)) (va_Qi (fun (r : Int32) (_ : Unit) => r = 1) (fun (_ : Unit) (_ : State) => True) (va_A [] sz)) 0 0 (va_A [] sz) := by
  refine Met.ofW (cc := cX5_partsOf) (maxL := 1) (ret := (some .int)) (by decide) rfl ?_
  intro p e s m args below meth c s₁ B hml hv
  obtain ⟨rfl, hsz, hP, hK, hD0, hG⟩ := hv
  have hx := B.exec
  have hb := B.bytes
  have hr := B.returns
  have hts := atoms_spec (ws := z_pO10) B.pre
  have hown : s.vm.findClass RX5 = some m.cls := findClass_of_methodNamed B.named
  have hlocks := B.notSynchronized
  subst hsz
  have hD := hD0.self (sz := s.heap.size)
  generalize hAe : va_A [] s.heap.size = A at hD hG ⊢
  have hA : ∀ q : Nat, s.heap.size ≤ q → A q := fun q h => by rw [← hAe]; exact Or.inr h
  have hS : va_S A s.heap s.heap [] := va_S.rf
  have hl := lv_entry ([.int 10]) (n := 1) (Nat.le_of_ble_eq_true rfl)
  rw [lg_entry_eq]
  generalize (lg_sl ([.int 10]) ++ List.replicate (1 - (lg_sl ([.int 10])).length) Slot.unset).toArray = ls at hl ⊢
  have hl : lv_has ls 1 [(0, .int 10)] := hl
  refine lv_iload_n hx hb dX5_partsOf_0 rfl (lv_at hl 0 rfl) ?_
  refine lv_if_lt (tgt := 20) hx hb dX5_partsOf_1 (by decide) (fun c9 => absurd c9 (by decide)) (fun c9 => ?_)
  refine lv_iload_n hx hb dX5_partsOf_4 rfl (lv_at hl 0 rfl) ?_
  refine va_gets (v := .ref tp) hx hb hG.1 hS hown (hts (.fieldLink RX5 34 "Selfkindle$Term" "PARTS_OF" "[I") (List.mem_of_getElem? (i := 1) rfl)) (fun _ h9 => h9) dX5_partsOf_5 ?_
  refine va_tlen (v := 12) hx hb hG.2.1 hS (by decide) dX5_partsOf_8 ?_
  refine lv_icmp_ge (tgt := 20) hx hb dX5_partsOf_9 (by decide) (fun c9 => absurd c9 (by decide)) (fun c9 => ?_)
  refine va_gets (v := .ref tp) hx hb hG.1 hS hown (hts (.fieldLink RX5 34 "Selfkindle$Term" "PARTS_OF" "[I") (List.mem_of_getElem? (i := 1) rfl)) (fun _ h9 => h9) dX5_partsOf_12 ?_
  refine lv_iload_n hx hb dX5_partsOf_15 rfl (lv_at hl 0 rfl) ?_
  refine va_ti (v := .int 1) hx hb hG.2.1 hS (by unfold vp_in; decide +kernel) (by decide +kernel) dX5_partsOf_16 ?_
  refine lv_goto (tgt := 21) hx hb dX5_partsOf_17 (by decide) ?_
  refine W.widen (k := 0) (n := 0) (Nat.le_of_ble_eq_true rfl) (Nat.le_of_ble_eq_true rfl) ?_
  exact W.iret (v := 1) hx hb hr (fun t ht hW => ⟨⟨1, (), rfl, rfl, trivial⟩, hS.F ht⟩) hS.2.2 dX5_partsOf_21

set_option maxRecDepth 20000 in
def z_pO11 : List Cond := .code yX5_partsOf cX5_partsOf 1 (some .int) :: (([.fieldLink RX5 34 "Selfkindle$Term" "PARTS_OF" "[I"] : List Cond))
set_option maxHeartbeats 4000000 in
set_option maxRecDepth 100000 in
theorem c_pO11 (l : Launch) (dC : Nat → ClassId) (dI : Nat → Nat → Nat) (tp te : Nat) (sz : Nat)   : Met l yX5_partsOf z_pO11 ({ frames := 0, cells := 0, slots := 0, locals := 0 }) (va_Pc [.int 11] (Pw dC dI [] [] sz tp te)) (va_Qi (fun (r : Int32) (_ : Unit) => r = 2) (fun (_ : Unit) (_ : State) => True) (va_A [] sz)) 0 0 (va_A [] sz) := by
  refine Met.ofW (cc := cX5_partsOf) (maxL := 1) (ret := (some .int)) (by decide) rfl ?_
  intro p e s m args below meth c s₁ B hml hv
  obtain ⟨rfl, hsz, hP, hK, hD0, hG⟩ := hv
  have hx := B.exec
  have hb := B.bytes
  have hr := B.returns
  have hts := atoms_spec (ws := z_pO11) B.pre
  have hown : s.vm.findClass RX5 = some m.cls := findClass_of_methodNamed B.named
  have hlocks := B.notSynchronized
  subst hsz
  have hD := hD0.self (sz := s.heap.size)
  generalize hAe : va_A [] s.heap.size = A at hD hG ⊢
  have hA : ∀ q : Nat, s.heap.size ≤ q → A q := fun q h => by rw [← hAe]; exact Or.inr h
  have hS : va_S A s.heap s.heap [] := va_S.rf
  have hl := lv_entry ([.int 11]) (n := 1) (Nat.le_of_ble_eq_true rfl)
  rw [lg_entry_eq]
  generalize (lg_sl ([.int 11]) ++ List.replicate (1 - (lg_sl ([.int 11])).length) Slot.unset).toArray = ls at hl ⊢
  have hl : lv_has ls 1 [(0, .int 11)] := hl
  refine lv_iload_n hx hb dX5_partsOf_0 rfl (lv_at hl 0 rfl) ?_
  refine lv_if_lt (tgt := 20) hx hb dX5_partsOf_1 (by decide) (fun c9 => absurd c9 (by decide)) (fun c9 => ?_)
  refine lv_iload_n hx hb dX5_partsOf_4 rfl (lv_at hl 0 rfl) ?_
  refine va_gets (v := .ref tp) hx hb hG.1 hS hown (hts (.fieldLink RX5 34 "Selfkindle$Term" "PARTS_OF" "[I") (List.mem_of_getElem? (i := 1) rfl)) (fun _ h9 => h9) dX5_partsOf_5 ?_
  refine va_tlen (v := 12) hx hb hG.2.1 hS (by decide) dX5_partsOf_8 ?_
  refine lv_icmp_ge (tgt := 20) hx hb dX5_partsOf_9 (by decide) (fun c9 => absurd c9 (by decide)) (fun c9 => ?_)
  refine va_gets (v := .ref tp) hx hb hG.1 hS hown (hts (.fieldLink RX5 34 "Selfkindle$Term" "PARTS_OF" "[I") (List.mem_of_getElem? (i := 1) rfl)) (fun _ h9 => h9) dX5_partsOf_12 ?_
  refine lv_iload_n hx hb dX5_partsOf_15 rfl (lv_at hl 0 rfl) ?_
  refine va_ti (v := .int 2) hx hb hG.2.1 hS (by unfold vp_in; decide +kernel) (by decide +kernel) dX5_partsOf_16 ?_
  refine lv_goto (tgt := 21) hx hb dX5_partsOf_17 (by decide) ?_
  refine W.widen (k := 0) (n := 0) (Nat.le_of_ble_eq_true rfl) (Nat.le_of_ble_eq_true rfl) ?_
  exact W.iret (v := 2) hx hb hr (fun t ht hW => ⟨⟨2, (), rfl, rfl, trivial⟩, hS.F ht⟩) hS.2.2 dX5_partsOf_21

set_option maxRecDepth 20000 in
def z_sOL : List Cond := .code yX5_sizeOfLast cX5_sizeOfLast 4 (some .int) :: (([.fieldLink RX5 37 "Selfkindle$Term" "count" "I"] : List Cond) ++ wsX50)
theorem in_z_sOL_X5 : ∀ w ∈ wsX50, w ∈ z_sOL := fun w h => List.mem_cons_of_mem _ (List.mem_append_right _ (h))
set_option maxHeartbeats 4000000 in
set_option maxRecDepth 100000 in
theorem c_sOL (l : Launch) (dC : Nat → ClassId) (dI : Nat → Nat → Nat) (tp te : Nat) (sz : Nat) (h0 : Nat) (a1 : Nat) (a2 : Nat) (a3 : Nat) (a4 : Nat) (a5 : Nat) (a6 : Nat) (a7 : Nat)  : Met l yX5_sizeOfLast z_sOL ({ frames := 0, cells := 0, slots := 0, locals := 0 }) (va_Pc [.ref h0, .int 0] (Pw dC dI [(h0, .inr (6, [.ref a1, .ref a2, .ref a3, .ref a4, .ref a5, .ref a6, .ref a7, .int 0]))] [] sz tp te)) (va_Qi (fun (r : Int32) (_ : Unit) => r = 0) (fun (_ : Unit) (t : State) => Bw dC dI [(h0, .inr (6, [.ref a1, .ref a2, .ref a3, .ref a4, .ref a5, .ref a6, .ref a7, .int 0]))] [] (va_A [(h0, .inr (6, [.ref a1, .ref a2, .ref a3, .ref a4, .ref a5, .ref a6, .ref a7, .int 0]))] sz) t) (va_A [(h0, .inr (6, [.ref a1, .ref a2, .ref a3, .ref a4, .ref a5, .ref a6, .ref a7, .int 0]))] sz)) 0 0 (va_A [(h0, .inr (6, [.ref a1, .ref a2, .ref a3, .ref a4, .ref a5, .ref a6, .ref a7, .int 0]))] sz) := by
  refine Met.ofW (cc := cX5_sizeOfLast) (maxL := 4) (ret := (some .int)) (by decide) rfl ?_
  intro p e s m args below meth c s₁ B hml hv
  obtain ⟨rfl, hsz, hP, hK, hD0, hG⟩ := hv
  have hx := B.exec
  have hb := B.bytes
  have hr := B.returns
  have hts := atoms_spec (ws := z_sOL) B.pre
  have hown : s.vm.findClass RX5 = some m.cls := findClass_of_methodNamed B.named
  have hlocks := B.notSynchronized
  subst hsz
  have hD := hD0.self (sz := s.heap.size)
  generalize hAe : va_A [(h0, .inr (6, [.ref a1, .ref a2, .ref a3, .ref a4, .ref a5, .ref a6, .ref a7, .int 0]))] s.heap.size = A at hD hG ⊢
  have hA : ∀ q : Nat, s.heap.size ≤ q → A q := fun q h => by rw [← hAe]; exact Or.inr h
  have hS : va_S A s.heap s.heap [] := va_S.rf
  have hl := lv_entry ([.ref h0, .int 0]) (n := 4) (Nat.le_of_ble_eq_true rfl)
  rw [lg_entry_eq]
  generalize (lg_sl ([.ref h0, .int 0]) ++ List.replicate (4 - (lg_sl ([.ref h0, .int 0])).length) Slot.unset).toArray = ls at hl ⊢
  have hl : lv_has ls 4 [(0, .ref h0), (1, .int 0)] := hl
  refine lv_aload_n hx hb dX5_sizeOfLast_0 rfl (lv_at hl 0 rfl) ?_
  refine va_get (D := (dC, dI)) (ci := 6) (v := .int 0) (C := RX5) (T := TX5) (N := 8) hx hb hts in_z_sOL_X5 hown hK hP 0 rfl rfl 7 (by decide) (hts (.fieldLink RX5 37 "Selfkindle$Term" "count" "I") (List.mem_of_getElem? (i := 1) rfl)) (fun _ h9 => h9) rfl dX5_sizeOfLast_1 ?_
  refine lv_istore_n (lv' := [(2, .int 0), (0, .ref h0), (1, .int 0)]) hx hb dX5_sizeOfLast_4 rfl hl (by decide) rfl (fun ls hl => ?_)
  refine lv_iconst (v := 0) hx hb dX5_sizeOfLast_5 (by decide) ?_
  refine lv_istore_n (lv' := [(3, .int 0), (2, .int 0), (0, .ref h0), (1, .int 0)]) hx hb dX5_sizeOfLast_6 rfl hl (by decide) rfl (fun ls hl => ?_)
  refine lv_iload_n hx hb dX5_sizeOfLast_7 rfl (lv_at hl 0 rfl) ?_
  refine lv_iload_n hx hb dX5_sizeOfLast_8 rfl (lv_at hl 3 rfl) ?_
  refine lv_icmp_ge (tgt := 33) hx hb dX5_sizeOfLast_9 (by decide) (fun c9 => ?_) (fun c9 => absurd (by decide) c9)
  refine lv_aload_n hx hb dX5_sizeOfLast_33 rfl (lv_at hl 2 rfl) ?_
  refine va_get (D := (dC, dI)) (ci := 6) (v := .int 0) (C := RX5) (T := TX5) (N := 8) hx hb hts in_z_sOL_X5 hown hK hP 0 rfl rfl 7 (by decide) (hts (.fieldLink RX5 37 "Selfkindle$Term" "count" "I") (List.mem_of_getElem? (i := 1) rfl)) (fun _ h9 => h9) rfl dX5_sizeOfLast_34 ?_
  refine lv_iload_n hx hb dX5_sizeOfLast_37 rfl (lv_at hl 1 rfl) ?_
  refine lv_isub hx hb dX5_sizeOfLast_38 ?_
  refine lv_topi (fun z_1 ez_1 => ?_)
  obtain rfl : z_1 = 0 := ez_1.trans (by decide)
  refine W.widen (k := 0) (n := 0) (Nat.le_of_ble_eq_true rfl) (Nat.le_of_ble_eq_true rfl) ?_
  exact W.iret (v := 0) hx hb hr (fun t ht hW => ⟨⟨0, (), rfl, rfl, ⟨by rw [ht]; exact hP, va_K.moved hW.alike hK, hD⟩⟩, hS.F ht⟩) hS.2.2 dX5_sizeOfLast_39

set_option maxRecDepth 20000 in
def z_Tadd0 : List Cond := .code yX5_add cX5_add 7 none :: (([.methodLink RX5 41 yX5_partsOf, .static yX5_partsOf, .initialized RX5, .code yX5_partsOf cX5_partsOf 1 (some .int), .fieldLink RX5 34 "Selfkindle$Term" "PARTS_OF" "[I", .methodLink RX5 45 yX5_sizeOfLast, .instanceMethod yX5_sizeOfLast, .selects RX5 yX5_sizeOfLast yX5_sizeOfLast, .code yX5_sizeOfLast cX5_sizeOfLast 4 (some .int), .fieldLink RX5 37 "Selfkindle$Term" "count" "I", .fieldLink RX5 9 "Selfkindle$Term" "kinds" "[I", .fieldLink RX5 15 "Selfkindle$Term" "names" "[I", .fieldLink RX5 18 "Selfkindle$Term" "others" "[I", .fieldLink RX5 21 "Selfkindle$Term" "numbers" "[J", .fieldLink RX5 25 "Selfkindle$Term" "sizes" "[I", .fieldLink RX5 28 "Selfkindle$Term" "binders" "[I", .fieldLink RX5 31 "Selfkindle$Term" "distances" "[I"] : List Cond) ++ wsX50)
theorem in_z_Tadd0_X5 : ∀ w ∈ wsX50, w ∈ z_Tadd0 := fun w h => List.mem_cons_of_mem _ (List.mem_append_right _ (h))
set_option maxRecDepth 20000 in
theorem g_Tadd0_2 : GoodIn z_Tadd0 (va_wsS RX5 41 yX5_partsOf z_pO0) := goodIn_p _ [4] rfl (by decide +kernel)
set_option maxRecDepth 20000 in
theorem g_Tadd0_5 : GoodIn z_Tadd0 (wsV RX5 45 RX5 yX5_sizeOfLast z_sOL) := goodIn_p _ [9] rfl (by decide +kernel)
set_option maxHeartbeats 4000000 in
set_option maxRecDepth 100000 in
theorem c_Tadd0 (l : Launch) (dC : Nat → ClassId) (dI : Nat → Nat → Nat) (tp te : Nat) (sz : Nat) (h0 : Nat) (a1 : Nat) (a2 : Nat) (a3 : Nat) (a4 : Nat) (a5 : Nat) (a6 : Nat) (a7 : Nat) (k1 : ClassId) (k2 : ClassId) (k3 : ClassId) (k4 : ClassId) (k5 : ClassId) (k6 : ClassId) (k7 : ClassId) (p1 : Int32) (p2 : Int64)  : Met l yX5_add z_Tadd0 ({ frames := 1, cells := 0, slots := 0, locals := 23 }) (va_Pc [.ref h0, .int 0, .int p1, .int 0, .long p2] (Pw dC dI [(h0, .inr (6, [.ref a1, .ref a2, .ref a3, .ref a4, .ref a5, .ref a6, .ref a7, .int 0])), (a1, .inl (k1, 1200, .inl (fun _ => 0))), (a2, .inl (k2, 1200, .inl (fun _ => 0))), (a3, .inl (k3, 1200, .inl (fun _ => 0))), (a4, .inl (k4, 1200, .inr (.inl (fun _ => 0)))), (a5, .inl (k5, 1200, .inl (fun _ => 0))), (a6, .inl (k6, 1200, .inl (fun _ => 0))), (a7, .inl (k7, 1200, .inl (fun _ => 0)))] [(k1, .int), (k2, .int), (k3, .int), (k4, .long), (k5, .int), (k6, .int), (k7, .int)] sz tp te)) (va_Qv (fun (_ : Unit) => True) (fun (_ : Unit) (_ : State) => True) (va_A [(h0, .inr (6, [.ref a1, .ref a2, .ref a3, .ref a4, .ref a5, .ref a6, .ref a7, .int 0])), (a1, .inl (k1, 1200, .inl (fun _ => 0))), (a2, .inl (k2, 1200, .inl (fun _ => 0))), (a3, .inl (k3, 1200, .inl (fun _ => 0))), (a4, .inl (k4, 1200, .inr (.inl (fun _ => 0)))), (a5, .inl (k5, 1200, .inl (fun _ => 0))), (a6, .inl (k6, 1200, .inl (fun _ => 0))), (a7, .inl (k7, 1200, .inl (fun _ => 0)))] sz)) 0 0 (va_A [(h0, .inr (6, [.ref a1, .ref a2, .ref a3, .ref a4, .ref a5, .ref a6, .ref a7, .int 0])), (a1, .inl (k1, 1200, .inl (fun _ => 0))), (a2, .inl (k2, 1200, .inl (fun _ => 0))), (a3, .inl (k3, 1200, .inl (fun _ => 0))), (a4, .inl (k4, 1200, .inr (.inl (fun _ => 0)))), (a5, .inl (k5, 1200, .inl (fun _ => 0))), (a6, .inl (k6, 1200, .inl (fun _ => 0))), (a7, .inl (k7, 1200, .inl (fun _ => 0)))] sz) := by
  refine Met.ofW (cc := cX5_add) (maxL := 7) (ret := none) (by decide) rfl ?_
  intro p e s m args below meth c s₁ B hml hv
  obtain ⟨rfl, hsz, hP, hK, hD0, hG⟩ := hv
  have hx := B.exec
  have hb := B.bytes
  have hr := B.returns
  have hts := atoms_spec (ws := z_Tadd0) B.pre
  have hown : s.vm.findClass RX5 = some m.cls := findClass_of_methodNamed B.named
  have hlocks := B.notSynchronized
  subst hsz
  have hD := hD0.self (sz := s.heap.size)
  generalize hAe : va_A [(h0, .inr (6, [.ref a1, .ref a2, .ref a3, .ref a4, .ref a5, .ref a6, .ref a7, .int 0])), (a1, .inl (k1, 1200, .inl (fun _ => 0))), (a2, .inl (k2, 1200, .inl (fun _ => 0))), (a3, .inl (k3, 1200, .inl (fun _ => 0))), (a4, .inl (k4, 1200, .inr (.inl (fun _ => 0)))), (a5, .inl (k5, 1200, .inl (fun _ => 0))), (a6, .inl (k6, 1200, .inl (fun _ => 0))), (a7, .inl (k7, 1200, .inl (fun _ => 0)))] s.heap.size = A at hD hG ⊢
  have hA : ∀ q : Nat, s.heap.size ≤ q → A q := fun q h => by rw [← hAe]; exact Or.inr h
  have hS : va_S A s.heap s.heap [] := va_S.rf
  have hl := lv_entry ([.ref h0, .int 0, .int p1, .int 0, .long p2]) (n := 7) (Nat.le_of_ble_eq_true rfl)
  rw [lg_entry_eq]
  generalize (lg_sl ([.ref h0, .int 0, .int p1, .int 0, .long p2]) ++ List.replicate (7 - (lg_sl ([.ref h0, .int 0, .int p1, .int 0, .long p2])).length) Slot.unset).toArray = ls at hl ⊢
  have hl : lv_has ls 7 [(0, .ref h0), (1, .int 0), (2, .int p1), (3, .int 0), (4, .long p2)] := hl
  refine lv_aload_n hx hb dX5_add_0 rfl (lv_at hl 0 rfl) ?_
  refine lv_iload_n hx hb dX5_add_1 rfl (lv_at hl 1 rfl) ?_
  have hPc := hP.sub (ws' := []) [] rfl
  have hDc := hD.sub (ws' := []) [] (by decide) rfl
  have hKc := hK.sub (tys' := []) [] rfl
  have hFc := va_free (wc := []) hD hS hA [] rfl
  refine va_calli (va_runS (As := [.int 0]) (rest := [.ref h0]) ⟨hx, hb, hml, hown, hts⟩ (c_pO0 l dC dI tp te s.heap.size) (va_cwS 1 hts g_Tadd0_2 rfl rfl rfl (by decide +kernel) ⟨Nat.le_of_ble_eq_true rfl, Nat.le_of_ble_eq_true rfl⟩) ⟨Pw.blind, Pw.mk hPc hKc hDc hG hS hFc⟩ rfl rfl hl.1 rfl (lv_room (Nat.le_of_ble_eq_true rfl)) dX5_add_2 ⟨Nat.le_of_ble_eq_true rfl, Nat.le_of_ble_eq_true rfl⟩) hS (fun q _ h => hFc q h) hFc (fun r u t9 H_1 locs ht hvm hw hB hz1 hk1 hS => ?_)
  have hw : r = 0 := hw
  subst hw
  obtain ⟨hP, hD⟩ := va_join (wr := [(h0, .inr (6, [.ref a1, .ref a2, .ref a3, .ref a4, .ref a5, .ref a6, .ref a7, .int 0])), (a1, .inl (k1, 1200, .inl (fun _ => 0))), (a2, .inl (k2, 1200, .inl (fun _ => 0))), (a3, .inl (k3, 1200, .inl (fun _ => 0))), (a4, .inl (k4, 1200, .inr (.inl (fun _ => 0)))), (a5, .inl (k5, 1200, .inl (fun _ => 0))), (a6, .inl (k6, 1200, .inl (fun _ => 0))), (a7, .inl (k7, 1200, .inl (fun _ => 0)))]) (w1 := []) hP hD [] [0, 1, 2, 3, 4, 5, 6, 7] rfl rfl (by decide) (by decide) hk1 hFc va_P.nil va_D.nil
  have hK := hK.sub (tys' := [(k1, .int), (k2, .int), (k3, .int), (k4, .long), (k5, .int), (k6, .int), (k7, .int)]) [0, 1, 2, 3, 4, 5, 6] rfl
  have hP : va_P (dC, dI) vwCl [(h0, .inr (6, [.ref a1, .ref a2, .ref a3, .ref a4, .ref a5, .ref a6, .ref a7, .int 0])), (a1, .inl (k1, 1200, .inl (fun _ => 0))), (a2, .inl (k2, 1200, .inl (fun _ => 0))), (a3, .inl (k3, 1200, .inl (fun _ => 0))), (a4, .inl (k4, 1200, .inr (.inl (fun _ => 0)))), (a5, .inl (k5, 1200, .inl (fun _ => 0))), (a6, .inl (k6, 1200, .inl (fun _ => 0))), (a7, .inl (k7, 1200, .inl (fun _ => 0)))] H_1 := hP
  have hD : va_D A [(h0, .inr (6, [.ref a1, .ref a2, .ref a3, .ref a4, .ref a5, .ref a6, .ref a7, .int 0])), (a1, .inl (k1, 1200, .inl (fun _ => 0))), (a2, .inl (k2, 1200, .inl (fun _ => 0))), (a3, .inl (k3, 1200, .inl (fun _ => 0))), (a4, .inl (k4, 1200, .inr (.inl (fun _ => 0)))), (a5, .inl (k5, 1200, .inl (fun _ => 0))), (a6, .inl (k6, 1200, .inl (fun _ => 0))), (a7, .inl (k7, 1200, .inl (fun _ => 0)))] := hD
  have hK : va_K (dC, dI) vwCl [(k1, .int), (k2, .int), (k3, .int), (k4, .long), (k5, .int), (k6, .int), (k7, .int)] s := hK
  refine W.widen (k := 0) (n := 0) (Nat.le_of_ble_eq_true rfl) (Nat.le_of_ble_eq_true rfl) ?_
  have hPc := hP.sub (ws' := [(h0, .inr (6, [.ref a1, .ref a2, .ref a3, .ref a4, .ref a5, .ref a6, .ref a7, .int 0]))]) [0] rfl
  have hDc := hD.sub (ws' := [(h0, .inr (6, [.ref a1, .ref a2, .ref a3, .ref a4, .ref a5, .ref a6, .ref a7, .int 0]))]) [0] (by decide) rfl
  have hKc := hK.sub (tys' := []) [] rfl
  have hFc := va_free (wc := [(h0, .inr (6, [.ref a1, .ref a2, .ref a3, .ref a4, .ref a5, .ref a6, .ref a7, .int 0]))]) hD hS hA [0] rfl
  refine va_calli (va_runV (As := [.int 0]) (rest := []) ⟨hx, hb, hml, hown, hts⟩ (c_sOL l dC dI tp te H_1.size h0 a1 a2 a3 a4 a5 a6 a7) (cwV 1 hts g_Tadd0_5 rfl rfl rfl (by decide +kernel) ⟨Nat.le_of_ble_eq_true rfl, Nat.le_of_ble_eq_true rfl⟩) ⟨Pw.blind, va_recv hKc hPc (ci := 6) (q0 := 0) rfl rfl, Pw.mk hPc hKc hDc hG hS hFc⟩ rfl rfl hl.1 rfl (lv_room (Nat.le_of_ble_eq_true rfl)) dX5_add_5 ⟨Nat.le_of_ble_eq_true rfl, Nat.le_of_ble_eq_true rfl⟩) hS (fun q _ h => hFc q h) hFc (fun r u t9 H_2 locs ht hvm hw hB hz1 hk1 hS => ?_)
  have hw : r = 0 := hw
  subst hw
  obtain ⟨hP1, hK1, hD1⟩ := hB
  rw [ht] at hP1
  have hK1 := va_K.moved hvm.symm hK1
  obtain ⟨hP, hD⟩ := va_join (wr := [(a1, .inl (k1, 1200, .inl (fun _ => 0))), (a2, .inl (k2, 1200, .inl (fun _ => 0))), (a3, .inl (k3, 1200, .inl (fun _ => 0))), (a4, .inl (k4, 1200, .inr (.inl (fun _ => 0)))), (a5, .inl (k5, 1200, .inl (fun _ => 0))), (a6, .inl (k6, 1200, .inl (fun _ => 0))), (a7, .inl (k7, 1200, .inl (fun _ => 0)))]) (w1 := [(h0, .inr (6, [.ref a1, .ref a2, .ref a3, .ref a4, .ref a5, .ref a6, .ref a7, .int 0]))]) hP hD [0] [1, 2, 3, 4, 5, 6, 7] rfl rfl (by decide) (by decide) hk1 hFc hP1 hD1
  have hK := (hK.sub (tys' := [(k1, .int), (k2, .int), (k3, .int), (k4, .long), (k5, .int), (k6, .int), (k7, .int)]) [0, 1, 2, 3, 4, 5, 6] rfl).app hK1
  have hP : va_P (dC, dI) vwCl [(a1, .inl (k1, 1200, .inl (fun _ => 0))), (a2, .inl (k2, 1200, .inl (fun _ => 0))), (a3, .inl (k3, 1200, .inl (fun _ => 0))), (a4, .inl (k4, 1200, .inr (.inl (fun _ => 0)))), (a5, .inl (k5, 1200, .inl (fun _ => 0))), (a6, .inl (k6, 1200, .inl (fun _ => 0))), (a7, .inl (k7, 1200, .inl (fun _ => 0))), (h0, .inr (6, [.ref a1, .ref a2, .ref a3, .ref a4, .ref a5, .ref a6, .ref a7, .int 0]))] H_2 := hP
  have hD : va_D A [(a1, .inl (k1, 1200, .inl (fun _ => 0))), (a2, .inl (k2, 1200, .inl (fun _ => 0))), (a3, .inl (k3, 1200, .inl (fun _ => 0))), (a4, .inl (k4, 1200, .inr (.inl (fun _ => 0)))), (a5, .inl (k5, 1200, .inl (fun _ => 0))), (a6, .inl (k6, 1200, .inl (fun _ => 0))), (a7, .inl (k7, 1200, .inl (fun _ => 0))), (h0, .inr (6, [.ref a1, .ref a2, .ref a3, .ref a4, .ref a5, .ref a6, .ref a7, .int 0]))] := hD
  have hK : va_K (dC, dI) vwCl [(k1, .int), (k2, .int), (k3, .int), (k4, .long), (k5, .int), (k6, .int), (k7, .int)] s := hK
  refine W.widen (k := 0) (n := 0) (Nat.le_of_ble_eq_true rfl) (Nat.le_of_ble_eq_true rfl) ?_
  refine lv_istore (lv' := [(6, .int 0), (0, .ref h0), (1, .int 0), (2, .int p1), (3, .int 0), (4, .long p2)]) hx hb dX5_add_8 hl (by decide) rfl (fun ls hl => ?_)
  refine lv_aload_n hx hb dX5_add_10 rfl (lv_at hl 1 rfl) ?_
  refine va_get (D := (dC, dI)) (ci := 6) (v := .int 0) (C := RX5) (T := TX5) (N := 8) hx hb hts in_z_Tadd0_X5 hown hK hP 7 rfl rfl 7 (by decide) (hts (.fieldLink RX5 37 "Selfkindle$Term" "count" "I") (List.mem_of_getElem? (i := 10) rfl)) (fun _ h9 => h9) rfl dX5_add_11 ?_
  refine lv_if_lt (tgt := 29) hx hb dX5_add_14 (by decide) (fun c9 => absurd c9 (by decide)) (fun c9 => ?_)
  refine lv_aload_n hx hb dX5_add_17 rfl (lv_at hl 1 rfl) ?_
  refine va_get (D := (dC, dI)) (ci := 6) (v := .int 0) (C := RX5) (T := TX5) (N := 8) hx hb hts in_z_Tadd0_X5 hown hK hP 7 rfl rfl 7 (by decide) (hts (.fieldLink RX5 37 "Selfkindle$Term" "count" "I") (List.mem_of_getElem? (i := 10) rfl)) (fun _ h9 => h9) rfl dX5_add_18 ?_
  refine lv_aload_n hx hb dX5_add_21 rfl (lv_at hl 1 rfl) ?_
  refine va_get (D := (dC, dI)) (ci := 6) (v := .ref a1) (C := RX5) (T := TX5) (N := 8) hx hb hts in_z_Tadd0_X5 hown hK hP 7 rfl rfl 0 (by decide) (hts (.fieldLink RX5 9 "Selfkindle$Term" "kinds" "[I") (List.mem_of_getElem? (i := 11) rfl)) (fun _ h9 => h9) rfl dX5_add_22 ?_
  refine va_alen (v := 1200) hx hb hK hP 0 0 rfl rfl (by decide) dX5_add_25 ?_
  refine lv_icmp_lt (tgt := 30) hx hb dX5_add_26 (by decide) (fun c9 => ?_) (fun c9 => absurd (by decide) c9)
  refine lv_aload_n hx hb dX5_add_30 rfl (lv_at hl 1 rfl) ?_
  refine va_get (D := (dC, dI)) (ci := 6) (v := .ref a1) (C := RX5) (T := TX5) (N := 8) hx hb hts in_z_Tadd0_X5 hown hK hP 7 rfl rfl 0 (by decide) (hts (.fieldLink RX5 9 "Selfkindle$Term" "kinds" "[I") (List.mem_of_getElem? (i := 11) rfl)) (fun _ h9 => h9) rfl dX5_add_31 ?_
  refine lv_aload_n hx hb dX5_add_34 rfl (lv_at hl 1 rfl) ?_
  refine va_get (D := (dC, dI)) (ci := 6) (v := .int 0) (C := RX5) (T := TX5) (N := 8) hx hb hts in_z_Tadd0_X5 hown hK hP 7 rfl rfl 7 (by decide) (hts (.fieldLink RX5 37 "Selfkindle$Term" "count" "I") (List.mem_of_getElem? (i := 10) rfl)) (fun _ h9 => h9) rfl dX5_add_35 ?_
  refine lv_iload_n hx hb dX5_add_38 rfl (lv_at hl 2 rfl) ?_
  refine va_iast hx hb hK hP hD hS 0 0 rfl rfl (by unfold vp_in; decide +kernel) dX5_add_39 (fun H_3 locs hP hD hS => ?_)
  have hP : va_P (dC, dI) vwCl [(a1, .inl (k1, 1200, .inl (upd (fun _ => 0) (0 : Int32).toNatClampNeg 0))), (a2, .inl (k2, 1200, .inl (fun _ => 0))), (a3, .inl (k3, 1200, .inl (fun _ => 0))), (a4, .inl (k4, 1200, .inr (.inl (fun _ => 0)))), (a5, .inl (k5, 1200, .inl (fun _ => 0))), (a6, .inl (k6, 1200, .inl (fun _ => 0))), (a7, .inl (k7, 1200, .inl (fun _ => 0))), (h0, .inr (6, [.ref a1, .ref a2, .ref a3, .ref a4, .ref a5, .ref a6, .ref a7, .int 0]))] H_3 := hP
  have hD : va_D A [(a1, .inl (k1, 1200, .inl (upd (fun _ => 0) (0 : Int32).toNatClampNeg 0))), (a2, .inl (k2, 1200, .inl (fun _ => 0))), (a3, .inl (k3, 1200, .inl (fun _ => 0))), (a4, .inl (k4, 1200, .inr (.inl (fun _ => 0)))), (a5, .inl (k5, 1200, .inl (fun _ => 0))), (a6, .inl (k6, 1200, .inl (fun _ => 0))), (a7, .inl (k7, 1200, .inl (fun _ => 0))), (h0, .inr (6, [.ref a1, .ref a2, .ref a3, .ref a4, .ref a5, .ref a6, .ref a7, .int 0]))] := hD
  have hK : va_K (dC, dI) vwCl [(k1, .int), (k2, .int), (k3, .int), (k4, .long), (k5, .int), (k6, .int), (k7, .int)] s := hK
  have hP := hP.sub (ws' := [(a2, .inl (k2, 1200, .inl (fun _ => 0))), (a3, .inl (k3, 1200, .inl (fun _ => 0))), (a4, .inl (k4, 1200, .inr (.inl (fun _ => 0)))), (a5, .inl (k5, 1200, .inl (fun _ => 0))), (a6, .inl (k6, 1200, .inl (fun _ => 0))), (a7, .inl (k7, 1200, .inl (fun _ => 0))), (h0, .inr (6, [.ref a1, .ref a2, .ref a3, .ref a4, .ref a5, .ref a6, .ref a7, .int 0]))]) [1, 2, 3, 4, 5, 6, 7] rfl
  have hD := hD.sub (ws' := [(a2, .inl (k2, 1200, .inl (fun _ => 0))), (a3, .inl (k3, 1200, .inl (fun _ => 0))), (a4, .inl (k4, 1200, .inr (.inl (fun _ => 0)))), (a5, .inl (k5, 1200, .inl (fun _ => 0))), (a6, .inl (k6, 1200, .inl (fun _ => 0))), (a7, .inl (k7, 1200, .inl (fun _ => 0))), (h0, .inr (6, [.ref a1, .ref a2, .ref a3, .ref a4, .ref a5, .ref a6, .ref a7, .int 0]))]) [1, 2, 3, 4, 5, 6, 7] (by decide) rfl
  have hK := hK.sub (tys' := [(k2, .int), (k3, .int), (k4, .long), (k5, .int), (k6, .int), (k7, .int)]) [1, 2, 3, 4, 5, 6] rfl
  have hP : va_P (dC, dI) vwCl [(a2, .inl (k2, 1200, .inl (fun _ => 0))), (a3, .inl (k3, 1200, .inl (fun _ => 0))), (a4, .inl (k4, 1200, .inr (.inl (fun _ => 0)))), (a5, .inl (k5, 1200, .inl (fun _ => 0))), (a6, .inl (k6, 1200, .inl (fun _ => 0))), (a7, .inl (k7, 1200, .inl (fun _ => 0))), (h0, .inr (6, [.ref a1, .ref a2, .ref a3, .ref a4, .ref a5, .ref a6, .ref a7, .int 0]))] H_3 := hP
  have hD : va_D A [(a2, .inl (k2, 1200, .inl (fun _ => 0))), (a3, .inl (k3, 1200, .inl (fun _ => 0))), (a4, .inl (k4, 1200, .inr (.inl (fun _ => 0)))), (a5, .inl (k5, 1200, .inl (fun _ => 0))), (a6, .inl (k6, 1200, .inl (fun _ => 0))), (a7, .inl (k7, 1200, .inl (fun _ => 0))), (h0, .inr (6, [.ref a1, .ref a2, .ref a3, .ref a4, .ref a5, .ref a6, .ref a7, .int 0]))] := hD
  have hK : va_K (dC, dI) vwCl [(k2, .int), (k3, .int), (k4, .long), (k5, .int), (k6, .int), (k7, .int)] s := hK
  refine lv_aload_n hx hb dX5_add_40 rfl (lv_at hl 1 rfl) ?_
  refine va_get (D := (dC, dI)) (ci := 6) (v := .ref a2) (C := RX5) (T := TX5) (N := 8) hx hb hts in_z_Tadd0_X5 hown hK hP 6 rfl rfl 1 (by decide) (hts (.fieldLink RX5 15 "Selfkindle$Term" "names" "[I") (List.mem_of_getElem? (i := 12) rfl)) (fun _ h9 => h9) rfl dX5_add_41 ?_
  refine lv_aload_n hx hb dX5_add_44 rfl (lv_at hl 1 rfl) ?_
  refine va_get (D := (dC, dI)) (ci := 6) (v := .int 0) (C := RX5) (T := TX5) (N := 8) hx hb hts in_z_Tadd0_X5 hown hK hP 6 rfl rfl 7 (by decide) (hts (.fieldLink RX5 37 "Selfkindle$Term" "count" "I") (List.mem_of_getElem? (i := 10) rfl)) (fun _ h9 => h9) rfl dX5_add_45 ?_
  refine lv_iload_n hx hb dX5_add_48 rfl (lv_at hl 3 rfl) ?_
  refine va_iast hx hb hK hP hD hS 0 0 rfl rfl (by unfold vp_in; decide +kernel) dX5_add_49 (fun H_4 locs hP hD hS => ?_)
  have hP : va_P (dC, dI) vwCl [(a2, .inl (k2, 1200, .inl (upd (fun _ => 0) (0 : Int32).toNatClampNeg p1))), (a3, .inl (k3, 1200, .inl (fun _ => 0))), (a4, .inl (k4, 1200, .inr (.inl (fun _ => 0)))), (a5, .inl (k5, 1200, .inl (fun _ => 0))), (a6, .inl (k6, 1200, .inl (fun _ => 0))), (a7, .inl (k7, 1200, .inl (fun _ => 0))), (h0, .inr (6, [.ref a1, .ref a2, .ref a3, .ref a4, .ref a5, .ref a6, .ref a7, .int 0]))] H_4 := hP
  have hD : va_D A [(a2, .inl (k2, 1200, .inl (upd (fun _ => 0) (0 : Int32).toNatClampNeg p1))), (a3, .inl (k3, 1200, .inl (fun _ => 0))), (a4, .inl (k4, 1200, .inr (.inl (fun _ => 0)))), (a5, .inl (k5, 1200, .inl (fun _ => 0))), (a6, .inl (k6, 1200, .inl (fun _ => 0))), (a7, .inl (k7, 1200, .inl (fun _ => 0))), (h0, .inr (6, [.ref a1, .ref a2, .ref a3, .ref a4, .ref a5, .ref a6, .ref a7, .int 0]))] := hD
  have hK : va_K (dC, dI) vwCl [(k2, .int), (k3, .int), (k4, .long), (k5, .int), (k6, .int), (k7, .int)] s := hK
  have hP := hP.sub (ws' := [(a3, .inl (k3, 1200, .inl (fun _ => 0))), (a4, .inl (k4, 1200, .inr (.inl (fun _ => 0)))), (a5, .inl (k5, 1200, .inl (fun _ => 0))), (a6, .inl (k6, 1200, .inl (fun _ => 0))), (a7, .inl (k7, 1200, .inl (fun _ => 0))), (h0, .inr (6, [.ref a1, .ref a2, .ref a3, .ref a4, .ref a5, .ref a6, .ref a7, .int 0]))]) [1, 2, 3, 4, 5, 6] rfl
  have hD := hD.sub (ws' := [(a3, .inl (k3, 1200, .inl (fun _ => 0))), (a4, .inl (k4, 1200, .inr (.inl (fun _ => 0)))), (a5, .inl (k5, 1200, .inl (fun _ => 0))), (a6, .inl (k6, 1200, .inl (fun _ => 0))), (a7, .inl (k7, 1200, .inl (fun _ => 0))), (h0, .inr (6, [.ref a1, .ref a2, .ref a3, .ref a4, .ref a5, .ref a6, .ref a7, .int 0]))]) [1, 2, 3, 4, 5, 6] (by decide) rfl
  have hK := hK.sub (tys' := [(k3, .int), (k4, .long), (k5, .int), (k6, .int), (k7, .int)]) [1, 2, 3, 4, 5] rfl
  have hP : va_P (dC, dI) vwCl [(a3, .inl (k3, 1200, .inl (fun _ => 0))), (a4, .inl (k4, 1200, .inr (.inl (fun _ => 0)))), (a5, .inl (k5, 1200, .inl (fun _ => 0))), (a6, .inl (k6, 1200, .inl (fun _ => 0))), (a7, .inl (k7, 1200, .inl (fun _ => 0))), (h0, .inr (6, [.ref a1, .ref a2, .ref a3, .ref a4, .ref a5, .ref a6, .ref a7, .int 0]))] H_4 := hP
  have hD : va_D A [(a3, .inl (k3, 1200, .inl (fun _ => 0))), (a4, .inl (k4, 1200, .inr (.inl (fun _ => 0)))), (a5, .inl (k5, 1200, .inl (fun _ => 0))), (a6, .inl (k6, 1200, .inl (fun _ => 0))), (a7, .inl (k7, 1200, .inl (fun _ => 0))), (h0, .inr (6, [.ref a1, .ref a2, .ref a3, .ref a4, .ref a5, .ref a6, .ref a7, .int 0]))] := hD
  have hK : va_K (dC, dI) vwCl [(k3, .int), (k4, .long), (k5, .int), (k6, .int), (k7, .int)] s := hK
  refine lv_aload_n hx hb dX5_add_50 rfl (lv_at hl 1 rfl) ?_
  refine va_get (D := (dC, dI)) (ci := 6) (v := .ref a3) (C := RX5) (T := TX5) (N := 8) hx hb hts in_z_Tadd0_X5 hown hK hP 5 rfl rfl 2 (by decide) (hts (.fieldLink RX5 18 "Selfkindle$Term" "others" "[I") (List.mem_of_getElem? (i := 13) rfl)) (fun _ h9 => h9) rfl dX5_add_51 ?_
  refine lv_aload_n hx hb dX5_add_54 rfl (lv_at hl 1 rfl) ?_
  refine va_get (D := (dC, dI)) (ci := 6) (v := .int 0) (C := RX5) (T := TX5) (N := 8) hx hb hts in_z_Tadd0_X5 hown hK hP 5 rfl rfl 7 (by decide) (hts (.fieldLink RX5 37 "Selfkindle$Term" "count" "I") (List.mem_of_getElem? (i := 10) rfl)) (fun _ h9 => h9) rfl dX5_add_55 ?_
  refine lv_iload_n hx hb dX5_add_58 rfl (lv_at hl 4 rfl) ?_
  refine va_iast hx hb hK hP hD hS 0 0 rfl rfl (by unfold vp_in; decide +kernel) dX5_add_59 (fun H_5 locs hP hD hS => ?_)
  have hP : va_P (dC, dI) vwCl [(a3, .inl (k3, 1200, .inl (upd (fun _ => 0) (0 : Int32).toNatClampNeg 0))), (a4, .inl (k4, 1200, .inr (.inl (fun _ => 0)))), (a5, .inl (k5, 1200, .inl (fun _ => 0))), (a6, .inl (k6, 1200, .inl (fun _ => 0))), (a7, .inl (k7, 1200, .inl (fun _ => 0))), (h0, .inr (6, [.ref a1, .ref a2, .ref a3, .ref a4, .ref a5, .ref a6, .ref a7, .int 0]))] H_5 := hP
  have hD : va_D A [(a3, .inl (k3, 1200, .inl (upd (fun _ => 0) (0 : Int32).toNatClampNeg 0))), (a4, .inl (k4, 1200, .inr (.inl (fun _ => 0)))), (a5, .inl (k5, 1200, .inl (fun _ => 0))), (a6, .inl (k6, 1200, .inl (fun _ => 0))), (a7, .inl (k7, 1200, .inl (fun _ => 0))), (h0, .inr (6, [.ref a1, .ref a2, .ref a3, .ref a4, .ref a5, .ref a6, .ref a7, .int 0]))] := hD
  have hK : va_K (dC, dI) vwCl [(k3, .int), (k4, .long), (k5, .int), (k6, .int), (k7, .int)] s := hK
  have hP := hP.sub (ws' := [(a4, .inl (k4, 1200, .inr (.inl (fun _ => 0)))), (a5, .inl (k5, 1200, .inl (fun _ => 0))), (a6, .inl (k6, 1200, .inl (fun _ => 0))), (a7, .inl (k7, 1200, .inl (fun _ => 0))), (h0, .inr (6, [.ref a1, .ref a2, .ref a3, .ref a4, .ref a5, .ref a6, .ref a7, .int 0]))]) [1, 2, 3, 4, 5] rfl
  have hD := hD.sub (ws' := [(a4, .inl (k4, 1200, .inr (.inl (fun _ => 0)))), (a5, .inl (k5, 1200, .inl (fun _ => 0))), (a6, .inl (k6, 1200, .inl (fun _ => 0))), (a7, .inl (k7, 1200, .inl (fun _ => 0))), (h0, .inr (6, [.ref a1, .ref a2, .ref a3, .ref a4, .ref a5, .ref a6, .ref a7, .int 0]))]) [1, 2, 3, 4, 5] (by decide) rfl
  have hK := hK.sub (tys' := [(k4, .long), (k5, .int), (k6, .int), (k7, .int)]) [1, 2, 3, 4] rfl
  have hP : va_P (dC, dI) vwCl [(a4, .inl (k4, 1200, .inr (.inl (fun _ => 0)))), (a5, .inl (k5, 1200, .inl (fun _ => 0))), (a6, .inl (k6, 1200, .inl (fun _ => 0))), (a7, .inl (k7, 1200, .inl (fun _ => 0))), (h0, .inr (6, [.ref a1, .ref a2, .ref a3, .ref a4, .ref a5, .ref a6, .ref a7, .int 0]))] H_5 := hP
  have hD : va_D A [(a4, .inl (k4, 1200, .inr (.inl (fun _ => 0)))), (a5, .inl (k5, 1200, .inl (fun _ => 0))), (a6, .inl (k6, 1200, .inl (fun _ => 0))), (a7, .inl (k7, 1200, .inl (fun _ => 0))), (h0, .inr (6, [.ref a1, .ref a2, .ref a3, .ref a4, .ref a5, .ref a6, .ref a7, .int 0]))] := hD
  have hK : va_K (dC, dI) vwCl [(k4, .long), (k5, .int), (k6, .int), (k7, .int)] s := hK
  refine lv_aload_n hx hb dX5_add_60 rfl (lv_at hl 1 rfl) ?_
  refine va_get (D := (dC, dI)) (ci := 6) (v := .ref a4) (C := RX5) (T := TX5) (N := 8) hx hb hts in_z_Tadd0_X5 hown hK hP 4 rfl rfl 3 (by decide) (hts (.fieldLink RX5 21 "Selfkindle$Term" "numbers" "[J") (List.mem_of_getElem? (i := 14) rfl)) (fun _ h9 => h9) rfl dX5_add_61 ?_
  refine lv_aload_n hx hb dX5_add_64 rfl (lv_at hl 1 rfl) ?_
  refine va_get (D := (dC, dI)) (ci := 6) (v := .int 0) (C := RX5) (T := TX5) (N := 8) hx hb hts in_z_Tadd0_X5 hown hK hP 4 rfl rfl 7 (by decide) (hts (.fieldLink RX5 37 "Selfkindle$Term" "count" "I") (List.mem_of_getElem? (i := 10) rfl)) (fun _ h9 => h9) rfl dX5_add_65 ?_
  refine lv_lload hx hb dX5_add_68 (lv_at hl 5 rfl) ?_
  refine va_last hx hb hK hP hD hS 0 0 rfl rfl (by unfold vp_in; decide +kernel) dX5_add_70 (fun H_6 locs hP hD hS => ?_)
  have hP : va_P (dC, dI) vwCl [(a4, .inl (k4, 1200, .inr (.inl (vp_updL (fun _ => 0) (0 : Int32).toNatClampNeg p2)))), (a5, .inl (k5, 1200, .inl (fun _ => 0))), (a6, .inl (k6, 1200, .inl (fun _ => 0))), (a7, .inl (k7, 1200, .inl (fun _ => 0))), (h0, .inr (6, [.ref a1, .ref a2, .ref a3, .ref a4, .ref a5, .ref a6, .ref a7, .int 0]))] H_6 := hP
  have hD : va_D A [(a4, .inl (k4, 1200, .inr (.inl (vp_updL (fun _ => 0) (0 : Int32).toNatClampNeg p2)))), (a5, .inl (k5, 1200, .inl (fun _ => 0))), (a6, .inl (k6, 1200, .inl (fun _ => 0))), (a7, .inl (k7, 1200, .inl (fun _ => 0))), (h0, .inr (6, [.ref a1, .ref a2, .ref a3, .ref a4, .ref a5, .ref a6, .ref a7, .int 0]))] := hD
  have hK : va_K (dC, dI) vwCl [(k4, .long), (k5, .int), (k6, .int), (k7, .int)] s := hK
  have hP := hP.sub (ws' := [(a5, .inl (k5, 1200, .inl (fun _ => 0))), (a6, .inl (k6, 1200, .inl (fun _ => 0))), (a7, .inl (k7, 1200, .inl (fun _ => 0))), (h0, .inr (6, [.ref a1, .ref a2, .ref a3, .ref a4, .ref a5, .ref a6, .ref a7, .int 0]))]) [1, 2, 3, 4] rfl
  have hD := hD.sub (ws' := [(a5, .inl (k5, 1200, .inl (fun _ => 0))), (a6, .inl (k6, 1200, .inl (fun _ => 0))), (a7, .inl (k7, 1200, .inl (fun _ => 0))), (h0, .inr (6, [.ref a1, .ref a2, .ref a3, .ref a4, .ref a5, .ref a6, .ref a7, .int 0]))]) [1, 2, 3, 4] (by decide) rfl
  have hK := hK.sub (tys' := [(k5, .int), (k6, .int), (k7, .int)]) [1, 2, 3] rfl
  have hP : va_P (dC, dI) vwCl [(a5, .inl (k5, 1200, .inl (fun _ => 0))), (a6, .inl (k6, 1200, .inl (fun _ => 0))), (a7, .inl (k7, 1200, .inl (fun _ => 0))), (h0, .inr (6, [.ref a1, .ref a2, .ref a3, .ref a4, .ref a5, .ref a6, .ref a7, .int 0]))] H_6 := hP
  have hD : va_D A [(a5, .inl (k5, 1200, .inl (fun _ => 0))), (a6, .inl (k6, 1200, .inl (fun _ => 0))), (a7, .inl (k7, 1200, .inl (fun _ => 0))), (h0, .inr (6, [.ref a1, .ref a2, .ref a3, .ref a4, .ref a5, .ref a6, .ref a7, .int 0]))] := hD
  have hK : va_K (dC, dI) vwCl [(k5, .int), (k6, .int), (k7, .int)] s := hK
  refine lv_aload_n hx hb dX5_add_71 rfl (lv_at hl 1 rfl) ?_
  refine va_get (D := (dC, dI)) (ci := 6) (v := .ref a5) (C := RX5) (T := TX5) (N := 8) hx hb hts in_z_Tadd0_X5 hown hK hP 3 rfl rfl 4 (by decide) (hts (.fieldLink RX5 25 "Selfkindle$Term" "sizes" "[I") (List.mem_of_getElem? (i := 15) rfl)) (fun _ h9 => h9) rfl dX5_add_72 ?_
  refine lv_aload_n hx hb dX5_add_75 rfl (lv_at hl 1 rfl) ?_
  refine va_get (D := (dC, dI)) (ci := 6) (v := .int 0) (C := RX5) (T := TX5) (N := 8) hx hb hts in_z_Tadd0_X5 hown hK hP 3 rfl rfl 7 (by decide) (hts (.fieldLink RX5 37 "Selfkindle$Term" "count" "I") (List.mem_of_getElem? (i := 10) rfl)) (fun _ h9 => h9) rfl dX5_add_76 ?_
  refine lv_iconst (v := 1) hx hb dX5_add_79 (by decide) ?_
  refine lv_iload hx hb dX5_add_80 (lv_at hl 0 rfl) ?_
  refine lv_iadd hx hb dX5_add_82 ?_
  refine lv_topi (fun z_7 ez_7 => ?_)
  obtain rfl : z_7 = 1 := ez_7.trans (by decide)
  refine va_iast hx hb hK hP hD hS 0 0 rfl rfl (by unfold vp_in; decide +kernel) dX5_add_83 (fun H_8 locs hP hD hS => ?_)
  have hP : va_P (dC, dI) vwCl [(a5, .inl (k5, 1200, .inl (upd (fun _ => 0) (0 : Int32).toNatClampNeg 1))), (a6, .inl (k6, 1200, .inl (fun _ => 0))), (a7, .inl (k7, 1200, .inl (fun _ => 0))), (h0, .inr (6, [.ref a1, .ref a2, .ref a3, .ref a4, .ref a5, .ref a6, .ref a7, .int 0]))] H_8 := hP
  have hD : va_D A [(a5, .inl (k5, 1200, .inl (upd (fun _ => 0) (0 : Int32).toNatClampNeg 1))), (a6, .inl (k6, 1200, .inl (fun _ => 0))), (a7, .inl (k7, 1200, .inl (fun _ => 0))), (h0, .inr (6, [.ref a1, .ref a2, .ref a3, .ref a4, .ref a5, .ref a6, .ref a7, .int 0]))] := hD
  have hK : va_K (dC, dI) vwCl [(k5, .int), (k6, .int), (k7, .int)] s := hK
  have hP := hP.sub (ws' := [(a6, .inl (k6, 1200, .inl (fun _ => 0))), (a7, .inl (k7, 1200, .inl (fun _ => 0))), (h0, .inr (6, [.ref a1, .ref a2, .ref a3, .ref a4, .ref a5, .ref a6, .ref a7, .int 0]))]) [1, 2, 3] rfl
  have hD := hD.sub (ws' := [(a6, .inl (k6, 1200, .inl (fun _ => 0))), (a7, .inl (k7, 1200, .inl (fun _ => 0))), (h0, .inr (6, [.ref a1, .ref a2, .ref a3, .ref a4, .ref a5, .ref a6, .ref a7, .int 0]))]) [1, 2, 3] (by decide) rfl
  have hK := hK.sub (tys' := [(k6, .int), (k7, .int)]) [1, 2] rfl
  have hP : va_P (dC, dI) vwCl [(a6, .inl (k6, 1200, .inl (fun _ => 0))), (a7, .inl (k7, 1200, .inl (fun _ => 0))), (h0, .inr (6, [.ref a1, .ref a2, .ref a3, .ref a4, .ref a5, .ref a6, .ref a7, .int 0]))] H_8 := hP
  have hD : va_D A [(a6, .inl (k6, 1200, .inl (fun _ => 0))), (a7, .inl (k7, 1200, .inl (fun _ => 0))), (h0, .inr (6, [.ref a1, .ref a2, .ref a3, .ref a4, .ref a5, .ref a6, .ref a7, .int 0]))] := hD
  have hK : va_K (dC, dI) vwCl [(k6, .int), (k7, .int)] s := hK
  refine lv_aload_n hx hb dX5_add_84 rfl (lv_at hl 1 rfl) ?_
  refine va_get (D := (dC, dI)) (ci := 6) (v := .ref a6) (C := RX5) (T := TX5) (N := 8) hx hb hts in_z_Tadd0_X5 hown hK hP 2 rfl rfl 5 (by decide) (hts (.fieldLink RX5 28 "Selfkindle$Term" "binders" "[I") (List.mem_of_getElem? (i := 16) rfl)) (fun _ h9 => h9) rfl dX5_add_85 ?_
  refine lv_aload_n hx hb dX5_add_88 rfl (lv_at hl 1 rfl) ?_
  refine va_get (D := (dC, dI)) (ci := 6) (v := .int 0) (C := RX5) (T := TX5) (N := 8) hx hb hts in_z_Tadd0_X5 hown hK hP 2 rfl rfl 7 (by decide) (hts (.fieldLink RX5 37 "Selfkindle$Term" "count" "I") (List.mem_of_getElem? (i := 10) rfl)) (fun _ h9 => h9) rfl dX5_add_89 ?_
  refine lv_iconst (v := (-1)) hx hb dX5_add_92 (by decide) ?_
  refine va_iast hx hb hK hP hD hS 0 0 rfl rfl (by unfold vp_in; decide +kernel) dX5_add_93 (fun H_9 locs hP hD hS => ?_)
  have hP : va_P (dC, dI) vwCl [(a6, .inl (k6, 1200, .inl (upd (fun _ => 0) (0 : Int32).toNatClampNeg (-1)))), (a7, .inl (k7, 1200, .inl (fun _ => 0))), (h0, .inr (6, [.ref a1, .ref a2, .ref a3, .ref a4, .ref a5, .ref a6, .ref a7, .int 0]))] H_9 := hP
  have hD : va_D A [(a6, .inl (k6, 1200, .inl (upd (fun _ => 0) (0 : Int32).toNatClampNeg (-1)))), (a7, .inl (k7, 1200, .inl (fun _ => 0))), (h0, .inr (6, [.ref a1, .ref a2, .ref a3, .ref a4, .ref a5, .ref a6, .ref a7, .int 0]))] := hD
  have hK : va_K (dC, dI) vwCl [(k6, .int), (k7, .int)] s := hK
  have hP := hP.sub (ws' := [(a7, .inl (k7, 1200, .inl (fun _ => 0))), (h0, .inr (6, [.ref a1, .ref a2, .ref a3, .ref a4, .ref a5, .ref a6, .ref a7, .int 0]))]) [1, 2] rfl
  have hD := hD.sub (ws' := [(a7, .inl (k7, 1200, .inl (fun _ => 0))), (h0, .inr (6, [.ref a1, .ref a2, .ref a3, .ref a4, .ref a5, .ref a6, .ref a7, .int 0]))]) [1, 2] (by decide) rfl
  have hK := hK.sub (tys' := [(k7, .int)]) [1] rfl
  have hP : va_P (dC, dI) vwCl [(a7, .inl (k7, 1200, .inl (fun _ => 0))), (h0, .inr (6, [.ref a1, .ref a2, .ref a3, .ref a4, .ref a5, .ref a6, .ref a7, .int 0]))] H_9 := hP
  have hD : va_D A [(a7, .inl (k7, 1200, .inl (fun _ => 0))), (h0, .inr (6, [.ref a1, .ref a2, .ref a3, .ref a4, .ref a5, .ref a6, .ref a7, .int 0]))] := hD
  have hK : va_K (dC, dI) vwCl [(k7, .int)] s := hK
  refine lv_aload_n hx hb dX5_add_94 rfl (lv_at hl 1 rfl) ?_
  refine va_get (D := (dC, dI)) (ci := 6) (v := .ref a7) (C := RX5) (T := TX5) (N := 8) hx hb hts in_z_Tadd0_X5 hown hK hP 1 rfl rfl 6 (by decide) (hts (.fieldLink RX5 31 "Selfkindle$Term" "distances" "[I") (List.mem_of_getElem? (i := 17) rfl)) (fun _ h9 => h9) rfl dX5_add_95 ?_
  refine lv_aload_n hx hb dX5_add_98 rfl (lv_at hl 1 rfl) ?_
  refine va_get (D := (dC, dI)) (ci := 6) (v := .int 0) (C := RX5) (T := TX5) (N := 8) hx hb hts in_z_Tadd0_X5 hown hK hP 1 rfl rfl 7 (by decide) (hts (.fieldLink RX5 37 "Selfkindle$Term" "count" "I") (List.mem_of_getElem? (i := 10) rfl)) (fun _ h9 => h9) rfl dX5_add_99 ?_
  refine lv_iconst (v := (-1)) hx hb dX5_add_102 (by decide) ?_
  refine va_iast hx hb hK hP hD hS 0 0 rfl rfl (by unfold vp_in; decide +kernel) dX5_add_103 (fun H_10 locs hP hD hS => ?_)
  have hP : va_P (dC, dI) vwCl [(a7, .inl (k7, 1200, .inl (upd (fun _ => 0) (0 : Int32).toNatClampNeg (-1)))), (h0, .inr (6, [.ref a1, .ref a2, .ref a3, .ref a4, .ref a5, .ref a6, .ref a7, .int 0]))] H_10 := hP
  have hD : va_D A [(a7, .inl (k7, 1200, .inl (upd (fun _ => 0) (0 : Int32).toNatClampNeg (-1)))), (h0, .inr (6, [.ref a1, .ref a2, .ref a3, .ref a4, .ref a5, .ref a6, .ref a7, .int 0]))] := hD
  have hK : va_K (dC, dI) vwCl [(k7, .int)] s := hK
  have hP := hP.sub (ws' := [(h0, .inr (6, [.ref a1, .ref a2, .ref a3, .ref a4, .ref a5, .ref a6, .ref a7, .int 0]))]) [1] rfl
  have hD := hD.sub (ws' := [(h0, .inr (6, [.ref a1, .ref a2, .ref a3, .ref a4, .ref a5, .ref a6, .ref a7, .int 0]))]) [1] (by decide) rfl
  have hK := hK.sub (tys' := []) [] rfl
  have hP : va_P (dC, dI) vwCl [(h0, .inr (6, [.ref a1, .ref a2, .ref a3, .ref a4, .ref a5, .ref a6, .ref a7, .int 0]))] H_10 := hP
  have hD : va_D A [(h0, .inr (6, [.ref a1, .ref a2, .ref a3, .ref a4, .ref a5, .ref a6, .ref a7, .int 0]))] := hD
  have hK : va_K (dC, dI) vwCl [] s := hK
  refine lv_aload_n hx hb dX5_add_104 rfl (lv_at hl 1 rfl) ?_
  refine lv_dup hx hb dX5_add_105 rfl ?_
  refine va_get (D := (dC, dI)) (ci := 6) (v := .int 0) (C := RX5) (T := TX5) (N := 8) hx hb hts in_z_Tadd0_X5 hown hK hP 0 rfl rfl 7 (by decide) (hts (.fieldLink RX5 37 "Selfkindle$Term" "count" "I") (List.mem_of_getElem? (i := 10) rfl)) (fun _ h9 => h9) rfl dX5_add_106 ?_
  refine lv_iconst (v := 1) hx hb dX5_add_109 (by decide) ?_
  refine lv_iadd hx hb dX5_add_110 ?_
  refine lv_topi (fun z_11 ez_11 => ?_)
  obtain rfl : z_11 = 1 := ez_11.trans (by decide)
  refine va_put (D := (dC, dI)) (ci := 6) (v := .int 1) (ty := .int) (C := RX5) (T := TX5) (N := 8) hx hb hts in_z_Tadd0_X5 tyX5 tyX5_ok nmX5 hown hK hP hD hS 0 rfl rfl 7 (by decide) (hts (.fieldLink RX5 37 "Selfkindle$Term" "count" "I") (List.mem_of_getElem? (i := 10) rfl)) (fun _ h9 => h9) rfl (by decide +kernel) rfl rfl (Nat.le_of_ble_eq_true rfl) dX5_add_111 (fun H_12 locs hP hD hS => ?_)
  have hP : va_P (dC, dI) vwCl [(h0, .inr (6, [.ref a1, .ref a2, .ref a3, .ref a4, .ref a5, .ref a6, .ref a7, .int 1]))] H_12 := hP
  have hD : va_D A [(h0, .inr (6, [.ref a1, .ref a2, .ref a3, .ref a4, .ref a5, .ref a6, .ref a7, .int 1]))] := hD
  have hK : va_K (dC, dI) vwCl [] s := hK
  refine W.widen (k := 0) (n := 0) (Nat.le_of_ble_eq_true rfl) (Nat.le_of_ble_eq_true rfl) ?_
  exact W.vret hx hb hr (fun t ht hW => ⟨⟨(), rfl, trivial, trivial⟩, hS.F ht⟩) hS.2.2 dX5_add_114

set_option maxRecDepth 20000 in
def z_pL0 : List Cond := .code yX7_putLeaf cX7_putLeaf 5 (some .int) :: (([.fieldLink RX7 72 "Selfkindle" "height" "I", .fieldLink RX7 14 "Selfkindle" "pile" "LSelfkindle$Term;", .methodLink RX7 169 yX5_add, .instanceMethod yX5_add, .selects RX5 yX5_add yX5_add, .initialized RX5, .code yX5_add cX5_add 7 none, .methodLink RX5 41 yX5_partsOf, .static yX5_partsOf, .code yX5_partsOf cX5_partsOf 1 (some .int), .fieldLink RX5 34 "Selfkindle$Term" "PARTS_OF" "[I", .methodLink RX5 45 yX5_sizeOfLast, .instanceMethod yX5_sizeOfLast, .selects RX5 yX5_sizeOfLast yX5_sizeOfLast, .code yX5_sizeOfLast cX5_sizeOfLast 4 (some .int), .fieldLink RX5 37 "Selfkindle$Term" "count" "I", .fieldLink RX5 9 "Selfkindle$Term" "kinds" "[I", .fieldLink RX5 15 "Selfkindle$Term" "names" "[I", .fieldLink RX5 18 "Selfkindle$Term" "others" "[I", .fieldLink RX5 21 "Selfkindle$Term" "numbers" "[J", .fieldLink RX5 25 "Selfkindle$Term" "sizes" "[I", .fieldLink RX5 28 "Selfkindle$Term" "binders" "[I", .fieldLink RX5 31 "Selfkindle$Term" "distances" "[I"] : List Cond) ++ wsX70 ++ wsX50)
theorem in_z_pL0_X7 : ∀ w ∈ wsX70, w ∈ z_pL0 := fun w h => List.mem_cons_of_mem _ (List.mem_append_left _ (List.mem_append_right _ (h)))
theorem in_z_pL0_X5 : ∀ w ∈ wsX50, w ∈ z_pL0 := fun w h => List.mem_cons_of_mem _ (List.mem_append_right _ (h))
set_option maxRecDepth 20000 in
theorem g_pL0_25 : GoodIn z_pL0 (wsV RX7 169 RX5 yX5_add z_Tadd0) := goodIn_p _ [7, 10, 15] rfl (by decide +kernel)
set_option maxHeartbeats 4000000 in
set_option maxRecDepth 100000 in
theorem c_pL0 (l : Launch) (dC : Nat → ClassId) (dI : Nat → Nat → Nat) (tp te : Nat) (sz : Nat) (h0 : Nat) (rp : Nat) (rt : Nat) (rc : Nat) (r1 : Nat) (r2 : Nat) (r3 : Nat) (r4 : Nat) (a1 : Nat) (a2 : Nat) (a3 : Nat) (a4 : Nat) (a5 : Nat) (a6 : Nat) (a7 : Nat) (k1 : ClassId) (k2 : ClassId) (k3 : ClassId) (k4 : ClassId) (k5 : ClassId) (k6 : ClassId) (k7 : ClassId) (p1 : Int32) (p2 : Int64)  : Met l yX7_putLeaf z_pL0 ({ frames := 2, cells := 0, slots := 0, locals := 49 }) (va_Pc [.ref h0, .int 0, .int p1, .long p2] (Pw dC dI [(h0, .inr (8, [.ref rp, .int 0, .ref rt, .ref rc, .int ((-1)), .ref r1, .ref r2, .ref r3, .ref r4, .null, .int 0])), (rp, .inr (6, [.ref a1, .ref a2, .ref a3, .ref a4, .ref a5, .ref a6, .ref a7, .int 0])), (a1, .inl (k1, 1200, .inl (fun _ => 0))), (a2, .inl (k2, 1200, .inl (fun _ => 0))), (a3, .inl (k3, 1200, .inl (fun _ => 0))), (a4, .inl (k4, 1200, .inr (.inl (fun _ => 0)))), (a5, .inl (k5, 1200, .inl (fun _ => 0))), (a6, .inl (k6, 1200, .inl (fun _ => 0))), (a7, .inl (k7, 1200, .inl (fun _ => 0)))] [(k1, .int), (k2, .int), (k3, .int), (k4, .long), (k5, .int), (k6, .int), (k7, .int)] sz tp te)) (va_Qi (fun (r : Int32) (_ : Unit) => r = 1) (fun (_ : Unit) (_ : State) => True) (va_A [(h0, .inr (8, [.ref rp, .int 0, .ref rt, .ref rc, .int ((-1)), .ref r1, .ref r2, .ref r3, .ref r4, .null, .int 0])), (rp, .inr (6, [.ref a1, .ref a2, .ref a3, .ref a4, .ref a5, .ref a6, .ref a7, .int 0])), (a1, .inl (k1, 1200, .inl (fun _ => 0))), (a2, .inl (k2, 1200, .inl (fun _ => 0))), (a3, .inl (k3, 1200, .inl (fun _ => 0))), (a4, .inl (k4, 1200, .inr (.inl (fun _ => 0)))), (a5, .inl (k5, 1200, .inl (fun _ => 0))), (a6, .inl (k6, 1200, .inl (fun _ => 0))), (a7, .inl (k7, 1200, .inl (fun _ => 0)))] sz)) 0 0 (va_A [(h0, .inr (8, [.ref rp, .int 0, .ref rt, .ref rc, .int ((-1)), .ref r1, .ref r2, .ref r3, .ref r4, .null, .int 0])), (rp, .inr (6, [.ref a1, .ref a2, .ref a3, .ref a4, .ref a5, .ref a6, .ref a7, .int 0])), (a1, .inl (k1, 1200, .inl (fun _ => 0))), (a2, .inl (k2, 1200, .inl (fun _ => 0))), (a3, .inl (k3, 1200, .inl (fun _ => 0))), (a4, .inl (k4, 1200, .inr (.inl (fun _ => 0)))), (a5, .inl (k5, 1200, .inl (fun _ => 0))), (a6, .inl (k6, 1200, .inl (fun _ => 0))), (a7, .inl (k7, 1200, .inl (fun _ => 0)))] sz) := by
  refine Met.ofW (cc := cX7_putLeaf) (maxL := 5) (ret := (some .int)) (by decide) rfl ?_
  intro p e s m args below meth c s₁ B hml hv
  obtain ⟨rfl, hsz, hP, hK, hD0, hG⟩ := hv
  have hx := B.exec
  have hb := B.bytes
  have hr := B.returns
  have hts := atoms_spec (ws := z_pL0) B.pre
  have hown : s.vm.findClass RX7 = some m.cls := findClass_of_methodNamed B.named
  have hlocks := B.notSynchronized
  subst hsz
  have hD := hD0.self (sz := s.heap.size)
  generalize hAe : va_A [(h0, .inr (8, [.ref rp, .int 0, .ref rt, .ref rc, .int ((-1)), .ref r1, .ref r2, .ref r3, .ref r4, .null, .int 0])), (rp, .inr (6, [.ref a1, .ref a2, .ref a3, .ref a4, .ref a5, .ref a6, .ref a7, .int 0])), (a1, .inl (k1, 1200, .inl (fun _ => 0))), (a2, .inl (k2, 1200, .inl (fun _ => 0))), (a3, .inl (k3, 1200, .inl (fun _ => 0))), (a4, .inl (k4, 1200, .inr (.inl (fun _ => 0)))), (a5, .inl (k5, 1200, .inl (fun _ => 0))), (a6, .inl (k6, 1200, .inl (fun _ => 0))), (a7, .inl (k7, 1200, .inl (fun _ => 0)))] s.heap.size = A at hD hG ⊢
  have hA : ∀ q : Nat, s.heap.size ≤ q → A q := fun q h => by rw [← hAe]; exact Or.inr h
  have hS : va_S A s.heap s.heap [] := va_S.rf
  have hl := lv_entry ([.ref h0, .int 0, .int p1, .long p2]) (n := 5) (Nat.le_of_ble_eq_true rfl)
  rw [lg_entry_eq]
  generalize (lg_sl ([.ref h0, .int 0, .int p1, .long p2]) ++ List.replicate (5 - (lg_sl ([.ref h0, .int 0, .int p1, .long p2])).length) Slot.unset).toArray = ls at hl ⊢
  have hl : lv_has ls 5 [(0, .ref h0), (1, .int 0), (2, .int p1), (3, .long p2)] := hl
  refine lv_aload_n hx hb dX7_putLeaf_0 rfl (lv_at hl 0 rfl) ?_
  refine va_get (D := (dC, dI)) (ci := 8) (v := .int 0) (C := RX7) (T := TX7) (N := 11) hx hb hts in_z_pL0_X7 hown hK hP 0 rfl rfl 1 (by decide) (hts (.fieldLink RX7 72 "Selfkindle" "height" "I") (List.mem_of_getElem? (i := 1) rfl)) (fun _ h9 => h9) rfl dX7_putLeaf_1 ?_
  refine lv_bipush (v := 20) hx hb dX7_putLeaf_4 (by decide) ?_
  refine lv_icmp_lt (tgt := 17) hx hb dX7_putLeaf_6 (by decide) (fun c9 => ?_) (fun c9 => absurd (by decide) c9)
  refine lv_aload_n hx hb dX7_putLeaf_17 rfl (lv_at hl 0 rfl) ?_
  refine va_get (D := (dC, dI)) (ci := 8) (v := .ref rp) (C := RX7) (T := TX7) (N := 11) hx hb hts in_z_pL0_X7 hown hK hP 0 rfl rfl 0 (by decide) (hts (.fieldLink RX7 14 "Selfkindle" "pile" "LSelfkindle$Term;") (List.mem_of_getElem? (i := 2) rfl)) (fun _ h9 => h9) rfl dX7_putLeaf_18 ?_
  refine lv_iload_n hx hb dX7_putLeaf_21 rfl (lv_at hl 1 rfl) ?_
  refine lv_iload_n hx hb dX7_putLeaf_22 rfl (lv_at hl 2 rfl) ?_
  refine lv_iconst (v := 0) hx hb dX7_putLeaf_23 (by decide) ?_
  refine lv_lload_n hx hb dX7_putLeaf_24 rfl (lv_at hl 3 rfl) ?_
  have hPc := hP.sub (ws' := [(rp, .inr (6, [.ref a1, .ref a2, .ref a3, .ref a4, .ref a5, .ref a6, .ref a7, .int 0])), (a1, .inl (k1, 1200, .inl (fun _ => 0))), (a2, .inl (k2, 1200, .inl (fun _ => 0))), (a3, .inl (k3, 1200, .inl (fun _ => 0))), (a4, .inl (k4, 1200, .inr (.inl (fun _ => 0)))), (a5, .inl (k5, 1200, .inl (fun _ => 0))), (a6, .inl (k6, 1200, .inl (fun _ => 0))), (a7, .inl (k7, 1200, .inl (fun _ => 0)))]) [1, 2, 3, 4, 5, 6, 7, 8] rfl
  have hDc := hD.sub (ws' := [(rp, .inr (6, [.ref a1, .ref a2, .ref a3, .ref a4, .ref a5, .ref a6, .ref a7, .int 0])), (a1, .inl (k1, 1200, .inl (fun _ => 0))), (a2, .inl (k2, 1200, .inl (fun _ => 0))), (a3, .inl (k3, 1200, .inl (fun _ => 0))), (a4, .inl (k4, 1200, .inr (.inl (fun _ => 0)))), (a5, .inl (k5, 1200, .inl (fun _ => 0))), (a6, .inl (k6, 1200, .inl (fun _ => 0))), (a7, .inl (k7, 1200, .inl (fun _ => 0)))]) [1, 2, 3, 4, 5, 6, 7, 8] (by decide) rfl
  have hKc := hK.sub (tys' := [(k1, .int), (k2, .int), (k3, .int), (k4, .long), (k5, .int), (k6, .int), (k7, .int)]) [0, 1, 2, 3, 4, 5, 6] rfl
  have hFc := va_free (wc := [(rp, .inr (6, [.ref a1, .ref a2, .ref a3, .ref a4, .ref a5, .ref a6, .ref a7, .int 0])), (a1, .inl (k1, 1200, .inl (fun _ => 0))), (a2, .inl (k2, 1200, .inl (fun _ => 0))), (a3, .inl (k3, 1200, .inl (fun _ => 0))), (a4, .inl (k4, 1200, .inr (.inl (fun _ => 0)))), (a5, .inl (k5, 1200, .inl (fun _ => 0))), (a6, .inl (k6, 1200, .inl (fun _ => 0))), (a7, .inl (k7, 1200, .inl (fun _ => 0)))]) hD hS hA [1, 2, 3, 4, 5, 6, 7, 8] rfl
  refine va_callv (va_runV (As := [.int 0, .int p1, .int 0, .long p2]) (rest := []) ⟨hx, hb, hml, hown, hts⟩ (c_Tadd0 l dC dI tp te s.heap.size rp a1 a2 a3 a4 a5 a6 a7 k1 k2 k3 k4 k5 k6 k7 p1 p2) (cwV 4 hts g_pL0_25 rfl rfl rfl (by decide +kernel) ⟨Nat.le_of_ble_eq_true rfl, Nat.le_of_ble_eq_true rfl⟩) ⟨Pw.blind, va_recv hKc hPc (ci := 6) (q0 := 0) rfl rfl, Pw.mk hPc hKc hDc hG hS hFc⟩ rfl rfl hl.1 rfl (lv_room (Nat.le_of_ble_eq_true rfl)) dX7_putLeaf_25 ⟨Nat.le_of_ble_eq_true rfl, Nat.le_of_ble_eq_true rfl⟩) hS (fun q _ h => hFc q h) hFc (fun u t9 H_1 locs ht hvm hw hB hz1 hk1 hS => ?_)
  obtain ⟨hP, hD⟩ := va_join (wr := [(h0, .inr (8, [.ref rp, .int 0, .ref rt, .ref rc, .int ((-1)), .ref r1, .ref r2, .ref r3, .ref r4, .null, .int 0]))]) (w1 := []) hP hD [1, 2, 3, 4, 5, 6, 7, 8] [0] rfl rfl (by decide) (by decide) hk1 hFc va_P.nil va_D.nil
  have hK := hK.sub (tys' := []) [] rfl
  have hP : va_P (dC, dI) vwCl [(h0, .inr (8, [.ref rp, .int 0, .ref rt, .ref rc, .int ((-1)), .ref r1, .ref r2, .ref r3, .ref r4, .null, .int 0]))] H_1 := hP
  have hD : va_D A [(h0, .inr (8, [.ref rp, .int 0, .ref rt, .ref rc, .int ((-1)), .ref r1, .ref r2, .ref r3, .ref r4, .null, .int 0]))] := hD
  have hK : va_K (dC, dI) vwCl [] s := hK
  refine W.widen (k := 0) (n := 0) (Nat.le_of_ble_eq_true rfl) (Nat.le_of_ble_eq_true rfl) ?_
  refine lv_aload_n hx hb dX7_putLeaf_28 rfl (lv_at hl 0 rfl) ?_
  refine lv_dup hx hb dX7_putLeaf_29 rfl ?_
  refine va_get (D := (dC, dI)) (ci := 8) (v := .int 0) (C := RX7) (T := TX7) (N := 11) hx hb hts in_z_pL0_X7 hown hK hP 0 rfl rfl 1 (by decide) (hts (.fieldLink RX7 72 "Selfkindle" "height" "I") (List.mem_of_getElem? (i := 1) rfl)) (fun _ h9 => h9) rfl dX7_putLeaf_30 ?_
  refine lv_iconst (v := 1) hx hb dX7_putLeaf_33 (by decide) ?_
  refine lv_iadd hx hb dX7_putLeaf_34 ?_
  refine lv_topi (fun z_2 ez_2 => ?_)
  obtain rfl : z_2 = 1 := ez_2.trans (by decide)
  refine va_put (D := (dC, dI)) (ci := 8) (v := .int 1) (ty := .int) (C := RX7) (T := TX7) (N := 11) hx hb hts in_z_pL0_X7 tyX7 tyX7_ok nmX7 hown hK hP hD hS 0 rfl rfl 1 (by decide) (hts (.fieldLink RX7 72 "Selfkindle" "height" "I") (List.mem_of_getElem? (i := 1) rfl)) (fun _ h9 => h9) rfl (by decide +kernel) rfl rfl (Nat.le_of_ble_eq_true rfl) dX7_putLeaf_35 (fun H_3 locs hP hD hS => ?_)
  have hP : va_P (dC, dI) vwCl [(h0, .inr (8, [.ref rp, .int 1, .ref rt, .ref rc, .int ((-1)), .ref r1, .ref r2, .ref r3, .ref r4, .null, .int 0]))] H_3 := hP
  have hD : va_D A [(h0, .inr (8, [.ref rp, .int 1, .ref rt, .ref rc, .int ((-1)), .ref r1, .ref r2, .ref r3, .ref r4, .null, .int 0]))] := hD
  have hK : va_K (dC, dI) vwCl [] s := hK
  refine lv_aload_n hx hb dX7_putLeaf_38 rfl (lv_at hl 0 rfl) ?_
  refine va_get (D := (dC, dI)) (ci := 8) (v := .int 1) (C := RX7) (T := TX7) (N := 11) hx hb hts in_z_pL0_X7 hown hK hP 0 rfl rfl 1 (by decide) (hts (.fieldLink RX7 72 "Selfkindle" "height" "I") (List.mem_of_getElem? (i := 1) rfl)) (fun _ h9 => h9) rfl dX7_putLeaf_39 ?_
  refine W.widen (k := 0) (n := 0) (Nat.le_of_ble_eq_true rfl) (Nat.le_of_ble_eq_true rfl) ?_
  exact W.iret (v := 1) hx hb hr (fun t ht hW => ⟨⟨1, (), rfl, rfl, trivial⟩, hS.F ht⟩) hS.2.2 dX7_putLeaf_42

set_option maxRecDepth 20000 in
def z_Tadd1 : List Cond := .code yX5_add cX5_add 7 none :: (([.methodLink RX5 41 yX5_partsOf, .static yX5_partsOf, .initialized RX5, .code yX5_partsOf cX5_partsOf 1 (some .int), .fieldLink RX5 34 "Selfkindle$Term" "PARTS_OF" "[I", .methodLink RX5 45 yX5_sizeOfLast, .instanceMethod yX5_sizeOfLast, .selects RX5 yX5_sizeOfLast yX5_sizeOfLast, .code yX5_sizeOfLast cX5_sizeOfLast 4 (some .int), .fieldLink RX5 37 "Selfkindle$Term" "count" "I", .fieldLink RX5 9 "Selfkindle$Term" "kinds" "[I", .fieldLink RX5 15 "Selfkindle$Term" "names" "[I", .fieldLink RX5 18 "Selfkindle$Term" "others" "[I", .fieldLink RX5 21 "Selfkindle$Term" "numbers" "[J", .fieldLink RX5 25 "Selfkindle$Term" "sizes" "[I", .fieldLink RX5 28 "Selfkindle$Term" "binders" "[I", .fieldLink RX5 31 "Selfkindle$Term" "distances" "[I"] : List Cond) ++ wsX50)
theorem in_z_Tadd1_X5 : ∀ w ∈ wsX50, w ∈ z_Tadd1 := fun w h => List.mem_cons_of_mem _ (List.mem_append_right _ (h))
set_option maxRecDepth 20000 in
theorem g_Tadd1_2 : GoodIn z_Tadd1 (va_wsS RX5 41 yX5_partsOf z_pO1) := goodIn_p _ [4] rfl (by decide +kernel)
set_option maxRecDepth 20000 in
theorem g_Tadd1_5 : GoodIn z_Tadd1 (wsV RX5 45 RX5 yX5_sizeOfLast z_sOL) := goodIn_p _ [9] rfl (by decide +kernel)
set_option maxHeartbeats 4000000 in
set_option maxRecDepth 100000 in
theorem c_Tadd1 (l : Launch) (dC : Nat → ClassId) (dI : Nat → Nat → Nat) (tp te : Nat) (sz : Nat) (h0 : Nat) (a1 : Nat) (a2 : Nat) (a3 : Nat) (a4 : Nat) (a5 : Nat) (a6 : Nat) (a7 : Nat) (k1 : ClassId) (k2 : ClassId) (k3 : ClassId) (k4 : ClassId) (k5 : ClassId) (k6 : ClassId) (k7 : ClassId) (p1 : Int32) (p2 : Int64)  : Met l yX5_add z_Tadd1 ({ frames := 1, cells := 0, slots := 0, locals := 23 }) (va_Pc [.ref h0, .int 1, .int p1, .int 0, .long p2] (Pw dC dI [(h0, .inr (6, [.ref a1, .ref a2, .ref a3, .ref a4, .ref a5, .ref a6, .ref a7, .int 0])), (a1, .inl (k1, 1200, .inl (fun _ => 0))), (a2, .inl (k2, 1200, .inl (fun _ => 0))), (a3, .inl (k3, 1200, .inl (fun _ => 0))), (a4, .inl (k4, 1200, .inr (.inl (fun _ => 0)))), (a5, .inl (k5, 1200, .inl (fun _ => 0))), (a6, .inl (k6, 1200, .inl (fun _ => 0))), (a7, .inl (k7, 1200, .inl (fun _ => 0)))] [(k1, .int), (k2, .int), (k3, .int), (k4, .long), (k5, .int), (k6, .int), (k7, .int)] sz tp te)) (va_Qv (fun (_ : Unit) => True) (fun (_ : Unit) (_ : State) => True) (va_A [(h0, .inr (6, [.ref a1, .ref a2, .ref a3, .ref a4, .ref a5, .ref a6, .ref a7, .int 0])), (a1, .inl (k1, 1200, .inl (fun _ => 0))), (a2, .inl (k2, 1200, .inl (fun _ => 0))), (a3, .inl (k3, 1200, .inl (fun _ => 0))), (a4, .inl (k4, 1200, .inr (.inl (fun _ => 0)))), (a5, .inl (k5, 1200, .inl (fun _ => 0))), (a6, .inl (k6, 1200, .inl (fun _ => 0))), (a7, .inl (k7, 1200, .inl (fun _ => 0)))] sz)) 0 0 (va_A [(h0, .inr (6, [.ref a1, .ref a2, .ref a3, .ref a4, .ref a5, .ref a6, .ref a7, .int 0])), (a1, .inl (k1, 1200, .inl (fun _ => 0))), (a2, .inl (k2, 1200, .inl (fun _ => 0))), (a3, .inl (k3, 1200, .inl (fun _ => 0))), (a4, .inl (k4, 1200, .inr (.inl (fun _ => 0)))), (a5, .inl (k5, 1200, .inl (fun _ => 0))), (a6, .inl (k6, 1200, .inl (fun _ => 0))), (a7, .inl (k7, 1200, .inl (fun _ => 0)))] sz) := by
  refine Met.ofW (cc := cX5_add) (maxL := 7) (ret := none) (by decide) rfl ?_
  intro p e s m args below meth c s₁ B hml hv
  obtain ⟨rfl, hsz, hP, hK, hD0, hG⟩ := hv
  have hx := B.exec
  have hb := B.bytes
  have hr := B.returns
  have hts := atoms_spec (ws := z_Tadd1) B.pre
  have hown : s.vm.findClass RX5 = some m.cls := findClass_of_methodNamed B.named
  have hlocks := B.notSynchronized
  subst hsz
  have hD := hD0.self (sz := s.heap.size)
  generalize hAe : va_A [(h0, .inr (6, [.ref a1, .ref a2, .ref a3, .ref a4, .ref a5, .ref a6, .ref a7, .int 0])), (a1, .inl (k1, 1200, .inl (fun _ => 0))), (a2, .inl (k2, 1200, .inl (fun _ => 0))), (a3, .inl (k3, 1200, .inl (fun _ => 0))), (a4, .inl (k4, 1200, .inr (.inl (fun _ => 0)))), (a5, .inl (k5, 1200, .inl (fun _ => 0))), (a6, .inl (k6, 1200, .inl (fun _ => 0))), (a7, .inl (k7, 1200, .inl (fun _ => 0)))] s.heap.size = A at hD hG ⊢
  have hA : ∀ q : Nat, s.heap.size ≤ q → A q := fun q h => by rw [← hAe]; exact Or.inr h
  have hS : va_S A s.heap s.heap [] := va_S.rf
  have hl := lv_entry ([.ref h0, .int 1, .int p1, .int 0, .long p2]) (n := 7) (Nat.le_of_ble_eq_true rfl)
  rw [lg_entry_eq]
  generalize (lg_sl ([.ref h0, .int 1, .int p1, .int 0, .long p2]) ++ List.replicate (7 - (lg_sl ([.ref h0, .int 1, .int p1, .int 0, .long p2])).length) Slot.unset).toArray = ls at hl ⊢
  have hl : lv_has ls 7 [(0, .ref h0), (1, .int 1), (2, .int p1), (3, .int 0), (4, .long p2)] := hl
  refine lv_aload_n hx hb dX5_add_0 rfl (lv_at hl 0 rfl) ?_
  refine lv_iload_n hx hb dX5_add_1 rfl (lv_at hl 1 rfl) ?_
  have hPc := hP.sub (ws' := []) [] rfl
  have hDc := hD.sub (ws' := []) [] (by decide) rfl
  have hKc := hK.sub (tys' := []) [] rfl
  have hFc := va_free (wc := []) hD hS hA [] rfl
  refine va_calli (va_runS (As := [.int 1]) (rest := [.ref h0]) ⟨hx, hb, hml, hown, hts⟩ (c_pO1 l dC dI tp te s.heap.size) (va_cwS 1 hts g_Tadd1_2 rfl rfl rfl (by decide +kernel) ⟨Nat.le_of_ble_eq_true rfl, Nat.le_of_ble_eq_true rfl⟩) ⟨Pw.blind, Pw.mk hPc hKc hDc hG hS hFc⟩ rfl rfl hl.1 rfl (lv_room (Nat.le_of_ble_eq_true rfl)) dX5_add_2 ⟨Nat.le_of_ble_eq_true rfl, Nat.le_of_ble_eq_true rfl⟩) hS (fun q _ h => hFc q h) hFc (fun r u t9 H_1 locs ht hvm hw hB hz1 hk1 hS => ?_)
  have hw : r = 0 := hw
  subst hw
  obtain ⟨hP, hD⟩ := va_join (wr := [(h0, .inr (6, [.ref a1, .ref a2, .ref a3, .ref a4, .ref a5, .ref a6, .ref a7, .int 0])), (a1, .inl (k1, 1200, .inl (fun _ => 0))), (a2, .inl (k2, 1200, .inl (fun _ => 0))), (a3, .inl (k3, 1200, .inl (fun _ => 0))), (a4, .inl (k4, 1200, .inr (.inl (fun _ => 0)))), (a5, .inl (k5, 1200, .inl (fun _ => 0))), (a6, .inl (k6, 1200, .inl (fun _ => 0))), (a7, .inl (k7, 1200, .inl (fun _ => 0)))]) (w1 := []) hP hD [] [0, 1, 2, 3, 4, 5, 6, 7] rfl rfl (by decide) (by decide) hk1 hFc va_P.nil va_D.nil
  have hK := hK.sub (tys' := [(k1, .int), (k2, .int), (k3, .int), (k4, .long), (k5, .int), (k6, .int), (k7, .int)]) [0, 1, 2, 3, 4, 5, 6] rfl
  have hP : va_P (dC, dI) vwCl [(h0, .inr (6, [.ref a1, .ref a2, .ref a3, .ref a4, .ref a5, .ref a6, .ref a7, .int 0])), (a1, .inl (k1, 1200, .inl (fun _ => 0))), (a2, .inl (k2, 1200, .inl (fun _ => 0))), (a3, .inl (k3, 1200, .inl (fun _ => 0))), (a4, .inl (k4, 1200, .inr (.inl (fun _ => 0)))), (a5, .inl (k5, 1200, .inl (fun _ => 0))), (a6, .inl (k6, 1200, .inl (fun _ => 0))), (a7, .inl (k7, 1200, .inl (fun _ => 0)))] H_1 := hP
  have hD : va_D A [(h0, .inr (6, [.ref a1, .ref a2, .ref a3, .ref a4, .ref a5, .ref a6, .ref a7, .int 0])), (a1, .inl (k1, 1200, .inl (fun _ => 0))), (a2, .inl (k2, 1200, .inl (fun _ => 0))), (a3, .inl (k3, 1200, .inl (fun _ => 0))), (a4, .inl (k4, 1200, .inr (.inl (fun _ => 0)))), (a5, .inl (k5, 1200, .inl (fun _ => 0))), (a6, .inl (k6, 1200, .inl (fun _ => 0))), (a7, .inl (k7, 1200, .inl (fun _ => 0)))] := hD
  have hK : va_K (dC, dI) vwCl [(k1, .int), (k2, .int), (k3, .int), (k4, .long), (k5, .int), (k6, .int), (k7, .int)] s := hK
  refine W.widen (k := 0) (n := 0) (Nat.le_of_ble_eq_true rfl) (Nat.le_of_ble_eq_true rfl) ?_
  have hPc := hP.sub (ws' := [(h0, .inr (6, [.ref a1, .ref a2, .ref a3, .ref a4, .ref a5, .ref a6, .ref a7, .int 0]))]) [0] rfl
  have hDc := hD.sub (ws' := [(h0, .inr (6, [.ref a1, .ref a2, .ref a3, .ref a4, .ref a5, .ref a6, .ref a7, .int 0]))]) [0] (by decide) rfl
  have hKc := hK.sub (tys' := []) [] rfl
  have hFc := va_free (wc := [(h0, .inr (6, [.ref a1, .ref a2, .ref a3, .ref a4, .ref a5, .ref a6, .ref a7, .int 0]))]) hD hS hA [0] rfl
  refine va_calli (va_runV (As := [.int 0]) (rest := []) ⟨hx, hb, hml, hown, hts⟩ (c_sOL l dC dI tp te H_1.size h0 a1 a2 a3 a4 a5 a6 a7) (cwV 1 hts g_Tadd1_5 rfl rfl rfl (by decide +kernel) ⟨Nat.le_of_ble_eq_true rfl, Nat.le_of_ble_eq_true rfl⟩) ⟨Pw.blind, va_recv hKc hPc (ci := 6) (q0 := 0) rfl rfl, Pw.mk hPc hKc hDc hG hS hFc⟩ rfl rfl hl.1 rfl (lv_room (Nat.le_of_ble_eq_true rfl)) dX5_add_5 ⟨Nat.le_of_ble_eq_true rfl, Nat.le_of_ble_eq_true rfl⟩) hS (fun q _ h => hFc q h) hFc (fun r u t9 H_2 locs ht hvm hw hB hz1 hk1 hS => ?_)
  have hw : r = 0 := hw
  subst hw
  obtain ⟨hP1, hK1, hD1⟩ := hB
  rw [ht] at hP1
  have hK1 := va_K.moved hvm.symm hK1
  obtain ⟨hP, hD⟩ := va_join (wr := [(a1, .inl (k1, 1200, .inl (fun _ => 0))), (a2, .inl (k2, 1200, .inl (fun _ => 0))), (a3, .inl (k3, 1200, .inl (fun _ => 0))), (a4, .inl (k4, 1200, .inr (.inl (fun _ => 0)))), (a5, .inl (k5, 1200, .inl (fun _ => 0))), (a6, .inl (k6, 1200, .inl (fun _ => 0))), (a7, .inl (k7, 1200, .inl (fun _ => 0)))]) (w1 := [(h0, .inr (6, [.ref a1, .ref a2, .ref a3, .ref a4, .ref a5, .ref a6, .ref a7, .int 0]))]) hP hD [0] [1, 2, 3, 4, 5, 6, 7] rfl rfl (by decide) (by decide) hk1 hFc hP1 hD1
  have hK := (hK.sub (tys' := [(k1, .int), (k2, .int), (k3, .int), (k4, .long), (k5, .int), (k6, .int), (k7, .int)]) [0, 1, 2, 3, 4, 5, 6] rfl).app hK1
  have hP : va_P (dC, dI) vwCl [(a1, .inl (k1, 1200, .inl (fun _ => 0))), (a2, .inl (k2, 1200, .inl (fun _ => 0))), (a3, .inl (k3, 1200, .inl (fun _ => 0))), (a4, .inl (k4, 1200, .inr (.inl (fun _ => 0)))), (a5, .inl (k5, 1200, .inl (fun _ => 0))), (a6, .inl (k6, 1200, .inl (fun _ => 0))), (a7, .inl (k7, 1200, .inl (fun _ => 0))), (h0, .inr (6, [.ref a1, .ref a2, .ref a3, .ref a4, .ref a5, .ref a6, .ref a7, .int 0]))] H_2 := hP
  have hD : va_D A [(a1, .inl (k1, 1200, .inl (fun _ => 0))), (a2, .inl (k2, 1200, .inl (fun _ => 0))), (a3, .inl (k3, 1200, .inl (fun _ => 0))), (a4, .inl (k4, 1200, .inr (.inl (fun _ => 0)))), (a5, .inl (k5, 1200, .inl (fun _ => 0))), (a6, .inl (k6, 1200, .inl (fun _ => 0))), (a7, .inl (k7, 1200, .inl (fun _ => 0))), (h0, .inr (6, [.ref a1, .ref a2, .ref a3, .ref a4, .ref a5, .ref a6, .ref a7, .int 0]))] := hD
  have hK : va_K (dC, dI) vwCl [(k1, .int), (k2, .int), (k3, .int), (k4, .long), (k5, .int), (k6, .int), (k7, .int)] s := hK
  refine W.widen (k := 0) (n := 0) (Nat.le_of_ble_eq_true rfl) (Nat.le_of_ble_eq_true rfl) ?_
  refine lv_istore (lv' := [(6, .int 0), (0, .ref h0), (1, .int 1), (2, .int p1), (3, .int 0), (4, .long p2)]) hx hb dX5_add_8 hl (by decide) rfl (fun ls hl => ?_)
  refine lv_aload_n hx hb dX5_add_10 rfl (lv_at hl 1 rfl) ?_
  refine va_get (D := (dC, dI)) (ci := 6) (v := .int 0) (C := RX5) (T := TX5) (N := 8) hx hb hts in_z_Tadd1_X5 hown hK hP 7 rfl rfl 7 (by decide) (hts (.fieldLink RX5 37 "Selfkindle$Term" "count" "I") (List.mem_of_getElem? (i := 10) rfl)) (fun _ h9 => h9) rfl dX5_add_11 ?_
  refine lv_if_lt (tgt := 29) hx hb dX5_add_14 (by decide) (fun c9 => absurd c9 (by decide)) (fun c9 => ?_)
  refine lv_aload_n hx hb dX5_add_17 rfl (lv_at hl 1 rfl) ?_
  refine va_get (D := (dC, dI)) (ci := 6) (v := .int 0) (C := RX5) (T := TX5) (N := 8) hx hb hts in_z_Tadd1_X5 hown hK hP 7 rfl rfl 7 (by decide) (hts (.fieldLink RX5 37 "Selfkindle$Term" "count" "I") (List.mem_of_getElem? (i := 10) rfl)) (fun _ h9 => h9) rfl dX5_add_18 ?_
  refine lv_aload_n hx hb dX5_add_21 rfl (lv_at hl 1 rfl) ?_
  refine va_get (D := (dC, dI)) (ci := 6) (v := .ref a1) (C := RX5) (T := TX5) (N := 8) hx hb hts in_z_Tadd1_X5 hown hK hP 7 rfl rfl 0 (by decide) (hts (.fieldLink RX5 9 "Selfkindle$Term" "kinds" "[I") (List.mem_of_getElem? (i := 11) rfl)) (fun _ h9 => h9) rfl dX5_add_22 ?_
  refine va_alen (v := 1200) hx hb hK hP 0 0 rfl rfl (by decide) dX5_add_25 ?_
  refine lv_icmp_lt (tgt := 30) hx hb dX5_add_26 (by decide) (fun c9 => ?_) (fun c9 => absurd (by decide) c9)
  refine lv_aload_n hx hb dX5_add_30 rfl (lv_at hl 1 rfl) ?_
  refine va_get (D := (dC, dI)) (ci := 6) (v := .ref a1) (C := RX5) (T := TX5) (N := 8) hx hb hts in_z_Tadd1_X5 hown hK hP 7 rfl rfl 0 (by decide) (hts (.fieldLink RX5 9 "Selfkindle$Term" "kinds" "[I") (List.mem_of_getElem? (i := 11) rfl)) (fun _ h9 => h9) rfl dX5_add_31 ?_
  refine lv_aload_n hx hb dX5_add_34 rfl (lv_at hl 1 rfl) ?_
  refine va_get (D := (dC, dI)) (ci := 6) (v := .int 0) (C := RX5) (T := TX5) (N := 8) hx hb hts in_z_Tadd1_X5 hown hK hP 7 rfl rfl 7 (by decide) (hts (.fieldLink RX5 37 "Selfkindle$Term" "count" "I") (List.mem_of_getElem? (i := 10) rfl)) (fun _ h9 => h9) rfl dX5_add_35 ?_
  refine lv_iload_n hx hb dX5_add_38 rfl (lv_at hl 2 rfl) ?_
  refine va_iast hx hb hK hP hD hS 0 0 rfl rfl (by unfold vp_in; decide +kernel) dX5_add_39 (fun H_3 locs hP hD hS => ?_)
  have hP : va_P (dC, dI) vwCl [(a1, .inl (k1, 1200, .inl (upd (fun _ => 0) (0 : Int32).toNatClampNeg 1))), (a2, .inl (k2, 1200, .inl (fun _ => 0))), (a3, .inl (k3, 1200, .inl (fun _ => 0))), (a4, .inl (k4, 1200, .inr (.inl (fun _ => 0)))), (a5, .inl (k5, 1200, .inl (fun _ => 0))), (a6, .inl (k6, 1200, .inl (fun _ => 0))), (a7, .inl (k7, 1200, .inl (fun _ => 0))), (h0, .inr (6, [.ref a1, .ref a2, .ref a3, .ref a4, .ref a5, .ref a6, .ref a7, .int 0]))] H_3 := hP
  have hD : va_D A [(a1, .inl (k1, 1200, .inl (upd (fun _ => 0) (0 : Int32).toNatClampNeg 1))), (a2, .inl (k2, 1200, .inl (fun _ => 0))), (a3, .inl (k3, 1200, .inl (fun _ => 0))), (a4, .inl (k4, 1200, .inr (.inl (fun _ => 0)))), (a5, .inl (k5, 1200, .inl (fun _ => 0))), (a6, .inl (k6, 1200, .inl (fun _ => 0))), (a7, .inl (k7, 1200, .inl (fun _ => 0))), (h0, .inr (6, [.ref a1, .ref a2, .ref a3, .ref a4, .ref a5, .ref a6, .ref a7, .int 0]))] := hD
  have hK : va_K (dC, dI) vwCl [(k1, .int), (k2, .int), (k3, .int), (k4, .long), (k5, .int), (k6, .int), (k7, .int)] s := hK
  have hP := hP.sub (ws' := [(a2, .inl (k2, 1200, .inl (fun _ => 0))), (a3, .inl (k3, 1200, .inl (fun _ => 0))), (a4, .inl (k4, 1200, .inr (.inl (fun _ => 0)))), (a5, .inl (k5, 1200, .inl (fun _ => 0))), (a6, .inl (k6, 1200, .inl (fun _ => 0))), (a7, .inl (k7, 1200, .inl (fun _ => 0))), (h0, .inr (6, [.ref a1, .ref a2, .ref a3, .ref a4, .ref a5, .ref a6, .ref a7, .int 0]))]) [1, 2, 3, 4, 5, 6, 7] rfl
  have hD := hD.sub (ws' := [(a2, .inl (k2, 1200, .inl (fun _ => 0))), (a3, .inl (k3, 1200, .inl (fun _ => 0))), (a4, .inl (k4, 1200, .inr (.inl (fun _ => 0)))), (a5, .inl (k5, 1200, .inl (fun _ => 0))), (a6, .inl (k6, 1200, .inl (fun _ => 0))), (a7, .inl (k7, 1200, .inl (fun _ => 0))), (h0, .inr (6, [.ref a1, .ref a2, .ref a3, .ref a4, .ref a5, .ref a6, .ref a7, .int 0]))]) [1, 2, 3, 4, 5, 6, 7] (by decide) rfl
  have hK := hK.sub (tys' := [(k2, .int), (k3, .int), (k4, .long), (k5, .int), (k6, .int), (k7, .int)]) [1, 2, 3, 4, 5, 6] rfl
  have hP : va_P (dC, dI) vwCl [(a2, .inl (k2, 1200, .inl (fun _ => 0))), (a3, .inl (k3, 1200, .inl (fun _ => 0))), (a4, .inl (k4, 1200, .inr (.inl (fun _ => 0)))), (a5, .inl (k5, 1200, .inl (fun _ => 0))), (a6, .inl (k6, 1200, .inl (fun _ => 0))), (a7, .inl (k7, 1200, .inl (fun _ => 0))), (h0, .inr (6, [.ref a1, .ref a2, .ref a3, .ref a4, .ref a5, .ref a6, .ref a7, .int 0]))] H_3 := hP
  have hD : va_D A [(a2, .inl (k2, 1200, .inl (fun _ => 0))), (a3, .inl (k3, 1200, .inl (fun _ => 0))), (a4, .inl (k4, 1200, .inr (.inl (fun _ => 0)))), (a5, .inl (k5, 1200, .inl (fun _ => 0))), (a6, .inl (k6, 1200, .inl (fun _ => 0))), (a7, .inl (k7, 1200, .inl (fun _ => 0))), (h0, .inr (6, [.ref a1, .ref a2, .ref a3, .ref a4, .ref a5, .ref a6, .ref a7, .int 0]))] := hD
  have hK : va_K (dC, dI) vwCl [(k2, .int), (k3, .int), (k4, .long), (k5, .int), (k6, .int), (k7, .int)] s := hK
  refine lv_aload_n hx hb dX5_add_40 rfl (lv_at hl 1 rfl) ?_
  refine va_get (D := (dC, dI)) (ci := 6) (v := .ref a2) (C := RX5) (T := TX5) (N := 8) hx hb hts in_z_Tadd1_X5 hown hK hP 6 rfl rfl 1 (by decide) (hts (.fieldLink RX5 15 "Selfkindle$Term" "names" "[I") (List.mem_of_getElem? (i := 12) rfl)) (fun _ h9 => h9) rfl dX5_add_41 ?_
  refine lv_aload_n hx hb dX5_add_44 rfl (lv_at hl 1 rfl) ?_
  refine va_get (D := (dC, dI)) (ci := 6) (v := .int 0) (C := RX5) (T := TX5) (N := 8) hx hb hts in_z_Tadd1_X5 hown hK hP 6 rfl rfl 7 (by decide) (hts (.fieldLink RX5 37 "Selfkindle$Term" "count" "I") (List.mem_of_getElem? (i := 10) rfl)) (fun _ h9 => h9) rfl dX5_add_45 ?_
  refine lv_iload_n hx hb dX5_add_48 rfl (lv_at hl 3 rfl) ?_
  refine va_iast hx hb hK hP hD hS 0 0 rfl rfl (by unfold vp_in; decide +kernel) dX5_add_49 (fun H_4 locs hP hD hS => ?_)
  have hP : va_P (dC, dI) vwCl [(a2, .inl (k2, 1200, .inl (upd (fun _ => 0) (0 : Int32).toNatClampNeg p1))), (a3, .inl (k3, 1200, .inl (fun _ => 0))), (a4, .inl (k4, 1200, .inr (.inl (fun _ => 0)))), (a5, .inl (k5, 1200, .inl (fun _ => 0))), (a6, .inl (k6, 1200, .inl (fun _ => 0))), (a7, .inl (k7, 1200, .inl (fun _ => 0))), (h0, .inr (6, [.ref a1, .ref a2, .ref a3, .ref a4, .ref a5, .ref a6, .ref a7, .int 0]))] H_4 := hP
  have hD : va_D A [(a2, .inl (k2, 1200, .inl (upd (fun _ => 0) (0 : Int32).toNatClampNeg p1))), (a3, .inl (k3, 1200, .inl (fun _ => 0))), (a4, .inl (k4, 1200, .inr (.inl (fun _ => 0)))), (a5, .inl (k5, 1200, .inl (fun _ => 0))), (a6, .inl (k6, 1200, .inl (fun _ => 0))), (a7, .inl (k7, 1200, .inl (fun _ => 0))), (h0, .inr (6, [.ref a1, .ref a2, .ref a3, .ref a4, .ref a5, .ref a6, .ref a7, .int 0]))] := hD
  have hK : va_K (dC, dI) vwCl [(k2, .int), (k3, .int), (k4, .long), (k5, .int), (k6, .int), (k7, .int)] s := hK
  have hP := hP.sub (ws' := [(a3, .inl (k3, 1200, .inl (fun _ => 0))), (a4, .inl (k4, 1200, .inr (.inl (fun _ => 0)))), (a5, .inl (k5, 1200, .inl (fun _ => 0))), (a6, .inl (k6, 1200, .inl (fun _ => 0))), (a7, .inl (k7, 1200, .inl (fun _ => 0))), (h0, .inr (6, [.ref a1, .ref a2, .ref a3, .ref a4, .ref a5, .ref a6, .ref a7, .int 0]))]) [1, 2, 3, 4, 5, 6] rfl
  have hD := hD.sub (ws' := [(a3, .inl (k3, 1200, .inl (fun _ => 0))), (a4, .inl (k4, 1200, .inr (.inl (fun _ => 0)))), (a5, .inl (k5, 1200, .inl (fun _ => 0))), (a6, .inl (k6, 1200, .inl (fun _ => 0))), (a7, .inl (k7, 1200, .inl (fun _ => 0))), (h0, .inr (6, [.ref a1, .ref a2, .ref a3, .ref a4, .ref a5, .ref a6, .ref a7, .int 0]))]) [1, 2, 3, 4, 5, 6] (by decide) rfl
  have hK := hK.sub (tys' := [(k3, .int), (k4, .long), (k5, .int), (k6, .int), (k7, .int)]) [1, 2, 3, 4, 5] rfl
  have hP : va_P (dC, dI) vwCl [(a3, .inl (k3, 1200, .inl (fun _ => 0))), (a4, .inl (k4, 1200, .inr (.inl (fun _ => 0)))), (a5, .inl (k5, 1200, .inl (fun _ => 0))), (a6, .inl (k6, 1200, .inl (fun _ => 0))), (a7, .inl (k7, 1200, .inl (fun _ => 0))), (h0, .inr (6, [.ref a1, .ref a2, .ref a3, .ref a4, .ref a5, .ref a6, .ref a7, .int 0]))] H_4 := hP
  have hD : va_D A [(a3, .inl (k3, 1200, .inl (fun _ => 0))), (a4, .inl (k4, 1200, .inr (.inl (fun _ => 0)))), (a5, .inl (k5, 1200, .inl (fun _ => 0))), (a6, .inl (k6, 1200, .inl (fun _ => 0))), (a7, .inl (k7, 1200, .inl (fun _ => 0))), (h0, .inr (6, [.ref a1, .ref a2, .ref a3, .ref a4, .ref a5, .ref a6, .ref a7, .int 0]))] := hD
  have hK : va_K (dC, dI) vwCl [(k3, .int), (k4, .long), (k5, .int), (k6, .int), (k7, .int)] s := hK
  refine lv_aload_n hx hb dX5_add_50 rfl (lv_at hl 1 rfl) ?_
  refine va_get (D := (dC, dI)) (ci := 6) (v := .ref a3) (C := RX5) (T := TX5) (N := 8) hx hb hts in_z_Tadd1_X5 hown hK hP 5 rfl rfl 2 (by decide) (hts (.fieldLink RX5 18 "Selfkindle$Term" "others" "[I") (List.mem_of_getElem? (i := 13) rfl)) (fun _ h9 => h9) rfl dX5_add_51 ?_
  refine lv_aload_n hx hb dX5_add_54 rfl (lv_at hl 1 rfl) ?_
  refine va_get (D := (dC, dI)) (ci := 6) (v := .int 0) (C := RX5) (T := TX5) (N := 8) hx hb hts in_z_Tadd1_X5 hown hK hP 5 rfl rfl 7 (by decide) (hts (.fieldLink RX5 37 "Selfkindle$Term" "count" "I") (List.mem_of_getElem? (i := 10) rfl)) (fun _ h9 => h9) rfl dX5_add_55 ?_
  refine lv_iload_n hx hb dX5_add_58 rfl (lv_at hl 4 rfl) ?_
  refine va_iast hx hb hK hP hD hS 0 0 rfl rfl (by unfold vp_in; decide +kernel) dX5_add_59 (fun H_5 locs hP hD hS => ?_)
  have hP : va_P (dC, dI) vwCl [(a3, .inl (k3, 1200, .inl (upd (fun _ => 0) (0 : Int32).toNatClampNeg 0))), (a4, .inl (k4, 1200, .inr (.inl (fun _ => 0)))), (a5, .inl (k5, 1200, .inl (fun _ => 0))), (a6, .inl (k6, 1200, .inl (fun _ => 0))), (a7, .inl (k7, 1200, .inl (fun _ => 0))), (h0, .inr (6, [.ref a1, .ref a2, .ref a3, .ref a4, .ref a5, .ref a6, .ref a7, .int 0]))] H_5 := hP
  have hD : va_D A [(a3, .inl (k3, 1200, .inl (upd (fun _ => 0) (0 : Int32).toNatClampNeg 0))), (a4, .inl (k4, 1200, .inr (.inl (fun _ => 0)))), (a5, .inl (k5, 1200, .inl (fun _ => 0))), (a6, .inl (k6, 1200, .inl (fun _ => 0))), (a7, .inl (k7, 1200, .inl (fun _ => 0))), (h0, .inr (6, [.ref a1, .ref a2, .ref a3, .ref a4, .ref a5, .ref a6, .ref a7, .int 0]))] := hD
  have hK : va_K (dC, dI) vwCl [(k3, .int), (k4, .long), (k5, .int), (k6, .int), (k7, .int)] s := hK
  have hP := hP.sub (ws' := [(a4, .inl (k4, 1200, .inr (.inl (fun _ => 0)))), (a5, .inl (k5, 1200, .inl (fun _ => 0))), (a6, .inl (k6, 1200, .inl (fun _ => 0))), (a7, .inl (k7, 1200, .inl (fun _ => 0))), (h0, .inr (6, [.ref a1, .ref a2, .ref a3, .ref a4, .ref a5, .ref a6, .ref a7, .int 0]))]) [1, 2, 3, 4, 5] rfl
  have hD := hD.sub (ws' := [(a4, .inl (k4, 1200, .inr (.inl (fun _ => 0)))), (a5, .inl (k5, 1200, .inl (fun _ => 0))), (a6, .inl (k6, 1200, .inl (fun _ => 0))), (a7, .inl (k7, 1200, .inl (fun _ => 0))), (h0, .inr (6, [.ref a1, .ref a2, .ref a3, .ref a4, .ref a5, .ref a6, .ref a7, .int 0]))]) [1, 2, 3, 4, 5] (by decide) rfl
  have hK := hK.sub (tys' := [(k4, .long), (k5, .int), (k6, .int), (k7, .int)]) [1, 2, 3, 4] rfl
  have hP : va_P (dC, dI) vwCl [(a4, .inl (k4, 1200, .inr (.inl (fun _ => 0)))), (a5, .inl (k5, 1200, .inl (fun _ => 0))), (a6, .inl (k6, 1200, .inl (fun _ => 0))), (a7, .inl (k7, 1200, .inl (fun _ => 0))), (h0, .inr (6, [.ref a1, .ref a2, .ref a3, .ref a4, .ref a5, .ref a6, .ref a7, .int 0]))] H_5 := hP
  have hD : va_D A [(a4, .inl (k4, 1200, .inr (.inl (fun _ => 0)))), (a5, .inl (k5, 1200, .inl (fun _ => 0))), (a6, .inl (k6, 1200, .inl (fun _ => 0))), (a7, .inl (k7, 1200, .inl (fun _ => 0))), (h0, .inr (6, [.ref a1, .ref a2, .ref a3, .ref a4, .ref a5, .ref a6, .ref a7, .int 0]))] := hD
  have hK : va_K (dC, dI) vwCl [(k4, .long), (k5, .int), (k6, .int), (k7, .int)] s := hK
  refine lv_aload_n hx hb dX5_add_60 rfl (lv_at hl 1 rfl) ?_
  refine va_get (D := (dC, dI)) (ci := 6) (v := .ref a4) (C := RX5) (T := TX5) (N := 8) hx hb hts in_z_Tadd1_X5 hown hK hP 4 rfl rfl 3 (by decide) (hts (.fieldLink RX5 21 "Selfkindle$Term" "numbers" "[J") (List.mem_of_getElem? (i := 14) rfl)) (fun _ h9 => h9) rfl dX5_add_61 ?_
  refine lv_aload_n hx hb dX5_add_64 rfl (lv_at hl 1 rfl) ?_
  refine va_get (D := (dC, dI)) (ci := 6) (v := .int 0) (C := RX5) (T := TX5) (N := 8) hx hb hts in_z_Tadd1_X5 hown hK hP 4 rfl rfl 7 (by decide) (hts (.fieldLink RX5 37 "Selfkindle$Term" "count" "I") (List.mem_of_getElem? (i := 10) rfl)) (fun _ h9 => h9) rfl dX5_add_65 ?_
  refine lv_lload hx hb dX5_add_68 (lv_at hl 5 rfl) ?_
  refine va_last hx hb hK hP hD hS 0 0 rfl rfl (by unfold vp_in; decide +kernel) dX5_add_70 (fun H_6 locs hP hD hS => ?_)
  have hP : va_P (dC, dI) vwCl [(a4, .inl (k4, 1200, .inr (.inl (vp_updL (fun _ => 0) (0 : Int32).toNatClampNeg p2)))), (a5, .inl (k5, 1200, .inl (fun _ => 0))), (a6, .inl (k6, 1200, .inl (fun _ => 0))), (a7, .inl (k7, 1200, .inl (fun _ => 0))), (h0, .inr (6, [.ref a1, .ref a2, .ref a3, .ref a4, .ref a5, .ref a6, .ref a7, .int 0]))] H_6 := hP
  have hD : va_D A [(a4, .inl (k4, 1200, .inr (.inl (vp_updL (fun _ => 0) (0 : Int32).toNatClampNeg p2)))), (a5, .inl (k5, 1200, .inl (fun _ => 0))), (a6, .inl (k6, 1200, .inl (fun _ => 0))), (a7, .inl (k7, 1200, .inl (fun _ => 0))), (h0, .inr (6, [.ref a1, .ref a2, .ref a3, .ref a4, .ref a5, .ref a6, .ref a7, .int 0]))] := hD
  have hK : va_K (dC, dI) vwCl [(k4, .long), (k5, .int), (k6, .int), (k7, .int)] s := hK
  have hP := hP.sub (ws' := [(a5, .inl (k5, 1200, .inl (fun _ => 0))), (a6, .inl (k6, 1200, .inl (fun _ => 0))), (a7, .inl (k7, 1200, .inl (fun _ => 0))), (h0, .inr (6, [.ref a1, .ref a2, .ref a3, .ref a4, .ref a5, .ref a6, .ref a7, .int 0]))]) [1, 2, 3, 4] rfl
  have hD := hD.sub (ws' := [(a5, .inl (k5, 1200, .inl (fun _ => 0))), (a6, .inl (k6, 1200, .inl (fun _ => 0))), (a7, .inl (k7, 1200, .inl (fun _ => 0))), (h0, .inr (6, [.ref a1, .ref a2, .ref a3, .ref a4, .ref a5, .ref a6, .ref a7, .int 0]))]) [1, 2, 3, 4] (by decide) rfl
  have hK := hK.sub (tys' := [(k5, .int), (k6, .int), (k7, .int)]) [1, 2, 3] rfl
  have hP : va_P (dC, dI) vwCl [(a5, .inl (k5, 1200, .inl (fun _ => 0))), (a6, .inl (k6, 1200, .inl (fun _ => 0))), (a7, .inl (k7, 1200, .inl (fun _ => 0))), (h0, .inr (6, [.ref a1, .ref a2, .ref a3, .ref a4, .ref a5, .ref a6, .ref a7, .int 0]))] H_6 := hP
  have hD : va_D A [(a5, .inl (k5, 1200, .inl (fun _ => 0))), (a6, .inl (k6, 1200, .inl (fun _ => 0))), (a7, .inl (k7, 1200, .inl (fun _ => 0))), (h0, .inr (6, [.ref a1, .ref a2, .ref a3, .ref a4, .ref a5, .ref a6, .ref a7, .int 0]))] := hD
  have hK : va_K (dC, dI) vwCl [(k5, .int), (k6, .int), (k7, .int)] s := hK
  refine lv_aload_n hx hb dX5_add_71 rfl (lv_at hl 1 rfl) ?_
  refine va_get (D := (dC, dI)) (ci := 6) (v := .ref a5) (C := RX5) (T := TX5) (N := 8) hx hb hts in_z_Tadd1_X5 hown hK hP 3 rfl rfl 4 (by decide) (hts (.fieldLink RX5 25 "Selfkindle$Term" "sizes" "[I") (List.mem_of_getElem? (i := 15) rfl)) (fun _ h9 => h9) rfl dX5_add_72 ?_
  refine lv_aload_n hx hb dX5_add_75 rfl (lv_at hl 1 rfl) ?_
  refine va_get (D := (dC, dI)) (ci := 6) (v := .int 0) (C := RX5) (T := TX5) (N := 8) hx hb hts in_z_Tadd1_X5 hown hK hP 3 rfl rfl 7 (by decide) (hts (.fieldLink RX5 37 "Selfkindle$Term" "count" "I") (List.mem_of_getElem? (i := 10) rfl)) (fun _ h9 => h9) rfl dX5_add_76 ?_
  refine lv_iconst (v := 1) hx hb dX5_add_79 (by decide) ?_
  refine lv_iload hx hb dX5_add_80 (lv_at hl 0 rfl) ?_
  refine lv_iadd hx hb dX5_add_82 ?_
  refine lv_topi (fun z_7 ez_7 => ?_)
  obtain rfl : z_7 = 1 := ez_7.trans (by decide)
  refine va_iast hx hb hK hP hD hS 0 0 rfl rfl (by unfold vp_in; decide +kernel) dX5_add_83 (fun H_8 locs hP hD hS => ?_)
  have hP : va_P (dC, dI) vwCl [(a5, .inl (k5, 1200, .inl (upd (fun _ => 0) (0 : Int32).toNatClampNeg 1))), (a6, .inl (k6, 1200, .inl (fun _ => 0))), (a7, .inl (k7, 1200, .inl (fun _ => 0))), (h0, .inr (6, [.ref a1, .ref a2, .ref a3, .ref a4, .ref a5, .ref a6, .ref a7, .int 0]))] H_8 := hP
  have hD : va_D A [(a5, .inl (k5, 1200, .inl (upd (fun _ => 0) (0 : Int32).toNatClampNeg 1))), (a6, .inl (k6, 1200, .inl (fun _ => 0))), (a7, .inl (k7, 1200, .inl (fun _ => 0))), (h0, .inr (6, [.ref a1, .ref a2, .ref a3, .ref a4, .ref a5, .ref a6, .ref a7, .int 0]))] := hD
  have hK : va_K (dC, dI) vwCl [(k5, .int), (k6, .int), (k7, .int)] s := hK
  have hP := hP.sub (ws' := [(a6, .inl (k6, 1200, .inl (fun _ => 0))), (a7, .inl (k7, 1200, .inl (fun _ => 0))), (h0, .inr (6, [.ref a1, .ref a2, .ref a3, .ref a4, .ref a5, .ref a6, .ref a7, .int 0]))]) [1, 2, 3] rfl
  have hD := hD.sub (ws' := [(a6, .inl (k6, 1200, .inl (fun _ => 0))), (a7, .inl (k7, 1200, .inl (fun _ => 0))), (h0, .inr (6, [.ref a1, .ref a2, .ref a3, .ref a4, .ref a5, .ref a6, .ref a7, .int 0]))]) [1, 2, 3] (by decide) rfl
  have hK := hK.sub (tys' := [(k6, .int), (k7, .int)]) [1, 2] rfl
  have hP : va_P (dC, dI) vwCl [(a6, .inl (k6, 1200, .inl (fun _ => 0))), (a7, .inl (k7, 1200, .inl (fun _ => 0))), (h0, .inr (6, [.ref a1, .ref a2, .ref a3, .ref a4, .ref a5, .ref a6, .ref a7, .int 0]))] H_8 := hP
  have hD : va_D A [(a6, .inl (k6, 1200, .inl (fun _ => 0))), (a7, .inl (k7, 1200, .inl (fun _ => 0))), (h0, .inr (6, [.ref a1, .ref a2, .ref a3, .ref a4, .ref a5, .ref a6, .ref a7, .int 0]))] := hD
  have hK : va_K (dC, dI) vwCl [(k6, .int), (k7, .int)] s := hK
  refine lv_aload_n hx hb dX5_add_84 rfl (lv_at hl 1 rfl) ?_
  refine va_get (D := (dC, dI)) (ci := 6) (v := .ref a6) (C := RX5) (T := TX5) (N := 8) hx hb hts in_z_Tadd1_X5 hown hK hP 2 rfl rfl 5 (by decide) (hts (.fieldLink RX5 28 "Selfkindle$Term" "binders" "[I") (List.mem_of_getElem? (i := 16) rfl)) (fun _ h9 => h9) rfl dX5_add_85 ?_
  refine lv_aload_n hx hb dX5_add_88 rfl (lv_at hl 1 rfl) ?_
  refine va_get (D := (dC, dI)) (ci := 6) (v := .int 0) (C := RX5) (T := TX5) (N := 8) hx hb hts in_z_Tadd1_X5 hown hK hP 2 rfl rfl 7 (by decide) (hts (.fieldLink RX5 37 "Selfkindle$Term" "count" "I") (List.mem_of_getElem? (i := 10) rfl)) (fun _ h9 => h9) rfl dX5_add_89 ?_
  refine lv_iconst (v := (-1)) hx hb dX5_add_92 (by decide) ?_
  refine va_iast hx hb hK hP hD hS 0 0 rfl rfl (by unfold vp_in; decide +kernel) dX5_add_93 (fun H_9 locs hP hD hS => ?_)
  have hP : va_P (dC, dI) vwCl [(a6, .inl (k6, 1200, .inl (upd (fun _ => 0) (0 : Int32).toNatClampNeg (-1)))), (a7, .inl (k7, 1200, .inl (fun _ => 0))), (h0, .inr (6, [.ref a1, .ref a2, .ref a3, .ref a4, .ref a5, .ref a6, .ref a7, .int 0]))] H_9 := hP
  have hD : va_D A [(a6, .inl (k6, 1200, .inl (upd (fun _ => 0) (0 : Int32).toNatClampNeg (-1)))), (a7, .inl (k7, 1200, .inl (fun _ => 0))), (h0, .inr (6, [.ref a1, .ref a2, .ref a3, .ref a4, .ref a5, .ref a6, .ref a7, .int 0]))] := hD
  have hK : va_K (dC, dI) vwCl [(k6, .int), (k7, .int)] s := hK
  have hP := hP.sub (ws' := [(a7, .inl (k7, 1200, .inl (fun _ => 0))), (h0, .inr (6, [.ref a1, .ref a2, .ref a3, .ref a4, .ref a5, .ref a6, .ref a7, .int 0]))]) [1, 2] rfl
  have hD := hD.sub (ws' := [(a7, .inl (k7, 1200, .inl (fun _ => 0))), (h0, .inr (6, [.ref a1, .ref a2, .ref a3, .ref a4, .ref a5, .ref a6, .ref a7, .int 0]))]) [1, 2] (by decide) rfl
  have hK := hK.sub (tys' := [(k7, .int)]) [1] rfl
  have hP : va_P (dC, dI) vwCl [(a7, .inl (k7, 1200, .inl (fun _ => 0))), (h0, .inr (6, [.ref a1, .ref a2, .ref a3, .ref a4, .ref a5, .ref a6, .ref a7, .int 0]))] H_9 := hP
  have hD : va_D A [(a7, .inl (k7, 1200, .inl (fun _ => 0))), (h0, .inr (6, [.ref a1, .ref a2, .ref a3, .ref a4, .ref a5, .ref a6, .ref a7, .int 0]))] := hD
  have hK : va_K (dC, dI) vwCl [(k7, .int)] s := hK
  refine lv_aload_n hx hb dX5_add_94 rfl (lv_at hl 1 rfl) ?_
  refine va_get (D := (dC, dI)) (ci := 6) (v := .ref a7) (C := RX5) (T := TX5) (N := 8) hx hb hts in_z_Tadd1_X5 hown hK hP 1 rfl rfl 6 (by decide) (hts (.fieldLink RX5 31 "Selfkindle$Term" "distances" "[I") (List.mem_of_getElem? (i := 17) rfl)) (fun _ h9 => h9) rfl dX5_add_95 ?_
  refine lv_aload_n hx hb dX5_add_98 rfl (lv_at hl 1 rfl) ?_
  refine va_get (D := (dC, dI)) (ci := 6) (v := .int 0) (C := RX5) (T := TX5) (N := 8) hx hb hts in_z_Tadd1_X5 hown hK hP 1 rfl rfl 7 (by decide) (hts (.fieldLink RX5 37 "Selfkindle$Term" "count" "I") (List.mem_of_getElem? (i := 10) rfl)) (fun _ h9 => h9) rfl dX5_add_99 ?_
  refine lv_iconst (v := (-1)) hx hb dX5_add_102 (by decide) ?_
  refine va_iast hx hb hK hP hD hS 0 0 rfl rfl (by unfold vp_in; decide +kernel) dX5_add_103 (fun H_10 locs hP hD hS => ?_)
  have hP : va_P (dC, dI) vwCl [(a7, .inl (k7, 1200, .inl (upd (fun _ => 0) (0 : Int32).toNatClampNeg (-1)))), (h0, .inr (6, [.ref a1, .ref a2, .ref a3, .ref a4, .ref a5, .ref a6, .ref a7, .int 0]))] H_10 := hP
  have hD : va_D A [(a7, .inl (k7, 1200, .inl (upd (fun _ => 0) (0 : Int32).toNatClampNeg (-1)))), (h0, .inr (6, [.ref a1, .ref a2, .ref a3, .ref a4, .ref a5, .ref a6, .ref a7, .int 0]))] := hD
  have hK : va_K (dC, dI) vwCl [(k7, .int)] s := hK
  have hP := hP.sub (ws' := [(h0, .inr (6, [.ref a1, .ref a2, .ref a3, .ref a4, .ref a5, .ref a6, .ref a7, .int 0]))]) [1] rfl
  have hD := hD.sub (ws' := [(h0, .inr (6, [.ref a1, .ref a2, .ref a3, .ref a4, .ref a5, .ref a6, .ref a7, .int 0]))]) [1] (by decide) rfl
  have hK := hK.sub (tys' := []) [] rfl
  have hP : va_P (dC, dI) vwCl [(h0, .inr (6, [.ref a1, .ref a2, .ref a3, .ref a4, .ref a5, .ref a6, .ref a7, .int 0]))] H_10 := hP
  have hD : va_D A [(h0, .inr (6, [.ref a1, .ref a2, .ref a3, .ref a4, .ref a5, .ref a6, .ref a7, .int 0]))] := hD
  have hK : va_K (dC, dI) vwCl [] s := hK
  refine lv_aload_n hx hb dX5_add_104 rfl (lv_at hl 1 rfl) ?_
  refine lv_dup hx hb dX5_add_105 rfl ?_
  refine va_get (D := (dC, dI)) (ci := 6) (v := .int 0) (C := RX5) (T := TX5) (N := 8) hx hb hts in_z_Tadd1_X5 hown hK hP 0 rfl rfl 7 (by decide) (hts (.fieldLink RX5 37 "Selfkindle$Term" "count" "I") (List.mem_of_getElem? (i := 10) rfl)) (fun _ h9 => h9) rfl dX5_add_106 ?_
  refine lv_iconst (v := 1) hx hb dX5_add_109 (by decide) ?_
  refine lv_iadd hx hb dX5_add_110 ?_
  refine lv_topi (fun z_11 ez_11 => ?_)
  obtain rfl : z_11 = 1 := ez_11.trans (by decide)
  refine va_put (D := (dC, dI)) (ci := 6) (v := .int 1) (ty := .int) (C := RX5) (T := TX5) (N := 8) hx hb hts in_z_Tadd1_X5 tyX5 tyX5_ok nmX5 hown hK hP hD hS 0 rfl rfl 7 (by decide) (hts (.fieldLink RX5 37 "Selfkindle$Term" "count" "I") (List.mem_of_getElem? (i := 10) rfl)) (fun _ h9 => h9) rfl (by decide +kernel) rfl rfl (Nat.le_of_ble_eq_true rfl) dX5_add_111 (fun H_12 locs hP hD hS => ?_)
  have hP : va_P (dC, dI) vwCl [(h0, .inr (6, [.ref a1, .ref a2, .ref a3, .ref a4, .ref a5, .ref a6, .ref a7, .int 1]))] H_12 := hP
  have hD : va_D A [(h0, .inr (6, [.ref a1, .ref a2, .ref a3, .ref a4, .ref a5, .ref a6, .ref a7, .int 1]))] := hD
  have hK : va_K (dC, dI) vwCl [] s := hK
  refine W.widen (k := 0) (n := 0) (Nat.le_of_ble_eq_true rfl) (Nat.le_of_ble_eq_true rfl) ?_
  exact W.vret hx hb hr (fun t ht hW => ⟨⟨(), rfl, trivial, trivial⟩, hS.F ht⟩) hS.2.2 dX5_add_114

set_option maxRecDepth 20000 in
def z_pL1 : List Cond := .code yX7_putLeaf cX7_putLeaf 5 (some .int) :: (([.fieldLink RX7 72 "Selfkindle" "height" "I", .fieldLink RX7 14 "Selfkindle" "pile" "LSelfkindle$Term;", .methodLink RX7 169 yX5_add, .instanceMethod yX5_add, .selects RX5 yX5_add yX5_add, .initialized RX5, .code yX5_add cX5_add 7 none, .methodLink RX5 41 yX5_partsOf, .static yX5_partsOf, .code yX5_partsOf cX5_partsOf 1 (some .int), .fieldLink RX5 34 "Selfkindle$Term" "PARTS_OF" "[I", .methodLink RX5 45 yX5_sizeOfLast, .instanceMethod yX5_sizeOfLast, .selects RX5 yX5_sizeOfLast yX5_sizeOfLast, .code yX5_sizeOfLast cX5_sizeOfLast 4 (some .int), .fieldLink RX5 37 "Selfkindle$Term" "count" "I", .fieldLink RX5 9 "Selfkindle$Term" "kinds" "[I", .fieldLink RX5 15 "Selfkindle$Term" "names" "[I", .fieldLink RX5 18 "Selfkindle$Term" "others" "[I", .fieldLink RX5 21 "Selfkindle$Term" "numbers" "[J", .fieldLink RX5 25 "Selfkindle$Term" "sizes" "[I", .fieldLink RX5 28 "Selfkindle$Term" "binders" "[I", .fieldLink RX5 31 "Selfkindle$Term" "distances" "[I"] : List Cond) ++ wsX70 ++ wsX50)
theorem in_z_pL1_X7 : ∀ w ∈ wsX70, w ∈ z_pL1 := fun w h => List.mem_cons_of_mem _ (List.mem_append_left _ (List.mem_append_right _ (h)))
theorem in_z_pL1_X5 : ∀ w ∈ wsX50, w ∈ z_pL1 := fun w h => List.mem_cons_of_mem _ (List.mem_append_right _ (h))
set_option maxRecDepth 20000 in
theorem g_pL1_25 : GoodIn z_pL1 (wsV RX7 169 RX5 yX5_add z_Tadd1) := goodIn_p _ [7, 10, 15] rfl (by decide +kernel)
set_option maxHeartbeats 4000000 in
set_option maxRecDepth 100000 in
theorem c_pL1 (l : Launch) (dC : Nat → ClassId) (dI : Nat → Nat → Nat) (tp te : Nat) (sz : Nat) (h0 : Nat) (rp : Nat) (rt : Nat) (rc : Nat) (r1 : Nat) (r2 : Nat) (r3 : Nat) (r4 : Nat) (a1 : Nat) (a2 : Nat) (a3 : Nat) (a4 : Nat) (a5 : Nat) (a6 : Nat) (a7 : Nat) (k1 : ClassId) (k2 : ClassId) (k3 : ClassId) (k4 : ClassId) (k5 : ClassId) (k6 : ClassId) (k7 : ClassId) (p1 : Int32) (p2 : Int64)  : Met l yX7_putLeaf z_pL1 ({ frames := 2, cells := 0, slots := 0, locals := 49 }) (va_Pc [.ref h0, .int 1, .int p1, .long p2] (Pw dC dI [(h0, .inr (8, [.ref rp, .int 0, .ref rt, .ref rc, .int ((-1)), .ref r1, .ref r2, .ref r3, .ref r4, .null, .int 0])), (rp, .inr (6, [.ref a1, .ref a2, .ref a3, .ref a4, .ref a5, .ref a6, .ref a7, .int 0])), (a1, .inl (k1, 1200, .inl (fun _ => 0))), (a2, .inl (k2, 1200, .inl (fun _ => 0))), (a3, .inl (k3, 1200, .inl (fun _ => 0))), (a4, .inl (k4, 1200, .inr (.inl (fun _ => 0)))), (a5, .inl (k5, 1200, .inl (fun _ => 0))), (a6, .inl (k6, 1200, .inl (fun _ => 0))), (a7, .inl (k7, 1200, .inl (fun _ => 0)))] [(k1, .int), (k2, .int), (k3, .int), (k4, .long), (k5, .int), (k6, .int), (k7, .int)] sz tp te)) (va_Qi (fun (r : Int32) (_ : Unit) => r = 1) (fun (_ : Unit) (_ : State) => True) (va_A [(h0, .inr (8, [.ref rp, .int 0, .ref rt, .ref rc, .int ((-1)), .ref r1, .ref r2, .ref r3, .ref r4, .null, .int 0])), (rp, .inr (6, [.ref a1, .ref a2, .ref a3, .ref a4, .ref a5, .ref a6, .ref a7, .int 0])), (a1, .inl (k1, 1200, .inl (fun _ => 0))), (a2, .inl (k2, 1200, .inl (fun _ => 0))), (a3, .inl (k3, 1200, .inl (fun _ => 0))), (a4, .inl (k4, 1200, .inr (.inl (fun _ => 0)))), (a5, .inl (k5, 1200, .inl (fun _ => 0))), (a6, .inl (k6, 1200, .inl (fun _ => 0))), (a7, .inl (k7, 1200, .inl (fun _ => 0)))] sz)) 0 0 (va_A [(h0, .inr (8, [.ref rp, .int 0, .ref rt, .ref rc, .int ((-1)), .ref r1, .ref r2, .ref r3, .ref r4, .null, .int 0])), (rp, .inr (6, [.ref a1, .ref a2, .ref a3, .ref a4, .ref a5, .ref a6, .ref a7, .int 0])), (a1, .inl (k1, 1200, .inl (fun _ => 0))), (a2, .inl (k2, 1200, .inl (fun _ => 0))), (a3, .inl (k3, 1200, .inl (fun _ => 0))), (a4, .inl (k4, 1200, .inr (.inl (fun _ => 0)))), (a5, .inl (k5, 1200, .inl (fun _ => 0))), (a6, .inl (k6, 1200, .inl (fun _ => 0))), (a7, .inl (k7, 1200, .inl (fun _ => 0)))] sz) := by
  refine Met.ofW (cc := cX7_putLeaf) (maxL := 5) (ret := (some .int)) (by decide) rfl ?_
  intro p e s m args below meth c s₁ B hml hv
  obtain ⟨rfl, hsz, hP, hK, hD0, hG⟩ := hv
  have hx := B.exec
  have hb := B.bytes
  have hr := B.returns
  have hts := atoms_spec (ws := z_pL1) B.pre
  have hown : s.vm.findClass RX7 = some m.cls := findClass_of_methodNamed B.named
  have hlocks := B.notSynchronized
  subst hsz
  have hD := hD0.self (sz := s.heap.size)
  generalize hAe : va_A [(h0, .inr (8, [.ref rp, .int 0, .ref rt, .ref rc, .int ((-1)), .ref r1, .ref r2, .ref r3, .ref r4, .null, .int 0])), (rp, .inr (6, [.ref a1, .ref a2, .ref a3, .ref a4, .ref a5, .ref a6, .ref a7, .int 0])), (a1, .inl (k1, 1200, .inl (fun _ => 0))), (a2, .inl (k2, 1200, .inl (fun _ => 0))), (a3, .inl (k3, 1200, .inl (fun _ => 0))), (a4, .inl (k4, 1200, .inr (.inl (fun _ => 0)))), (a5, .inl (k5, 1200, .inl (fun _ => 0))), (a6, .inl (k6, 1200, .inl (fun _ => 0))), (a7, .inl (k7, 1200, .inl (fun _ => 0)))] s.heap.size = A at hD hG ⊢
  have hA : ∀ q : Nat, s.heap.size ≤ q → A q := fun q h => by rw [← hAe]; exact Or.inr h
  have hS : va_S A s.heap s.heap [] := va_S.rf
  have hl := lv_entry ([.ref h0, .int 1, .int p1, .long p2]) (n := 5) (Nat.le_of_ble_eq_true rfl)
  rw [lg_entry_eq]
  generalize (lg_sl ([.ref h0, .int 1, .int p1, .long p2]) ++ List.replicate (5 - (lg_sl ([.ref h0, .int 1, .int p1, .long p2])).length) Slot.unset).toArray = ls at hl ⊢
  have hl : lv_has ls 5 [(0, .ref h0), (1, .int 1), (2, .int p1), (3, .long p2)] := hl
  refine lv_aload_n hx hb dX7_putLeaf_0 rfl (lv_at hl 0 rfl) ?_
  refine va_get (D := (dC, dI)) (ci := 8) (v := .int 0) (C := RX7) (T := TX7) (N := 11) hx hb hts in_z_pL1_X7 hown hK hP 0 rfl rfl 1 (by decide) (hts (.fieldLink RX7 72 "Selfkindle" "height" "I") (List.mem_of_getElem? (i := 1) rfl)) (fun _ h9 => h9) rfl dX7_putLeaf_1 ?_
  refine lv_bipush (v := 20) hx hb dX7_putLeaf_4 (by decide) ?_
  refine lv_icmp_lt (tgt := 17) hx hb dX7_putLeaf_6 (by decide) (fun c9 => ?_) (fun c9 => absurd (by decide) c9)
  refine lv_aload_n hx hb dX7_putLeaf_17 rfl (lv_at hl 0 rfl) ?_
  refine va_get (D := (dC, dI)) (ci := 8) (v := .ref rp) (C := RX7) (T := TX7) (N := 11) hx hb hts in_z_pL1_X7 hown hK hP 0 rfl rfl 0 (by decide) (hts (.fieldLink RX7 14 "Selfkindle" "pile" "LSelfkindle$Term;") (List.mem_of_getElem? (i := 2) rfl)) (fun _ h9 => h9) rfl dX7_putLeaf_18 ?_
  refine lv_iload_n hx hb dX7_putLeaf_21 rfl (lv_at hl 1 rfl) ?_
  refine lv_iload_n hx hb dX7_putLeaf_22 rfl (lv_at hl 2 rfl) ?_
  refine lv_iconst (v := 0) hx hb dX7_putLeaf_23 (by decide) ?_
  refine lv_lload_n hx hb dX7_putLeaf_24 rfl (lv_at hl 3 rfl) ?_
  have hPc := hP.sub (ws' := [(rp, .inr (6, [.ref a1, .ref a2, .ref a3, .ref a4, .ref a5, .ref a6, .ref a7, .int 0])), (a1, .inl (k1, 1200, .inl (fun _ => 0))), (a2, .inl (k2, 1200, .inl (fun _ => 0))), (a3, .inl (k3, 1200, .inl (fun _ => 0))), (a4, .inl (k4, 1200, .inr (.inl (fun _ => 0)))), (a5, .inl (k5, 1200, .inl (fun _ => 0))), (a6, .inl (k6, 1200, .inl (fun _ => 0))), (a7, .inl (k7, 1200, .inl (fun _ => 0)))]) [1, 2, 3, 4, 5, 6, 7, 8] rfl
  have hDc := hD.sub (ws' := [(rp, .inr (6, [.ref a1, .ref a2, .ref a3, .ref a4, .ref a5, .ref a6, .ref a7, .int 0])), (a1, .inl (k1, 1200, .inl (fun _ => 0))), (a2, .inl (k2, 1200, .inl (fun _ => 0))), (a3, .inl (k3, 1200, .inl (fun _ => 0))), (a4, .inl (k4, 1200, .inr (.inl (fun _ => 0)))), (a5, .inl (k5, 1200, .inl (fun _ => 0))), (a6, .inl (k6, 1200, .inl (fun _ => 0))), (a7, .inl (k7, 1200, .inl (fun _ => 0)))]) [1, 2, 3, 4, 5, 6, 7, 8] (by decide) rfl
  have hKc := hK.sub (tys' := [(k1, .int), (k2, .int), (k3, .int), (k4, .long), (k5, .int), (k6, .int), (k7, .int)]) [0, 1, 2, 3, 4, 5, 6] rfl
  have hFc := va_free (wc := [(rp, .inr (6, [.ref a1, .ref a2, .ref a3, .ref a4, .ref a5, .ref a6, .ref a7, .int 0])), (a1, .inl (k1, 1200, .inl (fun _ => 0))), (a2, .inl (k2, 1200, .inl (fun _ => 0))), (a3, .inl (k3, 1200, .inl (fun _ => 0))), (a4, .inl (k4, 1200, .inr (.inl (fun _ => 0)))), (a5, .inl (k5, 1200, .inl (fun _ => 0))), (a6, .inl (k6, 1200, .inl (fun _ => 0))), (a7, .inl (k7, 1200, .inl (fun _ => 0)))]) hD hS hA [1, 2, 3, 4, 5, 6, 7, 8] rfl
  refine va_callv (va_runV (As := [.int 1, .int p1, .int 0, .long p2]) (rest := []) ⟨hx, hb, hml, hown, hts⟩ (c_Tadd1 l dC dI tp te s.heap.size rp a1 a2 a3 a4 a5 a6 a7 k1 k2 k3 k4 k5 k6 k7 p1 p2) (cwV 4 hts g_pL1_25 rfl rfl rfl (by decide +kernel) ⟨Nat.le_of_ble_eq_true rfl, Nat.le_of_ble_eq_true rfl⟩) ⟨Pw.blind, va_recv hKc hPc (ci := 6) (q0 := 0) rfl rfl, Pw.mk hPc hKc hDc hG hS hFc⟩ rfl rfl hl.1 rfl (lv_room (Nat.le_of_ble_eq_true rfl)) dX7_putLeaf_25 ⟨Nat.le_of_ble_eq_true rfl, Nat.le_of_ble_eq_true rfl⟩) hS (fun q _ h => hFc q h) hFc (fun u t9 H_1 locs ht hvm hw hB hz1 hk1 hS => ?_)
  obtain ⟨hP, hD⟩ := va_join (wr := [(h0, .inr (8, [.ref rp, .int 0, .ref rt, .ref rc, .int ((-1)), .ref r1, .ref r2, .ref r3, .ref r4, .null, .int 0]))]) (w1 := []) hP hD [1, 2, 3, 4, 5, 6, 7, 8] [0] rfl rfl (by decide) (by decide) hk1 hFc va_P.nil va_D.nil
  have hK := hK.sub (tys' := []) [] rfl
  have hP : va_P (dC, dI) vwCl [(h0, .inr (8, [.ref rp, .int 0, .ref rt, .ref rc, .int ((-1)), .ref r1, .ref r2, .ref r3, .ref r4, .null, .int 0]))] H_1 := hP
  have hD : va_D A [(h0, .inr (8, [.ref rp, .int 0, .ref rt, .ref rc, .int ((-1)), .ref r1, .ref r2, .ref r3, .ref r4, .null, .int 0]))] := hD
  have hK : va_K (dC, dI) vwCl [] s := hK
  refine W.widen (k := 0) (n := 0) (Nat.le_of_ble_eq_true rfl) (Nat.le_of_ble_eq_true rfl) ?_
  refine lv_aload_n hx hb dX7_putLeaf_28 rfl (lv_at hl 0 rfl) ?_
  refine lv_dup hx hb dX7_putLeaf_29 rfl ?_
  refine va_get (D := (dC, dI)) (ci := 8) (v := .int 0) (C := RX7) (T := TX7) (N := 11) hx hb hts in_z_pL1_X7 hown hK hP 0 rfl rfl 1 (by decide) (hts (.fieldLink RX7 72 "Selfkindle" "height" "I") (List.mem_of_getElem? (i := 1) rfl)) (fun _ h9 => h9) rfl dX7_putLeaf_30 ?_
  refine lv_iconst (v := 1) hx hb dX7_putLeaf_33 (by decide) ?_
  refine lv_iadd hx hb dX7_putLeaf_34 ?_
  refine lv_topi (fun z_2 ez_2 => ?_)
  obtain rfl : z_2 = 1 := ez_2.trans (by decide)
  refine va_put (D := (dC, dI)) (ci := 8) (v := .int 1) (ty := .int) (C := RX7) (T := TX7) (N := 11) hx hb hts in_z_pL1_X7 tyX7 tyX7_ok nmX7 hown hK hP hD hS 0 rfl rfl 1 (by decide) (hts (.fieldLink RX7 72 "Selfkindle" "height" "I") (List.mem_of_getElem? (i := 1) rfl)) (fun _ h9 => h9) rfl (by decide +kernel) rfl rfl (Nat.le_of_ble_eq_true rfl) dX7_putLeaf_35 (fun H_3 locs hP hD hS => ?_)
  have hP : va_P (dC, dI) vwCl [(h0, .inr (8, [.ref rp, .int 1, .ref rt, .ref rc, .int ((-1)), .ref r1, .ref r2, .ref r3, .ref r4, .null, .int 0]))] H_3 := hP
  have hD : va_D A [(h0, .inr (8, [.ref rp, .int 1, .ref rt, .ref rc, .int ((-1)), .ref r1, .ref r2, .ref r3, .ref r4, .null, .int 0]))] := hD
  have hK : va_K (dC, dI) vwCl [] s := hK
  refine lv_aload_n hx hb dX7_putLeaf_38 rfl (lv_at hl 0 rfl) ?_
  refine va_get (D := (dC, dI)) (ci := 8) (v := .int 1) (C := RX7) (T := TX7) (N := 11) hx hb hts in_z_pL1_X7 hown hK hP 0 rfl rfl 1 (by decide) (hts (.fieldLink RX7 72 "Selfkindle" "height" "I") (List.mem_of_getElem? (i := 1) rfl)) (fun _ h9 => h9) rfl dX7_putLeaf_39 ?_
  refine W.widen (k := 0) (n := 0) (Nat.le_of_ble_eq_true rfl) (Nat.le_of_ble_eq_true rfl) ?_
  exact W.iret (v := 1) hx hb hr (fun t ht hW => ⟨⟨1, (), rfl, rfl, trivial⟩, hS.F ht⟩) hS.2.2 dX7_putLeaf_42

set_option maxRecDepth 20000 in
def z_X_number : List Cond := .code yX7_number cX7_number 3 (some .int) :: (([.methodLink RX7 58 yX7_putLeaf, .instanceMethod yX7_putLeaf, .selects RX7 yX7_putLeaf yX7_putLeaf, .initialized RX7, .code yX7_putLeaf cX7_putLeaf 5 (some .int), .fieldLink RX7 72 "Selfkindle" "height" "I", .fieldLink RX7 14 "Selfkindle" "pile" "LSelfkindle$Term;", .methodLink RX7 169 yX5_add, .instanceMethod yX5_add, .selects RX5 yX5_add yX5_add, .initialized RX5, .code yX5_add cX5_add 7 none, .methodLink RX5 41 yX5_partsOf, .static yX5_partsOf, .code yX5_partsOf cX5_partsOf 1 (some .int), .fieldLink RX5 34 "Selfkindle$Term" "PARTS_OF" "[I", .methodLink RX5 45 yX5_sizeOfLast, .instanceMethod yX5_sizeOfLast, .selects RX5 yX5_sizeOfLast yX5_sizeOfLast, .code yX5_sizeOfLast cX5_sizeOfLast 4 (some .int), .fieldLink RX5 37 "Selfkindle$Term" "count" "I", .fieldLink RX5 9 "Selfkindle$Term" "kinds" "[I", .fieldLink RX5 15 "Selfkindle$Term" "names" "[I", .fieldLink RX5 18 "Selfkindle$Term" "others" "[I", .fieldLink RX5 21 "Selfkindle$Term" "numbers" "[J", .fieldLink RX5 25 "Selfkindle$Term" "sizes" "[I", .fieldLink RX5 28 "Selfkindle$Term" "binders" "[I", .fieldLink RX5 31 "Selfkindle$Term" "distances" "[I"] : List Cond) ++ wsX70 ++ wsX50)
theorem in_z_X_number_X7 : ∀ w ∈ wsX70, w ∈ z_X_number := fun w h => List.mem_cons_of_mem _ (List.mem_append_left _ (List.mem_append_right _ (h)))
theorem in_z_X_number_X5 : ∀ w ∈ wsX50, w ∈ z_X_number := fun w h => List.mem_cons_of_mem _ (List.mem_append_right _ (h))
set_option maxRecDepth 20000 in
theorem g_X_number_4 : GoodIn z_X_number (wsV RX7 58 RX7 yX7_putLeaf z_pL0) := goodIn_p _ [5, 12, 15, 20] rfl (by decide +kernel)
set_option maxHeartbeats 4000000 in
set_option maxRecDepth 100000 in
theorem c_X_number (l : Launch) (dC : Nat → ClassId) (dI : Nat → Nat → Nat) (tp te : Nat) (sz : Nat) (h0 : Nat) (rp : Nat) (rt : Nat) (rc : Nat) (r1 : Nat) (r2 : Nat) (r3 : Nat) (r4 : Nat) (a1 : Nat) (a2 : Nat) (a3 : Nat) (a4 : Nat) (a5 : Nat) (a6 : Nat) (a7 : Nat) (k1 : ClassId) (k2 : ClassId) (k3 : ClassId) (k4 : ClassId) (k5 : ClassId) (k6 : ClassId) (k7 : ClassId) (p2 : Int64)  : Met l yX7_number z_X_number ({ frames := 3, cells := 0, slots := 0, locals := 73 }) (va_Pc [.ref h0, .long p2] (Pw dC dI [(h0, .inr (8, [.ref rp, .int 0, .ref rt, .ref rc, .int ((-1)), .ref r1, .ref r2, .ref r3, .ref r4, .null, .int 0])), (rp, .inr (6, [.ref a1, .ref a2, .ref a3, .ref a4, .ref a5, .ref a6, .ref a7, .int 0])), (a1, .inl (k1, 1200, .inl (fun _ => 0))), (a2, .inl (k2, 1200, .inl (fun _ => 0))), (a3, .inl (k3, 1200, .inl (fun _ => 0))), (a4, .inl (k4, 1200, .inr (.inl (fun _ => 0)))), (a5, .inl (k5, 1200, .inl (fun _ => 0))), (a6, .inl (k6, 1200, .inl (fun _ => 0))), (a7, .inl (k7, 1200, .inl (fun _ => 0)))] [(k1, .int), (k2, .int), (k3, .int), (k4, .long), (k5, .int), (k6, .int), (k7, .int)] sz tp te)) (va_Qi (fun (r : Int32) (_ : Unit) => r = 1) (fun (_ : Unit) (_ : State) => True) (va_A [(h0, .inr (8, [.ref rp, .int 0, .ref rt, .ref rc, .int ((-1)), .ref r1, .ref r2, .ref r3, .ref r4, .null, .int 0])), (rp, .inr (6, [.ref a1, .ref a2, .ref a3, .ref a4, .ref a5, .ref a6, .ref a7, .int 0])), (a1, .inl (k1, 1200, .inl (fun _ => 0))), (a2, .inl (k2, 1200, .inl (fun _ => 0))), (a3, .inl (k3, 1200, .inl (fun _ => 0))), (a4, .inl (k4, 1200, .inr (.inl (fun _ => 0)))), (a5, .inl (k5, 1200, .inl (fun _ => 0))), (a6, .inl (k6, 1200, .inl (fun _ => 0))), (a7, .inl (k7, 1200, .inl (fun _ => 0)))] sz)) 0 0 (va_A [(h0, .inr (8, [.ref rp, .int 0, .ref rt, .ref rc, .int ((-1)), .ref r1, .ref r2, .ref r3, .ref r4, .null, .int 0])), (rp, .inr (6, [.ref a1, .ref a2, .ref a3, .ref a4, .ref a5, .ref a6, .ref a7, .int 0])), (a1, .inl (k1, 1200, .inl (fun _ => 0))), (a2, .inl (k2, 1200, .inl (fun _ => 0))), (a3, .inl (k3, 1200, .inl (fun _ => 0))), (a4, .inl (k4, 1200, .inr (.inl (fun _ => 0)))), (a5, .inl (k5, 1200, .inl (fun _ => 0))), (a6, .inl (k6, 1200, .inl (fun _ => 0))), (a7, .inl (k7, 1200, .inl (fun _ => 0)))] sz) := by
  refine Met.ofW (cc := cX7_number) (maxL := 3) (ret := (some .int)) (by decide) rfl ?_
  intro p e s m args below meth c s₁ B hml hv
  obtain ⟨rfl, hsz, hP, hK, hD0, hG⟩ := hv
  have hx := B.exec
  have hb := B.bytes
  have hr := B.returns
  have hts := atoms_spec (ws := z_X_number) B.pre
  have hown : s.vm.findClass RX7 = some m.cls := findClass_of_methodNamed B.named
  have hlocks := B.notSynchronized
  subst hsz
  have hD := hD0.self (sz := s.heap.size)
  generalize hAe : va_A [(h0, .inr (8, [.ref rp, .int 0, .ref rt, .ref rc, .int ((-1)), .ref r1, .ref r2, .ref r3, .ref r4, .null, .int 0])), (rp, .inr (6, [.ref a1, .ref a2, .ref a3, .ref a4, .ref a5, .ref a6, .ref a7, .int 0])), (a1, .inl (k1, 1200, .inl (fun _ => 0))), (a2, .inl (k2, 1200, .inl (fun _ => 0))), (a3, .inl (k3, 1200, .inl (fun _ => 0))), (a4, .inl (k4, 1200, .inr (.inl (fun _ => 0)))), (a5, .inl (k5, 1200, .inl (fun _ => 0))), (a6, .inl (k6, 1200, .inl (fun _ => 0))), (a7, .inl (k7, 1200, .inl (fun _ => 0)))] s.heap.size = A at hD hG ⊢
  have hA : ∀ q : Nat, s.heap.size ≤ q → A q := fun q h => by rw [← hAe]; exact Or.inr h
  have hS : va_S A s.heap s.heap [] := va_S.rf
  have hl := lv_entry ([.ref h0, .long p2]) (n := 3) (Nat.le_of_ble_eq_true rfl)
  rw [lg_entry_eq]
  generalize (lg_sl ([.ref h0, .long p2]) ++ List.replicate (3 - (lg_sl ([.ref h0, .long p2])).length) Slot.unset).toArray = ls at hl ⊢
  have hl : lv_has ls 3 [(0, .ref h0), (1, .long p2)] := hl
  refine lv_aload_n hx hb dX7_number_0 rfl (lv_at hl 0 rfl) ?_
  refine lv_iconst (v := 0) hx hb dX7_number_1 (by decide) ?_
  refine lv_iconst (v := (-1)) hx hb dX7_number_2 (by decide) ?_
  refine lv_lload_n hx hb dX7_number_3 rfl (lv_at hl 1 rfl) ?_
  have hPc := hP.sub (ws' := [(h0, .inr (8, [.ref rp, .int 0, .ref rt, .ref rc, .int ((-1)), .ref r1, .ref r2, .ref r3, .ref r4, .null, .int 0])), (rp, .inr (6, [.ref a1, .ref a2, .ref a3, .ref a4, .ref a5, .ref a6, .ref a7, .int 0])), (a1, .inl (k1, 1200, .inl (fun _ => 0))), (a2, .inl (k2, 1200, .inl (fun _ => 0))), (a3, .inl (k3, 1200, .inl (fun _ => 0))), (a4, .inl (k4, 1200, .inr (.inl (fun _ => 0)))), (a5, .inl (k5, 1200, .inl (fun _ => 0))), (a6, .inl (k6, 1200, .inl (fun _ => 0))), (a7, .inl (k7, 1200, .inl (fun _ => 0)))]) [0, 1, 2, 3, 4, 5, 6, 7, 8] rfl
  have hDc := hD.sub (ws' := [(h0, .inr (8, [.ref rp, .int 0, .ref rt, .ref rc, .int ((-1)), .ref r1, .ref r2, .ref r3, .ref r4, .null, .int 0])), (rp, .inr (6, [.ref a1, .ref a2, .ref a3, .ref a4, .ref a5, .ref a6, .ref a7, .int 0])), (a1, .inl (k1, 1200, .inl (fun _ => 0))), (a2, .inl (k2, 1200, .inl (fun _ => 0))), (a3, .inl (k3, 1200, .inl (fun _ => 0))), (a4, .inl (k4, 1200, .inr (.inl (fun _ => 0)))), (a5, .inl (k5, 1200, .inl (fun _ => 0))), (a6, .inl (k6, 1200, .inl (fun _ => 0))), (a7, .inl (k7, 1200, .inl (fun _ => 0)))]) [0, 1, 2, 3, 4, 5, 6, 7, 8] (by decide) rfl
  have hKc := hK.sub (tys' := [(k1, .int), (k2, .int), (k3, .int), (k4, .long), (k5, .int), (k6, .int), (k7, .int)]) [0, 1, 2, 3, 4, 5, 6] rfl
  have hFc := va_free (wc := [(h0, .inr (8, [.ref rp, .int 0, .ref rt, .ref rc, .int ((-1)), .ref r1, .ref r2, .ref r3, .ref r4, .null, .int 0])), (rp, .inr (6, [.ref a1, .ref a2, .ref a3, .ref a4, .ref a5, .ref a6, .ref a7, .int 0])), (a1, .inl (k1, 1200, .inl (fun _ => 0))), (a2, .inl (k2, 1200, .inl (fun _ => 0))), (a3, .inl (k3, 1200, .inl (fun _ => 0))), (a4, .inl (k4, 1200, .inr (.inl (fun _ => 0)))), (a5, .inl (k5, 1200, .inl (fun _ => 0))), (a6, .inl (k6, 1200, .inl (fun _ => 0))), (a7, .inl (k7, 1200, .inl (fun _ => 0)))]) hD hS hA [0, 1, 2, 3, 4, 5, 6, 7, 8] rfl
  refine va_calli (va_runV (As := [.int 0, .int ((-1)), .long p2]) (rest := []) ⟨hx, hb, hml, hown, hts⟩ (c_pL0 l dC dI tp te s.heap.size h0 rp rt rc r1 r2 r3 r4 a1 a2 a3 a4 a5 a6 a7 k1 k2 k3 k4 k5 k6 k7 (-1) p2) (cwV 3 hts g_X_number_4 rfl rfl rfl (by decide +kernel) ⟨Nat.le_of_ble_eq_true rfl, Nat.le_of_ble_eq_true rfl⟩) ⟨Pw.blind, va_recv hKc hPc (ci := 8) (q0 := 0) rfl rfl, Pw.mk hPc hKc hDc hG hS hFc⟩ rfl rfl hl.1 rfl (lv_room (Nat.le_of_ble_eq_true rfl)) dX7_number_4 ⟨Nat.le_of_ble_eq_true rfl, Nat.le_of_ble_eq_true rfl⟩) hS (fun q _ h => hFc q h) hFc (fun r u t9 H_1 locs ht hvm hw hB hz1 hk1 hS => ?_)
  have hw : r = 1 := hw
  subst hw
  obtain ⟨hP, hD⟩ := va_join (wr := []) (w1 := []) hP hD [0, 1, 2, 3, 4, 5, 6, 7, 8] [] rfl rfl (by decide) (by decide) hk1 hFc va_P.nil va_D.nil
  have hK := hK.sub (tys' := []) [] rfl
  have hP : va_P (dC, dI) vwCl [] H_1 := hP
  have hD : va_D A [] := hD
  have hK : va_K (dC, dI) vwCl [] s := hK
  refine W.widen (k := 0) (n := 0) (Nat.le_of_ble_eq_true rfl) (Nat.le_of_ble_eq_true rfl) ?_
  refine W.widen (k := 0) (n := 0) (Nat.le_of_ble_eq_true rfl) (Nat.le_of_ble_eq_true rfl) ?_
  exact W.iret (v := 1) hx hb hr (fun t ht hW => ⟨⟨1, (), rfl, rfl, trivial⟩, hS.F ht⟩) hS.2.2 dX7_number_7

set_option maxRecDepth 20000 in
def z_cN_neg : List Cond := .code yX7_checkName cX7_checkName 1 none :: (([.classLink RX7 107 "java/lang/IndexOutOfBoundsException", .initialized "java/lang/IndexOutOfBoundsException"] : List Cond) ++ (vx_at0 RX7 109 "java/lang/IndexOutOfBoundsException" ["java/lang/RuntimeException", "java/lang/Exception"]).filter goodWord)
set_option maxHeartbeats 4000000 in
set_option maxRecDepth 100000 in
theorem c_cN_neg (l : Launch) (dC : Nat → ClassId) (dI : Nat → Nat → Nat) (tp te : Nat) (sz : Nat) (hlt : l.stackTraces = false) (p0 : Int32) (hvn : p0 < 0) : vx_Met l yX7_checkName z_cN_neg ({ frames := 6, cells := 1, slots := 6, locals := 81 }) (va_Pc [.int p0] (Pw dC dI [] [] sz tp te)) (va_Qv (fun (_ : Unit) => False) (fun (_ : Unit) (_ : State) => True) (va_A [] sz)) (vx_X (fun (_ : Unit) => True) (fun (E : String) (_ : Unit) (_ : State) => E = "java/lang/IndexOutOfBoundsException") (va_A [] sz)) 1 6 (va_A [] sz) := by
  refine vx_ofW (cc := cX7_checkName) (maxL := 1) (ret := none) (by decide) rfl ?_
  intro p e s m args below meth c s₁ B hml htab hv
  obtain ⟨rfl, hsz, hP, hK, hD0, hG⟩ := hv
  have hx := B.exec
  have hb := B.bytes
  have hr := B.returns
  have hts := atoms_spec (ws := z_cN_neg) B.pre
  have hown : s.vm.findClass RX7 = some m.cls := findClass_of_methodNamed B.named
  have hlocks := B.notSynchronized
  subst hsz
  have hD := hD0.self (sz := s.heap.size)
  generalize hAe : va_A [] s.heap.size = A at hD hG ⊢
  have hA : ∀ q : Nat, s.heap.size ≤ q → A q := fun q h => by rw [← hAe]; exact Or.inr h
  have hS : va_S A s.heap s.heap [] := va_S.rf
  have hl := lv_entry ([.int p0]) (n := 1) (Nat.le_of_ble_eq_true rfl)
  rw [lg_entry_eq]
  generalize (lg_sl ([.int p0]) ++ List.replicate (1 - (lg_sl ([.int p0])).length) Slot.unset).toArray = ls at hl ⊢
  have hl : lv_has ls 1 [(0, .int p0)] := hl
  refine lv_iload_n hx hb dX7_checkName_0 rfl (lv_at hl 0 rfl) ?_
  refine lv_if_lt (tgt := 10) hx hb dX7_checkName_1 (by decide) (fun c9 => ?_) (fun c9 => absurd hvn c9)
  exact vx_throw0 (A := A) (own := RX7) (cls := "java/lang/IndexOutOfBoundsException") (names := ["java/lang/RuntimeException", "java/lang/Exception"]) (ik := 107) (ic := 109) hx hb hlt hown (by decide +kernel) (by decide +kernel) (hts (.classLink RX7 107 "java/lang/IndexOutOfBoundsException") (List.mem_of_getElem? (i := 1) rfl)) (hts (.initialized "java/lang/IndexOutOfBoundsException") (List.mem_of_getElem? (i := 2) rfl)) (vx_hat (B := [.castable "java/lang/IndexOutOfBoundsException" "java/lang/IndexOutOfBoundsException", .declares (Bundle.init0 "java/lang/RuntimeException"), .declares (Bundle.init0 "java/lang/Exception"), .declares (Bundle.init0 "java/lang/Throwable")]) (fun w9 h9 => hts w9 (List.mem_cons_of_mem _ (List.mem_append_right _ (h9)))) (by decide +kernel) (vx_c (va_Nw.use rfl hG.2.2.2.2.2.2.2.1) (vx_c (va_Nw.use rfl hG.2.2.2.2.2.2.2.2.2.2.2.2.2.2.1) (vx_c (va_Nw.use rfl hG.2.2.2.2.2.2.2.2.2.2.2.2.2.2.2.1) (vx_c (va_Nw.use rfl hG.2.2.2.2.2.2.2.2.2.2.2.2.2.2.2.2) vx_n))))) (by decide +kernel) hG.2.2.2.2.1 hG.2.2.2.2.2.1 hS (by rw [hml]; exact hl.1) dX7_checkName_10 dX7_checkName_13 dX7_checkName_14 dX7_checkName_17 (fun x9 h9 => (htab x9 h9).elim) (Nat.le_of_ble_eq_true rfl) (Nat.le_of_ble_eq_true rfl) (Nat.le_of_ble_eq_true rfl) (Nat.le_of_ble_eq_true rfl) hlocks (fun t9 _ hz9 hk9 => ⟨(), trivial, rfl, ⟨Nat.le_trans hS.1 hz9, fun q h1 h2 => (hk9 q (Nat.lt_of_lt_of_le h1 hS.1)).trans (hS.2.1 q h1 h2)⟩⟩) hS.2.2 (Nat.le_of_ble_eq_true rfl) (Nat.le_of_ble_eq_true rfl)

set_option maxRecDepth 20000 in
def z_cN_big : List Cond := .code yX7_checkName cX7_checkName 1 none :: (([.classLink RX7 107 "java/lang/IndexOutOfBoundsException", .initialized "java/lang/IndexOutOfBoundsException"] : List Cond) ++ (vx_at0 RX7 109 "java/lang/IndexOutOfBoundsException" ["java/lang/RuntimeException", "java/lang/Exception"]).filter goodWord)
set_option maxHeartbeats 4000000 in
set_option maxRecDepth 100000 in
theorem c_cN_big (l : Launch) (dC : Nat → ClassId) (dI : Nat → Nat → Nat) (tp te : Nat) (sz : Nat) (hlt : l.stackTraces = false) (p0 : Int32) (hvn : ¬ p0 < 0) (hvb : ¬ p0 < 10) (hvc : 10 ≤ p0) : vx_Met l yX7_checkName z_cN_big ({ frames := 6, cells := 1, slots := 6, locals := 81 }) (va_Pc [.int p0] (Pw dC dI [] [] sz tp te)) (va_Qv (fun (_ : Unit) => False) (fun (_ : Unit) (_ : State) => True) (va_A [] sz)) (vx_X (fun (_ : Unit) => True) (fun (E : String) (_ : Unit) (_ : State) => E = "java/lang/IndexOutOfBoundsException") (va_A [] sz)) 1 6 (va_A [] sz) := by
  refine vx_ofW (cc := cX7_checkName) (maxL := 1) (ret := none) (by decide) rfl ?_
  intro p e s m args below meth c s₁ B hml htab hv
  obtain ⟨rfl, hsz, hP, hK, hD0, hG⟩ := hv
  have hx := B.exec
  have hb := B.bytes
  have hr := B.returns
  have hts := atoms_spec (ws := z_cN_big) B.pre
  have hown : s.vm.findClass RX7 = some m.cls := findClass_of_methodNamed B.named
  have hlocks := B.notSynchronized
  subst hsz
  have hD := hD0.self (sz := s.heap.size)
  generalize hAe : va_A [] s.heap.size = A at hD hG ⊢
  have hA : ∀ q : Nat, s.heap.size ≤ q → A q := fun q h => by rw [← hAe]; exact Or.inr h
  have hS : va_S A s.heap s.heap [] := va_S.rf
  have hl := lv_entry ([.int p0]) (n := 1) (Nat.le_of_ble_eq_true rfl)
  rw [lg_entry_eq]
  generalize (lg_sl ([.int p0]) ++ List.replicate (1 - (lg_sl ([.int p0])).length) Slot.unset).toArray = ls at hl ⊢
  have hl : lv_has ls 1 [(0, .int p0)] := hl
  refine lv_iload_n hx hb dX7_checkName_0 rfl (lv_at hl 0 rfl) ?_
  refine lv_if_lt (tgt := 10) hx hb dX7_checkName_1 (by decide) (fun c9 => absurd c9 hvn) (fun c9 => ?_)
  refine lv_iload_n hx hb dX7_checkName_4 rfl (lv_at hl 0 rfl) ?_
  refine lv_bipush (v := 10) hx hb dX7_checkName_5 (by decide) ?_
  refine lv_icmp_lt (tgt := 18) hx hb dX7_checkName_7 (by decide) (fun c9 => absurd c9 hvb) (fun c9 => ?_)
  exact vx_throw0 (A := A) (own := RX7) (cls := "java/lang/IndexOutOfBoundsException") (names := ["java/lang/RuntimeException", "java/lang/Exception"]) (ik := 107) (ic := 109) hx hb hlt hown (by decide +kernel) (by decide +kernel) (hts (.classLink RX7 107 "java/lang/IndexOutOfBoundsException") (List.mem_of_getElem? (i := 1) rfl)) (hts (.initialized "java/lang/IndexOutOfBoundsException") (List.mem_of_getElem? (i := 2) rfl)) (vx_hat (B := [.castable "java/lang/IndexOutOfBoundsException" "java/lang/IndexOutOfBoundsException", .declares (Bundle.init0 "java/lang/RuntimeException"), .declares (Bundle.init0 "java/lang/Exception"), .declares (Bundle.init0 "java/lang/Throwable")]) (fun w9 h9 => hts w9 (List.mem_cons_of_mem _ (List.mem_append_right _ (h9)))) (by decide +kernel) (vx_c (va_Nw.use rfl hG.2.2.2.2.2.2.2.1) (vx_c (va_Nw.use rfl hG.2.2.2.2.2.2.2.2.2.2.2.2.2.2.1) (vx_c (va_Nw.use rfl hG.2.2.2.2.2.2.2.2.2.2.2.2.2.2.2.1) (vx_c (va_Nw.use rfl hG.2.2.2.2.2.2.2.2.2.2.2.2.2.2.2.2) vx_n))))) (by decide +kernel) hG.2.2.2.2.1 hG.2.2.2.2.2.1 hS (by rw [hml]; exact hl.1) dX7_checkName_10 dX7_checkName_13 dX7_checkName_14 dX7_checkName_17 (fun x9 h9 => (htab x9 h9).elim) (Nat.le_of_ble_eq_true rfl) (Nat.le_of_ble_eq_true rfl) (Nat.le_of_ble_eq_true rfl) (Nat.le_of_ble_eq_true rfl) hlocks (fun t9 _ hz9 hk9 => ⟨(), trivial, rfl, ⟨Nat.le_trans hS.1 hz9, fun q h1 h2 => (hk9 q (Nat.lt_of_lt_of_le h1 hS.1)).trans (hS.2.1 q h1 h2)⟩⟩) hS.2.2 (Nat.le_of_ble_eq_true rfl) (Nat.le_of_ble_eq_true rfl)

set_option maxRecDepth 20000 in
def z_cN_ok : List Cond := .code yX7_checkName cX7_checkName 1 none :: (([] : List Cond))
set_option maxHeartbeats 4000000 in
set_option maxRecDepth 100000 in
theorem c_cN_ok (l : Launch) (dC : Nat → ClassId) (dI : Nat → Nat → Nat) (tp te : Nat) (sz : Nat) (p0 : Int32) (hvn : ¬ p0 < 0) (hvb : p0 < 10) (hvc : ¬ 10 ≤ p0) : Met l yX7_checkName z_cN_ok ({ frames := 0, cells := 0, slots := 0, locals := 0 }) (va_Pc [.int p0] (Pw dC dI [] [] sz tp te)) (va_Qv (fun (_ : Unit) => True) (fun (_ : Unit) (_ : State) => True) (va_A [] sz)) 0 0 (va_A [] sz) := by
  refine Met.ofW (cc := cX7_checkName) (maxL := 1) (ret := none) (by decide) rfl ?_
  intro p e s m args below meth c s₁ B hml hv
  obtain ⟨rfl, hsz, hP, hK, hD0, hG⟩ := hv
  have hx := B.exec
  have hb := B.bytes
  have hr := B.returns
  have hts := atoms_spec (ws := z_cN_ok) B.pre
  have hown : s.vm.findClass RX7 = some m.cls := findClass_of_methodNamed B.named
  have hlocks := B.notSynchronized
  subst hsz
  have hD := hD0.self (sz := s.heap.size)
  generalize hAe : va_A [] s.heap.size = A at hD hG ⊢
  have hA : ∀ q : Nat, s.heap.size ≤ q → A q := fun q h => by rw [← hAe]; exact Or.inr h
  have hS : va_S A s.heap s.heap [] := va_S.rf
  have hl := lv_entry ([.int p0]) (n := 1) (Nat.le_of_ble_eq_true rfl)
  rw [lg_entry_eq]
  generalize (lg_sl ([.int p0]) ++ List.replicate (1 - (lg_sl ([.int p0])).length) Slot.unset).toArray = ls at hl ⊢
  have hl : lv_has ls 1 [(0, .int p0)] := hl
  refine lv_iload_n hx hb dX7_checkName_0 rfl (lv_at hl 0 rfl) ?_
  refine lv_if_lt (tgt := 10) hx hb dX7_checkName_1 (by decide) (fun c9 => absurd c9 hvn) (fun c9 => ?_)
  refine lv_iload_n hx hb dX7_checkName_4 rfl (lv_at hl 0 rfl) ?_
  refine lv_bipush (v := 10) hx hb dX7_checkName_5 (by decide) ?_
  refine lv_icmp_lt (tgt := 18) hx hb dX7_checkName_7 (by decide) (fun c9 => ?_) (fun c9 => absurd hvb c9)
  refine W.widen (k := 0) (n := 0) (Nat.le_of_ble_eq_true rfl) (Nat.le_of_ble_eq_true rfl) ?_
  exact W.vret hx hb hr (fun t ht hW => ⟨⟨(), rfl, trivial, trivial⟩, hS.F ht⟩) hS.2.2 dX7_checkName_18

set_option maxRecDepth 20000 in
def z_X_name_ok : List Cond := .code yX7_name cX7_name 2 (some .int) :: (([.methodLink RX7 62 yX7_checkName, .static yX7_checkName, .initialized RX7, .code yX7_checkName cX7_checkName 1 none, .methodLink RX7 58 yX7_putLeaf, .instanceMethod yX7_putLeaf, .selects RX7 yX7_putLeaf yX7_putLeaf, .code yX7_putLeaf cX7_putLeaf 5 (some .int), .fieldLink RX7 72 "Selfkindle" "height" "I", .fieldLink RX7 14 "Selfkindle" "pile" "LSelfkindle$Term;", .methodLink RX7 169 yX5_add, .instanceMethod yX5_add, .selects RX5 yX5_add yX5_add, .initialized RX5, .code yX5_add cX5_add 7 none, .methodLink RX5 41 yX5_partsOf, .static yX5_partsOf, .code yX5_partsOf cX5_partsOf 1 (some .int), .fieldLink RX5 34 "Selfkindle$Term" "PARTS_OF" "[I", .methodLink RX5 45 yX5_sizeOfLast, .instanceMethod yX5_sizeOfLast, .selects RX5 yX5_sizeOfLast yX5_sizeOfLast, .code yX5_sizeOfLast cX5_sizeOfLast 4 (some .int), .fieldLink RX5 37 "Selfkindle$Term" "count" "I", .fieldLink RX5 9 "Selfkindle$Term" "kinds" "[I", .fieldLink RX5 15 "Selfkindle$Term" "names" "[I", .fieldLink RX5 18 "Selfkindle$Term" "others" "[I", .fieldLink RX5 21 "Selfkindle$Term" "numbers" "[J", .fieldLink RX5 25 "Selfkindle$Term" "sizes" "[I", .fieldLink RX5 28 "Selfkindle$Term" "binders" "[I", .fieldLink RX5 31 "Selfkindle$Term" "distances" "[I"] : List Cond) ++ wsX70 ++ wsX50)
theorem in_z_X_name_ok_X7 : ∀ w ∈ wsX70, w ∈ z_X_name_ok := fun w h => List.mem_cons_of_mem _ (List.mem_append_left _ (List.mem_append_right _ (h)))
theorem in_z_X_name_ok_X5 : ∀ w ∈ wsX50, w ∈ z_X_name_ok := fun w h => List.mem_cons_of_mem _ (List.mem_append_right _ (h))
set_option maxRecDepth 20000 in
theorem g_X_name_ok_1 : GoodIn z_X_name_ok (va_wsS RX7 62 yX7_checkName z_cN_ok) := goodIn_p _ [4] rfl (by decide +kernel)
set_option maxRecDepth 20000 in
theorem g_X_name_ok_8 : GoodIn z_X_name_ok (wsV RX7 58 RX7 yX7_putLeaf z_pL1) := goodIn_p _ [8, 15, 18, 23] rfl (by decide +kernel)
set_option maxHeartbeats 4000000 in
set_option maxRecDepth 100000 in
theorem c_X_name_ok (l : Launch) (dC : Nat → ClassId) (dI : Nat → Nat → Nat) (tp te : Nat) (sz : Nat) (h0 : Nat) (rp : Nat) (rt : Nat) (rc : Nat) (r1 : Nat) (r2 : Nat) (r3 : Nat) (r4 : Nat) (a1 : Nat) (a2 : Nat) (a3 : Nat) (a4 : Nat) (a5 : Nat) (a6 : Nat) (a7 : Nat) (k1 : ClassId) (k2 : ClassId) (k3 : ClassId) (k4 : ClassId) (k5 : ClassId) (k6 : ClassId) (k7 : ClassId) (p0 : Int32) (hvn : ¬ p0 < 0) (hvb : p0 < 10) (hvc : ¬ 10 ≤ p0) : Met l yX7_name z_X_name_ok ({ frames := 3, cells := 0, slots := 0, locals := 73 }) (va_Pc [.ref h0, .int p0] (Pw dC dI [(h0, .inr (8, [.ref rp, .int 0, .ref rt, .ref rc, .int ((-1)), .ref r1, .ref r2, .ref r3, .ref r4, .null, .int 0])), (rp, .inr (6, [.ref a1, .ref a2, .ref a3, .ref a4, .ref a5, .ref a6, .ref a7, .int 0])), (a1, .inl (k1, 1200, .inl (fun _ => 0))), (a2, .inl (k2, 1200, .inl (fun _ => 0))), (a3, .inl (k3, 1200, .inl (fun _ => 0))), (a4, .inl (k4, 1200, .inr (.inl (fun _ => 0)))), (a5, .inl (k5, 1200, .inl (fun _ => 0))), (a6, .inl (k6, 1200, .inl (fun _ => 0))), (a7, .inl (k7, 1200, .inl (fun _ => 0)))] [(k1, .int), (k2, .int), (k3, .int), (k4, .long), (k5, .int), (k6, .int), (k7, .int)] sz tp te)) (va_Qi (fun (r : Int32) (_ : Unit) => r = 1) (fun (_ : Unit) (_ : State) => True) (va_A [(h0, .inr (8, [.ref rp, .int 0, .ref rt, .ref rc, .int ((-1)), .ref r1, .ref r2, .ref r3, .ref r4, .null, .int 0])), (rp, .inr (6, [.ref a1, .ref a2, .ref a3, .ref a4, .ref a5, .ref a6, .ref a7, .int 0])), (a1, .inl (k1, 1200, .inl (fun _ => 0))), (a2, .inl (k2, 1200, .inl (fun _ => 0))), (a3, .inl (k3, 1200, .inl (fun _ => 0))), (a4, .inl (k4, 1200, .inr (.inl (fun _ => 0)))), (a5, .inl (k5, 1200, .inl (fun _ => 0))), (a6, .inl (k6, 1200, .inl (fun _ => 0))), (a7, .inl (k7, 1200, .inl (fun _ => 0)))] sz)) 0 0 (va_A [(h0, .inr (8, [.ref rp, .int 0, .ref rt, .ref rc, .int ((-1)), .ref r1, .ref r2, .ref r3, .ref r4, .null, .int 0])), (rp, .inr (6, [.ref a1, .ref a2, .ref a3, .ref a4, .ref a5, .ref a6, .ref a7, .int 0])), (a1, .inl (k1, 1200, .inl (fun _ => 0))), (a2, .inl (k2, 1200, .inl (fun _ => 0))), (a3, .inl (k3, 1200, .inl (fun _ => 0))), (a4, .inl (k4, 1200, .inr (.inl (fun _ => 0)))), (a5, .inl (k5, 1200, .inl (fun _ => 0))), (a6, .inl (k6, 1200, .inl (fun _ => 0))), (a7, .inl (k7, 1200, .inl (fun _ => 0)))] sz) := by
  refine Met.ofW (cc := cX7_name) (maxL := 2) (ret := (some .int)) (by decide) rfl ?_
  intro p e s m args below meth c s₁ B hml hv
  obtain ⟨rfl, hsz, hP, hK, hD0, hG⟩ := hv
  have hx := B.exec
  have hb := B.bytes
  have hr := B.returns
  have hts := atoms_spec (ws := z_X_name_ok) B.pre
  have hown : s.vm.findClass RX7 = some m.cls := findClass_of_methodNamed B.named
  have hlocks := B.notSynchronized
  subst hsz
  have hD := hD0.self (sz := s.heap.size)
  generalize hAe : va_A [(h0, .inr (8, [.ref rp, .int 0, .ref rt, .ref rc, .int ((-1)), .ref r1, .ref r2, .ref r3, .ref r4, .null, .int 0])), (rp, .inr (6, [.ref a1, .ref a2, .ref a3, .ref a4, .ref a5, .ref a6, .ref a7, .int 0])), (a1, .inl (k1, 1200, .inl (fun _ => 0))), (a2, .inl (k2, 1200, .inl (fun _ => 0))), (a3, .inl (k3, 1200, .inl (fun _ => 0))), (a4, .inl (k4, 1200, .inr (.inl (fun _ => 0)))), (a5, .inl (k5, 1200, .inl (fun _ => 0))), (a6, .inl (k6, 1200, .inl (fun _ => 0))), (a7, .inl (k7, 1200, .inl (fun _ => 0)))] s.heap.size = A at hD hG ⊢
  have hA : ∀ q : Nat, s.heap.size ≤ q → A q := fun q h => by rw [← hAe]; exact Or.inr h
  have hS : va_S A s.heap s.heap [] := va_S.rf
  have hl := lv_entry ([.ref h0, .int p0]) (n := 2) (Nat.le_of_ble_eq_true rfl)
  rw [lg_entry_eq]
  generalize (lg_sl ([.ref h0, .int p0]) ++ List.replicate (2 - (lg_sl ([.ref h0, .int p0])).length) Slot.unset).toArray = ls at hl ⊢
  have hl : lv_has ls 2 [(0, .ref h0), (1, .int p0)] := hl
  refine lv_iload_n hx hb dX7_name_0 rfl (lv_at hl 1 rfl) ?_
  have hPc := hP.sub (ws' := []) [] rfl
  have hDc := hD.sub (ws' := []) [] (by decide) rfl
  have hKc := hK.sub (tys' := []) [] rfl
  have hFc := va_free (wc := []) hD hS hA [] rfl
  refine va_callv (va_runS (As := [.int p0]) (rest := []) ⟨hx, hb, hml, hown, hts⟩ (c_cN_ok l dC dI tp te s.heap.size p0 hvn hvb hvc) (va_cwS 1 hts g_X_name_ok_1 rfl rfl rfl (by decide +kernel) ⟨Nat.le_of_ble_eq_true rfl, Nat.le_of_ble_eq_true rfl⟩) ⟨Pw.blind, Pw.mk hPc hKc hDc hG hS hFc⟩ rfl rfl hl.1 rfl (lv_room (Nat.le_of_ble_eq_true rfl)) dX7_name_1 ⟨Nat.le_of_ble_eq_true rfl, Nat.le_of_ble_eq_true rfl⟩) hS (fun q _ h => hFc q h) hFc (fun u t9 H_1 locs ht hvm hw hB hz1 hk1 hS => ?_)
  obtain ⟨hP, hD⟩ := va_join (wr := [(h0, .inr (8, [.ref rp, .int 0, .ref rt, .ref rc, .int ((-1)), .ref r1, .ref r2, .ref r3, .ref r4, .null, .int 0])), (rp, .inr (6, [.ref a1, .ref a2, .ref a3, .ref a4, .ref a5, .ref a6, .ref a7, .int 0])), (a1, .inl (k1, 1200, .inl (fun _ => 0))), (a2, .inl (k2, 1200, .inl (fun _ => 0))), (a3, .inl (k3, 1200, .inl (fun _ => 0))), (a4, .inl (k4, 1200, .inr (.inl (fun _ => 0)))), (a5, .inl (k5, 1200, .inl (fun _ => 0))), (a6, .inl (k6, 1200, .inl (fun _ => 0))), (a7, .inl (k7, 1200, .inl (fun _ => 0)))]) (w1 := []) hP hD [] [0, 1, 2, 3, 4, 5, 6, 7, 8] rfl rfl (by decide) (by decide) hk1 hFc va_P.nil va_D.nil
  have hK := hK.sub (tys' := [(k1, .int), (k2, .int), (k3, .int), (k4, .long), (k5, .int), (k6, .int), (k7, .int)]) [0, 1, 2, 3, 4, 5, 6] rfl
  have hP : va_P (dC, dI) vwCl [(h0, .inr (8, [.ref rp, .int 0, .ref rt, .ref rc, .int ((-1)), .ref r1, .ref r2, .ref r3, .ref r4, .null, .int 0])), (rp, .inr (6, [.ref a1, .ref a2, .ref a3, .ref a4, .ref a5, .ref a6, .ref a7, .int 0])), (a1, .inl (k1, 1200, .inl (fun _ => 0))), (a2, .inl (k2, 1200, .inl (fun _ => 0))), (a3, .inl (k3, 1200, .inl (fun _ => 0))), (a4, .inl (k4, 1200, .inr (.inl (fun _ => 0)))), (a5, .inl (k5, 1200, .inl (fun _ => 0))), (a6, .inl (k6, 1200, .inl (fun _ => 0))), (a7, .inl (k7, 1200, .inl (fun _ => 0)))] H_1 := hP
  have hD : va_D A [(h0, .inr (8, [.ref rp, .int 0, .ref rt, .ref rc, .int ((-1)), .ref r1, .ref r2, .ref r3, .ref r4, .null, .int 0])), (rp, .inr (6, [.ref a1, .ref a2, .ref a3, .ref a4, .ref a5, .ref a6, .ref a7, .int 0])), (a1, .inl (k1, 1200, .inl (fun _ => 0))), (a2, .inl (k2, 1200, .inl (fun _ => 0))), (a3, .inl (k3, 1200, .inl (fun _ => 0))), (a4, .inl (k4, 1200, .inr (.inl (fun _ => 0)))), (a5, .inl (k5, 1200, .inl (fun _ => 0))), (a6, .inl (k6, 1200, .inl (fun _ => 0))), (a7, .inl (k7, 1200, .inl (fun _ => 0)))] := hD
  have hK : va_K (dC, dI) vwCl [(k1, .int), (k2, .int), (k3, .int), (k4, .long), (k5, .int), (k6, .int), (k7, .int)] s := hK
  refine W.widen (k := 0) (n := 0) (Nat.le_of_ble_eq_true rfl) (Nat.le_of_ble_eq_true rfl) ?_
  refine lv_aload_n hx hb dX7_name_4 rfl (lv_at hl 0 rfl) ?_
  refine lv_iconst (v := 1) hx hb dX7_name_5 (by decide) ?_
  refine lv_iload_n hx hb dX7_name_6 rfl (lv_at hl 1 rfl) ?_
  refine lv_lconst (v := 0) hx hb dX7_name_7 (by decide) ?_
  have hPc := hP.sub (ws' := [(h0, .inr (8, [.ref rp, .int 0, .ref rt, .ref rc, .int ((-1)), .ref r1, .ref r2, .ref r3, .ref r4, .null, .int 0])), (rp, .inr (6, [.ref a1, .ref a2, .ref a3, .ref a4, .ref a5, .ref a6, .ref a7, .int 0])), (a1, .inl (k1, 1200, .inl (fun _ => 0))), (a2, .inl (k2, 1200, .inl (fun _ => 0))), (a3, .inl (k3, 1200, .inl (fun _ => 0))), (a4, .inl (k4, 1200, .inr (.inl (fun _ => 0)))), (a5, .inl (k5, 1200, .inl (fun _ => 0))), (a6, .inl (k6, 1200, .inl (fun _ => 0))), (a7, .inl (k7, 1200, .inl (fun _ => 0)))]) [0, 1, 2, 3, 4, 5, 6, 7, 8] rfl
  have hDc := hD.sub (ws' := [(h0, .inr (8, [.ref rp, .int 0, .ref rt, .ref rc, .int ((-1)), .ref r1, .ref r2, .ref r3, .ref r4, .null, .int 0])), (rp, .inr (6, [.ref a1, .ref a2, .ref a3, .ref a4, .ref a5, .ref a6, .ref a7, .int 0])), (a1, .inl (k1, 1200, .inl (fun _ => 0))), (a2, .inl (k2, 1200, .inl (fun _ => 0))), (a3, .inl (k3, 1200, .inl (fun _ => 0))), (a4, .inl (k4, 1200, .inr (.inl (fun _ => 0)))), (a5, .inl (k5, 1200, .inl (fun _ => 0))), (a6, .inl (k6, 1200, .inl (fun _ => 0))), (a7, .inl (k7, 1200, .inl (fun _ => 0)))]) [0, 1, 2, 3, 4, 5, 6, 7, 8] (by decide) rfl
  have hKc := hK.sub (tys' := [(k1, .int), (k2, .int), (k3, .int), (k4, .long), (k5, .int), (k6, .int), (k7, .int)]) [0, 1, 2, 3, 4, 5, 6] rfl
  have hFc := va_free (wc := [(h0, .inr (8, [.ref rp, .int 0, .ref rt, .ref rc, .int ((-1)), .ref r1, .ref r2, .ref r3, .ref r4, .null, .int 0])), (rp, .inr (6, [.ref a1, .ref a2, .ref a3, .ref a4, .ref a5, .ref a6, .ref a7, .int 0])), (a1, .inl (k1, 1200, .inl (fun _ => 0))), (a2, .inl (k2, 1200, .inl (fun _ => 0))), (a3, .inl (k3, 1200, .inl (fun _ => 0))), (a4, .inl (k4, 1200, .inr (.inl (fun _ => 0)))), (a5, .inl (k5, 1200, .inl (fun _ => 0))), (a6, .inl (k6, 1200, .inl (fun _ => 0))), (a7, .inl (k7, 1200, .inl (fun _ => 0)))]) hD hS hA [0, 1, 2, 3, 4, 5, 6, 7, 8] rfl
  refine va_calli (va_runV (As := [.int 1, .int p0, .long 0]) (rest := []) ⟨hx, hb, hml, hown, hts⟩ (c_pL1 l dC dI tp te H_1.size h0 rp rt rc r1 r2 r3 r4 a1 a2 a3 a4 a5 a6 a7 k1 k2 k3 k4 k5 k6 k7 p0 0) (cwV 3 hts g_X_name_ok_8 rfl rfl rfl (by decide +kernel) ⟨Nat.le_of_ble_eq_true rfl, Nat.le_of_ble_eq_true rfl⟩) ⟨Pw.blind, va_recv hKc hPc (ci := 8) (q0 := 0) rfl rfl, Pw.mk hPc hKc hDc hG hS hFc⟩ rfl rfl hl.1 rfl (lv_room (Nat.le_of_ble_eq_true rfl)) dX7_name_8 ⟨Nat.le_of_ble_eq_true rfl, Nat.le_of_ble_eq_true rfl⟩) hS (fun q _ h => hFc q h) hFc (fun r u t9 H_2 locs ht hvm hw hB hz1 hk1 hS => ?_)
  have hw : r = 1 := hw
  subst hw
  obtain ⟨hP, hD⟩ := va_join (wr := []) (w1 := []) hP hD [0, 1, 2, 3, 4, 5, 6, 7, 8] [] rfl rfl (by decide) (by decide) hk1 hFc va_P.nil va_D.nil
  have hK := hK.sub (tys' := []) [] rfl
  have hP : va_P (dC, dI) vwCl [] H_2 := hP
  have hD : va_D A [] := hD
  have hK : va_K (dC, dI) vwCl [] s := hK
  refine W.widen (k := 0) (n := 0) (Nat.le_of_ble_eq_true rfl) (Nat.le_of_ble_eq_true rfl) ?_
  refine W.widen (k := 0) (n := 0) (Nat.le_of_ble_eq_true rfl) (Nat.le_of_ble_eq_true rfl) ?_
  exact W.iret (v := 1) hx hb hr (fun t ht hW => ⟨⟨1, (), rfl, rfl, trivial⟩, hS.F ht⟩) hS.2.2 dX7_name_11

set_option maxRecDepth 20000 in
def z_X_name_neg : List Cond := .code yX7_name cX7_name 2 (some .int) :: (([.methodLink RX7 62 yX7_checkName, .static yX7_checkName, .initialized RX7, .code yX7_checkName cX7_checkName 1 none, .classLink RX7 107 "java/lang/IndexOutOfBoundsException", .initialized "java/lang/IndexOutOfBoundsException"] : List Cond) ++ (vx_at0 RX7 109 "java/lang/IndexOutOfBoundsException" ["java/lang/RuntimeException", "java/lang/Exception"]).filter goodWord)
set_option maxRecDepth 20000 in
theorem gg_X_name_neg_1 : GoodIn z_X_name_neg z_cN_neg := goodIn_ca (goodIn_p _ [4] rfl (by decide +kernel)) (goodIn_sub (fun _ h => List.mem_cons_of_mem _ (List.mem_append_right _ (h))) (by decide +kernel))
set_option maxRecDepth 20000 in
theorem g_X_name_neg_1 : GoodIn z_X_name_neg (va_wsS RX7 62 yX7_checkName z_cN_neg) := goodIn_app (goodIn_of _ (by decide +kernel)) gg_X_name_neg_1
set_option maxHeartbeats 4000000 in
set_option maxRecDepth 100000 in
theorem c_X_name_neg (l : Launch) (dC : Nat → ClassId) (dI : Nat → Nat → Nat) (tp te : Nat) (sz : Nat) (hlt : l.stackTraces = false) (h0 : Nat) (rp : Nat) (rt : Nat) (rc : Nat) (r1 : Nat) (r2 : Nat) (r3 : Nat) (r4 : Nat) (p0 : Int32) (hvn : p0 < 0) : vx_Met l yX7_name z_X_name_neg ({ frames := 7, cells := 1, slots := 6, locals := 101 }) (va_Pc [.ref h0, .int p0] (Pw dC dI [(h0, .inr (8, [.ref rp, .int 0, .ref rt, .ref rc, .int ((-1)), .ref r1, .ref r2, .ref r3, .ref r4, .null, .int 0]))] [] sz tp te)) (va_Qi (fun (r : Int32) (_ : Unit) => False) (fun (_ : Unit) (_ : State) => True) (va_A [(h0, .inr (8, [.ref rp, .int 0, .ref rt, .ref rc, .int ((-1)), .ref r1, .ref r2, .ref r3, .ref r4, .null, .int 0]))] sz)) (vx_X (fun (_ : Unit) => True) (fun (E : String) (_ : Unit) (_ : State) => E = "java/lang/IndexOutOfBoundsException") (va_A [(h0, .inr (8, [.ref rp, .int 0, .ref rt, .ref rc, .int ((-1)), .ref r1, .ref r2, .ref r3, .ref r4, .null, .int 0]))] sz)) 1 6 (va_A [(h0, .inr (8, [.ref rp, .int 0, .ref rt, .ref rc, .int ((-1)), .ref r1, .ref r2, .ref r3, .ref r4, .null, .int 0]))] sz) := by
  refine vx_ofW (cc := cX7_name) (maxL := 2) (ret := (some .int)) (by decide) rfl ?_
  intro p e s m args below meth c s₁ B hml htab hv
  obtain ⟨rfl, hsz, hP, hK, hD0, hG⟩ := hv
  have hx := B.exec
  have hb := B.bytes
  have hr := B.returns
  have hts := atoms_spec (ws := z_X_name_neg) B.pre
  have hown : s.vm.findClass RX7 = some m.cls := findClass_of_methodNamed B.named
  have hlocks := B.notSynchronized
  subst hsz
  have hD := hD0.self (sz := s.heap.size)
  generalize hAe : va_A [(h0, .inr (8, [.ref rp, .int 0, .ref rt, .ref rc, .int ((-1)), .ref r1, .ref r2, .ref r3, .ref r4, .null, .int 0]))] s.heap.size = A at hD hG ⊢
  have hA : ∀ q : Nat, s.heap.size ≤ q → A q := fun q h => by rw [← hAe]; exact Or.inr h
  have hS : va_S A s.heap s.heap [] := va_S.rf
  have hl := lv_entry ([.ref h0, .int p0]) (n := 2) (Nat.le_of_ble_eq_true rfl)
  rw [lg_entry_eq]
  generalize (lg_sl ([.ref h0, .int p0]) ++ List.replicate (2 - (lg_sl ([.ref h0, .int p0])).length) Slot.unset).toArray = ls at hl ⊢
  have hl : lv_has ls 2 [(0, .ref h0), (1, .int p0)] := hl
  refine lv_iload_n hx hb dX7_name_0 rfl (lv_at hl 1 rfl) ?_
  have hPc := hP.sub (ws' := []) [] rfl
  have hDc := hD.sub (ws' := []) [] (by decide) rfl
  have hKc := hK.sub (tys' := []) [] rfl
  have hFc := va_free (wc := []) hD hS hA [] rfl
  refine vx_callv (vx_runS (As := [.int p0]) (rest := []) ⟨hx, hb, hml, hown, hts⟩ (c_cN_neg l dC dI tp te s.heap.size hlt p0 hvn) (va_cwS 1 hts g_X_name_neg_1 rfl rfl rfl (by decide +kernel) ⟨Nat.le_of_ble_eq_true rfl, Nat.le_of_ble_eq_true rfl⟩) ⟨Pw.blind, Pw.mk hPc hKc hDc hG hS hFc⟩ rfl rfl hl.1 rfl (lv_room (Nat.le_of_ble_eq_true rfl)) dX7_name_1 ⟨Nat.le_of_ble_eq_true rfl, Nat.le_of_ble_eq_true rfl⟩) hS (fun q _ h => hFc q h) hFc (fun q _ h => hFc q h) (fun E ce q9 u t9 H1 locs ht hvm hpx hBX hz1 hk1 hS hce hcv hcl => ?_) (fun u t9 H_1 locs ht hvm hw hB hz1 hk1 hS => hw.elim)
  have hBX : E = "java/lang/IndexOutOfBoundsException" := hBX
  subst hBX
  exact vx_out (fun x9 h9 => (htab x9 h9).elim) hlocks hce hcv hcl (fun t9 ht9 _ => ⟨(), trivial, rfl, hS.F ht9⟩) hS.2.2 (Nat.le_of_ble_eq_true rfl) (Nat.le_of_ble_eq_true rfl)

set_option maxRecDepth 20000 in
def z_X_name_big : List Cond := .code yX7_name cX7_name 2 (some .int) :: (([.methodLink RX7 62 yX7_checkName, .static yX7_checkName, .initialized RX7, .code yX7_checkName cX7_checkName 1 none, .classLink RX7 107 "java/lang/IndexOutOfBoundsException", .initialized "java/lang/IndexOutOfBoundsException"] : List Cond) ++ (vx_at0 RX7 109 "java/lang/IndexOutOfBoundsException" ["java/lang/RuntimeException", "java/lang/Exception"]).filter goodWord)
set_option maxRecDepth 20000 in
theorem gg_X_name_big_1 : GoodIn z_X_name_big z_cN_big := goodIn_ca (goodIn_p _ [4] rfl (by decide +kernel)) (goodIn_sub (fun _ h => List.mem_cons_of_mem _ (List.mem_append_right _ (h))) (by decide +kernel))
set_option maxRecDepth 20000 in
theorem g_X_name_big_1 : GoodIn z_X_name_big (va_wsS RX7 62 yX7_checkName z_cN_big) := goodIn_app (goodIn_of _ (by decide +kernel)) gg_X_name_big_1
set_option maxHeartbeats 4000000 in
set_option maxRecDepth 100000 in
theorem c_X_name_big (l : Launch) (dC : Nat → ClassId) (dI : Nat → Nat → Nat) (tp te : Nat) (sz : Nat) (hlt : l.stackTraces = false) (h0 : Nat) (rp : Nat) (rt : Nat) (rc : Nat) (r1 : Nat) (r2 : Nat) (r3 : Nat) (r4 : Nat) (p0 : Int32) (hvn : ¬ p0 < 0) (hvb : ¬ p0 < 10) (hvc : 10 ≤ p0) : vx_Met l yX7_name z_X_name_big ({ frames := 7, cells := 1, slots := 6, locals := 101 }) (va_Pc [.ref h0, .int p0] (Pw dC dI [(h0, .inr (8, [.ref rp, .int 0, .ref rt, .ref rc, .int ((-1)), .ref r1, .ref r2, .ref r3, .ref r4, .null, .int 0]))] [] sz tp te)) (va_Qi (fun (r : Int32) (_ : Unit) => False) (fun (_ : Unit) (_ : State) => True) (va_A [(h0, .inr (8, [.ref rp, .int 0, .ref rt, .ref rc, .int ((-1)), .ref r1, .ref r2, .ref r3, .ref r4, .null, .int 0]))] sz)) (vx_X (fun (_ : Unit) => True) (fun (E : String) (_ : Unit) (_ : State) => E = "java/lang/IndexOutOfBoundsException") (va_A [(h0, .inr (8, [.ref rp, .int 0, .ref rt, .ref rc, .int ((-1)), .ref r1, .ref r2, .ref r3, .ref r4, .null, .int 0]))] sz)) 1 6 (va_A [(h0, .inr (8, [.ref rp, .int 0, .ref rt, .ref rc, .int ((-1)), .ref r1, .ref r2, .ref r3, .ref r4, .null, .int 0]))] sz) := by
  refine vx_ofW (cc := cX7_name) (maxL := 2) (ret := (some .int)) (by decide) rfl ?_
  intro p e s m args below meth c s₁ B hml htab hv
  obtain ⟨rfl, hsz, hP, hK, hD0, hG⟩ := hv
  have hx := B.exec
  have hb := B.bytes
  have hr := B.returns
  have hts := atoms_spec (ws := z_X_name_big) B.pre
  have hown : s.vm.findClass RX7 = some m.cls := findClass_of_methodNamed B.named
  have hlocks := B.notSynchronized
  subst hsz
  have hD := hD0.self (sz := s.heap.size)
  generalize hAe : va_A [(h0, .inr (8, [.ref rp, .int 0, .ref rt, .ref rc, .int ((-1)), .ref r1, .ref r2, .ref r3, .ref r4, .null, .int 0]))] s.heap.size = A at hD hG ⊢
  have hA : ∀ q : Nat, s.heap.size ≤ q → A q := fun q h => by rw [← hAe]; exact Or.inr h
  have hS : va_S A s.heap s.heap [] := va_S.rf
  have hl := lv_entry ([.ref h0, .int p0]) (n := 2) (Nat.le_of_ble_eq_true rfl)
  rw [lg_entry_eq]
  generalize (lg_sl ([.ref h0, .int p0]) ++ List.replicate (2 - (lg_sl ([.ref h0, .int p0])).length) Slot.unset).toArray = ls at hl ⊢
  have hl : lv_has ls 2 [(0, .ref h0), (1, .int p0)] := hl
  refine lv_iload_n hx hb dX7_name_0 rfl (lv_at hl 1 rfl) ?_
  have hPc := hP.sub (ws' := []) [] rfl
  have hDc := hD.sub (ws' := []) [] (by decide) rfl
  have hKc := hK.sub (tys' := []) [] rfl
  have hFc := va_free (wc := []) hD hS hA [] rfl
  refine vx_callv (vx_runS (As := [.int p0]) (rest := []) ⟨hx, hb, hml, hown, hts⟩ (c_cN_big l dC dI tp te s.heap.size hlt p0 hvn hvb hvc) (va_cwS 1 hts g_X_name_big_1 rfl rfl rfl (by decide +kernel) ⟨Nat.le_of_ble_eq_true rfl, Nat.le_of_ble_eq_true rfl⟩) ⟨Pw.blind, Pw.mk hPc hKc hDc hG hS hFc⟩ rfl rfl hl.1 rfl (lv_room (Nat.le_of_ble_eq_true rfl)) dX7_name_1 ⟨Nat.le_of_ble_eq_true rfl, Nat.le_of_ble_eq_true rfl⟩) hS (fun q _ h => hFc q h) hFc (fun q _ h => hFc q h) (fun E ce q9 u t9 H1 locs ht hvm hpx hBX hz1 hk1 hS hce hcv hcl => ?_) (fun u t9 H_1 locs ht hvm hw hB hz1 hk1 hS => hw.elim)
  have hBX : E = "java/lang/IndexOutOfBoundsException" := hBX
  subst hBX
  exact vx_out (fun x9 h9 => (htab x9 h9).elim) hlocks hce hcv hcl (fun t9 ht9 _ => ⟨(), trivial, rfl, hS.F ht9⟩) hS.2.2 (Nat.le_of_ble_eq_true rfl) (Nat.le_of_ble_eq_true rfl)

set_option maxRecDepth 20000 in
def z_jn2 : List Cond := .code yX7_join cX7_join 5 (some .int) :: (([.methodLink RX7 173 yX5_partsOf, .static yX5_partsOf, .initialized RX5, .code yX5_partsOf cX5_partsOf 1 (some .int), .fieldLink RX5 34 "Selfkindle$Term" "PARTS_OF" "[I", .fieldLink RX7 72 "Selfkindle" "height" "I", .classLink RX7 75 "java/lang/IllegalStateException", .initialized "java/lang/IllegalStateException"] : List Cond) ++ wsX70 ++ (vx_at0 RX7 77 "java/lang/IllegalStateException" ["java/lang/RuntimeException", "java/lang/Exception"]).filter goodWord)
theorem in_z_jn2_X7 : ∀ w ∈ wsX70, w ∈ z_jn2 := fun w h => List.mem_cons_of_mem _ (List.mem_append_left _ (List.mem_append_right _ (h)))
set_option maxRecDepth 20000 in
theorem g_jn2_1 : GoodIn z_jn2 (va_wsS RX7 173 yX5_partsOf z_pO2) := goodIn_p _ [4] rfl (by decide +kernel)
set_option maxHeartbeats 4000000 in
set_option maxRecDepth 100000 in
theorem c_jn2 (l : Launch) (dC : Nat → ClassId) (dI : Nat → Nat → Nat) (tp te : Nat) (sz : Nat) (hlt : l.stackTraces = false) (h0 : Nat) (rp : Nat) (rt : Nat) (rc : Nat) (r1 : Nat) (r2 : Nat) (r3 : Nat) (r4 : Nat) (p1 : Int32) (p2 : Int32)  : vx_Met l yX7_join z_jn2 ({ frames := 6, cells := 1, slots := 6, locals := 81 }) (va_Pc [.ref h0, .int 2, .int p1, .int p2] (Pw dC dI [(h0, .inr (8, [.ref rp, .int 0, .ref rt, .ref rc, .int ((-1)), .ref r1, .ref r2, .ref r3, .ref r4, .null, .int 0]))] [] sz tp te)) (va_Qi (fun (r : Int32) (_ : Unit) => False) (fun (_ : Unit) (_ : State) => True) (va_A [(h0, .inr (8, [.ref rp, .int 0, .ref rt, .ref rc, .int ((-1)), .ref r1, .ref r2, .ref r3, .ref r4, .null, .int 0]))] sz)) (vx_X (fun (_ : Unit) => True) (fun (E : String) (_ : Unit) (_ : State) => E = "java/lang/IllegalStateException") (va_A [(h0, .inr (8, [.ref rp, .int 0, .ref rt, .ref rc, .int ((-1)), .ref r1, .ref r2, .ref r3, .ref r4, .null, .int 0]))] sz)) 1 6 (va_A [(h0, .inr (8, [.ref rp, .int 0, .ref rt, .ref rc, .int ((-1)), .ref r1, .ref r2, .ref r3, .ref r4, .null, .int 0]))] sz) := by
  refine vx_ofW (cc := cX7_join) (maxL := 5) (ret := (some .int)) (by decide) rfl ?_
  intro p e s m args below meth c s₁ B hml htab hv
  obtain ⟨rfl, hsz, hP, hK, hD0, hG⟩ := hv
  have hx := B.exec
  have hb := B.bytes
  have hr := B.returns
  have hts := atoms_spec (ws := z_jn2) B.pre
  have hown : s.vm.findClass RX7 = some m.cls := findClass_of_methodNamed B.named
  have hlocks := B.notSynchronized
  subst hsz
  have hD := hD0.self (sz := s.heap.size)
  generalize hAe : va_A [(h0, .inr (8, [.ref rp, .int 0, .ref rt, .ref rc, .int ((-1)), .ref r1, .ref r2, .ref r3, .ref r4, .null, .int 0]))] s.heap.size = A at hD hG ⊢
  have hA : ∀ q : Nat, s.heap.size ≤ q → A q := fun q h => by rw [← hAe]; exact Or.inr h
  have hS : va_S A s.heap s.heap [] := va_S.rf
  have hl := lv_entry ([.ref h0, .int 2, .int p1, .int p2]) (n := 5) (Nat.le_of_ble_eq_true rfl)
  rw [lg_entry_eq]
  generalize (lg_sl ([.ref h0, .int 2, .int p1, .int p2]) ++ List.replicate (5 - (lg_sl ([.ref h0, .int 2, .int p1, .int p2])).length) Slot.unset).toArray = ls at hl ⊢
  have hl : lv_has ls 5 [(0, .ref h0), (1, .int 2), (2, .int p1), (3, .int p2)] := hl
  refine lv_iload_n hx hb dX7_join_0 rfl (lv_at hl 1 rfl) ?_
  have hPc := hP.sub (ws' := []) [] rfl
  have hDc := hD.sub (ws' := []) [] (by decide) rfl
  have hKc := hK.sub (tys' := []) [] rfl
  have hFc := va_free (wc := []) hD hS hA [] rfl
  refine va_calli (va_runS (As := [.int 2]) (rest := []) ⟨hx, hb, hml, hown, hts⟩ (c_pO2 l dC dI tp te s.heap.size) (va_cwS 1 hts g_jn2_1 rfl rfl rfl (by decide +kernel) ⟨Nat.le_of_ble_eq_true rfl, Nat.le_of_ble_eq_true rfl⟩) ⟨Pw.blind, Pw.mk hPc hKc hDc hG hS hFc⟩ rfl rfl hl.1 rfl (lv_room (Nat.le_of_ble_eq_true rfl)) dX7_join_1 ⟨Nat.le_of_ble_eq_true rfl, Nat.le_of_ble_eq_true rfl⟩) hS (fun q _ h => hFc q h) hFc (fun r u t9 H_1 locs ht hvm hw hB hz1 hk1 hS => ?_)
  have hw : r = 1 := hw
  subst hw
  obtain ⟨hP, hD⟩ := va_join (wr := [(h0, .inr (8, [.ref rp, .int 0, .ref rt, .ref rc, .int ((-1)), .ref r1, .ref r2, .ref r3, .ref r4, .null, .int 0]))]) (w1 := []) hP hD [] [0] rfl rfl (by decide) (by decide) hk1 hFc va_P.nil va_D.nil
  have hK := hK.sub (tys' := []) [] rfl
  have hP : va_P (dC, dI) vwCl [(h0, .inr (8, [.ref rp, .int 0, .ref rt, .ref rc, .int ((-1)), .ref r1, .ref r2, .ref r3, .ref r4, .null, .int 0]))] H_1 := hP
  have hD : va_D A [(h0, .inr (8, [.ref rp, .int 0, .ref rt, .ref rc, .int ((-1)), .ref r1, .ref r2, .ref r3, .ref r4, .null, .int 0]))] := hD
  have hK : va_K (dC, dI) vwCl [] s := hK
  refine W.widen (k := 0) (n := 0) (Nat.le_of_ble_eq_true rfl) (Nat.le_of_ble_eq_true rfl) ?_
  refine lv_istore (lv' := [(4, .int 1), (0, .ref h0), (1, .int 2), (2, .int p1), (3, .int p2)]) hx hb dX7_join_4 hl (by decide) rfl (fun ls hl => ?_)
  refine lv_aload_n hx hb dX7_join_6 rfl (lv_at hl 1 rfl) ?_
  refine va_get (D := (dC, dI)) (ci := 8) (v := .int 0) (C := RX7) (T := TX7) (N := 11) hx hb hts in_z_jn2_X7 hown hK hP 0 rfl rfl 1 (by decide) (hts (.fieldLink RX7 72 "Selfkindle" "height" "I") (List.mem_of_getElem? (i := 6) rfl)) (fun _ h9 => h9) rfl dX7_join_7 ?_
  refine lv_iload hx hb dX7_join_10 (lv_at hl 0 rfl) ?_
  refine lv_icmp_lt (tgt := 29) hx hb dX7_join_12 (by decide) (fun c9 => ?_) (fun c9 => absurd (by decide) c9)
  exact vx_throw0 (A := A) (own := RX7) (cls := "java/lang/IllegalStateException") (names := ["java/lang/RuntimeException", "java/lang/Exception"]) (ik := 75) (ic := 77) hx hb hlt hown (by decide +kernel) (by decide +kernel) (hts (.classLink RX7 75 "java/lang/IllegalStateException") (List.mem_of_getElem? (i := 7) rfl)) (hts (.initialized "java/lang/IllegalStateException") (List.mem_of_getElem? (i := 8) rfl)) (vx_hat (B := [.castable "java/lang/IllegalStateException" "java/lang/IllegalStateException", .declares (Bundle.init0 "java/lang/RuntimeException"), .declares (Bundle.init0 "java/lang/Exception"), .declares (Bundle.init0 "java/lang/Throwable")]) (fun w9 h9 => hts w9 (List.mem_cons_of_mem _ (List.mem_append_right _ (h9)))) (by decide +kernel) (vx_c (va_Nw.use rfl hG.2.2.2.2.2.2.1) (vx_c (va_Nw.use rfl hG.2.2.2.2.2.2.2.2.2.2.2.2.2.2.1) (vx_c (va_Nw.use rfl hG.2.2.2.2.2.2.2.2.2.2.2.2.2.2.2.1) (vx_c (va_Nw.use rfl hG.2.2.2.2.2.2.2.2.2.2.2.2.2.2.2.2) vx_n))))) (by decide +kernel) hG.2.2.2.2.1 hG.2.2.2.2.2.1 hS (by rw [hml]; exact hl.1) dX7_join_29 dX7_join_32 dX7_join_33 dX7_join_36 (fun x9 h9 => (htab x9 h9).elim) (Nat.le_of_ble_eq_true rfl) (Nat.le_of_ble_eq_true rfl) (Nat.le_of_ble_eq_true rfl) (Nat.le_of_ble_eq_true rfl) hlocks (fun t9 _ hz9 hk9 => ⟨(), trivial, rfl, ⟨Nat.le_trans hS.1 hz9, fun q h1 h2 => (hk9 q (Nat.lt_of_lt_of_le h1 hS.1)).trans (hS.2.1 q h1 h2)⟩⟩) hS.2.2 (Nat.le_of_ble_eq_true rfl) (Nat.le_of_ble_eq_true rfl)

set_option maxRecDepth 20000 in
def z_jn3 : List Cond := .code yX7_join cX7_join 5 (some .int) :: (([.methodLink RX7 173 yX5_partsOf, .static yX5_partsOf, .initialized RX5, .code yX5_partsOf cX5_partsOf 1 (some .int), .fieldLink RX5 34 "Selfkindle$Term" "PARTS_OF" "[I", .fieldLink RX7 72 "Selfkindle" "height" "I", .classLink RX7 75 "java/lang/IllegalStateException", .initialized "java/lang/IllegalStateException"] : List Cond) ++ wsX70 ++ (vx_at0 RX7 77 "java/lang/IllegalStateException" ["java/lang/RuntimeException", "java/lang/Exception"]).filter goodWord)
theorem in_z_jn3_X7 : ∀ w ∈ wsX70, w ∈ z_jn3 := fun w h => List.mem_cons_of_mem _ (List.mem_append_left _ (List.mem_append_right _ (h)))
set_option maxRecDepth 20000 in
theorem g_jn3_1 : GoodIn z_jn3 (va_wsS RX7 173 yX5_partsOf z_pO3) := goodIn_p _ [4] rfl (by decide +kernel)
set_option maxHeartbeats 4000000 in
set_option maxRecDepth 100000 in
theorem c_jn3 (l : Launch) (dC : Nat → ClassId) (dI : Nat → Nat → Nat) (tp te : Nat) (sz : Nat) (hlt : l.stackTraces = false) (h0 : Nat) (rp : Nat) (rt : Nat) (rc : Nat) (r1 : Nat) (r2 : Nat) (r3 : Nat) (r4 : Nat) (p1 : Int32) (p2 : Int32)  : vx_Met l yX7_join z_jn3 ({ frames := 6, cells := 1, slots := 6, locals := 81 }) (va_Pc [.ref h0, .int 3, .int p1, .int p2] (Pw dC dI [(h0, .inr (8, [.ref rp, .int 0, .ref rt, .ref rc, .int ((-1)), .ref r1, .ref r2, .ref r3, .ref r4, .null, .int 0]))] [] sz tp te)) (va_Qi (fun (r : Int32) (_ : Unit) => False) (fun (_ : Unit) (_ : State) => True) (va_A [(h0, .inr (8, [.ref rp, .int 0, .ref rt, .ref rc, .int ((-1)), .ref r1, .ref r2, .ref r3, .ref r4, .null, .int 0]))] sz)) (vx_X (fun (_ : Unit) => True) (fun (E : String) (_ : Unit) (_ : State) => E = "java/lang/IllegalStateException") (va_A [(h0, .inr (8, [.ref rp, .int 0, .ref rt, .ref rc, .int ((-1)), .ref r1, .ref r2, .ref r3, .ref r4, .null, .int 0]))] sz)) 1 6 (va_A [(h0, .inr (8, [.ref rp, .int 0, .ref rt, .ref rc, .int ((-1)), .ref r1, .ref r2, .ref r3, .ref r4, .null, .int 0]))] sz) := by
  refine vx_ofW (cc := cX7_join) (maxL := 5) (ret := (some .int)) (by decide) rfl ?_
  intro p e s m args below meth c s₁ B hml htab hv
  obtain ⟨rfl, hsz, hP, hK, hD0, hG⟩ := hv
  have hx := B.exec
  have hb := B.bytes
  have hr := B.returns
  have hts := atoms_spec (ws := z_jn3) B.pre
  have hown : s.vm.findClass RX7 = some m.cls := findClass_of_methodNamed B.named
  have hlocks := B.notSynchronized
  subst hsz
  have hD := hD0.self (sz := s.heap.size)
  generalize hAe : va_A [(h0, .inr (8, [.ref rp, .int 0, .ref rt, .ref rc, .int ((-1)), .ref r1, .ref r2, .ref r3, .ref r4, .null, .int 0]))] s.heap.size = A at hD hG ⊢
  have hA : ∀ q : Nat, s.heap.size ≤ q → A q := fun q h => by rw [← hAe]; exact Or.inr h
  have hS : va_S A s.heap s.heap [] := va_S.rf
  have hl := lv_entry ([.ref h0, .int 3, .int p1, .int p2]) (n := 5) (Nat.le_of_ble_eq_true rfl)
  rw [lg_entry_eq]
  generalize (lg_sl ([.ref h0, .int 3, .int p1, .int p2]) ++ List.replicate (5 - (lg_sl ([.ref h0, .int 3, .int p1, .int p2])).length) Slot.unset).toArray = ls at hl ⊢
  have hl : lv_has ls 5 [(0, .ref h0), (1, .int 3), (2, .int p1), (3, .int p2)] := hl
  refine lv_iload_n hx hb dX7_join_0 rfl (lv_at hl 1 rfl) ?_
  have hPc := hP.sub (ws' := []) [] rfl
  have hDc := hD.sub (ws' := []) [] (by decide) rfl
  have hKc := hK.sub (tys' := []) [] rfl
  have hFc := va_free (wc := []) hD hS hA [] rfl
  refine va_calli (va_runS (As := [.int 3]) (rest := []) ⟨hx, hb, hml, hown, hts⟩ (c_pO3 l dC dI tp te s.heap.size) (va_cwS 1 hts g_jn3_1 rfl rfl rfl (by decide +kernel) ⟨Nat.le_of_ble_eq_true rfl, Nat.le_of_ble_eq_true rfl⟩) ⟨Pw.blind, Pw.mk hPc hKc hDc hG hS hFc⟩ rfl rfl hl.1 rfl (lv_room (Nat.le_of_ble_eq_true rfl)) dX7_join_1 ⟨Nat.le_of_ble_eq_true rfl, Nat.le_of_ble_eq_true rfl⟩) hS (fun q _ h => hFc q h) hFc (fun r u t9 H_1 locs ht hvm hw hB hz1 hk1 hS => ?_)
  have hw : r = 2 := hw
  subst hw
  obtain ⟨hP, hD⟩ := va_join (wr := [(h0, .inr (8, [.ref rp, .int 0, .ref rt, .ref rc, .int ((-1)), .ref r1, .ref r2, .ref r3, .ref r4, .null, .int 0]))]) (w1 := []) hP hD [] [0] rfl rfl (by decide) (by decide) hk1 hFc va_P.nil va_D.nil
  have hK := hK.sub (tys' := []) [] rfl
  have hP : va_P (dC, dI) vwCl [(h0, .inr (8, [.ref rp, .int 0, .ref rt, .ref rc, .int ((-1)), .ref r1, .ref r2, .ref r3, .ref r4, .null, .int 0]))] H_1 := hP
  have hD : va_D A [(h0, .inr (8, [.ref rp, .int 0, .ref rt, .ref rc, .int ((-1)), .ref r1, .ref r2, .ref r3, .ref r4, .null, .int 0]))] := hD
  have hK : va_K (dC, dI) vwCl [] s := hK
  refine W.widen (k := 0) (n := 0) (Nat.le_of_ble_eq_true rfl) (Nat.le_of_ble_eq_true rfl) ?_
  refine lv_istore (lv' := [(4, .int 2), (0, .ref h0), (1, .int 3), (2, .int p1), (3, .int p2)]) hx hb dX7_join_4 hl (by decide) rfl (fun ls hl => ?_)
  refine lv_aload_n hx hb dX7_join_6 rfl (lv_at hl 1 rfl) ?_
  refine va_get (D := (dC, dI)) (ci := 8) (v := .int 0) (C := RX7) (T := TX7) (N := 11) hx hb hts in_z_jn3_X7 hown hK hP 0 rfl rfl 1 (by decide) (hts (.fieldLink RX7 72 "Selfkindle" "height" "I") (List.mem_of_getElem? (i := 6) rfl)) (fun _ h9 => h9) rfl dX7_join_7 ?_
  refine lv_iload hx hb dX7_join_10 (lv_at hl 0 rfl) ?_
  refine lv_icmp_lt (tgt := 29) hx hb dX7_join_12 (by decide) (fun c9 => ?_) (fun c9 => absurd (by decide) c9)
  exact vx_throw0 (A := A) (own := RX7) (cls := "java/lang/IllegalStateException") (names := ["java/lang/RuntimeException", "java/lang/Exception"]) (ik := 75) (ic := 77) hx hb hlt hown (by decide +kernel) (by decide +kernel) (hts (.classLink RX7 75 "java/lang/IllegalStateException") (List.mem_of_getElem? (i := 7) rfl)) (hts (.initialized "java/lang/IllegalStateException") (List.mem_of_getElem? (i := 8) rfl)) (vx_hat (B := [.castable "java/lang/IllegalStateException" "java/lang/IllegalStateException", .declares (Bundle.init0 "java/lang/RuntimeException"), .declares (Bundle.init0 "java/lang/Exception"), .declares (Bundle.init0 "java/lang/Throwable")]) (fun w9 h9 => hts w9 (List.mem_cons_of_mem _ (List.mem_append_right _ (h9)))) (by decide +kernel) (vx_c (va_Nw.use rfl hG.2.2.2.2.2.2.1) (vx_c (va_Nw.use rfl hG.2.2.2.2.2.2.2.2.2.2.2.2.2.2.1) (vx_c (va_Nw.use rfl hG.2.2.2.2.2.2.2.2.2.2.2.2.2.2.2.1) (vx_c (va_Nw.use rfl hG.2.2.2.2.2.2.2.2.2.2.2.2.2.2.2.2) vx_n))))) (by decide +kernel) hG.2.2.2.2.1 hG.2.2.2.2.2.1 hS (by rw [hml]; exact hl.1) dX7_join_29 dX7_join_32 dX7_join_33 dX7_join_36 (fun x9 h9 => (htab x9 h9).elim) (Nat.le_of_ble_eq_true rfl) (Nat.le_of_ble_eq_true rfl) (Nat.le_of_ble_eq_true rfl) (Nat.le_of_ble_eq_true rfl) hlocks (fun t9 _ hz9 hk9 => ⟨(), trivial, rfl, ⟨Nat.le_trans hS.1 hz9, fun q h1 h2 => (hk9 q (Nat.lt_of_lt_of_le h1 hS.1)).trans (hS.2.1 q h1 h2)⟩⟩) hS.2.2 (Nat.le_of_ble_eq_true rfl) (Nat.le_of_ble_eq_true rfl)

set_option maxRecDepth 20000 in
def z_jn4 : List Cond := .code yX7_join cX7_join 5 (some .int) :: (([.methodLink RX7 173 yX5_partsOf, .static yX5_partsOf, .initialized RX5, .code yX5_partsOf cX5_partsOf 1 (some .int), .fieldLink RX5 34 "Selfkindle$Term" "PARTS_OF" "[I", .fieldLink RX7 72 "Selfkindle" "height" "I", .classLink RX7 75 "java/lang/IllegalStateException", .initialized "java/lang/IllegalStateException"] : List Cond) ++ wsX70 ++ (vx_at0 RX7 77 "java/lang/IllegalStateException" ["java/lang/RuntimeException", "java/lang/Exception"]).filter goodWord)
theorem in_z_jn4_X7 : ∀ w ∈ wsX70, w ∈ z_jn4 := fun w h => List.mem_cons_of_mem _ (List.mem_append_left _ (List.mem_append_right _ (h)))
set_option maxRecDepth 20000 in
theorem g_jn4_1 : GoodIn z_jn4 (va_wsS RX7 173 yX5_partsOf z_pO4) := goodIn_p _ [4] rfl (by decide +kernel)
set_option maxHeartbeats 4000000 in
set_option maxRecDepth 100000 in
theorem c_jn4 (l : Launch) (dC : Nat → ClassId) (dI : Nat → Nat → Nat) (tp te : Nat) (sz : Nat) (hlt : l.stackTraces = false) (h0 : Nat) (rp : Nat) (rt : Nat) (rc : Nat) (r1 : Nat) (r2 : Nat) (r3 : Nat) (r4 : Nat) (p1 : Int32) (p2 : Int32)  : vx_Met l yX7_join z_jn4 ({ frames := 6, cells := 1, slots := 6, locals := 81 }) (va_Pc [.ref h0, .int 4, .int p1, .int p2] (Pw dC dI [(h0, .inr (8, [.ref rp, .int 0, .ref rt, .ref rc, .int ((-1)), .ref r1, .ref r2, .ref r3, .ref r4, .null, .int 0]))] [] sz tp te)) (va_Qi (fun (r : Int32) (_ : Unit) => False) (fun (_ : Unit) (_ : State) => True) (va_A [(h0, .inr (8, [.ref rp, .int 0, .ref rt, .ref rc, .int ((-1)), .ref r1, .ref r2, .ref r3, .ref r4, .null, .int 0]))] sz)) (vx_X (fun (_ : Unit) => True) (fun (E : String) (_ : Unit) (_ : State) => E = "java/lang/IllegalStateException") (va_A [(h0, .inr (8, [.ref rp, .int 0, .ref rt, .ref rc, .int ((-1)), .ref r1, .ref r2, .ref r3, .ref r4, .null, .int 0]))] sz)) 1 6 (va_A [(h0, .inr (8, [.ref rp, .int 0, .ref rt, .ref rc, .int ((-1)), .ref r1, .ref r2, .ref r3, .ref r4, .null, .int 0]))] sz) := by
  refine vx_ofW (cc := cX7_join) (maxL := 5) (ret := (some .int)) (by decide) rfl ?_
  intro p e s m args below meth c s₁ B hml htab hv
  obtain ⟨rfl, hsz, hP, hK, hD0, hG⟩ := hv
  have hx := B.exec
  have hb := B.bytes
  have hr := B.returns
  have hts := atoms_spec (ws := z_jn4) B.pre
  have hown : s.vm.findClass RX7 = some m.cls := findClass_of_methodNamed B.named
  have hlocks := B.notSynchronized
  subst hsz
  have hD := hD0.self (sz := s.heap.size)
  generalize hAe : va_A [(h0, .inr (8, [.ref rp, .int 0, .ref rt, .ref rc, .int ((-1)), .ref r1, .ref r2, .ref r3, .ref r4, .null, .int 0]))] s.heap.size = A at hD hG ⊢
  have hA : ∀ q : Nat, s.heap.size ≤ q → A q := fun q h => by rw [← hAe]; exact Or.inr h
  have hS : va_S A s.heap s.heap [] := va_S.rf
  have hl := lv_entry ([.ref h0, .int 4, .int p1, .int p2]) (n := 5) (Nat.le_of_ble_eq_true rfl)
  rw [lg_entry_eq]
  generalize (lg_sl ([.ref h0, .int 4, .int p1, .int p2]) ++ List.replicate (5 - (lg_sl ([.ref h0, .int 4, .int p1, .int p2])).length) Slot.unset).toArray = ls at hl ⊢
  have hl : lv_has ls 5 [(0, .ref h0), (1, .int 4), (2, .int p1), (3, .int p2)] := hl
  refine lv_iload_n hx hb dX7_join_0 rfl (lv_at hl 1 rfl) ?_
  have hPc := hP.sub (ws' := []) [] rfl
  have hDc := hD.sub (ws' := []) [] (by decide) rfl
  have hKc := hK.sub (tys' := []) [] rfl
  have hFc := va_free (wc := []) hD hS hA [] rfl
  refine va_calli (va_runS (As := [.int 4]) (rest := []) ⟨hx, hb, hml, hown, hts⟩ (c_pO4 l dC dI tp te s.heap.size) (va_cwS 1 hts g_jn4_1 rfl rfl rfl (by decide +kernel) ⟨Nat.le_of_ble_eq_true rfl, Nat.le_of_ble_eq_true rfl⟩) ⟨Pw.blind, Pw.mk hPc hKc hDc hG hS hFc⟩ rfl rfl hl.1 rfl (lv_room (Nat.le_of_ble_eq_true rfl)) dX7_join_1 ⟨Nat.le_of_ble_eq_true rfl, Nat.le_of_ble_eq_true rfl⟩) hS (fun q _ h => hFc q h) hFc (fun r u t9 H_1 locs ht hvm hw hB hz1 hk1 hS => ?_)
  have hw : r = 2 := hw
  subst hw
  obtain ⟨hP, hD⟩ := va_join (wr := [(h0, .inr (8, [.ref rp, .int 0, .ref rt, .ref rc, .int ((-1)), .ref r1, .ref r2, .ref r3, .ref r4, .null, .int 0]))]) (w1 := []) hP hD [] [0] rfl rfl (by decide) (by decide) hk1 hFc va_P.nil va_D.nil
  have hK := hK.sub (tys' := []) [] rfl
  have hP : va_P (dC, dI) vwCl [(h0, .inr (8, [.ref rp, .int 0, .ref rt, .ref rc, .int ((-1)), .ref r1, .ref r2, .ref r3, .ref r4, .null, .int 0]))] H_1 := hP
  have hD : va_D A [(h0, .inr (8, [.ref rp, .int 0, .ref rt, .ref rc, .int ((-1)), .ref r1, .ref r2, .ref r3, .ref r4, .null, .int 0]))] := hD
  have hK : va_K (dC, dI) vwCl [] s := hK
  refine W.widen (k := 0) (n := 0) (Nat.le_of_ble_eq_true rfl) (Nat.le_of_ble_eq_true rfl) ?_
  refine lv_istore (lv' := [(4, .int 2), (0, .ref h0), (1, .int 4), (2, .int p1), (3, .int p2)]) hx hb dX7_join_4 hl (by decide) rfl (fun ls hl => ?_)
  refine lv_aload_n hx hb dX7_join_6 rfl (lv_at hl 1 rfl) ?_
  refine va_get (D := (dC, dI)) (ci := 8) (v := .int 0) (C := RX7) (T := TX7) (N := 11) hx hb hts in_z_jn4_X7 hown hK hP 0 rfl rfl 1 (by decide) (hts (.fieldLink RX7 72 "Selfkindle" "height" "I") (List.mem_of_getElem? (i := 6) rfl)) (fun _ h9 => h9) rfl dX7_join_7 ?_
  refine lv_iload hx hb dX7_join_10 (lv_at hl 0 rfl) ?_
  refine lv_icmp_lt (tgt := 29) hx hb dX7_join_12 (by decide) (fun c9 => ?_) (fun c9 => absurd (by decide) c9)
  exact vx_throw0 (A := A) (own := RX7) (cls := "java/lang/IllegalStateException") (names := ["java/lang/RuntimeException", "java/lang/Exception"]) (ik := 75) (ic := 77) hx hb hlt hown (by decide +kernel) (by decide +kernel) (hts (.classLink RX7 75 "java/lang/IllegalStateException") (List.mem_of_getElem? (i := 7) rfl)) (hts (.initialized "java/lang/IllegalStateException") (List.mem_of_getElem? (i := 8) rfl)) (vx_hat (B := [.castable "java/lang/IllegalStateException" "java/lang/IllegalStateException", .declares (Bundle.init0 "java/lang/RuntimeException"), .declares (Bundle.init0 "java/lang/Exception"), .declares (Bundle.init0 "java/lang/Throwable")]) (fun w9 h9 => hts w9 (List.mem_cons_of_mem _ (List.mem_append_right _ (h9)))) (by decide +kernel) (vx_c (va_Nw.use rfl hG.2.2.2.2.2.2.1) (vx_c (va_Nw.use rfl hG.2.2.2.2.2.2.2.2.2.2.2.2.2.2.1) (vx_c (va_Nw.use rfl hG.2.2.2.2.2.2.2.2.2.2.2.2.2.2.2.1) (vx_c (va_Nw.use rfl hG.2.2.2.2.2.2.2.2.2.2.2.2.2.2.2.2) vx_n))))) (by decide +kernel) hG.2.2.2.2.1 hG.2.2.2.2.2.1 hS (by rw [hml]; exact hl.1) dX7_join_29 dX7_join_32 dX7_join_33 dX7_join_36 (fun x9 h9 => (htab x9 h9).elim) (Nat.le_of_ble_eq_true rfl) (Nat.le_of_ble_eq_true rfl) (Nat.le_of_ble_eq_true rfl) (Nat.le_of_ble_eq_true rfl) hlocks (fun t9 _ hz9 hk9 => ⟨(), trivial, rfl, ⟨Nat.le_trans hS.1 hz9, fun q h1 h2 => (hk9 q (Nat.lt_of_lt_of_le h1 hS.1)).trans (hS.2.1 q h1 h2)⟩⟩) hS.2.2 (Nat.le_of_ble_eq_true rfl) (Nat.le_of_ble_eq_true rfl)

set_option maxRecDepth 20000 in
def z_jn5 : List Cond := .code yX7_join cX7_join 5 (some .int) :: (([.methodLink RX7 173 yX5_partsOf, .static yX5_partsOf, .initialized RX5, .code yX5_partsOf cX5_partsOf 1 (some .int), .fieldLink RX5 34 "Selfkindle$Term" "PARTS_OF" "[I", .fieldLink RX7 72 "Selfkindle" "height" "I", .classLink RX7 75 "java/lang/IllegalStateException", .initialized "java/lang/IllegalStateException"] : List Cond) ++ wsX70 ++ (vx_at0 RX7 77 "java/lang/IllegalStateException" ["java/lang/RuntimeException", "java/lang/Exception"]).filter goodWord)
theorem in_z_jn5_X7 : ∀ w ∈ wsX70, w ∈ z_jn5 := fun w h => List.mem_cons_of_mem _ (List.mem_append_left _ (List.mem_append_right _ (h)))
set_option maxRecDepth 20000 in
theorem g_jn5_1 : GoodIn z_jn5 (va_wsS RX7 173 yX5_partsOf z_pO5) := goodIn_p _ [4] rfl (by decide +kernel)
set_option maxHeartbeats 4000000 in
set_option maxRecDepth 100000 in
theorem c_jn5 (l : Launch) (dC : Nat → ClassId) (dI : Nat → Nat → Nat) (tp te : Nat) (sz : Nat) (hlt : l.stackTraces = false) (h0 : Nat) (rp : Nat) (rt : Nat) (rc : Nat) (r1 : Nat) (r2 : Nat) (r3 : Nat) (r4 : Nat) (p1 : Int32) (p2 : Int32)  : vx_Met l yX7_join z_jn5 ({ frames := 6, cells := 1, slots := 6, locals := 81 }) (va_Pc [.ref h0, .int 5, .int p1, .int p2] (Pw dC dI [(h0, .inr (8, [.ref rp, .int 0, .ref rt, .ref rc, .int ((-1)), .ref r1, .ref r2, .ref r3, .ref r4, .null, .int 0]))] [] sz tp te)) (va_Qi (fun (r : Int32) (_ : Unit) => False) (fun (_ : Unit) (_ : State) => True) (va_A [(h0, .inr (8, [.ref rp, .int 0, .ref rt, .ref rc, .int ((-1)), .ref r1, .ref r2, .ref r3, .ref r4, .null, .int 0]))] sz)) (vx_X (fun (_ : Unit) => True) (fun (E : String) (_ : Unit) (_ : State) => E = "java/lang/IllegalStateException") (va_A [(h0, .inr (8, [.ref rp, .int 0, .ref rt, .ref rc, .int ((-1)), .ref r1, .ref r2, .ref r3, .ref r4, .null, .int 0]))] sz)) 1 6 (va_A [(h0, .inr (8, [.ref rp, .int 0, .ref rt, .ref rc, .int ((-1)), .ref r1, .ref r2, .ref r3, .ref r4, .null, .int 0]))] sz) := by
  refine vx_ofW (cc := cX7_join) (maxL := 5) (ret := (some .int)) (by decide) rfl ?_
  intro p e s m args below meth c s₁ B hml htab hv
  obtain ⟨rfl, hsz, hP, hK, hD0, hG⟩ := hv
  have hx := B.exec
  have hb := B.bytes
  have hr := B.returns
  have hts := atoms_spec (ws := z_jn5) B.pre
  have hown : s.vm.findClass RX7 = some m.cls := findClass_of_methodNamed B.named
  have hlocks := B.notSynchronized
  subst hsz
  have hD := hD0.self (sz := s.heap.size)
  generalize hAe : va_A [(h0, .inr (8, [.ref rp, .int 0, .ref rt, .ref rc, .int ((-1)), .ref r1, .ref r2, .ref r3, .ref r4, .null, .int 0]))] s.heap.size = A at hD hG ⊢
  have hA : ∀ q : Nat, s.heap.size ≤ q → A q := fun q h => by rw [← hAe]; exact Or.inr h
  have hS : va_S A s.heap s.heap [] := va_S.rf
  have hl := lv_entry ([.ref h0, .int 5, .int p1, .int p2]) (n := 5) (Nat.le_of_ble_eq_true rfl)
  rw [lg_entry_eq]
  generalize (lg_sl ([.ref h0, .int 5, .int p1, .int p2]) ++ List.replicate (5 - (lg_sl ([.ref h0, .int 5, .int p1, .int p2])).length) Slot.unset).toArray = ls at hl ⊢
  have hl : lv_has ls 5 [(0, .ref h0), (1, .int 5), (2, .int p1), (3, .int p2)] := hl
  refine lv_iload_n hx hb dX7_join_0 rfl (lv_at hl 1 rfl) ?_
  have hPc := hP.sub (ws' := []) [] rfl
  have hDc := hD.sub (ws' := []) [] (by decide) rfl
  have hKc := hK.sub (tys' := []) [] rfl
  have hFc := va_free (wc := []) hD hS hA [] rfl
  refine va_calli (va_runS (As := [.int 5]) (rest := []) ⟨hx, hb, hml, hown, hts⟩ (c_pO5 l dC dI tp te s.heap.size) (va_cwS 1 hts g_jn5_1 rfl rfl rfl (by decide +kernel) ⟨Nat.le_of_ble_eq_true rfl, Nat.le_of_ble_eq_true rfl⟩) ⟨Pw.blind, Pw.mk hPc hKc hDc hG hS hFc⟩ rfl rfl hl.1 rfl (lv_room (Nat.le_of_ble_eq_true rfl)) dX7_join_1 ⟨Nat.le_of_ble_eq_true rfl, Nat.le_of_ble_eq_true rfl⟩) hS (fun q _ h => hFc q h) hFc (fun r u t9 H_1 locs ht hvm hw hB hz1 hk1 hS => ?_)
  have hw : r = 3 := hw
  subst hw
  obtain ⟨hP, hD⟩ := va_join (wr := [(h0, .inr (8, [.ref rp, .int 0, .ref rt, .ref rc, .int ((-1)), .ref r1, .ref r2, .ref r3, .ref r4, .null, .int 0]))]) (w1 := []) hP hD [] [0] rfl rfl (by decide) (by decide) hk1 hFc va_P.nil va_D.nil
  have hK := hK.sub (tys' := []) [] rfl
  have hP : va_P (dC, dI) vwCl [(h0, .inr (8, [.ref rp, .int 0, .ref rt, .ref rc, .int ((-1)), .ref r1, .ref r2, .ref r3, .ref r4, .null, .int 0]))] H_1 := hP
  have hD : va_D A [(h0, .inr (8, [.ref rp, .int 0, .ref rt, .ref rc, .int ((-1)), .ref r1, .ref r2, .ref r3, .ref r4, .null, .int 0]))] := hD
  have hK : va_K (dC, dI) vwCl [] s := hK
  refine W.widen (k := 0) (n := 0) (Nat.le_of_ble_eq_true rfl) (Nat.le_of_ble_eq_true rfl) ?_
  refine lv_istore (lv' := [(4, .int 3), (0, .ref h0), (1, .int 5), (2, .int p1), (3, .int p2)]) hx hb dX7_join_4 hl (by decide) rfl (fun ls hl => ?_)
  refine lv_aload_n hx hb dX7_join_6 rfl (lv_at hl 1 rfl) ?_
  refine va_get (D := (dC, dI)) (ci := 8) (v := .int 0) (C := RX7) (T := TX7) (N := 11) hx hb hts in_z_jn5_X7 hown hK hP 0 rfl rfl 1 (by decide) (hts (.fieldLink RX7 72 "Selfkindle" "height" "I") (List.mem_of_getElem? (i := 6) rfl)) (fun _ h9 => h9) rfl dX7_join_7 ?_
  refine lv_iload hx hb dX7_join_10 (lv_at hl 0 rfl) ?_
  refine lv_icmp_lt (tgt := 29) hx hb dX7_join_12 (by decide) (fun c9 => ?_) (fun c9 => absurd (by decide) c9)
  exact vx_throw0 (A := A) (own := RX7) (cls := "java/lang/IllegalStateException") (names := ["java/lang/RuntimeException", "java/lang/Exception"]) (ik := 75) (ic := 77) hx hb hlt hown (by decide +kernel) (by decide +kernel) (hts (.classLink RX7 75 "java/lang/IllegalStateException") (List.mem_of_getElem? (i := 7) rfl)) (hts (.initialized "java/lang/IllegalStateException") (List.mem_of_getElem? (i := 8) rfl)) (vx_hat (B := [.castable "java/lang/IllegalStateException" "java/lang/IllegalStateException", .declares (Bundle.init0 "java/lang/RuntimeException"), .declares (Bundle.init0 "java/lang/Exception"), .declares (Bundle.init0 "java/lang/Throwable")]) (fun w9 h9 => hts w9 (List.mem_cons_of_mem _ (List.mem_append_right _ (h9)))) (by decide +kernel) (vx_c (va_Nw.use rfl hG.2.2.2.2.2.2.1) (vx_c (va_Nw.use rfl hG.2.2.2.2.2.2.2.2.2.2.2.2.2.2.1) (vx_c (va_Nw.use rfl hG.2.2.2.2.2.2.2.2.2.2.2.2.2.2.2.1) (vx_c (va_Nw.use rfl hG.2.2.2.2.2.2.2.2.2.2.2.2.2.2.2.2) vx_n))))) (by decide +kernel) hG.2.2.2.2.1 hG.2.2.2.2.2.1 hS (by rw [hml]; exact hl.1) dX7_join_29 dX7_join_32 dX7_join_33 dX7_join_36 (fun x9 h9 => (htab x9 h9).elim) (Nat.le_of_ble_eq_true rfl) (Nat.le_of_ble_eq_true rfl) (Nat.le_of_ble_eq_true rfl) (Nat.le_of_ble_eq_true rfl) hlocks (fun t9 _ hz9 hk9 => ⟨(), trivial, rfl, ⟨Nat.le_trans hS.1 hz9, fun q h1 h2 => (hk9 q (Nat.lt_of_lt_of_le h1 hS.1)).trans (hS.2.1 q h1 h2)⟩⟩) hS.2.2 (Nat.le_of_ble_eq_true rfl) (Nat.le_of_ble_eq_true rfl)

set_option maxRecDepth 20000 in
def z_jn6 : List Cond := .code yX7_join cX7_join 5 (some .int) :: (([.methodLink RX7 173 yX5_partsOf, .static yX5_partsOf, .initialized RX5, .code yX5_partsOf cX5_partsOf 1 (some .int), .fieldLink RX5 34 "Selfkindle$Term" "PARTS_OF" "[I", .fieldLink RX7 72 "Selfkindle" "height" "I", .classLink RX7 75 "java/lang/IllegalStateException", .initialized "java/lang/IllegalStateException"] : List Cond) ++ wsX70 ++ (vx_at0 RX7 77 "java/lang/IllegalStateException" ["java/lang/RuntimeException", "java/lang/Exception"]).filter goodWord)
theorem in_z_jn6_X7 : ∀ w ∈ wsX70, w ∈ z_jn6 := fun w h => List.mem_cons_of_mem _ (List.mem_append_left _ (List.mem_append_right _ (h)))
set_option maxRecDepth 20000 in
theorem g_jn6_1 : GoodIn z_jn6 (va_wsS RX7 173 yX5_partsOf z_pO6) := goodIn_p _ [4] rfl (by decide +kernel)
set_option maxHeartbeats 4000000 in
set_option maxRecDepth 100000 in
theorem c_jn6 (l : Launch) (dC : Nat → ClassId) (dI : Nat → Nat → Nat) (tp te : Nat) (sz : Nat) (hlt : l.stackTraces = false) (h0 : Nat) (rp : Nat) (rt : Nat) (rc : Nat) (r1 : Nat) (r2 : Nat) (r3 : Nat) (r4 : Nat) (p1 : Int32) (p2 : Int32)  : vx_Met l yX7_join z_jn6 ({ frames := 6, cells := 1, slots := 6, locals := 81 }) (va_Pc [.ref h0, .int 6, .int p1, .int p2] (Pw dC dI [(h0, .inr (8, [.ref rp, .int 0, .ref rt, .ref rc, .int ((-1)), .ref r1, .ref r2, .ref r3, .ref r4, .null, .int 0]))] [] sz tp te)) (va_Qi (fun (r : Int32) (_ : Unit) => False) (fun (_ : Unit) (_ : State) => True) (va_A [(h0, .inr (8, [.ref rp, .int 0, .ref rt, .ref rc, .int ((-1)), .ref r1, .ref r2, .ref r3, .ref r4, .null, .int 0]))] sz)) (vx_X (fun (_ : Unit) => True) (fun (E : String) (_ : Unit) (_ : State) => E = "java/lang/IllegalStateException") (va_A [(h0, .inr (8, [.ref rp, .int 0, .ref rt, .ref rc, .int ((-1)), .ref r1, .ref r2, .ref r3, .ref r4, .null, .int 0]))] sz)) 1 6 (va_A [(h0, .inr (8, [.ref rp, .int 0, .ref rt, .ref rc, .int ((-1)), .ref r1, .ref r2, .ref r3, .ref r4, .null, .int 0]))] sz) := by
  refine vx_ofW (cc := cX7_join) (maxL := 5) (ret := (some .int)) (by decide) rfl ?_
  intro p e s m args below meth c s₁ B hml htab hv
  obtain ⟨rfl, hsz, hP, hK, hD0, hG⟩ := hv
  have hx := B.exec
  have hb := B.bytes
  have hr := B.returns
  have hts := atoms_spec (ws := z_jn6) B.pre
  have hown : s.vm.findClass RX7 = some m.cls := findClass_of_methodNamed B.named
  have hlocks := B.notSynchronized
  subst hsz
  have hD := hD0.self (sz := s.heap.size)
  generalize hAe : va_A [(h0, .inr (8, [.ref rp, .int 0, .ref rt, .ref rc, .int ((-1)), .ref r1, .ref r2, .ref r3, .ref r4, .null, .int 0]))] s.heap.size = A at hD hG ⊢
  have hA : ∀ q : Nat, s.heap.size ≤ q → A q := fun q h => by rw [← hAe]; exact Or.inr h
  have hS : va_S A s.heap s.heap [] := va_S.rf
  have hl := lv_entry ([.ref h0, .int 6, .int p1, .int p2]) (n := 5) (Nat.le_of_ble_eq_true rfl)
  rw [lg_entry_eq]
  generalize (lg_sl ([.ref h0, .int 6, .int p1, .int p2]) ++ List.replicate (5 - (lg_sl ([.ref h0, .int 6, .int p1, .int p2])).length) Slot.unset).toArray = ls at hl ⊢
  have hl : lv_has ls 5 [(0, .ref h0), (1, .int 6), (2, .int p1), (3, .int p2)] := hl
  refine lv_iload_n hx hb dX7_join_0 rfl (lv_at hl 1 rfl) ?_
  have hPc := hP.sub (ws' := []) [] rfl
  have hDc := hD.sub (ws' := []) [] (by decide) rfl
  have hKc := hK.sub (tys' := []) [] rfl
  have hFc := va_free (wc := []) hD hS hA [] rfl
  refine va_calli (va_runS (As := [.int 6]) (rest := []) ⟨hx, hb, hml, hown, hts⟩ (c_pO6 l dC dI tp te s.heap.size) (va_cwS 1 hts g_jn6_1 rfl rfl rfl (by decide +kernel) ⟨Nat.le_of_ble_eq_true rfl, Nat.le_of_ble_eq_true rfl⟩) ⟨Pw.blind, Pw.mk hPc hKc hDc hG hS hFc⟩ rfl rfl hl.1 rfl (lv_room (Nat.le_of_ble_eq_true rfl)) dX7_join_1 ⟨Nat.le_of_ble_eq_true rfl, Nat.le_of_ble_eq_true rfl⟩) hS (fun q _ h => hFc q h) hFc (fun r u t9 H_1 locs ht hvm hw hB hz1 hk1 hS => ?_)
  have hw : r = 2 := hw
  subst hw
  obtain ⟨hP, hD⟩ := va_join (wr := [(h0, .inr (8, [.ref rp, .int 0, .ref rt, .ref rc, .int ((-1)), .ref r1, .ref r2, .ref r3, .ref r4, .null, .int 0]))]) (w1 := []) hP hD [] [0] rfl rfl (by decide) (by decide) hk1 hFc va_P.nil va_D.nil
  have hK := hK.sub (tys' := []) [] rfl
  have hP : va_P (dC, dI) vwCl [(h0, .inr (8, [.ref rp, .int 0, .ref rt, .ref rc, .int ((-1)), .ref r1, .ref r2, .ref r3, .ref r4, .null, .int 0]))] H_1 := hP
  have hD : va_D A [(h0, .inr (8, [.ref rp, .int 0, .ref rt, .ref rc, .int ((-1)), .ref r1, .ref r2, .ref r3, .ref r4, .null, .int 0]))] := hD
  have hK : va_K (dC, dI) vwCl [] s := hK
  refine W.widen (k := 0) (n := 0) (Nat.le_of_ble_eq_true rfl) (Nat.le_of_ble_eq_true rfl) ?_
  refine lv_istore (lv' := [(4, .int 2), (0, .ref h0), (1, .int 6), (2, .int p1), (3, .int p2)]) hx hb dX7_join_4 hl (by decide) rfl (fun ls hl => ?_)
  refine lv_aload_n hx hb dX7_join_6 rfl (lv_at hl 1 rfl) ?_
  refine va_get (D := (dC, dI)) (ci := 8) (v := .int 0) (C := RX7) (T := TX7) (N := 11) hx hb hts in_z_jn6_X7 hown hK hP 0 rfl rfl 1 (by decide) (hts (.fieldLink RX7 72 "Selfkindle" "height" "I") (List.mem_of_getElem? (i := 6) rfl)) (fun _ h9 => h9) rfl dX7_join_7 ?_
  refine lv_iload hx hb dX7_join_10 (lv_at hl 0 rfl) ?_
  refine lv_icmp_lt (tgt := 29) hx hb dX7_join_12 (by decide) (fun c9 => ?_) (fun c9 => absurd (by decide) c9)
  exact vx_throw0 (A := A) (own := RX7) (cls := "java/lang/IllegalStateException") (names := ["java/lang/RuntimeException", "java/lang/Exception"]) (ik := 75) (ic := 77) hx hb hlt hown (by decide +kernel) (by decide +kernel) (hts (.classLink RX7 75 "java/lang/IllegalStateException") (List.mem_of_getElem? (i := 7) rfl)) (hts (.initialized "java/lang/IllegalStateException") (List.mem_of_getElem? (i := 8) rfl)) (vx_hat (B := [.castable "java/lang/IllegalStateException" "java/lang/IllegalStateException", .declares (Bundle.init0 "java/lang/RuntimeException"), .declares (Bundle.init0 "java/lang/Exception"), .declares (Bundle.init0 "java/lang/Throwable")]) (fun w9 h9 => hts w9 (List.mem_cons_of_mem _ (List.mem_append_right _ (h9)))) (by decide +kernel) (vx_c (va_Nw.use rfl hG.2.2.2.2.2.2.1) (vx_c (va_Nw.use rfl hG.2.2.2.2.2.2.2.2.2.2.2.2.2.2.1) (vx_c (va_Nw.use rfl hG.2.2.2.2.2.2.2.2.2.2.2.2.2.2.2.1) (vx_c (va_Nw.use rfl hG.2.2.2.2.2.2.2.2.2.2.2.2.2.2.2.2) vx_n))))) (by decide +kernel) hG.2.2.2.2.1 hG.2.2.2.2.2.1 hS (by rw [hml]; exact hl.1) dX7_join_29 dX7_join_32 dX7_join_33 dX7_join_36 (fun x9 h9 => (htab x9 h9).elim) (Nat.le_of_ble_eq_true rfl) (Nat.le_of_ble_eq_true rfl) (Nat.le_of_ble_eq_true rfl) (Nat.le_of_ble_eq_true rfl) hlocks (fun t9 _ hz9 hk9 => ⟨(), trivial, rfl, ⟨Nat.le_trans hS.1 hz9, fun q h1 h2 => (hk9 q (Nat.lt_of_lt_of_le h1 hS.1)).trans (hS.2.1 q h1 h2)⟩⟩) hS.2.2 (Nat.le_of_ble_eq_true rfl) (Nat.le_of_ble_eq_true rfl)

set_option maxRecDepth 20000 in
def z_jn7 : List Cond := .code yX7_join cX7_join 5 (some .int) :: (([.methodLink RX7 173 yX5_partsOf, .static yX5_partsOf, .initialized RX5, .code yX5_partsOf cX5_partsOf 1 (some .int), .fieldLink RX5 34 "Selfkindle$Term" "PARTS_OF" "[I", .fieldLink RX7 72 "Selfkindle" "height" "I", .classLink RX7 75 "java/lang/IllegalStateException", .initialized "java/lang/IllegalStateException"] : List Cond) ++ wsX70 ++ (vx_at0 RX7 77 "java/lang/IllegalStateException" ["java/lang/RuntimeException", "java/lang/Exception"]).filter goodWord)
theorem in_z_jn7_X7 : ∀ w ∈ wsX70, w ∈ z_jn7 := fun w h => List.mem_cons_of_mem _ (List.mem_append_left _ (List.mem_append_right _ (h)))
set_option maxRecDepth 20000 in
theorem g_jn7_1 : GoodIn z_jn7 (va_wsS RX7 173 yX5_partsOf z_pO7) := goodIn_p _ [4] rfl (by decide +kernel)
set_option maxHeartbeats 4000000 in
set_option maxRecDepth 100000 in
theorem c_jn7 (l : Launch) (dC : Nat → ClassId) (dI : Nat → Nat → Nat) (tp te : Nat) (sz : Nat) (hlt : l.stackTraces = false) (h0 : Nat) (rp : Nat) (rt : Nat) (rc : Nat) (r1 : Nat) (r2 : Nat) (r3 : Nat) (r4 : Nat) (p1 : Int32) (p2 : Int32)  : vx_Met l yX7_join z_jn7 ({ frames := 6, cells := 1, slots := 6, locals := 81 }) (va_Pc [.ref h0, .int 7, .int p1, .int p2] (Pw dC dI [(h0, .inr (8, [.ref rp, .int 0, .ref rt, .ref rc, .int ((-1)), .ref r1, .ref r2, .ref r3, .ref r4, .null, .int 0]))] [] sz tp te)) (va_Qi (fun (r : Int32) (_ : Unit) => False) (fun (_ : Unit) (_ : State) => True) (va_A [(h0, .inr (8, [.ref rp, .int 0, .ref rt, .ref rc, .int ((-1)), .ref r1, .ref r2, .ref r3, .ref r4, .null, .int 0]))] sz)) (vx_X (fun (_ : Unit) => True) (fun (E : String) (_ : Unit) (_ : State) => E = "java/lang/IllegalStateException") (va_A [(h0, .inr (8, [.ref rp, .int 0, .ref rt, .ref rc, .int ((-1)), .ref r1, .ref r2, .ref r3, .ref r4, .null, .int 0]))] sz)) 1 6 (va_A [(h0, .inr (8, [.ref rp, .int 0, .ref rt, .ref rc, .int ((-1)), .ref r1, .ref r2, .ref r3, .ref r4, .null, .int 0]))] sz) := by
  refine vx_ofW (cc := cX7_join) (maxL := 5) (ret := (some .int)) (by decide) rfl ?_
  intro p e s m args below meth c s₁ B hml htab hv
  obtain ⟨rfl, hsz, hP, hK, hD0, hG⟩ := hv
  have hx := B.exec
  have hb := B.bytes
  have hr := B.returns
  have hts := atoms_spec (ws := z_jn7) B.pre
  have hown : s.vm.findClass RX7 = some m.cls := findClass_of_methodNamed B.named
  have hlocks := B.notSynchronized
  subst hsz
  have hD := hD0.self (sz := s.heap.size)
  generalize hAe : va_A [(h0, .inr (8, [.ref rp, .int 0, .ref rt, .ref rc, .int ((-1)), .ref r1, .ref r2, .ref r3, .ref r4, .null, .int 0]))] s.heap.size = A at hD hG ⊢
  have hA : ∀ q : Nat, s.heap.size ≤ q → A q := fun q h => by rw [← hAe]; exact Or.inr h
  have hS : va_S A s.heap s.heap [] := va_S.rf
  have hl := lv_entry ([.ref h0, .int 7, .int p1, .int p2]) (n := 5) (Nat.le_of_ble_eq_true rfl)
  rw [lg_entry_eq]
  generalize (lg_sl ([.ref h0, .int 7, .int p1, .int p2]) ++ List.replicate (5 - (lg_sl ([.ref h0, .int 7, .int p1, .int p2])).length) Slot.unset).toArray = ls at hl ⊢
  have hl : lv_has ls 5 [(0, .ref h0), (1, .int 7), (2, .int p1), (3, .int p2)] := hl
  refine lv_iload_n hx hb dX7_join_0 rfl (lv_at hl 1 rfl) ?_
  have hPc := hP.sub (ws' := []) [] rfl
  have hDc := hD.sub (ws' := []) [] (by decide) rfl
  have hKc := hK.sub (tys' := []) [] rfl
  have hFc := va_free (wc := []) hD hS hA [] rfl
  refine va_calli (va_runS (As := [.int 7]) (rest := []) ⟨hx, hb, hml, hown, hts⟩ (c_pO7 l dC dI tp te s.heap.size) (va_cwS 1 hts g_jn7_1 rfl rfl rfl (by decide +kernel) ⟨Nat.le_of_ble_eq_true rfl, Nat.le_of_ble_eq_true rfl⟩) ⟨Pw.blind, Pw.mk hPc hKc hDc hG hS hFc⟩ rfl rfl hl.1 rfl (lv_room (Nat.le_of_ble_eq_true rfl)) dX7_join_1 ⟨Nat.le_of_ble_eq_true rfl, Nat.le_of_ble_eq_true rfl⟩) hS (fun q _ h => hFc q h) hFc (fun r u t9 H_1 locs ht hvm hw hB hz1 hk1 hS => ?_)
  have hw : r = 2 := hw
  subst hw
  obtain ⟨hP, hD⟩ := va_join (wr := [(h0, .inr (8, [.ref rp, .int 0, .ref rt, .ref rc, .int ((-1)), .ref r1, .ref r2, .ref r3, .ref r4, .null, .int 0]))]) (w1 := []) hP hD [] [0] rfl rfl (by decide) (by decide) hk1 hFc va_P.nil va_D.nil
  have hK := hK.sub (tys' := []) [] rfl
  have hP : va_P (dC, dI) vwCl [(h0, .inr (8, [.ref rp, .int 0, .ref rt, .ref rc, .int ((-1)), .ref r1, .ref r2, .ref r3, .ref r4, .null, .int 0]))] H_1 := hP
  have hD : va_D A [(h0, .inr (8, [.ref rp, .int 0, .ref rt, .ref rc, .int ((-1)), .ref r1, .ref r2, .ref r3, .ref r4, .null, .int 0]))] := hD
  have hK : va_K (dC, dI) vwCl [] s := hK
  refine W.widen (k := 0) (n := 0) (Nat.le_of_ble_eq_true rfl) (Nat.le_of_ble_eq_true rfl) ?_
  refine lv_istore (lv' := [(4, .int 2), (0, .ref h0), (1, .int 7), (2, .int p1), (3, .int p2)]) hx hb dX7_join_4 hl (by decide) rfl (fun ls hl => ?_)
  refine lv_aload_n hx hb dX7_join_6 rfl (lv_at hl 1 rfl) ?_
  refine va_get (D := (dC, dI)) (ci := 8) (v := .int 0) (C := RX7) (T := TX7) (N := 11) hx hb hts in_z_jn7_X7 hown hK hP 0 rfl rfl 1 (by decide) (hts (.fieldLink RX7 72 "Selfkindle" "height" "I") (List.mem_of_getElem? (i := 6) rfl)) (fun _ h9 => h9) rfl dX7_join_7 ?_
  refine lv_iload hx hb dX7_join_10 (lv_at hl 0 rfl) ?_
  refine lv_icmp_lt (tgt := 29) hx hb dX7_join_12 (by decide) (fun c9 => ?_) (fun c9 => absurd (by decide) c9)
  exact vx_throw0 (A := A) (own := RX7) (cls := "java/lang/IllegalStateException") (names := ["java/lang/RuntimeException", "java/lang/Exception"]) (ik := 75) (ic := 77) hx hb hlt hown (by decide +kernel) (by decide +kernel) (hts (.classLink RX7 75 "java/lang/IllegalStateException") (List.mem_of_getElem? (i := 7) rfl)) (hts (.initialized "java/lang/IllegalStateException") (List.mem_of_getElem? (i := 8) rfl)) (vx_hat (B := [.castable "java/lang/IllegalStateException" "java/lang/IllegalStateException", .declares (Bundle.init0 "java/lang/RuntimeException"), .declares (Bundle.init0 "java/lang/Exception"), .declares (Bundle.init0 "java/lang/Throwable")]) (fun w9 h9 => hts w9 (List.mem_cons_of_mem _ (List.mem_append_right _ (h9)))) (by decide +kernel) (vx_c (va_Nw.use rfl hG.2.2.2.2.2.2.1) (vx_c (va_Nw.use rfl hG.2.2.2.2.2.2.2.2.2.2.2.2.2.2.1) (vx_c (va_Nw.use rfl hG.2.2.2.2.2.2.2.2.2.2.2.2.2.2.2.1) (vx_c (va_Nw.use rfl hG.2.2.2.2.2.2.2.2.2.2.2.2.2.2.2.2) vx_n))))) (by decide +kernel) hG.2.2.2.2.1 hG.2.2.2.2.2.1 hS (by rw [hml]; exact hl.1) dX7_join_29 dX7_join_32 dX7_join_33 dX7_join_36 (fun x9 h9 => (htab x9 h9).elim) (Nat.le_of_ble_eq_true rfl) (Nat.le_of_ble_eq_true rfl) (Nat.le_of_ble_eq_true rfl) (Nat.le_of_ble_eq_true rfl) hlocks (fun t9 _ hz9 hk9 => ⟨(), trivial, rfl, ⟨Nat.le_trans hS.1 hz9, fun q h1 h2 => (hk9 q (Nat.lt_of_lt_of_le h1 hS.1)).trans (hS.2.1 q h1 h2)⟩⟩) hS.2.2 (Nat.le_of_ble_eq_true rfl) (Nat.le_of_ble_eq_true rfl)

set_option maxRecDepth 20000 in
def z_jn8 : List Cond := .code yX7_join cX7_join 5 (some .int) :: (([.methodLink RX7 173 yX5_partsOf, .static yX5_partsOf, .initialized RX5, .code yX5_partsOf cX5_partsOf 1 (some .int), .fieldLink RX5 34 "Selfkindle$Term" "PARTS_OF" "[I", .fieldLink RX7 72 "Selfkindle" "height" "I", .classLink RX7 75 "java/lang/IllegalStateException", .initialized "java/lang/IllegalStateException"] : List Cond) ++ wsX70 ++ (vx_at0 RX7 77 "java/lang/IllegalStateException" ["java/lang/RuntimeException", "java/lang/Exception"]).filter goodWord)
theorem in_z_jn8_X7 : ∀ w ∈ wsX70, w ∈ z_jn8 := fun w h => List.mem_cons_of_mem _ (List.mem_append_left _ (List.mem_append_right _ (h)))
set_option maxRecDepth 20000 in
theorem g_jn8_1 : GoodIn z_jn8 (va_wsS RX7 173 yX5_partsOf z_pO8) := goodIn_p _ [4] rfl (by decide +kernel)
set_option maxHeartbeats 4000000 in
set_option maxRecDepth 100000 in
theorem c_jn8 (l : Launch) (dC : Nat → ClassId) (dI : Nat → Nat → Nat) (tp te : Nat) (sz : Nat) (hlt : l.stackTraces = false) (h0 : Nat) (rp : Nat) (rt : Nat) (rc : Nat) (r1 : Nat) (r2 : Nat) (r3 : Nat) (r4 : Nat) (p1 : Int32) (p2 : Int32)  : vx_Met l yX7_join z_jn8 ({ frames := 6, cells := 1, slots := 6, locals := 81 }) (va_Pc [.ref h0, .int 8, .int p1, .int p2] (Pw dC dI [(h0, .inr (8, [.ref rp, .int 0, .ref rt, .ref rc, .int ((-1)), .ref r1, .ref r2, .ref r3, .ref r4, .null, .int 0]))] [] sz tp te)) (va_Qi (fun (r : Int32) (_ : Unit) => False) (fun (_ : Unit) (_ : State) => True) (va_A [(h0, .inr (8, [.ref rp, .int 0, .ref rt, .ref rc, .int ((-1)), .ref r1, .ref r2, .ref r3, .ref r4, .null, .int 0]))] sz)) (vx_X (fun (_ : Unit) => True) (fun (E : String) (_ : Unit) (_ : State) => E = "java/lang/IllegalStateException") (va_A [(h0, .inr (8, [.ref rp, .int 0, .ref rt, .ref rc, .int ((-1)), .ref r1, .ref r2, .ref r3, .ref r4, .null, .int 0]))] sz)) 1 6 (va_A [(h0, .inr (8, [.ref rp, .int 0, .ref rt, .ref rc, .int ((-1)), .ref r1, .ref r2, .ref r3, .ref r4, .null, .int 0]))] sz) := by
  refine vx_ofW (cc := cX7_join) (maxL := 5) (ret := (some .int)) (by decide) rfl ?_
  intro p e s m args below meth c s₁ B hml htab hv
  obtain ⟨rfl, hsz, hP, hK, hD0, hG⟩ := hv
  have hx := B.exec
  have hb := B.bytes
  have hr := B.returns
  have hts := atoms_spec (ws := z_jn8) B.pre
  have hown : s.vm.findClass RX7 = some m.cls := findClass_of_methodNamed B.named
  have hlocks := B.notSynchronized
  subst hsz
  have hD := hD0.self (sz := s.heap.size)
  generalize hAe : va_A [(h0, .inr (8, [.ref rp, .int 0, .ref rt, .ref rc, .int ((-1)), .ref r1, .ref r2, .ref r3, .ref r4, .null, .int 0]))] s.heap.size = A at hD hG ⊢
  have hA : ∀ q : Nat, s.heap.size ≤ q → A q := fun q h => by rw [← hAe]; exact Or.inr h
  have hS : va_S A s.heap s.heap [] := va_S.rf
  have hl := lv_entry ([.ref h0, .int 8, .int p1, .int p2]) (n := 5) (Nat.le_of_ble_eq_true rfl)
  rw [lg_entry_eq]
  generalize (lg_sl ([.ref h0, .int 8, .int p1, .int p2]) ++ List.replicate (5 - (lg_sl ([.ref h0, .int 8, .int p1, .int p2])).length) Slot.unset).toArray = ls at hl ⊢
  have hl : lv_has ls 5 [(0, .ref h0), (1, .int 8), (2, .int p1), (3, .int p2)] := hl
  refine lv_iload_n hx hb dX7_join_0 rfl (lv_at hl 1 rfl) ?_
  have hPc := hP.sub (ws' := []) [] rfl
  have hDc := hD.sub (ws' := []) [] (by decide) rfl
  have hKc := hK.sub (tys' := []) [] rfl
  have hFc := va_free (wc := []) hD hS hA [] rfl
  refine va_calli (va_runS (As := [.int 8]) (rest := []) ⟨hx, hb, hml, hown, hts⟩ (c_pO8 l dC dI tp te s.heap.size) (va_cwS 1 hts g_jn8_1 rfl rfl rfl (by decide +kernel) ⟨Nat.le_of_ble_eq_true rfl, Nat.le_of_ble_eq_true rfl⟩) ⟨Pw.blind, Pw.mk hPc hKc hDc hG hS hFc⟩ rfl rfl hl.1 rfl (lv_room (Nat.le_of_ble_eq_true rfl)) dX7_join_1 ⟨Nat.le_of_ble_eq_true rfl, Nat.le_of_ble_eq_true rfl⟩) hS (fun q _ h => hFc q h) hFc (fun r u t9 H_1 locs ht hvm hw hB hz1 hk1 hS => ?_)
  have hw : r = 2 := hw
  subst hw
  obtain ⟨hP, hD⟩ := va_join (wr := [(h0, .inr (8, [.ref rp, .int 0, .ref rt, .ref rc, .int ((-1)), .ref r1, .ref r2, .ref r3, .ref r4, .null, .int 0]))]) (w1 := []) hP hD [] [0] rfl rfl (by decide) (by decide) hk1 hFc va_P.nil va_D.nil
  have hK := hK.sub (tys' := []) [] rfl
  have hP : va_P (dC, dI) vwCl [(h0, .inr (8, [.ref rp, .int 0, .ref rt, .ref rc, .int ((-1)), .ref r1, .ref r2, .ref r3, .ref r4, .null, .int 0]))] H_1 := hP
  have hD : va_D A [(h0, .inr (8, [.ref rp, .int 0, .ref rt, .ref rc, .int ((-1)), .ref r1, .ref r2, .ref r3, .ref r4, .null, .int 0]))] := hD
  have hK : va_K (dC, dI) vwCl [] s := hK
  refine W.widen (k := 0) (n := 0) (Nat.le_of_ble_eq_true rfl) (Nat.le_of_ble_eq_true rfl) ?_
  refine lv_istore (lv' := [(4, .int 2), (0, .ref h0), (1, .int 8), (2, .int p1), (3, .int p2)]) hx hb dX7_join_4 hl (by decide) rfl (fun ls hl => ?_)
  refine lv_aload_n hx hb dX7_join_6 rfl (lv_at hl 1 rfl) ?_
  refine va_get (D := (dC, dI)) (ci := 8) (v := .int 0) (C := RX7) (T := TX7) (N := 11) hx hb hts in_z_jn8_X7 hown hK hP 0 rfl rfl 1 (by decide) (hts (.fieldLink RX7 72 "Selfkindle" "height" "I") (List.mem_of_getElem? (i := 6) rfl)) (fun _ h9 => h9) rfl dX7_join_7 ?_
  refine lv_iload hx hb dX7_join_10 (lv_at hl 0 rfl) ?_
  refine lv_icmp_lt (tgt := 29) hx hb dX7_join_12 (by decide) (fun c9 => ?_) (fun c9 => absurd (by decide) c9)
  exact vx_throw0 (A := A) (own := RX7) (cls := "java/lang/IllegalStateException") (names := ["java/lang/RuntimeException", "java/lang/Exception"]) (ik := 75) (ic := 77) hx hb hlt hown (by decide +kernel) (by decide +kernel) (hts (.classLink RX7 75 "java/lang/IllegalStateException") (List.mem_of_getElem? (i := 7) rfl)) (hts (.initialized "java/lang/IllegalStateException") (List.mem_of_getElem? (i := 8) rfl)) (vx_hat (B := [.castable "java/lang/IllegalStateException" "java/lang/IllegalStateException", .declares (Bundle.init0 "java/lang/RuntimeException"), .declares (Bundle.init0 "java/lang/Exception"), .declares (Bundle.init0 "java/lang/Throwable")]) (fun w9 h9 => hts w9 (List.mem_cons_of_mem _ (List.mem_append_right _ (h9)))) (by decide +kernel) (vx_c (va_Nw.use rfl hG.2.2.2.2.2.2.1) (vx_c (va_Nw.use rfl hG.2.2.2.2.2.2.2.2.2.2.2.2.2.2.1) (vx_c (va_Nw.use rfl hG.2.2.2.2.2.2.2.2.2.2.2.2.2.2.2.1) (vx_c (va_Nw.use rfl hG.2.2.2.2.2.2.2.2.2.2.2.2.2.2.2.2) vx_n))))) (by decide +kernel) hG.2.2.2.2.1 hG.2.2.2.2.2.1 hS (by rw [hml]; exact hl.1) dX7_join_29 dX7_join_32 dX7_join_33 dX7_join_36 (fun x9 h9 => (htab x9 h9).elim) (Nat.le_of_ble_eq_true rfl) (Nat.le_of_ble_eq_true rfl) (Nat.le_of_ble_eq_true rfl) (Nat.le_of_ble_eq_true rfl) hlocks (fun t9 _ hz9 hk9 => ⟨(), trivial, rfl, ⟨Nat.le_trans hS.1 hz9, fun q h1 h2 => (hk9 q (Nat.lt_of_lt_of_le h1 hS.1)).trans (hS.2.1 q h1 h2)⟩⟩) hS.2.2 (Nat.le_of_ble_eq_true rfl) (Nat.le_of_ble_eq_true rfl)

set_option maxRecDepth 20000 in
def z_jn9 : List Cond := .code yX7_join cX7_join 5 (some .int) :: (([.methodLink RX7 173 yX5_partsOf, .static yX5_partsOf, .initialized RX5, .code yX5_partsOf cX5_partsOf 1 (some .int), .fieldLink RX5 34 "Selfkindle$Term" "PARTS_OF" "[I", .fieldLink RX7 72 "Selfkindle" "height" "I", .classLink RX7 75 "java/lang/IllegalStateException", .initialized "java/lang/IllegalStateException"] : List Cond) ++ wsX70 ++ (vx_at0 RX7 77 "java/lang/IllegalStateException" ["java/lang/RuntimeException", "java/lang/Exception"]).filter goodWord)
theorem in_z_jn9_X7 : ∀ w ∈ wsX70, w ∈ z_jn9 := fun w h => List.mem_cons_of_mem _ (List.mem_append_left _ (List.mem_append_right _ (h)))
set_option maxRecDepth 20000 in
theorem g_jn9_1 : GoodIn z_jn9 (va_wsS RX7 173 yX5_partsOf z_pO9) := goodIn_p _ [4] rfl (by decide +kernel)
set_option maxHeartbeats 4000000 in
set_option maxRecDepth 100000 in
theorem c_jn9 (l : Launch) (dC : Nat → ClassId) (dI : Nat → Nat → Nat) (tp te : Nat) (sz : Nat) (hlt : l.stackTraces = false) (h0 : Nat) (rp : Nat) (rt : Nat) (rc : Nat) (r1 : Nat) (r2 : Nat) (r3 : Nat) (r4 : Nat) (p1 : Int32) (p2 : Int32)  : vx_Met l yX7_join z_jn9 ({ frames := 6, cells := 1, slots := 6, locals := 81 }) (va_Pc [.ref h0, .int 9, .int p1, .int p2] (Pw dC dI [(h0, .inr (8, [.ref rp, .int 0, .ref rt, .ref rc, .int ((-1)), .ref r1, .ref r2, .ref r3, .ref r4, .null, .int 0]))] [] sz tp te)) (va_Qi (fun (r : Int32) (_ : Unit) => False) (fun (_ : Unit) (_ : State) => True) (va_A [(h0, .inr (8, [.ref rp, .int 0, .ref rt, .ref rc, .int ((-1)), .ref r1, .ref r2, .ref r3, .ref r4, .null, .int 0]))] sz)) (vx_X (fun (_ : Unit) => True) (fun (E : String) (_ : Unit) (_ : State) => E = "java/lang/IllegalStateException") (va_A [(h0, .inr (8, [.ref rp, .int 0, .ref rt, .ref rc, .int ((-1)), .ref r1, .ref r2, .ref r3, .ref r4, .null, .int 0]))] sz)) 1 6 (va_A [(h0, .inr (8, [.ref rp, .int 0, .ref rt, .ref rc, .int ((-1)), .ref r1, .ref r2, .ref r3, .ref r4, .null, .int 0]))] sz) := by
  refine vx_ofW (cc := cX7_join) (maxL := 5) (ret := (some .int)) (by decide) rfl ?_
  intro p e s m args below meth c s₁ B hml htab hv
  obtain ⟨rfl, hsz, hP, hK, hD0, hG⟩ := hv
  have hx := B.exec
  have hb := B.bytes
  have hr := B.returns
  have hts := atoms_spec (ws := z_jn9) B.pre
  have hown : s.vm.findClass RX7 = some m.cls := findClass_of_methodNamed B.named
  have hlocks := B.notSynchronized
  subst hsz
  have hD := hD0.self (sz := s.heap.size)
  generalize hAe : va_A [(h0, .inr (8, [.ref rp, .int 0, .ref rt, .ref rc, .int ((-1)), .ref r1, .ref r2, .ref r3, .ref r4, .null, .int 0]))] s.heap.size = A at hD hG ⊢
  have hA : ∀ q : Nat, s.heap.size ≤ q → A q := fun q h => by rw [← hAe]; exact Or.inr h
  have hS : va_S A s.heap s.heap [] := va_S.rf
  have hl := lv_entry ([.ref h0, .int 9, .int p1, .int p2]) (n := 5) (Nat.le_of_ble_eq_true rfl)
  rw [lg_entry_eq]
  generalize (lg_sl ([.ref h0, .int 9, .int p1, .int p2]) ++ List.replicate (5 - (lg_sl ([.ref h0, .int 9, .int p1, .int p2])).length) Slot.unset).toArray = ls at hl ⊢
  have hl : lv_has ls 5 [(0, .ref h0), (1, .int 9), (2, .int p1), (3, .int p2)] := hl
  refine lv_iload_n hx hb dX7_join_0 rfl (lv_at hl 1 rfl) ?_
  have hPc := hP.sub (ws' := []) [] rfl
  have hDc := hD.sub (ws' := []) [] (by decide) rfl
  have hKc := hK.sub (tys' := []) [] rfl
  have hFc := va_free (wc := []) hD hS hA [] rfl
  refine va_calli (va_runS (As := [.int 9]) (rest := []) ⟨hx, hb, hml, hown, hts⟩ (c_pO9 l dC dI tp te s.heap.size) (va_cwS 1 hts g_jn9_1 rfl rfl rfl (by decide +kernel) ⟨Nat.le_of_ble_eq_true rfl, Nat.le_of_ble_eq_true rfl⟩) ⟨Pw.blind, Pw.mk hPc hKc hDc hG hS hFc⟩ rfl rfl hl.1 rfl (lv_room (Nat.le_of_ble_eq_true rfl)) dX7_join_1 ⟨Nat.le_of_ble_eq_true rfl, Nat.le_of_ble_eq_true rfl⟩) hS (fun q _ h => hFc q h) hFc (fun r u t9 H_1 locs ht hvm hw hB hz1 hk1 hS => ?_)
  have hw : r = 1 := hw
  subst hw
  obtain ⟨hP, hD⟩ := va_join (wr := [(h0, .inr (8, [.ref rp, .int 0, .ref rt, .ref rc, .int ((-1)), .ref r1, .ref r2, .ref r3, .ref r4, .null, .int 0]))]) (w1 := []) hP hD [] [0] rfl rfl (by decide) (by decide) hk1 hFc va_P.nil va_D.nil
  have hK := hK.sub (tys' := []) [] rfl
  have hP : va_P (dC, dI) vwCl [(h0, .inr (8, [.ref rp, .int 0, .ref rt, .ref rc, .int ((-1)), .ref r1, .ref r2, .ref r3, .ref r4, .null, .int 0]))] H_1 := hP
  have hD : va_D A [(h0, .inr (8, [.ref rp, .int 0, .ref rt, .ref rc, .int ((-1)), .ref r1, .ref r2, .ref r3, .ref r4, .null, .int 0]))] := hD
  have hK : va_K (dC, dI) vwCl [] s := hK
  refine W.widen (k := 0) (n := 0) (Nat.le_of_ble_eq_true rfl) (Nat.le_of_ble_eq_true rfl) ?_
  refine lv_istore (lv' := [(4, .int 1), (0, .ref h0), (1, .int 9), (2, .int p1), (3, .int p2)]) hx hb dX7_join_4 hl (by decide) rfl (fun ls hl => ?_)
  refine lv_aload_n hx hb dX7_join_6 rfl (lv_at hl 1 rfl) ?_
  refine va_get (D := (dC, dI)) (ci := 8) (v := .int 0) (C := RX7) (T := TX7) (N := 11) hx hb hts in_z_jn9_X7 hown hK hP 0 rfl rfl 1 (by decide) (hts (.fieldLink RX7 72 "Selfkindle" "height" "I") (List.mem_of_getElem? (i := 6) rfl)) (fun _ h9 => h9) rfl dX7_join_7 ?_
  refine lv_iload hx hb dX7_join_10 (lv_at hl 0 rfl) ?_
  refine lv_icmp_lt (tgt := 29) hx hb dX7_join_12 (by decide) (fun c9 => ?_) (fun c9 => absurd (by decide) c9)
  exact vx_throw0 (A := A) (own := RX7) (cls := "java/lang/IllegalStateException") (names := ["java/lang/RuntimeException", "java/lang/Exception"]) (ik := 75) (ic := 77) hx hb hlt hown (by decide +kernel) (by decide +kernel) (hts (.classLink RX7 75 "java/lang/IllegalStateException") (List.mem_of_getElem? (i := 7) rfl)) (hts (.initialized "java/lang/IllegalStateException") (List.mem_of_getElem? (i := 8) rfl)) (vx_hat (B := [.castable "java/lang/IllegalStateException" "java/lang/IllegalStateException", .declares (Bundle.init0 "java/lang/RuntimeException"), .declares (Bundle.init0 "java/lang/Exception"), .declares (Bundle.init0 "java/lang/Throwable")]) (fun w9 h9 => hts w9 (List.mem_cons_of_mem _ (List.mem_append_right _ (h9)))) (by decide +kernel) (vx_c (va_Nw.use rfl hG.2.2.2.2.2.2.1) (vx_c (va_Nw.use rfl hG.2.2.2.2.2.2.2.2.2.2.2.2.2.2.1) (vx_c (va_Nw.use rfl hG.2.2.2.2.2.2.2.2.2.2.2.2.2.2.2.1) (vx_c (va_Nw.use rfl hG.2.2.2.2.2.2.2.2.2.2.2.2.2.2.2.2) vx_n))))) (by decide +kernel) hG.2.2.2.2.1 hG.2.2.2.2.2.1 hS (by rw [hml]; exact hl.1) dX7_join_29 dX7_join_32 dX7_join_33 dX7_join_36 (fun x9 h9 => (htab x9 h9).elim) (Nat.le_of_ble_eq_true rfl) (Nat.le_of_ble_eq_true rfl) (Nat.le_of_ble_eq_true rfl) (Nat.le_of_ble_eq_true rfl) hlocks (fun t9 _ hz9 hk9 => ⟨(), trivial, rfl, ⟨Nat.le_trans hS.1 hz9, fun q h1 h2 => (hk9 q (Nat.lt_of_lt_of_le h1 hS.1)).trans (hS.2.1 q h1 h2)⟩⟩) hS.2.2 (Nat.le_of_ble_eq_true rfl) (Nat.le_of_ble_eq_true rfl)

set_option maxRecDepth 20000 in
def z_jn10 : List Cond := .code yX7_join cX7_join 5 (some .int) :: (([.methodLink RX7 173 yX5_partsOf, .static yX5_partsOf, .initialized RX5, .code yX5_partsOf cX5_partsOf 1 (some .int), .fieldLink RX5 34 "Selfkindle$Term" "PARTS_OF" "[I", .fieldLink RX7 72 "Selfkindle" "height" "I", .classLink RX7 75 "java/lang/IllegalStateException", .initialized "java/lang/IllegalStateException"] : List Cond) ++ wsX70 ++ (vx_at0 RX7 77 "java/lang/IllegalStateException" ["java/lang/RuntimeException", "java/lang/Exception"]).filter goodWord)
theorem in_z_jn10_X7 : ∀ w ∈ wsX70, w ∈ z_jn10 := fun w h => List.mem_cons_of_mem _ (List.mem_append_left _ (List.mem_append_right _ (h)))
set_option maxRecDepth 20000 in
theorem g_jn10_1 : GoodIn z_jn10 (va_wsS RX7 173 yX5_partsOf z_pO10) := goodIn_p _ [4] rfl (by decide +kernel)
set_option maxHeartbeats 4000000 in
set_option maxRecDepth 100000 in
theorem c_jn10 (l : Launch) (dC : Nat → ClassId) (dI : Nat → Nat → Nat) (tp te : Nat) (sz : Nat) (hlt : l.stackTraces = false) (h0 : Nat) (rp : Nat) (rt : Nat) (rc : Nat) (r1 : Nat) (r2 : Nat) (r3 : Nat) (r4 : Nat) (p1 : Int32) (p2 : Int32)  : vx_Met l yX7_join z_jn10 ({ frames := 6, cells := 1, slots := 6, locals := 81 }) (va_Pc [.ref h0, .int 10, .int p1, .int p2] (Pw dC dI [(h0, .inr (8, [.ref rp, .int 0, .ref rt, .ref rc, .int ((-1)), .ref r1, .ref r2, .ref r3, .ref r4, .null, .int 0]))] [] sz tp te)) (va_Qi (fun (r : Int32) (_ : Unit) => False) (fun (_ : Unit) (_ : State) => True) (va_A [(h0, .inr (8, [.ref rp, .int 0, .ref rt, .ref rc, .int ((-1)), .ref r1, .ref r2, .ref r3, .ref r4, .null, .int 0]))] sz)) (vx_X (fun (_ : Unit) => True) (fun (E : String) (_ : Unit) (_ : State) => E = "java/lang/IllegalStateException") (va_A [(h0, .inr (8, [.ref rp, .int 0, .ref rt, .ref rc, .int ((-1)), .ref r1, .ref r2, .ref r3, .ref r4, .null, .int 0]))] sz)) 1 6 (va_A [(h0, .inr (8, [.ref rp, .int 0, .ref rt, .ref rc, .int ((-1)), .ref r1, .ref r2, .ref r3, .ref r4, .null, .int 0]))] sz) := by
  refine vx_ofW (cc := cX7_join) (maxL := 5) (ret := (some .int)) (by decide) rfl ?_
  intro p e s m args below meth c s₁ B hml htab hv
  obtain ⟨rfl, hsz, hP, hK, hD0, hG⟩ := hv
  have hx := B.exec
  have hb := B.bytes
  have hr := B.returns
  have hts := atoms_spec (ws := z_jn10) B.pre
  have hown : s.vm.findClass RX7 = some m.cls := findClass_of_methodNamed B.named
  have hlocks := B.notSynchronized
  subst hsz
  have hD := hD0.self (sz := s.heap.size)
  generalize hAe : va_A [(h0, .inr (8, [.ref rp, .int 0, .ref rt, .ref rc, .int ((-1)), .ref r1, .ref r2, .ref r3, .ref r4, .null, .int 0]))] s.heap.size = A at hD hG ⊢
  have hA : ∀ q : Nat, s.heap.size ≤ q → A q := fun q h => by rw [← hAe]; exact Or.inr h
  have hS : va_S A s.heap s.heap [] := va_S.rf
  have hl := lv_entry ([.ref h0, .int 10, .int p1, .int p2]) (n := 5) (Nat.le_of_ble_eq_true rfl)
  rw [lg_entry_eq]
  generalize (lg_sl ([.ref h0, .int 10, .int p1, .int p2]) ++ List.replicate (5 - (lg_sl ([.ref h0, .int 10, .int p1, .int p2])).length) Slot.unset).toArray = ls at hl ⊢
  have hl : lv_has ls 5 [(0, .ref h0), (1, .int 10), (2, .int p1), (3, .int p2)] := hl
  refine lv_iload_n hx hb dX7_join_0 rfl (lv_at hl 1 rfl) ?_
  have hPc := hP.sub (ws' := []) [] rfl
  have hDc := hD.sub (ws' := []) [] (by decide) rfl
  have hKc := hK.sub (tys' := []) [] rfl
  have hFc := va_free (wc := []) hD hS hA [] rfl
  refine va_calli (va_runS (As := [.int 10]) (rest := []) ⟨hx, hb, hml, hown, hts⟩ (c_pO10 l dC dI tp te s.heap.size) (va_cwS 1 hts g_jn10_1 rfl rfl rfl (by decide +kernel) ⟨Nat.le_of_ble_eq_true rfl, Nat.le_of_ble_eq_true rfl⟩) ⟨Pw.blind, Pw.mk hPc hKc hDc hG hS hFc⟩ rfl rfl hl.1 rfl (lv_room (Nat.le_of_ble_eq_true rfl)) dX7_join_1 ⟨Nat.le_of_ble_eq_true rfl, Nat.le_of_ble_eq_true rfl⟩) hS (fun q _ h => hFc q h) hFc (fun r u t9 H_1 locs ht hvm hw hB hz1 hk1 hS => ?_)
  have hw : r = 1 := hw
  subst hw
  obtain ⟨hP, hD⟩ := va_join (wr := [(h0, .inr (8, [.ref rp, .int 0, .ref rt, .ref rc, .int ((-1)), .ref r1, .ref r2, .ref r3, .ref r4, .null, .int 0]))]) (w1 := []) hP hD [] [0] rfl rfl (by decide) (by decide) hk1 hFc va_P.nil va_D.nil
  have hK := hK.sub (tys' := []) [] rfl
  have hP : va_P (dC, dI) vwCl [(h0, .inr (8, [.ref rp, .int 0, .ref rt, .ref rc, .int ((-1)), .ref r1, .ref r2, .ref r3, .ref r4, .null, .int 0]))] H_1 := hP
  have hD : va_D A [(h0, .inr (8, [.ref rp, .int 0, .ref rt, .ref rc, .int ((-1)), .ref r1, .ref r2, .ref r3, .ref r4, .null, .int 0]))] := hD
  have hK : va_K (dC, dI) vwCl [] s := hK
  refine W.widen (k := 0) (n := 0) (Nat.le_of_ble_eq_true rfl) (Nat.le_of_ble_eq_true rfl) ?_
  refine lv_istore (lv' := [(4, .int 1), (0, .ref h0), (1, .int 10), (2, .int p1), (3, .int p2)]) hx hb dX7_join_4 hl (by decide) rfl (fun ls hl => ?_)
  refine lv_aload_n hx hb dX7_join_6 rfl (lv_at hl 1 rfl) ?_
  refine va_get (D := (dC, dI)) (ci := 8) (v := .int 0) (C := RX7) (T := TX7) (N := 11) hx hb hts in_z_jn10_X7 hown hK hP 0 rfl rfl 1 (by decide) (hts (.fieldLink RX7 72 "Selfkindle" "height" "I") (List.mem_of_getElem? (i := 6) rfl)) (fun _ h9 => h9) rfl dX7_join_7 ?_
  refine lv_iload hx hb dX7_join_10 (lv_at hl 0 rfl) ?_
  refine lv_icmp_lt (tgt := 29) hx hb dX7_join_12 (by decide) (fun c9 => ?_) (fun c9 => absurd (by decide) c9)
  exact vx_throw0 (A := A) (own := RX7) (cls := "java/lang/IllegalStateException") (names := ["java/lang/RuntimeException", "java/lang/Exception"]) (ik := 75) (ic := 77) hx hb hlt hown (by decide +kernel) (by decide +kernel) (hts (.classLink RX7 75 "java/lang/IllegalStateException") (List.mem_of_getElem? (i := 7) rfl)) (hts (.initialized "java/lang/IllegalStateException") (List.mem_of_getElem? (i := 8) rfl)) (vx_hat (B := [.castable "java/lang/IllegalStateException" "java/lang/IllegalStateException", .declares (Bundle.init0 "java/lang/RuntimeException"), .declares (Bundle.init0 "java/lang/Exception"), .declares (Bundle.init0 "java/lang/Throwable")]) (fun w9 h9 => hts w9 (List.mem_cons_of_mem _ (List.mem_append_right _ (h9)))) (by decide +kernel) (vx_c (va_Nw.use rfl hG.2.2.2.2.2.2.1) (vx_c (va_Nw.use rfl hG.2.2.2.2.2.2.2.2.2.2.2.2.2.2.1) (vx_c (va_Nw.use rfl hG.2.2.2.2.2.2.2.2.2.2.2.2.2.2.2.1) (vx_c (va_Nw.use rfl hG.2.2.2.2.2.2.2.2.2.2.2.2.2.2.2.2) vx_n))))) (by decide +kernel) hG.2.2.2.2.1 hG.2.2.2.2.2.1 hS (by rw [hml]; exact hl.1) dX7_join_29 dX7_join_32 dX7_join_33 dX7_join_36 (fun x9 h9 => (htab x9 h9).elim) (Nat.le_of_ble_eq_true rfl) (Nat.le_of_ble_eq_true rfl) (Nat.le_of_ble_eq_true rfl) (Nat.le_of_ble_eq_true rfl) hlocks (fun t9 _ hz9 hk9 => ⟨(), trivial, rfl, ⟨Nat.le_trans hS.1 hz9, fun q h1 h2 => (hk9 q (Nat.lt_of_lt_of_le h1 hS.1)).trans (hS.2.1 q h1 h2)⟩⟩) hS.2.2 (Nat.le_of_ble_eq_true rfl) (Nat.le_of_ble_eq_true rfl)

set_option maxRecDepth 20000 in
def z_jn11 : List Cond := .code yX7_join cX7_join 5 (some .int) :: (([.methodLink RX7 173 yX5_partsOf, .static yX5_partsOf, .initialized RX5, .code yX5_partsOf cX5_partsOf 1 (some .int), .fieldLink RX5 34 "Selfkindle$Term" "PARTS_OF" "[I", .fieldLink RX7 72 "Selfkindle" "height" "I", .classLink RX7 75 "java/lang/IllegalStateException", .initialized "java/lang/IllegalStateException"] : List Cond) ++ wsX70 ++ (vx_at0 RX7 77 "java/lang/IllegalStateException" ["java/lang/RuntimeException", "java/lang/Exception"]).filter goodWord)
theorem in_z_jn11_X7 : ∀ w ∈ wsX70, w ∈ z_jn11 := fun w h => List.mem_cons_of_mem _ (List.mem_append_left _ (List.mem_append_right _ (h)))
set_option maxRecDepth 20000 in
theorem g_jn11_1 : GoodIn z_jn11 (va_wsS RX7 173 yX5_partsOf z_pO11) := goodIn_p _ [4] rfl (by decide +kernel)
set_option maxHeartbeats 4000000 in
set_option maxRecDepth 100000 in
theorem c_jn11 (l : Launch) (dC : Nat → ClassId) (dI : Nat → Nat → Nat) (tp te : Nat) (sz : Nat) (hlt : l.stackTraces = false) (h0 : Nat) (rp : Nat) (rt : Nat) (rc : Nat) (r1 : Nat) (r2 : Nat) (r3 : Nat) (r4 : Nat) (p1 : Int32) (p2 : Int32)  : vx_Met l yX7_join z_jn11 ({ frames := 6, cells := 1, slots := 6, locals := 81 }) (va_Pc [.ref h0, .int 11, .int p1, .int p2] (Pw dC dI [(h0, .inr (8, [.ref rp, .int 0, .ref rt, .ref rc, .int ((-1)), .ref r1, .ref r2, .ref r3, .ref r4, .null, .int 0]))] [] sz tp te)) (va_Qi (fun (r : Int32) (_ : Unit) => False) (fun (_ : Unit) (_ : State) => True) (va_A [(h0, .inr (8, [.ref rp, .int 0, .ref rt, .ref rc, .int ((-1)), .ref r1, .ref r2, .ref r3, .ref r4, .null, .int 0]))] sz)) (vx_X (fun (_ : Unit) => True) (fun (E : String) (_ : Unit) (_ : State) => E = "java/lang/IllegalStateException") (va_A [(h0, .inr (8, [.ref rp, .int 0, .ref rt, .ref rc, .int ((-1)), .ref r1, .ref r2, .ref r3, .ref r4, .null, .int 0]))] sz)) 1 6 (va_A [(h0, .inr (8, [.ref rp, .int 0, .ref rt, .ref rc, .int ((-1)), .ref r1, .ref r2, .ref r3, .ref r4, .null, .int 0]))] sz) := by
  refine vx_ofW (cc := cX7_join) (maxL := 5) (ret := (some .int)) (by decide) rfl ?_
  intro p e s m args below meth c s₁ B hml htab hv
  obtain ⟨rfl, hsz, hP, hK, hD0, hG⟩ := hv
  have hx := B.exec
  have hb := B.bytes
  have hr := B.returns
  have hts := atoms_spec (ws := z_jn11) B.pre
  have hown : s.vm.findClass RX7 = some m.cls := findClass_of_methodNamed B.named
  have hlocks := B.notSynchronized
  subst hsz
  have hD := hD0.self (sz := s.heap.size)
  generalize hAe : va_A [(h0, .inr (8, [.ref rp, .int 0, .ref rt, .ref rc, .int ((-1)), .ref r1, .ref r2, .ref r3, .ref r4, .null, .int 0]))] s.heap.size = A at hD hG ⊢
  have hA : ∀ q : Nat, s.heap.size ≤ q → A q := fun q h => by rw [← hAe]; exact Or.inr h
  have hS : va_S A s.heap s.heap [] := va_S.rf
  have hl := lv_entry ([.ref h0, .int 11, .int p1, .int p2]) (n := 5) (Nat.le_of_ble_eq_true rfl)
  rw [lg_entry_eq]
  generalize (lg_sl ([.ref h0, .int 11, .int p1, .int p2]) ++ List.replicate (5 - (lg_sl ([.ref h0, .int 11, .int p1, .int p2])).length) Slot.unset).toArray = ls at hl ⊢
  have hl : lv_has ls 5 [(0, .ref h0), (1, .int 11), (2, .int p1), (3, .int p2)] := hl
  refine lv_iload_n hx hb dX7_join_0 rfl (lv_at hl 1 rfl) ?_
  have hPc := hP.sub (ws' := []) [] rfl
  have hDc := hD.sub (ws' := []) [] (by decide) rfl
  have hKc := hK.sub (tys' := []) [] rfl
  have hFc := va_free (wc := []) hD hS hA [] rfl
  refine va_calli (va_runS (As := [.int 11]) (rest := []) ⟨hx, hb, hml, hown, hts⟩ (c_pO11 l dC dI tp te s.heap.size) (va_cwS 1 hts g_jn11_1 rfl rfl rfl (by decide +kernel) ⟨Nat.le_of_ble_eq_true rfl, Nat.le_of_ble_eq_true rfl⟩) ⟨Pw.blind, Pw.mk hPc hKc hDc hG hS hFc⟩ rfl rfl hl.1 rfl (lv_room (Nat.le_of_ble_eq_true rfl)) dX7_join_1 ⟨Nat.le_of_ble_eq_true rfl, Nat.le_of_ble_eq_true rfl⟩) hS (fun q _ h => hFc q h) hFc (fun r u t9 H_1 locs ht hvm hw hB hz1 hk1 hS => ?_)
  have hw : r = 2 := hw
  subst hw
  obtain ⟨hP, hD⟩ := va_join (wr := [(h0, .inr (8, [.ref rp, .int 0, .ref rt, .ref rc, .int ((-1)), .ref r1, .ref r2, .ref r3, .ref r4, .null, .int 0]))]) (w1 := []) hP hD [] [0] rfl rfl (by decide) (by decide) hk1 hFc va_P.nil va_D.nil
  have hK := hK.sub (tys' := []) [] rfl
  have hP : va_P (dC, dI) vwCl [(h0, .inr (8, [.ref rp, .int 0, .ref rt, .ref rc, .int ((-1)), .ref r1, .ref r2, .ref r3, .ref r4, .null, .int 0]))] H_1 := hP
  have hD : va_D A [(h0, .inr (8, [.ref rp, .int 0, .ref rt, .ref rc, .int ((-1)), .ref r1, .ref r2, .ref r3, .ref r4, .null, .int 0]))] := hD
  have hK : va_K (dC, dI) vwCl [] s := hK
  refine W.widen (k := 0) (n := 0) (Nat.le_of_ble_eq_true rfl) (Nat.le_of_ble_eq_true rfl) ?_
  refine lv_istore (lv' := [(4, .int 2), (0, .ref h0), (1, .int 11), (2, .int p1), (3, .int p2)]) hx hb dX7_join_4 hl (by decide) rfl (fun ls hl => ?_)
  refine lv_aload_n hx hb dX7_join_6 rfl (lv_at hl 1 rfl) ?_
  refine va_get (D := (dC, dI)) (ci := 8) (v := .int 0) (C := RX7) (T := TX7) (N := 11) hx hb hts in_z_jn11_X7 hown hK hP 0 rfl rfl 1 (by decide) (hts (.fieldLink RX7 72 "Selfkindle" "height" "I") (List.mem_of_getElem? (i := 6) rfl)) (fun _ h9 => h9) rfl dX7_join_7 ?_
  refine lv_iload hx hb dX7_join_10 (lv_at hl 0 rfl) ?_
  refine lv_icmp_lt (tgt := 29) hx hb dX7_join_12 (by decide) (fun c9 => ?_) (fun c9 => absurd (by decide) c9)
  exact vx_throw0 (A := A) (own := RX7) (cls := "java/lang/IllegalStateException") (names := ["java/lang/RuntimeException", "java/lang/Exception"]) (ik := 75) (ic := 77) hx hb hlt hown (by decide +kernel) (by decide +kernel) (hts (.classLink RX7 75 "java/lang/IllegalStateException") (List.mem_of_getElem? (i := 7) rfl)) (hts (.initialized "java/lang/IllegalStateException") (List.mem_of_getElem? (i := 8) rfl)) (vx_hat (B := [.castable "java/lang/IllegalStateException" "java/lang/IllegalStateException", .declares (Bundle.init0 "java/lang/RuntimeException"), .declares (Bundle.init0 "java/lang/Exception"), .declares (Bundle.init0 "java/lang/Throwable")]) (fun w9 h9 => hts w9 (List.mem_cons_of_mem _ (List.mem_append_right _ (h9)))) (by decide +kernel) (vx_c (va_Nw.use rfl hG.2.2.2.2.2.2.1) (vx_c (va_Nw.use rfl hG.2.2.2.2.2.2.2.2.2.2.2.2.2.2.1) (vx_c (va_Nw.use rfl hG.2.2.2.2.2.2.2.2.2.2.2.2.2.2.2.1) (vx_c (va_Nw.use rfl hG.2.2.2.2.2.2.2.2.2.2.2.2.2.2.2.2) vx_n))))) (by decide +kernel) hG.2.2.2.2.1 hG.2.2.2.2.2.1 hS (by rw [hml]; exact hl.1) dX7_join_29 dX7_join_32 dX7_join_33 dX7_join_36 (fun x9 h9 => (htab x9 h9).elim) (Nat.le_of_ble_eq_true rfl) (Nat.le_of_ble_eq_true rfl) (Nat.le_of_ble_eq_true rfl) (Nat.le_of_ble_eq_true rfl) hlocks (fun t9 _ hz9 hk9 => ⟨(), trivial, rfl, ⟨Nat.le_trans hS.1 hz9, fun q h1 h2 => (hk9 q (Nat.lt_of_lt_of_le h1 hS.1)).trans (hS.2.1 q h1 h2)⟩⟩) hS.2.2 (Nat.le_of_ble_eq_true rfl) (Nat.le_of_ble_eq_true rfl)

set_option maxRecDepth 20000 in
def z_X_function_neg : List Cond := .code yX7_function cX7_function 2 (some .int) :: (([.methodLink RX7 62 yX7_checkName, .static yX7_checkName, .initialized RX7, .code yX7_checkName cX7_checkName 1 none, .classLink RX7 107 "java/lang/IndexOutOfBoundsException", .initialized "java/lang/IndexOutOfBoundsException"] : List Cond) ++ (vx_at0 RX7 109 "java/lang/IndexOutOfBoundsException" ["java/lang/RuntimeException", "java/lang/Exception"]).filter goodWord)
set_option maxRecDepth 20000 in
theorem gg_X_function_neg_1 : GoodIn z_X_function_neg z_cN_neg := goodIn_ca (goodIn_p _ [4] rfl (by decide +kernel)) (goodIn_sub (fun _ h => List.mem_cons_of_mem _ (List.mem_append_right _ (h))) (by decide +kernel))
set_option maxRecDepth 20000 in
theorem g_X_function_neg_1 : GoodIn z_X_function_neg (va_wsS RX7 62 yX7_checkName z_cN_neg) := goodIn_app (goodIn_of _ (by decide +kernel)) gg_X_function_neg_1
set_option maxHeartbeats 4000000 in
set_option maxRecDepth 100000 in
theorem c_X_function_neg (l : Launch) (dC : Nat → ClassId) (dI : Nat → Nat → Nat) (tp te : Nat) (sz : Nat) (hlt : l.stackTraces = false) (h0 : Nat) (rp : Nat) (rt : Nat) (rc : Nat) (r1 : Nat) (r2 : Nat) (r3 : Nat) (r4 : Nat) (p0 : Int32) (hvn : p0 < 0) : vx_Met l yX7_function z_X_function_neg ({ frames := 7, cells := 1, slots := 6, locals := 101 }) (va_Pc [.ref h0, .int p0] (Pw dC dI [(h0, .inr (8, [.ref rp, .int 0, .ref rt, .ref rc, .int ((-1)), .ref r1, .ref r2, .ref r3, .ref r4, .null, .int 0]))] [] sz tp te)) (va_Qi (fun (r : Int32) (_ : Unit) => False) (fun (_ : Unit) (_ : State) => True) (va_A [(h0, .inr (8, [.ref rp, .int 0, .ref rt, .ref rc, .int ((-1)), .ref r1, .ref r2, .ref r3, .ref r4, .null, .int 0]))] sz)) (vx_X (fun (_ : Unit) => True) (fun (E : String) (_ : Unit) (_ : State) => E = "java/lang/IndexOutOfBoundsException") (va_A [(h0, .inr (8, [.ref rp, .int 0, .ref rt, .ref rc, .int ((-1)), .ref r1, .ref r2, .ref r3, .ref r4, .null, .int 0]))] sz)) 1 6 (va_A [(h0, .inr (8, [.ref rp, .int 0, .ref rt, .ref rc, .int ((-1)), .ref r1, .ref r2, .ref r3, .ref r4, .null, .int 0]))] sz) := by
  refine vx_ofW (cc := cX7_function) (maxL := 2) (ret := (some .int)) (by decide) rfl ?_
  intro p e s m args below meth c s₁ B hml htab hv
  obtain ⟨rfl, hsz, hP, hK, hD0, hG⟩ := hv
  have hx := B.exec
  have hb := B.bytes
  have hr := B.returns
  have hts := atoms_spec (ws := z_X_function_neg) B.pre
  have hown : s.vm.findClass RX7 = some m.cls := findClass_of_methodNamed B.named
  have hlocks := B.notSynchronized
  subst hsz
  have hD := hD0.self (sz := s.heap.size)
  generalize hAe : va_A [(h0, .inr (8, [.ref rp, .int 0, .ref rt, .ref rc, .int ((-1)), .ref r1, .ref r2, .ref r3, .ref r4, .null, .int 0]))] s.heap.size = A at hD hG ⊢
  have hA : ∀ q : Nat, s.heap.size ≤ q → A q := fun q h => by rw [← hAe]; exact Or.inr h
  have hS : va_S A s.heap s.heap [] := va_S.rf
  have hl := lv_entry ([.ref h0, .int p0]) (n := 2) (Nat.le_of_ble_eq_true rfl)
  rw [lg_entry_eq]
  generalize (lg_sl ([.ref h0, .int p0]) ++ List.replicate (2 - (lg_sl ([.ref h0, .int p0])).length) Slot.unset).toArray = ls at hl ⊢
  have hl : lv_has ls 2 [(0, .ref h0), (1, .int p0)] := hl
  refine lv_iload_n hx hb dX7_function_0 rfl (lv_at hl 1 rfl) ?_
  have hPc := hP.sub (ws' := []) [] rfl
  have hDc := hD.sub (ws' := []) [] (by decide) rfl
  have hKc := hK.sub (tys' := []) [] rfl
  have hFc := va_free (wc := []) hD hS hA [] rfl
  refine vx_callv (vx_runS (As := [.int p0]) (rest := []) ⟨hx, hb, hml, hown, hts⟩ (c_cN_neg l dC dI tp te s.heap.size hlt p0 hvn) (va_cwS 1 hts g_X_function_neg_1 rfl rfl rfl (by decide +kernel) ⟨Nat.le_of_ble_eq_true rfl, Nat.le_of_ble_eq_true rfl⟩) ⟨Pw.blind, Pw.mk hPc hKc hDc hG hS hFc⟩ rfl rfl hl.1 rfl (lv_room (Nat.le_of_ble_eq_true rfl)) dX7_function_1 ⟨Nat.le_of_ble_eq_true rfl, Nat.le_of_ble_eq_true rfl⟩) hS (fun q _ h => hFc q h) hFc (fun q _ h => hFc q h) (fun E ce q9 u t9 H1 locs ht hvm hpx hBX hz1 hk1 hS hce hcv hcl => ?_) (fun u t9 H_1 locs ht hvm hw hB hz1 hk1 hS => hw.elim)
  have hBX : E = "java/lang/IndexOutOfBoundsException" := hBX
  subst hBX
  exact vx_out (fun x9 h9 => (htab x9 h9).elim) hlocks hce hcv hcl (fun t9 ht9 _ => ⟨(), trivial, rfl, hS.F ht9⟩) hS.2.2 (Nat.le_of_ble_eq_true rfl) (Nat.le_of_ble_eq_true rfl)

set_option maxRecDepth 20000 in
def z_X_function_big : List Cond := .code yX7_function cX7_function 2 (some .int) :: (([.methodLink RX7 62 yX7_checkName, .static yX7_checkName, .initialized RX7, .code yX7_checkName cX7_checkName 1 none, .classLink RX7 107 "java/lang/IndexOutOfBoundsException", .initialized "java/lang/IndexOutOfBoundsException"] : List Cond) ++ (vx_at0 RX7 109 "java/lang/IndexOutOfBoundsException" ["java/lang/RuntimeException", "java/lang/Exception"]).filter goodWord)
set_option maxRecDepth 20000 in
theorem gg_X_function_big_1 : GoodIn z_X_function_big z_cN_big := goodIn_ca (goodIn_p _ [4] rfl (by decide +kernel)) (goodIn_sub (fun _ h => List.mem_cons_of_mem _ (List.mem_append_right _ (h))) (by decide +kernel))
set_option maxRecDepth 20000 in
theorem g_X_function_big_1 : GoodIn z_X_function_big (va_wsS RX7 62 yX7_checkName z_cN_big) := goodIn_app (goodIn_of _ (by decide +kernel)) gg_X_function_big_1
set_option maxHeartbeats 4000000 in
set_option maxRecDepth 100000 in
theorem c_X_function_big (l : Launch) (dC : Nat → ClassId) (dI : Nat → Nat → Nat) (tp te : Nat) (sz : Nat) (hlt : l.stackTraces = false) (h0 : Nat) (rp : Nat) (rt : Nat) (rc : Nat) (r1 : Nat) (r2 : Nat) (r3 : Nat) (r4 : Nat) (p0 : Int32) (hvn : ¬ p0 < 0) (hvb : ¬ p0 < 10) (hvc : 10 ≤ p0) : vx_Met l yX7_function z_X_function_big ({ frames := 7, cells := 1, slots := 6, locals := 101 }) (va_Pc [.ref h0, .int p0] (Pw dC dI [(h0, .inr (8, [.ref rp, .int 0, .ref rt, .ref rc, .int ((-1)), .ref r1, .ref r2, .ref r3, .ref r4, .null, .int 0]))] [] sz tp te)) (va_Qi (fun (r : Int32) (_ : Unit) => False) (fun (_ : Unit) (_ : State) => True) (va_A [(h0, .inr (8, [.ref rp, .int 0, .ref rt, .ref rc, .int ((-1)), .ref r1, .ref r2, .ref r3, .ref r4, .null, .int 0]))] sz)) (vx_X (fun (_ : Unit) => True) (fun (E : String) (_ : Unit) (_ : State) => E = "java/lang/IndexOutOfBoundsException") (va_A [(h0, .inr (8, [.ref rp, .int 0, .ref rt, .ref rc, .int ((-1)), .ref r1, .ref r2, .ref r3, .ref r4, .null, .int 0]))] sz)) 1 6 (va_A [(h0, .inr (8, [.ref rp, .int 0, .ref rt, .ref rc, .int ((-1)), .ref r1, .ref r2, .ref r3, .ref r4, .null, .int 0]))] sz) := by
  refine vx_ofW (cc := cX7_function) (maxL := 2) (ret := (some .int)) (by decide) rfl ?_
  intro p e s m args below meth c s₁ B hml htab hv
  obtain ⟨rfl, hsz, hP, hK, hD0, hG⟩ := hv
  have hx := B.exec
  have hb := B.bytes
  have hr := B.returns
  have hts := atoms_spec (ws := z_X_function_big) B.pre
  have hown : s.vm.findClass RX7 = some m.cls := findClass_of_methodNamed B.named
  have hlocks := B.notSynchronized
  subst hsz
  have hD := hD0.self (sz := s.heap.size)
  generalize hAe : va_A [(h0, .inr (8, [.ref rp, .int 0, .ref rt, .ref rc, .int ((-1)), .ref r1, .ref r2, .ref r3, .ref r4, .null, .int 0]))] s.heap.size = A at hD hG ⊢
  have hA : ∀ q : Nat, s.heap.size ≤ q → A q := fun q h => by rw [← hAe]; exact Or.inr h
  have hS : va_S A s.heap s.heap [] := va_S.rf
  have hl := lv_entry ([.ref h0, .int p0]) (n := 2) (Nat.le_of_ble_eq_true rfl)
  rw [lg_entry_eq]
  generalize (lg_sl ([.ref h0, .int p0]) ++ List.replicate (2 - (lg_sl ([.ref h0, .int p0])).length) Slot.unset).toArray = ls at hl ⊢
  have hl : lv_has ls 2 [(0, .ref h0), (1, .int p0)] := hl
  refine lv_iload_n hx hb dX7_function_0 rfl (lv_at hl 1 rfl) ?_
  have hPc := hP.sub (ws' := []) [] rfl
  have hDc := hD.sub (ws' := []) [] (by decide) rfl
  have hKc := hK.sub (tys' := []) [] rfl
  have hFc := va_free (wc := []) hD hS hA [] rfl
  refine vx_callv (vx_runS (As := [.int p0]) (rest := []) ⟨hx, hb, hml, hown, hts⟩ (c_cN_big l dC dI tp te s.heap.size hlt p0 hvn hvb hvc) (va_cwS 1 hts g_X_function_big_1 rfl rfl rfl (by decide +kernel) ⟨Nat.le_of_ble_eq_true rfl, Nat.le_of_ble_eq_true rfl⟩) ⟨Pw.blind, Pw.mk hPc hKc hDc hG hS hFc⟩ rfl rfl hl.1 rfl (lv_room (Nat.le_of_ble_eq_true rfl)) dX7_function_1 ⟨Nat.le_of_ble_eq_true rfl, Nat.le_of_ble_eq_true rfl⟩) hS (fun q _ h => hFc q h) hFc (fun q _ h => hFc q h) (fun E ce q9 u t9 H1 locs ht hvm hpx hBX hz1 hk1 hS hce hcv hcl => ?_) (fun u t9 H_1 locs ht hvm hw hB hz1 hk1 hS => hw.elim)
  have hBX : E = "java/lang/IndexOutOfBoundsException" := hBX
  subst hBX
  exact vx_out (fun x9 h9 => (htab x9 h9).elim) hlocks hce hcv hcl (fun t9 ht9 _ => ⟨(), trivial, rfl, hS.F ht9⟩) hS.2.2 (Nat.le_of_ble_eq_true rfl) (Nat.le_of_ble_eq_true rfl)

set_option maxRecDepth 20000 in
def z_X_function_ok : List Cond := .code yX7_function cX7_function 2 (some .int) :: (([.methodLink RX7 62 yX7_checkName, .static yX7_checkName, .initialized RX7, .code yX7_checkName cX7_checkName 1 none, .methodLink RX7 65 yX7_join, .instanceMethod yX7_join, .selects RX7 yX7_join yX7_join, .code yX7_join cX7_join 5 (some .int), .methodLink RX7 173 yX5_partsOf, .static yX5_partsOf, .initialized RX5, .code yX5_partsOf cX5_partsOf 1 (some .int), .fieldLink RX5 34 "Selfkindle$Term" "PARTS_OF" "[I", .fieldLink RX7 72 "Selfkindle" "height" "I", .classLink RX7 75 "java/lang/IllegalStateException", .initialized "java/lang/IllegalStateException"] : List Cond) ++ wsX70 ++ (vx_at0 RX7 77 "java/lang/IllegalStateException" ["java/lang/RuntimeException", "java/lang/Exception"]).filter goodWord)
theorem in_z_X_function_ok_X7 : ∀ w ∈ wsX70, w ∈ z_X_function_ok := fun w h => List.mem_cons_of_mem _ (List.mem_append_left _ (List.mem_append_right _ (h)))
set_option maxRecDepth 20000 in
theorem g_X_function_ok_1 : GoodIn z_X_function_ok (va_wsS RX7 62 yX7_checkName z_cN_ok) := goodIn_p _ [4] rfl (by decide +kernel)
set_option maxRecDepth 20000 in
theorem gg_X_function_ok_8 : GoodIn z_X_function_ok z_jn2 := goodIn_ca (goodIn_p _ [8, 12] rfl (by decide +kernel)) (goodIn_sub (fun _ h => List.mem_cons_of_mem _ (List.mem_append_right _ (h))) (by decide +kernel))
set_option maxRecDepth 20000 in
theorem g_X_function_ok_8 : GoodIn z_X_function_ok (wsV RX7 65 RX7 yX7_join z_jn2) := goodIn_app (goodIn_of _ (by decide +kernel)) gg_X_function_ok_8
set_option maxHeartbeats 4000000 in
set_option maxRecDepth 100000 in
theorem c_X_function_ok (l : Launch) (dC : Nat → ClassId) (dI : Nat → Nat → Nat) (tp te : Nat) (sz : Nat) (hlt : l.stackTraces = false) (h0 : Nat) (rp : Nat) (rt : Nat) (rc : Nat) (r1 : Nat) (r2 : Nat) (r3 : Nat) (r4 : Nat) (p0 : Int32) (hvn : ¬ p0 < 0) (hvb : p0 < 10) (hvc : ¬ 10 ≤ p0) : vx_Met l yX7_function z_X_function_ok ({ frames := 7, cells := 1, slots := 6, locals := 105 }) (va_Pc [.ref h0, .int p0] (Pw dC dI [(h0, .inr (8, [.ref rp, .int 0, .ref rt, .ref rc, .int ((-1)), .ref r1, .ref r2, .ref r3, .ref r4, .null, .int 0]))] [] sz tp te)) (va_Qi (fun (r : Int32) (_ : Unit) => False) (fun (_ : Unit) (_ : State) => True) (va_A [(h0, .inr (8, [.ref rp, .int 0, .ref rt, .ref rc, .int ((-1)), .ref r1, .ref r2, .ref r3, .ref r4, .null, .int 0]))] sz)) (vx_X (fun (_ : Unit) => True) (fun (E : String) (_ : Unit) (_ : State) => E = "java/lang/IllegalStateException") (va_A [(h0, .inr (8, [.ref rp, .int 0, .ref rt, .ref rc, .int ((-1)), .ref r1, .ref r2, .ref r3, .ref r4, .null, .int 0]))] sz)) 1 6 (va_A [(h0, .inr (8, [.ref rp, .int 0, .ref rt, .ref rc, .int ((-1)), .ref r1, .ref r2, .ref r3, .ref r4, .null, .int 0]))] sz) := by
  refine vx_ofW (cc := cX7_function) (maxL := 2) (ret := (some .int)) (by decide) rfl ?_
  intro p e s m args below meth c s₁ B hml htab hv
  obtain ⟨rfl, hsz, hP, hK, hD0, hG⟩ := hv
  have hx := B.exec
  have hb := B.bytes
  have hr := B.returns
  have hts := atoms_spec (ws := z_X_function_ok) B.pre
  have hown : s.vm.findClass RX7 = some m.cls := findClass_of_methodNamed B.named
  have hlocks := B.notSynchronized
  subst hsz
  have hD := hD0.self (sz := s.heap.size)
  generalize hAe : va_A [(h0, .inr (8, [.ref rp, .int 0, .ref rt, .ref rc, .int ((-1)), .ref r1, .ref r2, .ref r3, .ref r4, .null, .int 0]))] s.heap.size = A at hD hG ⊢
  have hA : ∀ q : Nat, s.heap.size ≤ q → A q := fun q h => by rw [← hAe]; exact Or.inr h
  have hS : va_S A s.heap s.heap [] := va_S.rf
  have hl := lv_entry ([.ref h0, .int p0]) (n := 2) (Nat.le_of_ble_eq_true rfl)
  rw [lg_entry_eq]
  generalize (lg_sl ([.ref h0, .int p0]) ++ List.replicate (2 - (lg_sl ([.ref h0, .int p0])).length) Slot.unset).toArray = ls at hl ⊢
  have hl : lv_has ls 2 [(0, .ref h0), (1, .int p0)] := hl
  refine lv_iload_n hx hb dX7_function_0 rfl (lv_at hl 1 rfl) ?_
  have hPc := hP.sub (ws' := []) [] rfl
  have hDc := hD.sub (ws' := []) [] (by decide) rfl
  have hKc := hK.sub (tys' := []) [] rfl
  have hFc := va_free (wc := []) hD hS hA [] rfl
  refine va_callv (va_runS (As := [.int p0]) (rest := []) ⟨hx, hb, hml, hown, hts⟩ (c_cN_ok l dC dI tp te s.heap.size p0 hvn hvb hvc) (va_cwS 1 hts g_X_function_ok_1 rfl rfl rfl (by decide +kernel) ⟨Nat.le_of_ble_eq_true rfl, Nat.le_of_ble_eq_true rfl⟩) ⟨Pw.blind, Pw.mk hPc hKc hDc hG hS hFc⟩ rfl rfl hl.1 rfl (lv_room (Nat.le_of_ble_eq_true rfl)) dX7_function_1 ⟨Nat.le_of_ble_eq_true rfl, Nat.le_of_ble_eq_true rfl⟩) hS (fun q _ h => hFc q h) hFc (fun u t9 H_1 locs ht hvm hw hB hz1 hk1 hS => ?_)
  obtain ⟨hP, hD⟩ := va_join (wr := [(h0, .inr (8, [.ref rp, .int 0, .ref rt, .ref rc, .int ((-1)), .ref r1, .ref r2, .ref r3, .ref r4, .null, .int 0]))]) (w1 := []) hP hD [] [0] rfl rfl (by decide) (by decide) hk1 hFc va_P.nil va_D.nil
  have hK := hK.sub (tys' := []) [] rfl
  have hP : va_P (dC, dI) vwCl [(h0, .inr (8, [.ref rp, .int 0, .ref rt, .ref rc, .int ((-1)), .ref r1, .ref r2, .ref r3, .ref r4, .null, .int 0]))] H_1 := hP
  have hD : va_D A [(h0, .inr (8, [.ref rp, .int 0, .ref rt, .ref rc, .int ((-1)), .ref r1, .ref r2, .ref r3, .ref r4, .null, .int 0]))] := hD
  have hK : va_K (dC, dI) vwCl [] s := hK
  refine W.widen (k := 0) (n := 0) (Nat.le_of_ble_eq_true rfl) (Nat.le_of_ble_eq_true rfl) ?_
  refine lv_aload_n hx hb dX7_function_4 rfl (lv_at hl 0 rfl) ?_
  refine lv_iconst (v := 2) hx hb dX7_function_5 (by decide) ?_
  refine lv_iload_n hx hb dX7_function_6 rfl (lv_at hl 1 rfl) ?_
  refine lv_iconst (v := 0) hx hb dX7_function_7 (by decide) ?_
  have hPc := hP.sub (ws' := [(h0, .inr (8, [.ref rp, .int 0, .ref rt, .ref rc, .int ((-1)), .ref r1, .ref r2, .ref r3, .ref r4, .null, .int 0]))]) [0] rfl
  have hDc := hD.sub (ws' := [(h0, .inr (8, [.ref rp, .int 0, .ref rt, .ref rc, .int ((-1)), .ref r1, .ref r2, .ref r3, .ref r4, .null, .int 0]))]) [0] (by decide) rfl
  have hKc := hK.sub (tys' := []) [] rfl
  have hFc := va_free (wc := [(h0, .inr (8, [.ref rp, .int 0, .ref rt, .ref rc, .int ((-1)), .ref r1, .ref r2, .ref r3, .ref r4, .null, .int 0]))]) hD hS hA [0] rfl
  refine vx_calli (vx_runV (As := [.int 2, .int p0, .int 0]) (rest := []) ⟨hx, hb, hml, hown, hts⟩ (c_jn2 l dC dI tp te H_1.size hlt h0 rp rt rc r1 r2 r3 r4 p0 0) (cwV 3 hts g_X_function_ok_8 rfl rfl rfl (by decide +kernel) ⟨Nat.le_of_ble_eq_true rfl, Nat.le_of_ble_eq_true rfl⟩) ⟨Pw.blind, va_recv hKc hPc (ci := 8) (q0 := 0) rfl rfl, Pw.mk hPc hKc hDc hG hS hFc⟩ rfl rfl hl.1 rfl (lv_room (Nat.le_of_ble_eq_true rfl)) dX7_function_8 ⟨Nat.le_of_ble_eq_true rfl, Nat.le_of_ble_eq_true rfl⟩) hS (fun q _ h => hFc q h) hFc (fun q _ h => hFc q h) (fun E ce q9 u t9 H1 locs ht hvm hpx hBX hz1 hk1 hS hce hcv hcl => ?_) (fun r u t9 H_2 locs ht hvm hw hB hz1 hk1 hS => hw.elim)
  have hBX : E = "java/lang/IllegalStateException" := hBX
  subst hBX
  exact vx_out (fun x9 h9 => (htab x9 h9).elim) hlocks hce hcv hcl (fun t9 ht9 _ => ⟨(), trivial, rfl, hS.F ht9⟩) hS.2.2 (Nat.le_of_ble_eq_true rfl) (Nat.le_of_ble_eq_true rfl)
end
section
abbrev cX7_call : ByteArray := prog_1_method_5_code
def yX7_call : MethodName := ⟨RX7, "call", "()I"⟩
abbrev cX7_two : ByteArray := prog_1_method_6_code
def yX7_two : MethodName := ⟨RX7, "two", "(I)I"⟩
abbrev cX7_choose : ByteArray := prog_1_method_7_code
def yX7_choose : MethodName := ⟨RX7, "choose", "()I"⟩
abbrev cX7_let : ByteArray := prog_1_method_8_code
def yX7_let : MethodName := ⟨RX7, "let", "(I)I"⟩
abbrev cX7_rec : ByteArray := prog_1_method_9_code
def yX7_rec : MethodName := ⟨RX7, "rec", "(II)I"⟩
abbrev cX7_pair : ByteArray := prog_1_method_10_code
def yX7_pair : MethodName := ⟨RX7, "pair", "()I"⟩
abbrev cX7_half : ByteArray := prog_1_method_11_code
def yX7_half : MethodName := ⟨RX7, "half", "(Z)I"⟩
abbrev cX7_raise : ByteArray := prog_1_method_12_code
def yX7_raise : MethodName := ⟨RX7, "raise", "()I"⟩
abbrev cX7_handle : ByteArray := prog_1_method_13_code
def yX7_handle : MethodName := ⟨RX7, "handle", "(I)I"⟩
abbrev cX7_program : ByteArray := prog_1_method_14_code
def yX7_program : MethodName := ⟨RX7, "program", "()I"⟩
abbrev cX7_fault : ByteArray := prog_1_method_15_code
def yX7_fault : MethodName := ⟨RX7, "fault", "()I"⟩
abbrev cX7_type : ByteArray := prog_1_method_16_code
def yX7_type : MethodName := ⟨RX7, "type", "(I)I"⟩
abbrev cX7_optimise : ByteArray := prog_1_method_17_code
def yX7_optimise : MethodName := ⟨RX7, "optimise", "(I)I"⟩
abbrev cX7_size : ByteArray := prog_1_method_18_code
def yX7_size : MethodName := ⟨RX7, "size", "()I"⟩
abbrev cX7_orders : ByteArray := prog_1_method_19_code
def yX7_orders : MethodName := ⟨RX7, "orders", "()I"⟩
abbrev cX7_order : ByteArray := prog_1_method_20_code
def yX7_order : MethodName := ⟨RX7, "order", "(II)J"⟩
abbrev cX7_stop : ByteArray := prog_1_method_21_code
def yX7_stop : MethodName := ⟨RX7, "stop", "(IZ)Z"⟩
abbrev cX7_go : ByteArray := prog_1_method_22_code
def yX7_go : MethodName := ⟨RX7, "go", "(I)I"⟩
abbrev cX7_again : ByteArray := prog_1_method_23_code
def yX7_again : MethodName := ⟨RX7, "again", "()V"⟩
abbrev cX7_state : ByteArray := prog_1_method_24_code
def yX7_state : MethodName := ⟨RX7, "state", "()I"⟩
abbrev cX7_value : ByteArray := prog_1_method_25_code
def yX7_value : MethodName := ⟨RX7, "value", "()J"⟩
abbrev cX7_machine : ByteArray := prog_1_method_26_code
def yX7_machine : MethodName := ⟨RX7, "machine", "(I)I"⟩
abbrev cX7_stateAnew : ByteArray := prog_1_method_27_code
def yX7_stateAnew : MethodName := ⟨RX7, "stateAnew", "()I"⟩
abbrev cX7_valueAnew : ByteArray := prog_1_method_28_code
def yX7_valueAnew : MethodName := ⟨RX7, "valueAnew", "()J"⟩
abbrev cX7_checkProgram : ByteArray := prog_1_method_34_code
def yX7_checkProgram : MethodName := ⟨RX7, "checkProgram", "()V"⟩
abbrev cX7_checkOrder : ByteArray := prog_1_method_35_code
def yX7_checkOrder : MethodName := ⟨RX7, "checkOrder", "(I)V"⟩
theorem dX7_call_0 : decode cX7_call 0 = .ok (.aload_n 0, 1) := by decide +kernel
theorem dX7_call_1 : decode cX7_call 1 = .ok (.iconst 3, 1) := by decide +kernel
theorem dX7_call_2 : decode cX7_call 2 = .ok (.iconst (-1), 1) := by decide +kernel
theorem dX7_call_3 : decode cX7_call 3 = .ok (.iconst 0, 1) := by decide +kernel
theorem dX7_call_4 : decode cX7_call 4 = .ok (.invokevirtual 65, 3) := by decide +kernel
theorem dX7_two_0 : decode cX7_two 0 = .ok (.iload_n 1, 1) := by decide +kernel
theorem dX7_two_1 : decode cX7_two 1 = .ok (.ifCond .lt 8, 3) := by decide +kernel
theorem dX7_two_4 : decode cX7_two 4 = .ok (.iload_n 1, 1) := by decide +kernel
theorem dX7_two_5 : decode cX7_two 5 = .ok (.iconst 4, 1) := by decide +kernel
theorem dX7_two_6 : decode cX7_two 6 = .ok (.if_icmp .lt 11, 3) := by decide +kernel
theorem dX7_two_9 : decode cX7_two 9 = .ok (.new 69, 3) := by decide +kernel
theorem dX7_two_12 : decode cX7_two 12 = .ok (.dup, 1) := by decide +kernel
theorem dX7_two_13 : decode cX7_two 13 = .ok (.invokespecial 71, 3) := by decide +kernel
theorem dX7_two_16 : decode cX7_two 16 = .ok (.athrow, 1) := by decide +kernel
theorem dX7_two_17 : decode cX7_two 17 = .ok (.aload_n 0, 1) := by decide +kernel
theorem dX7_two_18 : decode cX7_two 18 = .ok (.iconst 4, 1) := by decide +kernel
theorem dX7_two_19 : decode cX7_two 19 = .ok (.iconst (-1), 1) := by decide +kernel
theorem dX7_two_20 : decode cX7_two 20 = .ok (.iload_n 1, 1) := by decide +kernel
theorem dX7_two_21 : decode cX7_two 21 = .ok (.invokevirtual 65, 3) := by decide +kernel
theorem dX7_choose_0 : decode cX7_choose 0 = .ok (.aload_n 0, 1) := by decide +kernel
theorem dX7_choose_1 : decode cX7_choose 1 = .ok (.iconst 5, 1) := by decide +kernel
theorem dX7_choose_2 : decode cX7_choose 2 = .ok (.iconst (-1), 1) := by decide +kernel
theorem dX7_choose_3 : decode cX7_choose 3 = .ok (.iconst 0, 1) := by decide +kernel
theorem dX7_choose_4 : decode cX7_choose 4 = .ok (.invokevirtual 65, 3) := by decide +kernel
theorem dX7_let_0 : decode cX7_let 0 = .ok (.iload_n 1, 1) := by decide +kernel
theorem dX7_let_1 : decode cX7_let 1 = .ok (.invokestatic 62, 3) := by decide +kernel
theorem dX7_let_4 : decode cX7_let 4 = .ok (.aload_n 0, 1) := by decide +kernel
theorem dX7_let_5 : decode cX7_let 5 = .ok (.bipush 6, 2) := by decide +kernel
theorem dX7_let_7 : decode cX7_let 7 = .ok (.iload_n 1, 1) := by decide +kernel
theorem dX7_let_8 : decode cX7_let 8 = .ok (.iconst 0, 1) := by decide +kernel
theorem dX7_let_9 : decode cX7_let 9 = .ok (.invokevirtual 65, 3) := by decide +kernel
theorem dX7_rec_0 : decode cX7_rec 0 = .ok (.iload_n 1, 1) := by decide +kernel
theorem dX7_rec_1 : decode cX7_rec 1 = .ok (.invokestatic 62, 3) := by decide +kernel
theorem dX7_rec_4 : decode cX7_rec 4 = .ok (.iload_n 2, 1) := by decide +kernel
theorem dX7_rec_5 : decode cX7_rec 5 = .ok (.invokestatic 62, 3) := by decide +kernel
theorem dX7_rec_8 : decode cX7_rec 8 = .ok (.aload_n 0, 1) := by decide +kernel
theorem dX7_rec_9 : decode cX7_rec 9 = .ok (.bipush 7, 2) := by decide +kernel
theorem dX7_rec_11 : decode cX7_rec 11 = .ok (.iload_n 1, 1) := by decide +kernel
theorem dX7_rec_12 : decode cX7_rec 12 = .ok (.iload_n 2, 1) := by decide +kernel
theorem dX7_rec_13 : decode cX7_rec 13 = .ok (.invokevirtual 65, 3) := by decide +kernel
theorem dX7_pair_0 : decode cX7_pair 0 = .ok (.aload_n 0, 1) := by decide +kernel
theorem dX7_pair_1 : decode cX7_pair 1 = .ok (.bipush 8, 2) := by decide +kernel
theorem dX7_pair_3 : decode cX7_pair 3 = .ok (.iconst (-1), 1) := by decide +kernel
theorem dX7_pair_4 : decode cX7_pair 4 = .ok (.iconst 0, 1) := by decide +kernel
theorem dX7_pair_5 : decode cX7_pair 5 = .ok (.invokevirtual 65, 3) := by decide +kernel
theorem dX7_half_0 : decode cX7_half 0 = .ok (.aload_n 0, 1) := by decide +kernel
theorem dX7_half_1 : decode cX7_half 1 = .ok (.bipush 9, 2) := by decide +kernel
theorem dX7_half_3 : decode cX7_half 3 = .ok (.iconst (-1), 1) := by decide +kernel
theorem dX7_half_4 : decode cX7_half 4 = .ok (.iload_n 1, 1) := by decide +kernel
theorem dX7_half_5 : decode cX7_half 5 = .ok (.ifCond .eq 7, 3) := by decide +kernel
theorem dX7_half_8 : decode cX7_half 8 = .ok (.iconst 1, 1) := by decide +kernel
theorem dX7_half_9 : decode cX7_half 9 = .ok (.goto 4, 3) := by decide +kernel
theorem dX7_half_12 : decode cX7_half 12 = .ok (.iconst 0, 1) := by decide +kernel
theorem dX7_half_13 : decode cX7_half 13 = .ok (.invokevirtual 65, 3) := by decide +kernel
theorem dX7_raise_0 : decode cX7_raise 0 = .ok (.aload_n 0, 1) := by decide +kernel
theorem dX7_raise_1 : decode cX7_raise 1 = .ok (.bipush 10, 2) := by decide +kernel
theorem dX7_raise_3 : decode cX7_raise 3 = .ok (.iconst (-1), 1) := by decide +kernel
theorem dX7_raise_4 : decode cX7_raise 4 = .ok (.iconst 0, 1) := by decide +kernel
theorem dX7_raise_5 : decode cX7_raise 5 = .ok (.invokevirtual 65, 3) := by decide +kernel
theorem dX7_handle_0 : decode cX7_handle 0 = .ok (.iload_n 1, 1) := by decide +kernel
theorem dX7_handle_1 : decode cX7_handle 1 = .ok (.invokestatic 62, 3) := by decide +kernel
theorem dX7_handle_4 : decode cX7_handle 4 = .ok (.aload_n 0, 1) := by decide +kernel
theorem dX7_handle_5 : decode cX7_handle 5 = .ok (.bipush 11, 2) := by decide +kernel
theorem dX7_handle_7 : decode cX7_handle 7 = .ok (.iload_n 1, 1) := by decide +kernel
theorem dX7_handle_8 : decode cX7_handle 8 = .ok (.iconst 0, 1) := by decide +kernel
theorem dX7_handle_9 : decode cX7_handle 9 = .ok (.invokevirtual 65, 3) := by decide +kernel
theorem dX7_program_0 : decode cX7_program 0 = .ok (.aload_n 0, 1) := by decide +kernel
theorem dX7_program_1 : decode cX7_program 1 = .ok (.getfield 72, 3) := by decide +kernel
theorem dX7_program_4 : decode cX7_program 4 = .ok (.ifCond .ne 11, 3) := by decide +kernel
theorem dX7_program_7 : decode cX7_program 7 = .ok (.new 75, 3) := by decide +kernel
theorem dX7_program_10 : decode cX7_program 10 = .ok (.dup, 1) := by decide +kernel
theorem dX7_program_11 : decode cX7_program 11 = .ok (.invokespecial 77, 3) := by decide +kernel
theorem dX7_program_14 : decode cX7_program 14 = .ok (.athrow, 1) := by decide +kernel
theorem dX7_fault_0 : decode cX7_fault 0 = .ok (.aload_n 0, 1) := by decide +kernel
theorem dX7_fault_1 : decode cX7_fault 1 = .ok (.getfield 24, 3) := by decide +kernel
theorem dX7_fault_4 : decode cX7_fault 4 = .ok (.iconst (-1), 1) := by decide +kernel
theorem dX7_fault_5 : decode cX7_fault 5 = .ok (.if_icmp .ne 11, 3) := by decide +kernel
theorem dX7_fault_8 : decode cX7_fault 8 = .ok (.new 75, 3) := by decide +kernel
theorem dX7_fault_11 : decode cX7_fault 11 = .ok (.dup, 1) := by decide +kernel
theorem dX7_fault_12 : decode cX7_fault 12 = .ok (.invokespecial 77, 3) := by decide +kernel
theorem dX7_fault_15 : decode cX7_fault 15 = .ok (.athrow, 1) := by decide +kernel
theorem dX7_type_0 : decode cX7_type 0 = .ok (.iload_n 1, 1) := by decide +kernel
theorem dX7_type_1 : decode cX7_type 1 = .ok (.ifCond .ge 11, 3) := by decide +kernel
theorem dX7_type_4 : decode cX7_type 4 = .ok (.new 107, 3) := by decide +kernel
theorem dX7_type_7 : decode cX7_type 7 = .ok (.dup, 1) := by decide +kernel
theorem dX7_type_8 : decode cX7_type 8 = .ok (.invokespecial 109, 3) := by decide +kernel
theorem dX7_type_11 : decode cX7_type 11 = .ok (.athrow, 1) := by decide +kernel
theorem dX7_type_12 : decode cX7_type 12 = .ok (.aload_n 0, 1) := by decide +kernel
theorem dX7_type_13 : decode cX7_type 13 = .ok (.invokevirtual 110, 3) := by decide +kernel
theorem dX7_optimise_0 : decode cX7_optimise 0 = .ok (.iload_n 1, 1) := by decide +kernel
theorem dX7_optimise_1 : decode cX7_optimise 1 = .ok (.ifCond .lt 9, 3) := by decide +kernel
theorem dX7_optimise_4 : decode cX7_optimise 4 = .ok (.iload_n 1, 1) := by decide +kernel
theorem dX7_optimise_5 : decode cX7_optimise 5 = .ok (.bipush 15, 2) := by decide +kernel
theorem dX7_optimise_7 : decode cX7_optimise 7 = .ok (.if_icmp .le 11, 3) := by decide +kernel
theorem dX7_optimise_10 : decode cX7_optimise 10 = .ok (.new 69, 3) := by decide +kernel
theorem dX7_optimise_13 : decode cX7_optimise 13 = .ok (.dup, 1) := by decide +kernel
theorem dX7_optimise_14 : decode cX7_optimise 14 = .ok (.invokespecial 71, 3) := by decide +kernel
theorem dX7_optimise_17 : decode cX7_optimise 17 = .ok (.athrow, 1) := by decide +kernel
theorem dX7_optimise_18 : decode cX7_optimise 18 = .ok (.aload_n 0, 1) := by decide +kernel
theorem dX7_optimise_19 : decode cX7_optimise 19 = .ok (.invokevirtual 110, 3) := by decide +kernel
theorem dX7_size_0 : decode cX7_size 0 = .ok (.aload_n 0, 1) := by decide +kernel
theorem dX7_size_1 : decode cX7_size 1 = .ok (.getfield 21, 3) := by decide +kernel
theorem dX7_size_4 : decode cX7_size 4 = .ok (.getfield 78, 3) := by decide +kernel
theorem dX7_size_7 : decode cX7_size 7 = .ok (.ireturn, 1) := by decide +kernel
theorem dX7_orders_0 : decode cX7_orders 0 = .ok (.aload_n 0, 1) := by decide +kernel
theorem dX7_orders_1 : decode cX7_orders 1 = .ok (.invokevirtual 110, 3) := by decide +kernel
theorem dX7_order_0 : decode cX7_order 0 = .ok (.aload_n 0, 1) := by decide +kernel
theorem dX7_order_1 : decode cX7_order 1 = .ok (.iload_n 1, 1) := by decide +kernel
theorem dX7_order_2 : decode cX7_order 2 = .ok (.invokevirtual 121, 3) := by decide +kernel
theorem dX7_stop_0 : decode cX7_stop 0 = .ok (.aload_n 0, 1) := by decide +kernel
theorem dX7_stop_1 : decode cX7_stop 1 = .ok (.iload_n 1, 1) := by decide +kernel
theorem dX7_stop_2 : decode cX7_stop 2 = .ok (.invokevirtual 121, 3) := by decide +kernel
theorem dX7_go_0 : decode cX7_go 0 = .ok (.iload_n 1, 1) := by decide +kernel
theorem dX7_go_1 : decode cX7_go 1 = .ok (.iconst 1, 1) := by decide +kernel
theorem dX7_go_2 : decode cX7_go 2 = .ok (.if_icmp .lt 10, 3) := by decide +kernel
theorem dX7_go_5 : decode cX7_go 5 = .ok (.iload_n 1, 1) := by decide +kernel
theorem dX7_go_6 : decode cX7_go 6 = .ok (.sipush 2000, 3) := by decide +kernel
theorem dX7_go_9 : decode cX7_go 9 = .ok (.if_icmp .le 11, 3) := by decide +kernel
theorem dX7_go_12 : decode cX7_go 12 = .ok (.new 69, 3) := by decide +kernel
theorem dX7_go_15 : decode cX7_go 15 = .ok (.dup, 1) := by decide +kernel
theorem dX7_go_16 : decode cX7_go 16 = .ok (.invokespecial 71, 3) := by decide +kernel
theorem dX7_go_19 : decode cX7_go 19 = .ok (.athrow, 1) := by decide +kernel
theorem dX7_go_20 : decode cX7_go 20 = .ok (.aload_n 0, 1) := by decide +kernel
theorem dX7_go_21 : decode cX7_go 21 = .ok (.invokevirtual 110, 3) := by decide +kernel
theorem dX7_again_0 : decode cX7_again 0 = .ok (.aload_n 0, 1) := by decide +kernel
theorem dX7_again_1 : decode cX7_again 1 = .ok (.invokevirtual 110, 3) := by decide +kernel
theorem dX7_state_0 : decode cX7_state 0 = .ok (.aload_n 0, 1) := by decide +kernel
theorem dX7_state_1 : decode cX7_state 1 = .ok (.invokevirtual 110, 3) := by decide +kernel
theorem dX7_value_0 : decode cX7_value 0 = .ok (.aload_n 0, 1) := by decide +kernel
theorem dX7_value_1 : decode cX7_value 1 = .ok (.invokevirtual 110, 3) := by decide +kernel
theorem dX7_machine_0 : decode cX7_machine 0 = .ok (.iload_n 1, 1) := by decide +kernel
theorem dX7_machine_1 : decode cX7_machine 1 = .ok (.ifCond .lt 9, 3) := by decide +kernel
theorem dX7_machine_4 : decode cX7_machine 4 = .ok (.iload_n 1, 1) := by decide +kernel
theorem dX7_machine_5 : decode cX7_machine 5 = .ok (.bipush 6, 2) := by decide +kernel
theorem dX7_machine_7 : decode cX7_machine 7 = .ok (.if_icmp .lt 11, 3) := by decide +kernel
theorem dX7_machine_10 : decode cX7_machine 10 = .ok (.new 69, 3) := by decide +kernel
theorem dX7_machine_13 : decode cX7_machine 13 = .ok (.dup, 1) := by decide +kernel
theorem dX7_machine_14 : decode cX7_machine 14 = .ok (.invokespecial 71, 3) := by decide +kernel
theorem dX7_machine_17 : decode cX7_machine 17 = .ok (.athrow, 1) := by decide +kernel
theorem dX7_machine_18 : decode cX7_machine 18 = .ok (.aload_n 0, 1) := by decide +kernel
theorem dX7_machine_19 : decode cX7_machine 19 = .ok (.invokevirtual 110, 3) := by decide +kernel
theorem dX7_stateAnew_0 : decode cX7_stateAnew 0 = .ok (.aload_n 0, 1) := by decide +kernel
theorem dX7_stateAnew_1 : decode cX7_stateAnew 1 = .ok (.invokevirtual 110, 3) := by decide +kernel
theorem dX7_valueAnew_0 : decode cX7_valueAnew 0 = .ok (.aload_n 0, 1) := by decide +kernel
theorem dX7_valueAnew_1 : decode cX7_valueAnew 1 = .ok (.invokevirtual 110, 3) := by decide +kernel
theorem dX7_checkProgram_0 : decode cX7_checkProgram 0 = .ok (.aload_n 0, 1) := by decide +kernel
theorem dX7_checkProgram_1 : decode cX7_checkProgram 1 = .ok (.getfield 24, 3) := by decide +kernel
theorem dX7_checkProgram_4 : decode cX7_checkProgram 4 = .ok (.ifCond .eq 11, 3) := by decide +kernel
theorem dX7_checkProgram_7 : decode cX7_checkProgram 7 = .ok (.new 75, 3) := by decide +kernel
theorem dX7_checkProgram_10 : decode cX7_checkProgram 10 = .ok (.dup, 1) := by decide +kernel
theorem dX7_checkProgram_11 : decode cX7_checkProgram 11 = .ok (.invokespecial 77, 3) := by decide +kernel
theorem dX7_checkProgram_14 : decode cX7_checkProgram 14 = .ok (.athrow, 1) := by decide +kernel
theorem dX7_checkOrder_0 : decode cX7_checkOrder 0 = .ok (.aload_n 0, 1) := by decide +kernel
theorem dX7_checkOrder_1 : decode cX7_checkOrder 1 = .ok (.getfield 24, 3) := by decide +kernel
theorem dX7_checkOrder_4 : decode cX7_checkOrder 4 = .ok (.ifCond .ne 18, 3) := by decide +kernel
theorem dX7_checkOrder_22 : decode cX7_checkOrder 22 = .ok (.new 107, 3) := by decide +kernel
theorem dX7_checkOrder_25 : decode cX7_checkOrder 25 = .ok (.dup, 1) := by decide +kernel
theorem dX7_checkOrder_26 : decode cX7_checkOrder 26 = .ok (.invokespecial 109, 3) := by decide +kernel
theorem dX7_checkOrder_29 : decode cX7_checkOrder 29 = .ok (.athrow, 1) := by decide +kernel
set_option maxRecDepth 20000 in
def z_X_let_neg : List Cond := .code yX7_let cX7_let 2 (some .int) :: (([.methodLink RX7 62 yX7_checkName, .static yX7_checkName, .initialized RX7, .code yX7_checkName cX7_checkName 1 none, .classLink RX7 107 "java/lang/IndexOutOfBoundsException", .initialized "java/lang/IndexOutOfBoundsException"] : List Cond) ++ (vx_at0 RX7 109 "java/lang/IndexOutOfBoundsException" ["java/lang/RuntimeException", "java/lang/Exception"]).filter goodWord)
set_option maxRecDepth 20000 in
theorem gg_X_let_neg_1 : GoodIn z_X_let_neg z_cN_neg := goodIn_ca (goodIn_p _ [4] rfl (by decide +kernel)) (goodIn_sub (fun _ h => List.mem_cons_of_mem _ (List.mem_append_right _ (h))) (by decide +kernel))
set_option maxRecDepth 20000 in
theorem g_X_let_neg_1 : GoodIn z_X_let_neg (va_wsS RX7 62 yX7_checkName z_cN_neg) := goodIn_app (goodIn_of _ (by decide +kernel)) gg_X_let_neg_1
set_option maxHeartbeats 4000000 in
set_option maxRecDepth 100000 in
theorem c_X_let_neg (l : Launch) (dC : Nat → ClassId) (dI : Nat → Nat → Nat) (tp te : Nat) (sz : Nat) (hlt : l.stackTraces = false) (h0 : Nat) (rp : Nat) (rt : Nat) (rc : Nat) (r1 : Nat) (r2 : Nat) (r3 : Nat) (r4 : Nat) (p0 : Int32) (hvn : p0 < 0) : vx_Met l yX7_let z_X_let_neg ({ frames := 7, cells := 1, slots := 6, locals := 101 }) (va_Pc [.ref h0, .int p0] (Pw dC dI [(h0, .inr (8, [.ref rp, .int 0, .ref rt, .ref rc, .int ((-1)), .ref r1, .ref r2, .ref r3, .ref r4, .null, .int 0]))] [] sz tp te)) (va_Qi (fun (r : Int32) (_ : Unit) => False) (fun (_ : Unit) (_ : State) => True) (va_A [(h0, .inr (8, [.ref rp, .int 0, .ref rt, .ref rc, .int ((-1)), .ref r1, .ref r2, .ref r3, .ref r4, .null, .int 0]))] sz)) (vx_X (fun (_ : Unit) => True) (fun (E : String) (_ : Unit) (_ : State) => E = "java/lang/IndexOutOfBoundsException") (va_A [(h0, .inr (8, [.ref rp, .int 0, .ref rt, .ref rc, .int ((-1)), .ref r1, .ref r2, .ref r3, .ref r4, .null, .int 0]))] sz)) 1 6 (va_A [(h0, .inr (8, [.ref rp, .int 0, .ref rt, .ref rc, .int ((-1)), .ref r1, .ref r2, .ref r3, .ref r4, .null, .int 0]))] sz) := by
  refine vx_ofW (cc := cX7_let) (maxL := 2) (ret := (some .int)) (by decide) rfl ?_
  intro p e s m args below meth c s₁ B hml htab hv
  obtain ⟨rfl, hsz, hP, hK, hD0, hG⟩ := hv
  have hx := B.exec
  have hb := B.bytes
  have hr := B.returns
  have hts := atoms_spec (ws := z_X_let_neg) B.pre
  have hown : s.vm.findClass RX7 = some m.cls := findClass_of_methodNamed B.named
  have hlocks := B.notSynchronized
  subst hsz
  have hD := hD0.self (sz := s.heap.size)
  generalize hAe : va_A [(h0, .inr (8, [.ref rp, .int 0, .ref rt, .ref rc, .int ((-1)), .ref r1, .ref r2, .ref r3, .ref r4, .null, .int 0]))] s.heap.size = A at hD hG ⊢
  have hA : ∀ q : Nat, s.heap.size ≤ q → A q := fun q h => by rw [← hAe]; exact Or.inr h
  have hS : va_S A s.heap s.heap [] := va_S.rf
  have hl := lv_entry ([.ref h0, .int p0]) (n := 2) (Nat.le_of_ble_eq_true rfl)
  rw [lg_entry_eq]
  generalize (lg_sl ([.ref h0, .int p0]) ++ List.replicate (2 - (lg_sl ([.ref h0, .int p0])).length) Slot.unset).toArray = ls at hl ⊢
  have hl : lv_has ls 2 [(0, .ref h0), (1, .int p0)] := hl
  refine lv_iload_n hx hb dX7_let_0 rfl (lv_at hl 1 rfl) ?_
  have hPc := hP.sub (ws' := []) [] rfl
  have hDc := hD.sub (ws' := []) [] (by decide) rfl
  have hKc := hK.sub (tys' := []) [] rfl
  have hFc := va_free (wc := []) hD hS hA [] rfl
  refine vx_callv (vx_runS (As := [.int p0]) (rest := []) ⟨hx, hb, hml, hown, hts⟩ (c_cN_neg l dC dI tp te s.heap.size hlt p0 hvn) (va_cwS 1 hts g_X_let_neg_1 rfl rfl rfl (by decide +kernel) ⟨Nat.le_of_ble_eq_true rfl, Nat.le_of_ble_eq_true rfl⟩) ⟨Pw.blind, Pw.mk hPc hKc hDc hG hS hFc⟩ rfl rfl hl.1 rfl (lv_room (Nat.le_of_ble_eq_true rfl)) dX7_let_1 ⟨Nat.le_of_ble_eq_true rfl, Nat.le_of_ble_eq_true rfl⟩) hS (fun q _ h => hFc q h) hFc (fun q _ h => hFc q h) (fun E ce q9 u t9 H1 locs ht hvm hpx hBX hz1 hk1 hS hce hcv hcl => ?_) (fun u t9 H_1 locs ht hvm hw hB hz1 hk1 hS => hw.elim)
  have hBX : E = "java/lang/IndexOutOfBoundsException" := hBX
  subst hBX
  exact vx_out (fun x9 h9 => (htab x9 h9).elim) hlocks hce hcv hcl (fun t9 ht9 _ => ⟨(), trivial, rfl, hS.F ht9⟩) hS.2.2 (Nat.le_of_ble_eq_true rfl) (Nat.le_of_ble_eq_true rfl)

set_option maxRecDepth 20000 in
def z_X_let_big : List Cond := .code yX7_let cX7_let 2 (some .int) :: (([.methodLink RX7 62 yX7_checkName, .static yX7_checkName, .initialized RX7, .code yX7_checkName cX7_checkName 1 none, .classLink RX7 107 "java/lang/IndexOutOfBoundsException", .initialized "java/lang/IndexOutOfBoundsException"] : List Cond) ++ (vx_at0 RX7 109 "java/lang/IndexOutOfBoundsException" ["java/lang/RuntimeException", "java/lang/Exception"]).filter goodWord)
set_option maxRecDepth 20000 in
theorem gg_X_let_big_1 : GoodIn z_X_let_big z_cN_big := goodIn_ca (goodIn_p _ [4] rfl (by decide +kernel)) (goodIn_sub (fun _ h => List.mem_cons_of_mem _ (List.mem_append_right _ (h))) (by decide +kernel))
set_option maxRecDepth 20000 in
theorem g_X_let_big_1 : GoodIn z_X_let_big (va_wsS RX7 62 yX7_checkName z_cN_big) := goodIn_app (goodIn_of _ (by decide +kernel)) gg_X_let_big_1
set_option maxHeartbeats 4000000 in
set_option maxRecDepth 100000 in
theorem c_X_let_big (l : Launch) (dC : Nat → ClassId) (dI : Nat → Nat → Nat) (tp te : Nat) (sz : Nat) (hlt : l.stackTraces = false) (h0 : Nat) (rp : Nat) (rt : Nat) (rc : Nat) (r1 : Nat) (r2 : Nat) (r3 : Nat) (r4 : Nat) (p0 : Int32) (hvn : ¬ p0 < 0) (hvb : ¬ p0 < 10) (hvc : 10 ≤ p0) : vx_Met l yX7_let z_X_let_big ({ frames := 7, cells := 1, slots := 6, locals := 101 }) (va_Pc [.ref h0, .int p0] (Pw dC dI [(h0, .inr (8, [.ref rp, .int 0, .ref rt, .ref rc, .int ((-1)), .ref r1, .ref r2, .ref r3, .ref r4, .null, .int 0]))] [] sz tp te)) (va_Qi (fun (r : Int32) (_ : Unit) => False) (fun (_ : Unit) (_ : State) => True) (va_A [(h0, .inr (8, [.ref rp, .int 0, .ref rt, .ref rc, .int ((-1)), .ref r1, .ref r2, .ref r3, .ref r4, .null, .int 0]))] sz)) (vx_X (fun (_ : Unit) => True) (fun (E : String) (_ : Unit) (_ : State) => E = "java/lang/IndexOutOfBoundsException") (va_A [(h0, .inr (8, [.ref rp, .int 0, .ref rt, .ref rc, .int ((-1)), .ref r1, .ref r2, .ref r3, .ref r4, .null, .int 0]))] sz)) 1 6 (va_A [(h0, .inr (8, [.ref rp, .int 0, .ref rt, .ref rc, .int ((-1)), .ref r1, .ref r2, .ref r3, .ref r4, .null, .int 0]))] sz) := by
  refine vx_ofW (cc := cX7_let) (maxL := 2) (ret := (some .int)) (by decide) rfl ?_
  intro p e s m args below meth c s₁ B hml htab hv
  obtain ⟨rfl, hsz, hP, hK, hD0, hG⟩ := hv
  have hx := B.exec
  have hb := B.bytes
  have hr := B.returns
  have hts := atoms_spec (ws := z_X_let_big) B.pre
  have hown : s.vm.findClass RX7 = some m.cls := findClass_of_methodNamed B.named
  have hlocks := B.notSynchronized
  subst hsz
  have hD := hD0.self (sz := s.heap.size)
  generalize hAe : va_A [(h0, .inr (8, [.ref rp, .int 0, .ref rt, .ref rc, .int ((-1)), .ref r1, .ref r2, .ref r3, .ref r4, .null, .int 0]))] s.heap.size = A at hD hG ⊢
  have hA : ∀ q : Nat, s.heap.size ≤ q → A q := fun q h => by rw [← hAe]; exact Or.inr h
  have hS : va_S A s.heap s.heap [] := va_S.rf
  have hl := lv_entry ([.ref h0, .int p0]) (n := 2) (Nat.le_of_ble_eq_true rfl)
  rw [lg_entry_eq]
  generalize (lg_sl ([.ref h0, .int p0]) ++ List.replicate (2 - (lg_sl ([.ref h0, .int p0])).length) Slot.unset).toArray = ls at hl ⊢
  have hl : lv_has ls 2 [(0, .ref h0), (1, .int p0)] := hl
  refine lv_iload_n hx hb dX7_let_0 rfl (lv_at hl 1 rfl) ?_
  have hPc := hP.sub (ws' := []) [] rfl
  have hDc := hD.sub (ws' := []) [] (by decide) rfl
  have hKc := hK.sub (tys' := []) [] rfl
  have hFc := va_free (wc := []) hD hS hA [] rfl
  refine vx_callv (vx_runS (As := [.int p0]) (rest := []) ⟨hx, hb, hml, hown, hts⟩ (c_cN_big l dC dI tp te s.heap.size hlt p0 hvn hvb hvc) (va_cwS 1 hts g_X_let_big_1 rfl rfl rfl (by decide +kernel) ⟨Nat.le_of_ble_eq_true rfl, Nat.le_of_ble_eq_true rfl⟩) ⟨Pw.blind, Pw.mk hPc hKc hDc hG hS hFc⟩ rfl rfl hl.1 rfl (lv_room (Nat.le_of_ble_eq_true rfl)) dX7_let_1 ⟨Nat.le_of_ble_eq_true rfl, Nat.le_of_ble_eq_true rfl⟩) hS (fun q _ h => hFc q h) hFc (fun q _ h => hFc q h) (fun E ce q9 u t9 H1 locs ht hvm hpx hBX hz1 hk1 hS hce hcv hcl => ?_) (fun u t9 H_1 locs ht hvm hw hB hz1 hk1 hS => hw.elim)
  have hBX : E = "java/lang/IndexOutOfBoundsException" := hBX
  subst hBX
  exact vx_out (fun x9 h9 => (htab x9 h9).elim) hlocks hce hcv hcl (fun t9 ht9 _ => ⟨(), trivial, rfl, hS.F ht9⟩) hS.2.2 (Nat.le_of_ble_eq_true rfl) (Nat.le_of_ble_eq_true rfl)

set_option maxRecDepth 20000 in
def z_X_let_ok : List Cond := .code yX7_let cX7_let 2 (some .int) :: (([.methodLink RX7 62 yX7_checkName, .static yX7_checkName, .initialized RX7, .code yX7_checkName cX7_checkName 1 none, .methodLink RX7 65 yX7_join, .instanceMethod yX7_join, .selects RX7 yX7_join yX7_join, .code yX7_join cX7_join 5 (some .int), .methodLink RX7 173 yX5_partsOf, .static yX5_partsOf, .initialized RX5, .code yX5_partsOf cX5_partsOf 1 (some .int), .fieldLink RX5 34 "Selfkindle$Term" "PARTS_OF" "[I", .fieldLink RX7 72 "Selfkindle" "height" "I", .classLink RX7 75 "java/lang/IllegalStateException", .initialized "java/lang/IllegalStateException"] : List Cond) ++ wsX70 ++ (vx_at0 RX7 77 "java/lang/IllegalStateException" ["java/lang/RuntimeException", "java/lang/Exception"]).filter goodWord)
theorem in_z_X_let_ok_X7 : ∀ w ∈ wsX70, w ∈ z_X_let_ok := fun w h => List.mem_cons_of_mem _ (List.mem_append_left _ (List.mem_append_right _ (h)))
set_option maxRecDepth 20000 in
theorem g_X_let_ok_1 : GoodIn z_X_let_ok (va_wsS RX7 62 yX7_checkName z_cN_ok) := goodIn_p _ [4] rfl (by decide +kernel)
set_option maxRecDepth 20000 in
theorem gg_X_let_ok_9 : GoodIn z_X_let_ok z_jn6 := goodIn_ca (goodIn_p _ [8, 12] rfl (by decide +kernel)) (goodIn_sub (fun _ h => List.mem_cons_of_mem _ (List.mem_append_right _ (h))) (by decide +kernel))
set_option maxRecDepth 20000 in
theorem g_X_let_ok_9 : GoodIn z_X_let_ok (wsV RX7 65 RX7 yX7_join z_jn6) := goodIn_app (goodIn_of _ (by decide +kernel)) gg_X_let_ok_9
set_option maxHeartbeats 4000000 in
set_option maxRecDepth 100000 in
theorem c_X_let_ok (l : Launch) (dC : Nat → ClassId) (dI : Nat → Nat → Nat) (tp te : Nat) (sz : Nat) (hlt : l.stackTraces = false) (h0 : Nat) (rp : Nat) (rt : Nat) (rc : Nat) (r1 : Nat) (r2 : Nat) (r3 : Nat) (r4 : Nat) (p0 : Int32) (hvn : ¬ p0 < 0) (hvb : p0 < 10) (hvc : ¬ 10 ≤ p0) : vx_Met l yX7_let z_X_let_ok ({ frames := 7, cells := 1, slots := 6, locals := 105 }) (va_Pc [.ref h0, .int p0] (Pw dC dI [(h0, .inr (8, [.ref rp, .int 0, .ref rt, .ref rc, .int ((-1)), .ref r1, .ref r2, .ref r3, .ref r4, .null, .int 0]))] [] sz tp te)) (va_Qi (fun (r : Int32) (_ : Unit) => False) (fun (_ : Unit) (_ : State) => True) (va_A [(h0, .inr (8, [.ref rp, .int 0, .ref rt, .ref rc, .int ((-1)), .ref r1, .ref r2, .ref r3, .ref r4, .null, .int 0]))] sz)) (vx_X (fun (_ : Unit) => True) (fun (E : String) (_ : Unit) (_ : State) => E = "java/lang/IllegalStateException") (va_A [(h0, .inr (8, [.ref rp, .int 0, .ref rt, .ref rc, .int ((-1)), .ref r1, .ref r2, .ref r3, .ref r4, .null, .int 0]))] sz)) 1 6 (va_A [(h0, .inr (8, [.ref rp, .int 0, .ref rt, .ref rc, .int ((-1)), .ref r1, .ref r2, .ref r3, .ref r4, .null, .int 0]))] sz) := by
  refine vx_ofW (cc := cX7_let) (maxL := 2) (ret := (some .int)) (by decide) rfl ?_
  intro p e s m args below meth c s₁ B hml htab hv
  obtain ⟨rfl, hsz, hP, hK, hD0, hG⟩ := hv
  have hx := B.exec
  have hb := B.bytes
  have hr := B.returns
  have hts := atoms_spec (ws := z_X_let_ok) B.pre
  have hown : s.vm.findClass RX7 = some m.cls := findClass_of_methodNamed B.named
  have hlocks := B.notSynchronized
  subst hsz
  have hD := hD0.self (sz := s.heap.size)
  generalize hAe : va_A [(h0, .inr (8, [.ref rp, .int 0, .ref rt, .ref rc, .int ((-1)), .ref r1, .ref r2, .ref r3, .ref r4, .null, .int 0]))] s.heap.size = A at hD hG ⊢
  have hA : ∀ q : Nat, s.heap.size ≤ q → A q := fun q h => by rw [← hAe]; exact Or.inr h
  have hS : va_S A s.heap s.heap [] := va_S.rf
  have hl := lv_entry ([.ref h0, .int p0]) (n := 2) (Nat.le_of_ble_eq_true rfl)
  rw [lg_entry_eq]
  generalize (lg_sl ([.ref h0, .int p0]) ++ List.replicate (2 - (lg_sl ([.ref h0, .int p0])).length) Slot.unset).toArray = ls at hl ⊢
  have hl : lv_has ls 2 [(0, .ref h0), (1, .int p0)] := hl
  refine lv_iload_n hx hb dX7_let_0 rfl (lv_at hl 1 rfl) ?_
  have hPc := hP.sub (ws' := []) [] rfl
  have hDc := hD.sub (ws' := []) [] (by decide) rfl
  have hKc := hK.sub (tys' := []) [] rfl
  have hFc := va_free (wc := []) hD hS hA [] rfl
  refine va_callv (va_runS (As := [.int p0]) (rest := []) ⟨hx, hb, hml, hown, hts⟩ (c_cN_ok l dC dI tp te s.heap.size p0 hvn hvb hvc) (va_cwS 1 hts g_X_let_ok_1 rfl rfl rfl (by decide +kernel) ⟨Nat.le_of_ble_eq_true rfl, Nat.le_of_ble_eq_true rfl⟩) ⟨Pw.blind, Pw.mk hPc hKc hDc hG hS hFc⟩ rfl rfl hl.1 rfl (lv_room (Nat.le_of_ble_eq_true rfl)) dX7_let_1 ⟨Nat.le_of_ble_eq_true rfl, Nat.le_of_ble_eq_true rfl⟩) hS (fun q _ h => hFc q h) hFc (fun u t9 H_1 locs ht hvm hw hB hz1 hk1 hS => ?_)
  obtain ⟨hP, hD⟩ := va_join (wr := [(h0, .inr (8, [.ref rp, .int 0, .ref rt, .ref rc, .int ((-1)), .ref r1, .ref r2, .ref r3, .ref r4, .null, .int 0]))]) (w1 := []) hP hD [] [0] rfl rfl (by decide) (by decide) hk1 hFc va_P.nil va_D.nil
  have hK := hK.sub (tys' := []) [] rfl
  have hP : va_P (dC, dI) vwCl [(h0, .inr (8, [.ref rp, .int 0, .ref rt, .ref rc, .int ((-1)), .ref r1, .ref r2, .ref r3, .ref r4, .null, .int 0]))] H_1 := hP
  have hD : va_D A [(h0, .inr (8, [.ref rp, .int 0, .ref rt, .ref rc, .int ((-1)), .ref r1, .ref r2, .ref r3, .ref r4, .null, .int 0]))] := hD
  have hK : va_K (dC, dI) vwCl [] s := hK
  refine W.widen (k := 0) (n := 0) (Nat.le_of_ble_eq_true rfl) (Nat.le_of_ble_eq_true rfl) ?_
  refine lv_aload_n hx hb dX7_let_4 rfl (lv_at hl 0 rfl) ?_
  refine lv_bipush (v := 6) hx hb dX7_let_5 (by decide) ?_
  refine lv_iload_n hx hb dX7_let_7 rfl (lv_at hl 1 rfl) ?_
  refine lv_iconst (v := 0) hx hb dX7_let_8 (by decide) ?_
  have hPc := hP.sub (ws' := [(h0, .inr (8, [.ref rp, .int 0, .ref rt, .ref rc, .int ((-1)), .ref r1, .ref r2, .ref r3, .ref r4, .null, .int 0]))]) [0] rfl
  have hDc := hD.sub (ws' := [(h0, .inr (8, [.ref rp, .int 0, .ref rt, .ref rc, .int ((-1)), .ref r1, .ref r2, .ref r3, .ref r4, .null, .int 0]))]) [0] (by decide) rfl
  have hKc := hK.sub (tys' := []) [] rfl
  have hFc := va_free (wc := [(h0, .inr (8, [.ref rp, .int 0, .ref rt, .ref rc, .int ((-1)), .ref r1, .ref r2, .ref r3, .ref r4, .null, .int 0]))]) hD hS hA [0] rfl
  refine vx_calli (vx_runV (As := [.int 6, .int p0, .int 0]) (rest := []) ⟨hx, hb, hml, hown, hts⟩ (c_jn6 l dC dI tp te H_1.size hlt h0 rp rt rc r1 r2 r3 r4 p0 0) (cwV 3 hts g_X_let_ok_9 rfl rfl rfl (by decide +kernel) ⟨Nat.le_of_ble_eq_true rfl, Nat.le_of_ble_eq_true rfl⟩) ⟨Pw.blind, va_recv hKc hPc (ci := 8) (q0 := 0) rfl rfl, Pw.mk hPc hKc hDc hG hS hFc⟩ rfl rfl hl.1 rfl (lv_room (Nat.le_of_ble_eq_true rfl)) dX7_let_9 ⟨Nat.le_of_ble_eq_true rfl, Nat.le_of_ble_eq_true rfl⟩) hS (fun q _ h => hFc q h) hFc (fun q _ h => hFc q h) (fun E ce q9 u t9 H1 locs ht hvm hpx hBX hz1 hk1 hS hce hcv hcl => ?_) (fun r u t9 H_2 locs ht hvm hw hB hz1 hk1 hS => hw.elim)
  have hBX : E = "java/lang/IllegalStateException" := hBX
  subst hBX
  exact vx_out (fun x9 h9 => (htab x9 h9).elim) hlocks hce hcv hcl (fun t9 ht9 _ => ⟨(), trivial, rfl, hS.F ht9⟩) hS.2.2 (Nat.le_of_ble_eq_true rfl) (Nat.le_of_ble_eq_true rfl)

set_option maxRecDepth 20000 in
def z_X_handle_neg : List Cond := .code yX7_handle cX7_handle 2 (some .int) :: (([.methodLink RX7 62 yX7_checkName, .static yX7_checkName, .initialized RX7, .code yX7_checkName cX7_checkName 1 none, .classLink RX7 107 "java/lang/IndexOutOfBoundsException", .initialized "java/lang/IndexOutOfBoundsException"] : List Cond) ++ (vx_at0 RX7 109 "java/lang/IndexOutOfBoundsException" ["java/lang/RuntimeException", "java/lang/Exception"]).filter goodWord)
set_option maxRecDepth 20000 in
theorem gg_X_handle_neg_1 : GoodIn z_X_handle_neg z_cN_neg := goodIn_ca (goodIn_p _ [4] rfl (by decide +kernel)) (goodIn_sub (fun _ h => List.mem_cons_of_mem _ (List.mem_append_right _ (h))) (by decide +kernel))
set_option maxRecDepth 20000 in
theorem g_X_handle_neg_1 : GoodIn z_X_handle_neg (va_wsS RX7 62 yX7_checkName z_cN_neg) := goodIn_app (goodIn_of _ (by decide +kernel)) gg_X_handle_neg_1
set_option maxHeartbeats 4000000 in
set_option maxRecDepth 100000 in
theorem c_X_handle_neg (l : Launch) (dC : Nat → ClassId) (dI : Nat → Nat → Nat) (tp te : Nat) (sz : Nat) (hlt : l.stackTraces = false) (h0 : Nat) (rp : Nat) (rt : Nat) (rc : Nat) (r1 : Nat) (r2 : Nat) (r3 : Nat) (r4 : Nat) (p0 : Int32) (hvn : p0 < 0) : vx_Met l yX7_handle z_X_handle_neg ({ frames := 7, cells := 1, slots := 6, locals := 101 }) (va_Pc [.ref h0, .int p0] (Pw dC dI [(h0, .inr (8, [.ref rp, .int 0, .ref rt, .ref rc, .int ((-1)), .ref r1, .ref r2, .ref r3, .ref r4, .null, .int 0]))] [] sz tp te)) (va_Qi (fun (r : Int32) (_ : Unit) => False) (fun (_ : Unit) (_ : State) => True) (va_A [(h0, .inr (8, [.ref rp, .int 0, .ref rt, .ref rc, .int ((-1)), .ref r1, .ref r2, .ref r3, .ref r4, .null, .int 0]))] sz)) (vx_X (fun (_ : Unit) => True) (fun (E : String) (_ : Unit) (_ : State) => E = "java/lang/IndexOutOfBoundsException") (va_A [(h0, .inr (8, [.ref rp, .int 0, .ref rt, .ref rc, .int ((-1)), .ref r1, .ref r2, .ref r3, .ref r4, .null, .int 0]))] sz)) 1 6 (va_A [(h0, .inr (8, [.ref rp, .int 0, .ref rt, .ref rc, .int ((-1)), .ref r1, .ref r2, .ref r3, .ref r4, .null, .int 0]))] sz) := by
  refine vx_ofW (cc := cX7_handle) (maxL := 2) (ret := (some .int)) (by decide) rfl ?_
  intro p e s m args below meth c s₁ B hml htab hv
  obtain ⟨rfl, hsz, hP, hK, hD0, hG⟩ := hv
  have hx := B.exec
  have hb := B.bytes
  have hr := B.returns
  have hts := atoms_spec (ws := z_X_handle_neg) B.pre
  have hown : s.vm.findClass RX7 = some m.cls := findClass_of_methodNamed B.named
  have hlocks := B.notSynchronized
  subst hsz
  have hD := hD0.self (sz := s.heap.size)
  generalize hAe : va_A [(h0, .inr (8, [.ref rp, .int 0, .ref rt, .ref rc, .int ((-1)), .ref r1, .ref r2, .ref r3, .ref r4, .null, .int 0]))] s.heap.size = A at hD hG ⊢
  have hA : ∀ q : Nat, s.heap.size ≤ q → A q := fun q h => by rw [← hAe]; exact Or.inr h
  have hS : va_S A s.heap s.heap [] := va_S.rf
  have hl := lv_entry ([.ref h0, .int p0]) (n := 2) (Nat.le_of_ble_eq_true rfl)
  rw [lg_entry_eq]
  generalize (lg_sl ([.ref h0, .int p0]) ++ List.replicate (2 - (lg_sl ([.ref h0, .int p0])).length) Slot.unset).toArray = ls at hl ⊢
  have hl : lv_has ls 2 [(0, .ref h0), (1, .int p0)] := hl
  refine lv_iload_n hx hb dX7_handle_0 rfl (lv_at hl 1 rfl) ?_
  have hPc := hP.sub (ws' := []) [] rfl
  have hDc := hD.sub (ws' := []) [] (by decide) rfl
  have hKc := hK.sub (tys' := []) [] rfl
  have hFc := va_free (wc := []) hD hS hA [] rfl
  refine vx_callv (vx_runS (As := [.int p0]) (rest := []) ⟨hx, hb, hml, hown, hts⟩ (c_cN_neg l dC dI tp te s.heap.size hlt p0 hvn) (va_cwS 1 hts g_X_handle_neg_1 rfl rfl rfl (by decide +kernel) ⟨Nat.le_of_ble_eq_true rfl, Nat.le_of_ble_eq_true rfl⟩) ⟨Pw.blind, Pw.mk hPc hKc hDc hG hS hFc⟩ rfl rfl hl.1 rfl (lv_room (Nat.le_of_ble_eq_true rfl)) dX7_handle_1 ⟨Nat.le_of_ble_eq_true rfl, Nat.le_of_ble_eq_true rfl⟩) hS (fun q _ h => hFc q h) hFc (fun q _ h => hFc q h) (fun E ce q9 u t9 H1 locs ht hvm hpx hBX hz1 hk1 hS hce hcv hcl => ?_) (fun u t9 H_1 locs ht hvm hw hB hz1 hk1 hS => hw.elim)
  have hBX : E = "java/lang/IndexOutOfBoundsException" := hBX
  subst hBX
  exact vx_out (fun x9 h9 => (htab x9 h9).elim) hlocks hce hcv hcl (fun t9 ht9 _ => ⟨(), trivial, rfl, hS.F ht9⟩) hS.2.2 (Nat.le_of_ble_eq_true rfl) (Nat.le_of_ble_eq_true rfl)

set_option maxRecDepth 20000 in
def z_X_handle_big : List Cond := .code yX7_handle cX7_handle 2 (some .int) :: (([.methodLink RX7 62 yX7_checkName, .static yX7_checkName, .initialized RX7, .code yX7_checkName cX7_checkName 1 none, .classLink RX7 107 "java/lang/IndexOutOfBoundsException", .initialized "java/lang/IndexOutOfBoundsException"] : List Cond) ++ (vx_at0 RX7 109 "java/lang/IndexOutOfBoundsException" ["java/lang/RuntimeException", "java/lang/Exception"]).filter goodWord)
set_option maxRecDepth 20000 in
theorem gg_X_handle_big_1 : GoodIn z_X_handle_big z_cN_big := goodIn_ca (goodIn_p _ [4] rfl (by decide +kernel)) (goodIn_sub (fun _ h => List.mem_cons_of_mem _ (List.mem_append_right _ (h))) (by decide +kernel))
set_option maxRecDepth 20000 in
theorem g_X_handle_big_1 : GoodIn z_X_handle_big (va_wsS RX7 62 yX7_checkName z_cN_big) := goodIn_app (goodIn_of _ (by decide +kernel)) gg_X_handle_big_1
set_option maxHeartbeats 4000000 in
set_option maxRecDepth 100000 in
theorem c_X_handle_big (l : Launch) (dC : Nat → ClassId) (dI : Nat → Nat → Nat) (tp te : Nat) (sz : Nat) (hlt : l.stackTraces = false) (h0 : Nat) (rp : Nat) (rt : Nat) (rc : Nat) (r1 : Nat) (r2 : Nat) (r3 : Nat) (r4 : Nat) (p0 : Int32) (hvn : ¬ p0 < 0) (hvb : ¬ p0 < 10) (hvc : 10 ≤ p0) : vx_Met l yX7_handle z_X_handle_big ({ frames := 7, cells := 1, slots := 6, locals := 101 }) (va_Pc [.ref h0, .int p0] (Pw dC dI [(h0, .inr (8, [.ref rp, .int 0, .ref rt, .ref rc, .int ((-1)), .ref r1, .ref r2, .ref r3, .ref r4, .null, .int 0]))] [] sz tp te)) (va_Qi (fun (r : Int32) (_ : Unit) => False) (fun (_ : Unit) (_ : State) => True) (va_A [(h0, .inr (8, [.ref rp, .int 0, .ref rt, .ref rc, .int ((-1)), .ref r1, .ref r2, .ref r3, .ref r4, .null, .int 0]))] sz)) (vx_X (fun (_ : Unit) => True) (fun (E : String) (_ : Unit) (_ : State) => E = "java/lang/IndexOutOfBoundsException") (va_A [(h0, .inr (8, [.ref rp, .int 0, .ref rt, .ref rc, .int ((-1)), .ref r1, .ref r2, .ref r3, .ref r4, .null, .int 0]))] sz)) 1 6 (va_A [(h0, .inr (8, [.ref rp, .int 0, .ref rt, .ref rc, .int ((-1)), .ref r1, .ref r2, .ref r3, .ref r4, .null, .int 0]))] sz) := by
  refine vx_ofW (cc := cX7_handle) (maxL := 2) (ret := (some .int)) (by decide) rfl ?_
  intro p e s m args below meth c s₁ B hml htab hv
  obtain ⟨rfl, hsz, hP, hK, hD0, hG⟩ := hv
  have hx := B.exec
  have hb := B.bytes
  have hr := B.returns
  have hts := atoms_spec (ws := z_X_handle_big) B.pre
  have hown : s.vm.findClass RX7 = some m.cls := findClass_of_methodNamed B.named
  have hlocks := B.notSynchronized
  subst hsz
  have hD := hD0.self (sz := s.heap.size)
  generalize hAe : va_A [(h0, .inr (8, [.ref rp, .int 0, .ref rt, .ref rc, .int ((-1)), .ref r1, .ref r2, .ref r3, .ref r4, .null, .int 0]))] s.heap.size = A at hD hG ⊢
  have hA : ∀ q : Nat, s.heap.size ≤ q → A q := fun q h => by rw [← hAe]; exact Or.inr h
  have hS : va_S A s.heap s.heap [] := va_S.rf
  have hl := lv_entry ([.ref h0, .int p0]) (n := 2) (Nat.le_of_ble_eq_true rfl)
  rw [lg_entry_eq]
  generalize (lg_sl ([.ref h0, .int p0]) ++ List.replicate (2 - (lg_sl ([.ref h0, .int p0])).length) Slot.unset).toArray = ls at hl ⊢
  have hl : lv_has ls 2 [(0, .ref h0), (1, .int p0)] := hl
  refine lv_iload_n hx hb dX7_handle_0 rfl (lv_at hl 1 rfl) ?_
  have hPc := hP.sub (ws' := []) [] rfl
  have hDc := hD.sub (ws' := []) [] (by decide) rfl
  have hKc := hK.sub (tys' := []) [] rfl
  have hFc := va_free (wc := []) hD hS hA [] rfl
  refine vx_callv (vx_runS (As := [.int p0]) (rest := []) ⟨hx, hb, hml, hown, hts⟩ (c_cN_big l dC dI tp te s.heap.size hlt p0 hvn hvb hvc) (va_cwS 1 hts g_X_handle_big_1 rfl rfl rfl (by decide +kernel) ⟨Nat.le_of_ble_eq_true rfl, Nat.le_of_ble_eq_true rfl⟩) ⟨Pw.blind, Pw.mk hPc hKc hDc hG hS hFc⟩ rfl rfl hl.1 rfl (lv_room (Nat.le_of_ble_eq_true rfl)) dX7_handle_1 ⟨Nat.le_of_ble_eq_true rfl, Nat.le_of_ble_eq_true rfl⟩) hS (fun q _ h => hFc q h) hFc (fun q _ h => hFc q h) (fun E ce q9 u t9 H1 locs ht hvm hpx hBX hz1 hk1 hS hce hcv hcl => ?_) (fun u t9 H_1 locs ht hvm hw hB hz1 hk1 hS => hw.elim)
  have hBX : E = "java/lang/IndexOutOfBoundsException" := hBX
  subst hBX
  exact vx_out (fun x9 h9 => (htab x9 h9).elim) hlocks hce hcv hcl (fun t9 ht9 _ => ⟨(), trivial, rfl, hS.F ht9⟩) hS.2.2 (Nat.le_of_ble_eq_true rfl) (Nat.le_of_ble_eq_true rfl)

set_option maxRecDepth 20000 in
def z_X_handle_ok : List Cond := .code yX7_handle cX7_handle 2 (some .int) :: (([.methodLink RX7 62 yX7_checkName, .static yX7_checkName, .initialized RX7, .code yX7_checkName cX7_checkName 1 none, .methodLink RX7 65 yX7_join, .instanceMethod yX7_join, .selects RX7 yX7_join yX7_join, .code yX7_join cX7_join 5 (some .int), .methodLink RX7 173 yX5_partsOf, .static yX5_partsOf, .initialized RX5, .code yX5_partsOf cX5_partsOf 1 (some .int), .fieldLink RX5 34 "Selfkindle$Term" "PARTS_OF" "[I", .fieldLink RX7 72 "Selfkindle" "height" "I", .classLink RX7 75 "java/lang/IllegalStateException", .initialized "java/lang/IllegalStateException"] : List Cond) ++ wsX70 ++ (vx_at0 RX7 77 "java/lang/IllegalStateException" ["java/lang/RuntimeException", "java/lang/Exception"]).filter goodWord)
theorem in_z_X_handle_ok_X7 : ∀ w ∈ wsX70, w ∈ z_X_handle_ok := fun w h => List.mem_cons_of_mem _ (List.mem_append_left _ (List.mem_append_right _ (h)))
set_option maxRecDepth 20000 in
theorem g_X_handle_ok_1 : GoodIn z_X_handle_ok (va_wsS RX7 62 yX7_checkName z_cN_ok) := goodIn_p _ [4] rfl (by decide +kernel)
set_option maxRecDepth 20000 in
theorem gg_X_handle_ok_9 : GoodIn z_X_handle_ok z_jn11 := goodIn_ca (goodIn_p _ [8, 12] rfl (by decide +kernel)) (goodIn_sub (fun _ h => List.mem_cons_of_mem _ (List.mem_append_right _ (h))) (by decide +kernel))
set_option maxRecDepth 20000 in
theorem g_X_handle_ok_9 : GoodIn z_X_handle_ok (wsV RX7 65 RX7 yX7_join z_jn11) := goodIn_app (goodIn_of _ (by decide +kernel)) gg_X_handle_ok_9
set_option maxHeartbeats 4000000 in
set_option maxRecDepth 100000 in
theorem c_X_handle_ok (l : Launch) (dC : Nat → ClassId) (dI : Nat → Nat → Nat) (tp te : Nat) (sz : Nat) (hlt : l.stackTraces = false) (h0 : Nat) (rp : Nat) (rt : Nat) (rc : Nat) (r1 : Nat) (r2 : Nat) (r3 : Nat) (r4 : Nat) (p0 : Int32) (hvn : ¬ p0 < 0) (hvb : p0 < 10) (hvc : ¬ 10 ≤ p0) : vx_Met l yX7_handle z_X_handle_ok ({ frames := 7, cells := 1, slots := 6, locals := 105 }) (va_Pc [.ref h0, .int p0] (Pw dC dI [(h0, .inr (8, [.ref rp, .int 0, .ref rt, .ref rc, .int ((-1)), .ref r1, .ref r2, .ref r3, .ref r4, .null, .int 0]))] [] sz tp te)) (va_Qi (fun (r : Int32) (_ : Unit) => False) (fun (_ : Unit) (_ : State) => True) (va_A [(h0, .inr (8, [.ref rp, .int 0, .ref rt, .ref rc, .int ((-1)), .ref r1, .ref r2, .ref r3, .ref r4, .null, .int 0]))] sz)) (vx_X (fun (_ : Unit) => True) (fun (E : String) (_ : Unit) (_ : State) => E = "java/lang/IllegalStateException") (va_A [(h0, .inr (8, [.ref rp, .int 0, .ref rt, .ref rc, .int ((-1)), .ref r1, .ref r2, .ref r3, .ref r4, .null, .int 0]))] sz)) 1 6 (va_A [(h0, .inr (8, [.ref rp, .int 0, .ref rt, .ref rc, .int ((-1)), .ref r1, .ref r2, .ref r3, .ref r4, .null, .int 0]))] sz) := by
  refine vx_ofW (cc := cX7_handle) (maxL := 2) (ret := (some .int)) (by decide) rfl ?_
  intro p e s m args below meth c s₁ B hml htab hv
  obtain ⟨rfl, hsz, hP, hK, hD0, hG⟩ := hv
  have hx := B.exec
  have hb := B.bytes
  have hr := B.returns
  have hts := atoms_spec (ws := z_X_handle_ok) B.pre
  have hown : s.vm.findClass RX7 = some m.cls := findClass_of_methodNamed B.named
  have hlocks := B.notSynchronized
  subst hsz
  have hD := hD0.self (sz := s.heap.size)
  generalize hAe : va_A [(h0, .inr (8, [.ref rp, .int 0, .ref rt, .ref rc, .int ((-1)), .ref r1, .ref r2, .ref r3, .ref r4, .null, .int 0]))] s.heap.size = A at hD hG ⊢
  have hA : ∀ q : Nat, s.heap.size ≤ q → A q := fun q h => by rw [← hAe]; exact Or.inr h
  have hS : va_S A s.heap s.heap [] := va_S.rf
  have hl := lv_entry ([.ref h0, .int p0]) (n := 2) (Nat.le_of_ble_eq_true rfl)
  rw [lg_entry_eq]
  generalize (lg_sl ([.ref h0, .int p0]) ++ List.replicate (2 - (lg_sl ([.ref h0, .int p0])).length) Slot.unset).toArray = ls at hl ⊢
  have hl : lv_has ls 2 [(0, .ref h0), (1, .int p0)] := hl
  refine lv_iload_n hx hb dX7_handle_0 rfl (lv_at hl 1 rfl) ?_
  have hPc := hP.sub (ws' := []) [] rfl
  have hDc := hD.sub (ws' := []) [] (by decide) rfl
  have hKc := hK.sub (tys' := []) [] rfl
  have hFc := va_free (wc := []) hD hS hA [] rfl
  refine va_callv (va_runS (As := [.int p0]) (rest := []) ⟨hx, hb, hml, hown, hts⟩ (c_cN_ok l dC dI tp te s.heap.size p0 hvn hvb hvc) (va_cwS 1 hts g_X_handle_ok_1 rfl rfl rfl (by decide +kernel) ⟨Nat.le_of_ble_eq_true rfl, Nat.le_of_ble_eq_true rfl⟩) ⟨Pw.blind, Pw.mk hPc hKc hDc hG hS hFc⟩ rfl rfl hl.1 rfl (lv_room (Nat.le_of_ble_eq_true rfl)) dX7_handle_1 ⟨Nat.le_of_ble_eq_true rfl, Nat.le_of_ble_eq_true rfl⟩) hS (fun q _ h => hFc q h) hFc (fun u t9 H_1 locs ht hvm hw hB hz1 hk1 hS => ?_)
  obtain ⟨hP, hD⟩ := va_join (wr := [(h0, .inr (8, [.ref rp, .int 0, .ref rt, .ref rc, .int ((-1)), .ref r1, .ref r2, .ref r3, .ref r4, .null, .int 0]))]) (w1 := []) hP hD [] [0] rfl rfl (by decide) (by decide) hk1 hFc va_P.nil va_D.nil
  have hK := hK.sub (tys' := []) [] rfl
  have hP : va_P (dC, dI) vwCl [(h0, .inr (8, [.ref rp, .int 0, .ref rt, .ref rc, .int ((-1)), .ref r1, .ref r2, .ref r3, .ref r4, .null, .int 0]))] H_1 := hP
  have hD : va_D A [(h0, .inr (8, [.ref rp, .int 0, .ref rt, .ref rc, .int ((-1)), .ref r1, .ref r2, .ref r3, .ref r4, .null, .int 0]))] := hD
  have hK : va_K (dC, dI) vwCl [] s := hK
  refine W.widen (k := 0) (n := 0) (Nat.le_of_ble_eq_true rfl) (Nat.le_of_ble_eq_true rfl) ?_
  refine lv_aload_n hx hb dX7_handle_4 rfl (lv_at hl 0 rfl) ?_
  refine lv_bipush (v := 11) hx hb dX7_handle_5 (by decide) ?_
  refine lv_iload_n hx hb dX7_handle_7 rfl (lv_at hl 1 rfl) ?_
  refine lv_iconst (v := 0) hx hb dX7_handle_8 (by decide) ?_
  have hPc := hP.sub (ws' := [(h0, .inr (8, [.ref rp, .int 0, .ref rt, .ref rc, .int ((-1)), .ref r1, .ref r2, .ref r3, .ref r4, .null, .int 0]))]) [0] rfl
  have hDc := hD.sub (ws' := [(h0, .inr (8, [.ref rp, .int 0, .ref rt, .ref rc, .int ((-1)), .ref r1, .ref r2, .ref r3, .ref r4, .null, .int 0]))]) [0] (by decide) rfl
  have hKc := hK.sub (tys' := []) [] rfl
  have hFc := va_free (wc := [(h0, .inr (8, [.ref rp, .int 0, .ref rt, .ref rc, .int ((-1)), .ref r1, .ref r2, .ref r3, .ref r4, .null, .int 0]))]) hD hS hA [0] rfl
  refine vx_calli (vx_runV (As := [.int 11, .int p0, .int 0]) (rest := []) ⟨hx, hb, hml, hown, hts⟩ (c_jn11 l dC dI tp te H_1.size hlt h0 rp rt rc r1 r2 r3 r4 p0 0) (cwV 3 hts g_X_handle_ok_9 rfl rfl rfl (by decide +kernel) ⟨Nat.le_of_ble_eq_true rfl, Nat.le_of_ble_eq_true rfl⟩) ⟨Pw.blind, va_recv hKc hPc (ci := 8) (q0 := 0) rfl rfl, Pw.mk hPc hKc hDc hG hS hFc⟩ rfl rfl hl.1 rfl (lv_room (Nat.le_of_ble_eq_true rfl)) dX7_handle_9 ⟨Nat.le_of_ble_eq_true rfl, Nat.le_of_ble_eq_true rfl⟩) hS (fun q _ h => hFc q h) hFc (fun q _ h => hFc q h) (fun E ce q9 u t9 H1 locs ht hvm hpx hBX hz1 hk1 hS hce hcv hcl => ?_) (fun r u t9 H_2 locs ht hvm hw hB hz1 hk1 hS => hw.elim)
  have hBX : E = "java/lang/IllegalStateException" := hBX
  subst hBX
  exact vx_out (fun x9 h9 => (htab x9 h9).elim) hlocks hce hcv hcl (fun t9 ht9 _ => ⟨(), trivial, rfl, hS.F ht9⟩) hS.2.2 (Nat.le_of_ble_eq_true rfl) (Nat.le_of_ble_eq_true rfl)

set_option maxRecDepth 20000 in
def z_X_rec_fneg : List Cond := .code yX7_rec cX7_rec 3 (some .int) :: (([.methodLink RX7 62 yX7_checkName, .static yX7_checkName, .initialized RX7, .code yX7_checkName cX7_checkName 1 none, .classLink RX7 107 "java/lang/IndexOutOfBoundsException", .initialized "java/lang/IndexOutOfBoundsException"] : List Cond) ++ (vx_at0 RX7 109 "java/lang/IndexOutOfBoundsException" ["java/lang/RuntimeException", "java/lang/Exception"]).filter goodWord)
set_option maxRecDepth 20000 in
theorem gg_X_rec_fneg_1 : GoodIn z_X_rec_fneg z_cN_neg := goodIn_ca (goodIn_p _ [4] rfl (by decide +kernel)) (goodIn_sub (fun _ h => List.mem_cons_of_mem _ (List.mem_append_right _ (h))) (by decide +kernel))
set_option maxRecDepth 20000 in
theorem g_X_rec_fneg_1 : GoodIn z_X_rec_fneg (va_wsS RX7 62 yX7_checkName z_cN_neg) := goodIn_app (goodIn_of _ (by decide +kernel)) gg_X_rec_fneg_1
set_option maxHeartbeats 4000000 in
set_option maxRecDepth 100000 in
theorem c_X_rec_fneg (l : Launch) (dC : Nat → ClassId) (dI : Nat → Nat → Nat) (tp te : Nat) (sz : Nat) (hlt : l.stackTraces = false) (h0 : Nat) (rp : Nat) (rt : Nat) (rc : Nat) (r1 : Nat) (r2 : Nat) (r3 : Nat) (r4 : Nat) (p0 : Int32) (p1 : Int32) (hvn : p0 < 0) : vx_Met l yX7_rec z_X_rec_fneg ({ frames := 7, cells := 1, slots := 6, locals := 101 }) (va_Pc [.ref h0, .int p0, .int p1] (Pw dC dI [(h0, .inr (8, [.ref rp, .int 0, .ref rt, .ref rc, .int ((-1)), .ref r1, .ref r2, .ref r3, .ref r4, .null, .int 0]))] [] sz tp te)) (va_Qi (fun (r : Int32) (_ : Unit) => False) (fun (_ : Unit) (_ : State) => True) (va_A [(h0, .inr (8, [.ref rp, .int 0, .ref rt, .ref rc, .int ((-1)), .ref r1, .ref r2, .ref r3, .ref r4, .null, .int 0]))] sz)) (vx_X (fun (_ : Unit) => True) (fun (E : String) (_ : Unit) (_ : State) => E = "java/lang/IndexOutOfBoundsException") (va_A [(h0, .inr (8, [.ref rp, .int 0, .ref rt, .ref rc, .int ((-1)), .ref r1, .ref r2, .ref r3, .ref r4, .null, .int 0]))] sz)) 1 6 (va_A [(h0, .inr (8, [.ref rp, .int 0, .ref rt, .ref rc, .int ((-1)), .ref r1, .ref r2, .ref r3, .ref r4, .null, .int 0]))] sz) := by
  refine vx_ofW (cc := cX7_rec) (maxL := 3) (ret := (some .int)) (by decide) rfl ?_
  intro p e s m args below meth c s₁ B hml htab hv
  obtain ⟨rfl, hsz, hP, hK, hD0, hG⟩ := hv
  have hx := B.exec
  have hb := B.bytes
  have hr := B.returns
  have hts := atoms_spec (ws := z_X_rec_fneg) B.pre
  have hown : s.vm.findClass RX7 = some m.cls := findClass_of_methodNamed B.named
  have hlocks := B.notSynchronized
  subst hsz
  have hD := hD0.self (sz := s.heap.size)
  generalize hAe : va_A [(h0, .inr (8, [.ref rp, .int 0, .ref rt, .ref rc, .int ((-1)), .ref r1, .ref r2, .ref r3, .ref r4, .null, .int 0]))] s.heap.size = A at hD hG ⊢
  have hA : ∀ q : Nat, s.heap.size ≤ q → A q := fun q h => by rw [← hAe]; exact Or.inr h
  have hS : va_S A s.heap s.heap [] := va_S.rf
  have hl := lv_entry ([.ref h0, .int p0, .int p1]) (n := 3) (Nat.le_of_ble_eq_true rfl)
  rw [lg_entry_eq]
  generalize (lg_sl ([.ref h0, .int p0, .int p1]) ++ List.replicate (3 - (lg_sl ([.ref h0, .int p0, .int p1])).length) Slot.unset).toArray = ls at hl ⊢
  have hl : lv_has ls 3 [(0, .ref h0), (1, .int p0), (2, .int p1)] := hl
  refine lv_iload_n hx hb dX7_rec_0 rfl (lv_at hl 1 rfl) ?_
  have hPc := hP.sub (ws' := []) [] rfl
  have hDc := hD.sub (ws' := []) [] (by decide) rfl
  have hKc := hK.sub (tys' := []) [] rfl
  have hFc := va_free (wc := []) hD hS hA [] rfl
  refine vx_callv (vx_runS (As := [.int p0]) (rest := []) ⟨hx, hb, hml, hown, hts⟩ (c_cN_neg l dC dI tp te s.heap.size hlt p0 hvn) (va_cwS 1 hts g_X_rec_fneg_1 rfl rfl rfl (by decide +kernel) ⟨Nat.le_of_ble_eq_true rfl, Nat.le_of_ble_eq_true rfl⟩) ⟨Pw.blind, Pw.mk hPc hKc hDc hG hS hFc⟩ rfl rfl hl.1 rfl (lv_room (Nat.le_of_ble_eq_true rfl)) dX7_rec_1 ⟨Nat.le_of_ble_eq_true rfl, Nat.le_of_ble_eq_true rfl⟩) hS (fun q _ h => hFc q h) hFc (fun q _ h => hFc q h) (fun E ce q9 u t9 H1 locs ht hvm hpx hBX hz1 hk1 hS hce hcv hcl => ?_) (fun u t9 H_1 locs ht hvm hw hB hz1 hk1 hS => hw.elim)
  have hBX : E = "java/lang/IndexOutOfBoundsException" := hBX
  subst hBX
  exact vx_out (fun x9 h9 => (htab x9 h9).elim) hlocks hce hcv hcl (fun t9 ht9 _ => ⟨(), trivial, rfl, hS.F ht9⟩) hS.2.2 (Nat.le_of_ble_eq_true rfl) (Nat.le_of_ble_eq_true rfl)

set_option maxRecDepth 20000 in
def z_X_rec_fbig : List Cond := .code yX7_rec cX7_rec 3 (some .int) :: (([.methodLink RX7 62 yX7_checkName, .static yX7_checkName, .initialized RX7, .code yX7_checkName cX7_checkName 1 none, .classLink RX7 107 "java/lang/IndexOutOfBoundsException", .initialized "java/lang/IndexOutOfBoundsException"] : List Cond) ++ (vx_at0 RX7 109 "java/lang/IndexOutOfBoundsException" ["java/lang/RuntimeException", "java/lang/Exception"]).filter goodWord)
set_option maxRecDepth 20000 in
theorem gg_X_rec_fbig_1 : GoodIn z_X_rec_fbig z_cN_big := goodIn_ca (goodIn_p _ [4] rfl (by decide +kernel)) (goodIn_sub (fun _ h => List.mem_cons_of_mem _ (List.mem_append_right _ (h))) (by decide +kernel))
set_option maxRecDepth 20000 in
theorem g_X_rec_fbig_1 : GoodIn z_X_rec_fbig (va_wsS RX7 62 yX7_checkName z_cN_big) := goodIn_app (goodIn_of _ (by decide +kernel)) gg_X_rec_fbig_1
set_option maxHeartbeats 4000000 in
set_option maxRecDepth 100000 in
theorem c_X_rec_fbig (l : Launch) (dC : Nat → ClassId) (dI : Nat → Nat → Nat) (tp te : Nat) (sz : Nat) (hlt : l.stackTraces = false) (h0 : Nat) (rp : Nat) (rt : Nat) (rc : Nat) (r1 : Nat) (r2 : Nat) (r3 : Nat) (r4 : Nat) (p0 : Int32) (p1 : Int32) (hvn : ¬ p0 < 0) (hvb : ¬ p0 < 10) (hvc : 10 ≤ p0) : vx_Met l yX7_rec z_X_rec_fbig ({ frames := 7, cells := 1, slots := 6, locals := 101 }) (va_Pc [.ref h0, .int p0, .int p1] (Pw dC dI [(h0, .inr (8, [.ref rp, .int 0, .ref rt, .ref rc, .int ((-1)), .ref r1, .ref r2, .ref r3, .ref r4, .null, .int 0]))] [] sz tp te)) (va_Qi (fun (r : Int32) (_ : Unit) => False) (fun (_ : Unit) (_ : State) => True) (va_A [(h0, .inr (8, [.ref rp, .int 0, .ref rt, .ref rc, .int ((-1)), .ref r1, .ref r2, .ref r3, .ref r4, .null, .int 0]))] sz)) (vx_X (fun (_ : Unit) => True) (fun (E : String) (_ : Unit) (_ : State) => E = "java/lang/IndexOutOfBoundsException") (va_A [(h0, .inr (8, [.ref rp, .int 0, .ref rt, .ref rc, .int ((-1)), .ref r1, .ref r2, .ref r3, .ref r4, .null, .int 0]))] sz)) 1 6 (va_A [(h0, .inr (8, [.ref rp, .int 0, .ref rt, .ref rc, .int ((-1)), .ref r1, .ref r2, .ref r3, .ref r4, .null, .int 0]))] sz) := by
  refine vx_ofW (cc := cX7_rec) (maxL := 3) (ret := (some .int)) (by decide) rfl ?_
  intro p e s m args below meth c s₁ B hml htab hv
  obtain ⟨rfl, hsz, hP, hK, hD0, hG⟩ := hv
  have hx := B.exec
  have hb := B.bytes
  have hr := B.returns
  have hts := atoms_spec (ws := z_X_rec_fbig) B.pre
  have hown : s.vm.findClass RX7 = some m.cls := findClass_of_methodNamed B.named
  have hlocks := B.notSynchronized
  subst hsz
  have hD := hD0.self (sz := s.heap.size)
  generalize hAe : va_A [(h0, .inr (8, [.ref rp, .int 0, .ref rt, .ref rc, .int ((-1)), .ref r1, .ref r2, .ref r3, .ref r4, .null, .int 0]))] s.heap.size = A at hD hG ⊢
  have hA : ∀ q : Nat, s.heap.size ≤ q → A q := fun q h => by rw [← hAe]; exact Or.inr h
  have hS : va_S A s.heap s.heap [] := va_S.rf
  have hl := lv_entry ([.ref h0, .int p0, .int p1]) (n := 3) (Nat.le_of_ble_eq_true rfl)
  rw [lg_entry_eq]
  generalize (lg_sl ([.ref h0, .int p0, .int p1]) ++ List.replicate (3 - (lg_sl ([.ref h0, .int p0, .int p1])).length) Slot.unset).toArray = ls at hl ⊢
  have hl : lv_has ls 3 [(0, .ref h0), (1, .int p0), (2, .int p1)] := hl
  refine lv_iload_n hx hb dX7_rec_0 rfl (lv_at hl 1 rfl) ?_
  have hPc := hP.sub (ws' := []) [] rfl
  have hDc := hD.sub (ws' := []) [] (by decide) rfl
  have hKc := hK.sub (tys' := []) [] rfl
  have hFc := va_free (wc := []) hD hS hA [] rfl
  refine vx_callv (vx_runS (As := [.int p0]) (rest := []) ⟨hx, hb, hml, hown, hts⟩ (c_cN_big l dC dI tp te s.heap.size hlt p0 hvn hvb hvc) (va_cwS 1 hts g_X_rec_fbig_1 rfl rfl rfl (by decide +kernel) ⟨Nat.le_of_ble_eq_true rfl, Nat.le_of_ble_eq_true rfl⟩) ⟨Pw.blind, Pw.mk hPc hKc hDc hG hS hFc⟩ rfl rfl hl.1 rfl (lv_room (Nat.le_of_ble_eq_true rfl)) dX7_rec_1 ⟨Nat.le_of_ble_eq_true rfl, Nat.le_of_ble_eq_true rfl⟩) hS (fun q _ h => hFc q h) hFc (fun q _ h => hFc q h) (fun E ce q9 u t9 H1 locs ht hvm hpx hBX hz1 hk1 hS hce hcv hcl => ?_) (fun u t9 H_1 locs ht hvm hw hB hz1 hk1 hS => hw.elim)
  have hBX : E = "java/lang/IndexOutOfBoundsException" := hBX
  subst hBX
  exact vx_out (fun x9 h9 => (htab x9 h9).elim) hlocks hce hcv hcl (fun t9 ht9 _ => ⟨(), trivial, rfl, hS.F ht9⟩) hS.2.2 (Nat.le_of_ble_eq_true rfl) (Nat.le_of_ble_eq_true rfl)

set_option maxRecDepth 20000 in
def z_X_rec_xneg : List Cond := .code yX7_rec cX7_rec 3 (some .int) :: (([.methodLink RX7 62 yX7_checkName, .static yX7_checkName, .initialized RX7, .code yX7_checkName cX7_checkName 1 none, .classLink RX7 107 "java/lang/IndexOutOfBoundsException", .initialized "java/lang/IndexOutOfBoundsException"] : List Cond) ++ (vx_at0 RX7 109 "java/lang/IndexOutOfBoundsException" ["java/lang/RuntimeException", "java/lang/Exception"]).filter goodWord)
set_option maxRecDepth 20000 in
theorem g_X_rec_xneg_1 : GoodIn z_X_rec_xneg (va_wsS RX7 62 yX7_checkName z_cN_ok) := goodIn_p _ [4] rfl (by decide +kernel)
set_option maxRecDepth 20000 in
theorem gg_X_rec_xneg_5 : GoodIn z_X_rec_xneg z_cN_neg := goodIn_ca (goodIn_p _ [4] rfl (by decide +kernel)) (goodIn_sub (fun _ h => List.mem_cons_of_mem _ (List.mem_append_right _ (h))) (by decide +kernel))
set_option maxRecDepth 20000 in
theorem g_X_rec_xneg_5 : GoodIn z_X_rec_xneg (va_wsS RX7 62 yX7_checkName z_cN_neg) := goodIn_app (goodIn_of _ (by decide +kernel)) gg_X_rec_xneg_5
set_option maxHeartbeats 4000000 in
set_option maxRecDepth 100000 in
theorem c_X_rec_xneg (l : Launch) (dC : Nat → ClassId) (dI : Nat → Nat → Nat) (tp te : Nat) (sz : Nat) (hlt : l.stackTraces = false) (h0 : Nat) (rp : Nat) (rt : Nat) (rc : Nat) (r1 : Nat) (r2 : Nat) (r3 : Nat) (r4 : Nat) (p0 : Int32) (p1 : Int32) (hvn : ¬ p0 < 0) (hvb : p0 < 10) (hvc : ¬ 10 ≤ p0) (hvnx : p1 < 0) : vx_Met l yX7_rec z_X_rec_xneg ({ frames := 7, cells := 1, slots := 6, locals := 101 }) (va_Pc [.ref h0, .int p0, .int p1] (Pw dC dI [(h0, .inr (8, [.ref rp, .int 0, .ref rt, .ref rc, .int ((-1)), .ref r1, .ref r2, .ref r3, .ref r4, .null, .int 0]))] [] sz tp te)) (va_Qi (fun (r : Int32) (_ : Unit) => False) (fun (_ : Unit) (_ : State) => True) (va_A [(h0, .inr (8, [.ref rp, .int 0, .ref rt, .ref rc, .int ((-1)), .ref r1, .ref r2, .ref r3, .ref r4, .null, .int 0]))] sz)) (vx_X (fun (_ : Unit) => True) (fun (E : String) (_ : Unit) (_ : State) => E = "java/lang/IndexOutOfBoundsException") (va_A [(h0, .inr (8, [.ref rp, .int 0, .ref rt, .ref rc, .int ((-1)), .ref r1, .ref r2, .ref r3, .ref r4, .null, .int 0]))] sz)) 1 6 (va_A [(h0, .inr (8, [.ref rp, .int 0, .ref rt, .ref rc, .int ((-1)), .ref r1, .ref r2, .ref r3, .ref r4, .null, .int 0]))] sz) := by
  refine vx_ofW (cc := cX7_rec) (maxL := 3) (ret := (some .int)) (by decide) rfl ?_
  intro p e s m args below meth c s₁ B hml htab hv
  obtain ⟨rfl, hsz, hP, hK, hD0, hG⟩ := hv
  have hx := B.exec
  have hb := B.bytes
  have hr := B.returns
  have hts := atoms_spec (ws := z_X_rec_xneg) B.pre
  have hown : s.vm.findClass RX7 = some m.cls := findClass_of_methodNamed B.named
  have hlocks := B.notSynchronized
  subst hsz
  have hD := hD0.self (sz := s.heap.size)
  generalize hAe : va_A [(h0, .inr (8, [.ref rp, .int 0, .ref rt, .ref rc, .int ((-1)), .ref r1, .ref r2, .ref r3, .ref r4, .null, .int 0]))] s.heap.size = A at hD hG ⊢
  have hA : ∀ q : Nat, s.heap.size ≤ q → A q := fun q h => by rw [← hAe]; exact Or.inr h
  have hS : va_S A s.heap s.heap [] := va_S.rf
  have hl := lv_entry ([.ref h0, .int p0, .int p1]) (n := 3) (Nat.le_of_ble_eq_true rfl)
  rw [lg_entry_eq]
  generalize (lg_sl ([.ref h0, .int p0, .int p1]) ++ List.replicate (3 - (lg_sl ([.ref h0, .int p0, .int p1])).length) Slot.unset).toArray = ls at hl ⊢
  have hl : lv_has ls 3 [(0, .ref h0), (1, .int p0), (2, .int p1)] := hl
  refine lv_iload_n hx hb dX7_rec_0 rfl (lv_at hl 1 rfl) ?_
  have hPc := hP.sub (ws' := []) [] rfl
  have hDc := hD.sub (ws' := []) [] (by decide) rfl
  have hKc := hK.sub (tys' := []) [] rfl
  have hFc := va_free (wc := []) hD hS hA [] rfl
  refine va_callv (va_runS (As := [.int p0]) (rest := []) ⟨hx, hb, hml, hown, hts⟩ (c_cN_ok l dC dI tp te s.heap.size p0 hvn hvb hvc) (va_cwS 1 hts g_X_rec_xneg_1 rfl rfl rfl (by decide +kernel) ⟨Nat.le_of_ble_eq_true rfl, Nat.le_of_ble_eq_true rfl⟩) ⟨Pw.blind, Pw.mk hPc hKc hDc hG hS hFc⟩ rfl rfl hl.1 rfl (lv_room (Nat.le_of_ble_eq_true rfl)) dX7_rec_1 ⟨Nat.le_of_ble_eq_true rfl, Nat.le_of_ble_eq_true rfl⟩) hS (fun q _ h => hFc q h) hFc (fun u t9 H_1 locs ht hvm hw hB hz1 hk1 hS => ?_)
  obtain ⟨hP, hD⟩ := va_join (wr := [(h0, .inr (8, [.ref rp, .int 0, .ref rt, .ref rc, .int ((-1)), .ref r1, .ref r2, .ref r3, .ref r4, .null, .int 0]))]) (w1 := []) hP hD [] [0] rfl rfl (by decide) (by decide) hk1 hFc va_P.nil va_D.nil
  have hK := hK.sub (tys' := []) [] rfl
  have hP : va_P (dC, dI) vwCl [(h0, .inr (8, [.ref rp, .int 0, .ref rt, .ref rc, .int ((-1)), .ref r1, .ref r2, .ref r3, .ref r4, .null, .int 0]))] H_1 := hP
  have hD : va_D A [(h0, .inr (8, [.ref rp, .int 0, .ref rt, .ref rc, .int ((-1)), .ref r1, .ref r2, .ref r3, .ref r4, .null, .int 0]))] := hD
  have hK : va_K (dC, dI) vwCl [] s := hK
  refine W.widen (k := 0) (n := 0) (Nat.le_of_ble_eq_true rfl) (Nat.le_of_ble_eq_true rfl) ?_
  refine lv_iload_n hx hb dX7_rec_4 rfl (lv_at hl 2 rfl) ?_
  have hPc := hP.sub (ws' := []) [] rfl
  have hDc := hD.sub (ws' := []) [] (by decide) rfl
  have hKc := hK.sub (tys' := []) [] rfl
  have hFc := va_free (wc := []) hD hS hA [] rfl
  refine vx_callv (vx_runS (As := [.int p1]) (rest := []) ⟨hx, hb, hml, hown, hts⟩ (c_cN_neg l dC dI tp te H_1.size hlt p1 hvnx) (va_cwS 1 hts g_X_rec_xneg_5 rfl rfl rfl (by decide +kernel) ⟨Nat.le_of_ble_eq_true rfl, Nat.le_of_ble_eq_true rfl⟩) ⟨Pw.blind, Pw.mk hPc hKc hDc hG hS hFc⟩ rfl rfl hl.1 rfl (lv_room (Nat.le_of_ble_eq_true rfl)) dX7_rec_5 ⟨Nat.le_of_ble_eq_true rfl, Nat.le_of_ble_eq_true rfl⟩) hS (fun q _ h => hFc q h) hFc (fun q _ h => hFc q h) (fun E ce q9 u t9 H1 locs ht hvm hpx hBX hz1 hk1 hS hce hcv hcl => ?_) (fun u t9 H_2 locs ht hvm hw hB hz1 hk1 hS => hw.elim)
  have hBX : E = "java/lang/IndexOutOfBoundsException" := hBX
  subst hBX
  exact vx_out (fun x9 h9 => (htab x9 h9).elim) hlocks hce hcv hcl (fun t9 ht9 _ => ⟨(), trivial, rfl, hS.F ht9⟩) hS.2.2 (Nat.le_of_ble_eq_true rfl) (Nat.le_of_ble_eq_true rfl)

set_option maxRecDepth 20000 in
def z_X_rec_xbig : List Cond := .code yX7_rec cX7_rec 3 (some .int) :: (([.methodLink RX7 62 yX7_checkName, .static yX7_checkName, .initialized RX7, .code yX7_checkName cX7_checkName 1 none, .classLink RX7 107 "java/lang/IndexOutOfBoundsException", .initialized "java/lang/IndexOutOfBoundsException"] : List Cond) ++ (vx_at0 RX7 109 "java/lang/IndexOutOfBoundsException" ["java/lang/RuntimeException", "java/lang/Exception"]).filter goodWord)
set_option maxRecDepth 20000 in
theorem g_X_rec_xbig_1 : GoodIn z_X_rec_xbig (va_wsS RX7 62 yX7_checkName z_cN_ok) := goodIn_p _ [4] rfl (by decide +kernel)
set_option maxRecDepth 20000 in
theorem gg_X_rec_xbig_5 : GoodIn z_X_rec_xbig z_cN_big := goodIn_ca (goodIn_p _ [4] rfl (by decide +kernel)) (goodIn_sub (fun _ h => List.mem_cons_of_mem _ (List.mem_append_right _ (h))) (by decide +kernel))
set_option maxRecDepth 20000 in
theorem g_X_rec_xbig_5 : GoodIn z_X_rec_xbig (va_wsS RX7 62 yX7_checkName z_cN_big) := goodIn_app (goodIn_of _ (by decide +kernel)) gg_X_rec_xbig_5
set_option maxHeartbeats 4000000 in
set_option maxRecDepth 100000 in
theorem c_X_rec_xbig (l : Launch) (dC : Nat → ClassId) (dI : Nat → Nat → Nat) (tp te : Nat) (sz : Nat) (hlt : l.stackTraces = false) (h0 : Nat) (rp : Nat) (rt : Nat) (rc : Nat) (r1 : Nat) (r2 : Nat) (r3 : Nat) (r4 : Nat) (p0 : Int32) (p1 : Int32) (hvn : ¬ p0 < 0) (hvb : p0 < 10) (hvc : ¬ 10 ≤ p0) (hvnx : ¬ p1 < 0) (hvbx : ¬ p1 < 10) (hvcx : 10 ≤ p1) : vx_Met l yX7_rec z_X_rec_xbig ({ frames := 7, cells := 1, slots := 6, locals := 101 }) (va_Pc [.ref h0, .int p0, .int p1] (Pw dC dI [(h0, .inr (8, [.ref rp, .int 0, .ref rt, .ref rc, .int ((-1)), .ref r1, .ref r2, .ref r3, .ref r4, .null, .int 0]))] [] sz tp te)) (va_Qi (fun (r : Int32) (_ : Unit) => False) (fun (_ : Unit) (_ : State) => True) (va_A [(h0, .inr (8, [.ref rp, .int 0, .ref rt, .ref rc, .int ((-1)), .ref r1, .ref r2, .ref r3, .ref r4, .null, .int 0]))] sz)) (vx_X (fun (_ : Unit) => True) (fun (E : String) (_ : Unit) (_ : State) => E = "java/lang/IndexOutOfBoundsException") (va_A [(h0, .inr (8, [.ref rp, .int 0, .ref rt, .ref rc, .int ((-1)), .ref r1, .ref r2, .ref r3, .ref r4, .null, .int 0]))] sz)) 1 6 (va_A [(h0, .inr (8, [.ref rp, .int 0, .ref rt, .ref rc, .int ((-1)), .ref r1, .ref r2, .ref r3, .ref r4, .null, .int 0]))] sz) := by
  refine vx_ofW (cc := cX7_rec) (maxL := 3) (ret := (some .int)) (by decide) rfl ?_
  intro p e s m args below meth c s₁ B hml htab hv
  obtain ⟨rfl, hsz, hP, hK, hD0, hG⟩ := hv
  have hx := B.exec
  have hb := B.bytes
  have hr := B.returns
  have hts := atoms_spec (ws := z_X_rec_xbig) B.pre
  have hown : s.vm.findClass RX7 = some m.cls := findClass_of_methodNamed B.named
  have hlocks := B.notSynchronized
  subst hsz
  have hD := hD0.self (sz := s.heap.size)
  generalize hAe : va_A [(h0, .inr (8, [.ref rp, .int 0, .ref rt, .ref rc, .int ((-1)), .ref r1, .ref r2, .ref r3, .ref r4, .null, .int 0]))] s.heap.size = A at hD hG ⊢
  have hA : ∀ q : Nat, s.heap.size ≤ q → A q := fun q h => by rw [← hAe]; exact Or.inr h
  have hS : va_S A s.heap s.heap [] := va_S.rf
  have hl := lv_entry ([.ref h0, .int p0, .int p1]) (n := 3) (Nat.le_of_ble_eq_true rfl)
  rw [lg_entry_eq]
  generalize (lg_sl ([.ref h0, .int p0, .int p1]) ++ List.replicate (3 - (lg_sl ([.ref h0, .int p0, .int p1])).length) Slot.unset).toArray = ls at hl ⊢
  have hl : lv_has ls 3 [(0, .ref h0), (1, .int p0), (2, .int p1)] := hl
  refine lv_iload_n hx hb dX7_rec_0 rfl (lv_at hl 1 rfl) ?_
  have hPc := hP.sub (ws' := []) [] rfl
  have hDc := hD.sub (ws' := []) [] (by decide) rfl
  have hKc := hK.sub (tys' := []) [] rfl
  have hFc := va_free (wc := []) hD hS hA [] rfl
  refine va_callv (va_runS (As := [.int p0]) (rest := []) ⟨hx, hb, hml, hown, hts⟩ (c_cN_ok l dC dI tp te s.heap.size p0 hvn hvb hvc) (va_cwS 1 hts g_X_rec_xbig_1 rfl rfl rfl (by decide +kernel) ⟨Nat.le_of_ble_eq_true rfl, Nat.le_of_ble_eq_true rfl⟩) ⟨Pw.blind, Pw.mk hPc hKc hDc hG hS hFc⟩ rfl rfl hl.1 rfl (lv_room (Nat.le_of_ble_eq_true rfl)) dX7_rec_1 ⟨Nat.le_of_ble_eq_true rfl, Nat.le_of_ble_eq_true rfl⟩) hS (fun q _ h => hFc q h) hFc (fun u t9 H_1 locs ht hvm hw hB hz1 hk1 hS => ?_)
  obtain ⟨hP, hD⟩ := va_join (wr := [(h0, .inr (8, [.ref rp, .int 0, .ref rt, .ref rc, .int ((-1)), .ref r1, .ref r2, .ref r3, .ref r4, .null, .int 0]))]) (w1 := []) hP hD [] [0] rfl rfl (by decide) (by decide) hk1 hFc va_P.nil va_D.nil
  have hK := hK.sub (tys' := []) [] rfl
  have hP : va_P (dC, dI) vwCl [(h0, .inr (8, [.ref rp, .int 0, .ref rt, .ref rc, .int ((-1)), .ref r1, .ref r2, .ref r3, .ref r4, .null, .int 0]))] H_1 := hP
  have hD : va_D A [(h0, .inr (8, [.ref rp, .int 0, .ref rt, .ref rc, .int ((-1)), .ref r1, .ref r2, .ref r3, .ref r4, .null, .int 0]))] := hD
  have hK : va_K (dC, dI) vwCl [] s := hK
  refine W.widen (k := 0) (n := 0) (Nat.le_of_ble_eq_true rfl) (Nat.le_of_ble_eq_true rfl) ?_
  refine lv_iload_n hx hb dX7_rec_4 rfl (lv_at hl 2 rfl) ?_
  have hPc := hP.sub (ws' := []) [] rfl
  have hDc := hD.sub (ws' := []) [] (by decide) rfl
  have hKc := hK.sub (tys' := []) [] rfl
  have hFc := va_free (wc := []) hD hS hA [] rfl
  refine vx_callv (vx_runS (As := [.int p1]) (rest := []) ⟨hx, hb, hml, hown, hts⟩ (c_cN_big l dC dI tp te H_1.size hlt p1 hvnx hvbx hvcx) (va_cwS 1 hts g_X_rec_xbig_5 rfl rfl rfl (by decide +kernel) ⟨Nat.le_of_ble_eq_true rfl, Nat.le_of_ble_eq_true rfl⟩) ⟨Pw.blind, Pw.mk hPc hKc hDc hG hS hFc⟩ rfl rfl hl.1 rfl (lv_room (Nat.le_of_ble_eq_true rfl)) dX7_rec_5 ⟨Nat.le_of_ble_eq_true rfl, Nat.le_of_ble_eq_true rfl⟩) hS (fun q _ h => hFc q h) hFc (fun q _ h => hFc q h) (fun E ce q9 u t9 H1 locs ht hvm hpx hBX hz1 hk1 hS hce hcv hcl => ?_) (fun u t9 H_2 locs ht hvm hw hB hz1 hk1 hS => hw.elim)
  have hBX : E = "java/lang/IndexOutOfBoundsException" := hBX
  subst hBX
  exact vx_out (fun x9 h9 => (htab x9 h9).elim) hlocks hce hcv hcl (fun t9 ht9 _ => ⟨(), trivial, rfl, hS.F ht9⟩) hS.2.2 (Nat.le_of_ble_eq_true rfl) (Nat.le_of_ble_eq_true rfl)

set_option maxRecDepth 20000 in
def z_X_rec_ok : List Cond := .code yX7_rec cX7_rec 3 (some .int) :: (([.methodLink RX7 62 yX7_checkName, .static yX7_checkName, .initialized RX7, .code yX7_checkName cX7_checkName 1 none, .methodLink RX7 65 yX7_join, .instanceMethod yX7_join, .selects RX7 yX7_join yX7_join, .code yX7_join cX7_join 5 (some .int), .methodLink RX7 173 yX5_partsOf, .static yX5_partsOf, .initialized RX5, .code yX5_partsOf cX5_partsOf 1 (some .int), .fieldLink RX5 34 "Selfkindle$Term" "PARTS_OF" "[I", .fieldLink RX7 72 "Selfkindle" "height" "I", .classLink RX7 75 "java/lang/IllegalStateException", .initialized "java/lang/IllegalStateException"] : List Cond) ++ wsX70 ++ (vx_at0 RX7 77 "java/lang/IllegalStateException" ["java/lang/RuntimeException", "java/lang/Exception"]).filter goodWord)
theorem in_z_X_rec_ok_X7 : ∀ w ∈ wsX70, w ∈ z_X_rec_ok := fun w h => List.mem_cons_of_mem _ (List.mem_append_left _ (List.mem_append_right _ (h)))
set_option maxRecDepth 20000 in
theorem g_X_rec_ok_1 : GoodIn z_X_rec_ok (va_wsS RX7 62 yX7_checkName z_cN_ok) := goodIn_p _ [4] rfl (by decide +kernel)
set_option maxRecDepth 20000 in
theorem g_X_rec_ok_5 : GoodIn z_X_rec_ok (va_wsS RX7 62 yX7_checkName z_cN_ok) := goodIn_p _ [4] rfl (by decide +kernel)
set_option maxRecDepth 20000 in
theorem gg_X_rec_ok_13 : GoodIn z_X_rec_ok z_jn7 := goodIn_ca (goodIn_p _ [8, 12] rfl (by decide +kernel)) (goodIn_sub (fun _ h => List.mem_cons_of_mem _ (List.mem_append_right _ (h))) (by decide +kernel))
set_option maxRecDepth 20000 in
theorem g_X_rec_ok_13 : GoodIn z_X_rec_ok (wsV RX7 65 RX7 yX7_join z_jn7) := goodIn_app (goodIn_of _ (by decide +kernel)) gg_X_rec_ok_13
set_option maxHeartbeats 4000000 in
set_option maxRecDepth 100000 in
theorem c_X_rec_ok (l : Launch) (dC : Nat → ClassId) (dI : Nat → Nat → Nat) (tp te : Nat) (sz : Nat) (hlt : l.stackTraces = false) (h0 : Nat) (rp : Nat) (rt : Nat) (rc : Nat) (r1 : Nat) (r2 : Nat) (r3 : Nat) (r4 : Nat) (p0 : Int32) (p1 : Int32) (hvn : ¬ p0 < 0) (hvb : p0 < 10) (hvc : ¬ 10 ≤ p0) (hvnx : ¬ p1 < 0) (hvbx : p1 < 10) (hvcx : ¬ 10 ≤ p1) : vx_Met l yX7_rec z_X_rec_ok ({ frames := 7, cells := 1, slots := 6, locals := 105 }) (va_Pc [.ref h0, .int p0, .int p1] (Pw dC dI [(h0, .inr (8, [.ref rp, .int 0, .ref rt, .ref rc, .int ((-1)), .ref r1, .ref r2, .ref r3, .ref r4, .null, .int 0]))] [] sz tp te)) (va_Qi (fun (r : Int32) (_ : Unit) => False) (fun (_ : Unit) (_ : State) => True) (va_A [(h0, .inr (8, [.ref rp, .int 0, .ref rt, .ref rc, .int ((-1)), .ref r1, .ref r2, .ref r3, .ref r4, .null, .int 0]))] sz)) (vx_X (fun (_ : Unit) => True) (fun (E : String) (_ : Unit) (_ : State) => E = "java/lang/IllegalStateException") (va_A [(h0, .inr (8, [.ref rp, .int 0, .ref rt, .ref rc, .int ((-1)), .ref r1, .ref r2, .ref r3, .ref r4, .null, .int 0]))] sz)) 1 6 (va_A [(h0, .inr (8, [.ref rp, .int 0, .ref rt, .ref rc, .int ((-1)), .ref r1, .ref r2, .ref r3, .ref r4, .null, .int 0]))] sz) := by
  refine vx_ofW (cc := cX7_rec) (maxL := 3) (ret := (some .int)) (by decide) rfl ?_
  intro p e s m args below meth c s₁ B hml htab hv
  obtain ⟨rfl, hsz, hP, hK, hD0, hG⟩ := hv
  have hx := B.exec
  have hb := B.bytes
  have hr := B.returns
  have hts := atoms_spec (ws := z_X_rec_ok) B.pre
  have hown : s.vm.findClass RX7 = some m.cls := findClass_of_methodNamed B.named
  have hlocks := B.notSynchronized
  subst hsz
  have hD := hD0.self (sz := s.heap.size)
  generalize hAe : va_A [(h0, .inr (8, [.ref rp, .int 0, .ref rt, .ref rc, .int ((-1)), .ref r1, .ref r2, .ref r3, .ref r4, .null, .int 0]))] s.heap.size = A at hD hG ⊢
  have hA : ∀ q : Nat, s.heap.size ≤ q → A q := fun q h => by rw [← hAe]; exact Or.inr h
  have hS : va_S A s.heap s.heap [] := va_S.rf
  have hl := lv_entry ([.ref h0, .int p0, .int p1]) (n := 3) (Nat.le_of_ble_eq_true rfl)
  rw [lg_entry_eq]
  generalize (lg_sl ([.ref h0, .int p0, .int p1]) ++ List.replicate (3 - (lg_sl ([.ref h0, .int p0, .int p1])).length) Slot.unset).toArray = ls at hl ⊢
  have hl : lv_has ls 3 [(0, .ref h0), (1, .int p0), (2, .int p1)] := hl
  refine lv_iload_n hx hb dX7_rec_0 rfl (lv_at hl 1 rfl) ?_
  have hPc := hP.sub (ws' := []) [] rfl
  have hDc := hD.sub (ws' := []) [] (by decide) rfl
  have hKc := hK.sub (tys' := []) [] rfl
  have hFc := va_free (wc := []) hD hS hA [] rfl
  refine va_callv (va_runS (As := [.int p0]) (rest := []) ⟨hx, hb, hml, hown, hts⟩ (c_cN_ok l dC dI tp te s.heap.size p0 hvn hvb hvc) (va_cwS 1 hts g_X_rec_ok_1 rfl rfl rfl (by decide +kernel) ⟨Nat.le_of_ble_eq_true rfl, Nat.le_of_ble_eq_true rfl⟩) ⟨Pw.blind, Pw.mk hPc hKc hDc hG hS hFc⟩ rfl rfl hl.1 rfl (lv_room (Nat.le_of_ble_eq_true rfl)) dX7_rec_1 ⟨Nat.le_of_ble_eq_true rfl, Nat.le_of_ble_eq_true rfl⟩) hS (fun q _ h => hFc q h) hFc (fun u t9 H_1 locs ht hvm hw hB hz1 hk1 hS => ?_)
  obtain ⟨hP, hD⟩ := va_join (wr := [(h0, .inr (8, [.ref rp, .int 0, .ref rt, .ref rc, .int ((-1)), .ref r1, .ref r2, .ref r3, .ref r4, .null, .int 0]))]) (w1 := []) hP hD [] [0] rfl rfl (by decide) (by decide) hk1 hFc va_P.nil va_D.nil
  have hK := hK.sub (tys' := []) [] rfl
  have hP : va_P (dC, dI) vwCl [(h0, .inr (8, [.ref rp, .int 0, .ref rt, .ref rc, .int ((-1)), .ref r1, .ref r2, .ref r3, .ref r4, .null, .int 0]))] H_1 := hP
  have hD : va_D A [(h0, .inr (8, [.ref rp, .int 0, .ref rt, .ref rc, .int ((-1)), .ref r1, .ref r2, .ref r3, .ref r4, .null, .int 0]))] := hD
  have hK : va_K (dC, dI) vwCl [] s := hK
  refine W.widen (k := 0) (n := 0) (Nat.le_of_ble_eq_true rfl) (Nat.le_of_ble_eq_true rfl) ?_
  refine lv_iload_n hx hb dX7_rec_4 rfl (lv_at hl 2 rfl) ?_
  have hPc := hP.sub (ws' := []) [] rfl
  have hDc := hD.sub (ws' := []) [] (by decide) rfl
  have hKc := hK.sub (tys' := []) [] rfl
  have hFc := va_free (wc := []) hD hS hA [] rfl
  refine va_callv (va_runS (As := [.int p1]) (rest := []) ⟨hx, hb, hml, hown, hts⟩ (c_cN_ok l dC dI tp te H_1.size p1 hvnx hvbx hvcx) (va_cwS 1 hts g_X_rec_ok_5 rfl rfl rfl (by decide +kernel) ⟨Nat.le_of_ble_eq_true rfl, Nat.le_of_ble_eq_true rfl⟩) ⟨Pw.blind, Pw.mk hPc hKc hDc hG hS hFc⟩ rfl rfl hl.1 rfl (lv_room (Nat.le_of_ble_eq_true rfl)) dX7_rec_5 ⟨Nat.le_of_ble_eq_true rfl, Nat.le_of_ble_eq_true rfl⟩) hS (fun q _ h => hFc q h) hFc (fun u t9 H_2 locs ht hvm hw hB hz1 hk1 hS => ?_)
  obtain ⟨hP, hD⟩ := va_join (wr := [(h0, .inr (8, [.ref rp, .int 0, .ref rt, .ref rc, .int ((-1)), .ref r1, .ref r2, .ref r3, .ref r4, .null, .int 0]))]) (w1 := []) hP hD [] [0] rfl rfl (by decide) (by decide) hk1 hFc va_P.nil va_D.nil
  have hK := hK.sub (tys' := []) [] rfl
  have hP : va_P (dC, dI) vwCl [(h0, .inr (8, [.ref rp, .int 0, .ref rt, .ref rc, .int ((-1)), .ref r1, .ref r2, .ref r3, .ref r4, .null, .int 0]))] H_2 := hP
  have hD : va_D A [(h0, .inr (8, [.ref rp, .int 0, .ref rt, .ref rc, .int ((-1)), .ref r1, .ref r2, .ref r3, .ref r4, .null, .int 0]))] := hD
  have hK : va_K (dC, dI) vwCl [] s := hK
  refine W.widen (k := 0) (n := 0) (Nat.le_of_ble_eq_true rfl) (Nat.le_of_ble_eq_true rfl) ?_
  refine lv_aload_n hx hb dX7_rec_8 rfl (lv_at hl 0 rfl) ?_
  refine lv_bipush (v := 7) hx hb dX7_rec_9 (by decide) ?_
  refine lv_iload_n hx hb dX7_rec_11 rfl (lv_at hl 1 rfl) ?_
  refine lv_iload_n hx hb dX7_rec_12 rfl (lv_at hl 2 rfl) ?_
  have hPc := hP.sub (ws' := [(h0, .inr (8, [.ref rp, .int 0, .ref rt, .ref rc, .int ((-1)), .ref r1, .ref r2, .ref r3, .ref r4, .null, .int 0]))]) [0] rfl
  have hDc := hD.sub (ws' := [(h0, .inr (8, [.ref rp, .int 0, .ref rt, .ref rc, .int ((-1)), .ref r1, .ref r2, .ref r3, .ref r4, .null, .int 0]))]) [0] (by decide) rfl
  have hKc := hK.sub (tys' := []) [] rfl
  have hFc := va_free (wc := [(h0, .inr (8, [.ref rp, .int 0, .ref rt, .ref rc, .int ((-1)), .ref r1, .ref r2, .ref r3, .ref r4, .null, .int 0]))]) hD hS hA [0] rfl
  refine vx_calli (vx_runV (As := [.int 7, .int p0, .int p1]) (rest := []) ⟨hx, hb, hml, hown, hts⟩ (c_jn7 l dC dI tp te H_2.size hlt h0 rp rt rc r1 r2 r3 r4 p0 p1) (cwV 3 hts g_X_rec_ok_13 rfl rfl rfl (by decide +kernel) ⟨Nat.le_of_ble_eq_true rfl, Nat.le_of_ble_eq_true rfl⟩) ⟨Pw.blind, va_recv hKc hPc (ci := 8) (q0 := 0) rfl rfl, Pw.mk hPc hKc hDc hG hS hFc⟩ rfl rfl hl.1 rfl (lv_room (Nat.le_of_ble_eq_true rfl)) dX7_rec_13 ⟨Nat.le_of_ble_eq_true rfl, Nat.le_of_ble_eq_true rfl⟩) hS (fun q _ h => hFc q h) hFc (fun q _ h => hFc q h) (fun E ce q9 u t9 H1 locs ht hvm hpx hBX hz1 hk1 hS hce hcv hcl => ?_) (fun r u t9 H_3 locs ht hvm hw hB hz1 hk1 hS => hw.elim)
  have hBX : E = "java/lang/IllegalStateException" := hBX
  subst hBX
  exact vx_out (fun x9 h9 => (htab x9 h9).elim) hlocks hce hcv hcl (fun t9 ht9 _ => ⟨(), trivial, rfl, hS.F ht9⟩) hS.2.2 (Nat.le_of_ble_eq_true rfl) (Nat.le_of_ble_eq_true rfl)

set_option maxRecDepth 20000 in
def z_X_two_neg : List Cond := .code yX7_two cX7_two 2 (some .int) :: (([.classLink RX7 69 "java/lang/IllegalArgumentException", .initialized "java/lang/IllegalArgumentException"] : List Cond) ++ (vx_at0 RX7 71 "java/lang/IllegalArgumentException" ["java/lang/RuntimeException", "java/lang/Exception"]).filter goodWord)
set_option maxHeartbeats 4000000 in
set_option maxRecDepth 100000 in
theorem c_X_two_neg (l : Launch) (dC : Nat → ClassId) (dI : Nat → Nat → Nat) (tp te : Nat) (sz : Nat) (hlt : l.stackTraces = false) (h0 : Nat) (rp : Nat) (rt : Nat) (rc : Nat) (r1 : Nat) (r2 : Nat) (r3 : Nat) (r4 : Nat) (p0 : Int32) (hv0 : p0 < 0) : vx_Met l yX7_two z_X_two_neg ({ frames := 6, cells := 1, slots := 6, locals := 81 }) (va_Pc [.ref h0, .int p0] (Pw dC dI [(h0, .inr (8, [.ref rp, .int 0, .ref rt, .ref rc, .int ((-1)), .ref r1, .ref r2, .ref r3, .ref r4, .null, .int 0]))] [] sz tp te)) (va_Qi (fun (r : Int32) (_ : Unit) => False) (fun (_ : Unit) (_ : State) => True) (va_A [(h0, .inr (8, [.ref rp, .int 0, .ref rt, .ref rc, .int ((-1)), .ref r1, .ref r2, .ref r3, .ref r4, .null, .int 0]))] sz)) (vx_X (fun (_ : Unit) => True) (fun (E : String) (_ : Unit) (_ : State) => E = "java/lang/IllegalArgumentException") (va_A [(h0, .inr (8, [.ref rp, .int 0, .ref rt, .ref rc, .int ((-1)), .ref r1, .ref r2, .ref r3, .ref r4, .null, .int 0]))] sz)) 1 6 (va_A [(h0, .inr (8, [.ref rp, .int 0, .ref rt, .ref rc, .int ((-1)), .ref r1, .ref r2, .ref r3, .ref r4, .null, .int 0]))] sz) := by
  refine vx_ofW (cc := cX7_two) (maxL := 2) (ret := (some .int)) (by decide) rfl ?_
  intro p e s m args below meth c s₁ B hml htab hv
  obtain ⟨rfl, hsz, hP, hK, hD0, hG⟩ := hv
  have hx := B.exec
  have hb := B.bytes
  have hr := B.returns
  have hts := atoms_spec (ws := z_X_two_neg) B.pre
  have hown : s.vm.findClass RX7 = some m.cls := findClass_of_methodNamed B.named
  have hlocks := B.notSynchronized
  subst hsz
  have hD := hD0.self (sz := s.heap.size)
  generalize hAe : va_A [(h0, .inr (8, [.ref rp, .int 0, .ref rt, .ref rc, .int ((-1)), .ref r1, .ref r2, .ref r3, .ref r4, .null, .int 0]))] s.heap.size = A at hD hG ⊢
  have hA : ∀ q : Nat, s.heap.size ≤ q → A q := fun q h => by rw [← hAe]; exact Or.inr h
  have hS : va_S A s.heap s.heap [] := va_S.rf
  have hl := lv_entry ([.ref h0, .int p0]) (n := 2) (Nat.le_of_ble_eq_true rfl)
  rw [lg_entry_eq]
  generalize (lg_sl ([.ref h0, .int p0]) ++ List.replicate (2 - (lg_sl ([.ref h0, .int p0])).length) Slot.unset).toArray = ls at hl ⊢
  have hl : lv_has ls 2 [(0, .ref h0), (1, .int p0)] := hl
  refine lv_iload_n hx hb dX7_two_0 rfl (lv_at hl 1 rfl) ?_
  refine lv_if_lt (tgt := 9) hx hb dX7_two_1 (by decide) (fun c9 => ?_) (fun c9 => absurd hv0 c9)
  exact vx_throw0 (A := A) (own := RX7) (cls := "java/lang/IllegalArgumentException") (names := ["java/lang/RuntimeException", "java/lang/Exception"]) (ik := 69) (ic := 71) hx hb hlt hown (by decide +kernel) (by decide +kernel) (hts (.classLink RX7 69 "java/lang/IllegalArgumentException") (List.mem_of_getElem? (i := 1) rfl)) (hts (.initialized "java/lang/IllegalArgumentException") (List.mem_of_getElem? (i := 2) rfl)) (vx_hat (B := [.castable "java/lang/IllegalArgumentException" "java/lang/IllegalArgumentException", .declares (Bundle.init0 "java/lang/RuntimeException"), .declares (Bundle.init0 "java/lang/Exception"), .declares (Bundle.init0 "java/lang/Throwable")]) (fun w9 h9 => hts w9 (List.mem_cons_of_mem _ (List.mem_append_right _ (h9)))) (by decide +kernel) (vx_c (va_Nw.use rfl hG.2.2.2.2.2.2.2.2.1) (vx_c (va_Nw.use rfl hG.2.2.2.2.2.2.2.2.2.2.2.2.2.2.1) (vx_c (va_Nw.use rfl hG.2.2.2.2.2.2.2.2.2.2.2.2.2.2.2.1) (vx_c (va_Nw.use rfl hG.2.2.2.2.2.2.2.2.2.2.2.2.2.2.2.2) vx_n))))) (by decide +kernel) hG.2.2.2.2.1 hG.2.2.2.2.2.1 hS (by rw [hml]; exact hl.1) dX7_two_9 dX7_two_12 dX7_two_13 dX7_two_16 (fun x9 h9 => (htab x9 h9).elim) (Nat.le_of_ble_eq_true rfl) (Nat.le_of_ble_eq_true rfl) (Nat.le_of_ble_eq_true rfl) (Nat.le_of_ble_eq_true rfl) hlocks (fun t9 _ hz9 hk9 => ⟨(), trivial, rfl, ⟨Nat.le_trans hS.1 hz9, fun q h1 h2 => (hk9 q (Nat.lt_of_lt_of_le h1 hS.1)).trans (hS.2.1 q h1 h2)⟩⟩) hS.2.2 (Nat.le_of_ble_eq_true rfl) (Nat.le_of_ble_eq_true rfl)

set_option maxRecDepth 20000 in
def z_X_two_big : List Cond := .code yX7_two cX7_two 2 (some .int) :: (([.classLink RX7 69 "java/lang/IllegalArgumentException", .initialized "java/lang/IllegalArgumentException"] : List Cond) ++ (vx_at0 RX7 71 "java/lang/IllegalArgumentException" ["java/lang/RuntimeException", "java/lang/Exception"]).filter goodWord)
set_option maxHeartbeats 4000000 in
set_option maxRecDepth 100000 in
theorem c_X_two_big (l : Launch) (dC : Nat → ClassId) (dI : Nat → Nat → Nat) (tp te : Nat) (sz : Nat) (hlt : l.stackTraces = false) (h0 : Nat) (rp : Nat) (rt : Nat) (rc : Nat) (r1 : Nat) (r2 : Nat) (r3 : Nat) (r4 : Nat) (p0 : Int32) (hv0 : ¬ p0 < 0) (hv1 : ¬ p0 < 4) (hv2 : ¬ p0 ≤ 3) : vx_Met l yX7_two z_X_two_big ({ frames := 6, cells := 1, slots := 6, locals := 81 }) (va_Pc [.ref h0, .int p0] (Pw dC dI [(h0, .inr (8, [.ref rp, .int 0, .ref rt, .ref rc, .int ((-1)), .ref r1, .ref r2, .ref r3, .ref r4, .null, .int 0]))] [] sz tp te)) (va_Qi (fun (r : Int32) (_ : Unit) => False) (fun (_ : Unit) (_ : State) => True) (va_A [(h0, .inr (8, [.ref rp, .int 0, .ref rt, .ref rc, .int ((-1)), .ref r1, .ref r2, .ref r3, .ref r4, .null, .int 0]))] sz)) (vx_X (fun (_ : Unit) => True) (fun (E : String) (_ : Unit) (_ : State) => E = "java/lang/IllegalArgumentException") (va_A [(h0, .inr (8, [.ref rp, .int 0, .ref rt, .ref rc, .int ((-1)), .ref r1, .ref r2, .ref r3, .ref r4, .null, .int 0]))] sz)) 1 6 (va_A [(h0, .inr (8, [.ref rp, .int 0, .ref rt, .ref rc, .int ((-1)), .ref r1, .ref r2, .ref r3, .ref r4, .null, .int 0]))] sz) := by
  refine vx_ofW (cc := cX7_two) (maxL := 2) (ret := (some .int)) (by decide) rfl ?_
  intro p e s m args below meth c s₁ B hml htab hv
  obtain ⟨rfl, hsz, hP, hK, hD0, hG⟩ := hv
  have hx := B.exec
  have hb := B.bytes
  have hr := B.returns
  have hts := atoms_spec (ws := z_X_two_big) B.pre
  have hown : s.vm.findClass RX7 = some m.cls := findClass_of_methodNamed B.named
  have hlocks := B.notSynchronized
  subst hsz
  have hD := hD0.self (sz := s.heap.size)
  generalize hAe : va_A [(h0, .inr (8, [.ref rp, .int 0, .ref rt, .ref rc, .int ((-1)), .ref r1, .ref r2, .ref r3, .ref r4, .null, .int 0]))] s.heap.size = A at hD hG ⊢
  have hA : ∀ q : Nat, s.heap.size ≤ q → A q := fun q h => by rw [← hAe]; exact Or.inr h
  have hS : va_S A s.heap s.heap [] := va_S.rf
  have hl := lv_entry ([.ref h0, .int p0]) (n := 2) (Nat.le_of_ble_eq_true rfl)
  rw [lg_entry_eq]
  generalize (lg_sl ([.ref h0, .int p0]) ++ List.replicate (2 - (lg_sl ([.ref h0, .int p0])).length) Slot.unset).toArray = ls at hl ⊢
  have hl : lv_has ls 2 [(0, .ref h0), (1, .int p0)] := hl
  refine lv_iload_n hx hb dX7_two_0 rfl (lv_at hl 1 rfl) ?_
  refine lv_if_lt (tgt := 9) hx hb dX7_two_1 (by decide) (fun c9 => absurd c9 hv0) (fun c9 => ?_)
  refine lv_iload_n hx hb dX7_two_4 rfl (lv_at hl 1 rfl) ?_
  refine lv_iconst (v := 4) hx hb dX7_two_5 (by decide) ?_
  refine lv_icmp_lt (tgt := 17) hx hb dX7_two_6 (by decide) (fun c9 => absurd c9 hv1) (fun c9 => ?_)
  exact vx_throw0 (A := A) (own := RX7) (cls := "java/lang/IllegalArgumentException") (names := ["java/lang/RuntimeException", "java/lang/Exception"]) (ik := 69) (ic := 71) hx hb hlt hown (by decide +kernel) (by decide +kernel) (hts (.classLink RX7 69 "java/lang/IllegalArgumentException") (List.mem_of_getElem? (i := 1) rfl)) (hts (.initialized "java/lang/IllegalArgumentException") (List.mem_of_getElem? (i := 2) rfl)) (vx_hat (B := [.castable "java/lang/IllegalArgumentException" "java/lang/IllegalArgumentException", .declares (Bundle.init0 "java/lang/RuntimeException"), .declares (Bundle.init0 "java/lang/Exception"), .declares (Bundle.init0 "java/lang/Throwable")]) (fun w9 h9 => hts w9 (List.mem_cons_of_mem _ (List.mem_append_right _ (h9)))) (by decide +kernel) (vx_c (va_Nw.use rfl hG.2.2.2.2.2.2.2.2.1) (vx_c (va_Nw.use rfl hG.2.2.2.2.2.2.2.2.2.2.2.2.2.2.1) (vx_c (va_Nw.use rfl hG.2.2.2.2.2.2.2.2.2.2.2.2.2.2.2.1) (vx_c (va_Nw.use rfl hG.2.2.2.2.2.2.2.2.2.2.2.2.2.2.2.2) vx_n))))) (by decide +kernel) hG.2.2.2.2.1 hG.2.2.2.2.2.1 hS (by rw [hml]; exact hl.1) dX7_two_9 dX7_two_12 dX7_two_13 dX7_two_16 (fun x9 h9 => (htab x9 h9).elim) (Nat.le_of_ble_eq_true rfl) (Nat.le_of_ble_eq_true rfl) (Nat.le_of_ble_eq_true rfl) (Nat.le_of_ble_eq_true rfl) hlocks (fun t9 _ hz9 hk9 => ⟨(), trivial, rfl, ⟨Nat.le_trans hS.1 hz9, fun q h1 h2 => (hk9 q (Nat.lt_of_lt_of_le h1 hS.1)).trans (hS.2.1 q h1 h2)⟩⟩) hS.2.2 (Nat.le_of_ble_eq_true rfl) (Nat.le_of_ble_eq_true rfl)

set_option maxRecDepth 20000 in
def z_X_two_ok : List Cond := .code yX7_two cX7_two 2 (some .int) :: (([.methodLink RX7 65 yX7_join, .instanceMethod yX7_join, .selects RX7 yX7_join yX7_join, .initialized RX7, .code yX7_join cX7_join 5 (some .int), .methodLink RX7 173 yX5_partsOf, .static yX5_partsOf, .initialized RX5, .code yX5_partsOf cX5_partsOf 1 (some .int), .fieldLink RX5 34 "Selfkindle$Term" "PARTS_OF" "[I", .fieldLink RX7 72 "Selfkindle" "height" "I", .classLink RX7 75 "java/lang/IllegalStateException", .initialized "java/lang/IllegalStateException"] : List Cond) ++ wsX70 ++ (vx_at0 RX7 77 "java/lang/IllegalStateException" ["java/lang/RuntimeException", "java/lang/Exception"]).filter goodWord)
theorem in_z_X_two_ok_X7 : ∀ w ∈ wsX70, w ∈ z_X_two_ok := fun w h => List.mem_cons_of_mem _ (List.mem_append_left _ (List.mem_append_right _ (h)))
set_option maxRecDepth 20000 in
theorem gg_X_two_ok_21 : GoodIn z_X_two_ok z_jn4 := goodIn_ca (goodIn_p _ [5, 9] rfl (by decide +kernel)) (goodIn_sub (fun _ h => List.mem_cons_of_mem _ (List.mem_append_right _ (h))) (by decide +kernel))
set_option maxRecDepth 20000 in
theorem g_X_two_ok_21 : GoodIn z_X_two_ok (wsV RX7 65 RX7 yX7_join z_jn4) := goodIn_app (goodIn_of _ (by decide +kernel)) gg_X_two_ok_21
set_option maxHeartbeats 4000000 in
set_option maxRecDepth 100000 in
theorem c_X_two_ok (l : Launch) (dC : Nat → ClassId) (dI : Nat → Nat → Nat) (tp te : Nat) (sz : Nat) (hlt : l.stackTraces = false) (h0 : Nat) (rp : Nat) (rt : Nat) (rc : Nat) (r1 : Nat) (r2 : Nat) (r3 : Nat) (r4 : Nat) (p0 : Int32) (hv0 : ¬ p0 < 0) (hv1 : p0 < 4) (hv2 : p0 ≤ 3) : vx_Met l yX7_two z_X_two_ok ({ frames := 7, cells := 1, slots := 6, locals := 105 }) (va_Pc [.ref h0, .int p0] (Pw dC dI [(h0, .inr (8, [.ref rp, .int 0, .ref rt, .ref rc, .int ((-1)), .ref r1, .ref r2, .ref r3, .ref r4, .null, .int 0]))] [] sz tp te)) (va_Qi (fun (r : Int32) (_ : Unit) => False) (fun (_ : Unit) (_ : State) => True) (va_A [(h0, .inr (8, [.ref rp, .int 0, .ref rt, .ref rc, .int ((-1)), .ref r1, .ref r2, .ref r3, .ref r4, .null, .int 0]))] sz)) (vx_X (fun (_ : Unit) => True) (fun (E : String) (_ : Unit) (_ : State) => E = "java/lang/IllegalStateException") (va_A [(h0, .inr (8, [.ref rp, .int 0, .ref rt, .ref rc, .int ((-1)), .ref r1, .ref r2, .ref r3, .ref r4, .null, .int 0]))] sz)) 1 6 (va_A [(h0, .inr (8, [.ref rp, .int 0, .ref rt, .ref rc, .int ((-1)), .ref r1, .ref r2, .ref r3, .ref r4, .null, .int 0]))] sz) := by
  refine vx_ofW (cc := cX7_two) (maxL := 2) (ret := (some .int)) (by decide) rfl ?_
  intro p e s m args below meth c s₁ B hml htab hv
  obtain ⟨rfl, hsz, hP, hK, hD0, hG⟩ := hv
  have hx := B.exec
  have hb := B.bytes
  have hr := B.returns
  have hts := atoms_spec (ws := z_X_two_ok) B.pre
  have hown : s.vm.findClass RX7 = some m.cls := findClass_of_methodNamed B.named
  have hlocks := B.notSynchronized
  subst hsz
  have hD := hD0.self (sz := s.heap.size)
  generalize hAe : va_A [(h0, .inr (8, [.ref rp, .int 0, .ref rt, .ref rc, .int ((-1)), .ref r1, .ref r2, .ref r3, .ref r4, .null, .int 0]))] s.heap.size = A at hD hG ⊢
  have hA : ∀ q : Nat, s.heap.size ≤ q → A q := fun q h => by rw [← hAe]; exact Or.inr h
  have hS : va_S A s.heap s.heap [] := va_S.rf
  have hl := lv_entry ([.ref h0, .int p0]) (n := 2) (Nat.le_of_ble_eq_true rfl)
  rw [lg_entry_eq]
  generalize (lg_sl ([.ref h0, .int p0]) ++ List.replicate (2 - (lg_sl ([.ref h0, .int p0])).length) Slot.unset).toArray = ls at hl ⊢
  have hl : lv_has ls 2 [(0, .ref h0), (1, .int p0)] := hl
  refine lv_iload_n hx hb dX7_two_0 rfl (lv_at hl 1 rfl) ?_
  refine lv_if_lt (tgt := 9) hx hb dX7_two_1 (by decide) (fun c9 => absurd c9 hv0) (fun c9 => ?_)
  refine lv_iload_n hx hb dX7_two_4 rfl (lv_at hl 1 rfl) ?_
  refine lv_iconst (v := 4) hx hb dX7_two_5 (by decide) ?_
  refine lv_icmp_lt (tgt := 17) hx hb dX7_two_6 (by decide) (fun c9 => ?_) (fun c9 => absurd hv1 c9)
  refine lv_aload_n hx hb dX7_two_17 rfl (lv_at hl 0 rfl) ?_
  refine lv_iconst (v := 4) hx hb dX7_two_18 (by decide) ?_
  refine lv_iconst (v := (-1)) hx hb dX7_two_19 (by decide) ?_
  refine lv_iload_n hx hb dX7_two_20 rfl (lv_at hl 1 rfl) ?_
  have hPc := hP.sub (ws' := [(h0, .inr (8, [.ref rp, .int 0, .ref rt, .ref rc, .int ((-1)), .ref r1, .ref r2, .ref r3, .ref r4, .null, .int 0]))]) [0] rfl
  have hDc := hD.sub (ws' := [(h0, .inr (8, [.ref rp, .int 0, .ref rt, .ref rc, .int ((-1)), .ref r1, .ref r2, .ref r3, .ref r4, .null, .int 0]))]) [0] (by decide) rfl
  have hKc := hK.sub (tys' := []) [] rfl
  have hFc := va_free (wc := [(h0, .inr (8, [.ref rp, .int 0, .ref rt, .ref rc, .int ((-1)), .ref r1, .ref r2, .ref r3, .ref r4, .null, .int 0]))]) hD hS hA [0] rfl
  refine vx_calli (vx_runV (As := [.int 4, .int ((-1)), .int p0]) (rest := []) ⟨hx, hb, hml, hown, hts⟩ (c_jn4 l dC dI tp te s.heap.size hlt h0 rp rt rc r1 r2 r3 r4 (-1) p0) (cwV 3 hts g_X_two_ok_21 rfl rfl rfl (by decide +kernel) ⟨Nat.le_of_ble_eq_true rfl, Nat.le_of_ble_eq_true rfl⟩) ⟨Pw.blind, va_recv hKc hPc (ci := 8) (q0 := 0) rfl rfl, Pw.mk hPc hKc hDc hG hS hFc⟩ rfl rfl hl.1 rfl (lv_room (Nat.le_of_ble_eq_true rfl)) dX7_two_21 ⟨Nat.le_of_ble_eq_true rfl, Nat.le_of_ble_eq_true rfl⟩) hS (fun q _ h => hFc q h) hFc (fun q _ h => hFc q h) (fun E ce q9 u t9 H1 locs ht hvm hpx hBX hz1 hk1 hS hce hcv hcl => ?_) (fun r u t9 H_1 locs ht hvm hw hB hz1 hk1 hS => hw.elim)
  have hBX : E = "java/lang/IllegalStateException" := hBX
  subst hBX
  exact vx_out (fun x9 h9 => (htab x9 h9).elim) hlocks hce hcv hcl (fun t9 ht9 _ => ⟨(), trivial, rfl, hS.F ht9⟩) hS.2.2 (Nat.le_of_ble_eq_true rfl) (Nat.le_of_ble_eq_true rfl)

set_option maxRecDepth 20000 in
def z_X_call : List Cond := .code yX7_call cX7_call 1 (some .int) :: (([.methodLink RX7 65 yX7_join, .instanceMethod yX7_join, .selects RX7 yX7_join yX7_join, .initialized RX7, .code yX7_join cX7_join 5 (some .int), .methodLink RX7 173 yX5_partsOf, .static yX5_partsOf, .initialized RX5, .code yX5_partsOf cX5_partsOf 1 (some .int), .fieldLink RX5 34 "Selfkindle$Term" "PARTS_OF" "[I", .fieldLink RX7 72 "Selfkindle" "height" "I", .classLink RX7 75 "java/lang/IllegalStateException", .initialized "java/lang/IllegalStateException"] : List Cond) ++ wsX70 ++ (vx_at0 RX7 77 "java/lang/IllegalStateException" ["java/lang/RuntimeException", "java/lang/Exception"]).filter goodWord)
theorem in_z_X_call_X7 : ∀ w ∈ wsX70, w ∈ z_X_call := fun w h => List.mem_cons_of_mem _ (List.mem_append_left _ (List.mem_append_right _ (h)))
set_option maxRecDepth 20000 in
theorem gg_X_call_4 : GoodIn z_X_call z_jn3 := goodIn_ca (goodIn_p _ [5, 9] rfl (by decide +kernel)) (goodIn_sub (fun _ h => List.mem_cons_of_mem _ (List.mem_append_right _ (h))) (by decide +kernel))
set_option maxRecDepth 20000 in
theorem g_X_call_4 : GoodIn z_X_call (wsV RX7 65 RX7 yX7_join z_jn3) := goodIn_app (goodIn_of _ (by decide +kernel)) gg_X_call_4
set_option maxHeartbeats 4000000 in
set_option maxRecDepth 100000 in
theorem c_X_call (l : Launch) (dC : Nat → ClassId) (dI : Nat → Nat → Nat) (tp te : Nat) (sz : Nat) (hlt : l.stackTraces = false) (h0 : Nat) (rp : Nat) (rt : Nat) (rc : Nat) (r1 : Nat) (r2 : Nat) (r3 : Nat) (r4 : Nat)  : vx_Met l yX7_call z_X_call ({ frames := 7, cells := 1, slots := 6, locals := 105 }) (va_Pc [.ref h0] (Pw dC dI [(h0, .inr (8, [.ref rp, .int 0, .ref rt, .ref rc, .int ((-1)), .ref r1, .ref r2, .ref r3, .ref r4, .null, .int 0]))] [] sz tp te)) (va_Qi (fun (r : Int32) (_ : Unit) => False) (fun (_ : Unit) (_ : State) => True) (va_A [(h0, .inr (8, [.ref rp, .int 0, .ref rt, .ref rc, .int ((-1)), .ref r1, .ref r2, .ref r3, .ref r4, .null, .int 0]))] sz)) (vx_X (fun (_ : Unit) => True) (fun (E : String) (_ : Unit) (_ : State) => E = "java/lang/IllegalStateException") (va_A [(h0, .inr (8, [.ref rp, .int 0, .ref rt, .ref rc, .int ((-1)), .ref r1, .ref r2, .ref r3, .ref r4, .null, .int 0]))] sz)) 1 6 (va_A [(h0, .inr (8, [.ref rp, .int 0, .ref rt, .ref rc, .int ((-1)), .ref r1, .ref r2, .ref r3, .ref r4, .null, .int 0]))] sz) := by
  refine vx_ofW (cc := cX7_call) (maxL := 1) (ret := (some .int)) (by decide) rfl ?_
  intro p e s m args below meth c s₁ B hml htab hv
  obtain ⟨rfl, hsz, hP, hK, hD0, hG⟩ := hv
  have hx := B.exec
  have hb := B.bytes
  have hr := B.returns
  have hts := atoms_spec (ws := z_X_call) B.pre
  have hown : s.vm.findClass RX7 = some m.cls := findClass_of_methodNamed B.named
  have hlocks := B.notSynchronized
  subst hsz
  have hD := hD0.self (sz := s.heap.size)
  generalize hAe : va_A [(h0, .inr (8, [.ref rp, .int 0, .ref rt, .ref rc, .int ((-1)), .ref r1, .ref r2, .ref r3, .ref r4, .null, .int 0]))] s.heap.size = A at hD hG ⊢
  have hA : ∀ q : Nat, s.heap.size ≤ q → A q := fun q h => by rw [← hAe]; exact Or.inr h
  have hS : va_S A s.heap s.heap [] := va_S.rf
  have hl := lv_entry ([.ref h0]) (n := 1) (Nat.le_of_ble_eq_true rfl)
  rw [lg_entry_eq]
  generalize (lg_sl ([.ref h0]) ++ List.replicate (1 - (lg_sl ([.ref h0])).length) Slot.unset).toArray = ls at hl ⊢
  have hl : lv_has ls 1 [(0, .ref h0)] := hl
  refine lv_aload_n hx hb dX7_call_0 rfl (lv_at hl 0 rfl) ?_
  refine lv_iconst (v := 3) hx hb dX7_call_1 (by decide) ?_
  refine lv_iconst (v := (-1)) hx hb dX7_call_2 (by decide) ?_
  refine lv_iconst (v := 0) hx hb dX7_call_3 (by decide) ?_
  have hPc := hP.sub (ws' := [(h0, .inr (8, [.ref rp, .int 0, .ref rt, .ref rc, .int ((-1)), .ref r1, .ref r2, .ref r3, .ref r4, .null, .int 0]))]) [0] rfl
  have hDc := hD.sub (ws' := [(h0, .inr (8, [.ref rp, .int 0, .ref rt, .ref rc, .int ((-1)), .ref r1, .ref r2, .ref r3, .ref r4, .null, .int 0]))]) [0] (by decide) rfl
  have hKc := hK.sub (tys' := []) [] rfl
  have hFc := va_free (wc := [(h0, .inr (8, [.ref rp, .int 0, .ref rt, .ref rc, .int ((-1)), .ref r1, .ref r2, .ref r3, .ref r4, .null, .int 0]))]) hD hS hA [0] rfl
  refine vx_calli (vx_runV (As := [.int 3, .int ((-1)), .int 0]) (rest := []) ⟨hx, hb, hml, hown, hts⟩ (c_jn3 l dC dI tp te s.heap.size hlt h0 rp rt rc r1 r2 r3 r4 (-1) 0) (cwV 3 hts g_X_call_4 rfl rfl rfl (by decide +kernel) ⟨Nat.le_of_ble_eq_true rfl, Nat.le_of_ble_eq_true rfl⟩) ⟨Pw.blind, va_recv hKc hPc (ci := 8) (q0 := 0) rfl rfl, Pw.mk hPc hKc hDc hG hS hFc⟩ rfl rfl hl.1 rfl (lv_room (Nat.le_of_ble_eq_true rfl)) dX7_call_4 ⟨Nat.le_of_ble_eq_true rfl, Nat.le_of_ble_eq_true rfl⟩) hS (fun q _ h => hFc q h) hFc (fun q _ h => hFc q h) (fun E ce q9 u t9 H1 locs ht hvm hpx hBX hz1 hk1 hS hce hcv hcl => ?_) (fun r u t9 H_1 locs ht hvm hw hB hz1 hk1 hS => hw.elim)
  have hBX : E = "java/lang/IllegalStateException" := hBX
  subst hBX
  exact vx_out (fun x9 h9 => (htab x9 h9).elim) hlocks hce hcv hcl (fun t9 ht9 _ => ⟨(), trivial, rfl, hS.F ht9⟩) hS.2.2 (Nat.le_of_ble_eq_true rfl) (Nat.le_of_ble_eq_true rfl)

set_option maxRecDepth 20000 in
def z_X_choose : List Cond := .code yX7_choose cX7_choose 1 (some .int) :: (([.methodLink RX7 65 yX7_join, .instanceMethod yX7_join, .selects RX7 yX7_join yX7_join, .initialized RX7, .code yX7_join cX7_join 5 (some .int), .methodLink RX7 173 yX5_partsOf, .static yX5_partsOf, .initialized RX5, .code yX5_partsOf cX5_partsOf 1 (some .int), .fieldLink RX5 34 "Selfkindle$Term" "PARTS_OF" "[I", .fieldLink RX7 72 "Selfkindle" "height" "I", .classLink RX7 75 "java/lang/IllegalStateException", .initialized "java/lang/IllegalStateException"] : List Cond) ++ wsX70 ++ (vx_at0 RX7 77 "java/lang/IllegalStateException" ["java/lang/RuntimeException", "java/lang/Exception"]).filter goodWord)
theorem in_z_X_choose_X7 : ∀ w ∈ wsX70, w ∈ z_X_choose := fun w h => List.mem_cons_of_mem _ (List.mem_append_left _ (List.mem_append_right _ (h)))
set_option maxRecDepth 20000 in
theorem gg_X_choose_4 : GoodIn z_X_choose z_jn5 := goodIn_ca (goodIn_p _ [5, 9] rfl (by decide +kernel)) (goodIn_sub (fun _ h => List.mem_cons_of_mem _ (List.mem_append_right _ (h))) (by decide +kernel))
set_option maxRecDepth 20000 in
theorem g_X_choose_4 : GoodIn z_X_choose (wsV RX7 65 RX7 yX7_join z_jn5) := goodIn_app (goodIn_of _ (by decide +kernel)) gg_X_choose_4
set_option maxHeartbeats 4000000 in
set_option maxRecDepth 100000 in
theorem c_X_choose (l : Launch) (dC : Nat → ClassId) (dI : Nat → Nat → Nat) (tp te : Nat) (sz : Nat) (hlt : l.stackTraces = false) (h0 : Nat) (rp : Nat) (rt : Nat) (rc : Nat) (r1 : Nat) (r2 : Nat) (r3 : Nat) (r4 : Nat)  : vx_Met l yX7_choose z_X_choose ({ frames := 7, cells := 1, slots := 6, locals := 105 }) (va_Pc [.ref h0] (Pw dC dI [(h0, .inr (8, [.ref rp, .int 0, .ref rt, .ref rc, .int ((-1)), .ref r1, .ref r2, .ref r3, .ref r4, .null, .int 0]))] [] sz tp te)) (va_Qi (fun (r : Int32) (_ : Unit) => False) (fun (_ : Unit) (_ : State) => True) (va_A [(h0, .inr (8, [.ref rp, .int 0, .ref rt, .ref rc, .int ((-1)), .ref r1, .ref r2, .ref r3, .ref r4, .null, .int 0]))] sz)) (vx_X (fun (_ : Unit) => True) (fun (E : String) (_ : Unit) (_ : State) => E = "java/lang/IllegalStateException") (va_A [(h0, .inr (8, [.ref rp, .int 0, .ref rt, .ref rc, .int ((-1)), .ref r1, .ref r2, .ref r3, .ref r4, .null, .int 0]))] sz)) 1 6 (va_A [(h0, .inr (8, [.ref rp, .int 0, .ref rt, .ref rc, .int ((-1)), .ref r1, .ref r2, .ref r3, .ref r4, .null, .int 0]))] sz) := by
  refine vx_ofW (cc := cX7_choose) (maxL := 1) (ret := (some .int)) (by decide) rfl ?_
  intro p e s m args below meth c s₁ B hml htab hv
  obtain ⟨rfl, hsz, hP, hK, hD0, hG⟩ := hv
  have hx := B.exec
  have hb := B.bytes
  have hr := B.returns
  have hts := atoms_spec (ws := z_X_choose) B.pre
  have hown : s.vm.findClass RX7 = some m.cls := findClass_of_methodNamed B.named
  have hlocks := B.notSynchronized
  subst hsz
  have hD := hD0.self (sz := s.heap.size)
  generalize hAe : va_A [(h0, .inr (8, [.ref rp, .int 0, .ref rt, .ref rc, .int ((-1)), .ref r1, .ref r2, .ref r3, .ref r4, .null, .int 0]))] s.heap.size = A at hD hG ⊢
  have hA : ∀ q : Nat, s.heap.size ≤ q → A q := fun q h => by rw [← hAe]; exact Or.inr h
  have hS : va_S A s.heap s.heap [] := va_S.rf
  have hl := lv_entry ([.ref h0]) (n := 1) (Nat.le_of_ble_eq_true rfl)
  rw [lg_entry_eq]
  generalize (lg_sl ([.ref h0]) ++ List.replicate (1 - (lg_sl ([.ref h0])).length) Slot.unset).toArray = ls at hl ⊢
  have hl : lv_has ls 1 [(0, .ref h0)] := hl
  refine lv_aload_n hx hb dX7_choose_0 rfl (lv_at hl 0 rfl) ?_
  refine lv_iconst (v := 5) hx hb dX7_choose_1 (by decide) ?_
  refine lv_iconst (v := (-1)) hx hb dX7_choose_2 (by decide) ?_
  refine lv_iconst (v := 0) hx hb dX7_choose_3 (by decide) ?_
  have hPc := hP.sub (ws' := [(h0, .inr (8, [.ref rp, .int 0, .ref rt, .ref rc, .int ((-1)), .ref r1, .ref r2, .ref r3, .ref r4, .null, .int 0]))]) [0] rfl
  have hDc := hD.sub (ws' := [(h0, .inr (8, [.ref rp, .int 0, .ref rt, .ref rc, .int ((-1)), .ref r1, .ref r2, .ref r3, .ref r4, .null, .int 0]))]) [0] (by decide) rfl
  have hKc := hK.sub (tys' := []) [] rfl
  have hFc := va_free (wc := [(h0, .inr (8, [.ref rp, .int 0, .ref rt, .ref rc, .int ((-1)), .ref r1, .ref r2, .ref r3, .ref r4, .null, .int 0]))]) hD hS hA [0] rfl
  refine vx_calli (vx_runV (As := [.int 5, .int ((-1)), .int 0]) (rest := []) ⟨hx, hb, hml, hown, hts⟩ (c_jn5 l dC dI tp te s.heap.size hlt h0 rp rt rc r1 r2 r3 r4 (-1) 0) (cwV 3 hts g_X_choose_4 rfl rfl rfl (by decide +kernel) ⟨Nat.le_of_ble_eq_true rfl, Nat.le_of_ble_eq_true rfl⟩) ⟨Pw.blind, va_recv hKc hPc (ci := 8) (q0 := 0) rfl rfl, Pw.mk hPc hKc hDc hG hS hFc⟩ rfl rfl hl.1 rfl (lv_room (Nat.le_of_ble_eq_true rfl)) dX7_choose_4 ⟨Nat.le_of_ble_eq_true rfl, Nat.le_of_ble_eq_true rfl⟩) hS (fun q _ h => hFc q h) hFc (fun q _ h => hFc q h) (fun E ce q9 u t9 H1 locs ht hvm hpx hBX hz1 hk1 hS hce hcv hcl => ?_) (fun r u t9 H_1 locs ht hvm hw hB hz1 hk1 hS => hw.elim)
  have hBX : E = "java/lang/IllegalStateException" := hBX
  subst hBX
  exact vx_out (fun x9 h9 => (htab x9 h9).elim) hlocks hce hcv hcl (fun t9 ht9 _ => ⟨(), trivial, rfl, hS.F ht9⟩) hS.2.2 (Nat.le_of_ble_eq_true rfl) (Nat.le_of_ble_eq_true rfl)

set_option maxRecDepth 20000 in
def z_X_pair : List Cond := .code yX7_pair cX7_pair 1 (some .int) :: (([.methodLink RX7 65 yX7_join, .instanceMethod yX7_join, .selects RX7 yX7_join yX7_join, .initialized RX7, .code yX7_join cX7_join 5 (some .int), .methodLink RX7 173 yX5_partsOf, .static yX5_partsOf, .initialized RX5, .code yX5_partsOf cX5_partsOf 1 (some .int), .fieldLink RX5 34 "Selfkindle$Term" "PARTS_OF" "[I", .fieldLink RX7 72 "Selfkindle" "height" "I", .classLink RX7 75 "java/lang/IllegalStateException", .initialized "java/lang/IllegalStateException"] : List Cond) ++ wsX70 ++ (vx_at0 RX7 77 "java/lang/IllegalStateException" ["java/lang/RuntimeException", "java/lang/Exception"]).filter goodWord)
theorem in_z_X_pair_X7 : ∀ w ∈ wsX70, w ∈ z_X_pair := fun w h => List.mem_cons_of_mem _ (List.mem_append_left _ (List.mem_append_right _ (h)))
set_option maxRecDepth 20000 in
theorem gg_X_pair_5 : GoodIn z_X_pair z_jn8 := goodIn_ca (goodIn_p _ [5, 9] rfl (by decide +kernel)) (goodIn_sub (fun _ h => List.mem_cons_of_mem _ (List.mem_append_right _ (h))) (by decide +kernel))
set_option maxRecDepth 20000 in
theorem g_X_pair_5 : GoodIn z_X_pair (wsV RX7 65 RX7 yX7_join z_jn8) := goodIn_app (goodIn_of _ (by decide +kernel)) gg_X_pair_5
set_option maxHeartbeats 4000000 in
set_option maxRecDepth 100000 in
theorem c_X_pair (l : Launch) (dC : Nat → ClassId) (dI : Nat → Nat → Nat) (tp te : Nat) (sz : Nat) (hlt : l.stackTraces = false) (h0 : Nat) (rp : Nat) (rt : Nat) (rc : Nat) (r1 : Nat) (r2 : Nat) (r3 : Nat) (r4 : Nat)  : vx_Met l yX7_pair z_X_pair ({ frames := 7, cells := 1, slots := 6, locals := 105 }) (va_Pc [.ref h0] (Pw dC dI [(h0, .inr (8, [.ref rp, .int 0, .ref rt, .ref rc, .int ((-1)), .ref r1, .ref r2, .ref r3, .ref r4, .null, .int 0]))] [] sz tp te)) (va_Qi (fun (r : Int32) (_ : Unit) => False) (fun (_ : Unit) (_ : State) => True) (va_A [(h0, .inr (8, [.ref rp, .int 0, .ref rt, .ref rc, .int ((-1)), .ref r1, .ref r2, .ref r3, .ref r4, .null, .int 0]))] sz)) (vx_X (fun (_ : Unit) => True) (fun (E : String) (_ : Unit) (_ : State) => E = "java/lang/IllegalStateException") (va_A [(h0, .inr (8, [.ref rp, .int 0, .ref rt, .ref rc, .int ((-1)), .ref r1, .ref r2, .ref r3, .ref r4, .null, .int 0]))] sz)) 1 6 (va_A [(h0, .inr (8, [.ref rp, .int 0, .ref rt, .ref rc, .int ((-1)), .ref r1, .ref r2, .ref r3, .ref r4, .null, .int 0]))] sz) := by
  refine vx_ofW (cc := cX7_pair) (maxL := 1) (ret := (some .int)) (by decide) rfl ?_
  intro p e s m args below meth c s₁ B hml htab hv
  obtain ⟨rfl, hsz, hP, hK, hD0, hG⟩ := hv
  have hx := B.exec
  have hb := B.bytes
  have hr := B.returns
  have hts := atoms_spec (ws := z_X_pair) B.pre
  have hown : s.vm.findClass RX7 = some m.cls := findClass_of_methodNamed B.named
  have hlocks := B.notSynchronized
  subst hsz
  have hD := hD0.self (sz := s.heap.size)
  generalize hAe : va_A [(h0, .inr (8, [.ref rp, .int 0, .ref rt, .ref rc, .int ((-1)), .ref r1, .ref r2, .ref r3, .ref r4, .null, .int 0]))] s.heap.size = A at hD hG ⊢
  have hA : ∀ q : Nat, s.heap.size ≤ q → A q := fun q h => by rw [← hAe]; exact Or.inr h
  have hS : va_S A s.heap s.heap [] := va_S.rf
  have hl := lv_entry ([.ref h0]) (n := 1) (Nat.le_of_ble_eq_true rfl)
  rw [lg_entry_eq]
  generalize (lg_sl ([.ref h0]) ++ List.replicate (1 - (lg_sl ([.ref h0])).length) Slot.unset).toArray = ls at hl ⊢
  have hl : lv_has ls 1 [(0, .ref h0)] := hl
  refine lv_aload_n hx hb dX7_pair_0 rfl (lv_at hl 0 rfl) ?_
  refine lv_bipush (v := 8) hx hb dX7_pair_1 (by decide) ?_
  refine lv_iconst (v := (-1)) hx hb dX7_pair_3 (by decide) ?_
  refine lv_iconst (v := 0) hx hb dX7_pair_4 (by decide) ?_
  have hPc := hP.sub (ws' := [(h0, .inr (8, [.ref rp, .int 0, .ref rt, .ref rc, .int ((-1)), .ref r1, .ref r2, .ref r3, .ref r4, .null, .int 0]))]) [0] rfl
  have hDc := hD.sub (ws' := [(h0, .inr (8, [.ref rp, .int 0, .ref rt, .ref rc, .int ((-1)), .ref r1, .ref r2, .ref r3, .ref r4, .null, .int 0]))]) [0] (by decide) rfl
  have hKc := hK.sub (tys' := []) [] rfl
  have hFc := va_free (wc := [(h0, .inr (8, [.ref rp, .int 0, .ref rt, .ref rc, .int ((-1)), .ref r1, .ref r2, .ref r3, .ref r4, .null, .int 0]))]) hD hS hA [0] rfl
  refine vx_calli (vx_runV (As := [.int 8, .int ((-1)), .int 0]) (rest := []) ⟨hx, hb, hml, hown, hts⟩ (c_jn8 l dC dI tp te s.heap.size hlt h0 rp rt rc r1 r2 r3 r4 (-1) 0) (cwV 3 hts g_X_pair_5 rfl rfl rfl (by decide +kernel) ⟨Nat.le_of_ble_eq_true rfl, Nat.le_of_ble_eq_true rfl⟩) ⟨Pw.blind, va_recv hKc hPc (ci := 8) (q0 := 0) rfl rfl, Pw.mk hPc hKc hDc hG hS hFc⟩ rfl rfl hl.1 rfl (lv_room (Nat.le_of_ble_eq_true rfl)) dX7_pair_5 ⟨Nat.le_of_ble_eq_true rfl, Nat.le_of_ble_eq_true rfl⟩) hS (fun q _ h => hFc q h) hFc (fun q _ h => hFc q h) (fun E ce q9 u t9 H1 locs ht hvm hpx hBX hz1 hk1 hS hce hcv hcl => ?_) (fun r u t9 H_1 locs ht hvm hw hB hz1 hk1 hS => hw.elim)
  have hBX : E = "java/lang/IllegalStateException" := hBX
  subst hBX
  exact vx_out (fun x9 h9 => (htab x9 h9).elim) hlocks hce hcv hcl (fun t9 ht9 _ => ⟨(), trivial, rfl, hS.F ht9⟩) hS.2.2 (Nat.le_of_ble_eq_true rfl) (Nat.le_of_ble_eq_true rfl)

set_option maxRecDepth 20000 in
def z_X_raise : List Cond := .code yX7_raise cX7_raise 1 (some .int) :: (([.methodLink RX7 65 yX7_join, .instanceMethod yX7_join, .selects RX7 yX7_join yX7_join, .initialized RX7, .code yX7_join cX7_join 5 (some .int), .methodLink RX7 173 yX5_partsOf, .static yX5_partsOf, .initialized RX5, .code yX5_partsOf cX5_partsOf 1 (some .int), .fieldLink RX5 34 "Selfkindle$Term" "PARTS_OF" "[I", .fieldLink RX7 72 "Selfkindle" "height" "I", .classLink RX7 75 "java/lang/IllegalStateException", .initialized "java/lang/IllegalStateException"] : List Cond) ++ wsX70 ++ (vx_at0 RX7 77 "java/lang/IllegalStateException" ["java/lang/RuntimeException", "java/lang/Exception"]).filter goodWord)
theorem in_z_X_raise_X7 : ∀ w ∈ wsX70, w ∈ z_X_raise := fun w h => List.mem_cons_of_mem _ (List.mem_append_left _ (List.mem_append_right _ (h)))
set_option maxRecDepth 20000 in
theorem gg_X_raise_5 : GoodIn z_X_raise z_jn10 := goodIn_ca (goodIn_p _ [5, 9] rfl (by decide +kernel)) (goodIn_sub (fun _ h => List.mem_cons_of_mem _ (List.mem_append_right _ (h))) (by decide +kernel))
set_option maxRecDepth 20000 in
theorem g_X_raise_5 : GoodIn z_X_raise (wsV RX7 65 RX7 yX7_join z_jn10) := goodIn_app (goodIn_of _ (by decide +kernel)) gg_X_raise_5
set_option maxHeartbeats 4000000 in
set_option maxRecDepth 100000 in
theorem c_X_raise (l : Launch) (dC : Nat → ClassId) (dI : Nat → Nat → Nat) (tp te : Nat) (sz : Nat) (hlt : l.stackTraces = false) (h0 : Nat) (rp : Nat) (rt : Nat) (rc : Nat) (r1 : Nat) (r2 : Nat) (r3 : Nat) (r4 : Nat)  : vx_Met l yX7_raise z_X_raise ({ frames := 7, cells := 1, slots := 6, locals := 105 }) (va_Pc [.ref h0] (Pw dC dI [(h0, .inr (8, [.ref rp, .int 0, .ref rt, .ref rc, .int ((-1)), .ref r1, .ref r2, .ref r3, .ref r4, .null, .int 0]))] [] sz tp te)) (va_Qi (fun (r : Int32) (_ : Unit) => False) (fun (_ : Unit) (_ : State) => True) (va_A [(h0, .inr (8, [.ref rp, .int 0, .ref rt, .ref rc, .int ((-1)), .ref r1, .ref r2, .ref r3, .ref r4, .null, .int 0]))] sz)) (vx_X (fun (_ : Unit) => True) (fun (E : String) (_ : Unit) (_ : State) => E = "java/lang/IllegalStateException") (va_A [(h0, .inr (8, [.ref rp, .int 0, .ref rt, .ref rc, .int ((-1)), .ref r1, .ref r2, .ref r3, .ref r4, .null, .int 0]))] sz)) 1 6 (va_A [(h0, .inr (8, [.ref rp, .int 0, .ref rt, .ref rc, .int ((-1)), .ref r1, .ref r2, .ref r3, .ref r4, .null, .int 0]))] sz) := by
  refine vx_ofW (cc := cX7_raise) (maxL := 1) (ret := (some .int)) (by decide) rfl ?_
  intro p e s m args below meth c s₁ B hml htab hv
  obtain ⟨rfl, hsz, hP, hK, hD0, hG⟩ := hv
  have hx := B.exec
  have hb := B.bytes
  have hr := B.returns
  have hts := atoms_spec (ws := z_X_raise) B.pre
  have hown : s.vm.findClass RX7 = some m.cls := findClass_of_methodNamed B.named
  have hlocks := B.notSynchronized
  subst hsz
  have hD := hD0.self (sz := s.heap.size)
  generalize hAe : va_A [(h0, .inr (8, [.ref rp, .int 0, .ref rt, .ref rc, .int ((-1)), .ref r1, .ref r2, .ref r3, .ref r4, .null, .int 0]))] s.heap.size = A at hD hG ⊢
  have hA : ∀ q : Nat, s.heap.size ≤ q → A q := fun q h => by rw [← hAe]; exact Or.inr h
  have hS : va_S A s.heap s.heap [] := va_S.rf
  have hl := lv_entry ([.ref h0]) (n := 1) (Nat.le_of_ble_eq_true rfl)
  rw [lg_entry_eq]
  generalize (lg_sl ([.ref h0]) ++ List.replicate (1 - (lg_sl ([.ref h0])).length) Slot.unset).toArray = ls at hl ⊢
  have hl : lv_has ls 1 [(0, .ref h0)] := hl
  refine lv_aload_n hx hb dX7_raise_0 rfl (lv_at hl 0 rfl) ?_
  refine lv_bipush (v := 10) hx hb dX7_raise_1 (by decide) ?_
  refine lv_iconst (v := (-1)) hx hb dX7_raise_3 (by decide) ?_
  refine lv_iconst (v := 0) hx hb dX7_raise_4 (by decide) ?_
  have hPc := hP.sub (ws' := [(h0, .inr (8, [.ref rp, .int 0, .ref rt, .ref rc, .int ((-1)), .ref r1, .ref r2, .ref r3, .ref r4, .null, .int 0]))]) [0] rfl
  have hDc := hD.sub (ws' := [(h0, .inr (8, [.ref rp, .int 0, .ref rt, .ref rc, .int ((-1)), .ref r1, .ref r2, .ref r3, .ref r4, .null, .int 0]))]) [0] (by decide) rfl
  have hKc := hK.sub (tys' := []) [] rfl
  have hFc := va_free (wc := [(h0, .inr (8, [.ref rp, .int 0, .ref rt, .ref rc, .int ((-1)), .ref r1, .ref r2, .ref r3, .ref r4, .null, .int 0]))]) hD hS hA [0] rfl
  refine vx_calli (vx_runV (As := [.int 10, .int ((-1)), .int 0]) (rest := []) ⟨hx, hb, hml, hown, hts⟩ (c_jn10 l dC dI tp te s.heap.size hlt h0 rp rt rc r1 r2 r3 r4 (-1) 0) (cwV 3 hts g_X_raise_5 rfl rfl rfl (by decide +kernel) ⟨Nat.le_of_ble_eq_true rfl, Nat.le_of_ble_eq_true rfl⟩) ⟨Pw.blind, va_recv hKc hPc (ci := 8) (q0 := 0) rfl rfl, Pw.mk hPc hKc hDc hG hS hFc⟩ rfl rfl hl.1 rfl (lv_room (Nat.le_of_ble_eq_true rfl)) dX7_raise_5 ⟨Nat.le_of_ble_eq_true rfl, Nat.le_of_ble_eq_true rfl⟩) hS (fun q _ h => hFc q h) hFc (fun q _ h => hFc q h) (fun E ce q9 u t9 H1 locs ht hvm hpx hBX hz1 hk1 hS hce hcv hcl => ?_) (fun r u t9 H_1 locs ht hvm hw hB hz1 hk1 hS => hw.elim)
  have hBX : E = "java/lang/IllegalStateException" := hBX
  subst hBX
  exact vx_out (fun x9 h9 => (htab x9 h9).elim) hlocks hce hcv hcl (fun t9 ht9 _ => ⟨(), trivial, rfl, hS.F ht9⟩) hS.2.2 (Nat.le_of_ble_eq_true rfl) (Nat.le_of_ble_eq_true rfl)

set_option maxRecDepth 20000 in
def z_X_program : List Cond := .code yX7_program cX7_program 2 (some .int) :: (([.fieldLink RX7 72 "Selfkindle" "height" "I", .classLink RX7 75 "java/lang/IllegalStateException", .initialized "java/lang/IllegalStateException"] : List Cond) ++ wsX70 ++ (vx_at0 RX7 77 "java/lang/IllegalStateException" ["java/lang/RuntimeException", "java/lang/Exception"]).filter goodWord)
theorem in_z_X_program_X7 : ∀ w ∈ wsX70, w ∈ z_X_program := fun w h => List.mem_cons_of_mem _ (List.mem_append_left _ (List.mem_append_right _ (h)))
set_option maxHeartbeats 4000000 in
set_option maxRecDepth 100000 in
theorem c_X_program (l : Launch) (dC : Nat → ClassId) (dI : Nat → Nat → Nat) (tp te : Nat) (sz : Nat) (hlt : l.stackTraces = false) (h0 : Nat) (rp : Nat) (rt : Nat) (rc : Nat) (r1 : Nat) (r2 : Nat) (r3 : Nat) (r4 : Nat)  : vx_Met l yX7_program z_X_program ({ frames := 6, cells := 1, slots := 6, locals := 81 }) (va_Pc [.ref h0] (Pw dC dI [(h0, .inr (8, [.ref rp, .int 0, .ref rt, .ref rc, .int ((-1)), .ref r1, .ref r2, .ref r3, .ref r4, .null, .int 0]))] [] sz tp te)) (va_Qi (fun (r : Int32) (_ : Unit) => False) (fun (_ : Unit) (_ : State) => True) (va_A [(h0, .inr (8, [.ref rp, .int 0, .ref rt, .ref rc, .int ((-1)), .ref r1, .ref r2, .ref r3, .ref r4, .null, .int 0]))] sz)) (vx_X (fun (_ : Unit) => True) (fun (E : String) (_ : Unit) (_ : State) => E = "java/lang/IllegalStateException") (va_A [(h0, .inr (8, [.ref rp, .int 0, .ref rt, .ref rc, .int ((-1)), .ref r1, .ref r2, .ref r3, .ref r4, .null, .int 0]))] sz)) 1 6 (va_A [(h0, .inr (8, [.ref rp, .int 0, .ref rt, .ref rc, .int ((-1)), .ref r1, .ref r2, .ref r3, .ref r4, .null, .int 0]))] sz) := by
  refine vx_ofW (cc := cX7_program) (maxL := 2) (ret := (some .int)) (by decide) rfl ?_
  intro p e s m args below meth c s₁ B hml htab hv
  obtain ⟨rfl, hsz, hP, hK, hD0, hG⟩ := hv
  have hx := B.exec
  have hb := B.bytes
  have hr := B.returns
  have hts := atoms_spec (ws := z_X_program) B.pre
  have hown : s.vm.findClass RX7 = some m.cls := findClass_of_methodNamed B.named
  have hlocks := B.notSynchronized
  subst hsz
  have hD := hD0.self (sz := s.heap.size)
  generalize hAe : va_A [(h0, .inr (8, [.ref rp, .int 0, .ref rt, .ref rc, .int ((-1)), .ref r1, .ref r2, .ref r3, .ref r4, .null, .int 0]))] s.heap.size = A at hD hG ⊢
  have hA : ∀ q : Nat, s.heap.size ≤ q → A q := fun q h => by rw [← hAe]; exact Or.inr h
  have hS : va_S A s.heap s.heap [] := va_S.rf
  have hl := lv_entry ([.ref h0]) (n := 2) (Nat.le_of_ble_eq_true rfl)
  rw [lg_entry_eq]
  generalize (lg_sl ([.ref h0]) ++ List.replicate (2 - (lg_sl ([.ref h0])).length) Slot.unset).toArray = ls at hl ⊢
  have hl : lv_has ls 2 [(0, .ref h0)] := hl
  refine lv_aload_n hx hb dX7_program_0 rfl (lv_at hl 0 rfl) ?_
  refine va_get (D := (dC, dI)) (ci := 8) (v := .int 0) (C := RX7) (T := TX7) (N := 11) hx hb hts in_z_X_program_X7 hown hK hP 0 rfl rfl 1 (by decide) (hts (.fieldLink RX7 72 "Selfkindle" "height" "I") (List.mem_of_getElem? (i := 1) rfl)) (fun _ h9 => h9) rfl dX7_program_1 ?_
  refine lv_if_ne (tgt := 15) hx hb dX7_program_4 (by decide) (fun c9 => absurd (by decide) c9) (fun c9 => ?_)
  exact vx_throw0 (A := A) (own := RX7) (cls := "java/lang/IllegalStateException") (names := ["java/lang/RuntimeException", "java/lang/Exception"]) (ik := 75) (ic := 77) hx hb hlt hown (by decide +kernel) (by decide +kernel) (hts (.classLink RX7 75 "java/lang/IllegalStateException") (List.mem_of_getElem? (i := 2) rfl)) (hts (.initialized "java/lang/IllegalStateException") (List.mem_of_getElem? (i := 3) rfl)) (vx_hat (B := [.castable "java/lang/IllegalStateException" "java/lang/IllegalStateException", .declares (Bundle.init0 "java/lang/RuntimeException"), .declares (Bundle.init0 "java/lang/Exception"), .declares (Bundle.init0 "java/lang/Throwable")]) (fun w9 h9 => hts w9 (List.mem_cons_of_mem _ (List.mem_append_right _ (h9)))) (by decide +kernel) (vx_c (va_Nw.use rfl hG.2.2.2.2.2.2.1) (vx_c (va_Nw.use rfl hG.2.2.2.2.2.2.2.2.2.2.2.2.2.2.1) (vx_c (va_Nw.use rfl hG.2.2.2.2.2.2.2.2.2.2.2.2.2.2.2.1) (vx_c (va_Nw.use rfl hG.2.2.2.2.2.2.2.2.2.2.2.2.2.2.2.2) vx_n))))) (by decide +kernel) hG.2.2.2.2.1 hG.2.2.2.2.2.1 hS (by rw [hml]; exact hl.1) dX7_program_7 dX7_program_10 dX7_program_11 dX7_program_14 (fun x9 h9 => (htab x9 h9).elim) (Nat.le_of_ble_eq_true rfl) (Nat.le_of_ble_eq_true rfl) (Nat.le_of_ble_eq_true rfl) (Nat.le_of_ble_eq_true rfl) hlocks (fun t9 _ hz9 hk9 => ⟨(), trivial, rfl, ⟨Nat.le_trans hS.1 hz9, fun q h1 h2 => (hk9 q (Nat.lt_of_lt_of_le h1 hS.1)).trans (hS.2.1 q h1 h2)⟩⟩) hS.2.2 (Nat.le_of_ble_eq_true rfl) (Nat.le_of_ble_eq_true rfl)

set_option maxRecDepth 20000 in
def z_X_fault : List Cond := .code yX7_fault cX7_fault 1 (some .int) :: (([.fieldLink RX7 24 "Selfkindle" "wrong" "I", .classLink RX7 75 "java/lang/IllegalStateException", .initialized "java/lang/IllegalStateException"] : List Cond) ++ wsX70 ++ (vx_at0 RX7 77 "java/lang/IllegalStateException" ["java/lang/RuntimeException", "java/lang/Exception"]).filter goodWord)
theorem in_z_X_fault_X7 : ∀ w ∈ wsX70, w ∈ z_X_fault := fun w h => List.mem_cons_of_mem _ (List.mem_append_left _ (List.mem_append_right _ (h)))
set_option maxHeartbeats 4000000 in
set_option maxRecDepth 100000 in
theorem c_X_fault (l : Launch) (dC : Nat → ClassId) (dI : Nat → Nat → Nat) (tp te : Nat) (sz : Nat) (hlt : l.stackTraces = false) (h0 : Nat) (rp : Nat) (rt : Nat) (rc : Nat) (r1 : Nat) (r2 : Nat) (r3 : Nat) (r4 : Nat)  : vx_Met l yX7_fault z_X_fault ({ frames := 6, cells := 1, slots := 6, locals := 81 }) (va_Pc [.ref h0] (Pw dC dI [(h0, .inr (8, [.ref rp, .int 0, .ref rt, .ref rc, .int ((-1)), .ref r1, .ref r2, .ref r3, .ref r4, .null, .int 0]))] [] sz tp te)) (va_Qi (fun (r : Int32) (_ : Unit) => False) (fun (_ : Unit) (_ : State) => True) (va_A [(h0, .inr (8, [.ref rp, .int 0, .ref rt, .ref rc, .int ((-1)), .ref r1, .ref r2, .ref r3, .ref r4, .null, .int 0]))] sz)) (vx_X (fun (_ : Unit) => True) (fun (E : String) (_ : Unit) (_ : State) => E = "java/lang/IllegalStateException") (va_A [(h0, .inr (8, [.ref rp, .int 0, .ref rt, .ref rc, .int ((-1)), .ref r1, .ref r2, .ref r3, .ref r4, .null, .int 0]))] sz)) 1 6 (va_A [(h0, .inr (8, [.ref rp, .int 0, .ref rt, .ref rc, .int ((-1)), .ref r1, .ref r2, .ref r3, .ref r4, .null, .int 0]))] sz) := by
  refine vx_ofW (cc := cX7_fault) (maxL := 1) (ret := (some .int)) (by decide) rfl ?_
  intro p e s m args below meth c s₁ B hml htab hv
  obtain ⟨rfl, hsz, hP, hK, hD0, hG⟩ := hv
  have hx := B.exec
  have hb := B.bytes
  have hr := B.returns
  have hts := atoms_spec (ws := z_X_fault) B.pre
  have hown : s.vm.findClass RX7 = some m.cls := findClass_of_methodNamed B.named
  have hlocks := B.notSynchronized
  subst hsz
  have hD := hD0.self (sz := s.heap.size)
  generalize hAe : va_A [(h0, .inr (8, [.ref rp, .int 0, .ref rt, .ref rc, .int ((-1)), .ref r1, .ref r2, .ref r3, .ref r4, .null, .int 0]))] s.heap.size = A at hD hG ⊢
  have hA : ∀ q : Nat, s.heap.size ≤ q → A q := fun q h => by rw [← hAe]; exact Or.inr h
  have hS : va_S A s.heap s.heap [] := va_S.rf
  have hl := lv_entry ([.ref h0]) (n := 1) (Nat.le_of_ble_eq_true rfl)
  rw [lg_entry_eq]
  generalize (lg_sl ([.ref h0]) ++ List.replicate (1 - (lg_sl ([.ref h0])).length) Slot.unset).toArray = ls at hl ⊢
  have hl : lv_has ls 1 [(0, .ref h0)] := hl
  refine lv_aload_n hx hb dX7_fault_0 rfl (lv_at hl 0 rfl) ?_
  refine va_get (D := (dC, dI)) (ci := 8) (v := .int ((-1))) (C := RX7) (T := TX7) (N := 11) hx hb hts in_z_X_fault_X7 hown hK hP 0 rfl rfl 4 (by decide) (hts (.fieldLink RX7 24 "Selfkindle" "wrong" "I") (List.mem_of_getElem? (i := 1) rfl)) (fun _ h9 => h9) rfl dX7_fault_1 ?_
  refine lv_iconst (v := (-1)) hx hb dX7_fault_4 (by decide) ?_
  refine lv_icmp_ne (tgt := 16) hx hb dX7_fault_5 (by decide) (fun c9 => absurd (by decide) c9) (fun c9 => ?_)
  exact vx_throw0 (A := A) (own := RX7) (cls := "java/lang/IllegalStateException") (names := ["java/lang/RuntimeException", "java/lang/Exception"]) (ik := 75) (ic := 77) hx hb hlt hown (by decide +kernel) (by decide +kernel) (hts (.classLink RX7 75 "java/lang/IllegalStateException") (List.mem_of_getElem? (i := 2) rfl)) (hts (.initialized "java/lang/IllegalStateException") (List.mem_of_getElem? (i := 3) rfl)) (vx_hat (B := [.castable "java/lang/IllegalStateException" "java/lang/IllegalStateException", .declares (Bundle.init0 "java/lang/RuntimeException"), .declares (Bundle.init0 "java/lang/Exception"), .declares (Bundle.init0 "java/lang/Throwable")]) (fun w9 h9 => hts w9 (List.mem_cons_of_mem _ (List.mem_append_right _ (h9)))) (by decide +kernel) (vx_c (va_Nw.use rfl hG.2.2.2.2.2.2.1) (vx_c (va_Nw.use rfl hG.2.2.2.2.2.2.2.2.2.2.2.2.2.2.1) (vx_c (va_Nw.use rfl hG.2.2.2.2.2.2.2.2.2.2.2.2.2.2.2.1) (vx_c (va_Nw.use rfl hG.2.2.2.2.2.2.2.2.2.2.2.2.2.2.2.2) vx_n))))) (by decide +kernel) hG.2.2.2.2.1 hG.2.2.2.2.2.1 hS (by rw [hml]; exact hl.1) dX7_fault_8 dX7_fault_11 dX7_fault_12 dX7_fault_15 (fun x9 h9 => (htab x9 h9).elim) (Nat.le_of_ble_eq_true rfl) (Nat.le_of_ble_eq_true rfl) (Nat.le_of_ble_eq_true rfl) (Nat.le_of_ble_eq_true rfl) hlocks (fun t9 _ hz9 hk9 => ⟨(), trivial, rfl, ⟨Nat.le_trans hS.1 hz9, fun q h1 h2 => (hk9 q (Nat.lt_of_lt_of_le h1 hS.1)).trans (hS.2.1 q h1 h2)⟩⟩) hS.2.2 (Nat.le_of_ble_eq_true rfl) (Nat.le_of_ble_eq_true rfl)

set_option maxRecDepth 20000 in
def z_X_half : List Cond := .code yX7_half cX7_half 2 (some .int) :: (([.methodLink RX7 65 yX7_join, .instanceMethod yX7_join, .selects RX7 yX7_join yX7_join, .initialized RX7, .code yX7_join cX7_join 5 (some .int), .methodLink RX7 173 yX5_partsOf, .static yX5_partsOf, .initialized RX5, .code yX5_partsOf cX5_partsOf 1 (some .int), .fieldLink RX5 34 "Selfkindle$Term" "PARTS_OF" "[I", .fieldLink RX7 72 "Selfkindle" "height" "I", .classLink RX7 75 "java/lang/IllegalStateException", .initialized "java/lang/IllegalStateException"] : List Cond) ++ wsX70 ++ (vx_at0 RX7 77 "java/lang/IllegalStateException" ["java/lang/RuntimeException", "java/lang/Exception"]).filter goodWord)
theorem in_z_X_half_X7 : ∀ w ∈ wsX70, w ∈ z_X_half := fun w h => List.mem_cons_of_mem _ (List.mem_append_left _ (List.mem_append_right _ (h)))
set_option maxRecDepth 20000 in
theorem gg_X_half_13 : GoodIn z_X_half z_jn9 := goodIn_ca (goodIn_p _ [5, 9] rfl (by decide +kernel)) (goodIn_sub (fun _ h => List.mem_cons_of_mem _ (List.mem_append_right _ (h))) (by decide +kernel))
set_option maxRecDepth 20000 in
theorem g_X_half_13 : GoodIn z_X_half (wsV RX7 65 RX7 yX7_join z_jn9) := goodIn_app (goodIn_of _ (by decide +kernel)) gg_X_half_13
set_option maxHeartbeats 4000000 in
set_option maxRecDepth 100000 in
theorem c_X_half (l : Launch) (dC : Nat → ClassId) (dI : Nat → Nat → Nat) (tp te : Nat) (sz : Nat) (hlt : l.stackTraces = false) (h0 : Nat) (rp : Nat) (rt : Nat) (rc : Nat) (r1 : Nat) (r2 : Nat) (r3 : Nat) (r4 : Nat) (p0 : Int32)  : vx_Met l yX7_half z_X_half ({ frames := 7, cells := 1, slots := 6, locals := 105 }) (va_Pc [.ref h0, .int p0] (Pw dC dI [(h0, .inr (8, [.ref rp, .int 0, .ref rt, .ref rc, .int ((-1)), .ref r1, .ref r2, .ref r3, .ref r4, .null, .int 0]))] [] sz tp te)) (va_Qi (fun (r : Int32) (_ : Unit) => False) (fun (_ : Unit) (_ : State) => True) (va_A [(h0, .inr (8, [.ref rp, .int 0, .ref rt, .ref rc, .int ((-1)), .ref r1, .ref r2, .ref r3, .ref r4, .null, .int 0]))] sz)) (vx_X (fun (_ : Unit) => True) (fun (E : String) (_ : Unit) (_ : State) => E = "java/lang/IllegalStateException") (va_A [(h0, .inr (8, [.ref rp, .int 0, .ref rt, .ref rc, .int ((-1)), .ref r1, .ref r2, .ref r3, .ref r4, .null, .int 0]))] sz)) 1 6 (va_A [(h0, .inr (8, [.ref rp, .int 0, .ref rt, .ref rc, .int ((-1)), .ref r1, .ref r2, .ref r3, .ref r4, .null, .int 0]))] sz) := by
  refine vx_ofW (cc := cX7_half) (maxL := 2) (ret := (some .int)) (by decide) rfl ?_
  intro p e s m args below meth c s₁ B hml htab hv
  obtain ⟨rfl, hsz, hP, hK, hD0, hG⟩ := hv
  have hx := B.exec
  have hb := B.bytes
  have hr := B.returns
  have hts := atoms_spec (ws := z_X_half) B.pre
  have hown : s.vm.findClass RX7 = some m.cls := findClass_of_methodNamed B.named
  have hlocks := B.notSynchronized
  subst hsz
  have hD := hD0.self (sz := s.heap.size)
  generalize hAe : va_A [(h0, .inr (8, [.ref rp, .int 0, .ref rt, .ref rc, .int ((-1)), .ref r1, .ref r2, .ref r3, .ref r4, .null, .int 0]))] s.heap.size = A at hD hG ⊢
  have hA : ∀ q : Nat, s.heap.size ≤ q → A q := fun q h => by rw [← hAe]; exact Or.inr h
  have hS : va_S A s.heap s.heap [] := va_S.rf
  have hl := lv_entry ([.ref h0, .int p0]) (n := 2) (Nat.le_of_ble_eq_true rfl)
  rw [lg_entry_eq]
  generalize (lg_sl ([.ref h0, .int p0]) ++ List.replicate (2 - (lg_sl ([.ref h0, .int p0])).length) Slot.unset).toArray = ls at hl ⊢
  have hl : lv_has ls 2 [(0, .ref h0), (1, .int p0)] := hl
  refine lv_aload_n hx hb dX7_half_0 rfl (lv_at hl 0 rfl) ?_
  refine lv_bipush (v := 9) hx hb dX7_half_1 (by decide) ?_
  refine lv_iconst (v := (-1)) hx hb dX7_half_3 (by decide) ?_
  refine lv_iload_n hx hb dX7_half_4 rfl (lv_at hl 1 rfl) ?_
  refine lv_if_eq (tgt := 12) hx hb dX7_half_5 (by decide) (fun c_1 => ?_) (fun c_1 => ?_)
  · skip
    refine lv_iconst (v := 0) hx hb dX7_half_12 (by decide) ?_
    have hPc := hP.sub (ws' := [(h0, .inr (8, [.ref rp, .int 0, .ref rt, .ref rc, .int ((-1)), .ref r1, .ref r2, .ref r3, .ref r4, .null, .int 0]))]) [0] rfl
    have hDc := hD.sub (ws' := [(h0, .inr (8, [.ref rp, .int 0, .ref rt, .ref rc, .int ((-1)), .ref r1, .ref r2, .ref r3, .ref r4, .null, .int 0]))]) [0] (by decide) rfl
    have hKc := hK.sub (tys' := []) [] rfl
    have hFc := va_free (wc := [(h0, .inr (8, [.ref rp, .int 0, .ref rt, .ref rc, .int ((-1)), .ref r1, .ref r2, .ref r3, .ref r4, .null, .int 0]))]) hD hS hA [0] rfl
    refine vx_calli (vx_runV (As := [.int 9, .int ((-1)), .int 0]) (rest := []) ⟨hx, hb, hml, hown, hts⟩ (c_jn9 l dC dI tp te s.heap.size hlt h0 rp rt rc r1 r2 r3 r4 (-1) 0) (cwV 3 hts g_X_half_13 rfl rfl rfl (by decide +kernel) ⟨Nat.le_of_ble_eq_true rfl, Nat.le_of_ble_eq_true rfl⟩) ⟨Pw.blind, va_recv hKc hPc (ci := 8) (q0 := 0) rfl rfl, Pw.mk hPc hKc hDc hG hS hFc⟩ rfl rfl hl.1 rfl (lv_room (Nat.le_of_ble_eq_true rfl)) dX7_half_13 ⟨Nat.le_of_ble_eq_true rfl, Nat.le_of_ble_eq_true rfl⟩) hS (fun q _ h => hFc q h) hFc (fun q _ h => hFc q h) (fun E ce q9 u t9 H1 locs ht hvm hpx hBX hz1 hk1 hS hce hcv hcl => ?_) (fun r u t9 H_2 locs ht hvm hw hB hz1 hk1 hS => hw.elim)
    have hBX : E = "java/lang/IllegalStateException" := hBX
    subst hBX
    exact vx_out (fun x9 h9 => (htab x9 h9).elim) hlocks hce hcv hcl (fun t9 ht9 _ => ⟨(), trivial, rfl, hS.F ht9⟩) hS.2.2 (Nat.le_of_ble_eq_true rfl) (Nat.le_of_ble_eq_true rfl)
  · skip
    refine lv_iconst (v := 1) hx hb dX7_half_8 (by decide) ?_
    refine lv_goto (tgt := 13) hx hb dX7_half_9 (by decide) ?_
    have hPc := hP.sub (ws' := [(h0, .inr (8, [.ref rp, .int 0, .ref rt, .ref rc, .int ((-1)), .ref r1, .ref r2, .ref r3, .ref r4, .null, .int 0]))]) [0] rfl
    have hDc := hD.sub (ws' := [(h0, .inr (8, [.ref rp, .int 0, .ref rt, .ref rc, .int ((-1)), .ref r1, .ref r2, .ref r3, .ref r4, .null, .int 0]))]) [0] (by decide) rfl
    have hKc := hK.sub (tys' := []) [] rfl
    have hFc := va_free (wc := [(h0, .inr (8, [.ref rp, .int 0, .ref rt, .ref rc, .int ((-1)), .ref r1, .ref r2, .ref r3, .ref r4, .null, .int 0]))]) hD hS hA [0] rfl
    refine vx_calli (vx_runV (As := [.int 9, .int ((-1)), .int 1]) (rest := []) ⟨hx, hb, hml, hown, hts⟩ (c_jn9 l dC dI tp te s.heap.size hlt h0 rp rt rc r1 r2 r3 r4 (-1) 1) (cwV 3 hts g_X_half_13 rfl rfl rfl (by decide +kernel) ⟨Nat.le_of_ble_eq_true rfl, Nat.le_of_ble_eq_true rfl⟩) ⟨Pw.blind, va_recv hKc hPc (ci := 8) (q0 := 0) rfl rfl, Pw.mk hPc hKc hDc hG hS hFc⟩ rfl rfl hl.1 rfl (lv_room (Nat.le_of_ble_eq_true rfl)) dX7_half_13 ⟨Nat.le_of_ble_eq_true rfl, Nat.le_of_ble_eq_true rfl⟩) hS (fun q _ h => hFc q h) hFc (fun q _ h => hFc q h) (fun E ce q9 u t9 H1 locs ht hvm hpx hBX hz1 hk1 hS hce hcv hcl => ?_) (fun r u t9 H_3 locs ht hvm hw hB hz1 hk1 hS => hw.elim)
    have hBX : E = "java/lang/IllegalStateException" := hBX
    subst hBX
    exact vx_out (fun x9 h9 => (htab x9 h9).elim) hlocks hce hcv hcl (fun t9 ht9 _ => ⟨(), trivial, rfl, hS.F ht9⟩) hS.2.2 (Nat.le_of_ble_eq_true rfl) (Nat.le_of_ble_eq_true rfl)

set_option maxRecDepth 20000 in
def z_cPr : List Cond := .code yX7_checkProgram cX7_checkProgram 1 none :: (([.fieldLink RX7 24 "Selfkindle" "wrong" "I", .classLink RX7 75 "java/lang/IllegalStateException", .initialized "java/lang/IllegalStateException"] : List Cond) ++ wsX70 ++ (vx_at0 RX7 77 "java/lang/IllegalStateException" ["java/lang/RuntimeException", "java/lang/Exception"]).filter goodWord)
theorem in_z_cPr_X7 : ∀ w ∈ wsX70, w ∈ z_cPr := fun w h => List.mem_cons_of_mem _ (List.mem_append_left _ (List.mem_append_right _ (h)))
set_option maxHeartbeats 4000000 in
set_option maxRecDepth 100000 in
theorem c_cPr (l : Launch) (dC : Nat → ClassId) (dI : Nat → Nat → Nat) (tp te : Nat) (sz : Nat) (hlt : l.stackTraces = false) (h0 : Nat) (rp : Nat) (rt : Nat) (rc : Nat) (r1 : Nat) (r2 : Nat) (r3 : Nat) (r4 : Nat)  : vx_Met l yX7_checkProgram z_cPr ({ frames := 6, cells := 1, slots := 6, locals := 81 }) (va_Pc [.ref h0] (Pw dC dI [(h0, .inr (8, [.ref rp, .int 0, .ref rt, .ref rc, .int ((-1)), .ref r1, .ref r2, .ref r3, .ref r4, .null, .int 0]))] [] sz tp te)) (va_Qv (fun (_ : Unit) => False) (fun (_ : Unit) (_ : State) => True) (va_A [(h0, .inr (8, [.ref rp, .int 0, .ref rt, .ref rc, .int ((-1)), .ref r1, .ref r2, .ref r3, .ref r4, .null, .int 0]))] sz)) (vx_X (fun (_ : Unit) => True) (fun (E : String) (_ : Unit) (_ : State) => E = "java/lang/IllegalStateException") (va_A [(h0, .inr (8, [.ref rp, .int 0, .ref rt, .ref rc, .int ((-1)), .ref r1, .ref r2, .ref r3, .ref r4, .null, .int 0]))] sz)) 1 6 (va_A [(h0, .inr (8, [.ref rp, .int 0, .ref rt, .ref rc, .int ((-1)), .ref r1, .ref r2, .ref r3, .ref r4, .null, .int 0]))] sz) := by
  refine vx_ofW (cc := cX7_checkProgram) (maxL := 1) (ret := none) (by decide) rfl ?_
  intro p e s m args below meth c s₁ B hml htab hv
  obtain ⟨rfl, hsz, hP, hK, hD0, hG⟩ := hv
  have hx := B.exec
  have hb := B.bytes
  have hr := B.returns
  have hts := atoms_spec (ws := z_cPr) B.pre
  have hown : s.vm.findClass RX7 = some m.cls := findClass_of_methodNamed B.named
  have hlocks := B.notSynchronized
  subst hsz
  have hD := hD0.self (sz := s.heap.size)
  generalize hAe : va_A [(h0, .inr (8, [.ref rp, .int 0, .ref rt, .ref rc, .int ((-1)), .ref r1, .ref r2, .ref r3, .ref r4, .null, .int 0]))] s.heap.size = A at hD hG ⊢
  have hA : ∀ q : Nat, s.heap.size ≤ q → A q := fun q h => by rw [← hAe]; exact Or.inr h
  have hS : va_S A s.heap s.heap [] := va_S.rf
  have hl := lv_entry ([.ref h0]) (n := 1) (Nat.le_of_ble_eq_true rfl)
  rw [lg_entry_eq]
  generalize (lg_sl ([.ref h0]) ++ List.replicate (1 - (lg_sl ([.ref h0])).length) Slot.unset).toArray = ls at hl ⊢
  have hl : lv_has ls 1 [(0, .ref h0)] := hl
  refine lv_aload_n hx hb dX7_checkProgram_0 rfl (lv_at hl 0 rfl) ?_
  refine va_get (D := (dC, dI)) (ci := 8) (v := .int ((-1))) (C := RX7) (T := TX7) (N := 11) hx hb hts in_z_cPr_X7 hown hK hP 0 rfl rfl 4 (by decide) (hts (.fieldLink RX7 24 "Selfkindle" "wrong" "I") (List.mem_of_getElem? (i := 1) rfl)) (fun _ h9 => h9) rfl dX7_checkProgram_1 ?_
  refine lv_if_eq (tgt := 15) hx hb dX7_checkProgram_4 (by decide) (fun c9 => absurd c9 (by decide)) (fun c9 => ?_)
  exact vx_throw0 (A := A) (own := RX7) (cls := "java/lang/IllegalStateException") (names := ["java/lang/RuntimeException", "java/lang/Exception"]) (ik := 75) (ic := 77) hx hb hlt hown (by decide +kernel) (by decide +kernel) (hts (.classLink RX7 75 "java/lang/IllegalStateException") (List.mem_of_getElem? (i := 2) rfl)) (hts (.initialized "java/lang/IllegalStateException") (List.mem_of_getElem? (i := 3) rfl)) (vx_hat (B := [.castable "java/lang/IllegalStateException" "java/lang/IllegalStateException", .declares (Bundle.init0 "java/lang/RuntimeException"), .declares (Bundle.init0 "java/lang/Exception"), .declares (Bundle.init0 "java/lang/Throwable")]) (fun w9 h9 => hts w9 (List.mem_cons_of_mem _ (List.mem_append_right _ (h9)))) (by decide +kernel) (vx_c (va_Nw.use rfl hG.2.2.2.2.2.2.1) (vx_c (va_Nw.use rfl hG.2.2.2.2.2.2.2.2.2.2.2.2.2.2.1) (vx_c (va_Nw.use rfl hG.2.2.2.2.2.2.2.2.2.2.2.2.2.2.2.1) (vx_c (va_Nw.use rfl hG.2.2.2.2.2.2.2.2.2.2.2.2.2.2.2.2) vx_n))))) (by decide +kernel) hG.2.2.2.2.1 hG.2.2.2.2.2.1 hS (by rw [hml]; exact hl.1) dX7_checkProgram_7 dX7_checkProgram_10 dX7_checkProgram_11 dX7_checkProgram_14 (fun x9 h9 => (htab x9 h9).elim) (Nat.le_of_ble_eq_true rfl) (Nat.le_of_ble_eq_true rfl) (Nat.le_of_ble_eq_true rfl) (Nat.le_of_ble_eq_true rfl) hlocks (fun t9 _ hz9 hk9 => ⟨(), trivial, rfl, ⟨Nat.le_trans hS.1 hz9, fun q h1 h2 => (hk9 q (Nat.lt_of_lt_of_le h1 hS.1)).trans (hS.2.1 q h1 h2)⟩⟩) hS.2.2 (Nat.le_of_ble_eq_true rfl) (Nat.le_of_ble_eq_true rfl)

set_option maxRecDepth 20000 in
def z_cOr : List Cond := .code yX7_checkOrder cX7_checkOrder 2 none :: (([.fieldLink RX7 24 "Selfkindle" "wrong" "I", .classLink RX7 107 "java/lang/IndexOutOfBoundsException", .initialized "java/lang/IndexOutOfBoundsException"] : List Cond) ++ wsX70 ++ (vx_at0 RX7 109 "java/lang/IndexOutOfBoundsException" ["java/lang/RuntimeException", "java/lang/Exception"]).filter goodWord)
theorem in_z_cOr_X7 : ∀ w ∈ wsX70, w ∈ z_cOr := fun w h => List.mem_cons_of_mem _ (List.mem_append_left _ (List.mem_append_right _ (h)))
set_option maxHeartbeats 4000000 in
set_option maxRecDepth 100000 in
theorem c_cOr (l : Launch) (dC : Nat → ClassId) (dI : Nat → Nat → Nat) (tp te : Nat) (sz : Nat) (hlt : l.stackTraces = false) (h0 : Nat) (rp : Nat) (rt : Nat) (rc : Nat) (r1 : Nat) (r2 : Nat) (r3 : Nat) (r4 : Nat) (p0 : Int32)  : vx_Met l yX7_checkOrder z_cOr ({ frames := 6, cells := 1, slots := 6, locals := 81 }) (va_Pc [.ref h0, .int p0] (Pw dC dI [(h0, .inr (8, [.ref rp, .int 0, .ref rt, .ref rc, .int ((-1)), .ref r1, .ref r2, .ref r3, .ref r4, .null, .int 0]))] [] sz tp te)) (va_Qv (fun (_ : Unit) => False) (fun (_ : Unit) (_ : State) => True) (va_A [(h0, .inr (8, [.ref rp, .int 0, .ref rt, .ref rc, .int ((-1)), .ref r1, .ref r2, .ref r3, .ref r4, .null, .int 0]))] sz)) (vx_X (fun (_ : Unit) => True) (fun (E : String) (_ : Unit) (_ : State) => E = "java/lang/IndexOutOfBoundsException") (va_A [(h0, .inr (8, [.ref rp, .int 0, .ref rt, .ref rc, .int ((-1)), .ref r1, .ref r2, .ref r3, .ref r4, .null, .int 0]))] sz)) 1 6 (va_A [(h0, .inr (8, [.ref rp, .int 0, .ref rt, .ref rc, .int ((-1)), .ref r1, .ref r2, .ref r3, .ref r4, .null, .int 0]))] sz) := by
  refine vx_ofW (cc := cX7_checkOrder) (maxL := 2) (ret := none) (by decide) rfl ?_
  intro p e s m args below meth c s₁ B hml htab hv
  obtain ⟨rfl, hsz, hP, hK, hD0, hG⟩ := hv
  have hx := B.exec
  have hb := B.bytes
  have hr := B.returns
  have hts := atoms_spec (ws := z_cOr) B.pre
  have hown : s.vm.findClass RX7 = some m.cls := findClass_of_methodNamed B.named
  have hlocks := B.notSynchronized
  subst hsz
  have hD := hD0.self (sz := s.heap.size)
  generalize hAe : va_A [(h0, .inr (8, [.ref rp, .int 0, .ref rt, .ref rc, .int ((-1)), .ref r1, .ref r2, .ref r3, .ref r4, .null, .int 0]))] s.heap.size = A at hD hG ⊢
  have hA : ∀ q : Nat, s.heap.size ≤ q → A q := fun q h => by rw [← hAe]; exact Or.inr h
  have hS : va_S A s.heap s.heap [] := va_S.rf
  have hl := lv_entry ([.ref h0, .int p0]) (n := 2) (Nat.le_of_ble_eq_true rfl)
  rw [lg_entry_eq]
  generalize (lg_sl ([.ref h0, .int p0]) ++ List.replicate (2 - (lg_sl ([.ref h0, .int p0])).length) Slot.unset).toArray = ls at hl ⊢
  have hl : lv_has ls 2 [(0, .ref h0), (1, .int p0)] := hl
  refine lv_aload_n hx hb dX7_checkOrder_0 rfl (lv_at hl 0 rfl) ?_
  refine va_get (D := (dC, dI)) (ci := 8) (v := .int ((-1))) (C := RX7) (T := TX7) (N := 11) hx hb hts in_z_cOr_X7 hown hK hP 0 rfl rfl 4 (by decide) (hts (.fieldLink RX7 24 "Selfkindle" "wrong" "I") (List.mem_of_getElem? (i := 1) rfl)) (fun _ h9 => h9) rfl dX7_checkOrder_1 ?_
  refine lv_if_ne (tgt := 22) hx hb dX7_checkOrder_4 (by decide) (fun c9 => ?_) (fun c9 => absurd c9 (by decide))
  exact vx_throw0 (A := A) (own := RX7) (cls := "java/lang/IndexOutOfBoundsException") (names := ["java/lang/RuntimeException", "java/lang/Exception"]) (ik := 107) (ic := 109) hx hb hlt hown (by decide +kernel) (by decide +kernel) (hts (.classLink RX7 107 "java/lang/IndexOutOfBoundsException") (List.mem_of_getElem? (i := 2) rfl)) (hts (.initialized "java/lang/IndexOutOfBoundsException") (List.mem_of_getElem? (i := 3) rfl)) (vx_hat (B := [.castable "java/lang/IndexOutOfBoundsException" "java/lang/IndexOutOfBoundsException", .declares (Bundle.init0 "java/lang/RuntimeException"), .declares (Bundle.init0 "java/lang/Exception"), .declares (Bundle.init0 "java/lang/Throwable")]) (fun w9 h9 => hts w9 (List.mem_cons_of_mem _ (List.mem_append_right _ (h9)))) (by decide +kernel) (vx_c (va_Nw.use rfl hG.2.2.2.2.2.2.2.1) (vx_c (va_Nw.use rfl hG.2.2.2.2.2.2.2.2.2.2.2.2.2.2.1) (vx_c (va_Nw.use rfl hG.2.2.2.2.2.2.2.2.2.2.2.2.2.2.2.1) (vx_c (va_Nw.use rfl hG.2.2.2.2.2.2.2.2.2.2.2.2.2.2.2.2) vx_n))))) (by decide +kernel) hG.2.2.2.2.1 hG.2.2.2.2.2.1 hS (by rw [hml]; exact hl.1) dX7_checkOrder_22 dX7_checkOrder_25 dX7_checkOrder_26 dX7_checkOrder_29 (fun x9 h9 => (htab x9 h9).elim) (Nat.le_of_ble_eq_true rfl) (Nat.le_of_ble_eq_true rfl) (Nat.le_of_ble_eq_true rfl) (Nat.le_of_ble_eq_true rfl) hlocks (fun t9 _ hz9 hk9 => ⟨(), trivial, rfl, ⟨Nat.le_trans hS.1 hz9, fun q h1 h2 => (hk9 q (Nat.lt_of_lt_of_le h1 hS.1)).trans (hS.2.1 q h1 h2)⟩⟩) hS.2.2 (Nat.le_of_ble_eq_true rfl) (Nat.le_of_ble_eq_true rfl)

set_option maxRecDepth 20000 in
def z_X_type_neg : List Cond := .code yX7_type cX7_type 2 (some .int) :: (([.classLink RX7 107 "java/lang/IndexOutOfBoundsException", .initialized "java/lang/IndexOutOfBoundsException"] : List Cond) ++ (vx_at0 RX7 109 "java/lang/IndexOutOfBoundsException" ["java/lang/RuntimeException", "java/lang/Exception"]).filter goodWord)
set_option maxHeartbeats 4000000 in
set_option maxRecDepth 100000 in
theorem c_X_type_neg (l : Launch) (dC : Nat → ClassId) (dI : Nat → Nat → Nat) (tp te : Nat) (sz : Nat) (hlt : l.stackTraces = false) (h0 : Nat) (rp : Nat) (rt : Nat) (rc : Nat) (r1 : Nat) (r2 : Nat) (r3 : Nat) (r4 : Nat) (p0 : Int32) (hv0 : ¬ 0 ≤ p0) : vx_Met l yX7_type z_X_type_neg ({ frames := 6, cells := 1, slots := 6, locals := 81 }) (va_Pc [.ref h0, .int p0] (Pw dC dI [(h0, .inr (8, [.ref rp, .int 0, .ref rt, .ref rc, .int ((-1)), .ref r1, .ref r2, .ref r3, .ref r4, .null, .int 0]))] [] sz tp te)) (va_Qi (fun (r : Int32) (_ : Unit) => False) (fun (_ : Unit) (_ : State) => True) (va_A [(h0, .inr (8, [.ref rp, .int 0, .ref rt, .ref rc, .int ((-1)), .ref r1, .ref r2, .ref r3, .ref r4, .null, .int 0]))] sz)) (vx_X (fun (_ : Unit) => True) (fun (E : String) (_ : Unit) (_ : State) => E = "java/lang/IndexOutOfBoundsException") (va_A [(h0, .inr (8, [.ref rp, .int 0, .ref rt, .ref rc, .int ((-1)), .ref r1, .ref r2, .ref r3, .ref r4, .null, .int 0]))] sz)) 1 6 (va_A [(h0, .inr (8, [.ref rp, .int 0, .ref rt, .ref rc, .int ((-1)), .ref r1, .ref r2, .ref r3, .ref r4, .null, .int 0]))] sz) := by
  refine vx_ofW (cc := cX7_type) (maxL := 2) (ret := (some .int)) (by decide) rfl ?_
  intro p e s m args below meth c s₁ B hml htab hv
  obtain ⟨rfl, hsz, hP, hK, hD0, hG⟩ := hv
  have hx := B.exec
  have hb := B.bytes
  have hr := B.returns
  have hts := atoms_spec (ws := z_X_type_neg) B.pre
  have hown : s.vm.findClass RX7 = some m.cls := findClass_of_methodNamed B.named
  have hlocks := B.notSynchronized
  subst hsz
  have hD := hD0.self (sz := s.heap.size)
  generalize hAe : va_A [(h0, .inr (8, [.ref rp, .int 0, .ref rt, .ref rc, .int ((-1)), .ref r1, .ref r2, .ref r3, .ref r4, .null, .int 0]))] s.heap.size = A at hD hG ⊢
  have hA : ∀ q : Nat, s.heap.size ≤ q → A q := fun q h => by rw [← hAe]; exact Or.inr h
  have hS : va_S A s.heap s.heap [] := va_S.rf
  have hl := lv_entry ([.ref h0, .int p0]) (n := 2) (Nat.le_of_ble_eq_true rfl)
  rw [lg_entry_eq]
  generalize (lg_sl ([.ref h0, .int p0]) ++ List.replicate (2 - (lg_sl ([.ref h0, .int p0])).length) Slot.unset).toArray = ls at hl ⊢
  have hl : lv_has ls 2 [(0, .ref h0), (1, .int p0)] := hl
  refine lv_iload_n hx hb dX7_type_0 rfl (lv_at hl 1 rfl) ?_
  refine lv_if_ge (tgt := 12) hx hb dX7_type_1 (by decide) (fun c9 => absurd c9 hv0) (fun c9 => ?_)
  exact vx_throw0 (A := A) (own := RX7) (cls := "java/lang/IndexOutOfBoundsException") (names := ["java/lang/RuntimeException", "java/lang/Exception"]) (ik := 107) (ic := 109) hx hb hlt hown (by decide +kernel) (by decide +kernel) (hts (.classLink RX7 107 "java/lang/IndexOutOfBoundsException") (List.mem_of_getElem? (i := 1) rfl)) (hts (.initialized "java/lang/IndexOutOfBoundsException") (List.mem_of_getElem? (i := 2) rfl)) (vx_hat (B := [.castable "java/lang/IndexOutOfBoundsException" "java/lang/IndexOutOfBoundsException", .declares (Bundle.init0 "java/lang/RuntimeException"), .declares (Bundle.init0 "java/lang/Exception"), .declares (Bundle.init0 "java/lang/Throwable")]) (fun w9 h9 => hts w9 (List.mem_cons_of_mem _ (List.mem_append_right _ (h9)))) (by decide +kernel) (vx_c (va_Nw.use rfl hG.2.2.2.2.2.2.2.1) (vx_c (va_Nw.use rfl hG.2.2.2.2.2.2.2.2.2.2.2.2.2.2.1) (vx_c (va_Nw.use rfl hG.2.2.2.2.2.2.2.2.2.2.2.2.2.2.2.1) (vx_c (va_Nw.use rfl hG.2.2.2.2.2.2.2.2.2.2.2.2.2.2.2.2) vx_n))))) (by decide +kernel) hG.2.2.2.2.1 hG.2.2.2.2.2.1 hS (by rw [hml]; exact hl.1) dX7_type_4 dX7_type_7 dX7_type_8 dX7_type_11 (fun x9 h9 => (htab x9 h9).elim) (Nat.le_of_ble_eq_true rfl) (Nat.le_of_ble_eq_true rfl) (Nat.le_of_ble_eq_true rfl) (Nat.le_of_ble_eq_true rfl) hlocks (fun t9 _ hz9 hk9 => ⟨(), trivial, rfl, ⟨Nat.le_trans hS.1 hz9, fun q h1 h2 => (hk9 q (Nat.lt_of_lt_of_le h1 hS.1)).trans (hS.2.1 q h1 h2)⟩⟩) hS.2.2 (Nat.le_of_ble_eq_true rfl) (Nat.le_of_ble_eq_true rfl)

set_option maxRecDepth 20000 in
def z_X_type_ok : List Cond := .code yX7_type cX7_type 2 (some .int) :: (([.methodLink RX7 110 yX7_checkProgram, .instanceMethod yX7_checkProgram, .selects RX7 yX7_checkProgram yX7_checkProgram, .initialized RX7, .code yX7_checkProgram cX7_checkProgram 1 none, .fieldLink RX7 24 "Selfkindle" "wrong" "I", .classLink RX7 75 "java/lang/IllegalStateException", .initialized "java/lang/IllegalStateException"] : List Cond) ++ wsX70 ++ (vx_at0 RX7 77 "java/lang/IllegalStateException" ["java/lang/RuntimeException", "java/lang/Exception"]).filter goodWord)
theorem in_z_X_type_ok_X7 : ∀ w ∈ wsX70, w ∈ z_X_type_ok := fun w h => List.mem_cons_of_mem _ (List.mem_append_left _ (List.mem_append_right _ (h)))
set_option maxRecDepth 20000 in
theorem gg_X_type_ok_13 : GoodIn z_X_type_ok z_cPr := goodIn_ca (goodIn_p _ [5] rfl (by decide +kernel)) (goodIn_sub (fun _ h => List.mem_cons_of_mem _ (List.mem_append_right _ (h))) (by decide +kernel))
set_option maxRecDepth 20000 in
theorem g_X_type_ok_13 : GoodIn z_X_type_ok (wsV RX7 110 RX7 yX7_checkProgram z_cPr) := goodIn_app (goodIn_of _ (by decide +kernel)) gg_X_type_ok_13
set_option maxHeartbeats 4000000 in
set_option maxRecDepth 100000 in
theorem c_X_type_ok (l : Launch) (dC : Nat → ClassId) (dI : Nat → Nat → Nat) (tp te : Nat) (sz : Nat) (hlt : l.stackTraces = false) (h0 : Nat) (rp : Nat) (rt : Nat) (rc : Nat) (r1 : Nat) (r2 : Nat) (r3 : Nat) (r4 : Nat) (p0 : Int32) (hv0 : 0 ≤ p0) : vx_Met l yX7_type z_X_type_ok ({ frames := 7, cells := 1, slots := 6, locals := 101 }) (va_Pc [.ref h0, .int p0] (Pw dC dI [(h0, .inr (8, [.ref rp, .int 0, .ref rt, .ref rc, .int ((-1)), .ref r1, .ref r2, .ref r3, .ref r4, .null, .int 0]))] [] sz tp te)) (va_Qi (fun (r : Int32) (_ : Unit) => False) (fun (_ : Unit) (_ : State) => True) (va_A [(h0, .inr (8, [.ref rp, .int 0, .ref rt, .ref rc, .int ((-1)), .ref r1, .ref r2, .ref r3, .ref r4, .null, .int 0]))] sz)) (vx_X (fun (_ : Unit) => True) (fun (E : String) (_ : Unit) (_ : State) => E = "java/lang/IllegalStateException") (va_A [(h0, .inr (8, [.ref rp, .int 0, .ref rt, .ref rc, .int ((-1)), .ref r1, .ref r2, .ref r3, .ref r4, .null, .int 0]))] sz)) 1 6 (va_A [(h0, .inr (8, [.ref rp, .int 0, .ref rt, .ref rc, .int ((-1)), .ref r1, .ref r2, .ref r3, .ref r4, .null, .int 0]))] sz) := by
  refine vx_ofW (cc := cX7_type) (maxL := 2) (ret := (some .int)) (by decide) rfl ?_
  intro p e s m args below meth c s₁ B hml htab hv
  obtain ⟨rfl, hsz, hP, hK, hD0, hG⟩ := hv
  have hx := B.exec
  have hb := B.bytes
  have hr := B.returns
  have hts := atoms_spec (ws := z_X_type_ok) B.pre
  have hown : s.vm.findClass RX7 = some m.cls := findClass_of_methodNamed B.named
  have hlocks := B.notSynchronized
  subst hsz
  have hD := hD0.self (sz := s.heap.size)
  generalize hAe : va_A [(h0, .inr (8, [.ref rp, .int 0, .ref rt, .ref rc, .int ((-1)), .ref r1, .ref r2, .ref r3, .ref r4, .null, .int 0]))] s.heap.size = A at hD hG ⊢
  have hA : ∀ q : Nat, s.heap.size ≤ q → A q := fun q h => by rw [← hAe]; exact Or.inr h
  have hS : va_S A s.heap s.heap [] := va_S.rf
  have hl := lv_entry ([.ref h0, .int p0]) (n := 2) (Nat.le_of_ble_eq_true rfl)
  rw [lg_entry_eq]
  generalize (lg_sl ([.ref h0, .int p0]) ++ List.replicate (2 - (lg_sl ([.ref h0, .int p0])).length) Slot.unset).toArray = ls at hl ⊢
  have hl : lv_has ls 2 [(0, .ref h0), (1, .int p0)] := hl
  refine lv_iload_n hx hb dX7_type_0 rfl (lv_at hl 1 rfl) ?_
  refine lv_if_ge (tgt := 12) hx hb dX7_type_1 (by decide) (fun c9 => ?_) (fun c9 => absurd hv0 c9)
  refine lv_aload_n hx hb dX7_type_12 rfl (lv_at hl 0 rfl) ?_
  have hPc := hP.sub (ws' := [(h0, .inr (8, [.ref rp, .int 0, .ref rt, .ref rc, .int ((-1)), .ref r1, .ref r2, .ref r3, .ref r4, .null, .int 0]))]) [0] rfl
  have hDc := hD.sub (ws' := [(h0, .inr (8, [.ref rp, .int 0, .ref rt, .ref rc, .int ((-1)), .ref r1, .ref r2, .ref r3, .ref r4, .null, .int 0]))]) [0] (by decide) rfl
  have hKc := hK.sub (tys' := []) [] rfl
  have hFc := va_free (wc := [(h0, .inr (8, [.ref rp, .int 0, .ref rt, .ref rc, .int ((-1)), .ref r1, .ref r2, .ref r3, .ref r4, .null, .int 0]))]) hD hS hA [0] rfl
  refine vx_callv (vx_runV (As := []) (rest := []) ⟨hx, hb, hml, hown, hts⟩ (c_cPr l dC dI tp te s.heap.size hlt h0 rp rt rc r1 r2 r3 r4) (cwV 0 hts g_X_type_ok_13 rfl rfl rfl (by decide +kernel) ⟨Nat.le_of_ble_eq_true rfl, Nat.le_of_ble_eq_true rfl⟩) ⟨Pw.blind, va_recv hKc hPc (ci := 8) (q0 := 0) rfl rfl, Pw.mk hPc hKc hDc hG hS hFc⟩ rfl rfl hl.1 rfl (lv_room (Nat.le_of_ble_eq_true rfl)) dX7_type_13 ⟨Nat.le_of_ble_eq_true rfl, Nat.le_of_ble_eq_true rfl⟩) hS (fun q _ h => hFc q h) hFc (fun q _ h => hFc q h) (fun E ce q9 u t9 H1 locs ht hvm hpx hBX hz1 hk1 hS hce hcv hcl => ?_) (fun u t9 H_1 locs ht hvm hw hB hz1 hk1 hS => hw.elim)
  have hBX : E = "java/lang/IllegalStateException" := hBX
  subst hBX
  exact vx_out (fun x9 h9 => (htab x9 h9).elim) hlocks hce hcv hcl (fun t9 ht9 _ => ⟨(), trivial, rfl, hS.F ht9⟩) hS.2.2 (Nat.le_of_ble_eq_true rfl) (Nat.le_of_ble_eq_true rfl)

set_option maxRecDepth 20000 in
def z_X_optimise_neg : List Cond := .code yX7_optimise cX7_optimise 4 (some .int) :: (([.classLink RX7 69 "java/lang/IllegalArgumentException", .initialized "java/lang/IllegalArgumentException"] : List Cond) ++ (vx_at0 RX7 71 "java/lang/IllegalArgumentException" ["java/lang/RuntimeException", "java/lang/Exception"]).filter goodWord)
set_option maxHeartbeats 4000000 in
set_option maxRecDepth 100000 in
theorem c_X_optimise_neg (l : Launch) (dC : Nat → ClassId) (dI : Nat → Nat → Nat) (tp te : Nat) (sz : Nat) (hlt : l.stackTraces = false) (h0 : Nat) (rp : Nat) (rt : Nat) (rc : Nat) (r1 : Nat) (r2 : Nat) (r3 : Nat) (r4 : Nat) (p0 : Int32) (hv0 : p0 < 0) : vx_Met l yX7_optimise z_X_optimise_neg ({ frames := 6, cells := 1, slots := 6, locals := 81 }) (va_Pc [.ref h0, .int p0] (Pw dC dI [(h0, .inr (8, [.ref rp, .int 0, .ref rt, .ref rc, .int ((-1)), .ref r1, .ref r2, .ref r3, .ref r4, .null, .int 0]))] [] sz tp te)) (va_Qi (fun (r : Int32) (_ : Unit) => False) (fun (_ : Unit) (_ : State) => True) (va_A [(h0, .inr (8, [.ref rp, .int 0, .ref rt, .ref rc, .int ((-1)), .ref r1, .ref r2, .ref r3, .ref r4, .null, .int 0]))] sz)) (vx_X (fun (_ : Unit) => True) (fun (E : String) (_ : Unit) (_ : State) => E = "java/lang/IllegalArgumentException") (va_A [(h0, .inr (8, [.ref rp, .int 0, .ref rt, .ref rc, .int ((-1)), .ref r1, .ref r2, .ref r3, .ref r4, .null, .int 0]))] sz)) 1 6 (va_A [(h0, .inr (8, [.ref rp, .int 0, .ref rt, .ref rc, .int ((-1)), .ref r1, .ref r2, .ref r3, .ref r4, .null, .int 0]))] sz) := by
  refine vx_ofW (cc := cX7_optimise) (maxL := 4) (ret := (some .int)) (by decide) rfl ?_
  intro p e s m args below meth c s₁ B hml htab hv
  obtain ⟨rfl, hsz, hP, hK, hD0, hG⟩ := hv
  have hx := B.exec
  have hb := B.bytes
  have hr := B.returns
  have hts := atoms_spec (ws := z_X_optimise_neg) B.pre
  have hown : s.vm.findClass RX7 = some m.cls := findClass_of_methodNamed B.named
  have hlocks := B.notSynchronized
  subst hsz
  have hD := hD0.self (sz := s.heap.size)
  generalize hAe : va_A [(h0, .inr (8, [.ref rp, .int 0, .ref rt, .ref rc, .int ((-1)), .ref r1, .ref r2, .ref r3, .ref r4, .null, .int 0]))] s.heap.size = A at hD hG ⊢
  have hA : ∀ q : Nat, s.heap.size ≤ q → A q := fun q h => by rw [← hAe]; exact Or.inr h
  have hS : va_S A s.heap s.heap [] := va_S.rf
  have hl := lv_entry ([.ref h0, .int p0]) (n := 4) (Nat.le_of_ble_eq_true rfl)
  rw [lg_entry_eq]
  generalize (lg_sl ([.ref h0, .int p0]) ++ List.replicate (4 - (lg_sl ([.ref h0, .int p0])).length) Slot.unset).toArray = ls at hl ⊢
  have hl : lv_has ls 4 [(0, .ref h0), (1, .int p0)] := hl
  refine lv_iload_n hx hb dX7_optimise_0 rfl (lv_at hl 1 rfl) ?_
  refine lv_if_lt (tgt := 10) hx hb dX7_optimise_1 (by decide) (fun c9 => ?_) (fun c9 => absurd hv0 c9)
  exact vx_throw0 (A := A) (own := RX7) (cls := "java/lang/IllegalArgumentException") (names := ["java/lang/RuntimeException", "java/lang/Exception"]) (ik := 69) (ic := 71) hx hb hlt hown (by decide +kernel) (by decide +kernel) (hts (.classLink RX7 69 "java/lang/IllegalArgumentException") (List.mem_of_getElem? (i := 1) rfl)) (hts (.initialized "java/lang/IllegalArgumentException") (List.mem_of_getElem? (i := 2) rfl)) (vx_hat (B := [.castable "java/lang/IllegalArgumentException" "java/lang/IllegalArgumentException", .declares (Bundle.init0 "java/lang/RuntimeException"), .declares (Bundle.init0 "java/lang/Exception"), .declares (Bundle.init0 "java/lang/Throwable")]) (fun w9 h9 => hts w9 (List.mem_cons_of_mem _ (List.mem_append_right _ (h9)))) (by decide +kernel) (vx_c (va_Nw.use rfl hG.2.2.2.2.2.2.2.2.1) (vx_c (va_Nw.use rfl hG.2.2.2.2.2.2.2.2.2.2.2.2.2.2.1) (vx_c (va_Nw.use rfl hG.2.2.2.2.2.2.2.2.2.2.2.2.2.2.2.1) (vx_c (va_Nw.use rfl hG.2.2.2.2.2.2.2.2.2.2.2.2.2.2.2.2) vx_n))))) (by decide +kernel) hG.2.2.2.2.1 hG.2.2.2.2.2.1 hS (by rw [hml]; exact hl.1) dX7_optimise_10 dX7_optimise_13 dX7_optimise_14 dX7_optimise_17 (fun x9 h9 => (htab x9 h9).elim) (Nat.le_of_ble_eq_true rfl) (Nat.le_of_ble_eq_true rfl) (Nat.le_of_ble_eq_true rfl) (Nat.le_of_ble_eq_true rfl) hlocks (fun t9 _ hz9 hk9 => ⟨(), trivial, rfl, ⟨Nat.le_trans hS.1 hz9, fun q h1 h2 => (hk9 q (Nat.lt_of_lt_of_le h1 hS.1)).trans (hS.2.1 q h1 h2)⟩⟩) hS.2.2 (Nat.le_of_ble_eq_true rfl) (Nat.le_of_ble_eq_true rfl)

set_option maxRecDepth 20000 in
def z_X_optimise_big : List Cond := .code yX7_optimise cX7_optimise 4 (some .int) :: (([.classLink RX7 69 "java/lang/IllegalArgumentException", .initialized "java/lang/IllegalArgumentException"] : List Cond) ++ (vx_at0 RX7 71 "java/lang/IllegalArgumentException" ["java/lang/RuntimeException", "java/lang/Exception"]).filter goodWord)
set_option maxHeartbeats 4000000 in
set_option maxRecDepth 100000 in
theorem c_X_optimise_big (l : Launch) (dC : Nat → ClassId) (dI : Nat → Nat → Nat) (tp te : Nat) (sz : Nat) (hlt : l.stackTraces = false) (h0 : Nat) (rp : Nat) (rt : Nat) (rc : Nat) (r1 : Nat) (r2 : Nat) (r3 : Nat) (r4 : Nat) (p0 : Int32) (hv0 : ¬ p0 < 0) (hv1 : ¬ p0 ≤ 15) : vx_Met l yX7_optimise z_X_optimise_big ({ frames := 6, cells := 1, slots := 6, locals := 81 }) (va_Pc [.ref h0, .int p0] (Pw dC dI [(h0, .inr (8, [.ref rp, .int 0, .ref rt, .ref rc, .int ((-1)), .ref r1, .ref r2, .ref r3, .ref r4, .null, .int 0]))] [] sz tp te)) (va_Qi (fun (r : Int32) (_ : Unit) => False) (fun (_ : Unit) (_ : State) => True) (va_A [(h0, .inr (8, [.ref rp, .int 0, .ref rt, .ref rc, .int ((-1)), .ref r1, .ref r2, .ref r3, .ref r4, .null, .int 0]))] sz)) (vx_X (fun (_ : Unit) => True) (fun (E : String) (_ : Unit) (_ : State) => E = "java/lang/IllegalArgumentException") (va_A [(h0, .inr (8, [.ref rp, .int 0, .ref rt, .ref rc, .int ((-1)), .ref r1, .ref r2, .ref r3, .ref r4, .null, .int 0]))] sz)) 1 6 (va_A [(h0, .inr (8, [.ref rp, .int 0, .ref rt, .ref rc, .int ((-1)), .ref r1, .ref r2, .ref r3, .ref r4, .null, .int 0]))] sz) := by
  refine vx_ofW (cc := cX7_optimise) (maxL := 4) (ret := (some .int)) (by decide) rfl ?_
  intro p e s m args below meth c s₁ B hml htab hv
  obtain ⟨rfl, hsz, hP, hK, hD0, hG⟩ := hv
  have hx := B.exec
  have hb := B.bytes
  have hr := B.returns
  have hts := atoms_spec (ws := z_X_optimise_big) B.pre
  have hown : s.vm.findClass RX7 = some m.cls := findClass_of_methodNamed B.named
  have hlocks := B.notSynchronized
  subst hsz
  have hD := hD0.self (sz := s.heap.size)
  generalize hAe : va_A [(h0, .inr (8, [.ref rp, .int 0, .ref rt, .ref rc, .int ((-1)), .ref r1, .ref r2, .ref r3, .ref r4, .null, .int 0]))] s.heap.size = A at hD hG ⊢
  have hA : ∀ q : Nat, s.heap.size ≤ q → A q := fun q h => by rw [← hAe]; exact Or.inr h
  have hS : va_S A s.heap s.heap [] := va_S.rf
  have hl := lv_entry ([.ref h0, .int p0]) (n := 4) (Nat.le_of_ble_eq_true rfl)
  rw [lg_entry_eq]
  generalize (lg_sl ([.ref h0, .int p0]) ++ List.replicate (4 - (lg_sl ([.ref h0, .int p0])).length) Slot.unset).toArray = ls at hl ⊢
  have hl : lv_has ls 4 [(0, .ref h0), (1, .int p0)] := hl
  refine lv_iload_n hx hb dX7_optimise_0 rfl (lv_at hl 1 rfl) ?_
  refine lv_if_lt (tgt := 10) hx hb dX7_optimise_1 (by decide) (fun c9 => absurd c9 hv0) (fun c9 => ?_)
  refine lv_iload_n hx hb dX7_optimise_4 rfl (lv_at hl 1 rfl) ?_
  refine lv_bipush (v := 15) hx hb dX7_optimise_5 (by decide) ?_
  refine lv_icmp_le (tgt := 18) hx hb dX7_optimise_7 (by decide) (fun c9 => absurd c9 hv1) (fun c9 => ?_)
  exact vx_throw0 (A := A) (own := RX7) (cls := "java/lang/IllegalArgumentException") (names := ["java/lang/RuntimeException", "java/lang/Exception"]) (ik := 69) (ic := 71) hx hb hlt hown (by decide +kernel) (by decide +kernel) (hts (.classLink RX7 69 "java/lang/IllegalArgumentException") (List.mem_of_getElem? (i := 1) rfl)) (hts (.initialized "java/lang/IllegalArgumentException") (List.mem_of_getElem? (i := 2) rfl)) (vx_hat (B := [.castable "java/lang/IllegalArgumentException" "java/lang/IllegalArgumentException", .declares (Bundle.init0 "java/lang/RuntimeException"), .declares (Bundle.init0 "java/lang/Exception"), .declares (Bundle.init0 "java/lang/Throwable")]) (fun w9 h9 => hts w9 (List.mem_cons_of_mem _ (List.mem_append_right _ (h9)))) (by decide +kernel) (vx_c (va_Nw.use rfl hG.2.2.2.2.2.2.2.2.1) (vx_c (va_Nw.use rfl hG.2.2.2.2.2.2.2.2.2.2.2.2.2.2.1) (vx_c (va_Nw.use rfl hG.2.2.2.2.2.2.2.2.2.2.2.2.2.2.2.1) (vx_c (va_Nw.use rfl hG.2.2.2.2.2.2.2.2.2.2.2.2.2.2.2.2) vx_n))))) (by decide +kernel) hG.2.2.2.2.1 hG.2.2.2.2.2.1 hS (by rw [hml]; exact hl.1) dX7_optimise_10 dX7_optimise_13 dX7_optimise_14 dX7_optimise_17 (fun x9 h9 => (htab x9 h9).elim) (Nat.le_of_ble_eq_true rfl) (Nat.le_of_ble_eq_true rfl) (Nat.le_of_ble_eq_true rfl) (Nat.le_of_ble_eq_true rfl) hlocks (fun t9 _ hz9 hk9 => ⟨(), trivial, rfl, ⟨Nat.le_trans hS.1 hz9, fun q h1 h2 => (hk9 q (Nat.lt_of_lt_of_le h1 hS.1)).trans (hS.2.1 q h1 h2)⟩⟩) hS.2.2 (Nat.le_of_ble_eq_true rfl) (Nat.le_of_ble_eq_true rfl)

set_option maxRecDepth 20000 in
def z_X_optimise_ok : List Cond := .code yX7_optimise cX7_optimise 4 (some .int) :: (([.methodLink RX7 110 yX7_checkProgram, .instanceMethod yX7_checkProgram, .selects RX7 yX7_checkProgram yX7_checkProgram, .initialized RX7, .code yX7_checkProgram cX7_checkProgram 1 none, .fieldLink RX7 24 "Selfkindle" "wrong" "I", .classLink RX7 75 "java/lang/IllegalStateException", .initialized "java/lang/IllegalStateException"] : List Cond) ++ wsX70 ++ (vx_at0 RX7 77 "java/lang/IllegalStateException" ["java/lang/RuntimeException", "java/lang/Exception"]).filter goodWord)
theorem in_z_X_optimise_ok_X7 : ∀ w ∈ wsX70, w ∈ z_X_optimise_ok := fun w h => List.mem_cons_of_mem _ (List.mem_append_left _ (List.mem_append_right _ (h)))
set_option maxRecDepth 20000 in
theorem gg_X_optimise_ok_19 : GoodIn z_X_optimise_ok z_cPr := goodIn_ca (goodIn_p _ [5] rfl (by decide +kernel)) (goodIn_sub (fun _ h => List.mem_cons_of_mem _ (List.mem_append_right _ (h))) (by decide +kernel))
set_option maxRecDepth 20000 in
theorem g_X_optimise_ok_19 : GoodIn z_X_optimise_ok (wsV RX7 110 RX7 yX7_checkProgram z_cPr) := goodIn_app (goodIn_of _ (by decide +kernel)) gg_X_optimise_ok_19
set_option maxHeartbeats 4000000 in
set_option maxRecDepth 100000 in
theorem c_X_optimise_ok (l : Launch) (dC : Nat → ClassId) (dI : Nat → Nat → Nat) (tp te : Nat) (sz : Nat) (hlt : l.stackTraces = false) (h0 : Nat) (rp : Nat) (rt : Nat) (rc : Nat) (r1 : Nat) (r2 : Nat) (r3 : Nat) (r4 : Nat) (p0 : Int32) (hv0 : ¬ p0 < 0) (hv1 : p0 ≤ 15) : vx_Met l yX7_optimise z_X_optimise_ok ({ frames := 7, cells := 1, slots := 6, locals := 101 }) (va_Pc [.ref h0, .int p0] (Pw dC dI [(h0, .inr (8, [.ref rp, .int 0, .ref rt, .ref rc, .int ((-1)), .ref r1, .ref r2, .ref r3, .ref r4, .null, .int 0]))] [] sz tp te)) (va_Qi (fun (r : Int32) (_ : Unit) => False) (fun (_ : Unit) (_ : State) => True) (va_A [(h0, .inr (8, [.ref rp, .int 0, .ref rt, .ref rc, .int ((-1)), .ref r1, .ref r2, .ref r3, .ref r4, .null, .int 0]))] sz)) (vx_X (fun (_ : Unit) => True) (fun (E : String) (_ : Unit) (_ : State) => E = "java/lang/IllegalStateException") (va_A [(h0, .inr (8, [.ref rp, .int 0, .ref rt, .ref rc, .int ((-1)), .ref r1, .ref r2, .ref r3, .ref r4, .null, .int 0]))] sz)) 1 6 (va_A [(h0, .inr (8, [.ref rp, .int 0, .ref rt, .ref rc, .int ((-1)), .ref r1, .ref r2, .ref r3, .ref r4, .null, .int 0]))] sz) := by
  refine vx_ofW (cc := cX7_optimise) (maxL := 4) (ret := (some .int)) (by decide) rfl ?_
  intro p e s m args below meth c s₁ B hml htab hv
  obtain ⟨rfl, hsz, hP, hK, hD0, hG⟩ := hv
  have hx := B.exec
  have hb := B.bytes
  have hr := B.returns
  have hts := atoms_spec (ws := z_X_optimise_ok) B.pre
  have hown : s.vm.findClass RX7 = some m.cls := findClass_of_methodNamed B.named
  have hlocks := B.notSynchronized
  subst hsz
  have hD := hD0.self (sz := s.heap.size)
  generalize hAe : va_A [(h0, .inr (8, [.ref rp, .int 0, .ref rt, .ref rc, .int ((-1)), .ref r1, .ref r2, .ref r3, .ref r4, .null, .int 0]))] s.heap.size = A at hD hG ⊢
  have hA : ∀ q : Nat, s.heap.size ≤ q → A q := fun q h => by rw [← hAe]; exact Or.inr h
  have hS : va_S A s.heap s.heap [] := va_S.rf
  have hl := lv_entry ([.ref h0, .int p0]) (n := 4) (Nat.le_of_ble_eq_true rfl)
  rw [lg_entry_eq]
  generalize (lg_sl ([.ref h0, .int p0]) ++ List.replicate (4 - (lg_sl ([.ref h0, .int p0])).length) Slot.unset).toArray = ls at hl ⊢
  have hl : lv_has ls 4 [(0, .ref h0), (1, .int p0)] := hl
  refine lv_iload_n hx hb dX7_optimise_0 rfl (lv_at hl 1 rfl) ?_
  refine lv_if_lt (tgt := 10) hx hb dX7_optimise_1 (by decide) (fun c9 => absurd c9 hv0) (fun c9 => ?_)
  refine lv_iload_n hx hb dX7_optimise_4 rfl (lv_at hl 1 rfl) ?_
  refine lv_bipush (v := 15) hx hb dX7_optimise_5 (by decide) ?_
  refine lv_icmp_le (tgt := 18) hx hb dX7_optimise_7 (by decide) (fun c9 => ?_) (fun c9 => absurd hv1 c9)
  refine lv_aload_n hx hb dX7_optimise_18 rfl (lv_at hl 0 rfl) ?_
  have hPc := hP.sub (ws' := [(h0, .inr (8, [.ref rp, .int 0, .ref rt, .ref rc, .int ((-1)), .ref r1, .ref r2, .ref r3, .ref r4, .null, .int 0]))]) [0] rfl
  have hDc := hD.sub (ws' := [(h0, .inr (8, [.ref rp, .int 0, .ref rt, .ref rc, .int ((-1)), .ref r1, .ref r2, .ref r3, .ref r4, .null, .int 0]))]) [0] (by decide) rfl
  have hKc := hK.sub (tys' := []) [] rfl
  have hFc := va_free (wc := [(h0, .inr (8, [.ref rp, .int 0, .ref rt, .ref rc, .int ((-1)), .ref r1, .ref r2, .ref r3, .ref r4, .null, .int 0]))]) hD hS hA [0] rfl
  refine vx_callv (vx_runV (As := []) (rest := []) ⟨hx, hb, hml, hown, hts⟩ (c_cPr l dC dI tp te s.heap.size hlt h0 rp rt rc r1 r2 r3 r4) (cwV 0 hts g_X_optimise_ok_19 rfl rfl rfl (by decide +kernel) ⟨Nat.le_of_ble_eq_true rfl, Nat.le_of_ble_eq_true rfl⟩) ⟨Pw.blind, va_recv hKc hPc (ci := 8) (q0 := 0) rfl rfl, Pw.mk hPc hKc hDc hG hS hFc⟩ rfl rfl hl.1 rfl (lv_room (Nat.le_of_ble_eq_true rfl)) dX7_optimise_19 ⟨Nat.le_of_ble_eq_true rfl, Nat.le_of_ble_eq_true rfl⟩) hS (fun q _ h => hFc q h) hFc (fun q _ h => hFc q h) (fun E ce q9 u t9 H1 locs ht hvm hpx hBX hz1 hk1 hS hce hcv hcl => ?_) (fun u t9 H_1 locs ht hvm hw hB hz1 hk1 hS => hw.elim)
  have hBX : E = "java/lang/IllegalStateException" := hBX
  subst hBX
  exact vx_out (fun x9 h9 => (htab x9 h9).elim) hlocks hce hcv hcl (fun t9 ht9 _ => ⟨(), trivial, rfl, hS.F ht9⟩) hS.2.2 (Nat.le_of_ble_eq_true rfl) (Nat.le_of_ble_eq_true rfl)

set_option maxRecDepth 20000 in
def z_X_size : List Cond := .code yX7_size cX7_size 1 (some .int) :: (([.fieldLink RX7 21 "Selfkindle" "current" "LSelfkindle$Term;", .fieldLink RX7 78 "Selfkindle$Term" "count" "I"] : List Cond) ++ wsX70 ++ wsX50)
theorem in_z_X_size_X7 : ∀ w ∈ wsX70, w ∈ z_X_size := fun w h => List.mem_cons_of_mem _ (List.mem_append_left _ (List.mem_append_right _ (h)))
theorem in_z_X_size_X5 : ∀ w ∈ wsX50, w ∈ z_X_size := fun w h => List.mem_cons_of_mem _ (List.mem_append_right _ (h))
set_option maxHeartbeats 4000000 in
set_option maxRecDepth 100000 in
theorem c_X_size (l : Launch) (dC : Nat → ClassId) (dI : Nat → Nat → Nat) (tp te : Nat) (sz : Nat) (h0 : Nat) (rp : Nat) (rt : Nat) (rc : Nat) (r1 : Nat) (r2 : Nat) (r3 : Nat) (r4 : Nat) (a1 : Nat) (a2 : Nat) (a3 : Nat) (a4 : Nat) (a5 : Nat) (a6 : Nat) (a7 : Nat)  : Met l yX7_size z_X_size ({ frames := 0, cells := 0, slots := 0, locals := 0 }) (va_Pc [.ref h0] (Pw dC dI [(h0, .inr (8, [.ref rp, .int 0, .ref rt, .ref rc, .int ((-1)), .ref r1, .ref r2, .ref r3, .ref r4, .null, .int 0])), (rc, .inr (6, [.ref a1, .ref a2, .ref a3, .ref a4, .ref a5, .ref a6, .ref a7, .int 0]))] [] sz tp te)) (va_Qi (fun (r : Int32) (_ : Unit) => r = 0) (fun (_ : Unit) (_ : State) => True) (va_A [(h0, .inr (8, [.ref rp, .int 0, .ref rt, .ref rc, .int ((-1)), .ref r1, .ref r2, .ref r3, .ref r4, .null, .int 0])), (rc, .inr (6, [.ref a1, .ref a2, .ref a3, .ref a4, .ref a5, .ref a6, .ref a7, .int 0]))] sz)) 0 0 (va_A [(h0, .inr (8, [.ref rp, .int 0, .ref rt, .ref rc, .int ((-1)), .ref r1, .ref r2, .ref r3, .ref r4, .null, .int 0])), (rc, .inr (6, [.ref a1, .ref a2, .ref a3, .ref a4, .ref a5, .ref a6, .ref a7, .int 0]))] sz) := by
  refine Met.ofW (cc := cX7_size) (maxL := 1) (ret := (some .int)) (by decide) rfl ?_
  intro p e s m args below meth c s₁ B hml hv
  obtain ⟨rfl, hsz, hP, hK, hD0, hG⟩ := hv
  have hx := B.exec
  have hb := B.bytes
  have hr := B.returns
  have hts := atoms_spec (ws := z_X_size) B.pre
  have hown : s.vm.findClass RX7 = some m.cls := findClass_of_methodNamed B.named
  have hlocks := B.notSynchronized
  subst hsz
  have hD := hD0.self (sz := s.heap.size)
  generalize hAe : va_A [(h0, .inr (8, [.ref rp, .int 0, .ref rt, .ref rc, .int ((-1)), .ref r1, .ref r2, .ref r3, .ref r4, .null, .int 0])), (rc, .inr (6, [.ref a1, .ref a2, .ref a3, .ref a4, .ref a5, .ref a6, .ref a7, .int 0]))] s.heap.size = A at hD hG ⊢
  have hA : ∀ q : Nat, s.heap.size ≤ q → A q := fun q h => by rw [← hAe]; exact Or.inr h
  have hS : va_S A s.heap s.heap [] := va_S.rf
  have hl := lv_entry ([.ref h0]) (n := 1) (Nat.le_of_ble_eq_true rfl)
  rw [lg_entry_eq]
  generalize (lg_sl ([.ref h0]) ++ List.replicate (1 - (lg_sl ([.ref h0])).length) Slot.unset).toArray = ls at hl ⊢
  have hl : lv_has ls 1 [(0, .ref h0)] := hl
  refine lv_aload_n hx hb dX7_size_0 rfl (lv_at hl 0 rfl) ?_
  refine va_get (D := (dC, dI)) (ci := 8) (v := .ref rc) (C := RX7) (T := TX7) (N := 11) hx hb hts in_z_X_size_X7 hown hK hP 0 rfl rfl 3 (by decide) (hts (.fieldLink RX7 21 "Selfkindle" "current" "LSelfkindle$Term;") (List.mem_of_getElem? (i := 1) rfl)) (fun _ h9 => h9) rfl dX7_size_1 ?_
  refine va_get (D := (dC, dI)) (ci := 6) (v := .int 0) (C := RX5) (T := TX5) (N := 8) hx hb hts in_z_X_size_X5 hown hK hP 1 rfl rfl 7 (by decide) (hts (.fieldLink RX7 78 "Selfkindle$Term" "count" "I") (List.mem_of_getElem? (i := 2) rfl)) (fun _ h9 => h9) rfl dX7_size_4 ?_
  refine W.widen (k := 0) (n := 0) (Nat.le_of_ble_eq_true rfl) (Nat.le_of_ble_eq_true rfl) ?_
  exact W.iret (v := 0) hx hb hr (fun t ht hW => ⟨⟨0, (), rfl, rfl, trivial⟩, hS.F ht⟩) hS.2.2 dX7_size_7

set_option maxRecDepth 20000 in
def z_X_orders : List Cond := .code yX7_orders cX7_orders 1 (some .int) :: (([.methodLink RX7 110 yX7_checkProgram, .instanceMethod yX7_checkProgram, .selects RX7 yX7_checkProgram yX7_checkProgram, .initialized RX7, .code yX7_checkProgram cX7_checkProgram 1 none, .fieldLink RX7 24 "Selfkindle" "wrong" "I", .classLink RX7 75 "java/lang/IllegalStateException", .initialized "java/lang/IllegalStateException"] : List Cond) ++ wsX70 ++ (vx_at0 RX7 77 "java/lang/IllegalStateException" ["java/lang/RuntimeException", "java/lang/Exception"]).filter goodWord)
theorem in_z_X_orders_X7 : ∀ w ∈ wsX70, w ∈ z_X_orders := fun w h => List.mem_cons_of_mem _ (List.mem_append_left _ (List.mem_append_right _ (h)))
set_option maxRecDepth 20000 in
theorem gg_X_orders_1 : GoodIn z_X_orders z_cPr := goodIn_ca (goodIn_p _ [5] rfl (by decide +kernel)) (goodIn_sub (fun _ h => List.mem_cons_of_mem _ (List.mem_append_right _ (h))) (by decide +kernel))
set_option maxRecDepth 20000 in
theorem g_X_orders_1 : GoodIn z_X_orders (wsV RX7 110 RX7 yX7_checkProgram z_cPr) := goodIn_app (goodIn_of _ (by decide +kernel)) gg_X_orders_1
set_option maxHeartbeats 4000000 in
set_option maxRecDepth 100000 in
theorem c_X_orders (l : Launch) (dC : Nat → ClassId) (dI : Nat → Nat → Nat) (tp te : Nat) (sz : Nat) (hlt : l.stackTraces = false) (h0 : Nat) (rp : Nat) (rt : Nat) (rc : Nat) (r1 : Nat) (r2 : Nat) (r3 : Nat) (r4 : Nat)  : vx_Met l yX7_orders z_X_orders ({ frames := 7, cells := 1, slots := 6, locals := 101 }) (va_Pc [.ref h0] (Pw dC dI [(h0, .inr (8, [.ref rp, .int 0, .ref rt, .ref rc, .int ((-1)), .ref r1, .ref r2, .ref r3, .ref r4, .null, .int 0]))] [] sz tp te)) (va_Qi (fun (r : Int32) (_ : Unit) => False) (fun (_ : Unit) (_ : State) => True) (va_A [(h0, .inr (8, [.ref rp, .int 0, .ref rt, .ref rc, .int ((-1)), .ref r1, .ref r2, .ref r3, .ref r4, .null, .int 0]))] sz)) (vx_X (fun (_ : Unit) => True) (fun (E : String) (_ : Unit) (_ : State) => E = "java/lang/IllegalStateException") (va_A [(h0, .inr (8, [.ref rp, .int 0, .ref rt, .ref rc, .int ((-1)), .ref r1, .ref r2, .ref r3, .ref r4, .null, .int 0]))] sz)) 1 6 (va_A [(h0, .inr (8, [.ref rp, .int 0, .ref rt, .ref rc, .int ((-1)), .ref r1, .ref r2, .ref r3, .ref r4, .null, .int 0]))] sz) := by
  refine vx_ofW (cc := cX7_orders) (maxL := 1) (ret := (some .int)) (by decide) rfl ?_
  intro p e s m args below meth c s₁ B hml htab hv
  obtain ⟨rfl, hsz, hP, hK, hD0, hG⟩ := hv
  have hx := B.exec
  have hb := B.bytes
  have hr := B.returns
  have hts := atoms_spec (ws := z_X_orders) B.pre
  have hown : s.vm.findClass RX7 = some m.cls := findClass_of_methodNamed B.named
  have hlocks := B.notSynchronized
  subst hsz
  have hD := hD0.self (sz := s.heap.size)
  generalize hAe : va_A [(h0, .inr (8, [.ref rp, .int 0, .ref rt, .ref rc, .int ((-1)), .ref r1, .ref r2, .ref r3, .ref r4, .null, .int 0]))] s.heap.size = A at hD hG ⊢
  have hA : ∀ q : Nat, s.heap.size ≤ q → A q := fun q h => by rw [← hAe]; exact Or.inr h
  have hS : va_S A s.heap s.heap [] := va_S.rf
  have hl := lv_entry ([.ref h0]) (n := 1) (Nat.le_of_ble_eq_true rfl)
  rw [lg_entry_eq]
  generalize (lg_sl ([.ref h0]) ++ List.replicate (1 - (lg_sl ([.ref h0])).length) Slot.unset).toArray = ls at hl ⊢
  have hl : lv_has ls 1 [(0, .ref h0)] := hl
  refine lv_aload_n hx hb dX7_orders_0 rfl (lv_at hl 0 rfl) ?_
  have hPc := hP.sub (ws' := [(h0, .inr (8, [.ref rp, .int 0, .ref rt, .ref rc, .int ((-1)), .ref r1, .ref r2, .ref r3, .ref r4, .null, .int 0]))]) [0] rfl
  have hDc := hD.sub (ws' := [(h0, .inr (8, [.ref rp, .int 0, .ref rt, .ref rc, .int ((-1)), .ref r1, .ref r2, .ref r3, .ref r4, .null, .int 0]))]) [0] (by decide) rfl
  have hKc := hK.sub (tys' := []) [] rfl
  have hFc := va_free (wc := [(h0, .inr (8, [.ref rp, .int 0, .ref rt, .ref rc, .int ((-1)), .ref r1, .ref r2, .ref r3, .ref r4, .null, .int 0]))]) hD hS hA [0] rfl
  refine vx_callv (vx_runV (As := []) (rest := []) ⟨hx, hb, hml, hown, hts⟩ (c_cPr l dC dI tp te s.heap.size hlt h0 rp rt rc r1 r2 r3 r4) (cwV 0 hts g_X_orders_1 rfl rfl rfl (by decide +kernel) ⟨Nat.le_of_ble_eq_true rfl, Nat.le_of_ble_eq_true rfl⟩) ⟨Pw.blind, va_recv hKc hPc (ci := 8) (q0 := 0) rfl rfl, Pw.mk hPc hKc hDc hG hS hFc⟩ rfl rfl hl.1 rfl (lv_room (Nat.le_of_ble_eq_true rfl)) dX7_orders_1 ⟨Nat.le_of_ble_eq_true rfl, Nat.le_of_ble_eq_true rfl⟩) hS (fun q _ h => hFc q h) hFc (fun q _ h => hFc q h) (fun E ce q9 u t9 H1 locs ht hvm hpx hBX hz1 hk1 hS hce hcv hcl => ?_) (fun u t9 H_1 locs ht hvm hw hB hz1 hk1 hS => hw.elim)
  have hBX : E = "java/lang/IllegalStateException" := hBX
  subst hBX
  exact vx_out (fun x9 h9 => (htab x9 h9).elim) hlocks hce hcv hcl (fun t9 ht9 _ => ⟨(), trivial, rfl, hS.F ht9⟩) hS.2.2 (Nat.le_of_ble_eq_true rfl) (Nat.le_of_ble_eq_true rfl)

set_option maxRecDepth 20000 in
def z_X_again : List Cond := .code yX7_again cX7_again 1 none :: (([.methodLink RX7 110 yX7_checkProgram, .instanceMethod yX7_checkProgram, .selects RX7 yX7_checkProgram yX7_checkProgram, .initialized RX7, .code yX7_checkProgram cX7_checkProgram 1 none, .fieldLink RX7 24 "Selfkindle" "wrong" "I", .classLink RX7 75 "java/lang/IllegalStateException", .initialized "java/lang/IllegalStateException"] : List Cond) ++ wsX70 ++ (vx_at0 RX7 77 "java/lang/IllegalStateException" ["java/lang/RuntimeException", "java/lang/Exception"]).filter goodWord)
theorem in_z_X_again_X7 : ∀ w ∈ wsX70, w ∈ z_X_again := fun w h => List.mem_cons_of_mem _ (List.mem_append_left _ (List.mem_append_right _ (h)))
set_option maxRecDepth 20000 in
theorem gg_X_again_1 : GoodIn z_X_again z_cPr := goodIn_ca (goodIn_p _ [5] rfl (by decide +kernel)) (goodIn_sub (fun _ h => List.mem_cons_of_mem _ (List.mem_append_right _ (h))) (by decide +kernel))
set_option maxRecDepth 20000 in
theorem g_X_again_1 : GoodIn z_X_again (wsV RX7 110 RX7 yX7_checkProgram z_cPr) := goodIn_app (goodIn_of _ (by decide +kernel)) gg_X_again_1
set_option maxHeartbeats 4000000 in
set_option maxRecDepth 100000 in
theorem c_X_again (l : Launch) (dC : Nat → ClassId) (dI : Nat → Nat → Nat) (tp te : Nat) (sz : Nat) (hlt : l.stackTraces = false) (h0 : Nat) (rp : Nat) (rt : Nat) (rc : Nat) (r1 : Nat) (r2 : Nat) (r3 : Nat) (r4 : Nat)  : vx_Met l yX7_again z_X_again ({ frames := 7, cells := 1, slots := 6, locals := 101 }) (va_Pc [.ref h0] (Pw dC dI [(h0, .inr (8, [.ref rp, .int 0, .ref rt, .ref rc, .int ((-1)), .ref r1, .ref r2, .ref r3, .ref r4, .null, .int 0]))] [] sz tp te)) (va_Qv (fun (_ : Unit) => False) (fun (_ : Unit) (_ : State) => True) (va_A [(h0, .inr (8, [.ref rp, .int 0, .ref rt, .ref rc, .int ((-1)), .ref r1, .ref r2, .ref r3, .ref r4, .null, .int 0]))] sz)) (vx_X (fun (_ : Unit) => True) (fun (E : String) (_ : Unit) (_ : State) => E = "java/lang/IllegalStateException") (va_A [(h0, .inr (8, [.ref rp, .int 0, .ref rt, .ref rc, .int ((-1)), .ref r1, .ref r2, .ref r3, .ref r4, .null, .int 0]))] sz)) 1 6 (va_A [(h0, .inr (8, [.ref rp, .int 0, .ref rt, .ref rc, .int ((-1)), .ref r1, .ref r2, .ref r3, .ref r4, .null, .int 0]))] sz) := by
  refine vx_ofW (cc := cX7_again) (maxL := 1) (ret := none) (by decide) rfl ?_
  intro p e s m args below meth c s₁ B hml htab hv
  obtain ⟨rfl, hsz, hP, hK, hD0, hG⟩ := hv
  have hx := B.exec
  have hb := B.bytes
  have hr := B.returns
  have hts := atoms_spec (ws := z_X_again) B.pre
  have hown : s.vm.findClass RX7 = some m.cls := findClass_of_methodNamed B.named
  have hlocks := B.notSynchronized
  subst hsz
  have hD := hD0.self (sz := s.heap.size)
  generalize hAe : va_A [(h0, .inr (8, [.ref rp, .int 0, .ref rt, .ref rc, .int ((-1)), .ref r1, .ref r2, .ref r3, .ref r4, .null, .int 0]))] s.heap.size = A at hD hG ⊢
  have hA : ∀ q : Nat, s.heap.size ≤ q → A q := fun q h => by rw [← hAe]; exact Or.inr h
  have hS : va_S A s.heap s.heap [] := va_S.rf
  have hl := lv_entry ([.ref h0]) (n := 1) (Nat.le_of_ble_eq_true rfl)
  rw [lg_entry_eq]
  generalize (lg_sl ([.ref h0]) ++ List.replicate (1 - (lg_sl ([.ref h0])).length) Slot.unset).toArray = ls at hl ⊢
  have hl : lv_has ls 1 [(0, .ref h0)] := hl
  refine lv_aload_n hx hb dX7_again_0 rfl (lv_at hl 0 rfl) ?_
  have hPc := hP.sub (ws' := [(h0, .inr (8, [.ref rp, .int 0, .ref rt, .ref rc, .int ((-1)), .ref r1, .ref r2, .ref r3, .ref r4, .null, .int 0]))]) [0] rfl
  have hDc := hD.sub (ws' := [(h0, .inr (8, [.ref rp, .int 0, .ref rt, .ref rc, .int ((-1)), .ref r1, .ref r2, .ref r3, .ref r4, .null, .int 0]))]) [0] (by decide) rfl
  have hKc := hK.sub (tys' := []) [] rfl
  have hFc := va_free (wc := [(h0, .inr (8, [.ref rp, .int 0, .ref rt, .ref rc, .int ((-1)), .ref r1, .ref r2, .ref r3, .ref r4, .null, .int 0]))]) hD hS hA [0] rfl
  refine vx_callv (vx_runV (As := []) (rest := []) ⟨hx, hb, hml, hown, hts⟩ (c_cPr l dC dI tp te s.heap.size hlt h0 rp rt rc r1 r2 r3 r4) (cwV 0 hts g_X_again_1 rfl rfl rfl (by decide +kernel) ⟨Nat.le_of_ble_eq_true rfl, Nat.le_of_ble_eq_true rfl⟩) ⟨Pw.blind, va_recv hKc hPc (ci := 8) (q0 := 0) rfl rfl, Pw.mk hPc hKc hDc hG hS hFc⟩ rfl rfl hl.1 rfl (lv_room (Nat.le_of_ble_eq_true rfl)) dX7_again_1 ⟨Nat.le_of_ble_eq_true rfl, Nat.le_of_ble_eq_true rfl⟩) hS (fun q _ h => hFc q h) hFc (fun q _ h => hFc q h) (fun E ce q9 u t9 H1 locs ht hvm hpx hBX hz1 hk1 hS hce hcv hcl => ?_) (fun u t9 H_1 locs ht hvm hw hB hz1 hk1 hS => hw.elim)
  have hBX : E = "java/lang/IllegalStateException" := hBX
  subst hBX
  exact vx_out (fun x9 h9 => (htab x9 h9).elim) hlocks hce hcv hcl (fun t9 ht9 _ => ⟨(), trivial, rfl, hS.F ht9⟩) hS.2.2 (Nat.le_of_ble_eq_true rfl) (Nat.le_of_ble_eq_true rfl)

set_option maxRecDepth 20000 in
def z_X_state : List Cond := .code yX7_state cX7_state 1 (some .int) :: (([.methodLink RX7 110 yX7_checkProgram, .instanceMethod yX7_checkProgram, .selects RX7 yX7_checkProgram yX7_checkProgram, .initialized RX7, .code yX7_checkProgram cX7_checkProgram 1 none, .fieldLink RX7 24 "Selfkindle" "wrong" "I", .classLink RX7 75 "java/lang/IllegalStateException", .initialized "java/lang/IllegalStateException"] : List Cond) ++ wsX70 ++ (vx_at0 RX7 77 "java/lang/IllegalStateException" ["java/lang/RuntimeException", "java/lang/Exception"]).filter goodWord)
theorem in_z_X_state_X7 : ∀ w ∈ wsX70, w ∈ z_X_state := fun w h => List.mem_cons_of_mem _ (List.mem_append_left _ (List.mem_append_right _ (h)))
set_option maxRecDepth 20000 in
theorem gg_X_state_1 : GoodIn z_X_state z_cPr := goodIn_ca (goodIn_p _ [5] rfl (by decide +kernel)) (goodIn_sub (fun _ h => List.mem_cons_of_mem _ (List.mem_append_right _ (h))) (by decide +kernel))
set_option maxRecDepth 20000 in
theorem g_X_state_1 : GoodIn z_X_state (wsV RX7 110 RX7 yX7_checkProgram z_cPr) := goodIn_app (goodIn_of _ (by decide +kernel)) gg_X_state_1
set_option maxHeartbeats 4000000 in
set_option maxRecDepth 100000 in
theorem c_X_state (l : Launch) (dC : Nat → ClassId) (dI : Nat → Nat → Nat) (tp te : Nat) (sz : Nat) (hlt : l.stackTraces = false) (h0 : Nat) (rp : Nat) (rt : Nat) (rc : Nat) (r1 : Nat) (r2 : Nat) (r3 : Nat) (r4 : Nat)  : vx_Met l yX7_state z_X_state ({ frames := 7, cells := 1, slots := 6, locals := 101 }) (va_Pc [.ref h0] (Pw dC dI [(h0, .inr (8, [.ref rp, .int 0, .ref rt, .ref rc, .int ((-1)), .ref r1, .ref r2, .ref r3, .ref r4, .null, .int 0]))] [] sz tp te)) (va_Qi (fun (r : Int32) (_ : Unit) => False) (fun (_ : Unit) (_ : State) => True) (va_A [(h0, .inr (8, [.ref rp, .int 0, .ref rt, .ref rc, .int ((-1)), .ref r1, .ref r2, .ref r3, .ref r4, .null, .int 0]))] sz)) (vx_X (fun (_ : Unit) => True) (fun (E : String) (_ : Unit) (_ : State) => E = "java/lang/IllegalStateException") (va_A [(h0, .inr (8, [.ref rp, .int 0, .ref rt, .ref rc, .int ((-1)), .ref r1, .ref r2, .ref r3, .ref r4, .null, .int 0]))] sz)) 1 6 (va_A [(h0, .inr (8, [.ref rp, .int 0, .ref rt, .ref rc, .int ((-1)), .ref r1, .ref r2, .ref r3, .ref r4, .null, .int 0]))] sz) := by
  refine vx_ofW (cc := cX7_state) (maxL := 1) (ret := (some .int)) (by decide) rfl ?_
  intro p e s m args below meth c s₁ B hml htab hv
  obtain ⟨rfl, hsz, hP, hK, hD0, hG⟩ := hv
  have hx := B.exec
  have hb := B.bytes
  have hr := B.returns
  have hts := atoms_spec (ws := z_X_state) B.pre
  have hown : s.vm.findClass RX7 = some m.cls := findClass_of_methodNamed B.named
  have hlocks := B.notSynchronized
  subst hsz
  have hD := hD0.self (sz := s.heap.size)
  generalize hAe : va_A [(h0, .inr (8, [.ref rp, .int 0, .ref rt, .ref rc, .int ((-1)), .ref r1, .ref r2, .ref r3, .ref r4, .null, .int 0]))] s.heap.size = A at hD hG ⊢
  have hA : ∀ q : Nat, s.heap.size ≤ q → A q := fun q h => by rw [← hAe]; exact Or.inr h
  have hS : va_S A s.heap s.heap [] := va_S.rf
  have hl := lv_entry ([.ref h0]) (n := 1) (Nat.le_of_ble_eq_true rfl)
  rw [lg_entry_eq]
  generalize (lg_sl ([.ref h0]) ++ List.replicate (1 - (lg_sl ([.ref h0])).length) Slot.unset).toArray = ls at hl ⊢
  have hl : lv_has ls 1 [(0, .ref h0)] := hl
  refine lv_aload_n hx hb dX7_state_0 rfl (lv_at hl 0 rfl) ?_
  have hPc := hP.sub (ws' := [(h0, .inr (8, [.ref rp, .int 0, .ref rt, .ref rc, .int ((-1)), .ref r1, .ref r2, .ref r3, .ref r4, .null, .int 0]))]) [0] rfl
  have hDc := hD.sub (ws' := [(h0, .inr (8, [.ref rp, .int 0, .ref rt, .ref rc, .int ((-1)), .ref r1, .ref r2, .ref r3, .ref r4, .null, .int 0]))]) [0] (by decide) rfl
  have hKc := hK.sub (tys' := []) [] rfl
  have hFc := va_free (wc := [(h0, .inr (8, [.ref rp, .int 0, .ref rt, .ref rc, .int ((-1)), .ref r1, .ref r2, .ref r3, .ref r4, .null, .int 0]))]) hD hS hA [0] rfl
  refine vx_callv (vx_runV (As := []) (rest := []) ⟨hx, hb, hml, hown, hts⟩ (c_cPr l dC dI tp te s.heap.size hlt h0 rp rt rc r1 r2 r3 r4) (cwV 0 hts g_X_state_1 rfl rfl rfl (by decide +kernel) ⟨Nat.le_of_ble_eq_true rfl, Nat.le_of_ble_eq_true rfl⟩) ⟨Pw.blind, va_recv hKc hPc (ci := 8) (q0 := 0) rfl rfl, Pw.mk hPc hKc hDc hG hS hFc⟩ rfl rfl hl.1 rfl (lv_room (Nat.le_of_ble_eq_true rfl)) dX7_state_1 ⟨Nat.le_of_ble_eq_true rfl, Nat.le_of_ble_eq_true rfl⟩) hS (fun q _ h => hFc q h) hFc (fun q _ h => hFc q h) (fun E ce q9 u t9 H1 locs ht hvm hpx hBX hz1 hk1 hS hce hcv hcl => ?_) (fun u t9 H_1 locs ht hvm hw hB hz1 hk1 hS => hw.elim)
  have hBX : E = "java/lang/IllegalStateException" := hBX
  subst hBX
  exact vx_out (fun x9 h9 => (htab x9 h9).elim) hlocks hce hcv hcl (fun t9 ht9 _ => ⟨(), trivial, rfl, hS.F ht9⟩) hS.2.2 (Nat.le_of_ble_eq_true rfl) (Nat.le_of_ble_eq_true rfl)

set_option maxRecDepth 20000 in
def z_X_value : List Cond := .code yX7_value cX7_value 1 (some .long) :: (([.methodLink RX7 110 yX7_checkProgram, .instanceMethod yX7_checkProgram, .selects RX7 yX7_checkProgram yX7_checkProgram, .initialized RX7, .code yX7_checkProgram cX7_checkProgram 1 none, .fieldLink RX7 24 "Selfkindle" "wrong" "I", .classLink RX7 75 "java/lang/IllegalStateException", .initialized "java/lang/IllegalStateException"] : List Cond) ++ wsX70 ++ (vx_at0 RX7 77 "java/lang/IllegalStateException" ["java/lang/RuntimeException", "java/lang/Exception"]).filter goodWord)
theorem in_z_X_value_X7 : ∀ w ∈ wsX70, w ∈ z_X_value := fun w h => List.mem_cons_of_mem _ (List.mem_append_left _ (List.mem_append_right _ (h)))
set_option maxRecDepth 20000 in
theorem gg_X_value_1 : GoodIn z_X_value z_cPr := goodIn_ca (goodIn_p _ [5] rfl (by decide +kernel)) (goodIn_sub (fun _ h => List.mem_cons_of_mem _ (List.mem_append_right _ (h))) (by decide +kernel))
set_option maxRecDepth 20000 in
theorem g_X_value_1 : GoodIn z_X_value (wsV RX7 110 RX7 yX7_checkProgram z_cPr) := goodIn_app (goodIn_of _ (by decide +kernel)) gg_X_value_1
set_option maxHeartbeats 4000000 in
set_option maxRecDepth 100000 in
theorem c_X_value (l : Launch) (dC : Nat → ClassId) (dI : Nat → Nat → Nat) (tp te : Nat) (sz : Nat) (hlt : l.stackTraces = false) (h0 : Nat) (rp : Nat) (rt : Nat) (rc : Nat) (r1 : Nat) (r2 : Nat) (r3 : Nat) (r4 : Nat)  : vx_Met l yX7_value z_X_value ({ frames := 7, cells := 1, slots := 6, locals := 101 }) (va_Pc [.ref h0] (Pw dC dI [(h0, .inr (8, [.ref rp, .int 0, .ref rt, .ref rc, .int ((-1)), .ref r1, .ref r2, .ref r3, .ref r4, .null, .int 0]))] [] sz tp te)) (va_Ql (fun (r : Int64) (_ : Unit) => False) (fun (_ : Unit) (_ : State) => True) (va_A [(h0, .inr (8, [.ref rp, .int 0, .ref rt, .ref rc, .int ((-1)), .ref r1, .ref r2, .ref r3, .ref r4, .null, .int 0]))] sz)) (vx_X (fun (_ : Unit) => True) (fun (E : String) (_ : Unit) (_ : State) => E = "java/lang/IllegalStateException") (va_A [(h0, .inr (8, [.ref rp, .int 0, .ref rt, .ref rc, .int ((-1)), .ref r1, .ref r2, .ref r3, .ref r4, .null, .int 0]))] sz)) 1 6 (va_A [(h0, .inr (8, [.ref rp, .int 0, .ref rt, .ref rc, .int ((-1)), .ref r1, .ref r2, .ref r3, .ref r4, .null, .int 0]))] sz) := by
  refine vx_ofW (cc := cX7_value) (maxL := 1) (ret := (some .long)) (by decide) rfl ?_
  intro p e s m args below meth c s₁ B hml htab hv
  obtain ⟨rfl, hsz, hP, hK, hD0, hG⟩ := hv
  have hx := B.exec
  have hb := B.bytes
  have hr := B.returns
  have hts := atoms_spec (ws := z_X_value) B.pre
  have hown : s.vm.findClass RX7 = some m.cls := findClass_of_methodNamed B.named
  have hlocks := B.notSynchronized
  subst hsz
  have hD := hD0.self (sz := s.heap.size)
  generalize hAe : va_A [(h0, .inr (8, [.ref rp, .int 0, .ref rt, .ref rc, .int ((-1)), .ref r1, .ref r2, .ref r3, .ref r4, .null, .int 0]))] s.heap.size = A at hD hG ⊢
  have hA : ∀ q : Nat, s.heap.size ≤ q → A q := fun q h => by rw [← hAe]; exact Or.inr h
  have hS : va_S A s.heap s.heap [] := va_S.rf
  have hl := lv_entry ([.ref h0]) (n := 1) (Nat.le_of_ble_eq_true rfl)
  rw [lg_entry_eq]
  generalize (lg_sl ([.ref h0]) ++ List.replicate (1 - (lg_sl ([.ref h0])).length) Slot.unset).toArray = ls at hl ⊢
  have hl : lv_has ls 1 [(0, .ref h0)] := hl
  refine lv_aload_n hx hb dX7_value_0 rfl (lv_at hl 0 rfl) ?_
  have hPc := hP.sub (ws' := [(h0, .inr (8, [.ref rp, .int 0, .ref rt, .ref rc, .int ((-1)), .ref r1, .ref r2, .ref r3, .ref r4, .null, .int 0]))]) [0] rfl
  have hDc := hD.sub (ws' := [(h0, .inr (8, [.ref rp, .int 0, .ref rt, .ref rc, .int ((-1)), .ref r1, .ref r2, .ref r3, .ref r4, .null, .int 0]))]) [0] (by decide) rfl
  have hKc := hK.sub (tys' := []) [] rfl
  have hFc := va_free (wc := [(h0, .inr (8, [.ref rp, .int 0, .ref rt, .ref rc, .int ((-1)), .ref r1, .ref r2, .ref r3, .ref r4, .null, .int 0]))]) hD hS hA [0] rfl
  refine vx_callv (vx_runV (As := []) (rest := []) ⟨hx, hb, hml, hown, hts⟩ (c_cPr l dC dI tp te s.heap.size hlt h0 rp rt rc r1 r2 r3 r4) (cwV 0 hts g_X_value_1 rfl rfl rfl (by decide +kernel) ⟨Nat.le_of_ble_eq_true rfl, Nat.le_of_ble_eq_true rfl⟩) ⟨Pw.blind, va_recv hKc hPc (ci := 8) (q0 := 0) rfl rfl, Pw.mk hPc hKc hDc hG hS hFc⟩ rfl rfl hl.1 rfl (lv_room (Nat.le_of_ble_eq_true rfl)) dX7_value_1 ⟨Nat.le_of_ble_eq_true rfl, Nat.le_of_ble_eq_true rfl⟩) hS (fun q _ h => hFc q h) hFc (fun q _ h => hFc q h) (fun E ce q9 u t9 H1 locs ht hvm hpx hBX hz1 hk1 hS hce hcv hcl => ?_) (fun u t9 H_1 locs ht hvm hw hB hz1 hk1 hS => hw.elim)
  have hBX : E = "java/lang/IllegalStateException" := hBX
  subst hBX
  exact vx_out (fun x9 h9 => (htab x9 h9).elim) hlocks hce hcv hcl (fun t9 ht9 _ => ⟨(), trivial, rfl, hS.F ht9⟩) hS.2.2 (Nat.le_of_ble_eq_true rfl) (Nat.le_of_ble_eq_true rfl)

set_option maxRecDepth 20000 in
def z_X_stateAnew : List Cond := .code yX7_stateAnew cX7_stateAnew 1 (some .int) :: (([.methodLink RX7 110 yX7_checkProgram, .instanceMethod yX7_checkProgram, .selects RX7 yX7_checkProgram yX7_checkProgram, .initialized RX7, .code yX7_checkProgram cX7_checkProgram 1 none, .fieldLink RX7 24 "Selfkindle" "wrong" "I", .classLink RX7 75 "java/lang/IllegalStateException", .initialized "java/lang/IllegalStateException"] : List Cond) ++ wsX70 ++ (vx_at0 RX7 77 "java/lang/IllegalStateException" ["java/lang/RuntimeException", "java/lang/Exception"]).filter goodWord)
theorem in_z_X_stateAnew_X7 : ∀ w ∈ wsX70, w ∈ z_X_stateAnew := fun w h => List.mem_cons_of_mem _ (List.mem_append_left _ (List.mem_append_right _ (h)))
set_option maxRecDepth 20000 in
theorem gg_X_stateAnew_1 : GoodIn z_X_stateAnew z_cPr := goodIn_ca (goodIn_p _ [5] rfl (by decide +kernel)) (goodIn_sub (fun _ h => List.mem_cons_of_mem _ (List.mem_append_right _ (h))) (by decide +kernel))
set_option maxRecDepth 20000 in
theorem g_X_stateAnew_1 : GoodIn z_X_stateAnew (wsV RX7 110 RX7 yX7_checkProgram z_cPr) := goodIn_app (goodIn_of _ (by decide +kernel)) gg_X_stateAnew_1
set_option maxHeartbeats 4000000 in
set_option maxRecDepth 100000 in
theorem c_X_stateAnew (l : Launch) (dC : Nat → ClassId) (dI : Nat → Nat → Nat) (tp te : Nat) (sz : Nat) (hlt : l.stackTraces = false) (h0 : Nat) (rp : Nat) (rt : Nat) (rc : Nat) (r1 : Nat) (r2 : Nat) (r3 : Nat) (r4 : Nat)  : vx_Met l yX7_stateAnew z_X_stateAnew ({ frames := 7, cells := 1, slots := 6, locals := 101 }) (va_Pc [.ref h0] (Pw dC dI [(h0, .inr (8, [.ref rp, .int 0, .ref rt, .ref rc, .int ((-1)), .ref r1, .ref r2, .ref r3, .ref r4, .null, .int 0]))] [] sz tp te)) (va_Qi (fun (r : Int32) (_ : Unit) => False) (fun (_ : Unit) (_ : State) => True) (va_A [(h0, .inr (8, [.ref rp, .int 0, .ref rt, .ref rc, .int ((-1)), .ref r1, .ref r2, .ref r3, .ref r4, .null, .int 0]))] sz)) (vx_X (fun (_ : Unit) => True) (fun (E : String) (_ : Unit) (_ : State) => E = "java/lang/IllegalStateException") (va_A [(h0, .inr (8, [.ref rp, .int 0, .ref rt, .ref rc, .int ((-1)), .ref r1, .ref r2, .ref r3, .ref r4, .null, .int 0]))] sz)) 1 6 (va_A [(h0, .inr (8, [.ref rp, .int 0, .ref rt, .ref rc, .int ((-1)), .ref r1, .ref r2, .ref r3, .ref r4, .null, .int 0]))] sz) := by
  refine vx_ofW (cc := cX7_stateAnew) (maxL := 1) (ret := (some .int)) (by decide) rfl ?_
  intro p e s m args below meth c s₁ B hml htab hv
  obtain ⟨rfl, hsz, hP, hK, hD0, hG⟩ := hv
  have hx := B.exec
  have hb := B.bytes
  have hr := B.returns
  have hts := atoms_spec (ws := z_X_stateAnew) B.pre
  have hown : s.vm.findClass RX7 = some m.cls := findClass_of_methodNamed B.named
  have hlocks := B.notSynchronized
  subst hsz
  have hD := hD0.self (sz := s.heap.size)
  generalize hAe : va_A [(h0, .inr (8, [.ref rp, .int 0, .ref rt, .ref rc, .int ((-1)), .ref r1, .ref r2, .ref r3, .ref r4, .null, .int 0]))] s.heap.size = A at hD hG ⊢
  have hA : ∀ q : Nat, s.heap.size ≤ q → A q := fun q h => by rw [← hAe]; exact Or.inr h
  have hS : va_S A s.heap s.heap [] := va_S.rf
  have hl := lv_entry ([.ref h0]) (n := 1) (Nat.le_of_ble_eq_true rfl)
  rw [lg_entry_eq]
  generalize (lg_sl ([.ref h0]) ++ List.replicate (1 - (lg_sl ([.ref h0])).length) Slot.unset).toArray = ls at hl ⊢
  have hl : lv_has ls 1 [(0, .ref h0)] := hl
  refine lv_aload_n hx hb dX7_stateAnew_0 rfl (lv_at hl 0 rfl) ?_
  have hPc := hP.sub (ws' := [(h0, .inr (8, [.ref rp, .int 0, .ref rt, .ref rc, .int ((-1)), .ref r1, .ref r2, .ref r3, .ref r4, .null, .int 0]))]) [0] rfl
  have hDc := hD.sub (ws' := [(h0, .inr (8, [.ref rp, .int 0, .ref rt, .ref rc, .int ((-1)), .ref r1, .ref r2, .ref r3, .ref r4, .null, .int 0]))]) [0] (by decide) rfl
  have hKc := hK.sub (tys' := []) [] rfl
  have hFc := va_free (wc := [(h0, .inr (8, [.ref rp, .int 0, .ref rt, .ref rc, .int ((-1)), .ref r1, .ref r2, .ref r3, .ref r4, .null, .int 0]))]) hD hS hA [0] rfl
  refine vx_callv (vx_runV (As := []) (rest := []) ⟨hx, hb, hml, hown, hts⟩ (c_cPr l dC dI tp te s.heap.size hlt h0 rp rt rc r1 r2 r3 r4) (cwV 0 hts g_X_stateAnew_1 rfl rfl rfl (by decide +kernel) ⟨Nat.le_of_ble_eq_true rfl, Nat.le_of_ble_eq_true rfl⟩) ⟨Pw.blind, va_recv hKc hPc (ci := 8) (q0 := 0) rfl rfl, Pw.mk hPc hKc hDc hG hS hFc⟩ rfl rfl hl.1 rfl (lv_room (Nat.le_of_ble_eq_true rfl)) dX7_stateAnew_1 ⟨Nat.le_of_ble_eq_true rfl, Nat.le_of_ble_eq_true rfl⟩) hS (fun q _ h => hFc q h) hFc (fun q _ h => hFc q h) (fun E ce q9 u t9 H1 locs ht hvm hpx hBX hz1 hk1 hS hce hcv hcl => ?_) (fun u t9 H_1 locs ht hvm hw hB hz1 hk1 hS => hw.elim)
  have hBX : E = "java/lang/IllegalStateException" := hBX
  subst hBX
  exact vx_out (fun x9 h9 => (htab x9 h9).elim) hlocks hce hcv hcl (fun t9 ht9 _ => ⟨(), trivial, rfl, hS.F ht9⟩) hS.2.2 (Nat.le_of_ble_eq_true rfl) (Nat.le_of_ble_eq_true rfl)

set_option maxRecDepth 20000 in
def z_X_valueAnew : List Cond := .code yX7_valueAnew cX7_valueAnew 2 (some .long) :: (([.methodLink RX7 110 yX7_checkProgram, .instanceMethod yX7_checkProgram, .selects RX7 yX7_checkProgram yX7_checkProgram, .initialized RX7, .code yX7_checkProgram cX7_checkProgram 1 none, .fieldLink RX7 24 "Selfkindle" "wrong" "I", .classLink RX7 75 "java/lang/IllegalStateException", .initialized "java/lang/IllegalStateException"] : List Cond) ++ wsX70 ++ (vx_at0 RX7 77 "java/lang/IllegalStateException" ["java/lang/RuntimeException", "java/lang/Exception"]).filter goodWord)
theorem in_z_X_valueAnew_X7 : ∀ w ∈ wsX70, w ∈ z_X_valueAnew := fun w h => List.mem_cons_of_mem _ (List.mem_append_left _ (List.mem_append_right _ (h)))
set_option maxRecDepth 20000 in
theorem gg_X_valueAnew_1 : GoodIn z_X_valueAnew z_cPr := goodIn_ca (goodIn_p _ [5] rfl (by decide +kernel)) (goodIn_sub (fun _ h => List.mem_cons_of_mem _ (List.mem_append_right _ (h))) (by decide +kernel))
set_option maxRecDepth 20000 in
theorem g_X_valueAnew_1 : GoodIn z_X_valueAnew (wsV RX7 110 RX7 yX7_checkProgram z_cPr) := goodIn_app (goodIn_of _ (by decide +kernel)) gg_X_valueAnew_1
set_option maxHeartbeats 4000000 in
set_option maxRecDepth 100000 in
theorem c_X_valueAnew (l : Launch) (dC : Nat → ClassId) (dI : Nat → Nat → Nat) (tp te : Nat) (sz : Nat) (hlt : l.stackTraces = false) (h0 : Nat) (rp : Nat) (rt : Nat) (rc : Nat) (r1 : Nat) (r2 : Nat) (r3 : Nat) (r4 : Nat)  : vx_Met l yX7_valueAnew z_X_valueAnew ({ frames := 7, cells := 1, slots := 6, locals := 101 }) (va_Pc [.ref h0] (Pw dC dI [(h0, .inr (8, [.ref rp, .int 0, .ref rt, .ref rc, .int ((-1)), .ref r1, .ref r2, .ref r3, .ref r4, .null, .int 0]))] [] sz tp te)) (va_Ql (fun (r : Int64) (_ : Unit) => False) (fun (_ : Unit) (_ : State) => True) (va_A [(h0, .inr (8, [.ref rp, .int 0, .ref rt, .ref rc, .int ((-1)), .ref r1, .ref r2, .ref r3, .ref r4, .null, .int 0]))] sz)) (vx_X (fun (_ : Unit) => True) (fun (E : String) (_ : Unit) (_ : State) => E = "java/lang/IllegalStateException") (va_A [(h0, .inr (8, [.ref rp, .int 0, .ref rt, .ref rc, .int ((-1)), .ref r1, .ref r2, .ref r3, .ref r4, .null, .int 0]))] sz)) 1 6 (va_A [(h0, .inr (8, [.ref rp, .int 0, .ref rt, .ref rc, .int ((-1)), .ref r1, .ref r2, .ref r3, .ref r4, .null, .int 0]))] sz) := by
  refine vx_ofW (cc := cX7_valueAnew) (maxL := 2) (ret := (some .long)) (by decide) rfl ?_
  intro p e s m args below meth c s₁ B hml htab hv
  obtain ⟨rfl, hsz, hP, hK, hD0, hG⟩ := hv
  have hx := B.exec
  have hb := B.bytes
  have hr := B.returns
  have hts := atoms_spec (ws := z_X_valueAnew) B.pre
  have hown : s.vm.findClass RX7 = some m.cls := findClass_of_methodNamed B.named
  have hlocks := B.notSynchronized
  subst hsz
  have hD := hD0.self (sz := s.heap.size)
  generalize hAe : va_A [(h0, .inr (8, [.ref rp, .int 0, .ref rt, .ref rc, .int ((-1)), .ref r1, .ref r2, .ref r3, .ref r4, .null, .int 0]))] s.heap.size = A at hD hG ⊢
  have hA : ∀ q : Nat, s.heap.size ≤ q → A q := fun q h => by rw [← hAe]; exact Or.inr h
  have hS : va_S A s.heap s.heap [] := va_S.rf
  have hl := lv_entry ([.ref h0]) (n := 2) (Nat.le_of_ble_eq_true rfl)
  rw [lg_entry_eq]
  generalize (lg_sl ([.ref h0]) ++ List.replicate (2 - (lg_sl ([.ref h0])).length) Slot.unset).toArray = ls at hl ⊢
  have hl : lv_has ls 2 [(0, .ref h0)] := hl
  refine lv_aload_n hx hb dX7_valueAnew_0 rfl (lv_at hl 0 rfl) ?_
  have hPc := hP.sub (ws' := [(h0, .inr (8, [.ref rp, .int 0, .ref rt, .ref rc, .int ((-1)), .ref r1, .ref r2, .ref r3, .ref r4, .null, .int 0]))]) [0] rfl
  have hDc := hD.sub (ws' := [(h0, .inr (8, [.ref rp, .int 0, .ref rt, .ref rc, .int ((-1)), .ref r1, .ref r2, .ref r3, .ref r4, .null, .int 0]))]) [0] (by decide) rfl
  have hKc := hK.sub (tys' := []) [] rfl
  have hFc := va_free (wc := [(h0, .inr (8, [.ref rp, .int 0, .ref rt, .ref rc, .int ((-1)), .ref r1, .ref r2, .ref r3, .ref r4, .null, .int 0]))]) hD hS hA [0] rfl
  refine vx_callv (vx_runV (As := []) (rest := []) ⟨hx, hb, hml, hown, hts⟩ (c_cPr l dC dI tp te s.heap.size hlt h0 rp rt rc r1 r2 r3 r4) (cwV 0 hts g_X_valueAnew_1 rfl rfl rfl (by decide +kernel) ⟨Nat.le_of_ble_eq_true rfl, Nat.le_of_ble_eq_true rfl⟩) ⟨Pw.blind, va_recv hKc hPc (ci := 8) (q0 := 0) rfl rfl, Pw.mk hPc hKc hDc hG hS hFc⟩ rfl rfl hl.1 rfl (lv_room (Nat.le_of_ble_eq_true rfl)) dX7_valueAnew_1 ⟨Nat.le_of_ble_eq_true rfl, Nat.le_of_ble_eq_true rfl⟩) hS (fun q _ h => hFc q h) hFc (fun q _ h => hFc q h) (fun E ce q9 u t9 H1 locs ht hvm hpx hBX hz1 hk1 hS hce hcv hcl => ?_) (fun u t9 H_1 locs ht hvm hw hB hz1 hk1 hS => hw.elim)
  have hBX : E = "java/lang/IllegalStateException" := hBX
  subst hBX
  exact vx_out (fun x9 h9 => (htab x9 h9).elim) hlocks hce hcv hcl (fun t9 ht9 _ => ⟨(), trivial, rfl, hS.F ht9⟩) hS.2.2 (Nat.le_of_ble_eq_true rfl) (Nat.le_of_ble_eq_true rfl)

set_option maxRecDepth 20000 in
def z_X_order : List Cond := .code yX7_order cX7_order 3 (some .long) :: (([.methodLink RX7 121 yX7_checkOrder, .instanceMethod yX7_checkOrder, .selects RX7 yX7_checkOrder yX7_checkOrder, .initialized RX7, .code yX7_checkOrder cX7_checkOrder 2 none, .fieldLink RX7 24 "Selfkindle" "wrong" "I", .classLink RX7 107 "java/lang/IndexOutOfBoundsException", .initialized "java/lang/IndexOutOfBoundsException"] : List Cond) ++ wsX70 ++ (vx_at0 RX7 109 "java/lang/IndexOutOfBoundsException" ["java/lang/RuntimeException", "java/lang/Exception"]).filter goodWord)
theorem in_z_X_order_X7 : ∀ w ∈ wsX70, w ∈ z_X_order := fun w h => List.mem_cons_of_mem _ (List.mem_append_left _ (List.mem_append_right _ (h)))
set_option maxRecDepth 20000 in
theorem gg_X_order_2 : GoodIn z_X_order z_cOr := goodIn_ca (goodIn_p _ [5] rfl (by decide +kernel)) (goodIn_sub (fun _ h => List.mem_cons_of_mem _ (List.mem_append_right _ (h))) (by decide +kernel))
set_option maxRecDepth 20000 in
theorem g_X_order_2 : GoodIn z_X_order (wsV RX7 121 RX7 yX7_checkOrder z_cOr) := goodIn_app (goodIn_of _ (by decide +kernel)) gg_X_order_2
set_option maxHeartbeats 4000000 in
set_option maxRecDepth 100000 in
theorem c_X_order (l : Launch) (dC : Nat → ClassId) (dI : Nat → Nat → Nat) (tp te : Nat) (sz : Nat) (hlt : l.stackTraces = false) (h0 : Nat) (rp : Nat) (rt : Nat) (rc : Nat) (r1 : Nat) (r2 : Nat) (r3 : Nat) (r4 : Nat) (p0 : Int32) (p1 : Int32)  : vx_Met l yX7_order z_X_order ({ frames := 7, cells := 1, slots := 6, locals := 102 }) (va_Pc [.ref h0, .int p0, .int p1] (Pw dC dI [(h0, .inr (8, [.ref rp, .int 0, .ref rt, .ref rc, .int ((-1)), .ref r1, .ref r2, .ref r3, .ref r4, .null, .int 0]))] [] sz tp te)) (va_Ql (fun (r : Int64) (_ : Unit) => False) (fun (_ : Unit) (_ : State) => True) (va_A [(h0, .inr (8, [.ref rp, .int 0, .ref rt, .ref rc, .int ((-1)), .ref r1, .ref r2, .ref r3, .ref r4, .null, .int 0]))] sz)) (vx_X (fun (_ : Unit) => True) (fun (E : String) (_ : Unit) (_ : State) => E = "java/lang/IndexOutOfBoundsException") (va_A [(h0, .inr (8, [.ref rp, .int 0, .ref rt, .ref rc, .int ((-1)), .ref r1, .ref r2, .ref r3, .ref r4, .null, .int 0]))] sz)) 1 6 (va_A [(h0, .inr (8, [.ref rp, .int 0, .ref rt, .ref rc, .int ((-1)), .ref r1, .ref r2, .ref r3, .ref r4, .null, .int 0]))] sz) := by
  refine vx_ofW (cc := cX7_order) (maxL := 3) (ret := (some .long)) (by decide) rfl ?_
  intro p e s m args below meth c s₁ B hml htab hv
  obtain ⟨rfl, hsz, hP, hK, hD0, hG⟩ := hv
  have hx := B.exec
  have hb := B.bytes
  have hr := B.returns
  have hts := atoms_spec (ws := z_X_order) B.pre
  have hown : s.vm.findClass RX7 = some m.cls := findClass_of_methodNamed B.named
  have hlocks := B.notSynchronized
  subst hsz
  have hD := hD0.self (sz := s.heap.size)
  generalize hAe : va_A [(h0, .inr (8, [.ref rp, .int 0, .ref rt, .ref rc, .int ((-1)), .ref r1, .ref r2, .ref r3, .ref r4, .null, .int 0]))] s.heap.size = A at hD hG ⊢
  have hA : ∀ q : Nat, s.heap.size ≤ q → A q := fun q h => by rw [← hAe]; exact Or.inr h
  have hS : va_S A s.heap s.heap [] := va_S.rf
  have hl := lv_entry ([.ref h0, .int p0, .int p1]) (n := 3) (Nat.le_of_ble_eq_true rfl)
  rw [lg_entry_eq]
  generalize (lg_sl ([.ref h0, .int p0, .int p1]) ++ List.replicate (3 - (lg_sl ([.ref h0, .int p0, .int p1])).length) Slot.unset).toArray = ls at hl ⊢
  have hl : lv_has ls 3 [(0, .ref h0), (1, .int p0), (2, .int p1)] := hl
  refine lv_aload_n hx hb dX7_order_0 rfl (lv_at hl 0 rfl) ?_
  refine lv_iload_n hx hb dX7_order_1 rfl (lv_at hl 1 rfl) ?_
  have hPc := hP.sub (ws' := [(h0, .inr (8, [.ref rp, .int 0, .ref rt, .ref rc, .int ((-1)), .ref r1, .ref r2, .ref r3, .ref r4, .null, .int 0]))]) [0] rfl
  have hDc := hD.sub (ws' := [(h0, .inr (8, [.ref rp, .int 0, .ref rt, .ref rc, .int ((-1)), .ref r1, .ref r2, .ref r3, .ref r4, .null, .int 0]))]) [0] (by decide) rfl
  have hKc := hK.sub (tys' := []) [] rfl
  have hFc := va_free (wc := [(h0, .inr (8, [.ref rp, .int 0, .ref rt, .ref rc, .int ((-1)), .ref r1, .ref r2, .ref r3, .ref r4, .null, .int 0]))]) hD hS hA [0] rfl
  refine vx_callv (vx_runV (As := [.int p0]) (rest := []) ⟨hx, hb, hml, hown, hts⟩ (c_cOr l dC dI tp te s.heap.size hlt h0 rp rt rc r1 r2 r3 r4 p0) (cwV 1 hts g_X_order_2 rfl rfl rfl (by decide +kernel) ⟨Nat.le_of_ble_eq_true rfl, Nat.le_of_ble_eq_true rfl⟩) ⟨Pw.blind, va_recv hKc hPc (ci := 8) (q0 := 0) rfl rfl, Pw.mk hPc hKc hDc hG hS hFc⟩ rfl rfl hl.1 rfl (lv_room (Nat.le_of_ble_eq_true rfl)) dX7_order_2 ⟨Nat.le_of_ble_eq_true rfl, Nat.le_of_ble_eq_true rfl⟩) hS (fun q _ h => hFc q h) hFc (fun q _ h => hFc q h) (fun E ce q9 u t9 H1 locs ht hvm hpx hBX hz1 hk1 hS hce hcv hcl => ?_) (fun u t9 H_1 locs ht hvm hw hB hz1 hk1 hS => hw.elim)
  have hBX : E = "java/lang/IndexOutOfBoundsException" := hBX
  subst hBX
  exact vx_out (fun x9 h9 => (htab x9 h9).elim) hlocks hce hcv hcl (fun t9 ht9 _ => ⟨(), trivial, rfl, hS.F ht9⟩) hS.2.2 (Nat.le_of_ble_eq_true rfl) (Nat.le_of_ble_eq_true rfl)

set_option maxRecDepth 20000 in
def z_X_stop : List Cond := .code yX7_stop cX7_stop 4 (some .boolean) :: (([.methodLink RX7 121 yX7_checkOrder, .instanceMethod yX7_checkOrder, .selects RX7 yX7_checkOrder yX7_checkOrder, .initialized RX7, .code yX7_checkOrder cX7_checkOrder 2 none, .fieldLink RX7 24 "Selfkindle" "wrong" "I", .classLink RX7 107 "java/lang/IndexOutOfBoundsException", .initialized "java/lang/IndexOutOfBoundsException"] : List Cond) ++ wsX70 ++ (vx_at0 RX7 109 "java/lang/IndexOutOfBoundsException" ["java/lang/RuntimeException", "java/lang/Exception"]).filter goodWord)
theorem in_z_X_stop_X7 : ∀ w ∈ wsX70, w ∈ z_X_stop := fun w h => List.mem_cons_of_mem _ (List.mem_append_left _ (List.mem_append_right _ (h)))
set_option maxRecDepth 20000 in
theorem gg_X_stop_2 : GoodIn z_X_stop z_cOr := goodIn_ca (goodIn_p _ [5] rfl (by decide +kernel)) (goodIn_sub (fun _ h => List.mem_cons_of_mem _ (List.mem_append_right _ (h))) (by decide +kernel))
set_option maxRecDepth 20000 in
theorem g_X_stop_2 : GoodIn z_X_stop (wsV RX7 121 RX7 yX7_checkOrder z_cOr) := goodIn_app (goodIn_of _ (by decide +kernel)) gg_X_stop_2
set_option maxHeartbeats 4000000 in
set_option maxRecDepth 100000 in
theorem c_X_stop (l : Launch) (dC : Nat → ClassId) (dI : Nat → Nat → Nat) (tp te : Nat) (sz : Nat) (hlt : l.stackTraces = false) (h0 : Nat) (rp : Nat) (rt : Nat) (rc : Nat) (r1 : Nat) (r2 : Nat) (r3 : Nat) (r4 : Nat) (p0 : Int32) (p1 : Int32)  : vx_Met l yX7_stop z_X_stop ({ frames := 7, cells := 1, slots := 6, locals := 102 }) (va_Pc [.ref h0, .int p0, .int p1] (Pw dC dI [(h0, .inr (8, [.ref rp, .int 0, .ref rt, .ref rc, .int ((-1)), .ref r1, .ref r2, .ref r3, .ref r4, .null, .int 0]))] [] sz tp te)) (va_Qi (fun (r : Int32) (_ : Unit) => False) (fun (_ : Unit) (_ : State) => True) (va_A [(h0, .inr (8, [.ref rp, .int 0, .ref rt, .ref rc, .int ((-1)), .ref r1, .ref r2, .ref r3, .ref r4, .null, .int 0]))] sz)) (vx_X (fun (_ : Unit) => True) (fun (E : String) (_ : Unit) (_ : State) => E = "java/lang/IndexOutOfBoundsException") (va_A [(h0, .inr (8, [.ref rp, .int 0, .ref rt, .ref rc, .int ((-1)), .ref r1, .ref r2, .ref r3, .ref r4, .null, .int 0]))] sz)) 1 6 (va_A [(h0, .inr (8, [.ref rp, .int 0, .ref rt, .ref rc, .int ((-1)), .ref r1, .ref r2, .ref r3, .ref r4, .null, .int 0]))] sz) := by
  refine vx_ofW (cc := cX7_stop) (maxL := 4) (ret := (some .boolean)) (by decide) rfl ?_
  intro p e s m args below meth c s₁ B hml htab hv
  obtain ⟨rfl, hsz, hP, hK, hD0, hG⟩ := hv
  have hx := B.exec
  have hb := B.bytes
  have hr := B.returns
  have hts := atoms_spec (ws := z_X_stop) B.pre
  have hown : s.vm.findClass RX7 = some m.cls := findClass_of_methodNamed B.named
  have hlocks := B.notSynchronized
  subst hsz
  have hD := hD0.self (sz := s.heap.size)
  generalize hAe : va_A [(h0, .inr (8, [.ref rp, .int 0, .ref rt, .ref rc, .int ((-1)), .ref r1, .ref r2, .ref r3, .ref r4, .null, .int 0]))] s.heap.size = A at hD hG ⊢
  have hA : ∀ q : Nat, s.heap.size ≤ q → A q := fun q h => by rw [← hAe]; exact Or.inr h
  have hS : va_S A s.heap s.heap [] := va_S.rf
  have hl := lv_entry ([.ref h0, .int p0, .int p1]) (n := 4) (Nat.le_of_ble_eq_true rfl)
  rw [lg_entry_eq]
  generalize (lg_sl ([.ref h0, .int p0, .int p1]) ++ List.replicate (4 - (lg_sl ([.ref h0, .int p0, .int p1])).length) Slot.unset).toArray = ls at hl ⊢
  have hl : lv_has ls 4 [(0, .ref h0), (1, .int p0), (2, .int p1)] := hl
  refine lv_aload_n hx hb dX7_stop_0 rfl (lv_at hl 0 rfl) ?_
  refine lv_iload_n hx hb dX7_stop_1 rfl (lv_at hl 1 rfl) ?_
  have hPc := hP.sub (ws' := [(h0, .inr (8, [.ref rp, .int 0, .ref rt, .ref rc, .int ((-1)), .ref r1, .ref r2, .ref r3, .ref r4, .null, .int 0]))]) [0] rfl
  have hDc := hD.sub (ws' := [(h0, .inr (8, [.ref rp, .int 0, .ref rt, .ref rc, .int ((-1)), .ref r1, .ref r2, .ref r3, .ref r4, .null, .int 0]))]) [0] (by decide) rfl
  have hKc := hK.sub (tys' := []) [] rfl
  have hFc := va_free (wc := [(h0, .inr (8, [.ref rp, .int 0, .ref rt, .ref rc, .int ((-1)), .ref r1, .ref r2, .ref r3, .ref r4, .null, .int 0]))]) hD hS hA [0] rfl
  refine vx_callv (vx_runV (As := [.int p0]) (rest := []) ⟨hx, hb, hml, hown, hts⟩ (c_cOr l dC dI tp te s.heap.size hlt h0 rp rt rc r1 r2 r3 r4 p0) (cwV 1 hts g_X_stop_2 rfl rfl rfl (by decide +kernel) ⟨Nat.le_of_ble_eq_true rfl, Nat.le_of_ble_eq_true rfl⟩) ⟨Pw.blind, va_recv hKc hPc (ci := 8) (q0 := 0) rfl rfl, Pw.mk hPc hKc hDc hG hS hFc⟩ rfl rfl hl.1 rfl (lv_room (Nat.le_of_ble_eq_true rfl)) dX7_stop_2 ⟨Nat.le_of_ble_eq_true rfl, Nat.le_of_ble_eq_true rfl⟩) hS (fun q _ h => hFc q h) hFc (fun q _ h => hFc q h) (fun E ce q9 u t9 H1 locs ht hvm hpx hBX hz1 hk1 hS hce hcv hcl => ?_) (fun u t9 H_1 locs ht hvm hw hB hz1 hk1 hS => hw.elim)
  have hBX : E = "java/lang/IndexOutOfBoundsException" := hBX
  subst hBX
  exact vx_out (fun x9 h9 => (htab x9 h9).elim) hlocks hce hcv hcl (fun t9 ht9 _ => ⟨(), trivial, rfl, hS.F ht9⟩) hS.2.2 (Nat.le_of_ble_eq_true rfl) (Nat.le_of_ble_eq_true rfl)

set_option maxRecDepth 20000 in
def z_X_go_neg : List Cond := .code yX7_go cX7_go 2 (some .int) :: (([.classLink RX7 69 "java/lang/IllegalArgumentException", .initialized "java/lang/IllegalArgumentException"] : List Cond) ++ (vx_at0 RX7 71 "java/lang/IllegalArgumentException" ["java/lang/RuntimeException", "java/lang/Exception"]).filter goodWord)
set_option maxHeartbeats 4000000 in
set_option maxRecDepth 100000 in
theorem c_X_go_neg (l : Launch) (dC : Nat → ClassId) (dI : Nat → Nat → Nat) (tp te : Nat) (sz : Nat) (hlt : l.stackTraces = false) (h0 : Nat) (rp : Nat) (rt : Nat) (rc : Nat) (r1 : Nat) (r2 : Nat) (r3 : Nat) (r4 : Nat) (p0 : Int32) (hv0 : p0 < 1) : vx_Met l yX7_go z_X_go_neg ({ frames := 6, cells := 1, slots := 6, locals := 81 }) (va_Pc [.ref h0, .int p0] (Pw dC dI [(h0, .inr (8, [.ref rp, .int 0, .ref rt, .ref rc, .int ((-1)), .ref r1, .ref r2, .ref r3, .ref r4, .null, .int 0]))] [] sz tp te)) (va_Qi (fun (r : Int32) (_ : Unit) => False) (fun (_ : Unit) (_ : State) => True) (va_A [(h0, .inr (8, [.ref rp, .int 0, .ref rt, .ref rc, .int ((-1)), .ref r1, .ref r2, .ref r3, .ref r4, .null, .int 0]))] sz)) (vx_X (fun (_ : Unit) => True) (fun (E : String) (_ : Unit) (_ : State) => E = "java/lang/IllegalArgumentException") (va_A [(h0, .inr (8, [.ref rp, .int 0, .ref rt, .ref rc, .int ((-1)), .ref r1, .ref r2, .ref r3, .ref r4, .null, .int 0]))] sz)) 1 6 (va_A [(h0, .inr (8, [.ref rp, .int 0, .ref rt, .ref rc, .int ((-1)), .ref r1, .ref r2, .ref r3, .ref r4, .null, .int 0]))] sz) := by
  refine vx_ofW (cc := cX7_go) (maxL := 2) (ret := (some .int)) (by decide) rfl ?_
  intro p e s m args below meth c s₁ B hml htab hv
  obtain ⟨rfl, hsz, hP, hK, hD0, hG⟩ := hv
  have hx := B.exec
  have hb := B.bytes
  have hr := B.returns
  have hts := atoms_spec (ws := z_X_go_neg) B.pre
  have hown : s.vm.findClass RX7 = some m.cls := findClass_of_methodNamed B.named
  have hlocks := B.notSynchronized
  subst hsz
  have hD := hD0.self (sz := s.heap.size)
  generalize hAe : va_A [(h0, .inr (8, [.ref rp, .int 0, .ref rt, .ref rc, .int ((-1)), .ref r1, .ref r2, .ref r3, .ref r4, .null, .int 0]))] s.heap.size = A at hD hG ⊢
  have hA : ∀ q : Nat, s.heap.size ≤ q → A q := fun q h => by rw [← hAe]; exact Or.inr h
  have hS : va_S A s.heap s.heap [] := va_S.rf
  have hl := lv_entry ([.ref h0, .int p0]) (n := 2) (Nat.le_of_ble_eq_true rfl)
  rw [lg_entry_eq]
  generalize (lg_sl ([.ref h0, .int p0]) ++ List.replicate (2 - (lg_sl ([.ref h0, .int p0])).length) Slot.unset).toArray = ls at hl ⊢
  have hl : lv_has ls 2 [(0, .ref h0), (1, .int p0)] := hl
  refine lv_iload_n hx hb dX7_go_0 rfl (lv_at hl 1 rfl) ?_
  refine lv_iconst (v := 1) hx hb dX7_go_1 (by decide) ?_
  refine lv_icmp_lt (tgt := 12) hx hb dX7_go_2 (by decide) (fun c9 => ?_) (fun c9 => absurd hv0 c9)
  exact vx_throw0 (A := A) (own := RX7) (cls := "java/lang/IllegalArgumentException") (names := ["java/lang/RuntimeException", "java/lang/Exception"]) (ik := 69) (ic := 71) hx hb hlt hown (by decide +kernel) (by decide +kernel) (hts (.classLink RX7 69 "java/lang/IllegalArgumentException") (List.mem_of_getElem? (i := 1) rfl)) (hts (.initialized "java/lang/IllegalArgumentException") (List.mem_of_getElem? (i := 2) rfl)) (vx_hat (B := [.castable "java/lang/IllegalArgumentException" "java/lang/IllegalArgumentException", .declares (Bundle.init0 "java/lang/RuntimeException"), .declares (Bundle.init0 "java/lang/Exception"), .declares (Bundle.init0 "java/lang/Throwable")]) (fun w9 h9 => hts w9 (List.mem_cons_of_mem _ (List.mem_append_right _ (h9)))) (by decide +kernel) (vx_c (va_Nw.use rfl hG.2.2.2.2.2.2.2.2.1) (vx_c (va_Nw.use rfl hG.2.2.2.2.2.2.2.2.2.2.2.2.2.2.1) (vx_c (va_Nw.use rfl hG.2.2.2.2.2.2.2.2.2.2.2.2.2.2.2.1) (vx_c (va_Nw.use rfl hG.2.2.2.2.2.2.2.2.2.2.2.2.2.2.2.2) vx_n))))) (by decide +kernel) hG.2.2.2.2.1 hG.2.2.2.2.2.1 hS (by rw [hml]; exact hl.1) dX7_go_12 dX7_go_15 dX7_go_16 dX7_go_19 (fun x9 h9 => (htab x9 h9).elim) (Nat.le_of_ble_eq_true rfl) (Nat.le_of_ble_eq_true rfl) (Nat.le_of_ble_eq_true rfl) (Nat.le_of_ble_eq_true rfl) hlocks (fun t9 _ hz9 hk9 => ⟨(), trivial, rfl, ⟨Nat.le_trans hS.1 hz9, fun q h1 h2 => (hk9 q (Nat.lt_of_lt_of_le h1 hS.1)).trans (hS.2.1 q h1 h2)⟩⟩) hS.2.2 (Nat.le_of_ble_eq_true rfl) (Nat.le_of_ble_eq_true rfl)

set_option maxRecDepth 20000 in
def z_X_go_big : List Cond := .code yX7_go cX7_go 2 (some .int) :: (([.classLink RX7 69 "java/lang/IllegalArgumentException", .initialized "java/lang/IllegalArgumentException"] : List Cond) ++ (vx_at0 RX7 71 "java/lang/IllegalArgumentException" ["java/lang/RuntimeException", "java/lang/Exception"]).filter goodWord)
set_option maxHeartbeats 4000000 in
set_option maxRecDepth 100000 in
theorem c_X_go_big (l : Launch) (dC : Nat → ClassId) (dI : Nat → Nat → Nat) (tp te : Nat) (sz : Nat) (hlt : l.stackTraces = false) (h0 : Nat) (rp : Nat) (rt : Nat) (rc : Nat) (r1 : Nat) (r2 : Nat) (r3 : Nat) (r4 : Nat) (p0 : Int32) (hv0 : ¬ p0 < 1) (hv1 : ¬ p0 ≤ 2000) : vx_Met l yX7_go z_X_go_big ({ frames := 6, cells := 1, slots := 6, locals := 81 }) (va_Pc [.ref h0, .int p0] (Pw dC dI [(h0, .inr (8, [.ref rp, .int 0, .ref rt, .ref rc, .int ((-1)), .ref r1, .ref r2, .ref r3, .ref r4, .null, .int 0]))] [] sz tp te)) (va_Qi (fun (r : Int32) (_ : Unit) => False) (fun (_ : Unit) (_ : State) => True) (va_A [(h0, .inr (8, [.ref rp, .int 0, .ref rt, .ref rc, .int ((-1)), .ref r1, .ref r2, .ref r3, .ref r4, .null, .int 0]))] sz)) (vx_X (fun (_ : Unit) => True) (fun (E : String) (_ : Unit) (_ : State) => E = "java/lang/IllegalArgumentException") (va_A [(h0, .inr (8, [.ref rp, .int 0, .ref rt, .ref rc, .int ((-1)), .ref r1, .ref r2, .ref r3, .ref r4, .null, .int 0]))] sz)) 1 6 (va_A [(h0, .inr (8, [.ref rp, .int 0, .ref rt, .ref rc, .int ((-1)), .ref r1, .ref r2, .ref r3, .ref r4, .null, .int 0]))] sz) := by
  refine vx_ofW (cc := cX7_go) (maxL := 2) (ret := (some .int)) (by decide) rfl ?_
  intro p e s m args below meth c s₁ B hml htab hv
  obtain ⟨rfl, hsz, hP, hK, hD0, hG⟩ := hv
  have hx := B.exec
  have hb := B.bytes
  have hr := B.returns
  have hts := atoms_spec (ws := z_X_go_big) B.pre
  have hown : s.vm.findClass RX7 = some m.cls := findClass_of_methodNamed B.named
  have hlocks := B.notSynchronized
  subst hsz
  have hD := hD0.self (sz := s.heap.size)
  generalize hAe : va_A [(h0, .inr (8, [.ref rp, .int 0, .ref rt, .ref rc, .int ((-1)), .ref r1, .ref r2, .ref r3, .ref r4, .null, .int 0]))] s.heap.size = A at hD hG ⊢
  have hA : ∀ q : Nat, s.heap.size ≤ q → A q := fun q h => by rw [← hAe]; exact Or.inr h
  have hS : va_S A s.heap s.heap [] := va_S.rf
  have hl := lv_entry ([.ref h0, .int p0]) (n := 2) (Nat.le_of_ble_eq_true rfl)
  rw [lg_entry_eq]
  generalize (lg_sl ([.ref h0, .int p0]) ++ List.replicate (2 - (lg_sl ([.ref h0, .int p0])).length) Slot.unset).toArray = ls at hl ⊢
  have hl : lv_has ls 2 [(0, .ref h0), (1, .int p0)] := hl
  refine lv_iload_n hx hb dX7_go_0 rfl (lv_at hl 1 rfl) ?_
  refine lv_iconst (v := 1) hx hb dX7_go_1 (by decide) ?_
  refine lv_icmp_lt (tgt := 12) hx hb dX7_go_2 (by decide) (fun c9 => absurd c9 hv0) (fun c9 => ?_)
  refine lv_iload_n hx hb dX7_go_5 rfl (lv_at hl 1 rfl) ?_
  refine lv_sipush (v := 2000) hx hb dX7_go_6 (by decide) ?_
  refine lv_icmp_le (tgt := 20) hx hb dX7_go_9 (by decide) (fun c9 => absurd c9 hv1) (fun c9 => ?_)
  exact vx_throw0 (A := A) (own := RX7) (cls := "java/lang/IllegalArgumentException") (names := ["java/lang/RuntimeException", "java/lang/Exception"]) (ik := 69) (ic := 71) hx hb hlt hown (by decide +kernel) (by decide +kernel) (hts (.classLink RX7 69 "java/lang/IllegalArgumentException") (List.mem_of_getElem? (i := 1) rfl)) (hts (.initialized "java/lang/IllegalArgumentException") (List.mem_of_getElem? (i := 2) rfl)) (vx_hat (B := [.castable "java/lang/IllegalArgumentException" "java/lang/IllegalArgumentException", .declares (Bundle.init0 "java/lang/RuntimeException"), .declares (Bundle.init0 "java/lang/Exception"), .declares (Bundle.init0 "java/lang/Throwable")]) (fun w9 h9 => hts w9 (List.mem_cons_of_mem _ (List.mem_append_right _ (h9)))) (by decide +kernel) (vx_c (va_Nw.use rfl hG.2.2.2.2.2.2.2.2.1) (vx_c (va_Nw.use rfl hG.2.2.2.2.2.2.2.2.2.2.2.2.2.2.1) (vx_c (va_Nw.use rfl hG.2.2.2.2.2.2.2.2.2.2.2.2.2.2.2.1) (vx_c (va_Nw.use rfl hG.2.2.2.2.2.2.2.2.2.2.2.2.2.2.2.2) vx_n))))) (by decide +kernel) hG.2.2.2.2.1 hG.2.2.2.2.2.1 hS (by rw [hml]; exact hl.1) dX7_go_12 dX7_go_15 dX7_go_16 dX7_go_19 (fun x9 h9 => (htab x9 h9).elim) (Nat.le_of_ble_eq_true rfl) (Nat.le_of_ble_eq_true rfl) (Nat.le_of_ble_eq_true rfl) (Nat.le_of_ble_eq_true rfl) hlocks (fun t9 _ hz9 hk9 => ⟨(), trivial, rfl, ⟨Nat.le_trans hS.1 hz9, fun q h1 h2 => (hk9 q (Nat.lt_of_lt_of_le h1 hS.1)).trans (hS.2.1 q h1 h2)⟩⟩) hS.2.2 (Nat.le_of_ble_eq_true rfl) (Nat.le_of_ble_eq_true rfl)

set_option maxRecDepth 20000 in
def z_X_go_ok : List Cond := .code yX7_go cX7_go 2 (some .int) :: (([.methodLink RX7 110 yX7_checkProgram, .instanceMethod yX7_checkProgram, .selects RX7 yX7_checkProgram yX7_checkProgram, .initialized RX7, .code yX7_checkProgram cX7_checkProgram 1 none, .fieldLink RX7 24 "Selfkindle" "wrong" "I", .classLink RX7 75 "java/lang/IllegalStateException", .initialized "java/lang/IllegalStateException"] : List Cond) ++ wsX70 ++ (vx_at0 RX7 77 "java/lang/IllegalStateException" ["java/lang/RuntimeException", "java/lang/Exception"]).filter goodWord)
theorem in_z_X_go_ok_X7 : ∀ w ∈ wsX70, w ∈ z_X_go_ok := fun w h => List.mem_cons_of_mem _ (List.mem_append_left _ (List.mem_append_right _ (h)))
set_option maxRecDepth 20000 in
theorem gg_X_go_ok_21 : GoodIn z_X_go_ok z_cPr := goodIn_ca (goodIn_p _ [5] rfl (by decide +kernel)) (goodIn_sub (fun _ h => List.mem_cons_of_mem _ (List.mem_append_right _ (h))) (by decide +kernel))
set_option maxRecDepth 20000 in
theorem g_X_go_ok_21 : GoodIn z_X_go_ok (wsV RX7 110 RX7 yX7_checkProgram z_cPr) := goodIn_app (goodIn_of _ (by decide +kernel)) gg_X_go_ok_21
set_option maxHeartbeats 4000000 in
set_option maxRecDepth 100000 in
theorem c_X_go_ok (l : Launch) (dC : Nat → ClassId) (dI : Nat → Nat → Nat) (tp te : Nat) (sz : Nat) (hlt : l.stackTraces = false) (h0 : Nat) (rp : Nat) (rt : Nat) (rc : Nat) (r1 : Nat) (r2 : Nat) (r3 : Nat) (r4 : Nat) (p0 : Int32) (hv0 : ¬ p0 < 1) (hv1 : p0 ≤ 2000) : vx_Met l yX7_go z_X_go_ok ({ frames := 7, cells := 1, slots := 6, locals := 101 }) (va_Pc [.ref h0, .int p0] (Pw dC dI [(h0, .inr (8, [.ref rp, .int 0, .ref rt, .ref rc, .int ((-1)), .ref r1, .ref r2, .ref r3, .ref r4, .null, .int 0]))] [] sz tp te)) (va_Qi (fun (r : Int32) (_ : Unit) => False) (fun (_ : Unit) (_ : State) => True) (va_A [(h0, .inr (8, [.ref rp, .int 0, .ref rt, .ref rc, .int ((-1)), .ref r1, .ref r2, .ref r3, .ref r4, .null, .int 0]))] sz)) (vx_X (fun (_ : Unit) => True) (fun (E : String) (_ : Unit) (_ : State) => E = "java/lang/IllegalStateException") (va_A [(h0, .inr (8, [.ref rp, .int 0, .ref rt, .ref rc, .int ((-1)), .ref r1, .ref r2, .ref r3, .ref r4, .null, .int 0]))] sz)) 1 6 (va_A [(h0, .inr (8, [.ref rp, .int 0, .ref rt, .ref rc, .int ((-1)), .ref r1, .ref r2, .ref r3, .ref r4, .null, .int 0]))] sz) := by
  refine vx_ofW (cc := cX7_go) (maxL := 2) (ret := (some .int)) (by decide) rfl ?_
  intro p e s m args below meth c s₁ B hml htab hv
  obtain ⟨rfl, hsz, hP, hK, hD0, hG⟩ := hv
  have hx := B.exec
  have hb := B.bytes
  have hr := B.returns
  have hts := atoms_spec (ws := z_X_go_ok) B.pre
  have hown : s.vm.findClass RX7 = some m.cls := findClass_of_methodNamed B.named
  have hlocks := B.notSynchronized
  subst hsz
  have hD := hD0.self (sz := s.heap.size)
  generalize hAe : va_A [(h0, .inr (8, [.ref rp, .int 0, .ref rt, .ref rc, .int ((-1)), .ref r1, .ref r2, .ref r3, .ref r4, .null, .int 0]))] s.heap.size = A at hD hG ⊢
  have hA : ∀ q : Nat, s.heap.size ≤ q → A q := fun q h => by rw [← hAe]; exact Or.inr h
  have hS : va_S A s.heap s.heap [] := va_S.rf
  have hl := lv_entry ([.ref h0, .int p0]) (n := 2) (Nat.le_of_ble_eq_true rfl)
  rw [lg_entry_eq]
  generalize (lg_sl ([.ref h0, .int p0]) ++ List.replicate (2 - (lg_sl ([.ref h0, .int p0])).length) Slot.unset).toArray = ls at hl ⊢
  have hl : lv_has ls 2 [(0, .ref h0), (1, .int p0)] := hl
  refine lv_iload_n hx hb dX7_go_0 rfl (lv_at hl 1 rfl) ?_
  refine lv_iconst (v := 1) hx hb dX7_go_1 (by decide) ?_
  refine lv_icmp_lt (tgt := 12) hx hb dX7_go_2 (by decide) (fun c9 => absurd c9 hv0) (fun c9 => ?_)
  refine lv_iload_n hx hb dX7_go_5 rfl (lv_at hl 1 rfl) ?_
  refine lv_sipush (v := 2000) hx hb dX7_go_6 (by decide) ?_
  refine lv_icmp_le (tgt := 20) hx hb dX7_go_9 (by decide) (fun c9 => ?_) (fun c9 => absurd hv1 c9)
  refine lv_aload_n hx hb dX7_go_20 rfl (lv_at hl 0 rfl) ?_
  have hPc := hP.sub (ws' := [(h0, .inr (8, [.ref rp, .int 0, .ref rt, .ref rc, .int ((-1)), .ref r1, .ref r2, .ref r3, .ref r4, .null, .int 0]))]) [0] rfl
  have hDc := hD.sub (ws' := [(h0, .inr (8, [.ref rp, .int 0, .ref rt, .ref rc, .int ((-1)), .ref r1, .ref r2, .ref r3, .ref r4, .null, .int 0]))]) [0] (by decide) rfl
  have hKc := hK.sub (tys' := []) [] rfl
  have hFc := va_free (wc := [(h0, .inr (8, [.ref rp, .int 0, .ref rt, .ref rc, .int ((-1)), .ref r1, .ref r2, .ref r3, .ref r4, .null, .int 0]))]) hD hS hA [0] rfl
  refine vx_callv (vx_runV (As := []) (rest := []) ⟨hx, hb, hml, hown, hts⟩ (c_cPr l dC dI tp te s.heap.size hlt h0 rp rt rc r1 r2 r3 r4) (cwV 0 hts g_X_go_ok_21 rfl rfl rfl (by decide +kernel) ⟨Nat.le_of_ble_eq_true rfl, Nat.le_of_ble_eq_true rfl⟩) ⟨Pw.blind, va_recv hKc hPc (ci := 8) (q0 := 0) rfl rfl, Pw.mk hPc hKc hDc hG hS hFc⟩ rfl rfl hl.1 rfl (lv_room (Nat.le_of_ble_eq_true rfl)) dX7_go_21 ⟨Nat.le_of_ble_eq_true rfl, Nat.le_of_ble_eq_true rfl⟩) hS (fun q _ h => hFc q h) hFc (fun q _ h => hFc q h) (fun E ce q9 u t9 H1 locs ht hvm hpx hBX hz1 hk1 hS hce hcv hcl => ?_) (fun u t9 H_1 locs ht hvm hw hB hz1 hk1 hS => hw.elim)
  have hBX : E = "java/lang/IllegalStateException" := hBX
  subst hBX
  exact vx_out (fun x9 h9 => (htab x9 h9).elim) hlocks hce hcv hcl (fun t9 ht9 _ => ⟨(), trivial, rfl, hS.F ht9⟩) hS.2.2 (Nat.le_of_ble_eq_true rfl) (Nat.le_of_ble_eq_true rfl)

set_option maxRecDepth 20000 in
def z_X_machine_neg : List Cond := .code yX7_machine cX7_machine 2 (some .int) :: (([.classLink RX7 69 "java/lang/IllegalArgumentException", .initialized "java/lang/IllegalArgumentException"] : List Cond) ++ (vx_at0 RX7 71 "java/lang/IllegalArgumentException" ["java/lang/RuntimeException", "java/lang/Exception"]).filter goodWord)
set_option maxHeartbeats 4000000 in
set_option maxRecDepth 100000 in
theorem c_X_machine_neg (l : Launch) (dC : Nat → ClassId) (dI : Nat → Nat → Nat) (tp te : Nat) (sz : Nat) (hlt : l.stackTraces = false) (h0 : Nat) (rp : Nat) (rt : Nat) (rc : Nat) (r1 : Nat) (r2 : Nat) (r3 : Nat) (r4 : Nat) (p0 : Int32) (hv0 : p0 < 0) : vx_Met l yX7_machine z_X_machine_neg ({ frames := 6, cells := 1, slots := 6, locals := 81 }) (va_Pc [.ref h0, .int p0] (Pw dC dI [(h0, .inr (8, [.ref rp, .int 0, .ref rt, .ref rc, .int ((-1)), .ref r1, .ref r2, .ref r3, .ref r4, .null, .int 0]))] [] sz tp te)) (va_Qi (fun (r : Int32) (_ : Unit) => False) (fun (_ : Unit) (_ : State) => True) (va_A [(h0, .inr (8, [.ref rp, .int 0, .ref rt, .ref rc, .int ((-1)), .ref r1, .ref r2, .ref r3, .ref r4, .null, .int 0]))] sz)) (vx_X (fun (_ : Unit) => True) (fun (E : String) (_ : Unit) (_ : State) => E = "java/lang/IllegalArgumentException") (va_A [(h0, .inr (8, [.ref rp, .int 0, .ref rt, .ref rc, .int ((-1)), .ref r1, .ref r2, .ref r3, .ref r4, .null, .int 0]))] sz)) 1 6 (va_A [(h0, .inr (8, [.ref rp, .int 0, .ref rt, .ref rc, .int ((-1)), .ref r1, .ref r2, .ref r3, .ref r4, .null, .int 0]))] sz) := by
  refine vx_ofW (cc := cX7_machine) (maxL := 2) (ret := (some .int)) (by decide) rfl ?_
  intro p e s m args below meth c s₁ B hml htab hv
  obtain ⟨rfl, hsz, hP, hK, hD0, hG⟩ := hv
  have hx := B.exec
  have hb := B.bytes
  have hr := B.returns
  have hts := atoms_spec (ws := z_X_machine_neg) B.pre
  have hown : s.vm.findClass RX7 = some m.cls := findClass_of_methodNamed B.named
  have hlocks := B.notSynchronized
  subst hsz
  have hD := hD0.self (sz := s.heap.size)
  generalize hAe : va_A [(h0, .inr (8, [.ref rp, .int 0, .ref rt, .ref rc, .int ((-1)), .ref r1, .ref r2, .ref r3, .ref r4, .null, .int 0]))] s.heap.size = A at hD hG ⊢
  have hA : ∀ q : Nat, s.heap.size ≤ q → A q := fun q h => by rw [← hAe]; exact Or.inr h
  have hS : va_S A s.heap s.heap [] := va_S.rf
  have hl := lv_entry ([.ref h0, .int p0]) (n := 2) (Nat.le_of_ble_eq_true rfl)
  rw [lg_entry_eq]
  generalize (lg_sl ([.ref h0, .int p0]) ++ List.replicate (2 - (lg_sl ([.ref h0, .int p0])).length) Slot.unset).toArray = ls at hl ⊢
  have hl : lv_has ls 2 [(0, .ref h0), (1, .int p0)] := hl
  refine lv_iload_n hx hb dX7_machine_0 rfl (lv_at hl 1 rfl) ?_
  refine lv_if_lt (tgt := 10) hx hb dX7_machine_1 (by decide) (fun c9 => ?_) (fun c9 => absurd hv0 c9)
  exact vx_throw0 (A := A) (own := RX7) (cls := "java/lang/IllegalArgumentException") (names := ["java/lang/RuntimeException", "java/lang/Exception"]) (ik := 69) (ic := 71) hx hb hlt hown (by decide +kernel) (by decide +kernel) (hts (.classLink RX7 69 "java/lang/IllegalArgumentException") (List.mem_of_getElem? (i := 1) rfl)) (hts (.initialized "java/lang/IllegalArgumentException") (List.mem_of_getElem? (i := 2) rfl)) (vx_hat (B := [.castable "java/lang/IllegalArgumentException" "java/lang/IllegalArgumentException", .declares (Bundle.init0 "java/lang/RuntimeException"), .declares (Bundle.init0 "java/lang/Exception"), .declares (Bundle.init0 "java/lang/Throwable")]) (fun w9 h9 => hts w9 (List.mem_cons_of_mem _ (List.mem_append_right _ (h9)))) (by decide +kernel) (vx_c (va_Nw.use rfl hG.2.2.2.2.2.2.2.2.1) (vx_c (va_Nw.use rfl hG.2.2.2.2.2.2.2.2.2.2.2.2.2.2.1) (vx_c (va_Nw.use rfl hG.2.2.2.2.2.2.2.2.2.2.2.2.2.2.2.1) (vx_c (va_Nw.use rfl hG.2.2.2.2.2.2.2.2.2.2.2.2.2.2.2.2) vx_n))))) (by decide +kernel) hG.2.2.2.2.1 hG.2.2.2.2.2.1 hS (by rw [hml]; exact hl.1) dX7_machine_10 dX7_machine_13 dX7_machine_14 dX7_machine_17 (fun x9 h9 => (htab x9 h9).elim) (Nat.le_of_ble_eq_true rfl) (Nat.le_of_ble_eq_true rfl) (Nat.le_of_ble_eq_true rfl) (Nat.le_of_ble_eq_true rfl) hlocks (fun t9 _ hz9 hk9 => ⟨(), trivial, rfl, ⟨Nat.le_trans hS.1 hz9, fun q h1 h2 => (hk9 q (Nat.lt_of_lt_of_le h1 hS.1)).trans (hS.2.1 q h1 h2)⟩⟩) hS.2.2 (Nat.le_of_ble_eq_true rfl) (Nat.le_of_ble_eq_true rfl)

set_option maxRecDepth 20000 in
def z_X_machine_big : List Cond := .code yX7_machine cX7_machine 2 (some .int) :: (([.classLink RX7 69 "java/lang/IllegalArgumentException", .initialized "java/lang/IllegalArgumentException"] : List Cond) ++ (vx_at0 RX7 71 "java/lang/IllegalArgumentException" ["java/lang/RuntimeException", "java/lang/Exception"]).filter goodWord)
set_option maxHeartbeats 4000000 in
set_option maxRecDepth 100000 in
theorem c_X_machine_big (l : Launch) (dC : Nat → ClassId) (dI : Nat → Nat → Nat) (tp te : Nat) (sz : Nat) (hlt : l.stackTraces = false) (h0 : Nat) (rp : Nat) (rt : Nat) (rc : Nat) (r1 : Nat) (r2 : Nat) (r3 : Nat) (r4 : Nat) (p0 : Int32) (hv0 : ¬ p0 < 0) (hv1 : ¬ p0 < 6) (hv2 : ¬ p0 ≤ 5) : vx_Met l yX7_machine z_X_machine_big ({ frames := 6, cells := 1, slots := 6, locals := 81 }) (va_Pc [.ref h0, .int p0] (Pw dC dI [(h0, .inr (8, [.ref rp, .int 0, .ref rt, .ref rc, .int ((-1)), .ref r1, .ref r2, .ref r3, .ref r4, .null, .int 0]))] [] sz tp te)) (va_Qi (fun (r : Int32) (_ : Unit) => False) (fun (_ : Unit) (_ : State) => True) (va_A [(h0, .inr (8, [.ref rp, .int 0, .ref rt, .ref rc, .int ((-1)), .ref r1, .ref r2, .ref r3, .ref r4, .null, .int 0]))] sz)) (vx_X (fun (_ : Unit) => True) (fun (E : String) (_ : Unit) (_ : State) => E = "java/lang/IllegalArgumentException") (va_A [(h0, .inr (8, [.ref rp, .int 0, .ref rt, .ref rc, .int ((-1)), .ref r1, .ref r2, .ref r3, .ref r4, .null, .int 0]))] sz)) 1 6 (va_A [(h0, .inr (8, [.ref rp, .int 0, .ref rt, .ref rc, .int ((-1)), .ref r1, .ref r2, .ref r3, .ref r4, .null, .int 0]))] sz) := by
  refine vx_ofW (cc := cX7_machine) (maxL := 2) (ret := (some .int)) (by decide) rfl ?_
  intro p e s m args below meth c s₁ B hml htab hv
  obtain ⟨rfl, hsz, hP, hK, hD0, hG⟩ := hv
  have hx := B.exec
  have hb := B.bytes
  have hr := B.returns
  have hts := atoms_spec (ws := z_X_machine_big) B.pre
  have hown : s.vm.findClass RX7 = some m.cls := findClass_of_methodNamed B.named
  have hlocks := B.notSynchronized
  subst hsz
  have hD := hD0.self (sz := s.heap.size)
  generalize hAe : va_A [(h0, .inr (8, [.ref rp, .int 0, .ref rt, .ref rc, .int ((-1)), .ref r1, .ref r2, .ref r3, .ref r4, .null, .int 0]))] s.heap.size = A at hD hG ⊢
  have hA : ∀ q : Nat, s.heap.size ≤ q → A q := fun q h => by rw [← hAe]; exact Or.inr h
  have hS : va_S A s.heap s.heap [] := va_S.rf
  have hl := lv_entry ([.ref h0, .int p0]) (n := 2) (Nat.le_of_ble_eq_true rfl)
  rw [lg_entry_eq]
  generalize (lg_sl ([.ref h0, .int p0]) ++ List.replicate (2 - (lg_sl ([.ref h0, .int p0])).length) Slot.unset).toArray = ls at hl ⊢
  have hl : lv_has ls 2 [(0, .ref h0), (1, .int p0)] := hl
  refine lv_iload_n hx hb dX7_machine_0 rfl (lv_at hl 1 rfl) ?_
  refine lv_if_lt (tgt := 10) hx hb dX7_machine_1 (by decide) (fun c9 => absurd c9 hv0) (fun c9 => ?_)
  refine lv_iload_n hx hb dX7_machine_4 rfl (lv_at hl 1 rfl) ?_
  refine lv_bipush (v := 6) hx hb dX7_machine_5 (by decide) ?_
  refine lv_icmp_lt (tgt := 18) hx hb dX7_machine_7 (by decide) (fun c9 => absurd c9 hv1) (fun c9 => ?_)
  exact vx_throw0 (A := A) (own := RX7) (cls := "java/lang/IllegalArgumentException") (names := ["java/lang/RuntimeException", "java/lang/Exception"]) (ik := 69) (ic := 71) hx hb hlt hown (by decide +kernel) (by decide +kernel) (hts (.classLink RX7 69 "java/lang/IllegalArgumentException") (List.mem_of_getElem? (i := 1) rfl)) (hts (.initialized "java/lang/IllegalArgumentException") (List.mem_of_getElem? (i := 2) rfl)) (vx_hat (B := [.castable "java/lang/IllegalArgumentException" "java/lang/IllegalArgumentException", .declares (Bundle.init0 "java/lang/RuntimeException"), .declares (Bundle.init0 "java/lang/Exception"), .declares (Bundle.init0 "java/lang/Throwable")]) (fun w9 h9 => hts w9 (List.mem_cons_of_mem _ (List.mem_append_right _ (h9)))) (by decide +kernel) (vx_c (va_Nw.use rfl hG.2.2.2.2.2.2.2.2.1) (vx_c (va_Nw.use rfl hG.2.2.2.2.2.2.2.2.2.2.2.2.2.2.1) (vx_c (va_Nw.use rfl hG.2.2.2.2.2.2.2.2.2.2.2.2.2.2.2.1) (vx_c (va_Nw.use rfl hG.2.2.2.2.2.2.2.2.2.2.2.2.2.2.2.2) vx_n))))) (by decide +kernel) hG.2.2.2.2.1 hG.2.2.2.2.2.1 hS (by rw [hml]; exact hl.1) dX7_machine_10 dX7_machine_13 dX7_machine_14 dX7_machine_17 (fun x9 h9 => (htab x9 h9).elim) (Nat.le_of_ble_eq_true rfl) (Nat.le_of_ble_eq_true rfl) (Nat.le_of_ble_eq_true rfl) (Nat.le_of_ble_eq_true rfl) hlocks (fun t9 _ hz9 hk9 => ⟨(), trivial, rfl, ⟨Nat.le_trans hS.1 hz9, fun q h1 h2 => (hk9 q (Nat.lt_of_lt_of_le h1 hS.1)).trans (hS.2.1 q h1 h2)⟩⟩) hS.2.2 (Nat.le_of_ble_eq_true rfl) (Nat.le_of_ble_eq_true rfl)

set_option maxRecDepth 20000 in
def z_X_machine_ok : List Cond := .code yX7_machine cX7_machine 2 (some .int) :: (([.methodLink RX7 110 yX7_checkProgram, .instanceMethod yX7_checkProgram, .selects RX7 yX7_checkProgram yX7_checkProgram, .initialized RX7, .code yX7_checkProgram cX7_checkProgram 1 none, .fieldLink RX7 24 "Selfkindle" "wrong" "I", .classLink RX7 75 "java/lang/IllegalStateException", .initialized "java/lang/IllegalStateException"] : List Cond) ++ wsX70 ++ (vx_at0 RX7 77 "java/lang/IllegalStateException" ["java/lang/RuntimeException", "java/lang/Exception"]).filter goodWord)
theorem in_z_X_machine_ok_X7 : ∀ w ∈ wsX70, w ∈ z_X_machine_ok := fun w h => List.mem_cons_of_mem _ (List.mem_append_left _ (List.mem_append_right _ (h)))
set_option maxRecDepth 20000 in
theorem gg_X_machine_ok_19 : GoodIn z_X_machine_ok z_cPr := goodIn_ca (goodIn_p _ [5] rfl (by decide +kernel)) (goodIn_sub (fun _ h => List.mem_cons_of_mem _ (List.mem_append_right _ (h))) (by decide +kernel))
set_option maxRecDepth 20000 in
theorem g_X_machine_ok_19 : GoodIn z_X_machine_ok (wsV RX7 110 RX7 yX7_checkProgram z_cPr) := goodIn_app (goodIn_of _ (by decide +kernel)) gg_X_machine_ok_19
set_option maxHeartbeats 4000000 in
set_option maxRecDepth 100000 in
theorem c_X_machine_ok (l : Launch) (dC : Nat → ClassId) (dI : Nat → Nat → Nat) (tp te : Nat) (sz : Nat) (hlt : l.stackTraces = false) (h0 : Nat) (rp : Nat) (rt : Nat) (rc : Nat) (r1 : Nat) (r2 : Nat) (r3 : Nat) (r4 : Nat) (p0 : Int32) (hv0 : ¬ p0 < 0) (hv1 : p0 < 6) (hv2 : p0 ≤ 5) : vx_Met l yX7_machine z_X_machine_ok ({ frames := 7, cells := 1, slots := 6, locals := 101 }) (va_Pc [.ref h0, .int p0] (Pw dC dI [(h0, .inr (8, [.ref rp, .int 0, .ref rt, .ref rc, .int ((-1)), .ref r1, .ref r2, .ref r3, .ref r4, .null, .int 0]))] [] sz tp te)) (va_Qi (fun (r : Int32) (_ : Unit) => False) (fun (_ : Unit) (_ : State) => True) (va_A [(h0, .inr (8, [.ref rp, .int 0, .ref rt, .ref rc, .int ((-1)), .ref r1, .ref r2, .ref r3, .ref r4, .null, .int 0]))] sz)) (vx_X (fun (_ : Unit) => True) (fun (E : String) (_ : Unit) (_ : State) => E = "java/lang/IllegalStateException") (va_A [(h0, .inr (8, [.ref rp, .int 0, .ref rt, .ref rc, .int ((-1)), .ref r1, .ref r2, .ref r3, .ref r4, .null, .int 0]))] sz)) 1 6 (va_A [(h0, .inr (8, [.ref rp, .int 0, .ref rt, .ref rc, .int ((-1)), .ref r1, .ref r2, .ref r3, .ref r4, .null, .int 0]))] sz) := by
  refine vx_ofW (cc := cX7_machine) (maxL := 2) (ret := (some .int)) (by decide) rfl ?_
  intro p e s m args below meth c s₁ B hml htab hv
  obtain ⟨rfl, hsz, hP, hK, hD0, hG⟩ := hv
  have hx := B.exec
  have hb := B.bytes
  have hr := B.returns
  have hts := atoms_spec (ws := z_X_machine_ok) B.pre
  have hown : s.vm.findClass RX7 = some m.cls := findClass_of_methodNamed B.named
  have hlocks := B.notSynchronized
  subst hsz
  have hD := hD0.self (sz := s.heap.size)
  generalize hAe : va_A [(h0, .inr (8, [.ref rp, .int 0, .ref rt, .ref rc, .int ((-1)), .ref r1, .ref r2, .ref r3, .ref r4, .null, .int 0]))] s.heap.size = A at hD hG ⊢
  have hA : ∀ q : Nat, s.heap.size ≤ q → A q := fun q h => by rw [← hAe]; exact Or.inr h
  have hS : va_S A s.heap s.heap [] := va_S.rf
  have hl := lv_entry ([.ref h0, .int p0]) (n := 2) (Nat.le_of_ble_eq_true rfl)
  rw [lg_entry_eq]
  generalize (lg_sl ([.ref h0, .int p0]) ++ List.replicate (2 - (lg_sl ([.ref h0, .int p0])).length) Slot.unset).toArray = ls at hl ⊢
  have hl : lv_has ls 2 [(0, .ref h0), (1, .int p0)] := hl
  refine lv_iload_n hx hb dX7_machine_0 rfl (lv_at hl 1 rfl) ?_
  refine lv_if_lt (tgt := 10) hx hb dX7_machine_1 (by decide) (fun c9 => absurd c9 hv0) (fun c9 => ?_)
  refine lv_iload_n hx hb dX7_machine_4 rfl (lv_at hl 1 rfl) ?_
  refine lv_bipush (v := 6) hx hb dX7_machine_5 (by decide) ?_
  refine lv_icmp_lt (tgt := 18) hx hb dX7_machine_7 (by decide) (fun c9 => ?_) (fun c9 => absurd hv1 c9)
  refine lv_aload_n hx hb dX7_machine_18 rfl (lv_at hl 0 rfl) ?_
  have hPc := hP.sub (ws' := [(h0, .inr (8, [.ref rp, .int 0, .ref rt, .ref rc, .int ((-1)), .ref r1, .ref r2, .ref r3, .ref r4, .null, .int 0]))]) [0] rfl
  have hDc := hD.sub (ws' := [(h0, .inr (8, [.ref rp, .int 0, .ref rt, .ref rc, .int ((-1)), .ref r1, .ref r2, .ref r3, .ref r4, .null, .int 0]))]) [0] (by decide) rfl
  have hKc := hK.sub (tys' := []) [] rfl
  have hFc := va_free (wc := [(h0, .inr (8, [.ref rp, .int 0, .ref rt, .ref rc, .int ((-1)), .ref r1, .ref r2, .ref r3, .ref r4, .null, .int 0]))]) hD hS hA [0] rfl
  refine vx_callv (vx_runV (As := []) (rest := []) ⟨hx, hb, hml, hown, hts⟩ (c_cPr l dC dI tp te s.heap.size hlt h0 rp rt rc r1 r2 r3 r4) (cwV 0 hts g_X_machine_ok_19 rfl rfl rfl (by decide +kernel) ⟨Nat.le_of_ble_eq_true rfl, Nat.le_of_ble_eq_true rfl⟩) ⟨Pw.blind, va_recv hKc hPc (ci := 8) (q0 := 0) rfl rfl, Pw.mk hPc hKc hDc hG hS hFc⟩ rfl rfl hl.1 rfl (lv_room (Nat.le_of_ble_eq_true rfl)) dX7_machine_19 ⟨Nat.le_of_ble_eq_true rfl, Nat.le_of_ble_eq_true rfl⟩) hS (fun q _ h => hFc q h) hFc (fun q _ h => hFc q h) (fun E ce q9 u t9 H1 locs ht hvm hpx hBX hz1 hk1 hS hce hcv hcl => ?_) (fun u t9 H_1 locs ht hvm hw hB hz1 hk1 hS => hw.elim)
  have hBX : E = "java/lang/IllegalStateException" := hBX
  subst hBX
  exact vx_out (fun x9 h9 => (htab x9 h9).elim) hlocks hce hcv hcl (fun t9 ht9 _ => ⟨(), trivial, rfl, hS.F ht9⟩) hS.2.2 (Nat.le_of_ble_eq_true rfl) (Nat.le_of_ble_eq_true rfl)
end
