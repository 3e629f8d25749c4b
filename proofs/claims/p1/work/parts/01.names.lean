-- ===== PART A: goes FIRST, ahead of the names: the tables' words, and 'selects' of the private methods out of them =====
/-- a private method of a class that the tables say can be made, by its rows of tables_1 -/
def lw_okq (q : MethodName × Nat) : Prop := (q.1.cls ≠ "java/lang/invoke/MethodHandle" ∧ q.1.cls ≠ "java/lang/invoke/VarHandle") ∧ Cond.instantiable q.1.cls q.2 ∈ tables_1 ∧ Cond.privateMethod q.1 ∈ tables_1 ∧ Cond.instanceMethod q.1 ∈ tables_1
theorem lw_p0 : lw_okq (⟨"ReactiveSheet", "surge", "()I"⟩, 13) := ⟨⟨by decide +kernel, by decide +kernel⟩, List.mem_of_getElem? (i := 18) (by decide +kernel), List.mem_of_getElem? (i := 320) (by decide +kernel), List.mem_of_getElem? (i := 321) (by decide +kernel)⟩
theorem lw_p1 : lw_okq (⟨"ReactiveSheet$Engine", "settle", "(II)V"⟩, 8) := ⟨⟨by decide +kernel, by decide +kernel⟩, List.mem_of_getElem? (i := 83) (by decide +kernel), List.mem_of_getElem? (i := 372) (by decide +kernel), List.mem_of_getElem? (i := 373) (by decide +kernel)⟩
theorem lw_p2 : lw_okq (⟨"ReactiveSheet$Engine", "firstChanged", "(II)I"⟩, 8) := ⟨⟨by decide +kernel, by decide +kernel⟩, List.mem_of_getElem? (i := 83) (by decide +kernel), List.mem_of_getElem? (i := 377) (by decide +kernel), List.mem_of_getElem? (i := 378) (by decide +kernel)⟩
theorem lw_p3 : lw_okq (⟨"ReactiveSheet$Engine", "run", "(III)V"⟩, 8) := ⟨⟨by decide +kernel, by decide +kernel⟩, List.mem_of_getElem? (i := 83) (by decide +kernel), List.mem_of_getElem? (i := 391) (by decide +kernel), List.mem_of_getElem? (i := 392) (by decide +kernel)⟩
theorem lw_p4 : lw_okq (⟨"ReactiveSheet$Engine", "step", "(LReactiveSheet$Formula;III)I"⟩, 8) := ⟨⟨by decide +kernel, by decide +kernel⟩, List.mem_of_getElem? (i := 83) (by decide +kernel), List.mem_of_getElem? (i := 407) (by decide +kernel), List.mem_of_getElem? (i := 408) (by decide +kernel)⟩
theorem lw_p5 : lw_okq (⟨"ReactiveSheet$Engine", "done", "(J)I"⟩, 8) := ⟨⟨by decide +kernel, by decide +kernel⟩, List.mem_of_getElem? (i := 83) (by decide +kernel), List.mem_of_getElem? (i := 426) (by decide +kernel), List.mem_of_getElem? (i := 427) (by decide +kernel)⟩
theorem lw_p6 : lw_okq (⟨"ReactiveSheet$Engine", "come", "(IJI)I"⟩, 8) := ⟨⟨by decide +kernel, by decide +kernel⟩, List.mem_of_getElem? (i := 83) (by decide +kernel), List.mem_of_getElem? (i := 430) (by decide +kernel), List.mem_of_getElem? (i := 431) (by decide +kernel)⟩
theorem lw_p7 : lw_okq (⟨"ReactiveSheet$Engine", "addUp", "(IIII)I"⟩, 8) := ⟨⟨by decide +kernel, by decide +kernel⟩, List.mem_of_getElem? (i := 83) (by decide +kernel), List.mem_of_getElem? (i := 447) (by decide +kernel), List.mem_of_getElem? (i := 448) (by decide +kernel)⟩
theorem lw_p8 : lw_okq (⟨"ReactiveSheet$Engine", "plus", "(JJ)I"⟩, 8) := ⟨⟨by decide +kernel, by decide +kernel⟩, List.mem_of_getElem? (i := 83) (by decide +kernel), List.mem_of_getElem? (i := 451) (by decide +kernel), List.mem_of_getElem? (i := 452) (by decide +kernel)⟩
theorem lw_p9 : lw_okq (⟨"ReactiveSheet$Engine", "result", "(II)J"⟩, 8) := ⟨⟨by decide +kernel, by decide +kernel⟩, List.mem_of_getElem? (i := 83) (by decide +kernel), List.mem_of_getElem? (i := 455) (by decide +kernel), List.mem_of_getElem? (i := 456) (by decide +kernel)⟩
theorem lw_p10 : lw_okq (⟨"ReactiveSheet$Engine", "minus", "(JJ)I"⟩, 8) := ⟨⟨by decide +kernel, by decide +kernel⟩, List.mem_of_getElem? (i := 83) (by decide +kernel), List.mem_of_getElem? (i := 459) (by decide +kernel), List.mem_of_getElem? (i := 460) (by decide +kernel)⟩
theorem lw_p11 : lw_okq (⟨"ReactiveSheet$Engine", "combine", "(IJJ)I"⟩, 8) := ⟨⟨by decide +kernel, by decide +kernel⟩, List.mem_of_getElem? (i := 83) (by decide +kernel), List.mem_of_getElem? (i := 467) (by decide +kernel), List.mem_of_getElem? (i := 468) (by decide +kernel)⟩
theorem lw_p12 : lw_okq (⟨"ReactiveSheet$Engine", "times", "(JJ)I"⟩, 8) := ⟨⟨by decide +kernel, by decide +kernel⟩, List.mem_of_getElem? (i := 83) (by decide +kernel), List.mem_of_getElem? (i := 477) (by decide +kernel), List.mem_of_getElem? (i := 478) (by decide +kernel)⟩
theorem lw_p13 : lw_okq (⟨"ReactiveSheet$Engine", "divide", "(JJ)I"⟩, 8) := ⟨⟨by decide +kernel, by decide +kernel⟩, List.mem_of_getElem? (i := 83) (by decide +kernel), List.mem_of_getElem? (i := 483) (by decide +kernel), List.mem_of_getElem? (i := 484) (by decide +kernel)⟩
theorem lw_p14 : lw_okq (⟨"ReactiveSheet$Engine", "keep", "(IIJ)V"⟩, 8) := ⟨⟨by decide +kernel, by decide +kernel⟩, List.mem_of_getElem? (i := 83) (by decide +kernel), List.mem_of_getElem? (i := 491) (by decide +kernel), List.mem_of_getElem? (i := 492) (by decide +kernel)⟩
theorem lw_p15 : lw_okq (⟨"ReactiveSheet$Engine", "following", "(LReactiveSheet$Formula;II)I"⟩, 8) := ⟨⟨by decide +kernel, by decide +kernel⟩, List.mem_of_getElem? (i := 83) (by decide +kernel), List.mem_of_getElem? (i := 495) (by decide +kernel), List.mem_of_getElem? (i := 496) (by decide +kernel)⟩
def lw_privs_1 : List (MethodName × Nat) := [(⟨"ReactiveSheet", "surge", "()I"⟩, 13), (⟨"ReactiveSheet$Engine", "settle", "(II)V"⟩, 8), (⟨"ReactiveSheet$Engine", "firstChanged", "(II)I"⟩, 8), (⟨"ReactiveSheet$Engine", "run", "(III)V"⟩, 8), (⟨"ReactiveSheet$Engine", "step", "(LReactiveSheet$Formula;III)I"⟩, 8), (⟨"ReactiveSheet$Engine", "done", "(J)I"⟩, 8), (⟨"ReactiveSheet$Engine", "come", "(IJI)I"⟩, 8), (⟨"ReactiveSheet$Engine", "addUp", "(IIII)I"⟩, 8), (⟨"ReactiveSheet$Engine", "plus", "(JJ)I"⟩, 8), (⟨"ReactiveSheet$Engine", "result", "(II)J"⟩, 8), (⟨"ReactiveSheet$Engine", "minus", "(JJ)I"⟩, 8), (⟨"ReactiveSheet$Engine", "combine", "(IJJ)I"⟩, 8), (⟨"ReactiveSheet$Engine", "times", "(JJ)I"⟩, 8), (⟨"ReactiveSheet$Engine", "divide", "(JJ)I"⟩, 8), (⟨"ReactiveSheet$Engine", "keep", "(IIJ)V"⟩, 8), (⟨"ReactiveSheet$Engine", "following", "(LReactiveSheet$Formula;II)I"⟩, 8)]
theorem lw_r1 : ∀ q ∈ lw_privs_1, lw_okq q := List.forall_mem_cons.mpr ⟨lw_p0, List.forall_mem_cons.mpr ⟨lw_p1, List.forall_mem_cons.mpr ⟨lw_p2, List.forall_mem_cons.mpr ⟨lw_p3, List.forall_mem_cons.mpr ⟨lw_p4, List.forall_mem_cons.mpr ⟨lw_p5, List.forall_mem_cons.mpr ⟨lw_p6, List.forall_mem_cons.mpr ⟨lw_p7, List.forall_mem_cons.mpr ⟨lw_p8, List.forall_mem_cons.mpr ⟨lw_p9, List.forall_mem_cons.mpr ⟨lw_p10, List.forall_mem_cons.mpr ⟨lw_p11, List.forall_mem_cons.mpr ⟨lw_p12, List.forall_mem_cons.mpr ⟨lw_p13, List.forall_mem_cons.mpr ⟨lw_p14, List.forall_mem_cons.mpr ⟨lw_p15, fun _ h => absurd h List.not_mem_nil⟩⟩⟩⟩⟩⟩⟩⟩⟩⟩⟩⟩⟩⟩⟩⟩
theorem lw_p16 : lw_okq (⟨"ReactiveSheet$Watching", "stirs", "(ILReactiveSheet$Cells;LReactiveSheet$Cells;)Z"⟩, 12) := ⟨⟨by decide +kernel, by decide +kernel⟩, List.mem_of_getElem? (i := 180) (by decide +kernel), List.mem_of_getElem? (i := 546) (by decide +kernel), List.mem_of_getElem? (i := 547) (by decide +kernel)⟩
theorem lw_p17 : lw_okq (⟨"ReactiveSheet$Watching", "note", "(ILReactiveSheet$Cells;LReactiveSheet$Cells;)V"⟩, 12) := ⟨⟨by decide +kernel, by decide +kernel⟩, List.mem_of_getElem? (i := 180) (by decide +kernel), List.mem_of_getElem? (i := 552) (by decide +kernel), List.mem_of_getElem? (i := 553) (by decide +kernel)⟩
theorem lw_p18 : lw_okq (⟨"ReactiveSheet$Parser", "choice", "(II)I"⟩, 10) := ⟨⟨by decide +kernel, by decide +kernel⟩, List.mem_of_getElem? (i := 26) (by decide +kernel), List.mem_of_getElem? (i := 591) (by decide +kernel), List.mem_of_getElem? (i := 592) (by decide +kernel)⟩
theorem lw_p19 : lw_okq (⟨"ReactiveSheet$Parser", "comparison", "(I)I"⟩, 10) := ⟨⟨by decide +kernel, by decide +kernel⟩, List.mem_of_getElem? (i := 26) (by decide +kernel), List.mem_of_getElem? (i := 595) (by decide +kernel), List.mem_of_getElem? (i := 596) (by decide +kernel)⟩
theorem lw_p20 : lw_okq (⟨"ReactiveSheet$Parser", "sum", "(I)I"⟩, 10) := ⟨⟨by decide +kernel, by decide +kernel⟩, List.mem_of_getElem? (i := 26) (by decide +kernel), List.mem_of_getElem? (i := 599) (by decide +kernel), List.mem_of_getElem? (i := 600) (by decide +kernel)⟩
theorem lw_p21 : lw_okq (⟨"ReactiveSheet$Parser", "product", "(I)I"⟩, 10) := ⟨⟨by decide +kernel, by decide +kernel⟩, List.mem_of_getElem? (i := 26) (by decide +kernel), List.mem_of_getElem? (i := 603) (by decide +kernel), List.mem_of_getElem? (i := 604) (by decide +kernel)⟩
theorem lw_p22 : lw_okq (⟨"ReactiveSheet$Parser", "factor", "(I)I"⟩, 10) := ⟨⟨by decide +kernel, by decide +kernel⟩, List.mem_of_getElem? (i := 26) (by decide +kernel), List.mem_of_getElem? (i := 607) (by decide +kernel), List.mem_of_getElem? (i := 608) (by decide +kernel)⟩
theorem lw_p23 : lw_okq (⟨"ReactiveSheet$Parser", "here", "()I"⟩, 10) := ⟨⟨by decide +kernel, by decide +kernel⟩, List.mem_of_getElem? (i := 26) (by decide +kernel), List.mem_of_getElem? (i := 611) (by decide +kernel), List.mem_of_getElem? (i := 612) (by decide +kernel)⟩
theorem lw_p24 : lw_okq (⟨"ReactiveSheet$Parser", "number", "(I)I"⟩, 10) := ⟨⟨by decide +kernel, by decide +kernel⟩, List.mem_of_getElem? (i := 26) (by decide +kernel), List.mem_of_getElem? (i := 618) (by decide +kernel), List.mem_of_getElem? (i := 619) (by decide +kernel)⟩
theorem lw_p25 : lw_okq (⟨"ReactiveSheet$Parser", "fail", "(I)I"⟩, 10) := ⟨⟨by decide +kernel, by decide +kernel⟩, List.mem_of_getElem? (i := 26) (by decide +kernel), List.mem_of_getElem? (i := 622) (by decide +kernel), List.mem_of_getElem? (i := 623) (by decide +kernel)⟩
theorem lw_p26 : lw_okq (⟨"ReactiveSheet$Parser", "node", "(IIII)I"⟩, 10) := ⟨⟨by decide +kernel, by decide +kernel⟩, List.mem_of_getElem? (i := 26) (by decide +kernel), List.mem_of_getElem? (i := 626) (by decide +kernel), List.mem_of_getElem? (i := 627) (by decide +kernel)⟩
theorem lw_p27 : lw_okq (⟨"ReactiveSheet$Parser", "skip", "(I)Z"⟩, 10) := ⟨⟨by decide +kernel, by decide +kernel⟩, List.mem_of_getElem? (i := 26) (by decide +kernel), List.mem_of_getElem? (i := 630) (by decide +kernel), List.mem_of_getElem? (i := 631) (by decide +kernel)⟩
theorem lw_p28 : lw_okq (⟨"ReactiveSheet$Parser", "cellNumber", "(I)I"⟩, 10) := ⟨⟨by decide +kernel, by decide +kernel⟩, List.mem_of_getElem? (i := 26) (by decide +kernel), List.mem_of_getElem? (i := 634) (by decide +kernel), List.mem_of_getElem? (i := 635) (by decide +kernel)⟩
theorem lw_p29 : lw_okq (⟨"ReactiveSheet$Parser", "expect", "(I)V"⟩, 10) := ⟨⟨by decide +kernel, by decide +kernel⟩, List.mem_of_getElem? (i := 26) (by decide +kernel), List.mem_of_getElem? (i := 639) (by decide +kernel), List.mem_of_getElem? (i := 640) (by decide +kernel)⟩
theorem lw_p30 : lw_okq (⟨"ReactiveSheet$Parser", "nested", "(II)I"⟩, 10) := ⟨⟨by decide +kernel, by decide +kernel⟩, List.mem_of_getElem? (i := 26) (by decide +kernel), List.mem_of_getElem? (i := 643) (by decide +kernel), List.mem_of_getElem? (i := 644) (by decide +kernel)⟩
theorem lw_p31 : lw_okq (⟨"ReactiveSheet$Parser", "not", "(I)I"⟩, 10) := ⟨⟨by decide +kernel, by decide +kernel⟩, List.mem_of_getElem? (i := 26) (by decide +kernel), List.mem_of_getElem? (i := 647) (by decide +kernel), List.mem_of_getElem? (i := 648) (by decide +kernel)⟩
def lw_privs_2 : List (MethodName × Nat) := [(⟨"ReactiveSheet$Watching", "stirs", "(ILReactiveSheet$Cells;LReactiveSheet$Cells;)Z"⟩, 12), (⟨"ReactiveSheet$Watching", "note", "(ILReactiveSheet$Cells;LReactiveSheet$Cells;)V"⟩, 12), (⟨"ReactiveSheet$Parser", "choice", "(II)I"⟩, 10), (⟨"ReactiveSheet$Parser", "comparison", "(I)I"⟩, 10), (⟨"ReactiveSheet$Parser", "sum", "(I)I"⟩, 10), (⟨"ReactiveSheet$Parser", "product", "(I)I"⟩, 10), (⟨"ReactiveSheet$Parser", "factor", "(I)I"⟩, 10), (⟨"ReactiveSheet$Parser", "here", "()I"⟩, 10), (⟨"ReactiveSheet$Parser", "number", "(I)I"⟩, 10), (⟨"ReactiveSheet$Parser", "fail", "(I)I"⟩, 10), (⟨"ReactiveSheet$Parser", "node", "(IIII)I"⟩, 10), (⟨"ReactiveSheet$Parser", "skip", "(I)Z"⟩, 10), (⟨"ReactiveSheet$Parser", "cellNumber", "(I)I"⟩, 10), (⟨"ReactiveSheet$Parser", "expect", "(I)V"⟩, 10), (⟨"ReactiveSheet$Parser", "nested", "(II)I"⟩, 10), (⟨"ReactiveSheet$Parser", "not", "(I)I"⟩, 10)]
theorem lw_r2 : ∀ q ∈ lw_privs_2, lw_okq q := List.forall_mem_cons.mpr ⟨lw_p16, List.forall_mem_cons.mpr ⟨lw_p17, List.forall_mem_cons.mpr ⟨lw_p18, List.forall_mem_cons.mpr ⟨lw_p19, List.forall_mem_cons.mpr ⟨lw_p20, List.forall_mem_cons.mpr ⟨lw_p21, List.forall_mem_cons.mpr ⟨lw_p22, List.forall_mem_cons.mpr ⟨lw_p23, List.forall_mem_cons.mpr ⟨lw_p24, List.forall_mem_cons.mpr ⟨lw_p25, List.forall_mem_cons.mpr ⟨lw_p26, List.forall_mem_cons.mpr ⟨lw_p27, List.forall_mem_cons.mpr ⟨lw_p28, List.forall_mem_cons.mpr ⟨lw_p29, List.forall_mem_cons.mpr ⟨lw_p30, List.forall_mem_cons.mpr ⟨lw_p31, fun _ h => absurd h List.not_mem_nil⟩⟩⟩⟩⟩⟩⟩⟩⟩⟩⟩⟩⟩⟩⟩⟩
theorem lw_p32 : lw_okq (⟨"ReactiveSheet$Parser", "comparing", "(I)I"⟩, 10) := ⟨⟨by decide +kernel, by decide +kernel⟩, List.mem_of_getElem? (i := 26) (by decide +kernel), List.mem_of_getElem? (i := 651) (by decide +kernel), List.mem_of_getElem? (i := 652) (by decide +kernel)⟩
theorem lw_p33 : lw_okq (⟨"ReactiveSheet$Trail", "stepsTo", "(II)I"⟩, 2) := ⟨⟨by decide +kernel, by decide +kernel⟩, List.mem_of_getElem? (i := 249) (by decide +kernel), List.mem_of_getElem? (i := 844) (by decide +kernel), List.mem_of_getElem? (i := 845) (by decide +kernel)⟩
theorem lw_p34 : lw_okq (⟨"ReactiveSheet$Trail", "onward", "(I)I"⟩, 2) := ⟨⟨by decide +kernel, by decide +kernel⟩, List.mem_of_getElem? (i := 249) (by decide +kernel), List.mem_of_getElem? (i := 848) (by decide +kernel), List.mem_of_getElem? (i := 849) (by decide +kernel)⟩
theorem lw_p35 : lw_okq (⟨"ReactiveSheet", "supposed", "(IJ)I"⟩, 13) := ⟨⟨by decide +kernel, by decide +kernel⟩, List.mem_of_getElem? (i := 18) (by decide +kernel), List.mem_of_getElem? (i := 860) (by decide +kernel), List.mem_of_getElem? (i := 861) (by decide +kernel)⟩
theorem lw_p36 : lw_okq (⟨"ReactiveSheet$Speller", "later", "(II)V"⟩, 4) := ⟨⟨by decide +kernel, by decide +kernel⟩, List.mem_of_getElem? (i := 64) (by decide +kernel), List.mem_of_getElem? (i := 887) (by decide +kernel), List.mem_of_getElem? (i := 888) (by decide +kernel)⟩
theorem lw_p37 : lw_okq (⟨"ReactiveSheet$Speller", "letterNow", "(I)V"⟩, 4) := ⟨⟨by decide +kernel, by decide +kernel⟩, List.mem_of_getElem? (i := 64) (by decide +kernel), List.mem_of_getElem? (i := 891) (by decide +kernel), List.mem_of_getElem? (i := 892) (by decide +kernel)⟩
theorem lw_p38 : lw_okq (⟨"ReactiveSheet$Speller", "unfold", "(LReactiveSheet$Formula;II)V"⟩, 4) := ⟨⟨by decide +kernel, by decide +kernel⟩, List.mem_of_getElem? (i := 64) (by decide +kernel), List.mem_of_getElem? (i := 895) (by decide +kernel), List.mem_of_getElem? (i := 896) (by decide +kernel)⟩
theorem lw_p39 : lw_okq (⟨"ReactiveSheet$Speller", "letterLater", "(I)V"⟩, 4) := ⟨⟨by decide +kernel, by decide +kernel⟩, List.mem_of_getElem? (i := 64) (by decide +kernel), List.mem_of_getElem? (i := 904) (by decide +kernel), List.mem_of_getElem? (i := 905) (by decide +kernel)⟩
theorem lw_p40 : lw_okq (⟨"ReactiveSheet$Speller", "writeLeaf", "(LReactiveSheet$Formula;II)V"⟩, 4) := ⟨⟨by decide +kernel, by decide +kernel⟩, List.mem_of_getElem? (i := 64) (by decide +kernel), List.mem_of_getElem? (i := 908) (by decide +kernel), List.mem_of_getElem? (i := 909) (by decide +kernel)⟩
theorem lw_p41 : lw_okq (⟨"ReactiveSheet$Speller", "writeNumber", "(I)V"⟩, 4) := ⟨⟨by decide +kernel, by decide +kernel⟩, List.mem_of_getElem? (i := 64) (by decide +kernel), List.mem_of_getElem? (i := 913) (by decide +kernel), List.mem_of_getElem? (i := 914) (by decide +kernel)⟩
theorem lw_p42 : lw_okq (⟨"ReactiveSheet$Speller", "writePair", "(LReactiveSheet$Formula;IIII)V"⟩, 4) := ⟨⟨by decide +kernel, by decide +kernel⟩, List.mem_of_getElem? (i := 64) (by decide +kernel), List.mem_of_getElem? (i := 918) (by decide +kernel), List.mem_of_getElem? (i := 919) (by decide +kernel)⟩
theorem lw_p43 : lw_okq (⟨"ReactiveSheet$Watching", "placeOf", "(I)I"⟩, 12) := ⟨⟨by decide +kernel, by decide +kernel⟩, List.mem_of_getElem? (i := 180) (by decide +kernel), List.mem_of_getElem? (i := 961) (by decide +kernel), List.mem_of_getElem? (i := 962) (by decide +kernel)⟩
theorem lw_p44 : lw_okq (⟨"ReactiveSheetModel", "told", "(IIJI)I"⟩, 76) := ⟨⟨by decide +kernel, by decide +kernel⟩, List.mem_of_getElem? (i := 1096) (by decide +kernel), List.mem_of_getElem? (i := 1350) (by decide +kernel), List.mem_of_getElem? (i := 1351) (by decide +kernel)⟩
theorem lw_p45 : lw_okq (⟨"ReactiveSheetModel", "tellsNothing", "()V"⟩, 76) := ⟨⟨by decide +kernel, by decide +kernel⟩, List.mem_of_getElem? (i := 1096) (by decide +kernel), List.mem_of_getElem? (i := 1354) (by decide +kernel), List.mem_of_getElem? (i := 1355) (by decide +kernel)⟩
theorem lw_p46 : lw_okq (⟨"ReactiveSheetModel", "tell", "(IIJI)V"⟩, 76) := ⟨⟨by decide +kernel, by decide +kernel⟩, List.mem_of_getElem? (i := 1096) (by decide +kernel), List.mem_of_getElem? (i := 1358) (by decide +kernel), List.mem_of_getElem? (i := 1359) (by decide +kernel)⟩
theorem lw_p47 : lw_okq (⟨"ReactiveSheetModel", "wave", "()I"⟩, 76) := ⟨⟨by decide +kernel, by decide +kernel⟩, List.mem_of_getElem? (i := 1096) (by decide +kernel), List.mem_of_getElem? (i := 1362) (by decide +kernel), List.mem_of_getElem? (i := 1363) (by decide +kernel)⟩
def lw_privs_3 : List (MethodName × Nat) := [(⟨"ReactiveSheet$Parser", "comparing", "(I)I"⟩, 10), (⟨"ReactiveSheet$Trail", "stepsTo", "(II)I"⟩, 2), (⟨"ReactiveSheet$Trail", "onward", "(I)I"⟩, 2), (⟨"ReactiveSheet", "supposed", "(IJ)I"⟩, 13), (⟨"ReactiveSheet$Speller", "later", "(II)V"⟩, 4), (⟨"ReactiveSheet$Speller", "letterNow", "(I)V"⟩, 4), (⟨"ReactiveSheet$Speller", "unfold", "(LReactiveSheet$Formula;II)V"⟩, 4), (⟨"ReactiveSheet$Speller", "letterLater", "(I)V"⟩, 4), (⟨"ReactiveSheet$Speller", "writeLeaf", "(LReactiveSheet$Formula;II)V"⟩, 4), (⟨"ReactiveSheet$Speller", "writeNumber", "(I)V"⟩, 4), (⟨"ReactiveSheet$Speller", "writePair", "(LReactiveSheet$Formula;IIII)V"⟩, 4), (⟨"ReactiveSheet$Watching", "placeOf", "(I)I"⟩, 12), (⟨"ReactiveSheetModel", "told", "(IIJI)I"⟩, 76), (⟨"ReactiveSheetModel", "tellsNothing", "()V"⟩, 76), (⟨"ReactiveSheetModel", "tell", "(IIJI)V"⟩, 76), (⟨"ReactiveSheetModel", "wave", "()I"⟩, 76)]
theorem lw_r3 : ∀ q ∈ lw_privs_3, lw_okq q := List.forall_mem_cons.mpr ⟨lw_p32, List.forall_mem_cons.mpr ⟨lw_p33, List.forall_mem_cons.mpr ⟨lw_p34, List.forall_mem_cons.mpr ⟨lw_p35, List.forall_mem_cons.mpr ⟨lw_p36, List.forall_mem_cons.mpr ⟨lw_p37, List.forall_mem_cons.mpr ⟨lw_p38, List.forall_mem_cons.mpr ⟨lw_p39, List.forall_mem_cons.mpr ⟨lw_p40, List.forall_mem_cons.mpr ⟨lw_p41, List.forall_mem_cons.mpr ⟨lw_p42, List.forall_mem_cons.mpr ⟨lw_p43, List.forall_mem_cons.mpr ⟨lw_p44, List.forall_mem_cons.mpr ⟨lw_p45, List.forall_mem_cons.mpr ⟨lw_p46, List.forall_mem_cons.mpr ⟨lw_p47, fun _ h => absurd h List.not_mem_nil⟩⟩⟩⟩⟩⟩⟩⟩⟩⟩⟩⟩⟩⟩⟩⟩
theorem lw_p48 : lw_okq (⟨"ReactiveSheetModel", "goes", "()Z"⟩, 76) := ⟨⟨by decide +kernel, by decide +kernel⟩, List.mem_of_getElem? (i := 1096) (by decide +kernel), List.mem_of_getElem? (i := 1366) (by decide +kernel), List.mem_of_getElem? (i := 1367) (by decide +kernel)⟩
theorem lw_p49 : lw_okq (⟨"ReactiveSheetModel", "keepsAhead", "()V"⟩, 76) := ⟨⟨by decide +kernel, by decide +kernel⟩, List.mem_of_getElem? (i := 1096) (by decide +kernel), List.mem_of_getElem? (i := 1370) (by decide +kernel), List.mem_of_getElem? (i := 1371) (by decide +kernel)⟩
theorem lw_p50 : lw_okq (⟨"ReactiveSheetModel", "swaps", "()V"⟩, 76) := ⟨⟨by decide +kernel, by decide +kernel⟩, List.mem_of_getElem? (i := 1096) (by decide +kernel), List.mem_of_getElem? (i := 1374) (by decide +kernel), List.mem_of_getElem? (i := 1375) (by decide +kernel)⟩
theorem lw_p51 : lw_okq (⟨"ReactiveSheetModel", "swap", "(II)V"⟩, 76) := ⟨⟨by decide +kernel, by decide +kernel⟩, List.mem_of_getElem? (i := 1096) (by decide +kernel), List.mem_of_getElem? (i := 1384) (by decide +kernel), List.mem_of_getElem? (i := 1385) (by decide +kernel)⟩
theorem lw_p52 : lw_okq (⟨"ReactiveSheetModel", "isOther", "(I)Z"⟩, 76) := ⟨⟨by decide +kernel, by decide +kernel⟩, List.mem_of_getElem? (i := 1096) (by decide +kernel), List.mem_of_getElem? (i := 1388) (by decide +kernel), List.mem_of_getElem? (i := 1389) (by decide +kernel)⟩
theorem lw_p53 : lw_okq (⟨"ReactiveSheetModel", "settle", "(I)V"⟩, 76) := ⟨⟨by decide +kernel, by decide +kernel⟩, List.mem_of_getElem? (i := 1096) (by decide +kernel), List.mem_of_getElem? (i := 1392) (by decide +kernel), List.mem_of_getElem? (i := 1393) (by decide +kernel)⟩
theorem lw_p54 : lw_okq (⟨"ReactiveSheetModel", "runs", "(I)V"⟩, 76) := ⟨⟨by decide +kernel, by decide +kernel⟩, List.mem_of_getElem? (i := 1096) (by decide +kernel), List.mem_of_getElem? (i := 1396) (by decide +kernel), List.mem_of_getElem? (i := 1397) (by decide +kernel)⟩
theorem lw_p55 : lw_okq (⟨"ReactiveSheetModel", "works", "(II)J"⟩, 76) := ⟨⟨by decide +kernel, by decide +kernel⟩, List.mem_of_getElem? (i := 1096) (by decide +kernel), List.mem_of_getElem? (i := 1400) (by decide +kernel), List.mem_of_getElem? (i := 1401) (by decide +kernel)⟩
theorem lw_p56 : lw_okq (⟨"ReactiveSheetModel", "cellOf", "(I)J"⟩, 76) := ⟨⟨by decide +kernel, by decide +kernel⟩, List.mem_of_getElem? (i := 1096) (by decide +kernel), List.mem_of_getElem? (i := 1404) (by decide +kernel), List.mem_of_getElem? (i := 1405) (by decide +kernel)⟩
theorem lw_p57 : lw_okq (⟨"ReactiveSheetModel", "no", "(I)J"⟩, 76) := ⟨⟨by decide +kernel, by decide +kernel⟩, List.mem_of_getElem? (i := 1096) (by decide +kernel), List.mem_of_getElem? (i := 1408) (by decide +kernel), List.mem_of_getElem? (i := 1409) (by decide +kernel)⟩
theorem lw_p58 : lw_okq (⟨"ReactiveSheetModel", "added", "(JJ)J"⟩, 76) := ⟨⟨by decide +kernel, by decide +kernel⟩, List.mem_of_getElem? (i := 1096) (by decide +kernel), List.mem_of_getElem? (i := 1412) (by decide +kernel), List.mem_of_getElem? (i := 1413) (by decide +kernel)⟩
theorem lw_p59 : lw_okq (⟨"ReactiveSheetModel", "times", "(JJ)J"⟩, 76) := ⟨⟨by decide +kernel, by decide +kernel⟩, List.mem_of_getElem? (i := 1096) (by decide +kernel), List.mem_of_getElem? (i := 1418) (by decide +kernel), List.mem_of_getElem? (i := 1419) (by decide +kernel)⟩
theorem lw_p60 : lw_okq (⟨"ReactiveSheetModel", "undoes", "()V"⟩, 76) := ⟨⟨by decide +kernel, by decide +kernel⟩, List.mem_of_getElem? (i := 1096) (by decide +kernel), List.mem_of_getElem? (i := 1425) (by decide +kernel), List.mem_of_getElem? (i := 1426) (by decide +kernel)⟩
theorem lw_p61 : lw_okq (⟨"ReactiveSheetModel", "laysBack", "()V"⟩, 76) := ⟨⟨by decide +kernel, by decide +kernel⟩, List.mem_of_getElem? (i := 1096) (by decide +kernel), List.mem_of_getElem? (i := 1429) (by decide +kernel), List.mem_of_getElem? (i := 1430) (by decide +kernel)⟩
theorem lw_p62 : lw_okq (⟨"ReactiveSheetModel", "tells", "(I)Z"⟩, 76) := ⟨⟨by decide +kernel, by decide +kernel⟩, List.mem_of_getElem? (i := 1096) (by decide +kernel), List.mem_of_getElem? (i := 1433) (by decide +kernel), List.mem_of_getElem? (i := 1434) (by decide +kernel)⟩
theorem lw_p63 : lw_okq (⟨"ReactiveSheetModel", "log", "(I)V"⟩, 76) := ⟨⟨by decide +kernel, by decide +kernel⟩, List.mem_of_getElem? (i := 1096) (by decide +kernel), List.mem_of_getElem? (i := 1437) (by decide +kernel), List.mem_of_getElem? (i := 1438) (by decide +kernel)⟩
def lw_privs_4 : List (MethodName × Nat) := [(⟨"ReactiveSheetModel", "goes", "()Z"⟩, 76), (⟨"ReactiveSheetModel", "keepsAhead", "()V"⟩, 76), (⟨"ReactiveSheetModel", "swaps", "()V"⟩, 76), (⟨"ReactiveSheetModel", "swap", "(II)V"⟩, 76), (⟨"ReactiveSheetModel", "isOther", "(I)Z"⟩, 76), (⟨"ReactiveSheetModel", "settle", "(I)V"⟩, 76), (⟨"ReactiveSheetModel", "runs", "(I)V"⟩, 76), (⟨"ReactiveSheetModel", "works", "(II)J"⟩, 76), (⟨"ReactiveSheetModel", "cellOf", "(I)J"⟩, 76), (⟨"ReactiveSheetModel", "no", "(I)J"⟩, 76), (⟨"ReactiveSheetModel", "added", "(JJ)J"⟩, 76), (⟨"ReactiveSheetModel", "times", "(JJ)J"⟩, 76), (⟨"ReactiveSheetModel", "undoes", "()V"⟩, 76), (⟨"ReactiveSheetModel", "laysBack", "()V"⟩, 76), (⟨"ReactiveSheetModel", "tells", "(I)Z"⟩, 76), (⟨"ReactiveSheetModel", "log", "(I)V"⟩, 76)]
theorem lw_r4 : ∀ q ∈ lw_privs_4, lw_okq q := List.forall_mem_cons.mpr ⟨lw_p48, List.forall_mem_cons.mpr ⟨lw_p49, List.forall_mem_cons.mpr ⟨lw_p50, List.forall_mem_cons.mpr ⟨lw_p51, List.forall_mem_cons.mpr ⟨lw_p52, List.forall_mem_cons.mpr ⟨lw_p53, List.forall_mem_cons.mpr ⟨lw_p54, List.forall_mem_cons.mpr ⟨lw_p55, List.forall_mem_cons.mpr ⟨lw_p56, List.forall_mem_cons.mpr ⟨lw_p57, List.forall_mem_cons.mpr ⟨lw_p58, List.forall_mem_cons.mpr ⟨lw_p59, List.forall_mem_cons.mpr ⟨lw_p60, List.forall_mem_cons.mpr ⟨lw_p61, List.forall_mem_cons.mpr ⟨lw_p62, List.forall_mem_cons.mpr ⟨lw_p63, fun _ h => absurd h List.not_mem_nil⟩⟩⟩⟩⟩⟩⟩⟩⟩⟩⟩⟩⟩⟩⟩⟩
theorem lw_p64 : lw_okq (⟨"ReactiveSheetModel", "copies", "(II)V"⟩, 76) := ⟨⟨by decide +kernel, by decide +kernel⟩, List.mem_of_getElem? (i := 1096) (by decide +kernel), List.mem_of_getElem? (i := 1445) (by decide +kernel), List.mem_of_getElem? (i := 1446) (by decide +kernel)⟩
theorem lw_p65 : lw_okq (⟨"ReactiveSheetModel", "reads", "(I)I"⟩, 76) := ⟨⟨by decide +kernel, by decide +kernel⟩, List.mem_of_getElem? (i := 1096) (by decide +kernel), List.mem_of_getElem? (i := 1453) (by decide +kernel), List.mem_of_getElem? (i := 1454) (by decide +kernel)⟩
theorem lw_p66 : lw_okq (⟨"ReactiveSheetModel", "readE", "()I"⟩, 76) := ⟨⟨by decide +kernel, by decide +kernel⟩, List.mem_of_getElem? (i := 1096) (by decide +kernel), List.mem_of_getElem? (i := 1457) (by decide +kernel), List.mem_of_getElem? (i := 1458) (by decide +kernel)⟩
theorem lw_p67 : lw_okq (⟨"ReactiveSheetModel", "readC", "()I"⟩, 76) := ⟨⟨by decide +kernel, by decide +kernel⟩, List.mem_of_getElem? (i := 1096) (by decide +kernel), List.mem_of_getElem? (i := 1461) (by decide +kernel), List.mem_of_getElem? (i := 1462) (by decide +kernel)⟩
theorem lw_p68 : lw_okq (⟨"ReactiveSheetModel", "readS", "()I"⟩, 76) := ⟨⟨by decide +kernel, by decide +kernel⟩, List.mem_of_getElem? (i := 1096) (by decide +kernel), List.mem_of_getElem? (i := 1465) (by decide +kernel), List.mem_of_getElem? (i := 1466) (by decide +kernel)⟩
theorem lw_p69 : lw_okq (⟨"ReactiveSheetModel", "readT", "()I"⟩, 76) := ⟨⟨by decide +kernel, by decide +kernel⟩, List.mem_of_getElem? (i := 1096) (by decide +kernel), List.mem_of_getElem? (i := 1469) (by decide +kernel), List.mem_of_getElem? (i := 1470) (by decide +kernel)⟩
theorem lw_p70 : lw_okq (⟨"ReactiveSheetModel", "readF", "()I"⟩, 76) := ⟨⟨by decide +kernel, by decide +kernel⟩, List.mem_of_getElem? (i := 1096) (by decide +kernel), List.mem_of_getElem? (i := 1473) (by decide +kernel), List.mem_of_getElem? (i := 1474) (by decide +kernel)⟩
theorem lw_p71 : lw_okq (⟨"ReactiveSheetModel", "isFigure", "()Z"⟩, 76) := ⟨⟨by decide +kernel, by decide +kernel⟩, List.mem_of_getElem? (i := 1096) (by decide +kernel), List.mem_of_getElem? (i := 1477) (by decide +kernel), List.mem_of_getElem? (i := 1478) (by decide +kernel)⟩
theorem lw_p72 : lw_okq (⟨"ReactiveSheetModel", "number", "(III)I"⟩, 76) := ⟨⟨by decide +kernel, by decide +kernel⟩, List.mem_of_getElem? (i := 1096) (by decide +kernel), List.mem_of_getElem? (i := 1482) (by decide +kernel), List.mem_of_getElem? (i := 1483) (by decide +kernel)⟩
theorem lw_p73 : lw_okq (⟨"ReactiveSheetModel", "node", "(IIII)I"⟩, 76) := ⟨⟨by decide +kernel, by decide +kernel⟩, List.mem_of_getElem? (i := 1096) (by decide +kernel), List.mem_of_getElem? (i := 1486) (by decide +kernel), List.mem_of_getElem? (i := 1487) (by decide +kernel)⟩
theorem lw_p74 : lw_okq (⟨"ReactiveSheetModel", "takes", "(I)Z"⟩, 76) := ⟨⟨by decide +kernel, by decide +kernel⟩, List.mem_of_getElem? (i := 1096) (by decide +kernel), List.mem_of_getElem? (i := 1490) (by decide +kernel), List.mem_of_getElem? (i := 1491) (by decide +kernel)⟩
theorem lw_p75 : lw_okq (⟨"ReactiveSheetModel", "isAt", "(I)Z"⟩, 76) := ⟨⟨by decide +kernel, by decide +kernel⟩, List.mem_of_getElem? (i := 1096) (by decide +kernel), List.mem_of_getElem? (i := 1494) (by decide +kernel), List.mem_of_getElem? (i := 1495) (by decide +kernel)⟩
theorem lw_p76 : lw_okq (⟨"ReactiveSheetModel", "need", "(I)V"⟩, 76) := ⟨⟨by decide +kernel, by decide +kernel⟩, List.mem_of_getElem? (i := 1096) (by decide +kernel), List.mem_of_getElem? (i := 1498) (by decide +kernel), List.mem_of_getElem? (i := 1499) (by decide +kernel)⟩
theorem lw_p77 : lw_okq (⟨"ReactiveSheetModel", "moved", "(III)Z"⟩, 76) := ⟨⟨by decide +kernel, by decide +kernel⟩, List.mem_of_getElem? (i := 1096) (by decide +kernel), List.mem_of_getElem? (i := 1510) (by decide +kernel), List.mem_of_getElem? (i := 1511) (by decide +kernel)⟩
theorem lw_p78 : lw_okq (⟨"ReactiveSheetModel", "batched", "()I"⟩, 76) := ⟨⟨by decide +kernel, by decide +kernel⟩, List.mem_of_getElem? (i := 1096) (by decide +kernel), List.mem_of_getElem? (i := 1530) (by decide +kernel), List.mem_of_getElem? (i := 1531) (by decide +kernel)⟩
theorem lw_p79 : lw_okq (⟨"ReactiveSheetModel", "tellHeights", "()V"⟩, 76) := ⟨⟨by decide +kernel, by decide +kernel⟩, List.mem_of_getElem? (i := 1096) (by decide +kernel), List.mem_of_getElem? (i := 1546) (by decide +kernel), List.mem_of_getElem? (i := 1547) (by decide +kernel)⟩
def lw_privs_5 : List (MethodName × Nat) := [(⟨"ReactiveSheetModel", "copies", "(II)V"⟩, 76), (⟨"ReactiveSheetModel", "reads", "(I)I"⟩, 76), (⟨"ReactiveSheetModel", "readE", "()I"⟩, 76), (⟨"ReactiveSheetModel", "readC", "()I"⟩, 76), (⟨"ReactiveSheetModel", "readS", "()I"⟩, 76), (⟨"ReactiveSheetModel", "readT", "()I"⟩, 76), (⟨"ReactiveSheetModel", "readF", "()I"⟩, 76), (⟨"ReactiveSheetModel", "isFigure", "()Z"⟩, 76), (⟨"ReactiveSheetModel", "number", "(III)I"⟩, 76), (⟨"ReactiveSheetModel", "node", "(IIII)I"⟩, 76), (⟨"ReactiveSheetModel", "takes", "(I)Z"⟩, 76), (⟨"ReactiveSheetModel", "isAt", "(I)Z"⟩, 76), (⟨"ReactiveSheetModel", "need", "(I)V"⟩, 76), (⟨"ReactiveSheetModel", "moved", "(III)Z"⟩, 76), (⟨"ReactiveSheetModel", "batched", "()I"⟩, 76), (⟨"ReactiveSheetModel", "tellHeights", "()V"⟩, 76)]
theorem lw_r5 : ∀ q ∈ lw_privs_5, lw_okq q := List.forall_mem_cons.mpr ⟨lw_p64, List.forall_mem_cons.mpr ⟨lw_p65, List.forall_mem_cons.mpr ⟨lw_p66, List.forall_mem_cons.mpr ⟨lw_p67, List.forall_mem_cons.mpr ⟨lw_p68, List.forall_mem_cons.mpr ⟨lw_p69, List.forall_mem_cons.mpr ⟨lw_p70, List.forall_mem_cons.mpr ⟨lw_p71, List.forall_mem_cons.mpr ⟨lw_p72, List.forall_mem_cons.mpr ⟨lw_p73, List.forall_mem_cons.mpr ⟨lw_p74, List.forall_mem_cons.mpr ⟨lw_p75, List.forall_mem_cons.mpr ⟨lw_p76, List.forall_mem_cons.mpr ⟨lw_p77, List.forall_mem_cons.mpr ⟨lw_p78, List.forall_mem_cons.mpr ⟨lw_p79, fun _ h => absurd h List.not_mem_nil⟩⟩⟩⟩⟩⟩⟩⟩⟩⟩⟩⟩⟩⟩⟩⟩
theorem lw_p80 : lw_okq (⟨"ReactiveSheetModel", "height", "(I)I"⟩, 76) := ⟨⟨by decide +kernel, by decide +kernel⟩, List.mem_of_getElem? (i := 1096) (by decide +kernel), List.mem_of_getElem? (i := 1550) (by decide +kernel), List.mem_of_getElem? (i := 1551) (by decide +kernel)⟩
theorem lw_p81 : lw_okq (⟨"ReactiveSheetModel", "below", "(I)I"⟩, 76) := ⟨⟨by decide +kernel, by decide +kernel⟩, List.mem_of_getElem? (i := 1096) (by decide +kernel), List.mem_of_getElem? (i := 1559) (by decide +kernel), List.mem_of_getElem? (i := 1560) (by decide +kernel)⟩
theorem lw_p82 : lw_okq (⟨"ReactiveSheetModel", "asIf", "(IJI)I"⟩, 76) := ⟨⟨by decide +kernel, by decide +kernel⟩, List.mem_of_getElem? (i := 1096) (by decide +kernel), List.mem_of_getElem? (i := 1583) (by decide +kernel), List.mem_of_getElem? (i := 1584) (by decide +kernel)⟩
theorem lw_p83 : lw_okq (⟨"ReactiveSheetModel", "writes", "(III)V"⟩, 76) := ⟨⟨by decide +kernel, by decide +kernel⟩, List.mem_of_getElem? (i := 1096) (by decide +kernel), List.mem_of_getElem? (i := 1600) (by decide +kernel), List.mem_of_getElem? (i := 1601) (by decide +kernel)⟩
theorem lw_p84 : lw_okq (⟨"ReactiveSheetModel", "write", "(I)V"⟩, 76) := ⟨⟨by decide +kernel, by decide +kernel⟩, List.mem_of_getElem? (i := 1096) (by decide +kernel), List.mem_of_getElem? (i := 1607) (by decide +kernel), List.mem_of_getElem? (i := 1608) (by decide +kernel)⟩
theorem lw_p85 : lw_okq (⟨"ReactiveSheetModel", "writeNumber", "(I)V"⟩, 76) := ⟨⟨by decide +kernel, by decide +kernel⟩, List.mem_of_getElem? (i := 1096) (by decide +kernel), List.mem_of_getElem? (i := 1611) (by decide +kernel), List.mem_of_getElem? (i := 1612) (by decide +kernel)⟩
theorem lw_p86 : lw_okq (⟨"ReactiveSheetModel", "movesAll", "(Z)V"⟩, 76) := ⟨⟨by decide +kernel, by decide +kernel⟩, List.mem_of_getElem? (i := 1096) (by decide +kernel), List.mem_of_getElem? (i := 1674) (by decide +kernel), List.mem_of_getElem? (i := 1675) (by decide +kernel)⟩
theorem lw_p87 : lw_okq (⟨"ReactiveSheetModel", "moves", "([IZ)V"⟩, 76) := ⟨⟨by decide +kernel, by decide +kernel⟩, List.mem_of_getElem? (i := 1096) (by decide +kernel), List.mem_of_getElem? (i := 1678) (by decide +kernel), List.mem_of_getElem? (i := 1679) (by decide +kernel)⟩
theorem lw_p88 : lw_okq (⟨"ReactiveSheetModel", "moves", "([ZZ)V"⟩, 76) := ⟨⟨by decide +kernel, by decide +kernel⟩, List.mem_of_getElem? (i := 1096) (by decide +kernel), List.mem_of_getElem? (i := 1682) (by decide +kernel), List.mem_of_getElem? (i := 1683) (by decide +kernel)⟩
theorem lw_p89 : lw_okq (⟨"ReactiveSheetModel", "moves", "([JZ)V"⟩, 76) := ⟨⟨by decide +kernel, by decide +kernel⟩, List.mem_of_getElem? (i := 1096) (by decide +kernel), List.mem_of_getElem? (i := 1686) (by decide +kernel), List.mem_of_getElem? (i := 1687) (by decide +kernel)⟩
theorem lw_p90 : lw_okq (⟨"ReactiveSheetModel", "present", "()I"⟩, 76) := ⟨⟨by decide +kernel, by decide +kernel⟩, List.mem_of_getElem? (i := 1096) (by decide +kernel), List.mem_of_getElem? (i := 1693) (by decide +kernel), List.mem_of_getElem? (i := 1694) (by decide +kernel)⟩
def lw_privs_6 : List (MethodName × Nat) := [(⟨"ReactiveSheetModel", "height", "(I)I"⟩, 76), (⟨"ReactiveSheetModel", "below", "(I)I"⟩, 76), (⟨"ReactiveSheetModel", "asIf", "(IJI)I"⟩, 76), (⟨"ReactiveSheetModel", "writes", "(III)V"⟩, 76), (⟨"ReactiveSheetModel", "write", "(I)V"⟩, 76), (⟨"ReactiveSheetModel", "writeNumber", "(I)V"⟩, 76), (⟨"ReactiveSheetModel", "movesAll", "(Z)V"⟩, 76), (⟨"ReactiveSheetModel", "moves", "([IZ)V"⟩, 76), (⟨"ReactiveSheetModel", "moves", "([ZZ)V"⟩, 76), (⟨"ReactiveSheetModel", "moves", "([JZ)V"⟩, 76), (⟨"ReactiveSheetModel", "present", "()I"⟩, 76)]
theorem lw_r6 : ∀ q ∈ lw_privs_6, lw_okq q := List.forall_mem_cons.mpr ⟨lw_p80, List.forall_mem_cons.mpr ⟨lw_p81, List.forall_mem_cons.mpr ⟨lw_p82, List.forall_mem_cons.mpr ⟨lw_p83, List.forall_mem_cons.mpr ⟨lw_p84, List.forall_mem_cons.mpr ⟨lw_p85, List.forall_mem_cons.mpr ⟨lw_p86, List.forall_mem_cons.mpr ⟨lw_p87, List.forall_mem_cons.mpr ⟨lw_p88, List.forall_mem_cons.mpr ⟨lw_p89, List.forall_mem_cons.mpr ⟨lw_p90, fun _ h => absurd h List.not_mem_nil⟩⟩⟩⟩⟩⟩⟩⟩⟩⟩⟩
def lw_privs : List (MethodName × Nat) := lw_privs_1 ++ (lw_privs_2 ++ (lw_privs_3 ++ (lw_privs_4 ++ (lw_privs_5 ++ (lw_privs_6)))))
def lw_tbl : List Cond := k2_sels lw_privs ++ tables_1
theorem lw_privs_ok : ∀ q ∈ lw_privs, lw_okq q := by
  show ∀ q ∈ lw_privs_1 ++ (lw_privs_2 ++ (lw_privs_3 ++ (lw_privs_4 ++ (lw_privs_5 ++ (lw_privs_6))))), lw_okq q
  exact List.forall_mem_append.mpr ⟨lw_r1, List.forall_mem_append.mpr ⟨lw_r2, List.forall_mem_append.mpr ⟨lw_r3, List.forall_mem_append.mpr ⟨lw_r4, List.forall_mem_append.mpr ⟨lw_r5, lw_r6⟩⟩⟩⟩⟩

def RX0 : String := "ReactiveSheet$Cells"
def TX0 : u_T := fun k => match k with
  | 0 => ("ReactiveSheet$Cells", "kinds", "[I", true)
  | 1 => ("ReactiveSheet$Cells", "numbers", "[J", true)
  | 2 => ("ReactiveSheet$Cells", "errors", "[I", true)
  | 3 => ("ReactiveSheet$Cells", "formulas", "[LReactiveSheet$Formula;", true)
  | 4 => ("ReactiveSheet$Cells", "runs", "[I", true)
  | 5 => ("ReactiveSheet$Cells", "heights", "[I", true)
  | 6 => ("ReactiveSheet$Cells", "causes", "[I", true)
  | 7 => ("ReactiveSheet$Cells", "reads", "[I", true)
  | 8 => ("ReactiveSheet$Cells", "readCounts", "[I", true)
  | 9 => ("ReactiveSheet$Cells", "readBits", "[J", true)
  | 10 => ("ReactiveSheet$Cells", "changed", "J", false)
  | _ => ("ReactiveSheet$Cells", "ran", "J", false)
def tyX0 : Nat → FieldType := fun k => match k with
  | 0 => .array .int
  | 1 => .array .long
  | 2 => .array .int
  | 3 => .array (.object "ReactiveSheet$Formula")
  | 4 => .array .int
  | 5 => .array .int
  | 6 => .array .int
  | 7 => .array .int
  | 8 => .array .int
  | 9 => .array .long
  | 10 => .long
  | _ => .long
theorem nmX0 : ∀ a, a < 12 → ∀ b, b < 12 → a ≠ b → (TX0 a).2.1 ≠ (TX0 b).2.1 := by decide +kernel
theorem tyX0_ok : ∀ k, k < 12 → parseFieldDescriptor (TX0 k).2.2.1 = some (tyX0 k) := by decide +kernel
def RX1 : String := "ReactiveSheet$Engine"
def TX1 : u_T := fun k => match k with
  | 0 => ("ReactiveSheet$Engine", "now", "LReactiveSheet$Cells;", true)
  | 1 => ("ReactiveSheet$Engine", "before", "LReactiveSheet$Cells;", true)
  | 2 => ("ReactiveSheet$Engine", "results", "[J", true)
  | 3 => ("ReactiveSheet$Engine", "fresh", "J", false)
  | 4 => ("ReactiveSheet$Engine", "settled", "J", false)
  | 5 => ("ReactiveSheet$Engine", "open", "J", false)
  | 6 => ("ReactiveSheet$Engine", "ring", "Z", false)
  | _ => ("ReactiveSheet$Engine", "number", "J", false)
def tyX1 : Nat → FieldType := fun k => match k with
  | 0 => .object "ReactiveSheet$Cells"
  | 1 => .object "ReactiveSheet$Cells"
  | 2 => .array .long
  | 3 => .long
  | 4 => .long
  | 5 => .long
  | 6 => .boolean
  | _ => .long
theorem nmX1 : ∀ a, a < 8 → ∀ b, b < 8 → a ≠ b → (TX1 a).2.1 ≠ (TX1 b).2.1 := by decide +kernel
theorem tyX1_ok : ∀ k, k < 8 → parseFieldDescriptor (TX1 k).2.2.1 = some (tyX1 k) := by decide +kernel
def RX2 : String := "ReactiveSheet$Formula"
def TX2 : u_T := fun k => match k with
  | 0 => ("ReactiveSheet$Formula", "root", "I", true)
  | 1 => ("ReactiveSheet$Formula", "kinds", "[I", true)
  | 2 => ("ReactiveSheet$Formula", "firsts", "[I", true)
  | 3 => ("ReactiveSheet$Formula", "seconds", "[I", true)
  | 4 => ("ReactiveSheet$Formula", "thirds", "[I", true)
  | _ => ("ReactiveSheet$Formula", "rescues", "[I", true)
def tyX2 : Nat → FieldType := fun k => match k with
  | 0 => .int
  | 1 => .array .int
  | 2 => .array .int
  | 3 => .array .int
  | 4 => .array .int
  | _ => .array .int
theorem nmX2 : ∀ a, a < 6 → ∀ b, b < 6 → a ≠ b → (TX2 a).2.1 ≠ (TX2 b).2.1 := by decide +kernel
theorem tyX2_ok : ∀ k, k < 6 → parseFieldDescriptor (TX2 k).2.2.1 = some (tyX2 k) := by decide +kernel
def RX3 : String := "ReactiveSheet$History"
def TX3 : u_T := fun k => match k with
  | 0 => ("ReactiveSheet$History", "facts", "[I", true)
  | _ => ("ReactiveSheet$History", "waves", "I", false)
def tyX3 : Nat → FieldType := fun k => match k with
  | 0 => .array .int
  | _ => .int
theorem nmX3 : ∀ a, a < 2 → ∀ b, b < 2 → a ≠ b → (TX3 a).2.1 ≠ (TX3 b).2.1 := by decide +kernel
theorem tyX3_ok : ∀ k, k < 2 → parseFieldDescriptor (TX3 k).2.2.1 = some (tyX3 k) := by decide +kernel
def RX4 : String := "ReactiveSheet$Lists"
def TX4 : u_T := fun k => match k with
  | 0 => ("ReactiveSheet$Lists", "places", "[J", true)
  | _ => ("ReactiveSheet$Lists", "sizes", "[I", true)
def tyX4 : Nat → FieldType := fun k => match k with
  | 0 => .array .long
  | _ => .array .int
theorem nmX4 : ∀ a, a < 2 → ∀ b, b < 2 → a ≠ b → (TX4 a).2.1 ≠ (TX4 b).2.1 := by decide +kernel
theorem tyX4_ok : ∀ k, k < 2 → parseFieldDescriptor (TX4 k).2.2.1 = some (tyX4 k) := by decide +kernel
def RX5 : String := "ReactiveSheet$Parser"
def TX5 : u_T := fun k => match k with
  | 0 => ("ReactiveSheet$Parser", "tape", "[I", true)
  | 1 => ("ReactiveSheet$Parser", "kinds", "[I", true)
  | 2 => ("ReactiveSheet$Parser", "firsts", "[I", true)
  | 3 => ("ReactiveSheet$Parser", "seconds", "[I", true)
  | 4 => ("ReactiveSheet$Parser", "thirds", "[I", true)
  | 5 => ("ReactiveSheet$Parser", "rescues", "[I", true)
  | 6 => ("ReactiveSheet$Parser", "length", "I", false)
  | 7 => ("ReactiveSheet$Parser", "place", "I", false)
  | 8 => ("ReactiveSheet$Parser", "fault", "I", false)
  | _ => ("ReactiveSheet$Parser", "nodes", "I", false)
def tyX5 : Nat → FieldType := fun k => match k with
  | 0 => .array .int
  | 1 => .array .int
  | 2 => .array .int
  | 3 => .array .int
  | 4 => .array .int
  | 5 => .array .int
  | 6 => .int
  | 7 => .int
  | 8 => .int
  | _ => .int
theorem nmX5 : ∀ a, a < 10 → ∀ b, b < 10 → a ≠ b → (TX5 a).2.1 ≠ (TX5 b).2.1 := by decide +kernel
theorem tyX5_ok : ∀ k, k < 10 → parseFieldDescriptor (TX5 k).2.2.1 = some (tyX5 k) := by decide +kernel
def RX6 : String := "ReactiveSheet$Speller"
def TX6 : u_T := fun k => match k with
  | 0 => ("ReactiveSheet$Speller", "paper", "[I", true)
  | 1 => ("ReactiveSheet$Speller", "work", "[I", true)
  | 2 => ("ReactiveSheet$Speller", "length", "I", false)
  | _ => ("ReactiveSheet$Speller", "waiting", "I", false)
def tyX6 : Nat → FieldType := fun k => match k with
  | 0 => .array .int
  | 1 => .array .int
  | 2 => .int
  | _ => .int
theorem nmX6 : ∀ a, a < 4 → ∀ b, b < 4 → a ≠ b → (TX6 a).2.1 ≠ (TX6 b).2.1 := by decide +kernel
theorem tyX6_ok : ∀ k, k < 4 → parseFieldDescriptor (TX6 k).2.2.1 = some (tyX6 k) := by decide +kernel
def RX7 : String := "ReactiveSheet$Telling"
def TX7 : u_T := fun k => match k with
  | 0 => ("ReactiveSheet$Telling", "kinds", "[I", true)
  | 1 => ("ReactiveSheet$Telling", "numbers", "[J", true)
  | 2 => ("ReactiveSheet$Telling", "formulas", "[LReactiveSheet$Formula;", true)
  | _ => ("ReactiveSheet$Telling", "cells", "J", false)
def tyX7 : Nat → FieldType := fun k => match k with
  | 0 => .array .int
  | 1 => .array .long
  | 2 => .array (.object "ReactiveSheet$Formula")
  | _ => .long
theorem nmX7 : ∀ a, a < 4 → ∀ b, b < 4 → a ≠ b → (TX7 a).2.1 ≠ (TX7 b).2.1 := by decide +kernel
theorem tyX7_ok : ∀ k, k < 4 → parseFieldDescriptor (TX7 k).2.2.1 = some (tyX7 k) := by decide +kernel
def RX8 : String := "ReactiveSheet$Trail"
def TX8 : u_T := fun k => match k with
  | 0 => ("ReactiveSheet$Trail", "met", "[I", true)
  | _ => ("ReactiveSheet$Trail", "onward", "[I", true)
def tyX8 : Nat → FieldType := fun k => match k with
  | 0 => .array .int
  | _ => .array .int
theorem nmX8 : ∀ a, a < 2 → ∀ b, b < 2 → a ≠ b → (TX8 a).2.1 ≠ (TX8 b).2.1 := by decide +kernel
theorem tyX8_ok : ∀ k, k < 2 → parseFieldDescriptor (TX8 k).2.2.1 = some (tyX8 k) := by decide +kernel
def RX9 : String := "ReactiveSheet$Watching"
def TX9 : u_T := fun k => match k with
  | 0 => ("ReactiveSheet$Watching", "cells", "[I", true)
  | 1 => ("ReactiveSheet$Watching", "kinds", "[I", true)
  | 2 => ("ReactiveSheet$Watching", "bounds", "[J", true)
  | 3 => ("ReactiveSheet$Watching", "joined", "I", false)
  | 4 => ("ReactiveSheet$Watching", "telling", "J", false)
  | 5 => ("ReactiveSheet$Watching", "who", "[I", true)
  | 6 => ("ReactiveSheet$Watching", "oldErrors", "[I", true)
  | 7 => ("ReactiveSheet$Watching", "newErrors", "[I", true)
  | 8 => ("ReactiveSheet$Watching", "oldNumbers", "[J", true)
  | 9 => ("ReactiveSheet$Watching", "newNumbers", "[J", true)
  | 10 => ("ReactiveSheet$Watching", "oldest", "I", false)
  | _ => ("ReactiveSheet$Watching", "entries", "I", false)
def tyX9 : Nat → FieldType := fun k => match k with
  | 0 => .array .int
  | 1 => .array .int
  | 2 => .array .long
  | 3 => .int
  | 4 => .long
  | 5 => .array .int
  | 6 => .array .int
  | 7 => .array .int
  | 8 => .array .long
  | 9 => .array .long
  | 10 => .int
  | _ => .int
theorem nmX9 : ∀ a, a < 12 → ∀ b, b < 12 → a ≠ b → (TX9 a).2.1 ≠ (TX9 b).2.1 := by decide +kernel
theorem tyX9_ok : ∀ k, k < 12 → parseFieldDescriptor (TX9 k).2.2.1 = some (tyX9 k) := by decide +kernel
def RX10 : String := "ReactiveSheet"
def TX10 : u_T := fun k => match k with
  | 0 => ("ReactiveSheet", "parser", "LReactiveSheet$Parser;", true)
  | 1 => ("ReactiveSheet", "speller", "LReactiveSheet$Speller;", true)
  | 2 => ("ReactiveSheet", "engine", "LReactiveSheet$Engine;", true)
  | 3 => ("ReactiveSheet", "telling", "LReactiveSheet$Telling;", true)
  | 4 => ("ReactiveSheet", "trial", "LReactiveSheet$Telling;", true)
  | 5 => ("ReactiveSheet", "watching", "LReactiveSheet$Watching;", true)
  | 6 => ("ReactiveSheet", "history", "LReactiveSheet$History;", true)
  | 7 => ("ReactiveSheet", "lists", "LReactiveSheet$Lists;", true)
  | 8 => ("ReactiveSheet", "trail", "LReactiveSheet$Trail;", true)
  | 9 => ("ReactiveSheet", "keptCells", "LReactiveSheet$Cells;", true)
  | 10 => ("ReactiveSheet", "keptWatching", "LReactiveSheet$Watching;", true)
  | 11 => ("ReactiveSheet", "batch", "Z", false)
  | _ => ("ReactiveSheet", "kept", "Z", false)
def tyX10 : Nat → FieldType := fun k => match k with
  | 0 => .object "ReactiveSheet$Parser"
  | 1 => .object "ReactiveSheet$Speller"
  | 2 => .object "ReactiveSheet$Engine"
  | 3 => .object "ReactiveSheet$Telling"
  | 4 => .object "ReactiveSheet$Telling"
  | 5 => .object "ReactiveSheet$Watching"
  | 6 => .object "ReactiveSheet$History"
  | 7 => .object "ReactiveSheet$Lists"
  | 8 => .object "ReactiveSheet$Trail"
  | 9 => .object "ReactiveSheet$Cells"
  | 10 => .object "ReactiveSheet$Watching"
  | 11 => .boolean
  | _ => .boolean
theorem nmX10 : ∀ a, a < 13 → ∀ b, b < 13 → a ≠ b → (TX10 a).2.1 ≠ (TX10 b).2.1 := by decide +kernel
theorem tyX10_ok : ∀ k, k < 13 → parseFieldDescriptor (TX10 k).2.2.1 = some (tyX10 k) := by decide +kernel
def RX11 : String := "ReactiveSheetModel"
def TX11 : u_T := fun k => match k with
  | 0 => ("ReactiveSheetModel", "kind", "[I", true)
  | 1 => ("ReactiveSheetModel", "error", "[I", true)
  | 2 => ("ReactiveSheetModel", "runs", "[I", true)
  | 3 => ("ReactiveSheetModel", "many", "[I", true)
  | 4 => ("ReactiveSheetModel", "cause", "[I", true)
  | 5 => ("ReactiveSheetModel", "root", "[I", true)
  | 6 => ("ReactiveSheetModel", "value", "[J", true)
  | 7 => ("ReactiveSheetModel", "reads", "[I", true)
  | 8 => ("ReactiveSheetModel", "changed", "[Z", true)
  | 9 => ("ReactiveSheetModel", "ran", "[Z", true)
  | 10 => ("ReactiveSheetModel", "sign", "[I", true)
  | 11 => ("ReactiveSheetModel", "one", "[I", true)
  | 12 => ("ReactiveSheetModel", "two", "[I", true)
  | 13 => ("ReactiveSheetModel", "three", "[I", true)
  | 14 => ("ReactiveSheetModel", "isTold", "[Z", true)
  | 15 => ("ReactiveSheetModel", "isBatched", "[Z", true)
  | 16 => ("ReactiveSheetModel", "toldKind", "[I", true)
  | 17 => ("ReactiveSheetModel", "toldRoot", "[I", true)
  | 18 => ("ReactiveSheetModel", "batchKind", "[I", true)
  | 19 => ("ReactiveSheetModel", "batchRoot", "[I", true)
  | 20 => ("ReactiveSheetModel", "toldValue", "[J", true)
  | 21 => ("ReactiveSheetModel", "batchValue", "[J", true)
  | 22 => ("ReactiveSheetModel", "isBatch", "Z", false)
  | 23 => ("ReactiveSheetModel", "wasKind", "[I", true)
  | 24 => ("ReactiveSheetModel", "wasError", "[I", true)
  | 25 => ("ReactiveSheetModel", "wasRuns", "[I", true)
  | 26 => ("ReactiveSheetModel", "wasMany", "[I", true)
  | 27 => ("ReactiveSheetModel", "wasCause", "[I", true)
  | 28 => ("ReactiveSheetModel", "wasRoot", "[I", true)
  | 29 => ("ReactiveSheetModel", "wasReads", "[I", true)
  | 30 => ("ReactiveSheetModel", "wasValue", "[J", true)
  | 31 => ("ReactiveSheetModel", "wasChanged", "[Z", true)
  | 32 => ("ReactiveSheetModel", "wasRan", "[Z", true)
  | 33 => ("ReactiveSheetModel", "settled", "[I", true)
  | 34 => ("ReactiveSheetModel", "ring", "Z", false)
  | 35 => ("ReactiveSheetModel", "running", "I", false)
  | 36 => ("ReactiveSheetModel", "ranInWave", "I", false)
  | 37 => ("ReactiveSheetModel", "fails", "I", false)
  | 38 => ("ReactiveSheetModel", "tape", "[I", true)
  | 39 => ("ReactiveSheetModel", "paper", "[I", true)
  | 40 => ("ReactiveSheetModel", "tapeSize", "I", false)
  | 41 => ("ReactiveSheetModel", "paperSize", "I", false)
  | 42 => ("ReactiveSheetModel", "at", "I", false)
  | 43 => ("ReactiveSheetModel", "fault", "I", false)
  | 44 => ("ReactiveSheetModel", "within", "I", false)
  | 45 => ("ReactiveSheetModel", "base", "I", false)
  | 46 => ("ReactiveSheetModel", "nodes", "I", false)
  | 47 => ("ReactiveSheetModel", "watchers", "I", false)
  | 48 => ("ReactiveSheetModel", "logs", "I", false)
  | 49 => ("ReactiveSheetModel", "waves", "I", false)
  | 50 => ("ReactiveSheetModel", "pasts", "I", false)
  | 51 => ("ReactiveSheetModel", "lastRan", "I", false)
  | 52 => ("ReactiveSheetModel", "lastChanged", "I", false)
  | 53 => ("ReactiveSheetModel", "watched", "[I", true)
  | 54 => ("ReactiveSheetModel", "watchKind", "[I", true)
  | 55 => ("ReactiveSheetModel", "logBy", "[I", true)
  | 56 => ("ReactiveSheetModel", "logWas", "[I", true)
  | 57 => ("ReactiveSheetModel", "logIs", "[I", true)
  | 58 => ("ReactiveSheetModel", "quit", "[Z", true)
  | 59 => ("ReactiveSheetModel", "bound", "[J", true)
  | 60 => ("ReactiveSheetModel", "logWasValue", "[J", true)
  | 61 => ("ReactiveSheetModel", "logIsValue", "[J", true)
  | 62 => ("ReactiveSheetModel", "past", "[I", true)
  | 63 => ("ReactiveSheetModel", "lists", "[J", true)
  | 64 => ("ReactiveSheetModel", "listSize", "[I", true)
  | 65 => ("ReactiveSheetModel", "isKept", "Z", false)
  | 66 => ("ReactiveSheetModel", "kept", "[I", true)
  | 67 => ("ReactiveSheetModel", "keptLongs", "[J", true)
  | 68 => ("ReactiveSheetModel", "keptAt", "I", false)
  | 69 => ("ReactiveSheetModel", "keptLongAt", "I", false)
  | 70 => ("ReactiveSheetModel", "heights", "[I", true)
  | 71 => ("ReactiveSheetModel", "met", "[I", true)
  | 72 => ("ReactiveSheetModel", "by", "[I", true)
  | 73 => ("ReactiveSheetModel", "sought", "J", false)
  | 74 => ("ReactiveSheetModel", "soughtError", "I", false)
  | _ => ("ReactiveSheetModel", "counts", "[I", true)
def tyX11 : Nat → FieldType := fun k => match k with
  | 0 => .array .int
  | 1 => .array .int
  | 2 => .array .int
  | 3 => .array .int
  | 4 => .array .int
  | 5 => .array .int
  | 6 => .array .long
  | 7 => .array .int
  | 8 => .array .boolean
  | 9 => .array .boolean
  | 10 => .array .int
  | 11 => .array .int
  | 12 => .array .int
  | 13 => .array .int
  | 14 => .array .boolean
  | 15 => .array .boolean
  | 16 => .array .int
  | 17 => .array .int
  | 18 => .array .int
  | 19 => .array .int
  | 20 => .array .long
  | 21 => .array .long
  | 22 => .boolean
  | 23 => .array .int
  | 24 => .array .int
  | 25 => .array .int
  | 26 => .array .int
  | 27 => .array .int
  | 28 => .array .int
  | 29 => .array .int
  | 30 => .array .long
  | 31 => .array .boolean
  | 32 => .array .boolean
  | 33 => .array .int
  | 34 => .boolean
  | 35 => .int
  | 36 => .int
  | 37 => .int
  | 38 => .array .int
  | 39 => .array .int
  | 40 => .int
  | 41 => .int
  | 42 => .int
  | 43 => .int
  | 44 => .int
  | 45 => .int
  | 46 => .int
  | 47 => .int
  | 48 => .int
  | 49 => .int
  | 50 => .int
  | 51 => .int
  | 52 => .int
  | 53 => .array .int
  | 54 => .array .int
  | 55 => .array .int
  | 56 => .array .int
  | 57 => .array .int
  | 58 => .array .boolean
  | 59 => .array .long
  | 60 => .array .long
  | 61 => .array .long
  | 62 => .array .int
  | 63 => .array .long
  | 64 => .array .int
  | 65 => .boolean
  | 66 => .array .int
  | 67 => .array .long
  | 68 => .int
  | 69 => .int
  | 70 => .array .int
  | 71 => .array .int
  | 72 => .array .int
  | 73 => .long
  | 74 => .int
  | _ => .array .int
theorem nmX11 : ∀ a, a < 76 → ∀ b, b < 76 → a ≠ b → (TX11 a).2.1 ≠ (TX11 b).2.1 := by decide +kernel
theorem tyX11_ok : ∀ k, k < 76 → parseFieldDescriptor (TX11 k).2.2.1 = some (tyX11 k) := by decide +kernel
abbrev classes : List vw_C := [(RX0, TX0, 12), (RX1, TX1, 8), (RX2, TX2, 6), (RX3, TX3, 2), (RX4, TX4, 2), (RX5, TX5, 10), (RX6, TX6, 4), (RX7, TX7, 4), (RX8, TX8, 2), (RX9, TX9, 12), (RX10, TX10, 13), (RX11, TX11, 76)]
set_option maxRecDepth 20000 in
theorem inX0 : ∀ w ∈ u_ws RX0 TX0 12, w ∈ lw_tbl.filter goodWord := by decide +kernel
set_option maxRecDepth 20000 in
theorem inX1 : ∀ w ∈ u_ws RX1 TX1 8, w ∈ lw_tbl.filter goodWord := by decide +kernel
set_option maxRecDepth 20000 in
theorem inX2 : ∀ w ∈ u_ws RX2 TX2 6, w ∈ lw_tbl.filter goodWord := by decide +kernel
set_option maxRecDepth 20000 in
theorem inX3 : ∀ w ∈ u_ws RX3 TX3 2, w ∈ lw_tbl.filter goodWord := by decide +kernel
set_option maxRecDepth 20000 in
theorem inX4 : ∀ w ∈ u_ws RX4 TX4 2, w ∈ lw_tbl.filter goodWord := by decide +kernel
set_option maxRecDepth 20000 in
theorem inX5 : ∀ w ∈ u_ws RX5 TX5 10, w ∈ lw_tbl.filter goodWord := by decide +kernel
set_option maxRecDepth 20000 in
theorem inX6 : ∀ w ∈ u_ws RX6 TX6 4, w ∈ lw_tbl.filter goodWord := by decide +kernel
set_option maxRecDepth 20000 in
theorem inX7 : ∀ w ∈ u_ws RX7 TX7 4, w ∈ lw_tbl.filter goodWord := by decide +kernel
set_option maxRecDepth 20000 in
theorem inX8 : ∀ w ∈ u_ws RX8 TX8 2, w ∈ lw_tbl.filter goodWord := by decide +kernel
set_option maxRecDepth 20000 in
theorem inX9 : ∀ w ∈ u_ws RX9 TX9 12, w ∈ lw_tbl.filter goodWord := by decide +kernel
set_option maxRecDepth 20000 in
theorem inX10 : ∀ w ∈ u_ws RX10 TX10 13, w ∈ lw_tbl.filter goodWord := by decide +kernel
set_option maxRecDepth 20000 in
theorem inX11 : ∀ w ∈ u_ws RX11 TX11 76, w ∈ lw_tbl.filter goodWord := by decide +kernel
