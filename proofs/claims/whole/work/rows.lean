section
-- ===== PART A: goes FIRST, ahead of the names: the tables' words, and 'selects' of the private methods out of them =====
/-- a private method of a class that the tables say can be made, by its rows of tables_1 -/
def lw_okq (q : MethodName × Nat) : Prop := (q.1.cls ≠ "java/lang/invoke/MethodHandle" ∧ q.1.cls ≠ "java/lang/invoke/VarHandle") ∧ Cond.instantiable q.1.cls q.2 ∈ tables_1 ∧ Cond.privateMethod q.1 ∈ tables_1 ∧ Cond.instanceMethod q.1 ∈ tables_1
theorem lw_p0 : lw_okq (⟨"ReportWriter", "isKindOfLevel", "(II)Z"⟩, 16) := ⟨⟨by decide +kernel, by decide +kernel⟩, List.mem_of_getElem? (i := 22) (by decide +kernel), List.mem_of_getElem? (i := 135) (by decide +kernel), List.mem_of_getElem? (i := 136) (by decide +kernel)⟩
theorem lw_p1 : lw_okq (⟨"ReportWriter", "groupOf", "(II)LReportWriter$Group;"⟩, 16) := ⟨⟨by decide +kernel, by decide +kernel⟩, List.mem_of_getElem? (i := 22) (by decide +kernel), List.mem_of_getElem? (i := 139) (by decide +kernel), List.mem_of_getElem? (i := 140) (by decide +kernel)⟩
theorem lw_p2 : lw_okq (⟨"java/util/ArrayList", "add", "(Ljava/lang/Object;[Ljava/lang/Object;I)V"⟩, 3) := ⟨⟨by decide +kernel, by decide +kernel⟩, List.mem_of_getElem? (i := 30) (by decide +kernel), List.mem_of_getElem? (i := 212) (by decide +kernel), List.mem_of_getElem? (i := 213) (by decide +kernel)⟩
theorem lw_p3 : lw_okq (⟨"java/util/ArrayList", "grow", "()[Ljava/lang/Object;"⟩, 3) := ⟨⟨by decide +kernel, by decide +kernel⟩, List.mem_of_getElem? (i := 30) (by decide +kernel), List.mem_of_getElem? (i := 216) (by decide +kernel), List.mem_of_getElem? (i := 217) (by decide +kernel)⟩
theorem lw_p4 : lw_okq (⟨"java/util/ArrayList", "grow", "(I)[Ljava/lang/Object;"⟩, 3) := ⟨⟨by decide +kernel, by decide +kernel⟩, List.mem_of_getElem? (i := 30) (by decide +kernel), List.mem_of_getElem? (i := 220) (by decide +kernel), List.mem_of_getElem? (i := 221) (by decide +kernel)⟩
theorem lw_p5 : lw_okq (⟨"ReportWriter", "groupNumbered", "(I)LReportWriter$Group;"⟩, 16) := ⟨⟨by decide +kernel, by decide +kernel⟩, List.mem_of_getElem? (i := 22) (by decide +kernel), List.mem_of_getElem? (i := 263) (by decide +kernel), List.mem_of_getElem? (i := 264) (by decide +kernel)⟩
theorem lw_p6 : lw_okq (⟨"ReportWriter", "fitsWithLine", "(LReportWriter$Group;IZ)Z"⟩, 16) := ⟨⟨by decide +kernel, by decide +kernel⟩, List.mem_of_getElem? (i := 22) (by decide +kernel), List.mem_of_getElem? (i := 267) (by decide +kernel), List.mem_of_getElem? (i := 268) (by decide +kernel)⟩
theorem lw_p7 : lw_okq (⟨"ReportWriter", "startOnNewPage", "(IIZ)I"⟩, 16) := ⟨⟨by decide +kernel, by decide +kernel⟩, List.mem_of_getElem? (i := 22) (by decide +kernel), List.mem_of_getElem? (i := 271) (by decide +kernel), List.mem_of_getElem? (i := 272) (by decide +kernel)⟩
theorem lw_p8 : lw_okq (⟨"ReportWriter", "topmostLine", "(I)I"⟩, 16) := ⟨⟨by decide +kernel, by decide +kernel⟩, List.mem_of_getElem? (i := 22) (by decide +kernel), List.mem_of_getElem? (i := 278) (by decide +kernel), List.mem_of_getElem? (i := 279) (by decide +kernel)⟩
theorem lw_p9 : lw_okq (⟨"ReportWriter", "lowestLine", "(I)I"⟩, 16) := ⟨⟨by decide +kernel, by decide +kernel⟩, List.mem_of_getElem? (i := 22) (by decide +kernel), List.mem_of_getElem? (i := 282) (by decide +kernel), List.mem_of_getElem? (i := 283) (by decide +kernel)⟩
theorem lw_p10 : lw_okq (⟨"ReportWriter", "isSummable", "(II)Z"⟩, 16) := ⟨⟨by decide +kernel, by decide +kernel⟩, List.mem_of_getElem? (i := 22) (by decide +kernel), List.mem_of_getElem? (i := 299) (by decide +kernel), List.mem_of_getElem? (i := 300) (by decide +kernel)⟩
theorem lw_p11 : lw_okq (⟨"ReportWriter", "sumNumbered", "(I)LReportWriter$Sum;"⟩, 16) := ⟨⟨by decide +kernel, by decide +kernel⟩, List.mem_of_getElem? (i := 22) (by decide +kernel), List.mem_of_getElem? (i := 303) (by decide +kernel), List.mem_of_getElem? (i := 304) (by decide +kernel)⟩
theorem lw_p12 : lw_okq (⟨"ReportWriter", "changedLevel", "()I"⟩, 16) := ⟨⟨by decide +kernel, by decide +kernel⟩, List.mem_of_getElem? (i := 22) (by decide +kernel), List.mem_of_getElem? (i := 354) (by decide +kernel), List.mem_of_getElem? (i := 355) (by decide +kernel)⟩
theorem lw_p13 : lw_okq (⟨"ReportWriter", "printOnOwnPage", "(LReportWriter$Group;)V"⟩, 16) := ⟨⟨by decide +kernel, by decide +kernel⟩, List.mem_of_getElem? (i := 22) (by decide +kernel), List.mem_of_getElem? (i := 358) (by decide +kernel), List.mem_of_getElem? (i := 359) (by decide +kernel)⟩
theorem lw_p14 : lw_okq (⟨"ReportWriter", "countPage", "()V"⟩, 16) := ⟨⟨by decide +kernel, by decide +kernel⟩, List.mem_of_getElem? (i := 22) (by decide +kernel), List.mem_of_getElem? (i := 366) (by decide +kernel), List.mem_of_getElem? (i := 367) (by decide +kernel)⟩
theorem lw_p15 : lw_okq (⟨"ReportWriter", "printFrom", "(ILReportWriter$Group;J)V"⟩, 16) := ⟨⟨by decide +kernel, by decide +kernel⟩, List.mem_of_getElem? (i := 22) (by decide +kernel), List.mem_of_getElem? (i := 370) (by decide +kernel), List.mem_of_getElem? (i := 371) (by decide +kernel)⟩
def lw_privs_1 : List (MethodName × Nat) := [(⟨"ReportWriter", "isKindOfLevel", "(II)Z"⟩, 16), (⟨"ReportWriter", "groupOf", "(II)LReportWriter$Group;"⟩, 16), (⟨"java/util/ArrayList", "add", "(Ljava/lang/Object;[Ljava/lang/Object;I)V"⟩, 3), (⟨"java/util/ArrayList", "grow", "()[Ljava/lang/Object;"⟩, 3), (⟨"java/util/ArrayList", "grow", "(I)[Ljava/lang/Object;"⟩, 3), (⟨"ReportWriter", "groupNumbered", "(I)LReportWriter$Group;"⟩, 16), (⟨"ReportWriter", "fitsWithLine", "(LReportWriter$Group;IZ)Z"⟩, 16), (⟨"ReportWriter", "startOnNewPage", "(IIZ)I"⟩, 16), (⟨"ReportWriter", "topmostLine", "(I)I"⟩, 16), (⟨"ReportWriter", "lowestLine", "(I)I"⟩, 16), (⟨"ReportWriter", "isSummable", "(II)Z"⟩, 16), (⟨"ReportWriter", "sumNumbered", "(I)LReportWriter$Sum;"⟩, 16), (⟨"ReportWriter", "changedLevel", "()I"⟩, 16), (⟨"ReportWriter", "printOnOwnPage", "(LReportWriter$Group;)V"⟩, 16), (⟨"ReportWriter", "countPage", "()V"⟩, 16), (⟨"ReportWriter", "printFrom", "(ILReportWriter$Group;J)V"⟩, 16)]
theorem lw_r1 : ∀ q ∈ lw_privs_1, lw_okq q := List.forall_mem_cons.mpr ⟨lw_p0, List.forall_mem_cons.mpr ⟨lw_p1, List.forall_mem_cons.mpr ⟨lw_p2, List.forall_mem_cons.mpr ⟨lw_p3, List.forall_mem_cons.mpr ⟨lw_p4, List.forall_mem_cons.mpr ⟨lw_p5, List.forall_mem_cons.mpr ⟨lw_p6, List.forall_mem_cons.mpr ⟨lw_p7, List.forall_mem_cons.mpr ⟨lw_p8, List.forall_mem_cons.mpr ⟨lw_p9, List.forall_mem_cons.mpr ⟨lw_p10, List.forall_mem_cons.mpr ⟨lw_p11, List.forall_mem_cons.mpr ⟨lw_p12, List.forall_mem_cons.mpr ⟨lw_p13, List.forall_mem_cons.mpr ⟨lw_p14, List.forall_mem_cons.mpr ⟨lw_p15, fun _ h => absurd h List.not_mem_nil⟩⟩⟩⟩⟩⟩⟩⟩⟩⟩⟩⟩⟩⟩⟩⟩
theorem lw_p16 : lw_okq (⟨"ReportWriter", "beginPage", "()V"⟩, 16) := ⟨⟨by decide +kernel, by decide +kernel⟩, List.mem_of_getElem? (i := 22) (by decide +kernel), List.mem_of_getElem? (i := 392) (by decide +kernel), List.mem_of_getElem? (i := 393) (by decide +kernel)⟩
theorem lw_p17 : lw_okq (⟨"ReportWriter", "printOutsideBody", "(LReportWriter$Group;)V"⟩, 16) := ⟨⟨by decide +kernel, by decide +kernel⟩, List.mem_of_getElem? (i := 22) (by decide +kernel), List.mem_of_getElem? (i := 396) (by decide +kernel), List.mem_of_getElem? (i := 397) (by decide +kernel)⟩
theorem lw_p18 : lw_okq (⟨"ReportWriter", "printControlHeads", "(I)V"⟩, 16) := ⟨⟨by decide +kernel, by decide +kernel⟩, List.mem_of_getElem? (i := 22) (by decide +kernel), List.mem_of_getElem? (i := 400) (by decide +kernel), List.mem_of_getElem? (i := 401) (by decide +kernel)⟩
theorem lw_p19 : lw_okq (⟨"ReportWriter", "printInBody", "(LReportWriter$Group;J)V"⟩, 16) := ⟨⟨by decide +kernel, by decide +kernel⟩, List.mem_of_getElem? (i := 22) (by decide +kernel), List.mem_of_getElem? (i := 404) (by decide +kernel), List.mem_of_getElem? (i := 405) (by decide +kernel)⟩
theorem lw_p20 : lw_okq (⟨"ReportWriter", "startInBody", "(LReportWriter$Group;)I"⟩, 16) := ⟨⟨by decide +kernel, by decide +kernel⟩, List.mem_of_getElem? (i := 22) (by decide +kernel), List.mem_of_getElem? (i := 408) (by decide +kernel), List.mem_of_getElem? (i := 409) (by decide +kernel)⟩
theorem lw_p21 : lw_okq (⟨"ReportWriter", "endPage", "()V"⟩, 16) := ⟨⟨by decide +kernel, by decide +kernel⟩, List.mem_of_getElem? (i := 22) (by decide +kernel), List.mem_of_getElem? (i := 412) (by decide +kernel), List.mem_of_getElem? (i := 413) (by decide +kernel)⟩
theorem lw_p22 : lw_okq (⟨"ReportWriter", "printControlFoots", "(I)V"⟩, 16) := ⟨⟨by decide +kernel, by decide +kernel⟩, List.mem_of_getElem? (i := 22) (by decide +kernel), List.mem_of_getElem? (i := 416) (by decide +kernel), List.mem_of_getElem? (i := 417) (by decide +kernel)⟩
theorem lw_p23 : lw_okq (⟨"ReportWriter", "firstSumOf", "(I)LReportWriter$Sum;"⟩, 16) := ⟨⟨by decide +kernel, by decide +kernel⟩, List.mem_of_getElem? (i := 22) (by decide +kernel), List.mem_of_getElem? (i := 420) (by decide +kernel), List.mem_of_getElem? (i := 421) (by decide +kernel)⟩
theorem lw_p24 : lw_okq (⟨"ReportWriter", "rollSums", "(I)V"⟩, 16) := ⟨⟨by decide +kernel, by decide +kernel⟩, List.mem_of_getElem? (i := 22) (by decide +kernel), List.mem_of_getElem? (i := 424) (by decide +kernel), List.mem_of_getElem? (i := 425) (by decide +kernel)⟩
theorem lw_p25 : lw_okq (⟨"ReportWriter", "resetSums", "(I)V"⟩, 16) := ⟨⟨by decide +kernel, by decide +kernel⟩, List.mem_of_getElem? (i := 22) (by decide +kernel), List.mem_of_getElem? (i := 428) (by decide +kernel), List.mem_of_getElem? (i := 429) (by decide +kernel)⟩
theorem lw_p26 : lw_okq (⟨"ReportWriter", "addToSums", "(IJ)V"⟩, 16) := ⟨⟨by decide +kernel, by decide +kernel⟩, List.mem_of_getElem? (i := 22) (by decide +kernel), List.mem_of_getElem? (i := 433) (by decide +kernel), List.mem_of_getElem? (i := 434) (by decide +kernel)⟩
theorem lw_p27 : lw_okq (⟨"java/lang/Throwable", "fillInStackTrace", "(I)Ljava/lang/Throwable;"⟩, 6) := ⟨⟨by decide +kernel, by decide +kernel⟩, List.mem_of_getElem? (i := 514) (by decide +kernel), List.mem_of_getElem? (i := 512) (by decide +kernel), List.mem_of_getElem? (i := 513) (by decide +kernel)⟩
theorem lw_p28 : lw_okq (⟨"ReportWriterModel", "find", "(II)I"⟩, 29) := ⟨⟨by decide +kernel, by decide +kernel⟩, List.mem_of_getElem? (i := 552) (by decide +kernel), List.mem_of_getElem? (i := 660) (by decide +kernel), List.mem_of_getElem? (i := 661) (by decide +kernel)⟩
theorem lw_p29 : lw_okq (⟨"ReportWriterModel", "isGroup", "(I)Z"⟩, 29) := ⟨⟨by decide +kernel, by decide +kernel⟩, List.mem_of_getElem? (i := 552) (by decide +kernel), List.mem_of_getElem? (i := 668) (by decide +kernel), List.mem_of_getElem? (i := 669) (by decide +kernel)⟩
theorem lw_p30 : lw_okq (⟨"ReportWriterModel", "fits", "(IIZ)Z"⟩, 29) := ⟨⟨by decide +kernel, by decide +kernel⟩, List.mem_of_getElem? (i := 552) (by decide +kernel), List.mem_of_getElem? (i := 672) (by decide +kernel), List.mem_of_getElem? (i := 673) (by decide +kernel)⟩
theorem lw_p31 : lw_okq (⟨"ReportWriterModel", "isOf", "(II)Z"⟩, 29) := ⟨⟨by decide +kernel, by decide +kernel⟩, List.mem_of_getElem? (i := 552) (by decide +kernel), List.mem_of_getElem? (i := 680) (by decide +kernel), List.mem_of_getElem? (i := 681) (by decide +kernel)⟩
def lw_privs_2 : List (MethodName × Nat) := [(⟨"ReportWriter", "beginPage", "()V"⟩, 16), (⟨"ReportWriter", "printOutsideBody", "(LReportWriter$Group;)V"⟩, 16), (⟨"ReportWriter", "printControlHeads", "(I)V"⟩, 16), (⟨"ReportWriter", "printInBody", "(LReportWriter$Group;J)V"⟩, 16), (⟨"ReportWriter", "startInBody", "(LReportWriter$Group;)I"⟩, 16), (⟨"ReportWriter", "endPage", "()V"⟩, 16), (⟨"ReportWriter", "printControlFoots", "(I)V"⟩, 16), (⟨"ReportWriter", "firstSumOf", "(I)LReportWriter$Sum;"⟩, 16), (⟨"ReportWriter", "rollSums", "(I)V"⟩, 16), (⟨"ReportWriter", "resetSums", "(I)V"⟩, 16), (⟨"ReportWriter", "addToSums", "(IJ)V"⟩, 16), (⟨"java/lang/Throwable", "fillInStackTrace", "(I)Ljava/lang/Throwable;"⟩, 6), (⟨"ReportWriterModel", "find", "(II)I"⟩, 29), (⟨"ReportWriterModel", "isGroup", "(I)Z"⟩, 29), (⟨"ReportWriterModel", "fits", "(IIZ)Z"⟩, 29), (⟨"ReportWriterModel", "isOf", "(II)Z"⟩, 29)]
theorem lw_r2 : ∀ q ∈ lw_privs_2, lw_okq q := List.forall_mem_cons.mpr ⟨lw_p16, List.forall_mem_cons.mpr ⟨lw_p17, List.forall_mem_cons.mpr ⟨lw_p18, List.forall_mem_cons.mpr ⟨lw_p19, List.forall_mem_cons.mpr ⟨lw_p20, List.forall_mem_cons.mpr ⟨lw_p21, List.forall_mem_cons.mpr ⟨lw_p22, List.forall_mem_cons.mpr ⟨lw_p23, List.forall_mem_cons.mpr ⟨lw_p24, List.forall_mem_cons.mpr ⟨lw_p25, List.forall_mem_cons.mpr ⟨lw_p26, List.forall_mem_cons.mpr ⟨lw_p27, List.forall_mem_cons.mpr ⟨lw_p28, List.forall_mem_cons.mpr ⟨lw_p29, List.forall_mem_cons.mpr ⟨lw_p30, List.forall_mem_cons.mpr ⟨lw_p31, fun _ h => absurd h List.not_mem_nil⟩⟩⟩⟩⟩⟩⟩⟩⟩⟩⟩⟩⟩⟩⟩⟩
theorem lw_p32 : lw_okq (⟨"ReportWriterModel", "isDetail", "(I)Z"⟩, 29) := ⟨⟨by decide +kernel, by decide +kernel⟩, List.mem_of_getElem? (i := 552) (by decide +kernel), List.mem_of_getElem? (i := 684) (by decide +kernel), List.mem_of_getElem? (i := 685) (by decide +kernel)⟩
theorem lw_p33 : lw_okq (⟨"ReportWriterModel", "fresh", "()V"⟩, 29) := ⟨⟨by decide +kernel, by decide +kernel⟩, List.mem_of_getElem? (i := 552) (by decide +kernel), List.mem_of_getElem? (i := 708) (by decide +kernel), List.mem_of_getElem? (i := 709) (by decide +kernel)⟩
theorem lw_p34 : lw_okq (⟨"ReportWriterModel", "alone", "(I)V"⟩, 29) := ⟨⟨by decide +kernel, by decide +kernel⟩, List.mem_of_getElem? (i := 552) (by decide +kernel), List.mem_of_getElem? (i := 716) (by decide +kernel), List.mem_of_getElem? (i := 717) (by decide +kernel)⟩
theorem lw_p35 : lw_okq (⟨"ReportWriterModel", "isOn", "(I)Z"⟩, 29) := ⟨⟨by decide +kernel, by decide +kernel⟩, List.mem_of_getElem? (i := 552) (by decide +kernel), List.mem_of_getElem? (i := 720) (by decide +kernel), List.mem_of_getElem? (i := 721) (by decide +kernel)⟩
theorem lw_p36 : lw_okq (⟨"ReportWriterModel", "putFrom", "(III)V"⟩, 29) := ⟨⟨by decide +kernel, by decide +kernel⟩, List.mem_of_getElem? (i := 552) (by decide +kernel), List.mem_of_getElem? (i := 724) (by decide +kernel), List.mem_of_getElem? (i := 725) (by decide +kernel)⟩
theorem lw_p37 : lw_okq (⟨"ReportWriterModel", "putAll", "(III)V"⟩, 29) := ⟨⟨by decide +kernel, by decide +kernel⟩, List.mem_of_getElem? (i := 552) (by decide +kernel), List.mem_of_getElem? (i := 728) (by decide +kernel), List.mem_of_getElem? (i := 729) (by decide +kernel)⟩
theorem lw_p38 : lw_okq (⟨"ReportWriterModel", "put", "(IIII)V"⟩, 29) := ⟨⟨by decide +kernel, by decide +kernel⟩, List.mem_of_getElem? (i := 552) (by decide +kernel), List.mem_of_getElem? (i := 732) (by decide +kernel), List.mem_of_getElem? (i := 733) (by decide +kernel)⟩
theorem lw_p39 : lw_okq (⟨"ReportWriterModel", "begin", "()V"⟩, 29) := ⟨⟨by decide +kernel, by decide +kernel⟩, List.mem_of_getElem? (i := 552) (by decide +kernel), List.mem_of_getElem? (i := 736) (by decide +kernel), List.mem_of_getElem? (i := 737) (by decide +kernel)⟩
theorem lw_p40 : lw_okq (⟨"ReportWriterModel", "head", "(I)V"⟩, 29) := ⟨⟨by decide +kernel, by decide +kernel⟩, List.mem_of_getElem? (i := 552) (by decide +kernel), List.mem_of_getElem? (i := 740) (by decide +kernel), List.mem_of_getElem? (i := 741) (by decide +kernel)⟩
theorem lw_p41 : lw_okq (⟨"ReportWriterModel", "inBody", "(II)V"⟩, 29) := ⟨⟨by decide +kernel, by decide +kernel⟩, List.mem_of_getElem? (i := 552) (by decide +kernel), List.mem_of_getElem? (i := 744) (by decide +kernel), List.mem_of_getElem? (i := 745) (by decide +kernel)⟩
theorem lw_p42 : lw_okq (⟨"ReportWriterModel", "top", "(I)I"⟩, 29) := ⟨⟨by decide +kernel, by decide +kernel⟩, List.mem_of_getElem? (i := 552) (by decide +kernel), List.mem_of_getElem? (i := 748) (by decide +kernel), List.mem_of_getElem? (i := 749) (by decide +kernel)⟩
theorem lw_p43 : lw_okq (⟨"ReportWriterModel", "over", "()V"⟩, 29) := ⟨⟨by decide +kernel, by decide +kernel⟩, List.mem_of_getElem? (i := 552) (by decide +kernel), List.mem_of_getElem? (i := 752) (by decide +kernel), List.mem_of_getElem? (i := 753) (by decide +kernel)⟩
theorem lw_p44 : lw_okq (⟨"ReportWriterModel", "changed", "()I"⟩, 29) := ⟨⟨by decide +kernel, by decide +kernel⟩, List.mem_of_getElem? (i := 552) (by decide +kernel), List.mem_of_getElem? (i := 756) (by decide +kernel), List.mem_of_getElem? (i := 757) (by decide +kernel)⟩
theorem lw_p45 : lw_okq (⟨"ReportWriterModel", "foot", "(I)V"⟩, 29) := ⟨⟨by decide +kernel, by decide +kernel⟩, List.mem_of_getElem? (i := 552) (by decide +kernel), List.mem_of_getElem? (i := 760) (by decide +kernel), List.mem_of_getElem? (i := 761) (by decide +kernel)⟩
theorem lw_p46 : lw_okq (⟨"ReportWriterModel", "firstSum", "(I)I"⟩, 29) := ⟨⟨by decide +kernel, by decide +kernel⟩, List.mem_of_getElem? (i := 552) (by decide +kernel), List.mem_of_getElem? (i := 764) (by decide +kernel), List.mem_of_getElem? (i := 765) (by decide +kernel)⟩
theorem lw_p47 : lw_okq (⟨"ReportWriterModel", "keep", "()V"⟩, 29) := ⟨⟨by decide +kernel, by decide +kernel⟩, List.mem_of_getElem? (i := 552) (by decide +kernel), List.mem_of_getElem? (i := 768) (by decide +kernel), List.mem_of_getElem? (i := 769) (by decide +kernel)⟩
def lw_privs_3 : List (MethodName × Nat) := [(⟨"ReportWriterModel", "isDetail", "(I)Z"⟩, 29), (⟨"ReportWriterModel", "fresh", "()V"⟩, 29), (⟨"ReportWriterModel", "alone", "(I)V"⟩, 29), (⟨"ReportWriterModel", "isOn", "(I)Z"⟩, 29), (⟨"ReportWriterModel", "putFrom", "(III)V"⟩, 29), (⟨"ReportWriterModel", "putAll", "(III)V"⟩, 29), (⟨"ReportWriterModel", "put", "(IIII)V"⟩, 29), (⟨"ReportWriterModel", "begin", "()V"⟩, 29), (⟨"ReportWriterModel", "head", "(I)V"⟩, 29), (⟨"ReportWriterModel", "inBody", "(II)V"⟩, 29), (⟨"ReportWriterModel", "top", "(I)I"⟩, 29), (⟨"ReportWriterModel", "over", "()V"⟩, 29), (⟨"ReportWriterModel", "changed", "()I"⟩, 29), (⟨"ReportWriterModel", "foot", "(I)V"⟩, 29), (⟨"ReportWriterModel", "firstSum", "(I)I"⟩, 29), (⟨"ReportWriterModel", "keep", "()V"⟩, 29)]
theorem lw_r3 : ∀ q ∈ lw_privs_3, lw_okq q := List.forall_mem_cons.mpr ⟨lw_p32, List.forall_mem_cons.mpr ⟨lw_p33, List.forall_mem_cons.mpr ⟨lw_p34, List.forall_mem_cons.mpr ⟨lw_p35, List.forall_mem_cons.mpr ⟨lw_p36, List.forall_mem_cons.mpr ⟨lw_p37, List.forall_mem_cons.mpr ⟨lw_p38, List.forall_mem_cons.mpr ⟨lw_p39, List.forall_mem_cons.mpr ⟨lw_p40, List.forall_mem_cons.mpr ⟨lw_p41, List.forall_mem_cons.mpr ⟨lw_p42, List.forall_mem_cons.mpr ⟨lw_p43, List.forall_mem_cons.mpr ⟨lw_p44, List.forall_mem_cons.mpr ⟨lw_p45, List.forall_mem_cons.mpr ⟨lw_p46, List.forall_mem_cons.mpr ⟨lw_p47, fun _ h => absurd h List.not_mem_nil⟩⟩⟩⟩⟩⟩⟩⟩⟩⟩⟩⟩⟩⟩⟩⟩
def lw_privs : List (MethodName × Nat) := lw_privs_1 ++ (lw_privs_2 ++ (lw_privs_3))
def lw_tbl : List Cond := k2_sels lw_privs ++ tables_1
theorem lw_privs_ok : ∀ q ∈ lw_privs, lw_okq q := by
  show ∀ q ∈ lw_privs_1 ++ (lw_privs_2 ++ (lw_privs_3)), lw_okq q
  exact List.forall_mem_append.mpr ⟨lw_r1, List.forall_mem_append.mpr ⟨lw_r2, lw_r3⟩⟩
end
section
def RX0 : String := "ReportWriter$Group"
def TX0 : u_T := fun k => match k with
  | 0 => ("ReportWriter$Group", "number", "I", true)
  | 1 => ("ReportWriter$Group", "kind", "I", true)
  | 2 => ("ReportWriter$Group", "level", "I", true)
  | 3 => ("ReportWriter$Group", "start", "I", false)
  | 4 => ("ReportWriter$Group", "relative", "Z", false)
  | 5 => ("ReportWriter$Group", "lineCount", "I", false)
  | 6 => ("ReportWriter$Group", "behindStart", "[I", true)
  | 7 => ("ReportWriter$Group", "suppressed", "Z", false)
  | 8 => ("ReportWriter$Group", "indicated", "Z", false)
  | _ => ("ReportWriter$Group", "latestStretch", "I", false)
def tyX0 : Nat → FieldType := fun k => match k with
  | 0 => .int
  | 1 => .int
  | 2 => .int
  | 3 => .int
  | 4 => .boolean
  | 5 => .int
  | 6 => .array .int
  | 7 => .boolean
  | 8 => .boolean
  | _ => .int
theorem nmX0 : ∀ a, a < 10 → ∀ b, b < 10 → a ≠ b → (TX0 a).2.1 ≠ (TX0 b).2.1 := by decide +kernel
theorem tyX0_ok : ∀ k, k < 10 → parseFieldDescriptor (TX0 k).2.2.1 = some (tyX0 k) := by decide +kernel
abbrev cX0_init : ByteArray := prog_2_method_1_code
def yX0_init : MethodName := ⟨RX0, "<init>", "(III)V"⟩
abbrev cX0_addLine : ByteArray := prog_2_method_2_code
def yX0_addLine : MethodName := ⟨RX0, "addLine", "(IZ)V"⟩
abbrev cX0_height : ByteArray := prog_2_method_3_code
def yX0_height : MethodName := ⟨RX0, "height", "()I"⟩
abbrev cX0_takesItsTurn : ByteArray := prog_2_method_4_code
def yX0_takesItsTurn : MethodName := ⟨RX0, "takesItsTurn", "()Z"⟩
def RX1 : String := "ReportWriter$Printed"
def TX1 : u_T := fun k => match k with
  | 0 => ("ReportWriter$Printed", "sheets", "Ljava/util/ArrayList;", true)
  | _ => ("ReportWriter$Printed", "count", "I", false)
def tyX1 : Nat → FieldType := fun k => match k with
  | 0 => .object "java/util/ArrayList"
  | _ => .int
theorem nmX1 : ∀ a, a < 2 → ∀ b, b < 2 → a ≠ b → (TX1 a).2.1 ≠ (TX1 b).2.1 := by decide +kernel
theorem tyX1_ok : ∀ k, k < 2 → parseFieldDescriptor (TX1 k).2.2.1 = some (tyX1 k) := by decide +kernel
abbrev cX1_init : ByteArray := prog_3_method_1_code
def yX1_init : MethodName := ⟨RX1, "<init>", "()V"⟩
abbrev cX1_clear : ByteArray := prog_3_method_2_code
def yX1_clear : MethodName := ⟨RX1, "clear", "()V"⟩
abbrev cX1_add : ByteArray := prog_3_method_3_code
def yX1_add : MethodName := ⟨RX1, "add", "(IIIII)V"⟩
abbrev cX1_has : ByteArray := prog_3_method_4_code
def yX1_has : MethodName := ⟨RX1, "has", "(II)Z"⟩
abbrev cX1_cell : ByteArray := prog_3_method_5_code
def yX1_cell : MethodName := ⟨RX1, "cell", "(II)I"⟩
def RX2 : String := "ReportWriter$Sheet"
def TX2 : u_T := fun k => match k with
  | _ => ("ReportWriter$Sheet", "cells", "[I", true)
def tyX2 : Nat → FieldType := fun k => match k with
  | _ => .array .int
theorem nmX2 : ∀ a, a < 1 → ∀ b, b < 1 → a ≠ b → (TX2 a).2.1 ≠ (TX2 b).2.1 := by decide +kernel
theorem tyX2_ok : ∀ k, k < 1 → parseFieldDescriptor (TX2 k).2.2.1 = some (tyX2 k) := by decide +kernel
abbrev cX2_init : ByteArray := prog_4_method_1_code
def yX2_init : MethodName := ⟨RX2, "<init>", "()V"⟩
def RX3 : String := "ReportWriter$Sum"
def TX3 : u_T := fun k => match k with
  | 0 => ("ReportWriter$Sum", "group", "I", true)
  | 1 => ("ReportWriter$Sum", "level", "I", true)
  | 2 => ("ReportWriter$Sum", "of", "I", true)
  | 3 => ("ReportWriter$Sum", "reset", "I", true)
  | _ => ("ReportWriter$Sum", "total", "J", false)
def tyX3 : Nat → FieldType := fun k => match k with
  | 0 => .int
  | 1 => .int
  | 2 => .int
  | 3 => .int
  | _ => .long
theorem nmX3 : ∀ a, a < 5 → ∀ b, b < 5 → a ≠ b → (TX3 a).2.1 ≠ (TX3 b).2.1 := by decide +kernel
theorem tyX3_ok : ∀ k, k < 5 → parseFieldDescriptor (TX3 k).2.2.1 = some (tyX3 k) := by decide +kernel
abbrev cX3_init : ByteArray := prog_5_method_1_code
def yX3_init : MethodName := ⟨RX3, "<init>", "(IIII)V"⟩
def RX4 : String := "ReportWriter"
def TX4 : u_T := fun k => match k with
  | 0 => ("ReportWriter", "page", "I", true)
  | 1 => ("ReportWriter", "first", "I", true)
  | 2 => ("ReportWriter", "foot", "I", true)
  | 3 => ("ReportWriter", "groups", "Ljava/util/ArrayList;", true)
  | 4 => ("ReportWriter", "sums", "Ljava/util/ArrayList;", true)
  | 5 => ("ReportWriter", "controls", "I", false)
  | 6 => ("ReportWriter", "values", "[I", true)
  | 7 => ("ReportWriter", "valuesBefore", "[I", true)
  | 8 => ("ReportWriter", "printed", "LReportWriter$Printed;", true)
  | 9 => ("ReportWriter", "initiated", "Z", false)
  | 10 => ("ReportWriter", "pageCounter", "I", false)
  | 11 => ("ReportWriter", "latestLine", "I", false)
  | 12 => ("ReportWriter", "latestBodyLine", "I", false)
  | 13 => ("ReportWriter", "generatings", "I", false)
  | 14 => ("ReportWriter", "breaks", "I", false)
  | _ => ("ReportWriter", "stretch", "I", false)
def tyX4 : Nat → FieldType := fun k => match k with
  | 0 => .int
  | 1 => .int
  | 2 => .int
  | 3 => .object "java/util/ArrayList"
  | 4 => .object "java/util/ArrayList"
  | 5 => .int
  | 6 => .array .int
  | 7 => .array .int
  | 8 => .object "ReportWriter$Printed"
  | 9 => .boolean
  | 10 => .int
  | 11 => .int
  | 12 => .int
  | 13 => .int
  | 14 => .int
  | _ => .int
theorem nmX4 : ∀ a, a < 16 → ∀ b, b < 16 → a ≠ b → (TX4 a).2.1 ≠ (TX4 b).2.1 := by decide +kernel
theorem tyX4_ok : ∀ k, k < 16 → parseFieldDescriptor (TX4 k).2.2.1 = some (tyX4 k) := by decide +kernel
abbrev cX4_init : ByteArray := prog_1_method_1_code
def yX4_init : MethodName := ⟨RX4, "<init>", "(III)V"⟩
abbrev cX4_group : ByteArray := prog_1_method_2_code
def yX4_group : MethodName := ⟨RX4, "group", "(II)I"⟩
abbrev cX4_line : ByteArray := prog_1_method_3_code
def yX4_line : MethodName := ⟨RX4, "line", "(IIZ)I"⟩
abbrev cX4_sum : ByteArray := prog_1_method_4_code
def yX4_sum : MethodName := ⟨RX4, "sum", "(III)I"⟩
abbrev cX4_control : ByteArray := prog_1_method_5_code
def yX4_control : MethodName := ⟨RX4, "control", "(I)I"⟩
abbrev cX4_set : ByteArray := prog_1_method_6_code
def yX4_set : MethodName := ⟨RX4, "set", "(II)I"⟩
abbrev cX4_initiate : ByteArray := prog_1_method_7_code
def yX4_initiate : MethodName := ⟨RX4, "initiate", "()I"⟩
abbrev cX4_generate : ByteArray := prog_1_method_8_code
def yX4_generate : MethodName := ⟨RX4, "generate", "(IJ)I"⟩
abbrev cX4_terminate : ByteArray := prog_1_method_9_code
def yX4_terminate : MethodName := ⟨RX4, "terminate", "()I"⟩
abbrev cX4_at : ByteArray := prog_1_method_10_code
def yX4_at : MethodName := ⟨RX4, "at", "(II)I"⟩
abbrev cX4_lines : ByteArray := prog_1_method_11_code
def yX4_lines : MethodName := ⟨RX4, "lines", "()I"⟩
abbrev cX4_total : ByteArray := prog_1_method_12_code
def yX4_total : MethodName := ⟨RX4, "total", "(I)J"⟩
abbrev cX4_counter : ByteArray := prog_1_method_13_code
def yX4_counter : MethodName := ⟨RX4, "counter", "(I)I"⟩
abbrev cX4_suppress : ByteArray := prog_1_method_14_code
def yX4_suppress : MethodName := ⟨RX4, "suppress", "(I)I"⟩
abbrev cX4_indicate : ByteArray := prog_1_method_15_code
def yX4_indicate : MethodName := ⟨RX4, "indicate", "(I)I"⟩
abbrev cX4_held : ByteArray := prog_1_method_16_code
def yX4_held : MethodName := ⟨RX4, "held", "(III)I"⟩
abbrev cX4_isOfBody : ByteArray := prog_1_method_17_code
def yX4_isOfBody : MethodName := ⟨RX4, "isOfBody", "(I)Z"⟩
abbrev cX4_isKindOfLevel : ByteArray := prog_1_method_18_code
def yX4_isKindOfLevel : MethodName := ⟨RX4, "isKindOfLevel", "(II)Z"⟩
abbrev cX4_groupNumbered : ByteArray := prog_1_method_19_code
def yX4_groupNumbered : MethodName := ⟨RX4, "groupNumbered", "(I)LReportWriter$Group;"⟩
abbrev cX4_groupOf : ByteArray := prog_1_method_20_code
def yX4_groupOf : MethodName := ⟨RX4, "groupOf", "(II)LReportWriter$Group;"⟩
abbrev cX4_sumNumbered : ByteArray := prog_1_method_21_code
def yX4_sumNumbered : MethodName := ⟨RX4, "sumNumbered", "(I)LReportWriter$Sum;"⟩
abbrev cX4_firstSumOf : ByteArray := prog_1_method_22_code
def yX4_firstSumOf : MethodName := ⟨RX4, "firstSumOf", "(I)LReportWriter$Sum;"⟩
abbrev cX4_isSummable : ByteArray := prog_1_method_23_code
def yX4_isSummable : MethodName := ⟨RX4, "isSummable", "(II)Z"⟩
abbrev cX4_topmostLine : ByteArray := prog_1_method_24_code
def yX4_topmostLine : MethodName := ⟨RX4, "topmostLine", "(I)I"⟩
abbrev cX4_lowestLine : ByteArray := prog_1_method_25_code
def yX4_lowestLine : MethodName := ⟨RX4, "lowestLine", "(I)I"⟩
abbrev cX4_startOnNewPage : ByteArray := prog_1_method_26_code
def yX4_startOnNewPage : MethodName := ⟨RX4, "startOnNewPage", "(IIZ)I"⟩
abbrev cX4_startInBody : ByteArray := prog_1_method_27_code
def yX4_startInBody : MethodName := ⟨RX4, "startInBody", "(LReportWriter$Group;)I"⟩
abbrev cX4_fitsWithLine : ByteArray := prog_1_method_28_code
def yX4_fitsWithLine : MethodName := ⟨RX4, "fitsWithLine", "(LReportWriter$Group;IZ)Z"⟩
abbrev cX4_printInBody : ByteArray := prog_1_method_29_code
def yX4_printInBody : MethodName := ⟨RX4, "printInBody", "(LReportWriter$Group;J)V"⟩
abbrev cX4_beginPage : ByteArray := prog_1_method_30_code
def yX4_beginPage : MethodName := ⟨RX4, "beginPage", "()V"⟩
abbrev cX4_endPage : ByteArray := prog_1_method_31_code
def yX4_endPage : MethodName := ⟨RX4, "endPage", "()V"⟩
abbrev cX4_countPage : ByteArray := prog_1_method_32_code
def yX4_countPage : MethodName := ⟨RX4, "countPage", "()V"⟩
abbrev cX4_printOutsideBody : ByteArray := prog_1_method_33_code
def yX4_printOutsideBody : MethodName := ⟨RX4, "printOutsideBody", "(LReportWriter$Group;)V"⟩
abbrev cX4_printOnOwnPage : ByteArray := prog_1_method_34_code
def yX4_printOnOwnPage : MethodName := ⟨RX4, "printOnOwnPage", "(LReportWriter$Group;)V"⟩
abbrev cX4_printFrom : ByteArray := prog_1_method_35_code
def yX4_printFrom : MethodName := ⟨RX4, "printFrom", "(ILReportWriter$Group;J)V"⟩
abbrev cX4_changedLevel : ByteArray := prog_1_method_36_code
def yX4_changedLevel : MethodName := ⟨RX4, "changedLevel", "()I"⟩
abbrev cX4_printControlHeads : ByteArray := prog_1_method_37_code
def yX4_printControlHeads : MethodName := ⟨RX4, "printControlHeads", "(I)V"⟩
abbrev cX4_printControlFoots : ByteArray := prog_1_method_38_code
def yX4_printControlFoots : MethodName := ⟨RX4, "printControlFoots", "(I)V"⟩
abbrev cX4_addToSums : ByteArray := prog_1_method_39_code
def yX4_addToSums : MethodName := ⟨RX4, "addToSums", "(IJ)V"⟩
abbrev cX4_rollSums : ByteArray := prog_1_method_40_code
def yX4_rollSums : MethodName := ⟨RX4, "rollSums", "(I)V"⟩
abbrev cX4_resetSums : ByteArray := prog_1_method_41_code
def yX4_resetSums : MethodName := ⟨RX4, "resetSums", "(I)V"⟩
def RX5 : String := "ReportWriterModel"
def TX5 : u_T := fun k => match k with
  | 0 => ("ReportWriterModel", "code", "I", false)
  | 1 => ("ReportWriterModel", "page", "I", true)
  | 2 => ("ReportWriterModel", "first", "I", true)
  | 3 => ("ReportWriterModel", "foot", "I", true)
  | 4 => ("ReportWriterModel", "controls", "I", false)
  | 5 => ("ReportWriterModel", "groups", "I", false)
  | 6 => ("ReportWriterModel", "sums", "I", false)
  | 7 => ("ReportWriterModel", "values", "[I", true)
  | 8 => ("ReportWriterModel", "before", "[I", true)
  | 9 => ("ReportWriterModel", "kinds", "[I", true)
  | 10 => ("ReportWriterModel", "levels", "[I", true)
  | 11 => ("ReportWriterModel", "many", "[I", true)
  | 12 => ("ReportWriterModel", "numbers", "[I", true)
  | 13 => ("ReportWriterModel", "absolute", "[Z", true)
  | 14 => ("ReportWriterModel", "suppressed", "[Z", true)
  | 15 => ("ReportWriterModel", "indicated", "[Z", true)
  | 16 => ("ReportWriterModel", "seen", "[Z", true)
  | 17 => ("ReportWriterModel", "sumGroups", "[I", true)
  | 18 => ("ReportWriterModel", "ofs", "[I", true)
  | 19 => ("ReportWriterModel", "resets", "[I", true)
  | 20 => ("ReportWriterModel", "totals", "[J", true)
  | 21 => ("ReportWriterModel", "initiated", "Z", false)
  | 22 => ("ReportWriterModel", "generated", "I", false)
  | 23 => ("ReportWriterModel", "breaks", "I", false)
  | 24 => ("ReportWriterModel", "pages", "I", false)
  | 25 => ("ReportWriterModel", "latest", "I", false)
  | 26 => ("ReportWriterModel", "body", "I", false)
  | 27 => ("ReportWriterModel", "printed", "[I", true)
  | _ => ("ReportWriterModel", "lines", "I", false)
def tyX5 : Nat → FieldType := fun k => match k with
  | 0 => .int
  | 1 => .int
  | 2 => .int
  | 3 => .int
  | 4 => .int
  | 5 => .int
  | 6 => .int
  | 7 => .array .int
  | 8 => .array .int
  | 9 => .array .int
  | 10 => .array .int
  | 11 => .array .int
  | 12 => .array .int
  | 13 => .array .boolean
  | 14 => .array .boolean
  | 15 => .array .boolean
  | 16 => .array .boolean
  | 17 => .array .int
  | 18 => .array .int
  | 19 => .array .int
  | 20 => .array .long
  | 21 => .boolean
  | 22 => .int
  | 23 => .int
  | 24 => .int
  | 25 => .int
  | 26 => .int
  | 27 => .array .int
  | _ => .int
theorem nmX5 : ∀ a, a < 29 → ∀ b, b < 29 → a ≠ b → (TX5 a).2.1 ≠ (TX5 b).2.1 := by decide +kernel
theorem tyX5_ok : ∀ k, k < 29 → parseFieldDescriptor (TX5 k).2.2.1 = some (tyX5 k) := by decide +kernel
abbrev cX5_init : ByteArray := prog_7_method_1_code
def yX5_init : MethodName := ⟨RX5, "<init>", "(III)V"⟩
abbrev cX5_held : ByteArray := prog_7_method_2_code
def yX5_held : MethodName := ⟨RX5, "held", "(III)I"⟩
abbrev cX5_thrown : ByteArray := prog_7_method_3_code
def yX5_thrown : MethodName := ⟨RX5, "thrown", "()I"⟩
abbrev cX5_isGroup : ByteArray := prog_7_method_4_code
def yX5_isGroup : MethodName := ⟨RX5, "isGroup", "(I)Z"⟩
abbrev cX5_isDetail : ByteArray := prog_7_method_5_code
def yX5_isDetail : MethodName := ⟨RX5, "isDetail", "(I)Z"⟩
abbrev cX5_find : ByteArray := prog_7_method_6_code
def yX5_find : MethodName := ⟨RX5, "find", "(II)I"⟩
abbrev cX5_group : ByteArray := prog_7_method_7_code
def yX5_group : MethodName := ⟨RX5, "group", "(II)I"⟩
abbrev cX5_fits : ByteArray := prog_7_method_8_code
def yX5_fits : MethodName := ⟨RX5, "fits", "(IIZ)Z"⟩
abbrev cX5_line : ByteArray := prog_7_method_9_code
def yX5_line : MethodName := ⟨RX5, "line", "(IIZ)I"⟩
abbrev cX5_isOf : ByteArray := prog_7_method_10_code
def yX5_isOf : MethodName := ⟨RX5, "isOf", "(II)Z"⟩
abbrev cX5_sum : ByteArray := prog_7_method_11_code
def yX5_sum : MethodName := ⟨RX5, "sum", "(III)I"⟩
abbrev cX5_control : ByteArray := prog_7_method_12_code
def yX5_control : MethodName := ⟨RX5, "control", "(I)I"⟩
abbrev cX5_set : ByteArray := prog_7_method_13_code
def yX5_set : MethodName := ⟨RX5, "set", "(II)I"⟩
abbrev cX5_suppress : ByteArray := prog_7_method_14_code
def yX5_suppress : MethodName := ⟨RX5, "suppress", "(I)I"⟩
abbrev cX5_indicate : ByteArray := prog_7_method_15_code
def yX5_indicate : MethodName := ⟨RX5, "indicate", "(I)I"⟩
abbrev cX5_put : ByteArray := prog_7_method_16_code
def yX5_put : MethodName := ⟨RX5, "put", "(IIII)V"⟩
abbrev cX5_isOn : ByteArray := prog_7_method_17_code
def yX5_isOn : MethodName := ⟨RX5, "isOn", "(I)Z"⟩
abbrev cX5_putAll : ByteArray := prog_7_method_18_code
def yX5_putAll : MethodName := ⟨RX5, "putAll", "(III)V"⟩
abbrev cX5_putFrom : ByteArray := prog_7_method_19_code
def yX5_putFrom : MethodName := ⟨RX5, "putFrom", "(III)V"⟩
abbrev cX5_alone : ByteArray := prog_7_method_20_code
def yX5_alone : MethodName := ⟨RX5, "alone", "(I)V"⟩
abbrev cX5_begin : ByteArray := prog_7_method_21_code
def yX5_begin : MethodName := ⟨RX5, "begin", "()V"⟩
abbrev cX5_over : ByteArray := prog_7_method_22_code
def yX5_over : MethodName := ⟨RX5, "over", "()V"⟩
abbrev cX5_fresh : ByteArray := prog_7_method_23_code
def yX5_fresh : MethodName := ⟨RX5, "fresh", "()V"⟩
abbrev cX5_top : ByteArray := prog_7_method_24_code
def yX5_top : MethodName := ⟨RX5, "top", "(I)I"⟩
abbrev cX5_inBody : ByteArray := prog_7_method_25_code
def yX5_inBody : MethodName := ⟨RX5, "inBody", "(II)V"⟩
abbrev cX5_head : ByteArray := prog_7_method_26_code
def yX5_head : MethodName := ⟨RX5, "head", "(I)V"⟩
abbrev cX5_firstSum : ByteArray := prog_7_method_27_code
def yX5_firstSum : MethodName := ⟨RX5, "firstSum", "(I)I"⟩
abbrev cX5_foot : ByteArray := prog_7_method_28_code
def yX5_foot : MethodName := ⟨RX5, "foot", "(I)V"⟩
abbrev cX5_keep : ByteArray := prog_7_method_29_code
def yX5_keep : MethodName := ⟨RX5, "keep", "()V"⟩
abbrev cX5_initiate : ByteArray := prog_7_method_30_code
def yX5_initiate : MethodName := ⟨RX5, "initiate", "()I"⟩
abbrev cX5_changed : ByteArray := prog_7_method_31_code
def yX5_changed : MethodName := ⟨RX5, "changed", "()I"⟩
abbrev cX5_generate : ByteArray := prog_7_method_32_code
def yX5_generate : MethodName := ⟨RX5, "generate", "(IJ)I"⟩
abbrev cX5_terminate : ByteArray := prog_7_method_33_code
def yX5_terminate : MethodName := ⟨RX5, "terminate", "()I"⟩
abbrev cX5_at : ByteArray := prog_7_method_34_code
def yX5_at : MethodName := ⟨RX5, "at", "(II)I"⟩
abbrev cX5_lines : ByteArray := prog_7_method_35_code
def yX5_lines : MethodName := ⟨RX5, "lines", "()I"⟩
abbrev cX5_total : ByteArray := prog_7_method_36_code
def yX5_total : MethodName := ⟨RX5, "total", "(I)J"⟩
abbrev cX5_counter : ByteArray := prog_7_method_37_code
def yX5_counter : MethodName := ⟨RX5, "counter", "(I)I"⟩
def RJx145de : String := "java/io/Serializable"
def TJx145de : u_T := fun k => match k with
  | _ => ("", "", "", false)
def tyJx145de : Nat → FieldType := fun k => match k with
  | _ => .int
theorem nmJx145de : ∀ a, a < 0 → ∀ b, b < 0 → a ≠ b → (TJx145de a).2.1 ≠ (TJx145de b).2.1 := by decide +kernel
theorem tyJx145de_ok : ∀ k, k < 0 → parseFieldDescriptor (TJx145de k).2.2.1 = some (tyJx145de k) := by decide +kernel
def RJx00060 : String := "java/lang/ArrayIndexOutOfBoundsException"
def TJx00060 : u_T := fun k => match k with
  | 0 => ("java/lang/Throwable", "cause", "Ljava/lang/Throwable;", false)
  | 1 => ("java/lang/Throwable", "stackTrace", "[Ljava/lang/StackTraceElement;", false)
  | 2 => ("java/lang/Throwable", "suppressedExceptions", "Ljava/util/List;", false)
  | 3 => ("java/lang/Throwable", "detailMessage", "Ljava/lang/String;", false)
  | 4 => ("java/lang/Throwable", "backtrace", "Ljava/lang/Object;", false)
  | _ => ("java/lang/Throwable", "depth", "I", false)
def tyJx00060 : Nat → FieldType := fun k => match k with
  | 0 => .object "java/lang/Throwable"
  | 1 => .array (.object "java/lang/StackTraceElement")
  | 2 => .object "java/util/List"
  | 3 => .object "java/lang/String"
  | 4 => .object "java/lang/Object"
  | _ => .int
theorem nmJx00060 : ∀ a, a < 6 → ∀ b, b < 6 → a ≠ b → (TJx00060 a).2.1 ≠ (TJx00060 b).2.1 := by decide +kernel
theorem tyJx00060_ok : ∀ k, k < 6 → parseFieldDescriptor (TJx00060 k).2.2.1 = some (tyJx00060 k) := by decide +kernel
abbrev cJx00060_init_a7421 : ByteArray := prog_9_method_2_code
def yJx00060_init_a7421 : MethodName := ⟨RJx00060, "<init>", "(Ljava/lang/String;)V"⟩
def RJx8e188 : String := "java/lang/Cloneable"
def TJx8e188 : u_T := fun k => match k with
  | _ => ("", "", "", false)
def tyJx8e188 : Nat → FieldType := fun k => match k with
  | _ => .int
theorem nmJx8e188 : ∀ a, a < 0 → ∀ b, b < 0 → a ≠ b → (TJx8e188 a).2.1 ≠ (TJx8e188 b).2.1 := by decide +kernel
theorem tyJx8e188_ok : ∀ k, k < 0 → parseFieldDescriptor (TJx8e188 k).2.2.1 = some (tyJx8e188 k) := by decide +kernel
def RJxab1ab : String := "java/lang/Iterable"
def TJxab1ab : u_T := fun k => match k with
  | _ => ("", "", "", false)
def tyJxab1ab : Nat → FieldType := fun k => match k with
  | _ => .int
theorem nmJxab1ab : ∀ a, a < 0 → ∀ b, b < 0 → a ≠ b → (TJxab1ab a).2.1 ≠ (TJxab1ab b).2.1 := by decide +kernel
theorem tyJxab1ab_ok : ∀ k, k < 0 → parseFieldDescriptor (TJxab1ab k).2.2.1 = some (tyJxab1ab k) := by decide +kernel
def RJ9 : String := "java/lang/Math"
def TJ9 : u_T := fun k => match k with
  | _ => ("", "", "", false)
def tyJ9 : Nat → FieldType := fun k => match k with
  | _ => .int
theorem nmJ9 : ∀ a, a < 0 → ∀ b, b < 0 → a ≠ b → (TJ9 a).2.1 ≠ (TJ9 b).2.1 := by decide +kernel
theorem tyJ9_ok : ∀ k, k < 0 → parseFieldDescriptor (TJ9 k).2.2.1 = some (tyJ9 k) := by decide +kernel
abbrev cJ9_max_7cf53 : ByteArray := prog_14_method_65_code
def yJ9_max_7cf53 : MethodName := ⟨RJ9, "max", "(II)I"⟩
abbrev cJ9_min_7cf53 : ByteArray := prog_14_method_69_code
def yJ9_min_7cf53 : MethodName := ⟨RJ9, "min", "(II)I"⟩
def RJ0 : String := "java/lang/String"
def TJ0 : u_T := fun k => match k with
  | _ => ("", "", "", false)
def tyJ0 : Nat → FieldType := fun k => match k with
  | _ => .int
theorem nmJ0 : ∀ a, a < 0 → ∀ b, b < 0 → a ≠ b → (TJ0 a).2.1 ≠ (TJ0 b).2.1 := by decide +kernel
theorem tyJ0_ok : ∀ k, k < 0 → parseFieldDescriptor (TJ0 k).2.2.1 = some (tyJ0 k) := by decide +kernel
def RJ10 : String := "java/lang/System"
def TJ10 : u_T := fun k => match k with
  | _ => ("", "", "", false)
def tyJ10 : Nat → FieldType := fun k => match k with
  | _ => .int
theorem nmJ10 : ∀ a, a < 0 → ∀ b, b < 0 → a ≠ b → (TJ10 a).2.1 ≠ (TJ10 b).2.1 := by decide +kernel
theorem tyJ10_ok : ∀ k, k < 0 → parseFieldDescriptor (TJ10 k).2.2.1 = some (tyJ10 k) := by decide +kernel
def RJxa1e45 : String := "java/util/AbstractCollection"
def TJxa1e45 : u_T := fun k => match k with
  | _ => ("", "", "", false)
def tyJxa1e45 : Nat → FieldType := fun k => match k with
  | _ => .int
theorem nmJxa1e45 : ∀ a, a < 0 → ∀ b, b < 0 → a ≠ b → (TJxa1e45 a).2.1 ≠ (TJxa1e45 b).2.1 := by decide +kernel
theorem tyJxa1e45_ok : ∀ k, k < 0 → parseFieldDescriptor (TJxa1e45 k).2.2.1 = some (tyJxa1e45 k) := by decide +kernel
abbrev cJxa1e45_init_da8c8 : ByteArray := prog_19_method_1_code
def yJxa1e45_init_da8c8 : MethodName := ⟨RJxa1e45, "<init>", "()V"⟩
def RJxc12de : String := "java/util/AbstractList"
def TJxc12de : u_T := fun k => match k with
  | _ => ("", "", "", false)
def tyJxc12de : Nat → FieldType := fun k => match k with
  | _ => .int
theorem nmJxc12de : ∀ a, a < 0 → ∀ b, b < 0 → a ≠ b → (TJxc12de a).2.1 ≠ (TJxc12de b).2.1 := by decide +kernel
theorem tyJxc12de_ok : ∀ k, k < 0 → parseFieldDescriptor (TJxc12de k).2.2.1 = some (tyJxc12de k) := by decide +kernel
abbrev cJxc12de_init_da8c8 : ByteArray := prog_20_method_1_code
def yJxc12de_init_da8c8 : MethodName := ⟨RJxc12de, "<init>", "()V"⟩
def RJx4a65c : String := "java/util/ArrayList"
def TJx4a65c : u_T := fun k => match k with
  | 0 => ("java/util/AbstractList", "modCount", "I", false)
  | 1 => ("java/util/ArrayList", "elementData", "[Ljava/lang/Object;", false)
  | _ => ("java/util/ArrayList", "size", "I", false)
def tyJx4a65c : Nat → FieldType := fun k => match k with
  | 0 => .int
  | 1 => .array (.object "java/lang/Object")
  | _ => .int
theorem nmJx4a65c : ∀ a, a < 3 → ∀ b, b < 3 → a ≠ b → (TJx4a65c a).2.1 ≠ (TJx4a65c b).2.1 := by decide +kernel
theorem tyJx4a65c_ok : ∀ k, k < 3 → parseFieldDescriptor (TJx4a65c k).2.2.1 = some (tyJx4a65c k) := by decide +kernel
abbrev cJx4a65c_init_da8c8 : ByteArray := prog_21_method_2_code
def yJx4a65c_init_da8c8 : MethodName := ⟨RJx4a65c, "<init>", "()V"⟩
abbrev cJx4a65c_grow_92f84 : ByteArray := prog_21_method_6_code
def yJx4a65c_grow_92f84 : MethodName := ⟨RJx4a65c, "grow", "(I)[Ljava/lang/Object;"⟩
abbrev cJx4a65c_grow_d5877 : ByteArray := prog_21_method_7_code
def yJx4a65c_grow_d5877 : MethodName := ⟨RJx4a65c, "grow", "()[Ljava/lang/Object;"⟩
abbrev cJx4a65c_size_8abf5 : ByteArray := prog_21_method_8_code
def yJx4a65c_size_8abf5 : MethodName := ⟨RJx4a65c, "size", "()I"⟩
abbrev cJx4a65c_elementData_915e3 : ByteArray := prog_21_method_18_code
def yJx4a65c_elementData_915e3 : MethodName := ⟨RJx4a65c, "elementData", "(I)Ljava/lang/Object;"⟩
abbrev cJx4a65c_get_915e3 : ByteArray := prog_21_method_20_code
def yJx4a65c_get_915e3 : MethodName := ⟨RJx4a65c, "get", "(I)Ljava/lang/Object;"⟩
abbrev cJx4a65c_add_72be8 : ByteArray := prog_21_method_24_code
def yJx4a65c_add_72be8 : MethodName := ⟨RJx4a65c, "add", "(Ljava/lang/Object;[Ljava/lang/Object;I)V"⟩
abbrev cJx4a65c_add_9ea2d : ByteArray := prog_21_method_25_code
def yJx4a65c_add_9ea2d : MethodName := ⟨RJx4a65c, "add", "(Ljava/lang/Object;)Z"⟩
def RJ7 : String := "java/util/Arrays"
def TJ7 : u_T := fun k => match k with
  | _ => ("", "", "", false)
def tyJ7 : Nat → FieldType := fun k => match k with
  | _ => .int
theorem nmJ7 : ∀ a, a < 0 → ∀ b, b < 0 → a ≠ b → (TJ7 a).2.1 ≠ (TJ7 b).2.1 := by decide +kernel
theorem tyJ7_ok : ∀ k, k < 0 → parseFieldDescriptor (TJ7 k).2.2.1 = some (tyJ7 k) := by decide +kernel
abbrev cJ7_copyOf_1904c : ByteArray := prog_22_method_119_code
def yJ7_copyOf_1904c : MethodName := ⟨RJ7, "copyOf", "([Ljava/lang/Object;I)[Ljava/lang/Object;"⟩
abbrev cJ7_copyOf_6403c : ByteArray := prog_22_method_120_code
def yJ7_copyOf_6403c : MethodName := ⟨RJ7, "copyOf", "([Ljava/lang/Object;ILjava/lang/Class;)[Ljava/lang/Object;"⟩
def RJx5ef63 : String := "java/util/Collection"
def TJx5ef63 : u_T := fun k => match k with
  | _ => ("", "", "", false)
def tyJx5ef63 : Nat → FieldType := fun k => match k with
  | _ => .int
theorem nmJx5ef63 : ∀ a, a < 0 → ∀ b, b < 0 → a ≠ b → (TJx5ef63 a).2.1 ≠ (TJx5ef63 b).2.1 := by decide +kernel
theorem tyJx5ef63_ok : ∀ k, k < 0 → parseFieldDescriptor (TJx5ef63 k).2.2.1 = some (tyJx5ef63 k) := by decide +kernel
def RJxbd725 : String := "java/util/List"
def TJxbd725 : u_T := fun k => match k with
  | _ => ("", "", "", false)
def tyJxbd725 : Nat → FieldType := fun k => match k with
  | _ => .int
theorem nmJxbd725 : ∀ a, a < 0 → ∀ b, b < 0 → a ≠ b → (TJxbd725 a).2.1 ≠ (TJxbd725 b).2.1 := by decide +kernel
theorem tyJxbd725_ok : ∀ k, k < 0 → parseFieldDescriptor (TJxbd725 k).2.2.1 = some (tyJxbd725 k) := by decide +kernel
def RJ15 : String := "java/util/Objects"
def TJ15 : u_T := fun k => match k with
  | _ => ("", "", "", false)
def tyJ15 : Nat → FieldType := fun k => match k with
  | _ => .int
theorem nmJ15 : ∀ a, a < 0 → ∀ b, b < 0 → a ≠ b → (TJ15 a).2.1 ≠ (TJ15 b).2.1 := by decide +kernel
theorem tyJ15_ok : ∀ k, k < 0 → parseFieldDescriptor (TJ15 k).2.2.1 = some (tyJ15 k) := by decide +kernel
abbrev cJ15_checkIndex_7cf53 : ByteArray := prog_25_method_17_code
def yJ15_checkIndex_7cf53 : MethodName := ⟨RJ15, "checkIndex", "(II)I"⟩
def RJxf0a74 : String := "java/util/RandomAccess"
def TJxf0a74 : u_T := fun k => match k with
  | _ => ("", "", "", false)
def tyJxf0a74 : Nat → FieldType := fun k => match k with
  | _ => .int
theorem nmJxf0a74 : ∀ a, a < 0 → ∀ b, b < 0 → a ≠ b → (TJxf0a74 a).2.1 ≠ (TJxf0a74 b).2.1 := by decide +kernel
theorem tyJxf0a74_ok : ∀ k, k < 0 → parseFieldDescriptor (TJxf0a74 k).2.2.1 = some (tyJxf0a74 k) := by decide +kernel
def RJxa66e6 : String := "java/util/SequencedCollection"
def TJxa66e6 : u_T := fun k => match k with
  | _ => ("", "", "", false)
def tyJxa66e6 : Nat → FieldType := fun k => match k with
  | _ => .int
theorem nmJxa66e6 : ∀ a, a < 0 → ∀ b, b < 0 → a ≠ b → (TJxa66e6 a).2.1 ≠ (TJxa66e6 b).2.1 := by decide +kernel
theorem tyJxa66e6_ok : ∀ k, k < 0 → parseFieldDescriptor (TJxa66e6 k).2.2.1 = some (tyJxa66e6 k) := by decide +kernel
def RJ8 : String := "jdk/internal/util/ArraysSupport"
def TJ8 : u_T := fun k => match k with
  | _ => ("", "", "", false)
def tyJ8 : Nat → FieldType := fun k => match k with
  | _ => .int
theorem nmJ8 : ∀ a, a < 0 → ∀ b, b < 0 → a ≠ b → (TJ8 a).2.1 ≠ (TJ8 b).2.1 := by decide +kernel
theorem tyJ8_ok : ∀ k, k < 0 → parseFieldDescriptor (TJ8 k).2.2.1 = some (tyJ8 k) := by decide +kernel
abbrev cJ8_newLength_cabcc : ByteArray := prog_28_method_27_code
def yJ8_newLength_cabcc : MethodName := ⟨RJ8, "newLength", "(III)I"⟩
abbrev cJ8_hugeLength_7cf53 : ByteArray := prog_28_method_28_code
def yJ8_hugeLength_7cf53 : MethodName := ⟨RJ8, "hugeLength", "(II)I"⟩
def RJ3 : String := "jdk/internal/util/Preconditions"
def TJ3 : u_T := fun k => match k with
  | _ => ("", "", "", false)
def tyJ3 : Nat → FieldType := fun k => match k with
  | _ => .int
theorem nmJ3 : ∀ a, a < 0 → ∀ b, b < 0 → a ≠ b → (TJ3 a).2.1 ≠ (TJ3 b).2.1 := by decide +kernel
theorem tyJ3_ok : ∀ k, k < 0 → parseFieldDescriptor (TJ3 k).2.2.1 = some (tyJ3 k) := by decide +kernel
abbrev cJ3_checkIndex_8e157 : ByteArray := prog_29_method_11_code
def yJ3_checkIndex_8e157 : MethodName := ⟨RJ3, "checkIndex", "(IILjava/util/function/BiFunction;)I"⟩
def RL : String := "ReportWriterLaw"
abbrev cL_cell : ByteArray := method_2_code
def yL_cell : MethodName := ⟨RL, "cell", "([II)I"⟩
abbrev cL_at : ByteArray := method_3_code
def yL_at : MethodName := ⟨RL, "at", "(LReportWriter;II[J)I"⟩
abbrev cL_law : ByteArray := code
def yL_law : MethodName := ⟨RL, "law", "([I)Z"⟩
abbrev vwCl : List vw_C := [(RJx00060, TJx00060, 6), (RJx4a65c, TJx4a65c, 3), (RX0, TX0, 10), (RX1, TX1, 2), (RX2, TX2, 1), (RX3, TX3, 5), (RX4, TX4, 16), (RX5, TX5, 29)]
end
section
-- ===== tables of the program: laid by wip/gen/gen_tables.py =====
def jtr (w : Cond) : Bool := match w with
  | .fieldLinkNest _ _ _ _ _ _ => true
  | .methodLinkNest _ _ _ _ => true
  | .castable _ _ => true
  | .declares _ => true
  | .arrayClass _ => true
  | .arrayOver (.object _) => true
  | w => w.onTables && w.keeps
def jwords : List Cond := lw_tbl.filter jtr
theorem jwords_tr : ∀ w ∈ jwords, jtr w = true := fun _ h => (List.mem_filter.mp h).2
theorem jmw {w : Cond} (p : Nat) (h : lw_tbl[p]? = some w) (ht : jtr w = true) : w ∈ jwords := List.mem_filter.mpr ⟨List.mem_of_getElem? h, ht⟩
theorem jin_p (ws : List Cond) (ps : List Nat) (hp : ws = ps.filterMap (fun i => lw_tbl[i]?)) (h : ws.all jtr = true) : ∀ w ∈ ws, w ∈ jwords := by
  intro w hw
  have h1 := List.all_eq_true.mp h w hw
  rw [hp] at hw
  obtain ⟨i, -, hi⟩ := List.mem_filterMap.mp hw
  exact jmw i hi h1
def jmT : List (MethodName × ByteArray × Nat × Option FieldType × Nat) := [(yX0_init, cX0_init, 4, none, 0), (yX0_addLine, cX0_addLine, 3, none, 0), (yX0_height, cX0_height, 1, (some FieldType.int), 0), (yX0_takesItsTurn, cX0_takesItsTurn, 2, (some FieldType.boolean), 0), (yX1_init, cX1_init, 1, none, 1), (yX1_clear, cX1_clear, 1, none, 1), (yX1_add, cX1_add, 9, none, 1), (yX1_has, cX1_has, 3, (some FieldType.boolean), 1), (yX1_cell, cX1_cell, 4, (some FieldType.int), 1), (yX2_init, cX2_init, 1, none, 2), (yX3_init, cX3_init, 5, none, 3), (yX4_init, cX4_init, 4, none, 4), (yX4_group, cX4_group, 4, (some FieldType.int), 4), (yX4_line, cX4_line, 6, (some FieldType.int), 4), (yX4_sum, cX4_sum, 5, (some FieldType.int), 4), (yX4_control, cX4_control, 2, (some FieldType.int), 4), (yX4_set, cX4_set, 4, (some FieldType.int), 4), (yX4_initiate, cX4_initiate, 2, (some FieldType.int), 4), (yX4_generate, cX4_generate, 7, (some FieldType.int), 4), (yX4_terminate, cX4_terminate, 1, (some FieldType.int), 4), (yX4_at, cX4_at, 3, (some FieldType.int), 4), (yX4_lines, cX4_lines, 1, (some FieldType.int), 4), (yX4_total, cX4_total, 3, (some FieldType.long), 4), (yX4_counter, cX4_counter, 2, (some FieldType.int), 4), (yX4_suppress, cX4_suppress, 3, (some FieldType.int), 4), (yX4_indicate, cX4_indicate, 4, (some FieldType.int), 4), (yX4_held, cX4_held, 3, (some FieldType.int), 4), (yX4_isOfBody, cX4_isOfBody, 1, (some FieldType.boolean), 4), (yX4_isKindOfLevel, cX4_isKindOfLevel, 4, (some FieldType.boolean), 4), (yX4_groupNumbered, cX4_groupNumbered, 2, (some (FieldType.object "ReportWriter$Group")), 4), (yX4_groupOf, cX4_groupOf, 5, (some (FieldType.object "ReportWriter$Group")), 4), (yX4_sumNumbered, cX4_sumNumbered, 2, (some (FieldType.object "ReportWriter$Sum")), 4), (yX4_firstSumOf, cX4_firstSumOf, 4, (some (FieldType.object "ReportWriter$Sum")), 4), (yX4_isSummable, cX4_isSummable, 4, (some FieldType.boolean), 4), (yX4_topmostLine, cX4_topmostLine, 2, (some FieldType.int), 4), (yX4_lowestLine, cX4_lowestLine, 2, (some FieldType.int), 4), (yX4_startOnNewPage, cX4_startOnNewPage, 4, (some FieldType.int), 4), (yX4_startInBody, cX4_startInBody, 2, (some FieldType.int), 4), (yX4_fitsWithLine, cX4_fitsWithLine, 5, (some FieldType.boolean), 4), (yX4_printInBody, cX4_printInBody, 6, none, 4), (yX4_beginPage, cX4_beginPage, 1, none, 4), (yX4_endPage, cX4_endPage, 1, none, 4), (yX4_countPage, cX4_countPage, 1, none, 4), (yX4_printOutsideBody, cX4_printOutsideBody, 2, none, 4), (yX4_printOnOwnPage, cX4_printOnOwnPage, 2, none, 4), (yX4_printFrom, cX4_printFrom, 6, none, 4), (yX4_changedLevel, cX4_changedLevel, 2, (some FieldType.int), 4), (yX4_printControlHeads, cX4_printControlHeads, 3, none, 4), (yX4_printControlFoots, cX4_printControlFoots, 5, none, 4), (yX4_addToSums, cX4_addToSums, 6, none, 4), (yX4_rollSums, cX4_rollSums, 5, none, 4), (yX4_resetSums, cX4_resetSums, 4, none, 4), (yX5_init, cX5_init, 4, none, 5), (yX5_held, cX5_held, 3, (some FieldType.int), 5), (yX5_thrown, cX5_thrown, 1, (some FieldType.int), 5), (yX5_isGroup, cX5_isGroup, 2, (some FieldType.boolean), 5), (yX5_isDetail, cX5_isDetail, 2, (some FieldType.boolean), 5), (yX5_find, cX5_find, 5, (some FieldType.int), 5), (yX5_group, cX5_group, 4, (some FieldType.int), 5), (yX5_fits, cX5_fits, 11, (some FieldType.boolean), 5), (yX5_line, cX5_line, 4, (some FieldType.int), 5), (yX5_isOf, cX5_isOf, 4, (some FieldType.boolean), 5), (yX5_sum, cX5_sum, 4, (some FieldType.int), 5), (yX5_control, cX5_control, 2, (some FieldType.int), 5), (yX5_set, cX5_set, 4, (some FieldType.int), 5), (yX5_suppress, cX5_suppress, 3, (some FieldType.int), 5), (yX5_indicate, cX5_indicate, 3, (some FieldType.int), 5), (yX5_put, cX5_put, 5, none, 5), (yX5_isOn, cX5_isOn, 3, (some FieldType.boolean), 5), (yX5_putAll, cX5_putAll, 6, none, 5), (yX5_putFrom, cX5_putFrom, 4, none, 5), (yX5_alone, cX5_alone, 3, none, 5), (yX5_begin, cX5_begin, 2, none, 5), (yX5_over, cX5_over, 2, none, 5), (yX5_fresh, cX5_fresh, 2, none, 5), (yX5_top, cX5_top, 2, (some FieldType.int), 5), (yX5_inBody, cX5_inBody, 5, none, 5), (yX5_head, cX5_head, 3, none, 5), (yX5_firstSum, cX5_firstSum, 4, (some FieldType.int), 5), (yX5_foot, cX5_foot, 6, none, 5), (yX5_keep, cX5_keep, 2, none, 5), (yX5_initiate, cX5_initiate, 2, (some FieldType.int), 5), (yX5_changed, cX5_changed, 3, (some FieldType.int), 5), (yX5_generate, cX5_generate, 7, (some FieldType.int), 5), (yX5_terminate, cX5_terminate, 2, (some FieldType.int), 5), (yX5_at, cX5_at, 3, (some FieldType.int), 5), (yX5_lines, cX5_lines, 1, (some FieldType.int), 5), (yX5_total, cX5_total, 2, (some FieldType.long), 5), (yX5_counter, cX5_counter, 2, (some FieldType.int), 5), (yJx00060_init_a7421, cJx00060_init_a7421, 2, none, 6), (yJ9_max_7cf53, cJ9_max_7cf53, 2, (some FieldType.int), 7), (yJ9_min_7cf53, cJ9_min_7cf53, 2, (some FieldType.int), 7), (yJxa1e45_init_da8c8, cJxa1e45_init_da8c8, 1, none, 8), (yJxc12de_init_da8c8, cJxc12de_init_da8c8, 1, none, 9), (yJx4a65c_init_da8c8, cJx4a65c_init_da8c8, 1, none, 10), (yJx4a65c_grow_92f84, cJx4a65c_grow_92f84, 4, (some (FieldType.array (FieldType.object "java/lang/Object"))), 10), (yJx4a65c_grow_d5877, cJx4a65c_grow_d5877, 1, (some (FieldType.array (FieldType.object "java/lang/Object"))), 10), (yJx4a65c_size_8abf5, cJx4a65c_size_8abf5, 1, (some FieldType.int), 10), (yJx4a65c_elementData_915e3, cJx4a65c_elementData_915e3, 2, (some (FieldType.object "java/lang/Object")), 10), (yJx4a65c_get_915e3, cJx4a65c_get_915e3, 2, (some (FieldType.object "java/lang/Object")), 10), (yJx4a65c_add_72be8, cJx4a65c_add_72be8, 4, none, 10), (yJx4a65c_add_9ea2d, cJx4a65c_add_9ea2d, 2, (some FieldType.boolean), 10), (yJ7_copyOf_1904c, cJ7_copyOf_1904c, 2, (some (FieldType.array (FieldType.object "java/lang/Object"))), 11), (yJ7_copyOf_6403c, cJ7_copyOf_6403c, 4, (some (FieldType.array (FieldType.object "java/lang/Object"))), 11), (yJ15_checkIndex_7cf53, cJ15_checkIndex_7cf53, 2, (some FieldType.int), 12), (yJ8_newLength_cabcc, cJ8_newLength_cabcc, 4, (some FieldType.int), 13), (yJ8_hugeLength_7cf53, cJ8_hugeLength_7cf53, 3, (some FieldType.int), 13), (yJ3_checkIndex_8e157, cJ3_checkIndex_8e157, 3, (some FieldType.int), 14), (yL_cell, cL_cell, 2, (some FieldType.int), 15), (yL_at, cL_at, 5, (some FieldType.int), 15), (yL_law, cL_law, 7, (some .boolean), 15)]
def jy (μ : Nat) : MethodName := match jmT[μ]? with
  | some q => q.1
  | none => ⟨"", "", ""⟩
def jcode (μ : Nat) : ByteArray := match jmT[μ]? with
  | some q => q.2.1
  | none => ⟨#[]⟩
def jmaxl (μ : Nat) : Nat := match jmT[μ]? with
  | some q => q.2.2.1
  | none => 0
def jret (μ : Nat) : Option FieldType := match jmT[μ]? with
  | some q => q.2.2.2.1
  | none => none
def jow (μ : Nat) : Nat := match jmT[μ]? with
  | some q => q.2.2.2.2
  | none => 999
def jcnT : List String := [RX0, RX1, RX2, RX3, RX4, RX5, RJx00060, RJ9, RJxa1e45, RJxc12de, RJx4a65c, RJ7, RJ15, RJ8, RJ3, RL]
def jcn (o : Nat) : String := match jcnT[o]? with
  | some q => q
  | none => ""
theorem jmT_cls : ∀ q ∈ jmT, q.1.cls = jcn q.2.2.2.2 := by decide +kernel
theorem jow_cn {μ : Nat} (h : jow μ ≠ 999) : (jy μ).cls = jcn (jow μ) := by
  unfold jow at h ⊢
  unfold jy
  cases hq : jmT[μ]? with
  | none => rw [hq] at h; exact absurd rfl h
  | some q => exact jmT_cls q (List.mem_of_getElem? hq)
def jty (κ : Nat) : Nat → FieldType := match κ with
  | 0 => tyJx00060
  | 1 => tyJx4a65c
  | 2 => tyX0
  | 3 => tyX1
  | 4 => tyX2
  | 5 => tyX3
  | 6 => tyX4
  | 7 => tyX5
  | _ => fun _ => .int
theorem jcl_in_0 : ∀ w ∈ u_ws RJx00060 TJx00060 6, w ∈ jwords := jin_p _ [536, 538, 540, 542, 544, 589] (by decide +kernel) (by decide +kernel)
theorem jcl_in_1 : ∀ w ∈ u_ws RJx4a65c TJx4a65c 3, w ∈ jwords := jin_p _ [100, 96, 98] (by decide +kernel) (by decide +kernel)
theorem jcl_in_2 : ∀ w ∈ u_ws RX0 TX0 10, w ∈ jwords := jin_p _ [234, 236, 238, 240, 242, 244, 246, 248, 250, 252] (by decide +kernel) (by decide +kernel)
theorem jcl_in_3 : ∀ w ∈ u_ws RX1 TX1 2, w ∈ jwords := jin_p _ [114, 116] (by decide +kernel) (by decide +kernel)
theorem jcl_in_4 : ∀ w ∈ u_ws RX2 TX2 1, w ∈ jwords := jin_p _ [434] (by decide +kernel) (by decide +kernel)
theorem jcl_in_5 : ∀ w ∈ u_ws RX3 TX3 5, w ∈ jwords := jin_p _ [370, 372, 374, 376, 378] (by decide +kernel) (by decide +kernel)
theorem jcl_in_6 : ∀ w ∈ u_ws RX4 TX4 16, w ∈ jwords := jin_p _ [145, 147, 149, 151, 153, 155, 157, 159, 161, 163, 165, 167, 169, 171, 173, 175] (by decide +kernel) (by decide +kernel)
theorem jcl_in_7 : ∀ w ∈ u_ws RX5 TX5 29, w ∈ jwords := jin_p _ [638, 640, 642, 644, 646, 648, 650, 652, 654, 656, 658, 660, 662, 664, 666, 668, 670, 672, 674, 676, 678, 680, 682, 684, 686, 688, 690, 692, 694] (by decide +kernel) (by decide +kernel)
theorem jcl_in : ∀ (κ : Nat) (q : vw_C), vwCl[κ]? = some q → ∀ w ∈ u_ws q.1 q.2.1 q.2.2, w ∈ jwords := by
  intro κ q h
  have hl : κ < 8 := (List.getElem?_eq_some_iff.mp h).1
  match κ, hl, h with
  | 0, _, h => cases h; exact jcl_in_0
  | 1, _, h => cases h; exact jcl_in_1
  | 2, _, h => cases h; exact jcl_in_2
  | 3, _, h => cases h; exact jcl_in_3
  | 4, _, h => cases h; exact jcl_in_4
  | 5, _, h => cases h; exact jcl_in_5
  | 6, _, h => cases h; exact jcl_in_6
  | 7, _, h => cases h; exact jcl_in_7
theorem jcl_ty : ∀ (κ : Nat) (q : vw_C), vwCl[κ]? = some q → ∀ k, k < q.2.2 → parseFieldDescriptor (q.2.1 k).2.2.1 = some (jty κ k) := by
  intro κ q h
  have hl : κ < 8 := (List.getElem?_eq_some_iff.mp h).1
  match κ, hl, h with
  | 0, _, h => cases h; exact tyJx00060_ok
  | 1, _, h => cases h; exact tyJx4a65c_ok
  | 2, _, h => cases h; exact tyX0_ok
  | 3, _, h => cases h; exact tyX1_ok
  | 4, _, h => cases h; exact tyX2_ok
  | 5, _, h => cases h; exact tyX3_ok
  | 6, _, h => cases h; exact tyX4_ok
  | 7, _, h => cases h; exact tyX5_ok
theorem jcl_nm : ∀ (κ : Nat) (q : vw_C), vwCl[κ]? = some q → ∀ a, a < q.2.2 → ∀ b, b < q.2.2 → a ≠ b → (q.2.1 a).2.1 ≠ (q.2.1 b).2.1 := by
  intro κ q h
  have hl : κ < 8 := (List.getElem?_eq_some_iff.mp h).1
  match κ, hl, h with
  | 0, _, h => cases h; exact nmJx00060
  | 1, _, h => cases h; exact nmJx4a65c
  | 2, _, h => cases h; exact nmX0
  | 3, _, h => cases h; exact nmX1
  | 4, _, h => cases h; exact nmX2
  | 5, _, h => cases h; exact nmX3
  | 6, _, h => cases h; exact nmX4
  | 7, _, h => cases h; exact nmX5
def jktT : List (Nat × FieldType) := [(53, .object "java/lang/Object"), (60, .int), (61, .int), (62, .int), (63, .int), (64, .int), (65, .int), (66, .int), (67, .int), (68, .int), (69, .int), (70, .boolean), (71, .boolean), (72, .boolean), (73, .boolean), (74, .int), (75, .int), (76, .int), (77, .long), (78, .int), (79, .long), (94, .int), (95, .object "java/lang/Object")]
def jkt (κ : Nat) : Option FieldType := (jktT.find? (fun x => x.1 == κ)).map (·.2)
theorem jkt_mem {κ : Nat} {ty : FieldType} (h : jkt κ = some ty) : (κ, ty) ∈ jktT := by
  unfold jkt at h
  obtain ⟨⟨κ', ty'⟩, h1, h2⟩ := Option.map_eq_some_iff.mp h
  have h3 := List.find?_some h1
  simp only [beq_iff_eq] at h3
  dsimp only at h2 h3
  subst h2 h3
  exact List.mem_of_find?_eq_some h1
theorem jktT_50 : ∀ x ∈ jktT, 50 ≤ x.1 := by decide +kernel
theorem jkt_50 {κ : Nat} {ty : FieldType} (h : jkt κ = some ty) : 50 ≤ κ := jktT_50 _ (jkt_mem h)
def jkr (κ : Nat) : Bool := κ == 53 || κ == 95
theorem jkr_c {κ : Nat} (h : jkr κ = true) : κ = 53 ∨ κ = 95 := by
  unfold jkr at h
  simp only [Bool.or_eq_true, beq_iff_eq] at h
  exact h
theorem jkr_50 {κ : Nat} (h : jkr κ = true) : 50 ≤ κ := by
  have := jkr_c h
  omega
theorem jkr_ok {κ : Nat} (h : jkr κ = true) : jkt κ = some (.object "java/lang/Object") := by
  rcases jkr_c h with h | h <;> subst h <;> rfl
def jlk {α : Type} (t : List ((Nat × Nat) × α)) (o i : Nat) : Option α := (t.find? (fun x => x.1.1 == o && x.1.2 == i)).map (·.2)
theorem jlk_mem {α : Type} {t : List ((Nat × Nat) × α)} {o i : Nat} {a : α} (h : jlk t o i = some a) : ((o, i), a) ∈ t := by
  unfold jlk at h
  obtain ⟨⟨⟨o', i'⟩, a'⟩, h1, h2⟩ := Option.map_eq_some_iff.mp h
  have h3 := List.find?_some h1
  simp only [Bool.and_eq_true, beq_iff_eq] at h3
  obtain ⟨h4, h5⟩ := h3
  dsimp only at h2 h4 h5
  subst h2 h4 h5
  exact List.mem_of_find?_eq_some h1
def jLk (own : String) (idx : Nat) (ow n d : String) : Prop := ∃ ref : String, (Cond.fieldLink own idx ref n d ∈ jwords ∨ ∃ host : String, Cond.fieldLinkNest own idx ref n d host ∈ jwords) ∧ (ref = ow ∨ Cond.sameField ref ow n d ∈ jwords)
def jflT : List ((Nat × Nat) × (Nat × Nat)) := [((10, 9), (1, 1)), ((10, 48), (1, 2)), ((9, 7), (1, 0)), ((10, 63), (1, 0)), ((1, 10), (3, 0)), ((1, 16), (3, 1)), ((4, 136), (3, 1)), ((4, 63), (6, 0)), ((4, 66), (6, 1)), ((4, 69), (6, 2)), ((4, 10), (6, 3)), ((4, 16), (6, 4)), ((4, 19), (6, 5)), ((4, 23), (6, 6)), ((4, 27), (6, 7)), ((4, 33), (6, 8)), ((4, 37), (6, 9)), ((4, 41), (6, 10)), ((4, 44), (6, 11)), ((4, 47), (6, 12)), ((4, 50), (6, 13)), ((4, 53), (6, 14)), ((4, 56), (6, 15)), ((0, 35), (2, 0)), ((4, 119), (2, 0)), ((0, 38), (2, 1)), ((4, 108), (2, 1)), ((0, 41), (2, 2)), ((4, 111), (2, 2)), ((0, 9), (2, 3)), ((4, 216), (2, 3)), ((0, 15), (2, 4)), ((4, 213), (2, 4)), ((0, 19), (2, 5)), ((4, 97), (2, 5)), ((0, 22), (2, 6)), ((4, 254), (2, 6)), ((0, 26), (2, 7)), ((4, 191), (2, 7)), ((0, 29), (2, 8)), ((4, 194), (2, 8)), ((0, 32), (2, 9)), ((4, 241), (2, 9)), ((3, 13), (5, 0)), ((4, 205), (5, 0)), ((3, 17), (5, 1)), ((4, 208), (5, 1)), ((3, 20), (5, 2)), ((4, 269), (5, 2)), ((3, 23), (5, 3)), ((4, 272), (5, 3)), ((3, 7), (5, 4)), ((4, 132), (5, 4)), ((2, 9), (4, 0)), ((1, 35), (4, 0)), ((5, 72), (7, 0)), ((5, 62), (7, 1)), ((5, 66), (7, 2)), ((5, 69), (7, 3)), ((5, 82), (7, 4)), ((5, 75), (7, 5)), ((5, 100), (7, 6)), ((5, 7), (7, 7)), ((5, 13), (7, 8)), ((5, 16), (7, 9)), ((5, 19), (7, 10)), ((5, 22), (7, 11)), ((5, 25), (7, 12)), ((5, 28), (7, 13)), ((5, 32), (7, 14)), ((5, 35), (7, 15)), ((5, 38), (7, 16)), ((5, 41), (7, 17)), ((5, 44), (7, 18)), ((5, 47), (7, 19)), ((5, 50), (7, 20)), ((5, 85), (7, 21)), ((5, 153), (7, 22)), ((5, 156), (7, 23)), ((5, 110), (7, 24)), ((5, 113), (7, 25)), ((5, 130), (7, 26)), ((5, 55), (7, 27)), ((5, 107), (7, 28))]
def jflP (x : (Nat × Nat) × (Nat × Nat)) : Prop := ∃ C T N, vwCl[x.2.1]? = some (C, T, N) ∧ x.2.1 < 50 ∧ x.2.2 < N ∧ jLk (jcn x.1.1) x.1.2 (T x.2.2).1 (T x.2.2).2.1 (T x.2.2).2.2.1
theorem jflT_0 : jflP ((10, 9), (1, 1)) := ⟨_, _, _, rfl, by decide, by decide, "java/util/ArrayList", Or.inl (jmw 91 (by decide +kernel) (by decide +kernel)), Or.inl rfl⟩
theorem jflT_1 : jflP ((10, 48), (1, 2)) := ⟨_, _, _, rfl, by decide, by decide, "java/util/ArrayList", Or.inl (jmw 92 (by decide +kernel) (by decide +kernel)), Or.inl rfl⟩
theorem jflT_2 : jflP ((9, 7), (1, 0)) := ⟨_, _, _, rfl, by decide, by decide, "java/util/AbstractList", Or.inl (jmw 93 (by decide +kernel) (by decide +kernel)), Or.inl rfl⟩
theorem jflT_3 : jflP ((10, 63), (1, 0)) := ⟨_, _, _, rfl, by decide, by decide, "java/util/ArrayList", Or.inl (jmw 94 (by decide +kernel) (by decide +kernel)), Or.inr (jmw 95 (by decide +kernel) (by decide +kernel))⟩
theorem jflT_4 : jflP ((1, 10), (3, 0)) := ⟨_, _, _, rfl, by decide, by decide, "ReportWriter$Printed", Or.inl (jmw 111 (by decide +kernel) (by decide +kernel)), Or.inl rfl⟩
theorem jflT_5 : jflP ((1, 16), (3, 1)) := ⟨_, _, _, rfl, by decide, by decide, "ReportWriter$Printed", Or.inl (jmw 112 (by decide +kernel) (by decide +kernel)), Or.inl rfl⟩
theorem jflT_6 : jflP ((4, 136), (3, 1)) := ⟨_, _, _, rfl, by decide, by decide, "ReportWriter$Printed", Or.inl (jmw 113 (by decide +kernel) (by decide +kernel)), Or.inl rfl⟩
theorem jflT_7 : jflP ((4, 63), (6, 0)) := ⟨_, _, _, rfl, by decide, by decide, "ReportWriter", Or.inl (jmw 129 (by decide +kernel) (by decide +kernel)), Or.inl rfl⟩
theorem jflT_8 : jflP ((4, 66), (6, 1)) := ⟨_, _, _, rfl, by decide, by decide, "ReportWriter", Or.inl (jmw 130 (by decide +kernel) (by decide +kernel)), Or.inl rfl⟩
theorem jflT_9 : jflP ((4, 69), (6, 2)) := ⟨_, _, _, rfl, by decide, by decide, "ReportWriter", Or.inl (jmw 131 (by decide +kernel) (by decide +kernel)), Or.inl rfl⟩
theorem jflT_10 : jflP ((4, 10), (6, 3)) := ⟨_, _, _, rfl, by decide, by decide, "ReportWriter", Or.inl (jmw 132 (by decide +kernel) (by decide +kernel)), Or.inl rfl⟩
theorem jflT_11 : jflP ((4, 16), (6, 4)) := ⟨_, _, _, rfl, by decide, by decide, "ReportWriter", Or.inl (jmw 133 (by decide +kernel) (by decide +kernel)), Or.inl rfl⟩
theorem jflT_12 : jflP ((4, 19), (6, 5)) := ⟨_, _, _, rfl, by decide, by decide, "ReportWriter", Or.inl (jmw 134 (by decide +kernel) (by decide +kernel)), Or.inl rfl⟩
theorem jflT_13 : jflP ((4, 23), (6, 6)) := ⟨_, _, _, rfl, by decide, by decide, "ReportWriter", Or.inl (jmw 135 (by decide +kernel) (by decide +kernel)), Or.inl rfl⟩
theorem jflT_14 : jflP ((4, 27), (6, 7)) := ⟨_, _, _, rfl, by decide, by decide, "ReportWriter", Or.inl (jmw 136 (by decide +kernel) (by decide +kernel)), Or.inl rfl⟩
theorem jflT_15 : jflP ((4, 33), (6, 8)) := ⟨_, _, _, rfl, by decide, by decide, "ReportWriter", Or.inl (jmw 137 (by decide +kernel) (by decide +kernel)), Or.inl rfl⟩
theorem jflT_16 : jflP ((4, 37), (6, 9)) := ⟨_, _, _, rfl, by decide, by decide, "ReportWriter", Or.inl (jmw 138 (by decide +kernel) (by decide +kernel)), Or.inl rfl⟩
theorem jflT_17 : jflP ((4, 41), (6, 10)) := ⟨_, _, _, rfl, by decide, by decide, "ReportWriter", Or.inl (jmw 139 (by decide +kernel) (by decide +kernel)), Or.inl rfl⟩
theorem jflT_18 : jflP ((4, 44), (6, 11)) := ⟨_, _, _, rfl, by decide, by decide, "ReportWriter", Or.inl (jmw 140 (by decide +kernel) (by decide +kernel)), Or.inl rfl⟩
theorem jflT_19 : jflP ((4, 47), (6, 12)) := ⟨_, _, _, rfl, by decide, by decide, "ReportWriter", Or.inl (jmw 141 (by decide +kernel) (by decide +kernel)), Or.inl rfl⟩
theorem jflT_20 : jflP ((4, 50), (6, 13)) := ⟨_, _, _, rfl, by decide, by decide, "ReportWriter", Or.inl (jmw 142 (by decide +kernel) (by decide +kernel)), Or.inl rfl⟩
theorem jflT_21 : jflP ((4, 53), (6, 14)) := ⟨_, _, _, rfl, by decide, by decide, "ReportWriter", Or.inl (jmw 143 (by decide +kernel) (by decide +kernel)), Or.inl rfl⟩
theorem jflT_22 : jflP ((4, 56), (6, 15)) := ⟨_, _, _, rfl, by decide, by decide, "ReportWriter", Or.inl (jmw 144 (by decide +kernel) (by decide +kernel)), Or.inl rfl⟩
theorem jflT_23 : jflP ((0, 35), (2, 0)) := ⟨_, _, _, rfl, by decide, by decide, "ReportWriter$Group", Or.inl (jmw 214 (by decide +kernel) (by decide +kernel)), Or.inl rfl⟩
theorem jflT_24 : jflP ((4, 119), (2, 0)) := ⟨_, _, _, rfl, by decide, by decide, "ReportWriter$Group", Or.inl (jmw 215 (by decide +kernel) (by decide +kernel)), Or.inl rfl⟩
theorem jflT_25 : jflP ((0, 38), (2, 1)) := ⟨_, _, _, rfl, by decide, by decide, "ReportWriter$Group", Or.inl (jmw 216 (by decide +kernel) (by decide +kernel)), Or.inl rfl⟩
theorem jflT_26 : jflP ((4, 108), (2, 1)) := ⟨_, _, _, rfl, by decide, by decide, "ReportWriter$Group", Or.inl (jmw 217 (by decide +kernel) (by decide +kernel)), Or.inl rfl⟩
theorem jflT_27 : jflP ((0, 41), (2, 2)) := ⟨_, _, _, rfl, by decide, by decide, "ReportWriter$Group", Or.inl (jmw 218 (by decide +kernel) (by decide +kernel)), Or.inl rfl⟩
theorem jflT_28 : jflP ((4, 111), (2, 2)) := ⟨_, _, _, rfl, by decide, by decide, "ReportWriter$Group", Or.inl (jmw 219 (by decide +kernel) (by decide +kernel)), Or.inl rfl⟩
theorem jflT_29 : jflP ((0, 9), (2, 3)) := ⟨_, _, _, rfl, by decide, by decide, "ReportWriter$Group", Or.inl (jmw 220 (by decide +kernel) (by decide +kernel)), Or.inl rfl⟩
theorem jflT_30 : jflP ((4, 216), (2, 3)) := ⟨_, _, _, rfl, by decide, by decide, "ReportWriter$Group", Or.inl (jmw 221 (by decide +kernel) (by decide +kernel)), Or.inl rfl⟩
theorem jflT_31 : jflP ((0, 15), (2, 4)) := ⟨_, _, _, rfl, by decide, by decide, "ReportWriter$Group", Or.inl (jmw 222 (by decide +kernel) (by decide +kernel)), Or.inl rfl⟩
theorem jflT_32 : jflP ((4, 213), (2, 4)) := ⟨_, _, _, rfl, by decide, by decide, "ReportWriter$Group", Or.inl (jmw 223 (by decide +kernel) (by decide +kernel)), Or.inl rfl⟩
theorem jflT_33 : jflP ((0, 19), (2, 5)) := ⟨_, _, _, rfl, by decide, by decide, "ReportWriter$Group", Or.inl (jmw 224 (by decide +kernel) (by decide +kernel)), Or.inl rfl⟩
theorem jflT_34 : jflP ((4, 97), (2, 5)) := ⟨_, _, _, rfl, by decide, by decide, "ReportWriter$Group", Or.inl (jmw 225 (by decide +kernel) (by decide +kernel)), Or.inl rfl⟩
theorem jflT_35 : jflP ((0, 22), (2, 6)) := ⟨_, _, _, rfl, by decide, by decide, "ReportWriter$Group", Or.inl (jmw 226 (by decide +kernel) (by decide +kernel)), Or.inl rfl⟩
theorem jflT_36 : jflP ((4, 254), (2, 6)) := ⟨_, _, _, rfl, by decide, by decide, "ReportWriter$Group", Or.inl (jmw 227 (by decide +kernel) (by decide +kernel)), Or.inl rfl⟩
theorem jflT_37 : jflP ((0, 26), (2, 7)) := ⟨_, _, _, rfl, by decide, by decide, "ReportWriter$Group", Or.inl (jmw 228 (by decide +kernel) (by decide +kernel)), Or.inl rfl⟩
theorem jflT_38 : jflP ((4, 191), (2, 7)) := ⟨_, _, _, rfl, by decide, by decide, "ReportWriter$Group", Or.inl (jmw 229 (by decide +kernel) (by decide +kernel)), Or.inl rfl⟩
theorem jflT_39 : jflP ((0, 29), (2, 8)) := ⟨_, _, _, rfl, by decide, by decide, "ReportWriter$Group", Or.inl (jmw 230 (by decide +kernel) (by decide +kernel)), Or.inl rfl⟩
theorem jflT_40 : jflP ((4, 194), (2, 8)) := ⟨_, _, _, rfl, by decide, by decide, "ReportWriter$Group", Or.inl (jmw 231 (by decide +kernel) (by decide +kernel)), Or.inl rfl⟩
theorem jflT_41 : jflP ((0, 32), (2, 9)) := ⟨_, _, _, rfl, by decide, by decide, "ReportWriter$Group", Or.inl (jmw 232 (by decide +kernel) (by decide +kernel)), Or.inl rfl⟩
theorem jflT_42 : jflP ((4, 241), (2, 9)) := ⟨_, _, _, rfl, by decide, by decide, "ReportWriter$Group", Or.inl (jmw 233 (by decide +kernel) (by decide +kernel)), Or.inl rfl⟩
theorem jflT_43 : jflP ((3, 13), (5, 0)) := ⟨_, _, _, rfl, by decide, by decide, "ReportWriter$Sum", Or.inl (jmw 360 (by decide +kernel) (by decide +kernel)), Or.inl rfl⟩
theorem jflT_44 : jflP ((4, 205), (5, 0)) := ⟨_, _, _, rfl, by decide, by decide, "ReportWriter$Sum", Or.inl (jmw 361 (by decide +kernel) (by decide +kernel)), Or.inl rfl⟩
theorem jflT_45 : jflP ((3, 17), (5, 1)) := ⟨_, _, _, rfl, by decide, by decide, "ReportWriter$Sum", Or.inl (jmw 362 (by decide +kernel) (by decide +kernel)), Or.inl rfl⟩
theorem jflT_46 : jflP ((4, 208), (5, 1)) := ⟨_, _, _, rfl, by decide, by decide, "ReportWriter$Sum", Or.inl (jmw 363 (by decide +kernel) (by decide +kernel)), Or.inl rfl⟩
theorem jflT_47 : jflP ((3, 20), (5, 2)) := ⟨_, _, _, rfl, by decide, by decide, "ReportWriter$Sum", Or.inl (jmw 364 (by decide +kernel) (by decide +kernel)), Or.inl rfl⟩
theorem jflT_48 : jflP ((4, 269), (5, 2)) := ⟨_, _, _, rfl, by decide, by decide, "ReportWriter$Sum", Or.inl (jmw 365 (by decide +kernel) (by decide +kernel)), Or.inl rfl⟩
theorem jflT_49 : jflP ((3, 23), (5, 3)) := ⟨_, _, _, rfl, by decide, by decide, "ReportWriter$Sum", Or.inl (jmw 366 (by decide +kernel) (by decide +kernel)), Or.inl rfl⟩
theorem jflT_50 : jflP ((4, 272), (5, 3)) := ⟨_, _, _, rfl, by decide, by decide, "ReportWriter$Sum", Or.inl (jmw 367 (by decide +kernel) (by decide +kernel)), Or.inl rfl⟩
theorem jflT_51 : jflP ((3, 7), (5, 4)) := ⟨_, _, _, rfl, by decide, by decide, "ReportWriter$Sum", Or.inl (jmw 368 (by decide +kernel) (by decide +kernel)), Or.inl rfl⟩
theorem jflT_52 : jflP ((4, 132), (5, 4)) := ⟨_, _, _, rfl, by decide, by decide, "ReportWriter$Sum", Or.inl (jmw 369 (by decide +kernel) (by decide +kernel)), Or.inl rfl⟩
theorem jflT_53 : jflP ((2, 9), (4, 0)) := ⟨_, _, _, rfl, by decide, by decide, "ReportWriter$Sheet", Or.inl (jmw 432 (by decide +kernel) (by decide +kernel)), Or.inl rfl⟩
theorem jflT_54 : jflP ((1, 35), (4, 0)) := ⟨_, _, _, rfl, by decide, by decide, "ReportWriter$Sheet", Or.inl (jmw 433 (by decide +kernel) (by decide +kernel)), Or.inl rfl⟩
theorem jflT_55 : jflP ((5, 72), (7, 0)) := ⟨_, _, _, rfl, by decide, by decide, "ReportWriterModel", Or.inl (jmw 609 (by decide +kernel) (by decide +kernel)), Or.inl rfl⟩
theorem jflT_56 : jflP ((5, 62), (7, 1)) := ⟨_, _, _, rfl, by decide, by decide, "ReportWriterModel", Or.inl (jmw 610 (by decide +kernel) (by decide +kernel)), Or.inl rfl⟩
theorem jflT_57 : jflP ((5, 66), (7, 2)) := ⟨_, _, _, rfl, by decide, by decide, "ReportWriterModel", Or.inl (jmw 611 (by decide +kernel) (by decide +kernel)), Or.inl rfl⟩
theorem jflT_58 : jflP ((5, 69), (7, 3)) := ⟨_, _, _, rfl, by decide, by decide, "ReportWriterModel", Or.inl (jmw 612 (by decide +kernel) (by decide +kernel)), Or.inl rfl⟩
theorem jflT_59 : jflP ((5, 82), (7, 4)) := ⟨_, _, _, rfl, by decide, by decide, "ReportWriterModel", Or.inl (jmw 613 (by decide +kernel) (by decide +kernel)), Or.inl rfl⟩
theorem jflT_60 : jflP ((5, 75), (7, 5)) := ⟨_, _, _, rfl, by decide, by decide, "ReportWriterModel", Or.inl (jmw 614 (by decide +kernel) (by decide +kernel)), Or.inl rfl⟩
theorem jflT_61 : jflP ((5, 100), (7, 6)) := ⟨_, _, _, rfl, by decide, by decide, "ReportWriterModel", Or.inl (jmw 615 (by decide +kernel) (by decide +kernel)), Or.inl rfl⟩
theorem jflT_62 : jflP ((5, 7), (7, 7)) := ⟨_, _, _, rfl, by decide, by decide, "ReportWriterModel", Or.inl (jmw 616 (by decide +kernel) (by decide +kernel)), Or.inl rfl⟩
theorem jflT_63 : jflP ((5, 13), (7, 8)) := ⟨_, _, _, rfl, by decide, by decide, "ReportWriterModel", Or.inl (jmw 617 (by decide +kernel) (by decide +kernel)), Or.inl rfl⟩
theorem jflT_64 : jflP ((5, 16), (7, 9)) := ⟨_, _, _, rfl, by decide, by decide, "ReportWriterModel", Or.inl (jmw 618 (by decide +kernel) (by decide +kernel)), Or.inl rfl⟩
theorem jflT_65 : jflP ((5, 19), (7, 10)) := ⟨_, _, _, rfl, by decide, by decide, "ReportWriterModel", Or.inl (jmw 619 (by decide +kernel) (by decide +kernel)), Or.inl rfl⟩
theorem jflT_66 : jflP ((5, 22), (7, 11)) := ⟨_, _, _, rfl, by decide, by decide, "ReportWriterModel", Or.inl (jmw 620 (by decide +kernel) (by decide +kernel)), Or.inl rfl⟩
theorem jflT_67 : jflP ((5, 25), (7, 12)) := ⟨_, _, _, rfl, by decide, by decide, "ReportWriterModel", Or.inl (jmw 621 (by decide +kernel) (by decide +kernel)), Or.inl rfl⟩
theorem jflT_68 : jflP ((5, 28), (7, 13)) := ⟨_, _, _, rfl, by decide, by decide, "ReportWriterModel", Or.inl (jmw 622 (by decide +kernel) (by decide +kernel)), Or.inl rfl⟩
theorem jflT_69 : jflP ((5, 32), (7, 14)) := ⟨_, _, _, rfl, by decide, by decide, "ReportWriterModel", Or.inl (jmw 623 (by decide +kernel) (by decide +kernel)), Or.inl rfl⟩
theorem jflT_70 : jflP ((5, 35), (7, 15)) := ⟨_, _, _, rfl, by decide, by decide, "ReportWriterModel", Or.inl (jmw 624 (by decide +kernel) (by decide +kernel)), Or.inl rfl⟩
theorem jflT_71 : jflP ((5, 38), (7, 16)) := ⟨_, _, _, rfl, by decide, by decide, "ReportWriterModel", Or.inl (jmw 625 (by decide +kernel) (by decide +kernel)), Or.inl rfl⟩
theorem jflT_72 : jflP ((5, 41), (7, 17)) := ⟨_, _, _, rfl, by decide, by decide, "ReportWriterModel", Or.inl (jmw 626 (by decide +kernel) (by decide +kernel)), Or.inl rfl⟩
theorem jflT_73 : jflP ((5, 44), (7, 18)) := ⟨_, _, _, rfl, by decide, by decide, "ReportWriterModel", Or.inl (jmw 627 (by decide +kernel) (by decide +kernel)), Or.inl rfl⟩
theorem jflT_74 : jflP ((5, 47), (7, 19)) := ⟨_, _, _, rfl, by decide, by decide, "ReportWriterModel", Or.inl (jmw 628 (by decide +kernel) (by decide +kernel)), Or.inl rfl⟩
theorem jflT_75 : jflP ((5, 50), (7, 20)) := ⟨_, _, _, rfl, by decide, by decide, "ReportWriterModel", Or.inl (jmw 629 (by decide +kernel) (by decide +kernel)), Or.inl rfl⟩
theorem jflT_76 : jflP ((5, 85), (7, 21)) := ⟨_, _, _, rfl, by decide, by decide, "ReportWriterModel", Or.inl (jmw 630 (by decide +kernel) (by decide +kernel)), Or.inl rfl⟩
theorem jflT_77 : jflP ((5, 153), (7, 22)) := ⟨_, _, _, rfl, by decide, by decide, "ReportWriterModel", Or.inl (jmw 631 (by decide +kernel) (by decide +kernel)), Or.inl rfl⟩
theorem jflT_78 : jflP ((5, 156), (7, 23)) := ⟨_, _, _, rfl, by decide, by decide, "ReportWriterModel", Or.inl (jmw 632 (by decide +kernel) (by decide +kernel)), Or.inl rfl⟩
theorem jflT_79 : jflP ((5, 110), (7, 24)) := ⟨_, _, _, rfl, by decide, by decide, "ReportWriterModel", Or.inl (jmw 633 (by decide +kernel) (by decide +kernel)), Or.inl rfl⟩
theorem jflT_80 : jflP ((5, 113), (7, 25)) := ⟨_, _, _, rfl, by decide, by decide, "ReportWriterModel", Or.inl (jmw 634 (by decide +kernel) (by decide +kernel)), Or.inl rfl⟩
theorem jflT_81 : jflP ((5, 130), (7, 26)) := ⟨_, _, _, rfl, by decide, by decide, "ReportWriterModel", Or.inl (jmw 635 (by decide +kernel) (by decide +kernel)), Or.inl rfl⟩
theorem jflT_82 : jflP ((5, 55), (7, 27)) := ⟨_, _, _, rfl, by decide, by decide, "ReportWriterModel", Or.inl (jmw 636 (by decide +kernel) (by decide +kernel)), Or.inl rfl⟩
theorem jflT_83 : jflP ((5, 107), (7, 28)) := ⟨_, _, _, rfl, by decide, by decide, "ReportWriterModel", Or.inl (jmw 637 (by decide +kernel) (by decide +kernel)), Or.inl rfl⟩
theorem jflT_ok : ∀ x ∈ jflT, jflP x := List.forall_mem_cons.mpr ⟨jflT_0, List.forall_mem_cons.mpr ⟨jflT_1, List.forall_mem_cons.mpr ⟨jflT_2, List.forall_mem_cons.mpr ⟨jflT_3, List.forall_mem_cons.mpr ⟨jflT_4, List.forall_mem_cons.mpr ⟨jflT_5, List.forall_mem_cons.mpr ⟨jflT_6, List.forall_mem_cons.mpr ⟨jflT_7, List.forall_mem_cons.mpr ⟨jflT_8, List.forall_mem_cons.mpr ⟨jflT_9, List.forall_mem_cons.mpr ⟨jflT_10, List.forall_mem_cons.mpr ⟨jflT_11, List.forall_mem_cons.mpr ⟨jflT_12, List.forall_mem_cons.mpr ⟨jflT_13, List.forall_mem_cons.mpr ⟨jflT_14, List.forall_mem_cons.mpr ⟨jflT_15, List.forall_mem_cons.mpr ⟨jflT_16, List.forall_mem_cons.mpr ⟨jflT_17, List.forall_mem_cons.mpr ⟨jflT_18, List.forall_mem_cons.mpr ⟨jflT_19, List.forall_mem_cons.mpr ⟨jflT_20, List.forall_mem_cons.mpr ⟨jflT_21, List.forall_mem_cons.mpr ⟨jflT_22, List.forall_mem_cons.mpr ⟨jflT_23, List.forall_mem_cons.mpr ⟨jflT_24, List.forall_mem_cons.mpr ⟨jflT_25, List.forall_mem_cons.mpr ⟨jflT_26, List.forall_mem_cons.mpr ⟨jflT_27, List.forall_mem_cons.mpr ⟨jflT_28, List.forall_mem_cons.mpr ⟨jflT_29, List.forall_mem_cons.mpr ⟨jflT_30, List.forall_mem_cons.mpr ⟨jflT_31, List.forall_mem_cons.mpr ⟨jflT_32, List.forall_mem_cons.mpr ⟨jflT_33, List.forall_mem_cons.mpr ⟨jflT_34, List.forall_mem_cons.mpr ⟨jflT_35, List.forall_mem_cons.mpr ⟨jflT_36, List.forall_mem_cons.mpr ⟨jflT_37, List.forall_mem_cons.mpr ⟨jflT_38, List.forall_mem_cons.mpr ⟨jflT_39, List.forall_mem_cons.mpr ⟨jflT_40, List.forall_mem_cons.mpr ⟨jflT_41, List.forall_mem_cons.mpr ⟨jflT_42, List.forall_mem_cons.mpr ⟨jflT_43, List.forall_mem_cons.mpr ⟨jflT_44, List.forall_mem_cons.mpr ⟨jflT_45, List.forall_mem_cons.mpr ⟨jflT_46, List.forall_mem_cons.mpr ⟨jflT_47, List.forall_mem_cons.mpr ⟨jflT_48, List.forall_mem_cons.mpr ⟨jflT_49, List.forall_mem_cons.mpr ⟨jflT_50, List.forall_mem_cons.mpr ⟨jflT_51, List.forall_mem_cons.mpr ⟨jflT_52, List.forall_mem_cons.mpr ⟨jflT_53, List.forall_mem_cons.mpr ⟨jflT_54, List.forall_mem_cons.mpr ⟨jflT_55, List.forall_mem_cons.mpr ⟨jflT_56, List.forall_mem_cons.mpr ⟨jflT_57, List.forall_mem_cons.mpr ⟨jflT_58, List.forall_mem_cons.mpr ⟨jflT_59, List.forall_mem_cons.mpr ⟨jflT_60, List.forall_mem_cons.mpr ⟨jflT_61, List.forall_mem_cons.mpr ⟨jflT_62, List.forall_mem_cons.mpr ⟨jflT_63, List.forall_mem_cons.mpr ⟨jflT_64, List.forall_mem_cons.mpr ⟨jflT_65, List.forall_mem_cons.mpr ⟨jflT_66, List.forall_mem_cons.mpr ⟨jflT_67, List.forall_mem_cons.mpr ⟨jflT_68, List.forall_mem_cons.mpr ⟨jflT_69, List.forall_mem_cons.mpr ⟨jflT_70, List.forall_mem_cons.mpr ⟨jflT_71, List.forall_mem_cons.mpr ⟨jflT_72, List.forall_mem_cons.mpr ⟨jflT_73, List.forall_mem_cons.mpr ⟨jflT_74, List.forall_mem_cons.mpr ⟨jflT_75, List.forall_mem_cons.mpr ⟨jflT_76, List.forall_mem_cons.mpr ⟨jflT_77, List.forall_mem_cons.mpr ⟨jflT_78, List.forall_mem_cons.mpr ⟨jflT_79, List.forall_mem_cons.mpr ⟨jflT_80, List.forall_mem_cons.mpr ⟨jflT_81, List.forall_mem_cons.mpr ⟨jflT_82, List.forall_mem_cons.mpr ⟨jflT_83, fun _ h => absurd h List.not_mem_nil⟩⟩⟩⟩⟩⟩⟩⟩⟩⟩⟩⟩⟩⟩⟩⟩⟩⟩⟩⟩⟩⟩⟩⟩⟩⟩⟩⟩⟩⟩⟩⟩⟩⟩⟩⟩⟩⟩⟩⟩⟩⟩⟩⟩⟩⟩⟩⟩⟩⟩⟩⟩⟩⟩⟩⟩⟩⟩⟩⟩⟩⟩⟩⟩⟩⟩⟩⟩⟩⟩⟩⟩⟩⟩⟩⟩⟩⟩⟩⟩⟩⟩⟩⟩
theorem jfl_own {μ idx : Nat} {a : (Nat × Nat)} (h : jlk jflT (jow μ) idx = some a) : jflP ((jow μ, idx), a) := jflT_ok _ (jlk_mem h)
def jfl (o i : Nat) : Option (Nat × Nat) := jlk jflT o i
theorem jow_of {μ idx : Nat} {α : Type} {t : List ((Nat × Nat) × α)} {a : α} (h : jlk t (jow μ) idx = some a) (ht : ∀ x ∈ t, x.1.1 ≠ 999) : (jy μ).cls = jcn (jow μ) := jow_cn (ht _ (jlk_mem h))
theorem jfl_ok {μ idx κ k : Nat} (h : jfl (jow μ) idx = some (κ, k)) : ∃ C T N, vwCl[κ]? = some (C, T, N) ∧ κ < 50 ∧ k < N ∧ jLk (jy μ).cls idx (T k).1 (T k).2.1 (T k).2.2.1 := by
  rw [jow_of h (by decide +kernel)]
  exact jfl_own h
def jpf (μ κ k : Nat) : Bool := match vwCl[κ]? with
  | some q => !(q.2.1 k).2.2.2 || ((jy μ).name == "<init>" && (q.2.1 k).1 == (jy μ).cls)
  | none => false
theorem jpf_ok {μ κ k : Nat} {C : String} {T : u_T} {N : Nat} (h : jpf μ κ k = true) (hc : vwCl[κ]? = some (C, T, N)) : (T k).2.2.2 = false ∨ ((jy μ).name = "<init>" ∧ (T k).1 = (jy μ).cls) := by
  unfold jpf at h
  rw [hc] at h
  simp only [Bool.or_eq_true, Bool.not_eq_true', Bool.and_eq_true, beq_iff_eq] at h
  exact h
def jst (k : Nat) : Option (String × String × String) := match k with
  | 0 => some ("java/util/ArrayList", "DEFAULTCAPACITY_EMPTY_ELEMENTDATA", "[Ljava/lang/Object;")
  | _ => none
def jmir (k : Nat) : Option String := match k with
  | 1 => some "[Ljava/lang/Object;"
  | _ => none
def jsgT : List ((Nat × Nat) × Nat) := [((10, 39), 0)]
def jsgP (x : (Nat × Nat) × Nat) : Prop := ∃ C n d, jst x.2 = some (C, n, d) ∧ jLk (jcn x.1.1) x.1.2 C n d
theorem jsgT_0 : jsgP ((10, 39), 0) := ⟨_, _, _, rfl, "java/util/ArrayList", Or.inl (jmw 89 (by decide +kernel) (by decide +kernel)), Or.inl rfl⟩
theorem jsgT_ok : ∀ x ∈ jsgT, jsgP x := List.forall_mem_cons.mpr ⟨jsgT_0, fun _ h => absurd h List.not_mem_nil⟩
theorem jsg_own {μ idx : Nat} {a : Nat} (h : jlk jsgT (jow μ) idx = some a) : jsgP ((jow μ, idx), a) := jsgT_ok _ (jlk_mem h)
def jsg (o i : Nat) : Option Nat := jlk jsgT o i
theorem jsg_ok {μ idx k : Nat} (h : jsg (jow μ) idx = some k) : ∃ C n d, jst k = some (C, n, d) ∧ jLk (jy μ).cls idx C n d := by
  rw [jow_of h (by decide +kernel)]
  exact jsg_own h
def jnwT : List ((Nat × Nat) × (Nat × Nat × Nat)) := [((4, 7), (1, 3, 3)), ((4, 30), (3, 2, 2)), ((4, 84), (2, 10, 10)), ((4, 117), (5, 5, 5)), ((4, 176), (0, 6, 6)), ((1, 7), (1, 3, 3)), ((1, 24), (4, 1, 1)), ((15, 8), (6, 16, 16)), ((15, 24), (7, 29, 29))]
def jnwP (x : (Nat × Nat) × (Nat × Nat × Nat)) : Prop := ∃ C T, vwCl[x.2.1]? = some (C, T, x.2.2.1) ∧ x.2.1 < 50 ∧ Cond.classLink (jcn x.1.1) x.1.2 C ∈ jwords ∧ Cond.instantiable C x.2.2.2 ∈ jwords ∧ Cond.initialized C ∈ jwords
theorem jnwT_0 : jnwP ((4, 7), (1, 3, 3)) := ⟨_, _, rfl, by decide, (jmw 77 (by decide +kernel) (by decide +kernel)), (jmw 78 (by decide +kernel) (by decide +kernel)), (jmw 52 (by decide +kernel) (by decide +kernel))⟩
theorem jnwT_1 : jnwP ((4, 30), (3, 2, 2)) := ⟨_, _, rfl, by decide, (jmw 103 (by decide +kernel) (by decide +kernel)), (jmw 104 (by decide +kernel) (by decide +kernel)), (jmw 53 (by decide +kernel) (by decide +kernel))⟩
theorem jnwT_2 : jnwP ((4, 84), (2, 10, 10)) := ⟨_, _, rfl, by decide, (jmw 208 (by decide +kernel) (by decide +kernel)), (jmw 209 (by decide +kernel) (by decide +kernel)), (jmw 58 (by decide +kernel) (by decide +kernel))⟩
theorem jnwT_3 : jnwP ((4, 117), (5, 5, 5)) := ⟨_, _, rfl, by decide, (jmw 354 (by decide +kernel) (by decide +kernel)), (jmw 355 (by decide +kernel) (by decide +kernel)), (jmw 62 (by decide +kernel) (by decide +kernel))⟩
theorem jnwT_4 : jnwP ((4, 176), (0, 6, 6)) := ⟨_, _, rfl, by decide, (jmw 523 (by decide +kernel) (by decide +kernel)), (jmw 524 (by decide +kernel) (by decide +kernel)), (jmw 68 (by decide +kernel) (by decide +kernel))⟩
theorem jnwT_5 : jnwP ((1, 7), (1, 3, 3)) := ⟨_, _, rfl, by decide, (jmw 109 (by decide +kernel) (by decide +kernel)), (jmw 78 (by decide +kernel) (by decide +kernel)), (jmw 52 (by decide +kernel) (by decide +kernel))⟩
theorem jnwT_6 : jnwP ((1, 24), (4, 1, 1)) := ⟨_, _, rfl, by decide, (jmw 426 (by decide +kernel) (by decide +kernel)), (jmw 427 (by decide +kernel) (by decide +kernel)), (jmw 63 (by decide +kernel) (by decide +kernel))⟩
theorem jnwT_7 : jnwP ((15, 8), (6, 16, 16)) := ⟨_, _, rfl, by decide, (jmw 69 (by decide +kernel) (by decide +kernel)), (jmw 70 (by decide +kernel) (by decide +kernel)), (jmw 49 (by decide +kernel) (by decide +kernel))⟩
theorem jnwT_8 : jnwP ((15, 24), (7, 29, 29)) := ⟨_, _, rfl, by decide, (jmw 599 (by decide +kernel) (by decide +kernel)), (jmw 600 (by decide +kernel) (by decide +kernel)), (jmw 55 (by decide +kernel) (by decide +kernel))⟩
theorem jnwT_ok : ∀ x ∈ jnwT, jnwP x := List.forall_mem_cons.mpr ⟨jnwT_0, List.forall_mem_cons.mpr ⟨jnwT_1, List.forall_mem_cons.mpr ⟨jnwT_2, List.forall_mem_cons.mpr ⟨jnwT_3, List.forall_mem_cons.mpr ⟨jnwT_4, List.forall_mem_cons.mpr ⟨jnwT_5, List.forall_mem_cons.mpr ⟨jnwT_6, List.forall_mem_cons.mpr ⟨jnwT_7, List.forall_mem_cons.mpr ⟨jnwT_8, fun _ h => absurd h List.not_mem_nil⟩⟩⟩⟩⟩⟩⟩⟩⟩
theorem jnw_own {μ idx : Nat} {a : (Nat × Nat × Nat)} (h : jlk jnwT (jow μ) idx = some a) : jnwP ((jow μ, idx), a) := jnwT_ok _ (jlk_mem h)
def jnw (o i : Nat) : Option (Nat × Nat × Nat) := jlk jnwT o i
theorem jnw_ok {μ idx κ N w : Nat} (h : jnw (jow μ) idx = some (κ, N, w)) : ∃ C T, vwCl[κ]? = some (C, T, N) ∧ κ < 50 ∧ Cond.classLink (jy μ).cls idx C ∈ jwords ∧ Cond.instantiable C w ∈ jwords ∧ Cond.initialized C ∈ jwords := by
  rw [jow_of h (by decide +kernel)]
  exact jnw_own h
theorem jac_int : Cond.arrayClass .int ∈ jwords := (jmw 119 (by decide +kernel) (by decide +kernel))
theorem jac_long : Cond.arrayClass .long ∈ jwords := (jmw 698 (by decide +kernel) (by decide +kernel))
theorem jac_boolean : Cond.arrayClass .boolean ∈ jwords := (jmw 697 (by decide +kernel) (by decide +kernel))
def jnaT : List ((Nat × Nat) × Nat) := [((11, 34), 60), ((11, 42), 61), ((0, 22), 62), ((9, 8), 63), ((52, 7), 64), ((52, 15), 65), ((52, 23), 66), ((52, 31), 67), ((52, 39), 68), ((52, 48), 69), ((52, 56), 70), ((52, 64), 71), ((52, 72), 72), ((52, 80), 73), ((52, 88), 74), ((52, 96), 75), ((52, 104), 76), ((52, 112), 77), ((52, 120), 78), ((110, 47), 79)]
def jnaP (x : (Nat × Nat) × Nat) : Prop := 50 ≤ x.2 ∧ x.2 < 90 ∧ ∃ ty, jkt x.2 = some ty ∧ Cond.arrayClass ty ∈ jwords ∧ componentBytes ty ≤ 8
theorem jnaT_0 : jnaP ((11, 34), 60) := ⟨by decide, by decide, _, rfl, jac_int, by decide⟩
theorem jnaT_1 : jnaP ((11, 42), 61) := ⟨by decide, by decide, _, rfl, jac_int, by decide⟩
theorem jnaT_2 : jnaP ((0, 22), 62) := ⟨by decide, by decide, _, rfl, jac_int, by decide⟩
theorem jnaT_3 : jnaP ((9, 8), 63) := ⟨by decide, by decide, _, rfl, jac_int, by decide⟩
theorem jnaT_4 : jnaP ((52, 7), 64) := ⟨by decide, by decide, _, rfl, jac_int, by decide⟩
theorem jnaT_5 : jnaP ((52, 15), 65) := ⟨by decide, by decide, _, rfl, jac_int, by decide⟩
theorem jnaT_6 : jnaP ((52, 23), 66) := ⟨by decide, by decide, _, rfl, jac_int, by decide⟩
theorem jnaT_7 : jnaP ((52, 31), 67) := ⟨by decide, by decide, _, rfl, jac_int, by decide⟩
theorem jnaT_8 : jnaP ((52, 39), 68) := ⟨by decide, by decide, _, rfl, jac_int, by decide⟩
theorem jnaT_9 : jnaP ((52, 48), 69) := ⟨by decide, by decide, _, rfl, jac_int, by decide⟩
theorem jnaT_10 : jnaP ((52, 56), 70) := ⟨by decide, by decide, _, rfl, jac_boolean, by decide⟩
theorem jnaT_11 : jnaP ((52, 64), 71) := ⟨by decide, by decide, _, rfl, jac_boolean, by decide⟩
theorem jnaT_12 : jnaP ((52, 72), 72) := ⟨by decide, by decide, _, rfl, jac_boolean, by decide⟩
theorem jnaT_13 : jnaP ((52, 80), 73) := ⟨by decide, by decide, _, rfl, jac_boolean, by decide⟩
theorem jnaT_14 : jnaP ((52, 88), 74) := ⟨by decide, by decide, _, rfl, jac_int, by decide⟩
theorem jnaT_15 : jnaP ((52, 96), 75) := ⟨by decide, by decide, _, rfl, jac_int, by decide⟩
theorem jnaT_16 : jnaP ((52, 104), 76) := ⟨by decide, by decide, _, rfl, jac_int, by decide⟩
theorem jnaT_17 : jnaP ((52, 112), 77) := ⟨by decide, by decide, _, rfl, jac_long, by decide⟩
theorem jnaT_18 : jnaP ((52, 120), 78) := ⟨by decide, by decide, _, rfl, jac_int, by decide⟩
theorem jnaT_19 : jnaP ((110, 47), 79) := ⟨by decide, by decide, _, rfl, jac_long, by decide⟩
theorem jnaT_ok : ∀ x ∈ jnaT, jnaP x := List.forall_mem_cons.mpr ⟨jnaT_0, List.forall_mem_cons.mpr ⟨jnaT_1, List.forall_mem_cons.mpr ⟨jnaT_2, List.forall_mem_cons.mpr ⟨jnaT_3, List.forall_mem_cons.mpr ⟨jnaT_4, List.forall_mem_cons.mpr ⟨jnaT_5, List.forall_mem_cons.mpr ⟨jnaT_6, List.forall_mem_cons.mpr ⟨jnaT_7, List.forall_mem_cons.mpr ⟨jnaT_8, List.forall_mem_cons.mpr ⟨jnaT_9, List.forall_mem_cons.mpr ⟨jnaT_10, List.forall_mem_cons.mpr ⟨jnaT_11, List.forall_mem_cons.mpr ⟨jnaT_12, List.forall_mem_cons.mpr ⟨jnaT_13, List.forall_mem_cons.mpr ⟨jnaT_14, List.forall_mem_cons.mpr ⟨jnaT_15, List.forall_mem_cons.mpr ⟨jnaT_16, List.forall_mem_cons.mpr ⟨jnaT_17, List.forall_mem_cons.mpr ⟨jnaT_18, List.forall_mem_cons.mpr ⟨jnaT_19, fun _ h => absurd h List.not_mem_nil⟩⟩⟩⟩⟩⟩⟩⟩⟩⟩⟩⟩⟩⟩⟩⟩⟩⟩⟩⟩
theorem jna_own {μ idx : Nat} {a : Nat} (h : jlk jnaT (jow μ) idx = some a) : jnaP ((jow μ, idx), a) := jnaT_ok _ (jlk_mem h)
def jna (μ pc : Nat) (aty : ArrayType) : Option Nat := match jlk jnaT μ pc with
  | some κ => if jkt κ = some (newarray.typeOf aty) then some κ else none
  | none => none
theorem jna_ok {μ pc κ : Nat} {aty : ArrayType} (h : jna μ pc aty = some κ) : jkt κ = some (newarray.typeOf aty) ∧ 50 ≤ κ ∧ κ ≠ 94 ∧ Cond.arrayClass (newarray.typeOf aty) ∈ jwords ∧ componentBytes (newarray.typeOf aty) ≤ 8 := by
  unfold jna at h
  split at h
  · rename_i κ' h1
    split at h
    · rename_i h2
      cases h
      obtain ⟨h3, h4, ty, h5, h6, h7⟩ := jnaT_ok _ (jlk_mem h1)
      dsimp only at h3 h4 h5
      cases h2.symm.trans h5
      exact ⟨h2, h3, by omega, h6, h7⟩
    · cases h
  · cases h
def janwT : List ((Nat × Nat) × Nat) := [((10, 7), 53), ((11, 2), 53)]
def janwP (x : (Nat × Nat) × Nat) : Prop := ∃ C0, jkt x.2 = some (.object C0) ∧ 50 ≤ x.2 ∧ x.2 ≠ 94 ∧ Cond.classLink (jcn x.1.1) x.1.2 C0 ∈ jwords ∧ Cond.arrayOver (.object C0) ∈ jwords
theorem janwT_0 : janwP ((10, 7), 53) := ⟨_, rfl, by decide, by decide, (jmw 305 (by decide +kernel) (by decide +kernel)), (jmw 298 (by decide +kernel) (by decide +kernel))⟩
theorem janwT_1 : janwP ((11, 2), 53) := ⟨_, rfl, by decide, by decide, (jmw 299 (by decide +kernel) (by decide +kernel)), (jmw 298 (by decide +kernel) (by decide +kernel))⟩
theorem janwT_ok : ∀ x ∈ janwT, janwP x := List.forall_mem_cons.mpr ⟨janwT_0, List.forall_mem_cons.mpr ⟨janwT_1, fun _ h => absurd h List.not_mem_nil⟩⟩
theorem janw_own {μ idx : Nat} {a : Nat} (h : jlk janwT (jow μ) idx = some a) : janwP ((jow μ, idx), a) := janwT_ok _ (jlk_mem h)
def janw (o i : Nat) : Option Nat := jlk janwT o i
theorem janw_ok {μ idx κ : Nat} (h : janw (jow μ) idx = some κ) : ∃ C0, jkt κ = some (.object C0) ∧ 50 ≤ κ ∧ κ ≠ 94 ∧ Cond.classLink (jy μ).cls idx C0 ∈ jwords ∧ Cond.arrayOver (.object C0) ∈ jwords := by
  rw [jow_of h (by decide +kernel)]
  exact janw_own h
def jliT : List ((Nat × Nat) × Int32) := [((5, 54), (500000 : Int32)), ((13, 200), (2147483639 : Int32))]
def jliP (x : (Nat × Nat) × Int32) : Prop := Cond.constant (jcn x.1.1) x.1.2 x.2 ∈ jwords
theorem jliT_0 : jliP ((5, 54), (500000 : Int32)) := (jmw 605 (by decide +kernel) (by decide +kernel))
theorem jliT_1 : jliP ((13, 200), (2147483639 : Int32)) := (jmw 275 (by decide +kernel) (by decide +kernel))
theorem jliT_ok : ∀ x ∈ jliT, jliP x := List.forall_mem_cons.mpr ⟨jliT_0, List.forall_mem_cons.mpr ⟨jliT_1, fun _ h => absurd h List.not_mem_nil⟩⟩
theorem jli_own {μ idx : Nat} {a : Int32} (h : jlk jliT (jow μ) idx = some a) : jliP ((jow μ, idx), a) := jliT_ok _ (jlk_mem h)
def jlmT : List ((Nat × Nat) × Nat) := [((11, 110), 1)]
def jlmP (x : (Nat × Nat) × Nat) : Prop := ∃ C, jmir x.2 = some C ∧ Cond.classLink (jcn x.1.1) x.1.2 C ∈ jwords
theorem jlmT_0 : jlmP ((11, 110), 1) := ⟨_, rfl, (jmw 297 (by decide +kernel) (by decide +kernel))⟩
theorem jlmT_ok : ∀ x ∈ jlmT, jlmP x := List.forall_mem_cons.mpr ⟨jlmT_0, fun _ h => absurd h List.not_mem_nil⟩
theorem jlm_own {μ idx : Nat} {a : Nat} (h : jlk jlmT (jow μ) idx = some a) : jlmP ((jow μ, idx), a) := jlmT_ok _ (jlk_mem h)
def jllT : List ((Nat × Nat) × Int64) := [((15, 55), (4294967295 : Int64))]
def jllP (x : (Nat × Nat) × Int64) : Prop := Cond.constantLong (jcn x.1.1) x.1.2 x.2 ∈ jwords
theorem jllT_0 : jllP ((15, 55), (4294967295 : Int64)) := (jmw 839 (by decide +kernel) (by decide +kernel))
theorem jllT_ok : ∀ x ∈ jllT, jllP x := List.forall_mem_cons.mpr ⟨jllT_0, fun _ h => absurd h List.not_mem_nil⟩
theorem jll_own {μ idx : Nat} {a : Int64} (h : jlk jllT (jow μ) idx = some a) : jllP ((jow μ, idx), a) := jllT_ok _ (jlk_mem h)
def jldc (o i : Nat) : Option (Int32 ⊕ Nat) := match jlk jliT o i with
  | some x => some (.inl x)
  | none => (jlk jlmT o i).map .inr
theorem jldc_i {μ idx : Nat} {x : Int32} (h : jldc (jow μ) idx = some (.inl x)) : Cond.constant (jy μ).cls idx x ∈ jwords := by
  unfold jldc at h
  split at h
  · rename_i y hy
    cases h
    rw [jow_of hy (by decide +kernel)]
    exact jli_own hy
  · obtain ⟨z, h1, h2⟩ := Option.map_eq_some_iff.mp h
    cases h2
theorem jldc_m {μ idx k : Nat} (h : jldc (jow μ) idx = some (.inr k)) : ∃ C, jmir k = some C ∧ Cond.classLink (jy μ).cls idx C ∈ jwords := by
  unfold jldc at h
  split at h
  · cases h
  · obtain ⟨z, h1, h2⟩ := Option.map_eq_some_iff.mp h
    cases h2
    rw [jow_of h1 (by decide +kernel)]
    exact jlm_own h1
def jldl (o i : Nat) : Option Int64 := jlk jllT o i
theorem jldl_ok {μ idx : Nat} {x : Int64} (h : jldl (jow μ) idx = some x) : Cond.constantLong (jy μ).cls idx x ∈ jwords := by
  rw [jow_of h (by decide +kernel)]
  exact jll_own h
def jckT : List ((Nat × Nat) × Nat) := [((4, 84), 2), ((4, 117), 5), ((1, 24), 4), ((11, 110), 53)]
def jckP (x : (Nat × Nat) × Nat) : Prop := (x.2 < 50 ∧ ∃ q nm, vwCl[x.2]? = some q ∧ Cond.classLink (jcn x.1.1) x.1.2 nm ∈ jwords ∧ (q.1 = nm ∨ Cond.castable q.1 nm ∈ jwords)) ∨ (50 ≤ x.2 ∧ x.2 ≠ 94 ∧ ∃ ty, jkt x.2 = some ty ∧ Cond.classLink (jcn x.1.1) x.1.2 ("[" ++ ty.toString) ∈ jwords)
theorem jckT_0 : jckP ((4, 84), 2) := Or.inl ⟨by decide, _, _, rfl, (jmw 208 (by decide +kernel) (by decide +kernel)), Or.inl rfl⟩
theorem jckT_1 : jckP ((4, 117), 5) := Or.inl ⟨by decide, _, _, rfl, (jmw 354 (by decide +kernel) (by decide +kernel)), Or.inl rfl⟩
theorem jckT_2 : jckP ((1, 24), 4) := Or.inl ⟨by decide, _, _, rfl, (jmw 426 (by decide +kernel) (by decide +kernel)), Or.inl rfl⟩
theorem jckT_3 : jckP ((11, 110), 53) := Or.inr ⟨by decide, by decide, _, rfl, (jmw 297 (by decide +kernel) (by decide +kernel))⟩
theorem jckT_ok : ∀ x ∈ jckT, jckP x := List.forall_mem_cons.mpr ⟨jckT_0, List.forall_mem_cons.mpr ⟨jckT_1, List.forall_mem_cons.mpr ⟨jckT_2, List.forall_mem_cons.mpr ⟨jckT_3, fun _ h => absurd h List.not_mem_nil⟩⟩⟩⟩
theorem jck_own {μ idx : Nat} {a : Nat} (h : jlk jckT (jow μ) idx = some a) : jckP ((jow μ, idx), a) := jckT_ok _ (jlk_mem h)
def jck (o i κ : Nat) : Bool := jlk jckT o i == some κ
theorem jck_ok {μ idx κ : Nat} (h : jck (jow μ) idx κ = true) : (κ < 50 ∧ ∃ q nm, vwCl[κ]? = some q ∧ Cond.classLink (jy μ).cls idx nm ∈ jwords ∧ (q.1 = nm ∨ Cond.castable q.1 nm ∈ jwords)) ∨ (50 ≤ κ ∧ κ ≠ 94 ∧ ∃ ty, jkt κ = some ty ∧ Cond.classLink (jy μ).cls idx ("[" ++ ty.toString) ∈ jwords) := by
  unfold jck at h
  have h1 : jlk jckT (jow μ) idx = some κ := by simpa using h
  rw [jow_of h1 (by decide +kernel)]
  exact jck_own h1
def jca (κ κv : Nat) : Bool := κ == 53 && (κv == 2 || κv == 4 || κv == 5)
theorem jca_ok {κ κv : Nat} (h : jca κ κv = true) : ∃ C0 q, jkt κ = some (.object C0) ∧ κv < 50 ∧ vwCl[κv]? = some q ∧ (q.1 = C0 ∨ Cond.castable q.1 C0 ∈ jwords) := by
  unfold jca at h
  simp only [Bool.and_eq_true, Bool.or_eq_true, beq_iff_eq] at h
  obtain ⟨h1, h2⟩ := h
  subst h1
  rcases h2 with (h2 | h2) | h2 <;> subst h2
  · exact ⟨_, _, rfl, by decide, rfl, Or.inr (jmw 850 (by decide +kernel) (by decide +kernel))⟩
  · exact ⟨_, _, rfl, by decide, rfl, Or.inr (jmw 852 (by decide +kernel) (by decide +kernel))⟩
  · exact ⟨_, _, rfl, by decide, rfl, Or.inr (jmw 851 (by decide +kernel) (by decide +kernel))⟩
def jntY (k : Nat) : MethodName := match k with
  | 0 => Lib.objectInit
  | 1 => arraycopyName
  | 3 => Lib.Math.max.name
  | 4 => Lib.Math.min.name
  | _ => ⟨"java/lang/Object", "getClass", "()Ljava/lang/Class;"⟩
def jntT : List ((Nat × Nat) × Nat) := [((4, 1), 0), ((0, 3), 0), ((1, 1), 0), ((2, 1), 0), ((3, 1), 0), ((5, 1), 0), ((8, 1), 0), ((4, 156), 1), ((4, 197), 4), ((4, 202), 3), ((10, 79), 3), ((11, 150), 1), ((11, 304), 4), ((13, 194), 3), ((11, 86), 2)]
def jntP (x : (Nat × Nat) × Nat) : Prop := Cond.methodLink (jcn x.1.1) x.1.2 (jntY x.2) ∈ jwords
theorem jntT_0 : jntP ((4, 1), 0) := (jmw 74 (by decide +kernel) (by decide +kernel))
theorem jntT_1 : jntP ((0, 3), 0) := (jmw 213 (by decide +kernel) (by decide +kernel))
theorem jntT_2 : jntP ((1, 1), 0) := (jmw 108 (by decide +kernel) (by decide +kernel))
theorem jntT_3 : jntP ((2, 1), 0) := (jmw 431 (by decide +kernel) (by decide +kernel))
theorem jntT_4 : jntP ((3, 1), 0) := (jmw 359 (by decide +kernel) (by decide +kernel))
theorem jntT_5 : jntP ((5, 1), 0) := (jmw 604 (by decide +kernel) (by decide +kernel))
theorem jntT_6 : jntP ((8, 1), 0) := (jmw 88 (by decide +kernel) (by decide +kernel))
theorem jntT_7 : jntP ((4, 156), 1) := (jmw 479 (by decide +kernel) (by decide +kernel))
theorem jntT_8 : jntP ((4, 197), 4) := (jmw 123 (by decide +kernel) (by decide +kernel))
theorem jntT_9 : jntP ((4, 202), 3) := (jmw 126 (by decide +kernel) (by decide +kernel))
theorem jntT_10 : jntP ((10, 79), 3) := (jmw 304 (by decide +kernel) (by decide +kernel))
theorem jntT_11 : jntP ((11, 150), 1) := (jmw 301 (by decide +kernel) (by decide +kernel))
theorem jntT_12 : jntP ((11, 304), 4) := (jmw 300 (by decide +kernel) (by decide +kernel))
theorem jntT_13 : jntP ((13, 194), 3) := (jmw 274 (by decide +kernel) (by decide +kernel))
theorem jntT_14 : jntP ((11, 86), 2) := (jmw 282 (by decide +kernel) (by decide +kernel))
theorem jntT_ok : ∀ x ∈ jntT, jntP x := List.forall_mem_cons.mpr ⟨jntT_0, List.forall_mem_cons.mpr ⟨jntT_1, List.forall_mem_cons.mpr ⟨jntT_2, List.forall_mem_cons.mpr ⟨jntT_3, List.forall_mem_cons.mpr ⟨jntT_4, List.forall_mem_cons.mpr ⟨jntT_5, List.forall_mem_cons.mpr ⟨jntT_6, List.forall_mem_cons.mpr ⟨jntT_7, List.forall_mem_cons.mpr ⟨jntT_8, List.forall_mem_cons.mpr ⟨jntT_9, List.forall_mem_cons.mpr ⟨jntT_10, List.forall_mem_cons.mpr ⟨jntT_11, List.forall_mem_cons.mpr ⟨jntT_12, List.forall_mem_cons.mpr ⟨jntT_13, List.forall_mem_cons.mpr ⟨jntT_14, fun _ h => absurd h List.not_mem_nil⟩⟩⟩⟩⟩⟩⟩⟩⟩⟩⟩⟩⟩⟩⟩
theorem jnt_own {μ idx : Nat} {a : Nat} (h : jlk jntT (jow μ) idx = some a) : jntP ((jow μ, idx), a) := jntT_ok _ (jlk_mem h)
def jnt (o i : Nat) : Option Nat := jlk jntT o i
theorem jnt_lk {μ idx k : Nat} (h : jnt (jow μ) idx = some k) : Cond.methodLink (jy μ).cls idx (jntY k) ∈ jwords := by
  rw [jow_of h (by decide +kernel)]
  exact jnt_own h
theorem jnt_ok0 {μ idx : Nat} (h : jnt (jow μ) idx = some 0) : Cond.methodLink (jy μ).cls idx Lib.objectInit ∈ jwords ∧ Cond.instanceMethod Lib.objectInit ∈ jwords ∧ Cond.code Lib.objectInit ⟨#[0xb1]⟩ 1 none ∈ jwords := ⟨jnt_lk h, (jmw 75 (by decide +kernel) (by decide +kernel)), (jmw 76 (by decide +kernel) (by decide +kernel))⟩
theorem jnt_ok1 {μ idx : Nat} (h : jnt (jow μ) idx = some 1) : Cond.methodLink (jy μ).cls idx arraycopyName ∈ jwords ∧ Cond.native arraycopyName ∈ jwords ∧ Cond.static arraycopyName ∈ jwords ∧ Cond.initialized "java/lang/System" ∈ jwords := ⟨jnt_lk h, (jmw 303 (by decide +kernel) (by decide +kernel)), (jmw 302 (by decide +kernel) (by decide +kernel)), (jmw 61 (by decide +kernel) (by decide +kernel))⟩
theorem jnt_ok2 {μ idx : Nat} (h : jnt (jow μ) idx = some 2) : Cond.methodLink (jy μ).cls idx ⟨"java/lang/Object", "getClass", "()Ljava/lang/Class;"⟩ ∈ jwords ∧ Cond.declares ⟨"java/lang/Object", "getClass", "()Ljava/lang/Class;"⟩ ∈ jwords ∧ Cond.instanceMethod ⟨"java/lang/Object", "getClass", "()Ljava/lang/Class;"⟩ ∈ jwords ∧ Cond.native ⟨"java/lang/Object", "getClass", "()Ljava/lang/Class;"⟩ ∈ jwords := ⟨jnt_lk h, (jmw 846 (by decide +kernel) (by decide +kernel)), (jmw 283 (by decide +kernel) (by decide +kernel)), (jmw 293 (by decide +kernel) (by decide +kernel))⟩
theorem jnt_ok3 {μ idx : Nat} (h : jnt (jow μ) idx = some 3) : Cond.methodLink (jy μ).cls idx Lib.Math.max.name ∈ jwords ∧ Cond.static Lib.Math.max.name ∈ jwords ∧ Cond.initialized "java/lang/Math" ∈ jwords ∧ Cond.code Lib.Math.max.name Lib.Math.max.code 2 (some .int) ∈ jwords := ⟨jnt_lk h, (jmw 127 (by decide +kernel) (by decide +kernel)), (jmw 54 (by decide +kernel) (by decide +kernel)), (jmw 128 (by decide +kernel) (by decide +kernel))⟩
theorem jnt_ok4 {μ idx : Nat} (h : jnt (jow μ) idx = some 4) : Cond.methodLink (jy μ).cls idx Lib.Math.min.name ∈ jwords ∧ Cond.static Lib.Math.min.name ∈ jwords ∧ Cond.initialized "java/lang/Math" ∈ jwords ∧ Cond.code Lib.Math.min.name Lib.Math.min.code 2 (some .int) ∈ jwords := ⟨jnt_lk h, (jmw 124 (by decide +kernel) (by decide +kernel)), (jmw 54 (by decide +kernel) (by decide +kernel)), (jmw 125 (by decide +kernel) (by decide +kernel))⟩
def jmi (κ : Nat) : Option Nat := match κ with
  | 53 => some 1
  | 95 => some 1
  | _ => none
theorem jmi_ok {κ k : Nat} (h : jmi κ = some k) : ∃ C, jmir k = some C ∧ Cond.selects C ⟨"java/lang/Object", "getClass", "()Ljava/lang/Class;"⟩ ⟨"java/lang/Object", "getClass", "()Ljava/lang/Class;"⟩ ∈ jwords ∧ ((κ < 50 ∧ ∃ q, vwCl[κ]? = some q ∧ q.1 = C) ∨ (50 ≤ κ ∧ κ ≠ 94 ∧ ∃ ty, jkt κ = some ty ∧ C = "[" ++ ty.toString)) := by
  unfold jmi at h
  split at h
  · cases h
    exact ⟨_, rfl, (jmw 845 (by decide +kernel) (by decide +kernel)), Or.inr ⟨by decide, by decide, _, rfl, by decide +kernel⟩⟩
  · cases h
    exact ⟨_, rfl, (jmw 845 (by decide +kernel) (by decide +kernel)), Or.inr ⟨by decide, by decide, _, rfl, by decide +kernel⟩⟩
  · cases h
def jMw (μ n : Nat) : Prop := Cond.code (jy μ) (jcode μ) (jmaxl μ) (jret μ) ∈ jwords ∧ Cond.initialized (jy μ).cls ∈ jwords ∧ ((jy μ).cls ≠ "java/lang/invoke/MethodHandle" ∧ (jy μ).cls ≠ "java/lang/invoke/VarHandle") ∧ (parseMethodDescriptor (jy μ).desc).map (fun d => d.parameters.length) = some n ∧ plainName (jy μ).cls = true ∧ jmaxl μ + 19 ≤ 40
def jM0 (μ κ : Nat) : Prop := Cond.instanceMethod (jy μ) ∈ jwords ∧ ∃ q : vw_C, vwCl[κ]? = some q ∧ κ < 50 ∧ Cond.selects q.1 (jy μ) (jy μ) ∈ jwords
def jM1 (μ : Nat) : Prop := (jy μ).name = "<init>" ∧ Cond.instanceMethod (jy μ) ∈ jwords ∧ jret μ = none
def jM2 (μ : Nat) : Prop := Cond.static (jy μ) ∈ jwords
theorem jMw_J15_checkIndex_7cf53 : jMw 104 2 := ⟨(jmw 200 (by decide +kernel) (by decide +kernel)), (jmw 56 (by decide +kernel) (by decide +kernel)), ⟨by decide +kernel, by decide +kernel⟩, by decide +kernel, by decide +kernel, by decide⟩
theorem jM2_J15_checkIndex_7cf53 : jM2 104 := (jmw 199 (by decide +kernel) (by decide +kernel))
theorem jMw_J3_checkIndex_8e157 : jMw 107 3 := ⟨(jmw 203 (by decide +kernel) (by decide +kernel)), (jmw 57 (by decide +kernel) (by decide +kernel)), ⟨by decide +kernel, by decide +kernel⟩, by decide +kernel, by decide +kernel, by decide⟩
theorem jM2_J3_checkIndex_8e157 : jM2 107 := (jmw 202 (by decide +kernel) (by decide +kernel))
theorem jMw_J7_copyOf_1904c : jMw 102 2 := ⟨(jmw 281 (by decide +kernel) (by decide +kernel)), (jmw 60 (by decide +kernel) (by decide +kernel)), ⟨by decide +kernel, by decide +kernel⟩, by decide +kernel, by decide +kernel, by decide⟩
theorem jM2_J7_copyOf_1904c : jM2 102 := (jmw 280 (by decide +kernel) (by decide +kernel))
theorem jMw_J7_copyOf_6403c : jMw 103 3 := ⟨(jmw 296 (by decide +kernel) (by decide +kernel)), (jmw 60 (by decide +kernel) (by decide +kernel)), ⟨by decide +kernel, by decide +kernel⟩, by decide +kernel, by decide +kernel, by decide⟩
theorem jM2_J7_copyOf_6403c : jM2 103 := (jmw 295 (by decide +kernel) (by decide +kernel))
theorem jMw_J8_hugeLength_7cf53 : jMw 106 2 := ⟨(jmw 278 (by decide +kernel) (by decide +kernel)), (jmw 59 (by decide +kernel) (by decide +kernel)), ⟨by decide +kernel, by decide +kernel⟩, by decide +kernel, by decide +kernel, by decide⟩
theorem jM2_J8_hugeLength_7cf53 : jM2 106 := (jmw 277 (by decide +kernel) (by decide +kernel))
theorem jMw_J8_newLength_cabcc : jMw 105 3 := ⟨(jmw 273 (by decide +kernel) (by decide +kernel)), (jmw 59 (by decide +kernel) (by decide +kernel)), ⟨by decide +kernel, by decide +kernel⟩, by decide +kernel, by decide +kernel, by decide⟩
theorem jM2_J8_newLength_cabcc : jM2 105 := (jmw 272 (by decide +kernel) (by decide +kernel))
theorem jMw_Jx00060_init_a7421 : jMw 89 1 := ⟨(jmw 567 (by decide +kernel) (by decide +kernel)), (jmw 68 (by decide +kernel) (by decide +kernel)), ⟨by decide +kernel, by decide +kernel⟩, by decide +kernel, by decide +kernel, by decide⟩
theorem jM1_Jx00060_init_a7421 : jM1 89 := ⟨by decide +kernel, (jmw 566 (by decide +kernel) (by decide +kernel)), rfl⟩
theorem jMw_Jx4a65c_add_72be8 : jMw 100 3 := ⟨(jmw 262 (by decide +kernel) (by decide +kernel)), (jmw 52 (by decide +kernel) (by decide +kernel)), ⟨by decide +kernel, by decide +kernel⟩, by decide +kernel, by decide +kernel, by decide⟩
theorem jM0_Jx4a65c_add_72be8 : jM0 100 1 := ⟨(jmw 261 (by decide +kernel) (by decide +kernel)), _, rfl, by decide, (jmw 2 (by decide +kernel) (by decide +kernel))⟩
theorem jMw_Jx4a65c_add_9ea2d : jMw 101 1 := ⟨(jmw 258 (by decide +kernel) (by decide +kernel)), (jmw 52 (by decide +kernel) (by decide +kernel)), ⟨by decide +kernel, by decide +kernel⟩, by decide +kernel, by decide +kernel, by decide⟩
theorem jM0_Jx4a65c_add_9ea2d : jM0 101 1 := ⟨(jmw 256 (by decide +kernel) (by decide +kernel)), _, rfl, by decide, (jmw 257 (by decide +kernel) (by decide +kernel))⟩
theorem jMw_Jx4a65c_elementData_915e3 : jMw 98 1 := ⟨(jmw 207 (by decide +kernel) (by decide +kernel)), (jmw 52 (by decide +kernel) (by decide +kernel)), ⟨by decide +kernel, by decide +kernel⟩, by decide +kernel, by decide +kernel, by decide⟩
theorem jM0_Jx4a65c_elementData_915e3 : jM0 98 1 := ⟨(jmw 205 (by decide +kernel) (by decide +kernel)), _, rfl, by decide, (jmw 206 (by decide +kernel) (by decide +kernel))⟩
theorem jMw_Jx4a65c_get_915e3 : jMw 99 1 := ⟨(jmw 197 (by decide +kernel) (by decide +kernel)), (jmw 52 (by decide +kernel) (by decide +kernel)), ⟨by decide +kernel, by decide +kernel⟩, by decide +kernel, by decide +kernel, by decide⟩
theorem jM0_Jx4a65c_get_915e3 : jM0 99 1 := ⟨(jmw 195 (by decide +kernel) (by decide +kernel)), _, rfl, by decide, (jmw 196 (by decide +kernel) (by decide +kernel))⟩
theorem jMw_Jx4a65c_grow_92f84 : jMw 95 1 := ⟨(jmw 270 (by decide +kernel) (by decide +kernel)), (jmw 52 (by decide +kernel) (by decide +kernel)), ⟨by decide +kernel, by decide +kernel⟩, by decide +kernel, by decide +kernel, by decide⟩
theorem jM0_Jx4a65c_grow_92f84 : jM0 95 1 := ⟨(jmw 269 (by decide +kernel) (by decide +kernel)), _, rfl, by decide, (jmw 4 (by decide +kernel) (by decide +kernel))⟩
theorem jMw_Jx4a65c_grow_d5877 : jMw 96 0 := ⟨(jmw 266 (by decide +kernel) (by decide +kernel)), (jmw 52 (by decide +kernel) (by decide +kernel)), ⟨by decide +kernel, by decide +kernel⟩, by decide +kernel, by decide +kernel, by decide⟩
theorem jM0_Jx4a65c_grow_d5877 : jM0 96 1 := ⟨(jmw 265 (by decide +kernel) (by decide +kernel)), _, rfl, by decide, (jmw 3 (by decide +kernel) (by decide +kernel))⟩
theorem jMw_Jx4a65c_init_da8c8 : jMw 94 0 := ⟨(jmw 81 (by decide +kernel) (by decide +kernel)), (jmw 52 (by decide +kernel) (by decide +kernel)), ⟨by decide +kernel, by decide +kernel⟩, by decide +kernel, by decide +kernel, by decide⟩
theorem jM1_Jx4a65c_init_da8c8 : jM1 94 := ⟨by decide +kernel, (jmw 80 (by decide +kernel) (by decide +kernel)), rfl⟩
theorem jMw_Jx4a65c_size_8abf5 : jMw 97 0 := ⟨(jmw 193 (by decide +kernel) (by decide +kernel)), (jmw 52 (by decide +kernel) (by decide +kernel)), ⟨by decide +kernel, by decide +kernel⟩, by decide +kernel, by decide +kernel, by decide⟩
theorem jM0_Jx4a65c_size_8abf5 : jM0 97 1 := ⟨(jmw 191 (by decide +kernel) (by decide +kernel)), _, rfl, by decide, (jmw 192 (by decide +kernel) (by decide +kernel))⟩
theorem jMw_Jxa1e45_init_da8c8 : jMw 92 0 := ⟨(jmw 87 (by decide +kernel) (by decide +kernel)), (jmw 50 (by decide +kernel) (by decide +kernel)), ⟨by decide +kernel, by decide +kernel⟩, by decide +kernel, by decide +kernel, by decide⟩
theorem jM1_Jxa1e45_init_da8c8 : jM1 92 := ⟨by decide +kernel, (jmw 86 (by decide +kernel) (by decide +kernel)), rfl⟩
theorem jMw_Jxc12de_init_da8c8 : jMw 93 0 := ⟨(jmw 84 (by decide +kernel) (by decide +kernel)), (jmw 51 (by decide +kernel) (by decide +kernel)), ⟨by decide +kernel, by decide +kernel⟩, by decide +kernel, by decide +kernel, by decide⟩
theorem jM1_Jxc12de_init_da8c8 : jM1 93 := ⟨by decide +kernel, (jmw 83 (by decide +kernel) (by decide +kernel)), rfl⟩
theorem jMw_L_cell : jMw 108 2 := ⟨(jmw 510 (by decide +kernel) (by decide +kernel)), (jmw 48 (by decide +kernel) (by decide +kernel)), ⟨by decide +kernel, by decide +kernel⟩, by decide +kernel, by decide +kernel, by decide⟩
theorem jM2_L_cell : jM2 108 := (jmw 509 (by decide +kernel) (by decide +kernel))
theorem jMw_X0_addLine : jMw 1 2 := ⟨(jmw 340 (by decide +kernel) (by decide +kernel)), (jmw 58 (by decide +kernel) (by decide +kernel)), ⟨by decide +kernel, by decide +kernel⟩, by decide +kernel, by decide +kernel, by decide⟩
theorem jM0_X0_addLine : jM0 1 2 := ⟨(jmw 338 (by decide +kernel) (by decide +kernel)), _, rfl, by decide, (jmw 339 (by decide +kernel) (by decide +kernel))⟩
theorem jMw_X0_height : jMw 2 0 := ⟨(jmw 336 (by decide +kernel) (by decide +kernel)), (jmw 58 (by decide +kernel) (by decide +kernel)), ⟨by decide +kernel, by decide +kernel⟩, by decide +kernel, by decide +kernel, by decide⟩
theorem jM0_X0_height : jM0 2 2 := ⟨(jmw 334 (by decide +kernel) (by decide +kernel)), _, rfl, by decide, (jmw 335 (by decide +kernel) (by decide +kernel))⟩
theorem jMw_X0_init : jMw 0 3 := ⟨(jmw 212 (by decide +kernel) (by decide +kernel)), (jmw 58 (by decide +kernel) (by decide +kernel)), ⟨by decide +kernel, by decide +kernel⟩, by decide +kernel, by decide +kernel, by decide⟩
theorem jM1_X0_init : jM1 0 := ⟨by decide +kernel, (jmw 211 (by decide +kernel) (by decide +kernel)), rfl⟩
theorem jMw_X0_takesItsTurn : jMw 3 0 := ⟨(jmw 412 (by decide +kernel) (by decide +kernel)), (jmw 58 (by decide +kernel) (by decide +kernel)), ⟨by decide +kernel, by decide +kernel⟩, by decide +kernel, by decide +kernel, by decide⟩
theorem jM0_X0_takesItsTurn : jM0 3 2 := ⟨(jmw 410 (by decide +kernel) (by decide +kernel)), _, rfl, by decide, (jmw 411 (by decide +kernel) (by decide +kernel))⟩
theorem jMw_X1_add : jMw 6 5 := ⟨(jmw 424 (by decide +kernel) (by decide +kernel)), (jmw 53 (by decide +kernel) (by decide +kernel)), ⟨by decide +kernel, by decide +kernel⟩, by decide +kernel, by decide +kernel, by decide⟩
theorem jM0_X1_add : jM0 6 3 := ⟨(jmw 422 (by decide +kernel) (by decide +kernel)), _, rfl, by decide, (jmw 423 (by decide +kernel) (by decide +kernel))⟩
theorem jMw_X1_cell : jMw 8 2 := ⟨(jmw 597 (by decide +kernel) (by decide +kernel)), (jmw 53 (by decide +kernel) (by decide +kernel)), ⟨by decide +kernel, by decide +kernel⟩, by decide +kernel, by decide +kernel, by decide⟩
theorem jM0_X1_cell : jM0 8 3 := ⟨(jmw 595 (by decide +kernel) (by decide +kernel)), _, rfl, by decide, (jmw 596 (by decide +kernel) (by decide +kernel))⟩
theorem jMw_X1_clear : jMw 5 0 := ⟨(jmw 396 (by decide +kernel) (by decide +kernel)), (jmw 53 (by decide +kernel) (by decide +kernel)), ⟨by decide +kernel, by decide +kernel⟩, by decide +kernel, by decide +kernel, by decide⟩
theorem jM0_X1_clear : jM0 5 3 := ⟨(jmw 394 (by decide +kernel) (by decide +kernel)), _, rfl, by decide, (jmw 395 (by decide +kernel) (by decide +kernel))⟩
theorem jMw_X1_has : jMw 7 2 := ⟨(jmw 522 (by decide +kernel) (by decide +kernel)), (jmw 53 (by decide +kernel) (by decide +kernel)), ⟨by decide +kernel, by decide +kernel⟩, by decide +kernel, by decide +kernel, by decide⟩
theorem jM0_X1_has : jM0 7 3 := ⟨(jmw 520 (by decide +kernel) (by decide +kernel)), _, rfl, by decide, (jmw 521 (by decide +kernel) (by decide +kernel))⟩
theorem jMw_X1_init : jMw 4 0 := ⟨(jmw 107 (by decide +kernel) (by decide +kernel)), (jmw 53 (by decide +kernel) (by decide +kernel)), ⟨by decide +kernel, by decide +kernel⟩, by decide +kernel, by decide +kernel, by decide⟩
theorem jM1_X1_init : jM1 4 := ⟨by decide +kernel, (jmw 106 (by decide +kernel) (by decide +kernel)), rfl⟩
theorem jMw_X2_init : jMw 9 0 := ⟨(jmw 430 (by decide +kernel) (by decide +kernel)), (jmw 63 (by decide +kernel) (by decide +kernel)), ⟨by decide +kernel, by decide +kernel⟩, by decide +kernel, by decide +kernel, by decide⟩
theorem jM1_X2_init : jM1 9 := ⟨by decide +kernel, (jmw 429 (by decide +kernel) (by decide +kernel)), rfl⟩
theorem jMw_X3_init : jMw 10 4 := ⟨(jmw 358 (by decide +kernel) (by decide +kernel)), (jmw 62 (by decide +kernel) (by decide +kernel)), ⟨by decide +kernel, by decide +kernel⟩, by decide +kernel, by decide +kernel, by decide⟩
theorem jM1_X3_init : jM1 10 := ⟨by decide +kernel, (jmw 357 (by decide +kernel) (by decide +kernel)), rfl⟩
theorem jMw_X4_addToSums : jMw 49 2 := ⟨(jmw 483 (by decide +kernel) (by decide +kernel)), (jmw 49 (by decide +kernel) (by decide +kernel)), ⟨by decide +kernel, by decide +kernel⟩, by decide +kernel, by decide +kernel, by decide⟩
theorem jM0_X4_addToSums : jM0 49 6 := ⟨(jmw 482 (by decide +kernel) (by decide +kernel)), _, rfl, by decide, (jmw 26 (by decide +kernel) (by decide +kernel))⟩
theorem jMw_X4_at : jMw 20 2 := ⟨(jmw 518 (by decide +kernel) (by decide +kernel)), (jmw 49 (by decide +kernel) (by decide +kernel)), ⟨by decide +kernel, by decide +kernel⟩, by decide +kernel, by decide +kernel, by decide⟩
theorem jM0_X4_at : jM0 20 6 := ⟨(jmw 516 (by decide +kernel) (by decide +kernel)), _, rfl, by decide, (jmw 517 (by decide +kernel) (by decide +kernel))⟩
theorem jMw_X4_beginPage : jMw 40 0 := ⟨(jmw 442 (by decide +kernel) (by decide +kernel)), (jmw 49 (by decide +kernel) (by decide +kernel)), ⟨by decide +kernel, by decide +kernel⟩, by decide +kernel, by decide +kernel, by decide⟩
theorem jM0_X4_beginPage : jM0 40 6 := ⟨(jmw 441 (by decide +kernel) (by decide +kernel)), _, rfl, by decide, (jmw 16 (by decide +kernel) (by decide +kernel))⟩
theorem jMw_X4_changedLevel : jMw 46 0 := ⟨(jmw 404 (by decide +kernel) (by decide +kernel)), (jmw 49 (by decide +kernel) (by decide +kernel)), ⟨by decide +kernel, by decide +kernel⟩, by decide +kernel, by decide +kernel, by decide⟩
theorem jM0_X4_changedLevel : jM0 46 6 := ⟨(jmw 403 (by decide +kernel) (by decide +kernel)), _, rfl, by decide, (jmw 12 (by decide +kernel) (by decide +kernel))⟩
theorem jMw_X4_control : jMw 15 1 := ⟨(jmw 384 (by decide +kernel) (by decide +kernel)), (jmw 49 (by decide +kernel) (by decide +kernel)), ⟨by decide +kernel, by decide +kernel⟩, by decide +kernel, by decide +kernel, by decide⟩
theorem jM0_X4_control : jM0 15 6 := ⟨(jmw 382 (by decide +kernel) (by decide +kernel)), _, rfl, by decide, (jmw 383 (by decide +kernel) (by decide +kernel))⟩
theorem jMw_X4_countPage : jMw 42 0 := ⟨(jmw 416 (by decide +kernel) (by decide +kernel)), (jmw 49 (by decide +kernel) (by decide +kernel)), ⟨by decide +kernel, by decide +kernel⟩, by decide +kernel, by decide +kernel, by decide⟩
theorem jM0_X4_countPage : jM0 42 6 := ⟨(jmw 415 (by decide +kernel) (by decide +kernel)), _, rfl, by decide, (jmw 14 (by decide +kernel) (by decide +kernel))⟩
theorem jMw_X4_counter : jMw 23 1 := ⟨(jmw 499 (by decide +kernel) (by decide +kernel)), (jmw 49 (by decide +kernel) (by decide +kernel)), ⟨by decide +kernel, by decide +kernel⟩, by decide +kernel, by decide +kernel, by decide⟩
theorem jM0_X4_counter : jM0 23 6 := ⟨(jmw 497 (by decide +kernel) (by decide +kernel)), _, rfl, by decide, (jmw 498 (by decide +kernel) (by decide +kernel))⟩
theorem jMw_X4_endPage : jMw 41 0 := ⟨(jmw 462 (by decide +kernel) (by decide +kernel)), (jmw 49 (by decide +kernel) (by decide +kernel)), ⟨by decide +kernel, by decide +kernel⟩, by decide +kernel, by decide +kernel, by decide⟩
theorem jM0_X4_endPage : jM0 41 6 := ⟨(jmw 461 (by decide +kernel) (by decide +kernel)), _, rfl, by decide, (jmw 21 (by decide +kernel) (by decide +kernel))⟩
theorem jMw_X4_firstSumOf : jMw 32 1 := ⟨(jmw 470 (by decide +kernel) (by decide +kernel)), (jmw 49 (by decide +kernel) (by decide +kernel)), ⟨by decide +kernel, by decide +kernel⟩, by decide +kernel, by decide +kernel, by decide⟩
theorem jM0_X4_firstSumOf : jM0 32 6 := ⟨(jmw 469 (by decide +kernel) (by decide +kernel)), _, rfl, by decide, (jmw 23 (by decide +kernel) (by decide +kernel))⟩
theorem jMw_X4_fitsWithLine : jMw 38 3 := ⟨(jmw 317 (by decide +kernel) (by decide +kernel)), (jmw 49 (by decide +kernel) (by decide +kernel)), ⟨by decide +kernel, by decide +kernel⟩, by decide +kernel, by decide +kernel, by decide⟩
theorem jM0_X4_fitsWithLine : jM0 38 6 := ⟨(jmw 316 (by decide +kernel) (by decide +kernel)), _, rfl, by decide, (jmw 6 (by decide +kernel) (by decide +kernel))⟩
theorem jMw_X4_generate : jMw 18 2 := ⟨(jmw 400 (by decide +kernel) (by decide +kernel)), (jmw 49 (by decide +kernel) (by decide +kernel)), ⟨by decide +kernel, by decide +kernel⟩, by decide +kernel, by decide +kernel, by decide⟩
theorem jM0_X4_generate : jM0 18 6 := ⟨(jmw 398 (by decide +kernel) (by decide +kernel)), _, rfl, by decide, (jmw 399 (by decide +kernel) (by decide +kernel))⟩
theorem jMw_X4_group : jMw 12 2 := ⟨(jmw 181 (by decide +kernel) (by decide +kernel)), (jmw 49 (by decide +kernel) (by decide +kernel)), ⟨by decide +kernel, by decide +kernel⟩, by decide +kernel, by decide +kernel, by decide⟩
theorem jM0_X4_group : jM0 12 6 := ⟨(jmw 179 (by decide +kernel) (by decide +kernel)), _, rfl, by decide, (jmw 180 (by decide +kernel) (by decide +kernel))⟩
theorem jMw_X4_groupNumbered : jMw 29 1 := ⟨(jmw 313 (by decide +kernel) (by decide +kernel)), (jmw 49 (by decide +kernel) (by decide +kernel)), ⟨by decide +kernel, by decide +kernel⟩, by decide +kernel, by decide +kernel, by decide⟩
theorem jM0_X4_groupNumbered : jM0 29 6 := ⟨(jmw 312 (by decide +kernel) (by decide +kernel)), _, rfl, by decide, (jmw 5 (by decide +kernel) (by decide +kernel))⟩
theorem jMw_X4_groupOf : jMw 30 2 := ⟨(jmw 189 (by decide +kernel) (by decide +kernel)), (jmw 49 (by decide +kernel) (by decide +kernel)), ⟨by decide +kernel, by decide +kernel⟩, by decide +kernel, by decide +kernel, by decide⟩
theorem jM0_X4_groupOf : jM0 30 6 := ⟨(jmw 188 (by decide +kernel) (by decide +kernel)), _, rfl, by decide, (jmw 1 (by decide +kernel) (by decide +kernel))⟩
theorem jMw_X4_held : jMw 26 3 := ⟨(jmw 122 (by decide +kernel) (by decide +kernel)), (jmw 49 (by decide +kernel) (by decide +kernel)), ⟨by decide +kernel, by decide +kernel⟩, by decide +kernel, by decide +kernel, by decide⟩
theorem jM2_X4_held : jM2 26 := (jmw 121 (by decide +kernel) (by decide +kernel))
theorem jMw_X4_indicate : jMw 25 1 := ⟨(jmw 507 (by decide +kernel) (by decide +kernel)), (jmw 49 (by decide +kernel) (by decide +kernel)), ⟨by decide +kernel, by decide +kernel⟩, by decide +kernel, by decide +kernel, by decide⟩
theorem jM0_X4_indicate : jM0 25 6 := ⟨(jmw 505 (by decide +kernel) (by decide +kernel)), _, rfl, by decide, (jmw 506 (by decide +kernel) (by decide +kernel))⟩
theorem jMw_X4_init : jMw 11 3 := ⟨(jmw 73 (by decide +kernel) (by decide +kernel)), (jmw 49 (by decide +kernel) (by decide +kernel)), ⟨by decide +kernel, by decide +kernel⟩, by decide +kernel, by decide +kernel, by decide⟩
theorem jM1_X4_init : jM1 11 := ⟨by decide +kernel, (jmw 72 (by decide +kernel) (by decide +kernel)), rfl⟩
theorem jMw_X4_initiate : jMw 17 0 := ⟨(jmw 392 (by decide +kernel) (by decide +kernel)), (jmw 49 (by decide +kernel) (by decide +kernel)), ⟨by decide +kernel, by decide +kernel⟩, by decide +kernel, by decide +kernel, by decide⟩
theorem jM0_X4_initiate : jM0 17 6 := ⟨(jmw 390 (by decide +kernel) (by decide +kernel)), _, rfl, by decide, (jmw 391 (by decide +kernel) (by decide +kernel))⟩
theorem jMw_X4_isKindOfLevel : jMw 28 2 := ⟨(jmw 185 (by decide +kernel) (by decide +kernel)), (jmw 49 (by decide +kernel) (by decide +kernel)), ⟨by decide +kernel, by decide +kernel⟩, by decide +kernel, by decide +kernel, by decide⟩
theorem jM0_X4_isKindOfLevel : jM0 28 6 := ⟨(jmw 184 (by decide +kernel) (by decide +kernel)), _, rfl, by decide, (jmw 0 (by decide +kernel) (by decide +kernel))⟩
theorem jMw_X4_isOfBody : jMw 27 1 := ⟨(jmw 324 (by decide +kernel) (by decide +kernel)), (jmw 49 (by decide +kernel) (by decide +kernel)), ⟨by decide +kernel, by decide +kernel⟩, by decide +kernel, by decide +kernel, by decide⟩
theorem jM2_X4_isOfBody : jM2 27 := (jmw 323 (by decide +kernel) (by decide +kernel))
theorem jMw_X4_isSummable : jMw 33 2 := ⟨(jmw 349 (by decide +kernel) (by decide +kernel)), (jmw 49 (by decide +kernel) (by decide +kernel)), ⟨by decide +kernel, by decide +kernel⟩, by decide +kernel, by decide +kernel, by decide⟩
theorem jM0_X4_isSummable : jM0 33 6 := ⟨(jmw 348 (by decide +kernel) (by decide +kernel)), _, rfl, by decide, (jmw 10 (by decide +kernel) (by decide +kernel))⟩
theorem jMw_X4_line : jMw 13 3 := ⟨(jmw 309 (by decide +kernel) (by decide +kernel)), (jmw 49 (by decide +kernel) (by decide +kernel)), ⟨by decide +kernel, by decide +kernel⟩, by decide +kernel, by decide +kernel, by decide⟩
theorem jM0_X4_line : jM0 13 6 := ⟨(jmw 307 (by decide +kernel) (by decide +kernel)), _, rfl, by decide, (jmw 308 (by decide +kernel) (by decide +kernel))⟩
theorem jMw_X4_lines : jMw 21 0 := ⟨(jmw 491 (by decide +kernel) (by decide +kernel)), (jmw 49 (by decide +kernel) (by decide +kernel)), ⟨by decide +kernel, by decide +kernel⟩, by decide +kernel, by decide +kernel, by decide⟩
theorem jM0_X4_lines : jM0 21 6 := ⟨(jmw 489 (by decide +kernel) (by decide +kernel)), _, rfl, by decide, (jmw 490 (by decide +kernel) (by decide +kernel))⟩
theorem jMw_X4_lowestLine : jMw 35 1 := ⟨(jmw 332 (by decide +kernel) (by decide +kernel)), (jmw 49 (by decide +kernel) (by decide +kernel)), ⟨by decide +kernel, by decide +kernel⟩, by decide +kernel, by decide +kernel, by decide⟩
theorem jM0_X4_lowestLine : jM0 35 6 := ⟨(jmw 331 (by decide +kernel) (by decide +kernel)), _, rfl, by decide, (jmw 9 (by decide +kernel) (by decide +kernel))⟩
theorem jMw_X4_printControlFoots : jMw 48 1 := ⟨(jmw 466 (by decide +kernel) (by decide +kernel)), (jmw 49 (by decide +kernel) (by decide +kernel)), ⟨by decide +kernel, by decide +kernel⟩, by decide +kernel, by decide +kernel, by decide⟩
theorem jM0_X4_printControlFoots : jM0 48 6 := ⟨(jmw 465 (by decide +kernel) (by decide +kernel)), _, rfl, by decide, (jmw 22 (by decide +kernel) (by decide +kernel))⟩
theorem jMw_X4_printControlHeads : jMw 47 1 := ⟨(jmw 450 (by decide +kernel) (by decide +kernel)), (jmw 49 (by decide +kernel) (by decide +kernel)), ⟨by decide +kernel, by decide +kernel⟩, by decide +kernel, by decide +kernel, by decide⟩
theorem jM0_X4_printControlHeads : jM0 47 6 := ⟨(jmw 449 (by decide +kernel) (by decide +kernel)), _, rfl, by decide, (jmw 18 (by decide +kernel) (by decide +kernel))⟩
theorem jMw_X4_printFrom : jMw 45 3 := ⟨(jmw 420 (by decide +kernel) (by decide +kernel)), (jmw 49 (by decide +kernel) (by decide +kernel)), ⟨by decide +kernel, by decide +kernel⟩, by decide +kernel, by decide +kernel, by decide⟩
theorem jM0_X4_printFrom : jM0 45 6 := ⟨(jmw 419 (by decide +kernel) (by decide +kernel)), _, rfl, by decide, (jmw 15 (by decide +kernel) (by decide +kernel))⟩
theorem jMw_X4_printInBody : jMw 39 2 := ⟨(jmw 454 (by decide +kernel) (by decide +kernel)), (jmw 49 (by decide +kernel) (by decide +kernel)), ⟨by decide +kernel, by decide +kernel⟩, by decide +kernel, by decide +kernel, by decide⟩
theorem jM0_X4_printInBody : jM0 39 6 := ⟨(jmw 453 (by decide +kernel) (by decide +kernel)), _, rfl, by decide, (jmw 19 (by decide +kernel) (by decide +kernel))⟩
theorem jMw_X4_printOnOwnPage : jMw 44 1 := ⟨(jmw 408 (by decide +kernel) (by decide +kernel)), (jmw 49 (by decide +kernel) (by decide +kernel)), ⟨by decide +kernel, by decide +kernel⟩, by decide +kernel, by decide +kernel, by decide⟩
theorem jM0_X4_printOnOwnPage : jM0 44 6 := ⟨(jmw 407 (by decide +kernel) (by decide +kernel)), _, rfl, by decide, (jmw 13 (by decide +kernel) (by decide +kernel))⟩
theorem jMw_X4_printOutsideBody : jMw 43 1 := ⟨(jmw 446 (by decide +kernel) (by decide +kernel)), (jmw 49 (by decide +kernel) (by decide +kernel)), ⟨by decide +kernel, by decide +kernel⟩, by decide +kernel, by decide +kernel, by decide⟩
theorem jM0_X4_printOutsideBody : jM0 43 6 := ⟨(jmw 445 (by decide +kernel) (by decide +kernel)), _, rfl, by decide, (jmw 17 (by decide +kernel) (by decide +kernel))⟩
theorem jMw_X4_resetSums : jMw 51 1 := ⟨(jmw 478 (by decide +kernel) (by decide +kernel)), (jmw 49 (by decide +kernel) (by decide +kernel)), ⟨by decide +kernel, by decide +kernel⟩, by decide +kernel, by decide +kernel, by decide⟩
theorem jM0_X4_resetSums : jM0 51 6 := ⟨(jmw 477 (by decide +kernel) (by decide +kernel)), _, rfl, by decide, (jmw 25 (by decide +kernel) (by decide +kernel))⟩
theorem jMw_X4_rollSums : jMw 50 1 := ⟨(jmw 474 (by decide +kernel) (by decide +kernel)), (jmw 49 (by decide +kernel) (by decide +kernel)), ⟨by decide +kernel, by decide +kernel⟩, by decide +kernel, by decide +kernel, by decide⟩
theorem jM0_X4_rollSums : jM0 50 6 := ⟨(jmw 473 (by decide +kernel) (by decide +kernel)), _, rfl, by decide, (jmw 24 (by decide +kernel) (by decide +kernel))⟩
theorem jMw_X4_set : jMw 16 2 := ⟨(jmw 388 (by decide +kernel) (by decide +kernel)), (jmw 49 (by decide +kernel) (by decide +kernel)), ⟨by decide +kernel, by decide +kernel⟩, by decide +kernel, by decide +kernel, by decide⟩
theorem jM0_X4_set : jM0 16 6 := ⟨(jmw 386 (by decide +kernel) (by decide +kernel)), _, rfl, by decide, (jmw 387 (by decide +kernel) (by decide +kernel))⟩
theorem jMw_X4_startInBody : jMw 37 1 := ⟨(jmw 458 (by decide +kernel) (by decide +kernel)), (jmw 49 (by decide +kernel) (by decide +kernel)), ⟨by decide +kernel, by decide +kernel⟩, by decide +kernel, by decide +kernel, by decide⟩
theorem jM0_X4_startInBody : jM0 37 6 := ⟨(jmw 457 (by decide +kernel) (by decide +kernel)), _, rfl, by decide, (jmw 20 (by decide +kernel) (by decide +kernel))⟩
theorem jMw_X4_startOnNewPage : jMw 36 3 := ⟨(jmw 321 (by decide +kernel) (by decide +kernel)), (jmw 49 (by decide +kernel) (by decide +kernel)), ⟨by decide +kernel, by decide +kernel⟩, by decide +kernel, by decide +kernel, by decide⟩
theorem jM0_X4_startOnNewPage : jM0 36 6 := ⟨(jmw 320 (by decide +kernel) (by decide +kernel)), _, rfl, by decide, (jmw 7 (by decide +kernel) (by decide +kernel))⟩
theorem jMw_X4_sum : jMw 14 3 := ⟨(jmw 345 (by decide +kernel) (by decide +kernel)), (jmw 49 (by decide +kernel) (by decide +kernel)), ⟨by decide +kernel, by decide +kernel⟩, by decide +kernel, by decide +kernel, by decide⟩
theorem jM0_X4_sum : jM0 14 6 := ⟨(jmw 343 (by decide +kernel) (by decide +kernel)), _, rfl, by decide, (jmw 344 (by decide +kernel) (by decide +kernel))⟩
theorem jMw_X4_sumNumbered : jMw 31 1 := ⟨(jmw 353 (by decide +kernel) (by decide +kernel)), (jmw 49 (by decide +kernel) (by decide +kernel)), ⟨by decide +kernel, by decide +kernel⟩, by decide +kernel, by decide +kernel, by decide⟩
theorem jM0_X4_sumNumbered : jM0 31 6 := ⟨(jmw 352 (by decide +kernel) (by decide +kernel)), _, rfl, by decide, (jmw 11 (by decide +kernel) (by decide +kernel))⟩
theorem jMw_X4_suppress : jMw 24 1 := ⟨(jmw 503 (by decide +kernel) (by decide +kernel)), (jmw 49 (by decide +kernel) (by decide +kernel)), ⟨by decide +kernel, by decide +kernel⟩, by decide +kernel, by decide +kernel, by decide⟩
theorem jM0_X4_suppress : jM0 24 6 := ⟨(jmw 501 (by decide +kernel) (by decide +kernel)), _, rfl, by decide, (jmw 502 (by decide +kernel) (by decide +kernel))⟩
theorem jMw_X4_terminate : jMw 19 0 := ⟨(jmw 487 (by decide +kernel) (by decide +kernel)), (jmw 49 (by decide +kernel) (by decide +kernel)), ⟨by decide +kernel, by decide +kernel⟩, by decide +kernel, by decide +kernel, by decide⟩
theorem jM0_X4_terminate : jM0 19 6 := ⟨(jmw 485 (by decide +kernel) (by decide +kernel)), _, rfl, by decide, (jmw 486 (by decide +kernel) (by decide +kernel))⟩
theorem jMw_X4_topmostLine : jMw 34 1 := ⟨(jmw 328 (by decide +kernel) (by decide +kernel)), (jmw 49 (by decide +kernel) (by decide +kernel)), ⟨by decide +kernel, by decide +kernel⟩, by decide +kernel, by decide +kernel, by decide⟩
theorem jM0_X4_topmostLine : jM0 34 6 := ⟨(jmw 327 (by decide +kernel) (by decide +kernel)), _, rfl, by decide, (jmw 8 (by decide +kernel) (by decide +kernel))⟩
theorem jMw_X4_total : jMw 22 1 := ⟨(jmw 495 (by decide +kernel) (by decide +kernel)), (jmw 49 (by decide +kernel) (by decide +kernel)), ⟨by decide +kernel, by decide +kernel⟩, by decide +kernel, by decide +kernel, by decide⟩
theorem jM0_X4_total : jM0 22 6 := ⟨(jmw 493 (by decide +kernel) (by decide +kernel)), _, rfl, by decide, (jmw 494 (by decide +kernel) (by decide +kernel))⟩
theorem jMw_X5_alone : jMw 71 1 := ⟨(jmw 766 (by decide +kernel) (by decide +kernel)), (jmw 55 (by decide +kernel) (by decide +kernel)), ⟨by decide +kernel, by decide +kernel⟩, by decide +kernel, by decide +kernel, by decide⟩
theorem jM0_X5_alone : jM0 71 7 := ⟨(jmw 765 (by decide +kernel) (by decide +kernel)), _, rfl, by decide, (jmw 34 (by decide +kernel) (by decide +kernel))⟩
theorem jMw_X5_at : jMw 85 2 := ⟨(jmw 826 (by decide +kernel) (by decide +kernel)), (jmw 55 (by decide +kernel) (by decide +kernel)), ⟨by decide +kernel, by decide +kernel⟩, by decide +kernel, by decide +kernel, by decide⟩
theorem jM0_X5_at : jM0 85 7 := ⟨(jmw 824 (by decide +kernel) (by decide +kernel)), _, rfl, by decide, (jmw 825 (by decide +kernel) (by decide +kernel))⟩
theorem jMw_X5_begin : jMw 72 0 := ⟨(jmw 786 (by decide +kernel) (by decide +kernel)), (jmw 55 (by decide +kernel) (by decide +kernel)), ⟨by decide +kernel, by decide +kernel⟩, by decide +kernel, by decide +kernel, by decide⟩
theorem jM0_X5_begin : jM0 72 7 := ⟨(jmw 785 (by decide +kernel) (by decide +kernel)), _, rfl, by decide, (jmw 39 (by decide +kernel) (by decide +kernel))⟩
theorem jMw_X5_changed : jMw 82 0 := ⟨(jmw 806 (by decide +kernel) (by decide +kernel)), (jmw 55 (by decide +kernel) (by decide +kernel)), ⟨by decide +kernel, by decide +kernel⟩, by decide +kernel, by decide +kernel, by decide⟩
theorem jM0_X5_changed : jM0 82 7 := ⟨(jmw 805 (by decide +kernel) (by decide +kernel)), _, rfl, by decide, (jmw 44 (by decide +kernel) (by decide +kernel))⟩
theorem jMw_X5_control : jMw 63 1 := ⟨(jmw 738 (by decide +kernel) (by decide +kernel)), (jmw 55 (by decide +kernel) (by decide +kernel)), ⟨by decide +kernel, by decide +kernel⟩, by decide +kernel, by decide +kernel, by decide⟩
theorem jM0_X5_control : jM0 63 7 := ⟨(jmw 736 (by decide +kernel) (by decide +kernel)), _, rfl, by decide, (jmw 737 (by decide +kernel) (by decide +kernel))⟩
theorem jMw_X5_counter : jMw 88 1 := ⟨(jmw 838 (by decide +kernel) (by decide +kernel)), (jmw 55 (by decide +kernel) (by decide +kernel)), ⟨by decide +kernel, by decide +kernel⟩, by decide +kernel, by decide +kernel, by decide⟩
theorem jM0_X5_counter : jM0 88 7 := ⟨(jmw 836 (by decide +kernel) (by decide +kernel)), _, rfl, by decide, (jmw 837 (by decide +kernel) (by decide +kernel))⟩
theorem jMw_X5_find : jMw 57 2 := ⟨(jmw 710 (by decide +kernel) (by decide +kernel)), (jmw 55 (by decide +kernel) (by decide +kernel)), ⟨by decide +kernel, by decide +kernel⟩, by decide +kernel, by decide +kernel, by decide⟩
theorem jM0_X5_find : jM0 57 7 := ⟨(jmw 709 (by decide +kernel) (by decide +kernel)), _, rfl, by decide, (jmw 28 (by decide +kernel) (by decide +kernel))⟩
theorem jMw_X5_firstSum : jMw 78 1 := ⟨(jmw 814 (by decide +kernel) (by decide +kernel)), (jmw 55 (by decide +kernel) (by decide +kernel)), ⟨by decide +kernel, by decide +kernel⟩, by decide +kernel, by decide +kernel, by decide⟩
theorem jM0_X5_firstSum : jM0 78 7 := ⟨(jmw 813 (by decide +kernel) (by decide +kernel)), _, rfl, by decide, (jmw 46 (by decide +kernel) (by decide +kernel))⟩
theorem jMw_X5_fits : jMw 59 3 := ⟨(jmw 722 (by decide +kernel) (by decide +kernel)), (jmw 55 (by decide +kernel) (by decide +kernel)), ⟨by decide +kernel, by decide +kernel⟩, by decide +kernel, by decide +kernel, by decide⟩
theorem jM0_X5_fits : jM0 59 7 := ⟨(jmw 721 (by decide +kernel) (by decide +kernel)), _, rfl, by decide, (jmw 30 (by decide +kernel) (by decide +kernel))⟩
theorem jMw_X5_foot : jMw 79 1 := ⟨(jmw 810 (by decide +kernel) (by decide +kernel)), (jmw 55 (by decide +kernel) (by decide +kernel)), ⟨by decide +kernel, by decide +kernel⟩, by decide +kernel, by decide +kernel, by decide⟩
theorem jM0_X5_foot : jM0 79 7 := ⟨(jmw 809 (by decide +kernel) (by decide +kernel)), _, rfl, by decide, (jmw 45 (by decide +kernel) (by decide +kernel))⟩
theorem jMw_X5_fresh : jMw 74 0 := ⟨(jmw 758 (by decide +kernel) (by decide +kernel)), (jmw 55 (by decide +kernel) (by decide +kernel)), ⟨by decide +kernel, by decide +kernel⟩, by decide +kernel, by decide +kernel, by decide⟩
theorem jM0_X5_fresh : jM0 74 7 := ⟨(jmw 757 (by decide +kernel) (by decide +kernel)), _, rfl, by decide, (jmw 33 (by decide +kernel) (by decide +kernel))⟩
theorem jMw_X5_generate : jMw 83 2 := ⟨(jmw 762 (by decide +kernel) (by decide +kernel)), (jmw 55 (by decide +kernel) (by decide +kernel)), ⟨by decide +kernel, by decide +kernel⟩, by decide +kernel, by decide +kernel, by decide⟩
theorem jM0_X5_generate : jM0 83 7 := ⟨(jmw 760 (by decide +kernel) (by decide +kernel)), _, rfl, by decide, (jmw 761 (by decide +kernel) (by decide +kernel))⟩
theorem jMw_X5_group : jMw 58 2 := ⟨(jmw 706 (by decide +kernel) (by decide +kernel)), (jmw 55 (by decide +kernel) (by decide +kernel)), ⟨by decide +kernel, by decide +kernel⟩, by decide +kernel, by decide +kernel, by decide⟩
theorem jM0_X5_group : jM0 58 7 := ⟨(jmw 704 (by decide +kernel) (by decide +kernel)), _, rfl, by decide, (jmw 705 (by decide +kernel) (by decide +kernel))⟩
theorem jMw_X5_head : jMw 77 1 := ⟨(jmw 790 (by decide +kernel) (by decide +kernel)), (jmw 55 (by decide +kernel) (by decide +kernel)), ⟨by decide +kernel, by decide +kernel⟩, by decide +kernel, by decide +kernel, by decide⟩
theorem jM0_X5_head : jM0 77 7 := ⟨(jmw 789 (by decide +kernel) (by decide +kernel)), _, rfl, by decide, (jmw 40 (by decide +kernel) (by decide +kernel))⟩
theorem jMw_X5_held : jMw 53 3 := ⟨(jmw 608 (by decide +kernel) (by decide +kernel)), (jmw 55 (by decide +kernel) (by decide +kernel)), ⟨by decide +kernel, by decide +kernel⟩, by decide +kernel, by decide +kernel, by decide⟩
theorem jM2_X5_held : jM2 53 := (jmw 607 (by decide +kernel) (by decide +kernel))
theorem jMw_X5_inBody : jMw 76 2 := ⟨(jmw 794 (by decide +kernel) (by decide +kernel)), (jmw 55 (by decide +kernel) (by decide +kernel)), ⟨by decide +kernel, by decide +kernel⟩, by decide +kernel, by decide +kernel, by decide⟩
theorem jM0_X5_inBody : jM0 76 7 := ⟨(jmw 793 (by decide +kernel) (by decide +kernel)), _, rfl, by decide, (jmw 41 (by decide +kernel) (by decide +kernel))⟩
theorem jMw_X5_indicate : jMw 66 1 := ⟨(jmw 750 (by decide +kernel) (by decide +kernel)), (jmw 55 (by decide +kernel) (by decide +kernel)), ⟨by decide +kernel, by decide +kernel⟩, by decide +kernel, by decide +kernel, by decide⟩
theorem jM0_X5_indicate : jM0 66 7 := ⟨(jmw 748 (by decide +kernel) (by decide +kernel)), _, rfl, by decide, (jmw 749 (by decide +kernel) (by decide +kernel))⟩
theorem jMw_X5_init : jMw 52 3 := ⟨(jmw 603 (by decide +kernel) (by decide +kernel)), (jmw 55 (by decide +kernel) (by decide +kernel)), ⟨by decide +kernel, by decide +kernel⟩, by decide +kernel, by decide +kernel, by decide⟩
theorem jM1_X5_init : jM1 52 := ⟨by decide +kernel, (jmw 602 (by decide +kernel) (by decide +kernel)), rfl⟩
theorem jMw_X5_initiate : jMw 81 0 := ⟨(jmw 754 (by decide +kernel) (by decide +kernel)), (jmw 55 (by decide +kernel) (by decide +kernel)), ⟨by decide +kernel, by decide +kernel⟩, by decide +kernel, by decide +kernel, by decide⟩
theorem jM0_X5_initiate : jM0 81 7 := ⟨(jmw 752 (by decide +kernel) (by decide +kernel)), _, rfl, by decide, (jmw 753 (by decide +kernel) (by decide +kernel))⟩
theorem jMw_X5_isDetail : jMw 56 1 := ⟨(jmw 734 (by decide +kernel) (by decide +kernel)), (jmw 55 (by decide +kernel) (by decide +kernel)), ⟨by decide +kernel, by decide +kernel⟩, by decide +kernel, by decide +kernel, by decide⟩
theorem jM0_X5_isDetail : jM0 56 7 := ⟨(jmw 733 (by decide +kernel) (by decide +kernel)), _, rfl, by decide, (jmw 32 (by decide +kernel) (by decide +kernel))⟩
theorem jMw_X5_isGroup : jMw 55 1 := ⟨(jmw 718 (by decide +kernel) (by decide +kernel)), (jmw 55 (by decide +kernel) (by decide +kernel)), ⟨by decide +kernel, by decide +kernel⟩, by decide +kernel, by decide +kernel, by decide⟩
theorem jM0_X5_isGroup : jM0 55 7 := ⟨(jmw 717 (by decide +kernel) (by decide +kernel)), _, rfl, by decide, (jmw 29 (by decide +kernel) (by decide +kernel))⟩
theorem jMw_X5_isOf : jMw 61 2 := ⟨(jmw 730 (by decide +kernel) (by decide +kernel)), (jmw 55 (by decide +kernel) (by decide +kernel)), ⟨by decide +kernel, by decide +kernel⟩, by decide +kernel, by decide +kernel, by decide⟩
theorem jM0_X5_isOf : jM0 61 7 := ⟨(jmw 729 (by decide +kernel) (by decide +kernel)), _, rfl, by decide, (jmw 31 (by decide +kernel) (by decide +kernel))⟩
theorem jMw_X5_isOn : jMw 68 1 := ⟨(jmw 770 (by decide +kernel) (by decide +kernel)), (jmw 55 (by decide +kernel) (by decide +kernel)), ⟨by decide +kernel, by decide +kernel⟩, by decide +kernel, by decide +kernel, by decide⟩
theorem jM0_X5_isOn : jM0 68 7 := ⟨(jmw 769 (by decide +kernel) (by decide +kernel)), _, rfl, by decide, (jmw 35 (by decide +kernel) (by decide +kernel))⟩
theorem jMw_X5_keep : jMw 80 0 := ⟨(jmw 818 (by decide +kernel) (by decide +kernel)), (jmw 55 (by decide +kernel) (by decide +kernel)), ⟨by decide +kernel, by decide +kernel⟩, by decide +kernel, by decide +kernel, by decide⟩
theorem jM0_X5_keep : jM0 80 7 := ⟨(jmw 817 (by decide +kernel) (by decide +kernel)), _, rfl, by decide, (jmw 47 (by decide +kernel) (by decide +kernel))⟩
theorem jMw_X5_line : jMw 60 3 := ⟨(jmw 714 (by decide +kernel) (by decide +kernel)), (jmw 55 (by decide +kernel) (by decide +kernel)), ⟨by decide +kernel, by decide +kernel⟩, by decide +kernel, by decide +kernel, by decide⟩
theorem jM0_X5_line : jM0 60 7 := ⟨(jmw 712 (by decide +kernel) (by decide +kernel)), _, rfl, by decide, (jmw 713 (by decide +kernel) (by decide +kernel))⟩
theorem jMw_X5_lines : jMw 86 0 := ⟨(jmw 830 (by decide +kernel) (by decide +kernel)), (jmw 55 (by decide +kernel) (by decide +kernel)), ⟨by decide +kernel, by decide +kernel⟩, by decide +kernel, by decide +kernel, by decide⟩
theorem jM0_X5_lines : jM0 86 7 := ⟨(jmw 828 (by decide +kernel) (by decide +kernel)), _, rfl, by decide, (jmw 829 (by decide +kernel) (by decide +kernel))⟩
theorem jMw_X5_over : jMw 73 0 := ⟨(jmw 802 (by decide +kernel) (by decide +kernel)), (jmw 55 (by decide +kernel) (by decide +kernel)), ⟨by decide +kernel, by decide +kernel⟩, by decide +kernel, by decide +kernel, by decide⟩
theorem jM0_X5_over : jM0 73 7 := ⟨(jmw 801 (by decide +kernel) (by decide +kernel)), _, rfl, by decide, (jmw 43 (by decide +kernel) (by decide +kernel))⟩
theorem jMw_X5_put : jMw 67 4 := ⟨(jmw 782 (by decide +kernel) (by decide +kernel)), (jmw 55 (by decide +kernel) (by decide +kernel)), ⟨by decide +kernel, by decide +kernel⟩, by decide +kernel, by decide +kernel, by decide⟩
theorem jM0_X5_put : jM0 67 7 := ⟨(jmw 781 (by decide +kernel) (by decide +kernel)), _, rfl, by decide, (jmw 38 (by decide +kernel) (by decide +kernel))⟩
theorem jMw_X5_putAll : jMw 69 3 := ⟨(jmw 778 (by decide +kernel) (by decide +kernel)), (jmw 55 (by decide +kernel) (by decide +kernel)), ⟨by decide +kernel, by decide +kernel⟩, by decide +kernel, by decide +kernel, by decide⟩
theorem jM0_X5_putAll : jM0 69 7 := ⟨(jmw 777 (by decide +kernel) (by decide +kernel)), _, rfl, by decide, (jmw 37 (by decide +kernel) (by decide +kernel))⟩
theorem jMw_X5_putFrom : jMw 70 3 := ⟨(jmw 774 (by decide +kernel) (by decide +kernel)), (jmw 55 (by decide +kernel) (by decide +kernel)), ⟨by decide +kernel, by decide +kernel⟩, by decide +kernel, by decide +kernel, by decide⟩
theorem jM0_X5_putFrom : jM0 70 7 := ⟨(jmw 773 (by decide +kernel) (by decide +kernel)), _, rfl, by decide, (jmw 36 (by decide +kernel) (by decide +kernel))⟩
theorem jMw_X5_set : jMw 64 2 := ⟨(jmw 742 (by decide +kernel) (by decide +kernel)), (jmw 55 (by decide +kernel) (by decide +kernel)), ⟨by decide +kernel, by decide +kernel⟩, by decide +kernel, by decide +kernel, by decide⟩
theorem jM0_X5_set : jM0 64 7 := ⟨(jmw 740 (by decide +kernel) (by decide +kernel)), _, rfl, by decide, (jmw 741 (by decide +kernel) (by decide +kernel))⟩
theorem jMw_X5_sum : jMw 62 3 := ⟨(jmw 726 (by decide +kernel) (by decide +kernel)), (jmw 55 (by decide +kernel) (by decide +kernel)), ⟨by decide +kernel, by decide +kernel⟩, by decide +kernel, by decide +kernel, by decide⟩
theorem jM0_X5_sum : jM0 62 7 := ⟨(jmw 724 (by decide +kernel) (by decide +kernel)), _, rfl, by decide, (jmw 725 (by decide +kernel) (by decide +kernel))⟩
theorem jMw_X5_suppress : jMw 65 1 := ⟨(jmw 746 (by decide +kernel) (by decide +kernel)), (jmw 55 (by decide +kernel) (by decide +kernel)), ⟨by decide +kernel, by decide +kernel⟩, by decide +kernel, by decide +kernel, by decide⟩
theorem jM0_X5_suppress : jM0 65 7 := ⟨(jmw 744 (by decide +kernel) (by decide +kernel)), _, rfl, by decide, (jmw 745 (by decide +kernel) (by decide +kernel))⟩
theorem jMw_X5_terminate : jMw 84 0 := ⟨(jmw 822 (by decide +kernel) (by decide +kernel)), (jmw 55 (by decide +kernel) (by decide +kernel)), ⟨by decide +kernel, by decide +kernel⟩, by decide +kernel, by decide +kernel, by decide⟩
theorem jM0_X5_terminate : jM0 84 7 := ⟨(jmw 820 (by decide +kernel) (by decide +kernel)), _, rfl, by decide, (jmw 821 (by decide +kernel) (by decide +kernel))⟩
theorem jMw_X5_thrown : jMw 54 0 := ⟨(jmw 702 (by decide +kernel) (by decide +kernel)), (jmw 55 (by decide +kernel) (by decide +kernel)), ⟨by decide +kernel, by decide +kernel⟩, by decide +kernel, by decide +kernel, by decide⟩
theorem jM0_X5_thrown : jM0 54 7 := ⟨(jmw 700 (by decide +kernel) (by decide +kernel)), _, rfl, by decide, (jmw 701 (by decide +kernel) (by decide +kernel))⟩
theorem jMw_X5_top : jMw 75 1 := ⟨(jmw 798 (by decide +kernel) (by decide +kernel)), (jmw 55 (by decide +kernel) (by decide +kernel)), ⟨by decide +kernel, by decide +kernel⟩, by decide +kernel, by decide +kernel, by decide⟩
theorem jM0_X5_top : jM0 75 7 := ⟨(jmw 797 (by decide +kernel) (by decide +kernel)), _, rfl, by decide, (jmw 42 (by decide +kernel) (by decide +kernel))⟩
theorem jMw_X5_total : jMw 87 1 := ⟨(jmw 834 (by decide +kernel) (by decide +kernel)), (jmw 55 (by decide +kernel) (by decide +kernel)), ⟨by decide +kernel, by decide +kernel⟩, by decide +kernel, by decide +kernel, by decide⟩
theorem jM0_X5_total : jM0 87 7 := ⟨(jmw 832 (by decide +kernel) (by decide +kernel)), _, rfl, by decide, (jmw 833 (by decide +kernel) (by decide +kernel))⟩
def jmtT : List ((Nat × Nat) × (Nat × Nat × Nat × Nat)) := [((4, 9), (1, 94, 0, 0)), ((4, 32), (1, 4, 0, 0)), ((4, 86), (1, 0, 3, 0)), ((4, 122), (1, 10, 4, 0)), ((4, 180), (1, 89, 1, 0)), ((1, 9), (1, 94, 0, 0)), ((1, 26), (1, 9, 0, 0)), ((15, 21), (1, 11, 3, 0)), ((15, 26), (1, 52, 3, 0)), ((9, 1), (1, 92, 0, 0)), ((10, 1), (1, 93, 0, 0)), ((4, 59), (2, 26, 3, 0)), ((4, 209), (2, 27, 1, 0)), ((15, 15), (2, 108, 2, 0)), ((5, 58), (2, 53, 3, 0)), ((10, 66), (2, 102, 2, 0)), ((10, 73), (2, 105, 3, 0)), ((10, 118), (2, 104, 2, 0)), ((11, 300), (2, 103, 3, 0)), ((12, 105), (2, 107, 3, 0)), ((13, 201), (2, 106, 2, 0)), ((4, 72), (0, 28, 2, 6)), ((4, 76), (0, 30, 2, 6)), ((4, 80), (0, 97, 0, 1)), ((4, 89), (0, 101, 1, 1)), ((4, 93), (0, 29, 1, 6)), ((4, 100), (0, 38, 3, 6)), ((4, 104), (0, 1, 2, 2)), ((4, 114), (0, 33, 2, 6)), ((4, 125), (0, 5, 0, 3)), ((4, 128), (0, 99, 1, 1)), ((4, 139), (0, 46, 0, 6)), ((4, 142), (0, 44, 1, 6)), ((4, 146), (0, 40, 0, 6)), ((4, 149), (0, 47, 1, 6)), ((4, 153), (0, 48, 1, 6)), ((4, 162), (0, 49, 2, 6)), ((4, 166), (0, 39, 2, 6)), ((4, 170), (0, 41, 0, 6)), ((4, 173), (0, 7, 2, 3)), ((4, 183), (0, 8, 2, 3)), ((4, 187), (0, 31, 1, 6)), ((4, 219), (0, 36, 3, 6)), ((4, 223), (0, 34, 1, 6)), ((4, 227), (0, 35, 1, 6)), ((4, 230), (0, 2, 0, 2)), ((4, 233), (0, 3, 0, 2)), ((4, 237), (0, 37, 1, 6)), ((4, 244), (0, 45, 3, 6)), ((4, 248), (0, 42, 0, 6)), ((4, 251), (0, 43, 1, 6)), ((4, 257), (0, 6, 5, 3)), ((4, 260), (0, 32, 1, 6)), ((4, 263), (0, 50, 1, 6)), ((4, 266), (0, 51, 1, 6)), ((0, 44), (0, 2, 0, 2)), ((1, 20), (0, 97, 0, 1)), ((1, 27), (0, 101, 1, 1)), ((1, 31), (0, 99, 1, 1)), ((1, 39), (0, 7, 2, 3)), ((15, 7), (0, 20, 2, 6)), ((15, 27), (0, 12, 2, 6)), ((15, 30), (0, 58, 2, 7)), ((15, 31), (0, 13, 3, 6)), ((15, 35), (0, 60, 3, 7)), ((15, 36), (0, 14, 3, 6)), ((15, 40), (0, 62, 3, 7)), ((15, 41), (0, 15, 1, 6)), ((15, 45), (0, 63, 1, 7)), ((15, 46), (0, 16, 2, 6)), ((15, 49), (0, 64, 2, 7)), ((15, 50), (0, 17, 0, 6)), ((15, 54), (0, 81, 0, 7)), ((15, 57), (0, 18, 2, 6)), ((15, 61), (0, 83, 2, 7)), ((15, 62), (0, 19, 0, 6)), ((15, 65), (0, 84, 0, 7)), ((15, 69), (0, 85, 2, 7)), ((15, 70), (0, 54, 0, 7)), ((15, 73), (0, 21, 0, 6)), ((15, 76), (0, 86, 0, 7)), ((15, 77), (0, 22, 1, 6)), ((15, 81), (0, 87, 1, 7)), ((15, 82), (0, 23, 1, 6)), ((15, 85), (0, 88, 1, 7)), ((15, 86), (0, 24, 1, 6)), ((15, 89), (0, 65, 1, 7)), ((15, 90), (0, 25, 1, 6)), ((15, 93), (0, 66, 1, 7)), ((5, 78), (0, 55, 1, 7)), ((5, 89), (0, 57, 2, 7)), ((5, 93), (0, 59, 3, 7)), ((5, 97), (0, 56, 1, 7)), ((5, 103), (0, 61, 2, 7)), ((5, 116), (0, 67, 4, 7)), ((5, 120), (0, 69, 3, 7)), ((5, 124), (0, 68, 1, 7)), ((5, 127), (0, 70, 3, 7)), ((5, 133), (0, 74, 0, 7)), ((5, 136), (0, 75, 1, 7)), ((5, 140), (0, 73, 0, 7)), ((5, 143), (0, 72, 0, 7)), ((5, 146), (0, 76, 2, 7)), ((5, 150), (0, 78, 1, 7)), ((5, 159), (0, 71, 1, 7)), ((5, 163), (0, 77, 1, 7)), ((5, 166), (0, 82, 0, 7)), ((5, 170), (0, 79, 1, 7)), ((5, 172), (0, 80, 0, 7)), ((10, 69), (0, 95, 1, 1)), ((10, 123), (0, 98, 1, 1)), ((10, 129), (0, 96, 0, 1)), ((10, 131), (0, 100, 3, 1))]
def jmtP (x : (Nat × Nat) × (Nat × Nat × Nat × Nat)) : Prop := (Cond.methodLink (jcn x.1.1) x.1.2 (jy x.2.2.1) ∈ jwords ∨ ∃ host : String, Cond.methodLinkNest (jcn x.1.1) x.1.2 (jy x.2.2.1) host ∈ jwords) ∧ jMw x.2.2.1 x.2.2.2.1 ∧ (x.2.1 = 0 → jM0 x.2.2.1 x.2.2.2.2) ∧ (x.2.1 = 1 → jM1 x.2.2.1) ∧ (x.2.1 = 2 → jM2 x.2.2.1)
theorem jmtT_0 : jmtP ((4, 9), (1, 94, 0, 0)) := ⟨Or.inl (jmw 79 (by decide +kernel) (by decide +kernel)), jMw_Jx4a65c_init_da8c8, fun h => absurd h (by decide), fun _ => jM1_Jx4a65c_init_da8c8, fun h => absurd h (by decide)⟩
theorem jmtT_1 : jmtP ((4, 32), (1, 4, 0, 0)) := ⟨Or.inr ⟨"ReportWriter", (jmw 105 (by decide +kernel) (by decide +kernel))⟩, jMw_X1_init, fun h => absurd h (by decide), fun _ => jM1_X1_init, fun h => absurd h (by decide)⟩
theorem jmtT_2 : jmtP ((4, 86), (1, 0, 3, 0)) := ⟨Or.inl (jmw 210 (by decide +kernel) (by decide +kernel)), jMw_X0_init, fun h => absurd h (by decide), fun _ => jM1_X0_init, fun h => absurd h (by decide)⟩
theorem jmtT_3 : jmtP ((4, 122), (1, 10, 4, 0)) := ⟨Or.inl (jmw 356 (by decide +kernel) (by decide +kernel)), jMw_X3_init, fun h => absurd h (by decide), fun _ => jM1_X3_init, fun h => absurd h (by decide)⟩
theorem jmtT_4 : jmtP ((4, 180), (1, 89, 1, 0)) := ⟨Or.inl (jmw 565 (by decide +kernel) (by decide +kernel)), jMw_Jx00060_init_a7421, fun h => absurd h (by decide), fun _ => jM1_Jx00060_init_a7421, fun h => absurd h (by decide)⟩
theorem jmtT_5 : jmtP ((1, 9), (1, 94, 0, 0)) := ⟨Or.inl (jmw 110 (by decide +kernel) (by decide +kernel)), jMw_Jx4a65c_init_da8c8, fun h => absurd h (by decide), fun _ => jM1_Jx4a65c_init_da8c8, fun h => absurd h (by decide)⟩
theorem jmtT_6 : jmtP ((1, 26), (1, 9, 0, 0)) := ⟨Or.inr ⟨"ReportWriter", (jmw 428 (by decide +kernel) (by decide +kernel))⟩, jMw_X2_init, fun h => absurd h (by decide), fun _ => jM1_X2_init, fun h => absurd h (by decide)⟩
theorem jmtT_7 : jmtP ((15, 21), (1, 11, 3, 0)) := ⟨Or.inl (jmw 71 (by decide +kernel) (by decide +kernel)), jMw_X4_init, fun h => absurd h (by decide), fun _ => jM1_X4_init, fun h => absurd h (by decide)⟩
theorem jmtT_8 : jmtP ((15, 26), (1, 52, 3, 0)) := ⟨Or.inl (jmw 601 (by decide +kernel) (by decide +kernel)), jMw_X5_init, fun h => absurd h (by decide), fun _ => jM1_X5_init, fun h => absurd h (by decide)⟩
theorem jmtT_9 : jmtP ((9, 1), (1, 92, 0, 0)) := ⟨Or.inl (jmw 85 (by decide +kernel) (by decide +kernel)), jMw_Jxa1e45_init_da8c8, fun h => absurd h (by decide), fun _ => jM1_Jxa1e45_init_da8c8, fun h => absurd h (by decide)⟩
theorem jmtT_10 : jmtP ((10, 1), (1, 93, 0, 0)) := ⟨Or.inl (jmw 82 (by decide +kernel) (by decide +kernel)), jMw_Jxc12de_init_da8c8, fun h => absurd h (by decide), fun _ => jM1_Jxc12de_init_da8c8, fun h => absurd h (by decide)⟩
theorem jmtT_11 : jmtP ((4, 59), (2, 26, 3, 0)) := ⟨Or.inl (jmw 120 (by decide +kernel) (by decide +kernel)), jMw_X4_held, fun h => absurd h (by decide), fun h => absurd h (by decide), fun _ => jM2_X4_held⟩
theorem jmtT_12 : jmtP ((4, 209), (2, 27, 1, 0)) := ⟨Or.inl (jmw 322 (by decide +kernel) (by decide +kernel)), jMw_X4_isOfBody, fun h => absurd h (by decide), fun h => absurd h (by decide), fun _ => jM2_X4_isOfBody⟩
theorem jmtT_13 : jmtP ((15, 15), (2, 108, 2, 0)) := ⟨Or.inl (jmw 508 (by decide +kernel) (by decide +kernel)), jMw_L_cell, fun h => absurd h (by decide), fun h => absurd h (by decide), fun _ => jM2_L_cell⟩
theorem jmtT_14 : jmtP ((5, 58), (2, 53, 3, 0)) := ⟨Or.inl (jmw 606 (by decide +kernel) (by decide +kernel)), jMw_X5_held, fun h => absurd h (by decide), fun h => absurd h (by decide), fun _ => jM2_X5_held⟩
theorem jmtT_15 : jmtP ((10, 66), (2, 102, 2, 0)) := ⟨Or.inl (jmw 279 (by decide +kernel) (by decide +kernel)), jMw_J7_copyOf_1904c, fun h => absurd h (by decide), fun h => absurd h (by decide), fun _ => jM2_J7_copyOf_1904c⟩
theorem jmtT_16 : jmtP ((10, 73), (2, 105, 3, 0)) := ⟨Or.inl (jmw 271 (by decide +kernel) (by decide +kernel)), jMw_J8_newLength_cabcc, fun h => absurd h (by decide), fun h => absurd h (by decide), fun _ => jM2_J8_newLength_cabcc⟩
theorem jmtT_17 : jmtP ((10, 118), (2, 104, 2, 0)) := ⟨Or.inl (jmw 198 (by decide +kernel) (by decide +kernel)), jMw_J15_checkIndex_7cf53, fun h => absurd h (by decide), fun h => absurd h (by decide), fun _ => jM2_J15_checkIndex_7cf53⟩
theorem jmtT_18 : jmtP ((11, 300), (2, 103, 3, 0)) := ⟨Or.inl (jmw 294 (by decide +kernel) (by decide +kernel)), jMw_J7_copyOf_6403c, fun h => absurd h (by decide), fun h => absurd h (by decide), fun _ => jM2_J7_copyOf_6403c⟩
theorem jmtT_19 : jmtP ((12, 105), (2, 107, 3, 0)) := ⟨Or.inl (jmw 201 (by decide +kernel) (by decide +kernel)), jMw_J3_checkIndex_8e157, fun h => absurd h (by decide), fun h => absurd h (by decide), fun _ => jM2_J3_checkIndex_8e157⟩
theorem jmtT_20 : jmtP ((13, 201), (2, 106, 2, 0)) := ⟨Or.inl (jmw 276 (by decide +kernel) (by decide +kernel)), jMw_J8_hugeLength_7cf53, fun h => absurd h (by decide), fun h => absurd h (by decide), fun _ => jM2_J8_hugeLength_7cf53⟩
theorem jmtT_21 : jmtP ((4, 72), (0, 28, 2, 6)) := ⟨Or.inl (jmw 182 (by decide +kernel) (by decide +kernel)), jMw_X4_isKindOfLevel, fun _ => jM0_X4_isKindOfLevel, fun h => absurd h (by decide), fun h => absurd h (by decide)⟩
theorem jmtT_22 : jmtP ((4, 76), (0, 30, 2, 6)) := ⟨Or.inl (jmw 186 (by decide +kernel) (by decide +kernel)), jMw_X4_groupOf, fun _ => jM0_X4_groupOf, fun h => absurd h (by decide), fun h => absurd h (by decide)⟩
theorem jmtT_23 : jmtP ((4, 80), (0, 97, 0, 1)) := ⟨Or.inl (jmw 190 (by decide +kernel) (by decide +kernel)), jMw_Jx4a65c_size_8abf5, fun _ => jM0_Jx4a65c_size_8abf5, fun h => absurd h (by decide), fun h => absurd h (by decide)⟩
theorem jmtT_24 : jmtP ((4, 89), (0, 101, 1, 1)) := ⟨Or.inl (jmw 255 (by decide +kernel) (by decide +kernel)), jMw_Jx4a65c_add_9ea2d, fun _ => jM0_Jx4a65c_add_9ea2d, fun h => absurd h (by decide), fun h => absurd h (by decide)⟩
theorem jmtT_25 : jmtP ((4, 93), (0, 29, 1, 6)) := ⟨Or.inl (jmw 310 (by decide +kernel) (by decide +kernel)), jMw_X4_groupNumbered, fun _ => jM0_X4_groupNumbered, fun h => absurd h (by decide), fun h => absurd h (by decide)⟩
theorem jmtT_26 : jmtP ((4, 100), (0, 38, 3, 6)) := ⟨Or.inl (jmw 314 (by decide +kernel) (by decide +kernel)), jMw_X4_fitsWithLine, fun _ => jM0_X4_fitsWithLine, fun h => absurd h (by decide), fun h => absurd h (by decide)⟩
theorem jmtT_27 : jmtP ((4, 104), (0, 1, 2, 2)) := ⟨Or.inl (jmw 337 (by decide +kernel) (by decide +kernel)), jMw_X0_addLine, fun _ => jM0_X0_addLine, fun h => absurd h (by decide), fun h => absurd h (by decide)⟩
theorem jmtT_28 : jmtP ((4, 114), (0, 33, 2, 6)) := ⟨Or.inl (jmw 346 (by decide +kernel) (by decide +kernel)), jMw_X4_isSummable, fun _ => jM0_X4_isSummable, fun h => absurd h (by decide), fun h => absurd h (by decide)⟩
theorem jmtT_29 : jmtP ((4, 125), (0, 5, 0, 3)) := ⟨Or.inl (jmw 393 (by decide +kernel) (by decide +kernel)), jMw_X1_clear, fun _ => jM0_X1_clear, fun h => absurd h (by decide), fun h => absurd h (by decide)⟩
theorem jmtT_30 : jmtP ((4, 128), (0, 99, 1, 1)) := ⟨Or.inl (jmw 194 (by decide +kernel) (by decide +kernel)), jMw_Jx4a65c_get_915e3, fun _ => jM0_Jx4a65c_get_915e3, fun h => absurd h (by decide), fun h => absurd h (by decide)⟩
theorem jmtT_31 : jmtP ((4, 139), (0, 46, 0, 6)) := ⟨Or.inl (jmw 401 (by decide +kernel) (by decide +kernel)), jMw_X4_changedLevel, fun _ => jM0_X4_changedLevel, fun h => absurd h (by decide), fun h => absurd h (by decide)⟩
theorem jmtT_32 : jmtP ((4, 142), (0, 44, 1, 6)) := ⟨Or.inl (jmw 405 (by decide +kernel) (by decide +kernel)), jMw_X4_printOnOwnPage, fun _ => jM0_X4_printOnOwnPage, fun h => absurd h (by decide), fun h => absurd h (by decide)⟩
theorem jmtT_33 : jmtP ((4, 146), (0, 40, 0, 6)) := ⟨Or.inl (jmw 439 (by decide +kernel) (by decide +kernel)), jMw_X4_beginPage, fun _ => jM0_X4_beginPage, fun h => absurd h (by decide), fun h => absurd h (by decide)⟩
theorem jmtT_34 : jmtP ((4, 149), (0, 47, 1, 6)) := ⟨Or.inl (jmw 447 (by decide +kernel) (by decide +kernel)), jMw_X4_printControlHeads, fun _ => jM0_X4_printControlHeads, fun h => absurd h (by decide), fun h => absurd h (by decide)⟩
theorem jmtT_35 : jmtP ((4, 153), (0, 48, 1, 6)) := ⟨Or.inl (jmw 463 (by decide +kernel) (by decide +kernel)), jMw_X4_printControlFoots, fun _ => jM0_X4_printControlFoots, fun h => absurd h (by decide), fun h => absurd h (by decide)⟩
theorem jmtT_36 : jmtP ((4, 162), (0, 49, 2, 6)) := ⟨Or.inl (jmw 480 (by decide +kernel) (by decide +kernel)), jMw_X4_addToSums, fun _ => jM0_X4_addToSums, fun h => absurd h (by decide), fun h => absurd h (by decide)⟩
theorem jmtT_37 : jmtP ((4, 166), (0, 39, 2, 6)) := ⟨Or.inl (jmw 451 (by decide +kernel) (by decide +kernel)), jMw_X4_printInBody, fun _ => jM0_X4_printInBody, fun h => absurd h (by decide), fun h => absurd h (by decide)⟩
theorem jmtT_38 : jmtP ((4, 170), (0, 41, 0, 6)) := ⟨Or.inl (jmw 459 (by decide +kernel) (by decide +kernel)), jMw_X4_endPage, fun _ => jM0_X4_endPage, fun h => absurd h (by decide), fun h => absurd h (by decide)⟩
theorem jmtT_39 : jmtP ((4, 173), (0, 7, 2, 3)) := ⟨Or.inl (jmw 519 (by decide +kernel) (by decide +kernel)), jMw_X1_has, fun _ => jM0_X1_has, fun h => absurd h (by decide), fun h => absurd h (by decide)⟩
theorem jmtT_40 : jmtP ((4, 183), (0, 8, 2, 3)) := ⟨Or.inl (jmw 594 (by decide +kernel) (by decide +kernel)), jMw_X1_cell, fun _ => jM0_X1_cell, fun h => absurd h (by decide), fun h => absurd h (by decide)⟩
theorem jmtT_41 : jmtP ((4, 187), (0, 31, 1, 6)) := ⟨Or.inl (jmw 350 (by decide +kernel) (by decide +kernel)), jMw_X4_sumNumbered, fun _ => jM0_X4_sumNumbered, fun h => absurd h (by decide), fun h => absurd h (by decide)⟩
theorem jmtT_42 : jmtP ((4, 219), (0, 36, 3, 6)) := ⟨Or.inl (jmw 318 (by decide +kernel) (by decide +kernel)), jMw_X4_startOnNewPage, fun _ => jM0_X4_startOnNewPage, fun h => absurd h (by decide), fun h => absurd h (by decide)⟩
theorem jmtT_43 : jmtP ((4, 223), (0, 34, 1, 6)) := ⟨Or.inl (jmw 325 (by decide +kernel) (by decide +kernel)), jMw_X4_topmostLine, fun _ => jM0_X4_topmostLine, fun h => absurd h (by decide), fun h => absurd h (by decide)⟩
theorem jmtT_44 : jmtP ((4, 227), (0, 35, 1, 6)) := ⟨Or.inl (jmw 329 (by decide +kernel) (by decide +kernel)), jMw_X4_lowestLine, fun _ => jM0_X4_lowestLine, fun h => absurd h (by decide), fun h => absurd h (by decide)⟩
theorem jmtT_45 : jmtP ((4, 230), (0, 2, 0, 2)) := ⟨Or.inl (jmw 333 (by decide +kernel) (by decide +kernel)), jMw_X0_height, fun _ => jM0_X0_height, fun h => absurd h (by decide), fun h => absurd h (by decide)⟩
theorem jmtT_46 : jmtP ((4, 233), (0, 3, 0, 2)) := ⟨Or.inl (jmw 409 (by decide +kernel) (by decide +kernel)), jMw_X0_takesItsTurn, fun _ => jM0_X0_takesItsTurn, fun h => absurd h (by decide), fun h => absurd h (by decide)⟩
theorem jmtT_47 : jmtP ((4, 237), (0, 37, 1, 6)) := ⟨Or.inl (jmw 455 (by decide +kernel) (by decide +kernel)), jMw_X4_startInBody, fun _ => jM0_X4_startInBody, fun h => absurd h (by decide), fun h => absurd h (by decide)⟩
theorem jmtT_48 : jmtP ((4, 244), (0, 45, 3, 6)) := ⟨Or.inl (jmw 417 (by decide +kernel) (by decide +kernel)), jMw_X4_printFrom, fun _ => jM0_X4_printFrom, fun h => absurd h (by decide), fun h => absurd h (by decide)⟩
theorem jmtT_49 : jmtP ((4, 248), (0, 42, 0, 6)) := ⟨Or.inl (jmw 413 (by decide +kernel) (by decide +kernel)), jMw_X4_countPage, fun _ => jM0_X4_countPage, fun h => absurd h (by decide), fun h => absurd h (by decide)⟩
theorem jmtT_50 : jmtP ((4, 251), (0, 43, 1, 6)) := ⟨Or.inl (jmw 443 (by decide +kernel) (by decide +kernel)), jMw_X4_printOutsideBody, fun _ => jM0_X4_printOutsideBody, fun h => absurd h (by decide), fun h => absurd h (by decide)⟩
theorem jmtT_51 : jmtP ((4, 257), (0, 6, 5, 3)) := ⟨Or.inl (jmw 421 (by decide +kernel) (by decide +kernel)), jMw_X1_add, fun _ => jM0_X1_add, fun h => absurd h (by decide), fun h => absurd h (by decide)⟩
theorem jmtT_52 : jmtP ((4, 260), (0, 32, 1, 6)) := ⟨Or.inl (jmw 467 (by decide +kernel) (by decide +kernel)), jMw_X4_firstSumOf, fun _ => jM0_X4_firstSumOf, fun h => absurd h (by decide), fun h => absurd h (by decide)⟩
theorem jmtT_53 : jmtP ((4, 263), (0, 50, 1, 6)) := ⟨Or.inl (jmw 471 (by decide +kernel) (by decide +kernel)), jMw_X4_rollSums, fun _ => jM0_X4_rollSums, fun h => absurd h (by decide), fun h => absurd h (by decide)⟩
theorem jmtT_54 : jmtP ((4, 266), (0, 51, 1, 6)) := ⟨Or.inl (jmw 475 (by decide +kernel) (by decide +kernel)), jMw_X4_resetSums, fun _ => jM0_X4_resetSums, fun h => absurd h (by decide), fun h => absurd h (by decide)⟩
theorem jmtT_55 : jmtP ((0, 44), (0, 2, 0, 2)) := ⟨Or.inl (jmw 341 (by decide +kernel) (by decide +kernel)), jMw_X0_height, fun _ => jM0_X0_height, fun h => absurd h (by decide), fun h => absurd h (by decide)⟩
theorem jmtT_56 : jmtP ((1, 20), (0, 97, 0, 1)) := ⟨Or.inl (jmw 425 (by decide +kernel) (by decide +kernel)), jMw_Jx4a65c_size_8abf5, fun _ => jM0_Jx4a65c_size_8abf5, fun h => absurd h (by decide), fun h => absurd h (by decide)⟩
theorem jmtT_57 : jmtP ((1, 27), (0, 101, 1, 1)) := ⟨Or.inl (jmw 437 (by decide +kernel) (by decide +kernel)), jMw_Jx4a65c_add_9ea2d, fun _ => jM0_Jx4a65c_add_9ea2d, fun h => absurd h (by decide), fun h => absurd h (by decide)⟩
theorem jmtT_58 : jmtP ((1, 31), (0, 99, 1, 1)) := ⟨Or.inl (jmw 438 (by decide +kernel) (by decide +kernel)), jMw_Jx4a65c_get_915e3, fun _ => jM0_Jx4a65c_get_915e3, fun h => absurd h (by decide), fun h => absurd h (by decide)⟩
theorem jmtT_59 : jmtP ((1, 39), (0, 7, 2, 3)) := ⟨Or.inl (jmw 598 (by decide +kernel) (by decide +kernel)), jMw_X1_has, fun _ => jM0_X1_has, fun h => absurd h (by decide), fun h => absurd h (by decide)⟩
theorem jmtT_60 : jmtP ((15, 7), (0, 20, 2, 6)) := ⟨Or.inl (jmw 515 (by decide +kernel) (by decide +kernel)), jMw_X4_at, fun _ => jM0_X4_at, fun h => absurd h (by decide), fun h => absurd h (by decide)⟩
theorem jmtT_61 : jmtP ((15, 27), (0, 12, 2, 6)) := ⟨Or.inl (jmw 178 (by decide +kernel) (by decide +kernel)), jMw_X4_group, fun _ => jM0_X4_group, fun h => absurd h (by decide), fun h => absurd h (by decide)⟩
theorem jmtT_62 : jmtP ((15, 30), (0, 58, 2, 7)) := ⟨Or.inl (jmw 703 (by decide +kernel) (by decide +kernel)), jMw_X5_group, fun _ => jM0_X5_group, fun h => absurd h (by decide), fun h => absurd h (by decide)⟩
theorem jmtT_63 : jmtP ((15, 31), (0, 13, 3, 6)) := ⟨Or.inl (jmw 306 (by decide +kernel) (by decide +kernel)), jMw_X4_line, fun _ => jM0_X4_line, fun h => absurd h (by decide), fun h => absurd h (by decide)⟩
theorem jmtT_64 : jmtP ((15, 35), (0, 60, 3, 7)) := ⟨Or.inl (jmw 711 (by decide +kernel) (by decide +kernel)), jMw_X5_line, fun _ => jM0_X5_line, fun h => absurd h (by decide), fun h => absurd h (by decide)⟩
theorem jmtT_65 : jmtP ((15, 36), (0, 14, 3, 6)) := ⟨Or.inl (jmw 342 (by decide +kernel) (by decide +kernel)), jMw_X4_sum, fun _ => jM0_X4_sum, fun h => absurd h (by decide), fun h => absurd h (by decide)⟩
theorem jmtT_66 : jmtP ((15, 40), (0, 62, 3, 7)) := ⟨Or.inl (jmw 723 (by decide +kernel) (by decide +kernel)), jMw_X5_sum, fun _ => jM0_X5_sum, fun h => absurd h (by decide), fun h => absurd h (by decide)⟩
theorem jmtT_67 : jmtP ((15, 41), (0, 15, 1, 6)) := ⟨Or.inl (jmw 381 (by decide +kernel) (by decide +kernel)), jMw_X4_control, fun _ => jM0_X4_control, fun h => absurd h (by decide), fun h => absurd h (by decide)⟩
theorem jmtT_68 : jmtP ((15, 45), (0, 63, 1, 7)) := ⟨Or.inl (jmw 735 (by decide +kernel) (by decide +kernel)), jMw_X5_control, fun _ => jM0_X5_control, fun h => absurd h (by decide), fun h => absurd h (by decide)⟩
theorem jmtT_69 : jmtP ((15, 46), (0, 16, 2, 6)) := ⟨Or.inl (jmw 385 (by decide +kernel) (by decide +kernel)), jMw_X4_set, fun _ => jM0_X4_set, fun h => absurd h (by decide), fun h => absurd h (by decide)⟩
theorem jmtT_70 : jmtP ((15, 49), (0, 64, 2, 7)) := ⟨Or.inl (jmw 739 (by decide +kernel) (by decide +kernel)), jMw_X5_set, fun _ => jM0_X5_set, fun h => absurd h (by decide), fun h => absurd h (by decide)⟩
theorem jmtT_71 : jmtP ((15, 50), (0, 17, 0, 6)) := ⟨Or.inl (jmw 389 (by decide +kernel) (by decide +kernel)), jMw_X4_initiate, fun _ => jM0_X4_initiate, fun h => absurd h (by decide), fun h => absurd h (by decide)⟩
theorem jmtT_72 : jmtP ((15, 54), (0, 81, 0, 7)) := ⟨Or.inl (jmw 751 (by decide +kernel) (by decide +kernel)), jMw_X5_initiate, fun _ => jM0_X5_initiate, fun h => absurd h (by decide), fun h => absurd h (by decide)⟩
theorem jmtT_73 : jmtP ((15, 57), (0, 18, 2, 6)) := ⟨Or.inl (jmw 397 (by decide +kernel) (by decide +kernel)), jMw_X4_generate, fun _ => jM0_X4_generate, fun h => absurd h (by decide), fun h => absurd h (by decide)⟩
theorem jmtT_74 : jmtP ((15, 61), (0, 83, 2, 7)) := ⟨Or.inl (jmw 759 (by decide +kernel) (by decide +kernel)), jMw_X5_generate, fun _ => jM0_X5_generate, fun h => absurd h (by decide), fun h => absurd h (by decide)⟩
theorem jmtT_75 : jmtP ((15, 62), (0, 19, 0, 6)) := ⟨Or.inl (jmw 484 (by decide +kernel) (by decide +kernel)), jMw_X4_terminate, fun _ => jM0_X4_terminate, fun h => absurd h (by decide), fun h => absurd h (by decide)⟩
theorem jmtT_76 : jmtP ((15, 65), (0, 84, 0, 7)) := ⟨Or.inl (jmw 819 (by decide +kernel) (by decide +kernel)), jMw_X5_terminate, fun _ => jM0_X5_terminate, fun h => absurd h (by decide), fun h => absurd h (by decide)⟩
theorem jmtT_77 : jmtP ((15, 69), (0, 85, 2, 7)) := ⟨Or.inl (jmw 823 (by decide +kernel) (by decide +kernel)), jMw_X5_at, fun _ => jM0_X5_at, fun h => absurd h (by decide), fun h => absurd h (by decide)⟩
theorem jmtT_78 : jmtP ((15, 70), (0, 54, 0, 7)) := ⟨Or.inl (jmw 699 (by decide +kernel) (by decide +kernel)), jMw_X5_thrown, fun _ => jM0_X5_thrown, fun h => absurd h (by decide), fun h => absurd h (by decide)⟩
theorem jmtT_79 : jmtP ((15, 73), (0, 21, 0, 6)) := ⟨Or.inl (jmw 488 (by decide +kernel) (by decide +kernel)), jMw_X4_lines, fun _ => jM0_X4_lines, fun h => absurd h (by decide), fun h => absurd h (by decide)⟩
theorem jmtT_80 : jmtP ((15, 76), (0, 86, 0, 7)) := ⟨Or.inl (jmw 827 (by decide +kernel) (by decide +kernel)), jMw_X5_lines, fun _ => jM0_X5_lines, fun h => absurd h (by decide), fun h => absurd h (by decide)⟩
theorem jmtT_81 : jmtP ((15, 77), (0, 22, 1, 6)) := ⟨Or.inl (jmw 492 (by decide +kernel) (by decide +kernel)), jMw_X4_total, fun _ => jM0_X4_total, fun h => absurd h (by decide), fun h => absurd h (by decide)⟩
theorem jmtT_82 : jmtP ((15, 81), (0, 87, 1, 7)) := ⟨Or.inl (jmw 831 (by decide +kernel) (by decide +kernel)), jMw_X5_total, fun _ => jM0_X5_total, fun h => absurd h (by decide), fun h => absurd h (by decide)⟩
theorem jmtT_83 : jmtP ((15, 82), (0, 23, 1, 6)) := ⟨Or.inl (jmw 496 (by decide +kernel) (by decide +kernel)), jMw_X4_counter, fun _ => jM0_X4_counter, fun h => absurd h (by decide), fun h => absurd h (by decide)⟩
theorem jmtT_84 : jmtP ((15, 85), (0, 88, 1, 7)) := ⟨Or.inl (jmw 835 (by decide +kernel) (by decide +kernel)), jMw_X5_counter, fun _ => jM0_X5_counter, fun h => absurd h (by decide), fun h => absurd h (by decide)⟩
theorem jmtT_85 : jmtP ((15, 86), (0, 24, 1, 6)) := ⟨Or.inl (jmw 500 (by decide +kernel) (by decide +kernel)), jMw_X4_suppress, fun _ => jM0_X4_suppress, fun h => absurd h (by decide), fun h => absurd h (by decide)⟩
theorem jmtT_86 : jmtP ((15, 89), (0, 65, 1, 7)) := ⟨Or.inl (jmw 743 (by decide +kernel) (by decide +kernel)), jMw_X5_suppress, fun _ => jM0_X5_suppress, fun h => absurd h (by decide), fun h => absurd h (by decide)⟩
theorem jmtT_87 : jmtP ((15, 90), (0, 25, 1, 6)) := ⟨Or.inl (jmw 504 (by decide +kernel) (by decide +kernel)), jMw_X4_indicate, fun _ => jM0_X4_indicate, fun h => absurd h (by decide), fun h => absurd h (by decide)⟩
theorem jmtT_88 : jmtP ((15, 93), (0, 66, 1, 7)) := ⟨Or.inl (jmw 747 (by decide +kernel) (by decide +kernel)), jMw_X5_indicate, fun _ => jM0_X5_indicate, fun h => absurd h (by decide), fun h => absurd h (by decide)⟩
theorem jmtT_89 : jmtP ((5, 78), (0, 55, 1, 7)) := ⟨Or.inl (jmw 715 (by decide +kernel) (by decide +kernel)), jMw_X5_isGroup, fun _ => jM0_X5_isGroup, fun h => absurd h (by decide), fun h => absurd h (by decide)⟩
theorem jmtT_90 : jmtP ((5, 89), (0, 57, 2, 7)) := ⟨Or.inl (jmw 707 (by decide +kernel) (by decide +kernel)), jMw_X5_find, fun _ => jM0_X5_find, fun h => absurd h (by decide), fun h => absurd h (by decide)⟩
theorem jmtT_91 : jmtP ((5, 93), (0, 59, 3, 7)) := ⟨Or.inl (jmw 719 (by decide +kernel) (by decide +kernel)), jMw_X5_fits, fun _ => jM0_X5_fits, fun h => absurd h (by decide), fun h => absurd h (by decide)⟩
theorem jmtT_92 : jmtP ((5, 97), (0, 56, 1, 7)) := ⟨Or.inl (jmw 731 (by decide +kernel) (by decide +kernel)), jMw_X5_isDetail, fun _ => jM0_X5_isDetail, fun h => absurd h (by decide), fun h => absurd h (by decide)⟩
theorem jmtT_93 : jmtP ((5, 103), (0, 61, 2, 7)) := ⟨Or.inl (jmw 727 (by decide +kernel) (by decide +kernel)), jMw_X5_isOf, fun _ => jM0_X5_isOf, fun h => absurd h (by decide), fun h => absurd h (by decide)⟩
theorem jmtT_94 : jmtP ((5, 116), (0, 67, 4, 7)) := ⟨Or.inl (jmw 779 (by decide +kernel) (by decide +kernel)), jMw_X5_put, fun _ => jM0_X5_put, fun h => absurd h (by decide), fun h => absurd h (by decide)⟩
theorem jmtT_95 : jmtP ((5, 120), (0, 69, 3, 7)) := ⟨Or.inl (jmw 775 (by decide +kernel) (by decide +kernel)), jMw_X5_putAll, fun _ => jM0_X5_putAll, fun h => absurd h (by decide), fun h => absurd h (by decide)⟩
theorem jmtT_96 : jmtP ((5, 124), (0, 68, 1, 7)) := ⟨Or.inl (jmw 767 (by decide +kernel) (by decide +kernel)), jMw_X5_isOn, fun _ => jM0_X5_isOn, fun h => absurd h (by decide), fun h => absurd h (by decide)⟩
theorem jmtT_97 : jmtP ((5, 127), (0, 70, 3, 7)) := ⟨Or.inl (jmw 771 (by decide +kernel) (by decide +kernel)), jMw_X5_putFrom, fun _ => jM0_X5_putFrom, fun h => absurd h (by decide), fun h => absurd h (by decide)⟩
theorem jmtT_98 : jmtP ((5, 133), (0, 74, 0, 7)) := ⟨Or.inl (jmw 755 (by decide +kernel) (by decide +kernel)), jMw_X5_fresh, fun _ => jM0_X5_fresh, fun h => absurd h (by decide), fun h => absurd h (by decide)⟩
theorem jmtT_99 : jmtP ((5, 136), (0, 75, 1, 7)) := ⟨Or.inl (jmw 795 (by decide +kernel) (by decide +kernel)), jMw_X5_top, fun _ => jM0_X5_top, fun h => absurd h (by decide), fun h => absurd h (by decide)⟩
theorem jmtT_100 : jmtP ((5, 140), (0, 73, 0, 7)) := ⟨Or.inl (jmw 799 (by decide +kernel) (by decide +kernel)), jMw_X5_over, fun _ => jM0_X5_over, fun h => absurd h (by decide), fun h => absurd h (by decide)⟩
theorem jmtT_101 : jmtP ((5, 143), (0, 72, 0, 7)) := ⟨Or.inl (jmw 783 (by decide +kernel) (by decide +kernel)), jMw_X5_begin, fun _ => jM0_X5_begin, fun h => absurd h (by decide), fun h => absurd h (by decide)⟩
theorem jmtT_102 : jmtP ((5, 146), (0, 76, 2, 7)) := ⟨Or.inl (jmw 791 (by decide +kernel) (by decide +kernel)), jMw_X5_inBody, fun _ => jM0_X5_inBody, fun h => absurd h (by decide), fun h => absurd h (by decide)⟩
theorem jmtT_103 : jmtP ((5, 150), (0, 78, 1, 7)) := ⟨Or.inl (jmw 811 (by decide +kernel) (by decide +kernel)), jMw_X5_firstSum, fun _ => jM0_X5_firstSum, fun h => absurd h (by decide), fun h => absurd h (by decide)⟩
theorem jmtT_104 : jmtP ((5, 159), (0, 71, 1, 7)) := ⟨Or.inl (jmw 763 (by decide +kernel) (by decide +kernel)), jMw_X5_alone, fun _ => jM0_X5_alone, fun h => absurd h (by decide), fun h => absurd h (by decide)⟩
theorem jmtT_105 : jmtP ((5, 163), (0, 77, 1, 7)) := ⟨Or.inl (jmw 787 (by decide +kernel) (by decide +kernel)), jMw_X5_head, fun _ => jM0_X5_head, fun h => absurd h (by decide), fun h => absurd h (by decide)⟩
theorem jmtT_106 : jmtP ((5, 166), (0, 82, 0, 7)) := ⟨Or.inl (jmw 803 (by decide +kernel) (by decide +kernel)), jMw_X5_changed, fun _ => jM0_X5_changed, fun h => absurd h (by decide), fun h => absurd h (by decide)⟩
theorem jmtT_107 : jmtP ((5, 170), (0, 79, 1, 7)) := ⟨Or.inl (jmw 807 (by decide +kernel) (by decide +kernel)), jMw_X5_foot, fun _ => jM0_X5_foot, fun h => absurd h (by decide), fun h => absurd h (by decide)⟩
theorem jmtT_108 : jmtP ((5, 172), (0, 80, 0, 7)) := ⟨Or.inl (jmw 815 (by decide +kernel) (by decide +kernel)), jMw_X5_keep, fun _ => jM0_X5_keep, fun h => absurd h (by decide), fun h => absurd h (by decide)⟩
theorem jmtT_109 : jmtP ((10, 69), (0, 95, 1, 1)) := ⟨Or.inl (jmw 267 (by decide +kernel) (by decide +kernel)), jMw_Jx4a65c_grow_92f84, fun _ => jM0_Jx4a65c_grow_92f84, fun h => absurd h (by decide), fun h => absurd h (by decide)⟩
theorem jmtT_110 : jmtP ((10, 123), (0, 98, 1, 1)) := ⟨Or.inl (jmw 204 (by decide +kernel) (by decide +kernel)), jMw_Jx4a65c_elementData_915e3, fun _ => jM0_Jx4a65c_elementData_915e3, fun h => absurd h (by decide), fun h => absurd h (by decide)⟩
theorem jmtT_111 : jmtP ((10, 129), (0, 96, 0, 1)) := ⟨Or.inl (jmw 263 (by decide +kernel) (by decide +kernel)), jMw_Jx4a65c_grow_d5877, fun _ => jM0_Jx4a65c_grow_d5877, fun h => absurd h (by decide), fun h => absurd h (by decide)⟩
theorem jmtT_112 : jmtP ((10, 131), (0, 100, 3, 1)) := ⟨Or.inl (jmw 259 (by decide +kernel) (by decide +kernel)), jMw_Jx4a65c_add_72be8, fun _ => jM0_Jx4a65c_add_72be8, fun h => absurd h (by decide), fun h => absurd h (by decide)⟩
theorem jmtT_ok : ∀ x ∈ jmtT, jmtP x := List.forall_mem_cons.mpr ⟨jmtT_0, List.forall_mem_cons.mpr ⟨jmtT_1, List.forall_mem_cons.mpr ⟨jmtT_2, List.forall_mem_cons.mpr ⟨jmtT_3, List.forall_mem_cons.mpr ⟨jmtT_4, List.forall_mem_cons.mpr ⟨jmtT_5, List.forall_mem_cons.mpr ⟨jmtT_6, List.forall_mem_cons.mpr ⟨jmtT_7, List.forall_mem_cons.mpr ⟨jmtT_8, List.forall_mem_cons.mpr ⟨jmtT_9, List.forall_mem_cons.mpr ⟨jmtT_10, List.forall_mem_cons.mpr ⟨jmtT_11, List.forall_mem_cons.mpr ⟨jmtT_12, List.forall_mem_cons.mpr ⟨jmtT_13, List.forall_mem_cons.mpr ⟨jmtT_14, List.forall_mem_cons.mpr ⟨jmtT_15, List.forall_mem_cons.mpr ⟨jmtT_16, List.forall_mem_cons.mpr ⟨jmtT_17, List.forall_mem_cons.mpr ⟨jmtT_18, List.forall_mem_cons.mpr ⟨jmtT_19, List.forall_mem_cons.mpr ⟨jmtT_20, List.forall_mem_cons.mpr ⟨jmtT_21, List.forall_mem_cons.mpr ⟨jmtT_22, List.forall_mem_cons.mpr ⟨jmtT_23, List.forall_mem_cons.mpr ⟨jmtT_24, List.forall_mem_cons.mpr ⟨jmtT_25, List.forall_mem_cons.mpr ⟨jmtT_26, List.forall_mem_cons.mpr ⟨jmtT_27, List.forall_mem_cons.mpr ⟨jmtT_28, List.forall_mem_cons.mpr ⟨jmtT_29, List.forall_mem_cons.mpr ⟨jmtT_30, List.forall_mem_cons.mpr ⟨jmtT_31, List.forall_mem_cons.mpr ⟨jmtT_32, List.forall_mem_cons.mpr ⟨jmtT_33, List.forall_mem_cons.mpr ⟨jmtT_34, List.forall_mem_cons.mpr ⟨jmtT_35, List.forall_mem_cons.mpr ⟨jmtT_36, List.forall_mem_cons.mpr ⟨jmtT_37, List.forall_mem_cons.mpr ⟨jmtT_38, List.forall_mem_cons.mpr ⟨jmtT_39, List.forall_mem_cons.mpr ⟨jmtT_40, List.forall_mem_cons.mpr ⟨jmtT_41, List.forall_mem_cons.mpr ⟨jmtT_42, List.forall_mem_cons.mpr ⟨jmtT_43, List.forall_mem_cons.mpr ⟨jmtT_44, List.forall_mem_cons.mpr ⟨jmtT_45, List.forall_mem_cons.mpr ⟨jmtT_46, List.forall_mem_cons.mpr ⟨jmtT_47, List.forall_mem_cons.mpr ⟨jmtT_48, List.forall_mem_cons.mpr ⟨jmtT_49, List.forall_mem_cons.mpr ⟨jmtT_50, List.forall_mem_cons.mpr ⟨jmtT_51, List.forall_mem_cons.mpr ⟨jmtT_52, List.forall_mem_cons.mpr ⟨jmtT_53, List.forall_mem_cons.mpr ⟨jmtT_54, List.forall_mem_cons.mpr ⟨jmtT_55, List.forall_mem_cons.mpr ⟨jmtT_56, List.forall_mem_cons.mpr ⟨jmtT_57, List.forall_mem_cons.mpr ⟨jmtT_58, List.forall_mem_cons.mpr ⟨jmtT_59, List.forall_mem_cons.mpr ⟨jmtT_60, List.forall_mem_cons.mpr ⟨jmtT_61, List.forall_mem_cons.mpr ⟨jmtT_62, List.forall_mem_cons.mpr ⟨jmtT_63, List.forall_mem_cons.mpr ⟨jmtT_64, List.forall_mem_cons.mpr ⟨jmtT_65, List.forall_mem_cons.mpr ⟨jmtT_66, List.forall_mem_cons.mpr ⟨jmtT_67, List.forall_mem_cons.mpr ⟨jmtT_68, List.forall_mem_cons.mpr ⟨jmtT_69, List.forall_mem_cons.mpr ⟨jmtT_70, List.forall_mem_cons.mpr ⟨jmtT_71, List.forall_mem_cons.mpr ⟨jmtT_72, List.forall_mem_cons.mpr ⟨jmtT_73, List.forall_mem_cons.mpr ⟨jmtT_74, List.forall_mem_cons.mpr ⟨jmtT_75, List.forall_mem_cons.mpr ⟨jmtT_76, List.forall_mem_cons.mpr ⟨jmtT_77, List.forall_mem_cons.mpr ⟨jmtT_78, List.forall_mem_cons.mpr ⟨jmtT_79, List.forall_mem_cons.mpr ⟨jmtT_80, List.forall_mem_cons.mpr ⟨jmtT_81, List.forall_mem_cons.mpr ⟨jmtT_82, List.forall_mem_cons.mpr ⟨jmtT_83, List.forall_mem_cons.mpr ⟨jmtT_84, List.forall_mem_cons.mpr ⟨jmtT_85, List.forall_mem_cons.mpr ⟨jmtT_86, List.forall_mem_cons.mpr ⟨jmtT_87, List.forall_mem_cons.mpr ⟨jmtT_88, List.forall_mem_cons.mpr ⟨jmtT_89, List.forall_mem_cons.mpr ⟨jmtT_90, List.forall_mem_cons.mpr ⟨jmtT_91, List.forall_mem_cons.mpr ⟨jmtT_92, List.forall_mem_cons.mpr ⟨jmtT_93, List.forall_mem_cons.mpr ⟨jmtT_94, List.forall_mem_cons.mpr ⟨jmtT_95, List.forall_mem_cons.mpr ⟨jmtT_96, List.forall_mem_cons.mpr ⟨jmtT_97, List.forall_mem_cons.mpr ⟨jmtT_98, List.forall_mem_cons.mpr ⟨jmtT_99, List.forall_mem_cons.mpr ⟨jmtT_100, List.forall_mem_cons.mpr ⟨jmtT_101, List.forall_mem_cons.mpr ⟨jmtT_102, List.forall_mem_cons.mpr ⟨jmtT_103, List.forall_mem_cons.mpr ⟨jmtT_104, List.forall_mem_cons.mpr ⟨jmtT_105, List.forall_mem_cons.mpr ⟨jmtT_106, List.forall_mem_cons.mpr ⟨jmtT_107, List.forall_mem_cons.mpr ⟨jmtT_108, List.forall_mem_cons.mpr ⟨jmtT_109, List.forall_mem_cons.mpr ⟨jmtT_110, List.forall_mem_cons.mpr ⟨jmtT_111, List.forall_mem_cons.mpr ⟨jmtT_112, fun _ h => absurd h List.not_mem_nil⟩⟩⟩⟩⟩⟩⟩⟩⟩⟩⟩⟩⟩⟩⟩⟩⟩⟩⟩⟩⟩⟩⟩⟩⟩⟩⟩⟩⟩⟩⟩⟩⟩⟩⟩⟩⟩⟩⟩⟩⟩⟩⟩⟩⟩⟩⟩⟩⟩⟩⟩⟩⟩⟩⟩⟩⟩⟩⟩⟩⟩⟩⟩⟩⟩⟩⟩⟩⟩⟩⟩⟩⟩⟩⟩⟩⟩⟩⟩⟩⟩⟩⟩⟩⟩⟩⟩⟩⟩⟩⟩⟩⟩⟩⟩⟩⟩⟩⟩⟩⟩⟩⟩⟩⟩⟩⟩⟩⟩⟩⟩⟩⟩
theorem jmt_own {μ idx : Nat} {a : (Nat × Nat × Nat × Nat)} (h : jlk jmtT (jow μ) idx = some a) : jmtP ((jow μ, idx), a) := jmtT_ok _ (jlk_mem h)
def jmt (o i : Nat) : Option (Nat × Nat × Nat × Nat) := jlk jmtT o i
theorem jmt_ok {μ idx mode μ' n κ : Nat} (h : jmt (jow μ) idx = some (mode, μ', n, κ)) : (Cond.methodLink (jy μ).cls idx (jy μ') ∈ jwords ∨ ∃ host : String, Cond.methodLinkNest (jy μ).cls idx (jy μ') host ∈ jwords) ∧ jMw μ' n ∧ (mode = 0 → jM0 μ' κ) ∧ (mode = 1 → jM1 μ') ∧ (mode = 2 → jM2 μ') := by
  rw [jow_of h (by decide +kernel)]
  exact jmt_own h
end
section
/-! THE PURE MACHINE (draft, never compiled yet). Memory: (top, slots used, tags, values). tags a = some (κ, n): the cell at a is of kind κ (κ < 50: object of class number κ, n fields; κ ≥ 50: an array of kind κ, n elements). values κ k a: field (element) k of the cell a of kind κ. Tables of the program (jcode, jown, jmaxl, jret, jfl, jnw, jan, jmt, jnat, jsg, jldc, jck, jfn, jft, jdv): part 01b. -/
abbrev jG : Type := Nat → Option (Nat × Nat)
abbrev jV : Type := Nat → Nat → Nat → Value
abbrev jM : Type := Nat × Nat × jG × jV
abbrev jL : Type := List (Option Value)
abbrev jF : Type := Nat × Nat × jL × List Value
abbrev jS : Type := (Nat × jF × jM) ⊕ (Option Value ⊕ (jF × jF))
def jset (V : jV) (κ k a : Nat) (v : Value) : jV := fun κ' k' a' => if κ' = κ ∧ k' = k ∧ a' = a then v else V κ' k' a'
/-- the whole cell a of kind κ becomes f -/
def jput (V : jV) (κ a : Nat) (f : Nat → Value) : jV := fun κ' k' a' => if κ' = κ ∧ a' = a then f k' else V κ' k' a'
theorem jset_ap (V : jV) (κ k a : Nat) (v : Value) (κ' k' a' : Nat) : jset V κ k a v κ' k' a' = if κ' = κ ∧ k' = k ∧ a' = a then v else V κ' k' a' := rfl
theorem jput_ap (V : jV) (κ a : Nat) (f : Nat → Value) (κ' k' a' : Nat) : jput V κ a f κ' k' a' = if κ' = κ ∧ a' = a then f k' else V κ' k' a' := rfl
-- ===== locals =====
def jwide (o : Option (Option Value)) : Bool := match o with
  | some (some v) => v.category == 2
  | _ => false
/-- the slot ahead of i holds no live long -/
def jfree (L : jL) (i : Nat) : Bool := match i with
  | 0 => true
  | j + 1 => !jwide (L[j]?)
def jst1 (L : jL) (i : Nat) (v : Value) : Option jL := if decide (i < L.length) && jfree L i then some (L.set i (some v)) else none
def jst2 (L : jL) (i : Nat) (v : Value) : Option jL := if decide (i + 1 < L.length) && jfree L i then some ((L.set i (some v)).set (i + 1) none) else none
def jp : Nat → jL → List (Nat × Value)
  | _, [] => []
  | i, none :: r => jp (i + 1) r
  | i, some v :: r => (i, v) :: jp (i + 1) r
theorem jp_mem : ∀ (L : jL) (k : Nat) (q : Nat × Value), q ∈ jp k L ↔ ∃ j, L[j]? = some (some q.2) ∧ q.1 = k + j := by
  intro L
  induction L with
  | nil => intro k q; simp [jp]
  | cons o r ih =>
    intro k q
    cases o with
    | none =>
      rw [jp, ih]
      constructor
      · rintro ⟨j, h1, h2⟩
        exact ⟨j + 1, by simpa using h1, by omega⟩
      · rintro ⟨j, h1, h2⟩
        cases j with
        | zero => simp at h1
        | succ j => exact ⟨j, by simpa using h1, by omega⟩
    | some v =>
      rw [jp, List.mem_cons, ih]
      constructor
      · rintro (h | ⟨j, h1, h2⟩)
        · subst h
          exact ⟨0, by simp, by simp⟩
        · exact ⟨j + 1, by simpa using h1, by omega⟩
      · rintro ⟨j, h1, h2⟩
        cases j with
        | zero =>
          left
          obtain ⟨a, b⟩ := q
          simp at h1 h2
          subst h1 h2
          rfl
        | succ j => exact Or.inr ⟨j, by simpa using h1, by omega⟩
def jlv (ls : Array Slot) (n : Nat) (L : jL) : Prop := L.length = n ∧ lv_has ls n (jp 0 L)
theorem jlv_at {ls : Array Slot} {n : Nat} {L : jL} (h : jlv ls n L) {i : Nat} {v : Value} (hi : L[i]? = some (some v)) : ls[i]? = some (.val v) :=
  h.2.2.2 (i, v) ((jp_mem L 0 (i, v)).mpr ⟨i, hi, by simp⟩)
theorem jlv_st1 {ls ls' : Array Slot} {n i : Nat} {L L' : jL} {v : Value} (hL : jlv ls n L) (h : jst1 L i v = some L') (h2 : lv_has ls' n ((i, v) :: (jp 0 L).filter (fun q => !(q.1 == i) && !(q.1 + 1 == i && q.2.category == 2)))) : jlv ls' n L' := by
  unfold jst1 at h
  split at h
  · rename_i hc
    cases h
    simp only [Bool.and_eq_true, decide_eq_true_eq] at hc
    refine ⟨by rw [List.length_set]; exact hL.1, h2.1, h2.2.1, fun q hq => ?_⟩
    obtain ⟨j, hj, e⟩ := (jp_mem _ 0 q).mp hq
    rw [Nat.zero_add] at e
    by_cases hji : j = i
    · subst hji
      rw [List.getElem?_set_self hc.1] at hj
      simp only [Option.some.injEq] at hj
      have := h2.2.2 (j, v) List.mem_cons_self
      rw [e, ← hj]
      exact this
    · rw [List.getElem?_set_ne (Ne.symm hji)] at hj
      refine h2.2.2 q (List.mem_cons_of_mem _ (List.mem_filter.mpr ⟨(jp_mem L 0 q).mpr ⟨j, hj, by rw [Nat.zero_add]; exact e⟩, ?_⟩))
      have hne : (q.1 == i) = false := by rw [e]; simpa using hji
      rw [hne]
      by_cases hw : q.1 + 1 = i
      · have hf := hc.2
        rw [← hw, e] at hf
        simp only [jfree, hj, jwide] at hf
        simp only [hw, beq_self_eq_true, Bool.true_and, Bool.not_false]
        exact hf
      · have hne2 : (q.1 + 1 == i) = false := by simpa using hw
        rw [hne2]
        rfl
  · cases h
theorem jlv_st2 {ls ls' : Array Slot} {n i : Nat} {L L' : jL} {v : Value} (hL : jlv ls n L) (h : jst2 L i v = some L') (h2 : lv_has ls' n ((i, v) :: (jp 0 L).filter (fun q => !(q.1 == i) && (!(q.1 == i + 1) && !(q.1 + 1 == i && q.2.category == 2))))) : jlv ls' n L' := by
  unfold jst2 at h
  split at h
  · rename_i hc
    cases h
    simp only [Bool.and_eq_true, decide_eq_true_eq] at hc
    refine ⟨by rw [List.length_set, List.length_set]; exact hL.1, h2.1, h2.2.1, fun q hq => ?_⟩
    obtain ⟨j, hj, e⟩ := (jp_mem _ 0 q).mp hq
    rw [Nat.zero_add] at e
    by_cases hj1 : j = i + 1
    · subst hj1
      rw [List.getElem?_set_self (by rw [List.length_set]; exact hc.1)] at hj
      simp at hj
    · rw [List.getElem?_set_ne (Ne.symm hj1)] at hj
      by_cases hji : j = i
      · subst hji
        rw [List.getElem?_set_self (by omega)] at hj
        simp only [Option.some.injEq] at hj
        have := h2.2.2 (j, v) List.mem_cons_self
        rw [e, ← hj]
        exact this
      · rw [List.getElem?_set_ne (Ne.symm hji)] at hj
        refine h2.2.2 q (List.mem_cons_of_mem _ (List.mem_filter.mpr ⟨(jp_mem L 0 q).mpr ⟨j, hj, by rw [Nat.zero_add]; exact e⟩, ?_⟩))
        have hne : (q.1 == i) = false := by rw [e]; simpa using hji
        have hne1 : (q.1 == i + 1) = false := by rw [e]; simpa using hj1
        rw [hne, hne1]
        by_cases hw : q.1 + 1 = i
        · have hf := hc.2
          rw [← hw, e] at hf
          simp only [jfree, hj, jwide] at hf
          simp only [hw, beq_self_eq_true, Bool.true_and, Bool.not_false]
          exact hf
        · have hne2 : (q.1 + 1 == i) = false := by simpa using hw
          rw [hne2]
          rfl
  · cases h
theorem jst1_lt {L L' : jL} {i : Nat} {v : Value} (h : jst1 L i v = some L') : i < L.length := by
  unfold jst1 at h
  split at h
  · rename_i hc
    simp only [Bool.and_eq_true, decide_eq_true_eq] at hc
    exact hc.1
  · cases h
theorem jst2_lt {L L' : jL} {i : Nat} {v : Value} (h : jst2 L i v = some L') : i + 1 < L.length := by
  unfold jst2 at h
  split at h
  · rename_i hc
    simp only [Bool.and_eq_true, decide_eq_true_eq] at hc
    exact hc.1
  · cases h
/-- a method's first locals: its arguments, a long one taking two places -/
def jarg : List Value → jL
  | [] => []
  | v :: r => if v.category = 2 then some v :: none :: jarg r else some v :: jarg r
def jent (n : Nat) (as : List Value) : jL := jarg as ++ List.replicate (n - (jarg as).length) none
theorem jp_rep : ∀ (c k : Nat), jp k (List.replicate c (none : Option Value)) = [] := by
  intro c
  induction c with
  | zero => intro k; rfl
  | succ c ih => intro k; rw [List.replicate_succ, jp, ih]
theorem jp_arg : ∀ (vs : List Value) (k c : Nat), jp k (jarg vs ++ List.replicate c (none : Option Value)) = lv_args k vs := by
  intro vs
  induction vs with
  | nil => intro k c; exact jp_rep c k
  | cons v vs ih =>
    intro k c
    by_cases h : v.category = 2
    · simp only [jarg, h, if_true, List.cons_append, jp, lv_args, ih]
    · simp only [jarg, h, if_false, List.cons_append, jp, lv_args, ih]
theorem jarg_len : ∀ vs : List Value, (jarg vs).length = (lg_sl vs).length := by
  intro vs
  induction vs with
  | nil => rfl
  | cons v vs ih =>
    by_cases h : v.category = 2
    · simp only [jarg, h, if_true, List.length_cons, ih, lg_sl, List.flatMap_cons, List.length_append, List.length_nil]
      omega
    · simp only [jarg, h, if_false, List.length_cons, ih, lg_sl, List.flatMap_cons, List.length_append, List.length_nil]
      omega
theorem jlv_entry {vs : List Value} {n : Nat} (h : (jarg vs).length ≤ n) : jlv ((lg_sl vs ++ List.replicate (n - (lg_sl vs).length) Slot.unset).toArray) n (jent n vs) := by
  refine ⟨by unfold jent; rw [List.length_append, List.length_replicate]; omega, ?_⟩
  unfold jent
  rw [jp_arg]
  exact lv_entry vs (by rw [← jarg_len]; exact h)
end
section
def jgI (L : jL) (k : Nat) : Option Int32 := match L[k]? with
  | some (some (.int x)) => some x
  | _ => none
def jgL (L : jL) (k : Nat) : Option Int64 := match L[k]? with
  | some (some (.long x)) => some x
  | _ => none
/-- a reference: none for null -/
def jgA (L : jL) (k : Nat) : Option (Option Nat) := match L[k]? with
  | some (some (.ref x)) => some (some x)
  | some (some .null) => some none
  | _ => none
theorem jgI_at {L : jL} {k : Nat} {x : Int32} (h : jgI L k = some x) : L[k]? = some (some (.int x)) := by
  unfold jgI at h
  split at h
  · rename_i hx; cases h; exact hx
  · cases h
theorem jgL_at {L : jL} {k : Nat} {x : Int64} (h : jgL L k = some x) : L[k]? = some (some (.long x)) := by
  unfold jgL at h
  split at h
  · rename_i hx; cases h; exact hx
  · cases h
theorem jgA_at {L : jL} {k : Nat} {r : Option Nat} (h : jgA L k = some r) : L[k]? = some (some (va_rf r)) := by
  unfold jgA at h
  split at h
  · rename_i hx; cases h; exact hx
  · rename_i hx; cases h; exact hx
  · cases h
def jpure (i : ClassFile.Instr) (L : jL) (st : List Value) : Option (Nat × jL × List Value) := match i with
  | .iconst n => some (1, L, .int (Int32.ofInt n) :: st)
  | .bipush n => some (2, L, .int (Int8.ofInt n).toInt32 :: st)
  | .sipush n => some (3, L, .int (Int16.ofInt n).toInt32 :: st)
  | .lconst n => some (1, L, .long (Int64.ofNat n.val) :: st)
  | .aconst_null => some (1, L, .null :: st)
  | .iload k => (jgI L k).map fun x => (2, L, .int x :: st)
  | .iload_n k => (jgI L k.val).map fun x => (1, L, .int x :: st)
  | .lload k => (jgL L k).map fun x => (2, L, .long x :: st)
  | .lload_n k => (jgL L k.val).map fun x => (1, L, .long x :: st)
  | .aload k => (jgA L k).map fun x => (2, L, va_rf x :: st)
  | .aload_n k => (jgA L k.val).map fun x => (1, L, va_rf x :: st)
  | .istore k => match st with
    | .int x :: r => (jst1 L k (.int x)).map fun L' => (2, L', r)
    | _ => none
  | .istore_n k => match st with
    | .int x :: r => (jst1 L k.val (.int x)).map fun L' => (1, L', r)
    | _ => none
  | .lstore k => match st with
    | .long x :: r => (jst2 L k (.long x)).map fun L' => (2, L', r)
    | _ => none
  | .lstore_n k => match st with
    | .long x :: r => (jst2 L k.val (.long x)).map fun L' => (1, L', r)
    | _ => none
  | .astore k => match st with
    | .ref x :: r => (jst1 L k (.ref x)).map fun L' => (2, L', r)
    | .null :: r => (jst1 L k .null).map fun L' => (2, L', r)
    | _ => none
  | .astore_n k => match st with
    | .ref x :: r => (jst1 L k.val (.ref x)).map fun L' => (1, L', r)
    | .null :: r => (jst1 L k.val .null).map fun L' => (1, L', r)
    | _ => none
  | .iinc k n => (jgI L k).bind fun x => (jst1 L k (.int (x + Int32.ofInt n))).map fun L' => (3, L', st)
  | .iadd => match st with
    | .int y :: .int x :: r => some (1, L, .int (x + y) :: r)
    | _ => none
  | .isub => match st with
    | .int y :: .int x :: r => some (1, L, .int (x - y) :: r)
    | _ => none
  | .imul => match st with
    | .int y :: .int x :: r => some (1, L, .int (x * y) :: r)
    | _ => none
  | .iand => match st with
    | .int y :: .int x :: r => some (1, L, .int (x &&& y) :: r)
    | _ => none
  | .ior => match st with
    | .int y :: .int x :: r => some (1, L, .int (x ||| y) :: r)
    | _ => none
  | .ixor => match st with
    | .int y :: .int x :: r => some (1, L, .int (x ^^^ y) :: r)
    | _ => none
  | .ishl => match st with
    | .int y :: .int x :: r => some (1, L, .int (x <<< (y &&& 31)) :: r)
    | _ => none
  | .ishr => match st with
    | .int y :: .int x :: r => some (1, L, .int (x >>> (y &&& 31)) :: r)
    | _ => none
  | .iushr => match st with
    | .int y :: .int x :: r => some (1, L, .int (x.toUInt32 >>> (y.toUInt32 &&& Int32.toUInt32 31)).toInt32 :: r)
    | _ => none
  | .idiv => match st with
    | .int y :: .int x :: r => if y = 0 then none else some (1, L, .int (x / y) :: r)
    | _ => none
  | .irem => match st with
    | .int y :: .int x :: r => if y = 0 then none else some (1, L, .int (x - x / y * y) :: r)
    | _ => none
  | .ladd => match st with
    | .long y :: .long x :: r => some (1, L, .long (x + y) :: r)
    | _ => none
  | .lsub => match st with
    | .long y :: .long x :: r => some (1, L, .long (x - y) :: r)
    | _ => none
  | .lmul => match st with
    | .long y :: .long x :: r => some (1, L, .long (x * y) :: r)
    | _ => none
  | .land => match st with
    | .long y :: .long x :: r => some (1, L, .long (x &&& y) :: r)
    | _ => none
  | .lor => match st with
    | .long y :: .long x :: r => some (1, L, .long (x ||| y) :: r)
    | _ => none
  | .lxor => match st with
    | .long y :: .long x :: r => some (1, L, .long (x ^^^ y) :: r)
    | _ => none
  | .lshl => match st with
    | .int y :: .long x :: r => some (1, L, .long (x <<< (y.toInt64 &&& 63)) :: r)
    | _ => none
  | .lcmp => match st with
    | .long y :: .long x :: r => some (1, L, .int (lg_cmp x y) :: r)
    | _ => none
  | .ineg => match st with
    | .int x :: r => some (1, L, .int (-x) :: r)
    | _ => none
  | .lneg => match st with
    | .long x :: r => some (1, L, .long (-x) :: r)
    | _ => none
  | .i2l => match st with
    | .int x :: r => some (1, L, .long x.toInt64 :: r)
    | _ => none
  | .l2i => match st with
    | .long x :: r => some (1, L, .int x.toInt32 :: r)
    | _ => none
  | .i2b => match st with
    | .int x :: r => some (1, L, .int x.toInt8.toInt32 :: r)
    | _ => none
  | .dup => match st with
    | v :: r => if v.category = 1 then some (1, L, v :: v :: r) else none
    | _ => none
  | .pop => match st with
    | v :: r => if v.category = 1 then some (1, L, r) else none
    | _ => none
  | .dup_x1 => match st with
    | v :: w :: r => if v.category = 1 ∧ w.category = 1 then some (1, L, v :: w :: v :: r) else none
    | _ => none
  | .dup_x2 => match st with
    | v :: w :: z :: r => if v.category = 1 ∧ w.category = 1 ∧ z.category = 1 then some (1, L, v :: w :: z :: v :: r) else none
    | _ => none
  | .dup2 => match st with
    | v :: w :: r => if v.category = 1 ∧ w.category = 1 then some (1, L, v :: w :: v :: w :: r) else none
    | _ => none
  | _ => none
set_option maxHeartbeats 4000000 in
theorem jpure_sound {p : Program} {l : Launch} {e : Env} {R : Room} {s : State} {m : MethodId} {args : Array Value} {below : List Frame} {meth : Method} {c : Code} {H : Heap} {locs : List Loc} {cells slots : Nat} {Q : State → Prop} {cc : ByteArray} {pc n len : Nat} {ls : Array Slot} {L L' : jL} {st st' : List Value} {i : ClassFile.Instr} (hx : p.tables.exec = Jvm.exec) (hb : c.code = cc) (hd : decode cc pc = .ok (i, len)) (h : jpure i L st = some (len, L', st')) (hl : jlv ls n L) (kk : ∀ ls' : Array Slot, jlv ls' n L' → W p l e R s m args below meth c H locs cells slots Q (F0 m (pc + len) ls' st')) : W p l e R s m args below meth c H locs cells slots Q (F0 m pc ls st) := by
  unfold jpure at h
  split at h
  · -- .iconst n
    cases h
    exact lv_iconst hx hb hd rfl (kk _ hl)
  · -- .bipush n
    cases h
    exact lv_bipush hx hb hd rfl (kk _ hl)
  · -- .sipush n
    cases h
    exact lv_sipush hx hb hd rfl (kk _ hl)
  · -- .lconst n
    cases h
    exact lv_lconst hx hb hd rfl (kk _ hl)
  · -- .aconst_null
    cases h
    exact lv_null hx hb hd (kk _ hl)
  · -- .iload k
    obtain ⟨x, hv, e⟩ := Option.map_eq_some_iff.mp h
    have hv := jgI_at hv
    cases e
    exact lv_iload hx hb hd (jlv_at hl hv) (kk _ hl)
  · -- .iload_n k
    obtain ⟨x, hv, e⟩ := Option.map_eq_some_iff.mp h
    have hv := jgI_at hv
    cases e
    exact lv_iload_n hx hb hd rfl (jlv_at hl hv) (kk _ hl)
  · -- .lload k
    obtain ⟨x, hv, e⟩ := Option.map_eq_some_iff.mp h
    have hv := jgL_at hv
    cases e
    exact lv_lload hx hb hd (jlv_at hl hv) (kk _ hl)
  · -- .lload_n k
    obtain ⟨x, hv, e⟩ := Option.map_eq_some_iff.mp h
    have hv := jgL_at hv
    cases e
    exact lv_lload_n hx hb hd rfl (jlv_at hl hv) (kk _ hl)
  · -- .aload k
    obtain ⟨x, hv, e⟩ := Option.map_eq_some_iff.mp h
    have hv := jgA_at hv
    cases e
    cases x with
    | none => exact lv_aloadN hx hb hd  (jlv_at hl hv) (kk _ hl)
    | some x => exact lv_aload hx hb hd  (jlv_at hl hv) (kk _ hl)
  · -- .aload_n k
    obtain ⟨x, hv, e⟩ := Option.map_eq_some_iff.mp h
    have hv := jgA_at hv
    cases e
    cases x with
    | none => exact lv_aload_nN hx hb hd rfl (jlv_at hl hv) (kk _ hl)
    | some x => exact lv_aload_n hx hb hd rfl (jlv_at hl hv) (kk _ hl)
  · -- .istore k
    split at h
    · obtain ⟨L1, hs, e⟩ := Option.map_eq_some_iff.mp h
      cases e
      exact lv_istore hx hb hd hl.2 (by rw [← hl.1]; exact jst1_lt hs) rfl (fun ls' h2 => kk _ (jlv_st1 hl hs h2))
    · cases h
  · -- .istore_n k
    split at h
    · obtain ⟨L1, hs, e⟩ := Option.map_eq_some_iff.mp h
      cases e
      exact lv_istore_n hx hb hd rfl hl.2 (by rw [← hl.1]; exact jst1_lt hs) rfl (fun ls' h2 => kk _ (jlv_st1 hl hs h2))
    · cases h
  · -- .lstore k
    split at h
    · obtain ⟨L1, hs, e⟩ := Option.map_eq_some_iff.mp h
      cases e
      exact lv_lstore hx hb hd hl.2 (by rw [← hl.1]; exact jst2_lt hs) rfl (fun ls' h2 => kk _ (jlv_st2 hl hs h2))
    · cases h
  · -- .lstore_n k
    split at h
    · obtain ⟨L1, hs, e⟩ := Option.map_eq_some_iff.mp h
      cases e
      exact lv_lstore_n hx hb hd rfl hl.2 (by rw [← hl.1]; exact jst2_lt hs) rfl (fun ls' h2 => kk _ (jlv_st2 hl hs h2))
    · cases h
  · -- .astore k
    split at h
    · obtain ⟨L1, hs, e⟩ := Option.map_eq_some_iff.mp h
      cases e
      exact lv_astore hx hb hd hl.2 (by rw [← hl.1]; exact jst1_lt hs) rfl (fun ls' h2 => kk _ (jlv_st1 hl hs h2))
    · obtain ⟨L1, hs, e⟩ := Option.map_eq_some_iff.mp h
      cases e
      exact lv_astoreN hx hb hd hl.2 (by rw [← hl.1]; exact jst1_lt hs) rfl (fun ls' h2 => kk _ (jlv_st1 hl hs h2))
    · cases h
  · -- .astore_n k
    split at h
    · obtain ⟨L1, hs, e⟩ := Option.map_eq_some_iff.mp h
      cases e
      exact lv_astore_n hx hb hd rfl hl.2 (by rw [← hl.1]; exact jst1_lt hs) rfl (fun ls' h2 => kk _ (jlv_st1 hl hs h2))
    · obtain ⟨L1, hs, e⟩ := Option.map_eq_some_iff.mp h
      cases e
      exact lv_astore_nN hx hb hd rfl hl.2 (by rw [← hl.1]; exact jst1_lt hs) rfl (fun ls' h2 => kk _ (jlv_st1 hl hs h2))
    · cases h
  · -- .iinc k n
    obtain ⟨x, hv, h⟩ := Option.bind_eq_some_iff.mp h
    have hv := jgI_at hv
    obtain ⟨L1, hs, e⟩ := Option.map_eq_some_iff.mp h
    cases e
    obtain ⟨z, hz⟩ := List.getElem?_of_mem ((jp_mem L 0 (_, _)).mpr ⟨_, hv, (Nat.zero_add _).symm⟩)
    exact lv_iinc hx hb hd hl.2 (k := z) hz rfl (by rw [← hl.1]; exact jst1_lt hs) rfl (fun ls' h2 => kk _ (jlv_st1 hl hs h2))
  · -- .iadd
    split at h
    · cases h
      exact lv_iadd hx hb hd (kk _ hl)
    · cases h
  · -- .isub
    split at h
    · cases h
      exact lv_isub hx hb hd (kk _ hl)
    · cases h
  · -- .imul
    split at h
    · cases h
      exact lv_imul hx hb hd (kk _ hl)
    · cases h
  · -- .iand
    split at h
    · cases h
      exact lv_iand hx hb hd (kk _ hl)
    · cases h
  · -- .ior
    split at h
    · cases h
      exact lv_ior hx hb hd (kk _ hl)
    · cases h
  · -- .ixor
    split at h
    · cases h
      exact lv_ixor hx hb hd (kk _ hl)
    · cases h
  · -- .ishl
    split at h
    · cases h
      exact lv_ishl hx hb hd (kk _ hl)
    · cases h
  · -- .ishr
    split at h
    · cases h
      exact lv_ishr hx hb hd (kk _ hl)
    · cases h
  · -- .iushr
    split at h
    · cases h
      exact lv_iushr hx hb hd rfl (kk _ hl)
    · cases h
  · -- .idiv
    split at h
    · split at h
      · cases h
      · rename_i hz
        cases h
        exact lv_idiv hx hb hd hz (kk _ hl)
    · cases h
  · -- .irem
    split at h
    · split at h
      · cases h
      · rename_i hz
        cases h
        exact lv_irem hx hb hd hz (kk _ hl)
    · cases h
  · -- .ladd
    split at h
    · cases h
      exact lv_ladd hx hb hd (kk _ hl)
    · cases h
  · -- .lsub
    split at h
    · cases h
      exact lv_lsub hx hb hd (kk _ hl)
    · cases h
  · -- .lmul
    split at h
    · cases h
      exact lv_lmul hx hb hd (kk _ hl)
    · cases h
  · -- .land
    split at h
    · cases h
      exact lv_land hx hb hd (kk _ hl)
    · cases h
  · -- .lor
    split at h
    · cases h
      exact lv_lor hx hb hd (kk _ hl)
    · cases h
  · -- .lxor
    split at h
    · cases h
      exact lv_lxor hx hb hd (kk _ hl)
    · cases h
  · -- .lshl
    split at h
    · cases h
      exact lv_lshl hx hb hd rfl (kk _ hl)
    · cases h
  · -- .lcmp
    split at h
    · cases h
      exact W.lcmp hx hb hd (kk _ hl)
    · cases h
  · -- .ineg
    split at h
    · cases h
      exact lv_ineg hx hb hd (kk _ hl)
    · cases h
  · -- .lneg
    split at h
    · cases h
      exact lv_lneg hx hb hd (kk _ hl)
    · cases h
  · -- .i2l
    split at h
    · cases h
      exact lv_i2l hx hb hd rfl (kk _ hl)
    · cases h
  · -- .l2i
    split at h
    · cases h
      exact lv_l2i hx hb hd rfl (kk _ hl)
    · cases h
  · -- .i2b
    split at h
    · cases h
      exact lv_i2b hx hb hd rfl (kk _ hl)
    · cases h
  · -- .dup
    split at h
    · split at h
      · rename_i hc
        cases h
        exact lv_dup hx hb hd hc (kk _ hl)
      · cases h
    · cases h
  · -- .pop
    split at h
    · split at h
      · rename_i hc
        cases h
        exact lv_pop hx hb hd hc (kk _ hl)
      · cases h
    · cases h
  · -- .dup_x1
    split at h
    · split at h
      · rename_i hc
        cases h
        exact lv_dup_x1 hx hb hd hc.1 hc.2 (kk _ hl)
      · cases h
    · cases h
  · -- .dup_x2
    split at h
    · split at h
      · rename_i hc
        cases h
        exact lv_dup_x2 hx hb hd hc.1 hc.2.1 hc.2.2 (kk _ hl)
      · cases h
    · cases h
  · -- .dup2
    split at h
    · split at h
      · rename_i hc
        cases h
        exact lv_dup2_11 hx hb hd hc.1 hc.2 (kk _ hl)
      · cases h
    · cases h
  · cases h
end
section
-- ===== branches =====
def jtg (pc : Nat) (off : Int) : Option Nat := if 0 ≤ (pc : Int) + off then some ((pc : Int) + off).toNat else none
theorem jtg_eq {pc t : Nat} {off : Int} (h : jtg pc off = some t) : (pc : Int) + off = (t : Int) := by
  unfold jtg at h
  split at h
  · cases h
    omega
  · cases h
def jc (c : ClassFile.Cond) (x y : Int32) : Prop := match c with
  | .eq => x = y
  | .ne => ¬ x = y
  | .lt => x < y
  | .ge => y ≤ x
  | .gt => y < x
  | .le => x ≤ y
def jcb (c : ClassFile.Cond) (x y : Int32) : Bool := match c with
  | .eq => decide (x = y)
  | .ne => !decide (x = y)
  | .lt => decide (x < y)
  | .ge => decide (y ≤ x)
  | .gt => decide (y < x)
  | .le => decide (x ≤ y)
theorem jcb_iff {c : ClassFile.Cond} {x y : Int32} : jcb c x y = true ↔ jc c x y := by
  cases c <;> simp [jcb, jc]
/-- a value that is a reference, as an optional address -/
def jrf (v : Value) : Option (Option Nat) := match v with
  | .ref a => some (some a)
  | .null => some none
  | _ => none
theorem jrf_eq {v : Value} {r : Option Nat} (h : jrf v = some r) : v = va_rf r := by
  unfold jrf at h
  split at h
  · cases h; rfl
  · cases h; rfl
  · cases h
def jbr (i : ClassFile.Instr) (len pc : Nat) (st : List Value) : Option (Nat × List Value) := match i with
  | .goto off => if len = 3 then (jtg pc off).map fun t => (t, st) else none
  | .ifCond c off => if len = 3 then (jtg pc off).bind fun t => match st with
    | .int x :: r => some (if jcb c x 0 then t else pc + 3, r)
    | _ => none
    else none
  | .if_icmp c off => if len = 3 then (jtg pc off).bind fun t => match st with
    | .int y :: .int x :: r => some (if jcb c x y then t else pc + 3, r)
    | _ => none
    else none
  | .ifnull off => if len = 3 then (jtg pc off).bind fun t => match st with
    | .null :: r => some (t, r)
    | .ref _ :: r => some (pc + 3, r)
    | _ => none
    else none
  | .ifnonnull off => if len = 3 then (jtg pc off).bind fun t => match st with
    | .null :: r => some (pc + 3, r)
    | .ref _ :: r => some (t, r)
    | _ => none
    else none
  | .if_acmp c off => if len = 3 then (jtg pc off).bind fun t => match st with
    | w :: v :: r => (jrf v).bind fun a => (jrf w).bind fun b => match c with
      | .eq => some (if a = b then t else pc + 3, r)
      | .ne => some (if a = b then pc + 3 else t, r)
    | _ => none
    else none
  | .tableswitch dflt lo hi offs => match st with
    | .int x :: r => (if x.toInt < lo ∨ hi < x.toInt then some dflt else offs[(x.toInt - lo).toNat]?).bind fun o => (jtg pc o).map fun t => (t, r)
    | _ => none
  | .lookupswitch dflt ps => match st with
    | .int x :: r => if (ps.toList.zip (ps.toList.drop 1)).all (fun (a, next) => a.1 < next.1) = true then (jtg pc (Op.lookupswitch.offset ps.toList dflt x.toInt)).map fun t => (t, r) else none
    | _ => none
  | _ => none
set_option maxHeartbeats 4000000 in
theorem jbr_sound {p : Program} {l : Launch} {e : Env} {R : Room} {s : State} {m : MethodId} {args : Array Value} {below : List Frame} {meth : Method} {c : Code} {H : Heap} {locs : List Loc} {cells slots : Nat} {Q : State → Prop} {cc : ByteArray} {pc len t : Nat} {ls : Array Slot} {st st' : List Value} {i : ClassFile.Instr} (hx : p.tables.exec = Jvm.exec) (hb : c.code = cc) (hd : decode cc pc = .ok (i, len)) (h : jbr i len pc st = some (t, st')) (k : W p l e R s m args below meth c H locs cells slots Q (F0 m t ls st')) : W p l e R s m args below meth c H locs cells slots Q (F0 m pc ls st) := by
  unfold jbr at h
  split at h
  · -- goto
    split at h
    · rename_i hlen
      subst hlen
      obtain ⟨t1, ht, e1⟩ := Option.map_eq_some_iff.mp h
      cases e1
      exact lv_goto hx hb hd (jtg_eq ht) k
    · cases h
  · -- ifCond
    rename_i c1 off
    split at h
    · rename_i hlen
      subst hlen
      obtain ⟨t1, ht, h⟩ := Option.bind_eq_some_iff.mp h
      split at h
      · rename_i x r hz
        cases h
        have k1 : jc c1 x 0 → W p l e R s m args below meth c H locs cells slots Q (F0 m t1 ls st') := fun q => by rw [if_pos (jcb_iff.mpr q)] at k; exact k
        have k2 : ¬ jc c1 x 0 → W p l e R s m args below meth c H locs cells slots Q (F0 m (pc + 3) ls st') := fun q => by rw [if_neg (fun z => q (jcb_iff.mp z))] at k; exact k
        cases c1 with
        | eq => exact lv_if_eq hx hb hd (jtg_eq ht) k1 k2
        | ne => exact lv_if_ne hx hb hd (jtg_eq ht) k1 (fun q => k2 (fun z => z q))
        | lt => exact lv_if_lt hx hb hd (jtg_eq ht) k1 k2
        | ge => exact lv_if_ge hx hb hd (jtg_eq ht) k1 k2
        | gt => exact lv_if_gt hx hb hd (jtg_eq ht) k1 k2
        | le => exact lv_if_le hx hb hd (jtg_eq ht) k1 k2
      · cases h
    · cases h
  · -- if_icmp
    rename_i c1 off
    split at h
    · rename_i hlen
      subst hlen
      obtain ⟨t1, ht, h⟩ := Option.bind_eq_some_iff.mp h
      split at h
      · rename_i y x r hz
        cases h
        have k1 : jc c1 x y → W p l e R s m args below meth c H locs cells slots Q (F0 m t1 ls st') := fun q => by rw [if_pos (jcb_iff.mpr q)] at k; exact k
        have k2 : ¬ jc c1 x y → W p l e R s m args below meth c H locs cells slots Q (F0 m (pc + 3) ls st') := fun q => by rw [if_neg (fun z => q (jcb_iff.mp z))] at k; exact k
        cases c1 with
        | eq => exact lv_icmp_eq hx hb hd (jtg_eq ht) k1 k2
        | ne => exact lv_icmp_ne hx hb hd (jtg_eq ht) k1 (fun q => k2 (fun z => z q))
        | lt => exact lv_icmp_lt hx hb hd (jtg_eq ht) k1 k2
        | ge => exact lv_icmp_ge hx hb hd (jtg_eq ht) k1 k2
        | gt => exact lv_icmp_gt hx hb hd (jtg_eq ht) k1 k2
        | le => exact lv_icmp_le hx hb hd (jtg_eq ht) k1 k2
      · cases h
    · cases h
  · -- ifnull
    split at h
    · rename_i hlen
      subst hlen
      obtain ⟨t1, ht, h⟩ := Option.bind_eq_some_iff.mp h
      split at h
      · cases h
        exact lv_ifnullN hx hb hd (jtg_eq ht) k
      · cases h
        exact lv_ifnull hx hb hd k
      · cases h
    · cases h
  · -- ifnonnull
    split at h
    · rename_i hlen
      subst hlen
      obtain ⟨t1, ht, h⟩ := Option.bind_eq_some_iff.mp h
      split at h
      · cases h
        exact lv_ifnonnullN hx hb hd k
      · cases h
        exact lv_ifnonnull hx hb hd (jtg_eq ht) k
      · cases h
    · cases h
  · -- if_acmp
    rename_i c1 off
    split at h
    · rename_i hlen
      subst hlen
      obtain ⟨t1, ht, h⟩ := Option.bind_eq_some_iff.mp h
      split at h
      · obtain ⟨a, ha, h4⟩ := Option.bind_eq_some_iff.mp h
        obtain ⟨b, hb2, h5⟩ := Option.bind_eq_some_iff.mp h4
        clear h h4
        have ea := jrf_eq ha
        have eb := jrf_eq hb2
        subst ea eb
        cases c1 with
        | eq =>
          obtain ⟨e1, e2⟩ := Prod.mk.inj (Option.some.inj h5)
          subst e1 e2
          exact lv_acmp_eq hx hb hd (jtg_eq ht) (fun q => by rw [if_pos q] at k; exact k) (fun q => by rw [if_neg q] at k; exact k)
        | ne =>
          obtain ⟨e1, e2⟩ := Prod.mk.inj (Option.some.inj h5)
          subst e1 e2
          exact lv_acmp_ne hx hb hd (jtg_eq ht) (fun q => by rw [if_neg q] at k; exact k) (fun q => by rw [if_pos q] at k; exact k)
      · cases h
    · cases h
  · -- tableswitch
    split at h
    · obtain ⟨o, ho, h⟩ := Option.bind_eq_some_iff.mp h
      obtain ⟨t1, ht, e1⟩ := Option.map_eq_some_iff.mp h
      cases e1
      split at ho
      · rename_i hc
        cases ho
        exact lv_tableOut hx hb hd hc (jtg_eq ht) k
      · rename_i hc
        exact lv_tableIn hx hb hd (fun q => hc (Or.inl q)) (fun q => hc (Or.inr q)) ho (jtg_eq ht) k
    · cases h
  · -- lookupswitch
    split at h
    · split at h
      · rename_i hp
        obtain ⟨t1, ht, e1⟩ := Option.map_eq_some_iff.mp h
        cases e1
        exact lv_lookup hx hb hd hp rfl (jtg_eq ht) k
      · cases h
    · cases h
  · cases h
end
section
-- ===== words, tables of a state =====
theorem jtr_warm {s U : State} {w : Cond} (ht : jtr w = true) (hW : s.WarmedH U.vm) (h : ∀ A : Array Value, w.before A s = true) (A : Array Value) : w.before A U = true := by
  unfold jtr at ht
  split at ht
  · exact va_Nw.use rfl (va_Nw.warmF hW (h #[]))
  · exact va_Nw.use rfl (va_Nw.warmM hW (h #[]))
  · exact va_Nw.use rfl (va_Nw.warmC hW (h #[]))
  · exact va_Nw.use rfl (va_Nw.warmD hW (h #[]))
  · exact word_at hW (Or.inr ⟨_, rfl⟩) (h #[])
  · exact va_AO.use (va_AO.moved hW.alike (h #[]))
  · exact word_at hW (Or.inl ht) (h #[])
def jW (s : State) : Prop := ∀ w ∈ jwords, ∀ A : Array Value, w.before A s = true
theorem jW_warm {s U : State} (hW : s.WarmedH U.vm) (h : jW s) : jW U := fun w hw A => jtr_warm (jwords_tr w hw) hW (h w hw) A
def jKa (s : State) (cA : ClassId) (ty : FieldType) : Prop := ∃ (kA : Class) (comp : ClassId), s.vm.classes[cA]? = some kA ∧ kA.kind = .array comp ty ∧ ∀ C : String, ty = .object C → s.vm.findClass C = some comp
def jK (D : va_G) (E : Nat → ClassId) (s : State) : Prop := (∀ (κ : Nat) (q : vw_C), vwCl[κ]? = some q → u_Kn s q.1 q.2.1 q.2.2 (D.1 κ) (D.2 κ)) ∧ ∀ (κ : Nat) (ty : FieldType), jkt κ = some ty → jKa s (E κ) ty ∧ (κ ≠ 94 → s.vm.findClass ("[" ++ ty.toString) = some (E κ))
theorem jKa_moved {u U : State} (hvm : u.vm.Alike U.vm) {cA : ClassId} {ty : FieldType} (h : jKa u cA ty) : jKa U cA ty := by
  obtain ⟨kA, comp, h1, h2, h3⟩ := h
  obtain ⟨k', hk', he⟩ := hvm.2.2 _ _ h1
  exact ⟨k', comp, hk', by rw [he]; exact h2, fun C hC => by rw [hvm.findClass]; exact h3 C hC⟩
theorem jK_moved {D : va_G} {E : Nat → ClassId} {u U : State} (hvm : u.vm.Alike U.vm) (h : jK D E u) : jK D E U :=
  ⟨fun κ q hq => u_Kn_moved hvm (h.1 κ q hq), fun κ ty hk => ⟨jKa_moved hvm (h.2 κ ty hk).1, fun hne => by rw [hvm.findClass]; exact (h.2 κ ty hk).2 hne⟩⟩
-- ===== the heap holds a memory =====
/-- an array's cell -/
def jAr (H : Heap) (cA : ClassId) (a n : Nat) (f : Nat → Value) : Prop := ∃ cell : Cell, H[a]? = some cell ∧ cell.cls = cA ∧ cell.vm ≠ .unknown ∧ (∀ q, cell.vm ≠ .statics q) ∧ cell.slots.size = n ∧ ∀ j : Nat, j < n → cell.slots[j]? = some (f j)
def jcell (D : va_G) (E : Nat → ClassId) (H : Heap) (V : jV) (a κ n : Nat) : Prop := (κ < 50 ∧ ∃ r : vw_C, vwCl[κ]? = some r ∧ r.2.2 = n ∧ t_OB a (D.1 κ) n (D.2 κ) H (fun k => V κ k a)) ∨ (50 ≤ κ ∧ (∃ ty, jkt κ = some ty) ∧ jAr H (E κ) a n (fun k => V κ k a) ∧ (κ < 90 → H[a]? = some (arrV (E κ) n (fun k => V κ k a))))
def jSim (D : va_G) (E : Nat → ClassId) (H : Heap) (M : jM) : Prop := H.size = M.1 ∧ ∀ a κ n : Nat, M.2.2.1 a = some (κ, n) → jcell D E H M.2.2.2 a κ n
theorem jAr_kept {H H' : Heap} {cA : ClassId} {a n : Nat} {f : Nat → Value} (h : jAr H cA a n f) (e : H'[a]? = H[a]?) : jAr H' cA a n f := by
  obtain ⟨cell, h1, h2⟩ := h
  exact ⟨cell, by rw [e]; exact h1, h2⟩
theorem jAr_lt {H : Heap} {cA : ClassId} {a n : Nat} {f : Nat → Value} (h : jAr H cA a n f) : a < H.size := by
  obtain ⟨cell, h1, -⟩ := h
  exact (Array.getElem?_eq_some_iff.mp h1).1
theorem jcell_kept {D : va_G} {E : Nat → ClassId} {H H' : Heap} {V V' : jV} {a κ n : Nat} (h : jcell D E H V a κ n) (e : H'[a]? = H[a]?) (hV : ∀ k, V' κ k a = V κ k a) : jcell D E H' V' a κ n := by
  have hf : (fun k => V' κ k a) = fun k => V κ k a := funext hV
  rcases h with ⟨h1, r, h2, h3, h4⟩ | ⟨h1, h2, h3, h4⟩
  · exact Or.inl ⟨h1, r, h2, h3, by rw [hf]; exact h4.kept e⟩
  · exact Or.inr ⟨h1, h2, by rw [hf]; exact jAr_kept h3 e, fun hk => by rw [hf, e]; exact h4 hk⟩
theorem jcell_lt {D : va_G} {E : Nat → ClassId} {H : Heap} {V : jV} {a κ n : Nat} (h : jcell D E H V a κ n) : a < H.size := by
  rcases h with ⟨-, r, -, -, cell, h1, -⟩ | ⟨-, -, h3, -⟩
  · exact (Array.getElem?_eq_some_iff.mp h1).1
  · exact jAr_lt h3
def jgset (g : jG) (a : Nat) (x : Nat × Nat) : jG := fun b => if b = a then some x else g b
theorem jgset_ap (g : jG) (a : Nat) (x : Nat × Nat) (b : Nat) : jgset g a x b = if b = a then some x else g b := rfl
theorem jSim_put {D : va_G} {E : Nat → ClassId} {H H' : Heap} {t u : Nat} {g : jG} {V V' : jV} {a κ n : Nat} (h : jSim D E H (t, u, g, V)) (hg : g a = some (κ, n)) (hc : jcell D E H' V' a κ n) (hz : H'.size = H.size) (ho : ∀ q : Nat, q ≠ a → H'[q]? = H[q]?) (hV : ∀ κ' k b : Nat, b ≠ a → V' κ' k b = V κ' k b) : jSim D E H' (t, u, g, V') := by
  refine ⟨hz.trans h.1, fun b κ' n' hb => ?_⟩
  by_cases hba : b = a
  · subst hba
    have hb' : g b = some (κ', n') := hb
    rw [hg] at hb'
    cases hb'
    exact hc
  · exact jcell_kept (h.2 b κ' n' hb) (ho b hba) (fun k => hV κ' k b hba)
theorem jSim_push {D : va_G} {E : Nat → ClassId} {H H' : Heap} {t u u' : Nat} {g : jG} {V V' : jV} {κ n : Nat} (h : jSim D E H (t, u, g, V)) (hc : jcell D E H' V' t κ n) (hz : H'.size = t + 1) (ho : ∀ q : Nat, q < t → H'[q]? = H[q]?) (hV : ∀ κ' k b : Nat, b ≠ t → V' κ' k b = V κ' k b) : jSim D E H' (t + 1, u', jgset g t (κ, n), V') := by
  refine ⟨hz, fun b κ' n' hb => ?_⟩
  have hb' : jgset g t (κ, n) b = some (κ', n') := hb
  rw [jgset_ap] at hb'
  by_cases hbt : b = t
  · subst hbt
    rw [if_pos rfl] at hb'
    cases hb'
    exact hc
  · rw [if_neg hbt] at hb'
    have h1 := h.2 b κ' n' hb'
    have hlt : b < t := by have := jcell_lt h1; rw [h.1] at this; exact this
    exact jcell_kept h1 (ho b hlt) (fun k => hV κ' k b hbt)
theorem jcell_obj {D : va_G} {E : Nat → ClassId} {H : Heap} {V : jV} {a κ n : Nat} (h : jcell D E H V a κ n) (hκ : κ < 50) {q : vw_C} (hq : vwCl[κ]? = some q) : n = q.2.2 ∧ t_OB a (D.1 κ) n (D.2 κ) H (fun k => V κ k a) := by
  rcases h with ⟨h1, r, h2, h3, h4⟩ | ⟨h1, -⟩
  · cases h2.symm.trans hq
    exact ⟨h3.symm, h4⟩
  · omega
theorem jcell_arr {D : va_G} {E : Nat → ClassId} {H : Heap} {V : jV} {a κ n : Nat} (h : jcell D E H V a κ n) (hκ : 50 ≤ κ) : jAr H (E κ) a n (fun k => V κ k a) := by
  rcases h with ⟨h1, -⟩ | ⟨-, -, h3, -⟩
  · omega
  · exact h3
theorem jcell_arrV {D : va_G} {E : Nat → ClassId} {H : Heap} {V : jV} {a κ n : Nat} (h : jcell D E H V a κ n) (hκ : 50 ≤ κ) (hκ2 : κ < 90) : H[a]? = some (arrV (E κ) n (fun k => V κ k a)) := by
  rcases h with ⟨h1, -⟩ | ⟨-, -, -, h4⟩
  · omega
  · exact h4 hκ2
theorem jAr_arrV {H : Heap} {cA : ClassId} {a n : Nat} {f : Nat → Value} (h : H[a]? = some (arrV cA n f)) : jAr H cA a n f :=
  ⟨_, h, rfl, (fun h => by cases h), (fun q h => by cases h), arrV_size _ _ _, fun j hj => arrV_read _ _ hj⟩
theorem jcell_ofV {D : va_G} {E : Nat → ClassId} {H : Heap} {V : jV} {a κ n : Nat} {f : Nat → Value} (hκ : 50 ≤ κ) (hk : ∃ ty, jkt κ = some ty) (h : H[a]? = some (arrV (E κ) n f)) (hf : ∀ k, V κ k a = f k) : jcell D E H V a κ n := by
  have e : (fun k => V κ k a) = f := funext hf
  exact Or.inr ⟨hκ, hk, by rw [e]; exact jAr_arrV h, fun _ => by rw [e]; exact h⟩
/-- what may be written: objects and arrays of the kinds that are written, and all that is made from now on -/
def jA (M : jM) : Nat → Prop := fun q => (∃ κ n : Nat, M.2.2.1 q = some (κ, n) ∧ κ < 90) ∨ M.1 ≤ q
def jfits (ty : FieldType) (v : Value) : Bool := match ty, v with
  | .int, .int _ => true
  | .long, .long _ => true
  | .boolean, .int x => x == 0 || x == 1
  | .object _, .null => true
  | .object _, .ref _ => true
  | .array _, .null => true
  | .array _, .ref _ => true
  | _, _ => false
theorem jfits_ok {ty : FieldType} {v : Value} (h : jfits ty v = true) : narrow ty v = v ∧ fits ty v = true := by
  unfold jfits at h
  split at h
  · exact ⟨rfl, rfl⟩
  · exact ⟨rfl, rfl⟩
  · rename_i x
    simp only [Bool.or_eq_true, beq_iff_eq] at h
    rcases h with h | h <;> subst h <;> exact ⟨by decide, by decide⟩
  · exact ⟨rfl, rfl⟩
  · exact ⟨rfl, rfl⟩
  · exact ⟨rfl, rfl⟩
  · exact ⟨rfl, rfl⟩
  · cases h
section JM
variable {p : Program} {l : Launch} {e : Env} {R : Room} {s : State} {m : MethodId} {args : Array Value} {below : List Frame} {meth : Method} {c : Code} {H : Heap} {locs : List Loc} {cells slots : Nat} {Q : State → Prop}
variable {cc : ByteArray} {pc : Nat} {ls : Array Slot} {rest : List Value} {D : va_G} {E : Nat → ClassId} {A : Nat → Prop} {own : String} {idx a κ n k t u : Nat} {g : jG} {V : jV}
theorem jget_sound (hx : p.tables.exec = Jvm.exec) (hb : c.code = cc) (hW : jW s) (hK : jK D E s) (hown : s.vm.findClass own = some m.cls) {C : String} {T : u_T} {N : Nat} (hc : vwCl[κ]? = some (C, T, N)) (hk : k < N) (hL : jLk own idx (T k).1 (T k).2.1 (T k).2.2.1) (hS : jSim D E H (t, u, g, V)) (hg : g a = some (κ, n)) (hκ : κ < 50) (hd : decode cc pc = .ok (.getfield idx, 3))
    (kk : W p l e R s m args below meth c H locs cells slots Q (F0 m (pc + 3) ls (V κ k a :: rest))) : W p l e R s m args below meth c H locs cells slots Q (F0 m pc ls (.ref a :: rest)) := by
  obtain ⟨hn, cell, q1, q2, q3, q4⟩ := jcell_obj (hS.2 a κ n hg) hκ hc
  obtain ⟨hSl, hfc, kC, hkC, hkind⟩ := hK.1 κ _ hc
  obtain ⟨cf, kf, fi, f, hi, hsl⟩ := hSl k hk
  have hts : ∀ w ∈ jwords, w.before args s = true := fun w h => hW w h args
  obtain ⟨ref, hl, hr⟩ := hL
  have hi2 : s.fieldFound? ref (T k).2.1 (T k).2.2.1 = some (cf, kf, fi, f) := by
    rcases hr with hr | hr
    · rw [hr]; exact hi
    · exact u_same (hts _ hr) _ hi
  have hst : f.isStatic = false := (u_facts hfc hkC (u_lays hts (jcl_in κ _ hc) hk) hi).1
  have hv : cell.slots[f.slot]? = some (V κ k a) := by rw [hsl]; exact q4 k (by rw [hn]; exact hk)
  have hne : cell.vm ≠ .unknown := by rw [q3]; exact fun h => by cases h
  rcases hl with hl | ⟨host, hl⟩
  · exact W.getf hx hb hown (hts _ hl) hi2 hst q1 hne hv rfl rfl hd kk
  · exact va_Wgetf hx hb hown (hts _ hl) hi2 hst q1 hne hv rfl rfl hd kk
theorem jput_sound (hx : p.tables.exec = Jvm.exec) (hb : c.code = cc) (hW : jW s) (hK : jK D E s) (hown : s.vm.findClass own = some m.cls) {C : String} {T : u_T} {N : Nat} (hc : vwCl[κ]? = some (C, T, N)) (hk : k < N) (hL : jLk own idx (T k).1 (T k).2.1 (T k).2.2.1) (hfin : (T k).2.2.2 = false ∨ (meth.name = "<init>" ∧ (T k).1 = own)) {v : Value} (hv : jfits (jty κ k) v = true) (hS : jSim D E H (t, u, g, V)) (hS0 : va_S A s.heap H locs) (hA : A a) (hg : g a = some (κ, n)) (hκ : κ < 50) (hd : decode cc pc = .ok (.putfield idx, 3))
    (kk : ∀ (H1 : Heap) (locs1 : List Loc), jSim D E H1 (t, u, g, jset V κ k a v) → va_S A s.heap H1 locs1 → W p l e R s m args below meth c H1 locs1 cells slots Q (F0 m (pc + 3) ls rest)) : W p l e R s m args below meth c H locs cells slots Q (F0 m pc ls (v :: .ref a :: rest)) := by
  obtain ⟨hn, cell, q1, q2, q3, q4⟩ := jcell_obj (hS.2 a κ n hg) hκ hc
  have hnN : N = n := hn.symm
  subst hnN
  obtain ⟨hSl, hfc, kC, hkC, hkind⟩ := hK.1 κ _ hc
  obtain ⟨cf, kf, fi, f, hi, hsl⟩ := hSl k hk
  have hts : ∀ w ∈ jwords, w.before args s = true := fun w h => hW w h args
  have hin := jcl_in κ _ hc
  have hap : ∀ x y, x < N → y < N → x ≠ y → (D.2 κ) x ≠ (D.2 κ) y := by
    intro x y hx hy hne
    obtain ⟨_, _, _, fa, hia, ea⟩ := hSl x hx
    obtain ⟨_, _, _, fb, hib, eb⟩ := hSl y hy
    rw [← ea, ← eb]
    refine u_apart (u_lays hts hin hx) (u_lays hts hin hy) hia hib ?_
    rw [(State.fieldFound?_type hia (jcl_ty κ _ hc x hx)).1, (State.fieldFound?_type hib (jcl_ty κ _ hc y hy)).1]
    exact jcl_nm κ _ hc x hx y hy hne
  obtain ⟨ref, hl, hr⟩ := hL
  have hi2 : s.fieldFound? ref (T k).2.1 (T k).2.2.1 = some (cf, kf, fi, f) := by
    rcases hr with hr | hr
    · rw [hr]; exact hi
    · exact u_same (hts _ hr) _ hi
  have hst : f.isStatic = false := (u_facts hfc hkC (u_lays hts hin hk) hi).1
  have hlt : f.slot < cell.slots.size := by rw [hsl]; exact k2_hasslot (q4 k hk)
  obtain ⟨hnw, hft⟩ := jfits_ok hv
  have hne : cell.vm ≠ .unknown := by rw [q3]; exact fun h => by cases h
  have ha : a < H.size := (Array.getElem?_eq_some_iff.mp q1).1
  have hfit := u_fits hfc hkC hkind (u_lays hts hin hk) hi (jcl_ty κ _ hc k hk) hnw hft
  have hfin2 : hasFlag f.accessFlags Acc.final = false ∨ (m.cls = cf ∧ meth.name = "<init>") := by
    have hlay := hts _ (hin _ (u_in_lay hk))
    unfold u_lay at hlay
    by_cases hf : (T k).2.2.2 = true
    · rw [if_pos hf] at hlay
      rcases hfin with h | ⟨h1, h2⟩
      · rw [h] at hf; cases hf
      · refine Or.inr ⟨?_, h1⟩
        obtain ⟨_, _, c', _, _, _, -, -, hf', -, -, -, hown2, -⟩ := Cond.laysFinal_spec hlay
        have e1 : c' = cf := by have := hi.symm.trans hf'; simp at this; exact this.1.symm
        rw [h2] at hown2
        rw [← e1]; exact Option.some.inj (hown.symm.trans hown2)
    · rw [if_neg hf] at hlay
      exact Or.inl (u_store hfc hkC hkind hlay hi (jcl_ty κ _ hc k hk) hnw hft).1
  have fin : W p l e R s m args below meth c (H.setIfInBounds a (cell.setSlot f.slot v)) (locs ++ [⟨a, f.slot⟩]) cells slots Q (F0 m (pc + 3) ls rest) := by
    have e1 : (H.setIfInBounds a (cell.setSlot f.slot v))[a]? = some (cell.setSlot f.slot v) := by simp [Array.getElem?_setIfInBounds, ha]
    have e2 : (H.setIfInBounds a (cell.setSlot f.slot v)).size = H.size := by simp
    have e3 : ∀ q : Nat, q ≠ a → (H.setIfInBounds a (cell.setSlot f.slot v))[q]? = H[q]? := fun q hq => by simp [Array.getElem?_setIfInBounds, Ne.symm hq]
    refine kk _ _ (jSim_put hS hg (Or.inl ⟨hκ, _, hc, rfl, ?_⟩) e2 e3 (fun κ' k' b hb => ?_)) (hS0.put e2 e3 hA)
    · refine t_OB.to (V := updV (fun k => V κ k a) k v) ⟨_, e1, q2, q3, by rw [hsl]; exact t_set q4 hap hk v⟩ (fun j _ => ?_)
      rw [jset_ap]
      simp only [updV, true_and, and_true]
    · rw [jset_ap, if_neg (fun h => hb h.2.2)]
  rcases hl with hl | ⟨host, hl⟩
  · exact W.putf hx hb hown (hts _ hl) hi2 hst hfin2 q1 hne hlt hfit.1 (by rw [q3, q2]; exact hfit.2) rfl rfl hd fin
  · exact va_Wputf hx hb hown (hts _ hl) hi2 hst hfin2 q1 hne hlt hfit.1 (by rw [q3, q2]; exact hfit.2) rfl rfl hd fin
theorem jS_push {H1 : Heap} (h : va_S A s.heap H locs) (hz : H1.size = H.size + 1) (ho : ∀ q : Nat, q < H.size → H1[q]? = H[q]?) : va_S A s.heap H1 locs :=
  ⟨by rw [hz]; exact Nat.le_succ_of_le h.1, fun q h1 h2 => (ho q (Nat.lt_of_lt_of_le h1 h.1)).trans (h.2.1 q h1 h2), h.2.2⟩
theorem jnew_sound (hx : p.tables.exec = Jvm.exec) (hb : c.code = cc) (hW : jW s) (hK : jK D E s) (hown : s.vm.findClass own = some m.cls) {C : String} {T : u_T} {N : Nat} (hc : vwCl[κ]? = some (C, T, N)) (hκ : κ < 50) {w : Nat} (hcl : Cond.classLink own idx C ∈ jwords) (hins : Cond.instantiable C w ∈ jwords) (hini : Cond.initialized C ∈ jwords) (hS : jSim D E H (t, u, g, V)) (hS0 : va_S A s.heap H locs) (hcells : cells + 1 ≤ R.cells) (hslots : slots + w ≤ R.slots) (hd : decode cc pc = .ok (.new idx, 3))
    (kk : ∀ H1 : Heap, jSim D E H1 (t + 1, u + w, jgset g t (κ, N), jput V κ t (fun k => defaultValue (jty κ k))) → va_S A s.heap H1 locs → W p l e R s m args below meth c H1 locs (cells + 1) (slots + w) Q (F0 m (pc + 3) ls (.ref t :: rest))) : W p l e R s m args below meth c H locs cells slots Q (F0 m pc ls rest) := by
  have hts : ∀ w ∈ jwords, w.before args s = true := fun w h => hW w h args
  have hKn := hK.1 κ _ hc
  have hsz : H.size = t := hS.1
  refine W.newcK hx hb hown (hts _ hcl) (hts _ hins) (hts _ hini) (g := F0 m pc ls rest) rfl hd hcells hslots hKn.2.1 hsz fun H' kC h1 h2 h3 h4 => ?_
  refine kk H' (jSim_push hS (Or.inl ⟨hκ, _, hc, rfl, ?_⟩) h3 h4 (fun κ' k' b hb => ?_)) (jS_push hS0 (by rw [h3, hsz]) (fun q hq => h4 q (by rw [← hsz]; exact hq)))
  · refine t_OB.to (u_born (jty κ) hts (jcl_in κ _ hc) hKn h1 h2 (jcl_ty κ _ hc)) (fun j _ => ?_)
    rw [jput_ap, if_pos ⟨rfl, rfl⟩]
  · rw [jput_ap, if_neg (fun h => hb h.2)]
theorem jarr_of (hK : jK D E s) {ty : FieldType} (hk : jkt κ = some ty) {cell : Cell} (h1 : cell.cls = E κ) (h3 : ∀ q, cell.vm ≠ .statics q) : s.isArrayOf cell ty := by
  obtain ⟨⟨kA, comp, k1, k2, -⟩, -⟩ := hK.2 κ ty hk
  exact ⟨h3, kA, by rw [h1]; exact k1, comp, k2⟩
theorem jlen_sound (hx : p.tables.exec = Jvm.exec) (hb : c.code = cc) (hK : jK D E s) (hS : jSim D E H (t, u, g, V)) (hg : g a = some (κ, n)) (hκ : 50 ≤ κ) (hd : decode cc pc = .ok (.arraylength, 1))
    (kk : W p l e R s m args below meth c H locs cells slots Q (F0 m (pc + 1) ls (.int (Int32.ofNat n) :: rest))) : W p l e R s m args below meth c H locs cells slots Q (F0 m pc ls (.ref a :: rest)) := by
  rcases hS.2 a κ n hg with ⟨h1, -⟩ | ⟨-, ⟨ty, hty⟩, ⟨cell, h1, h2, h3, h4, h5, h6⟩, -⟩
  · omega
  · exact W.alen (n := Int32.ofNat n) hx hb h1 (jarr_of hK hty h2 h4) (by rw [h5] <;> rfl) rfl rfl hd kk
/-- an index within -/
def jin (j : Int32) (n : Nat) : Bool := decide (¬ j < 0) && decide (j.toNatClampNeg < n)
theorem jin_ok {j : Int32} {n : Nat} (h : jin j n = true) : ¬ j < 0 ∧ j.toNatClampNeg < n := by
  unfold jin at h
  simp only [Bool.and_eq_true, decide_eq_true_eq] at h
  exact h
theorem jin_no {j : Int32} {n z : Nat} (h : jin j n = true) (hz : z = n) : ¬ (j < 0 ∨ z ≤ j.toNatClampNeg) := by
  obtain ⟨h1, h2⟩ := jin_ok h
  subst hz
  rintro (q | q)
  · exact h1 q
  · omega
theorem jald_sound (hx : p.tables.exec = Jvm.exec) (hb : c.code = cc) (hK : jK D E s) (hS : jSim D E H (t, u, g, V)) (hg : g a = some (κ, n)) (hκ : 50 ≤ κ) {j : Int32} (hj : jin j n = true) {i : ClassFile.Instr} (hd : decode cc pc = .ok (i, 1)) (hi : (jkt κ = some .int ∧ i = .iaload) ∨ (jkt κ = some .long ∧ i = .laload) ∨ (jkt κ = some .boolean ∧ i = .baload) ∨ (∃ ty, jkt κ = some ty ∧ ty.isReference = true ∧ i = .aaload))
    (kk : W p l e R s m args below meth c H locs cells slots Q (F0 m (pc + 1) ls (V κ j.toNatClampNeg a :: rest))) : W p l e R s m args below meth c H locs cells slots Q (F0 m pc ls (.int j :: .ref a :: rest)) := by
  rcases hS.2 a κ n hg with ⟨h1, -⟩ | ⟨-, -, ⟨cell, h1, h2, h3, h4, h5, h6⟩, -⟩
  · omega
  · have hv := h6 _ (jin_ok hj).2
    have hno := jin_no hj h5
    rcases hi with ⟨ht, rfl⟩ | ⟨ht, rfl⟩ | ⟨ht, rfl⟩ | ⟨ty, ht, hr, rfl⟩
    · exact W.iald hx hb h1 (jarr_of hK ht h2 h4) h3 hno hv rfl rfl hd kk
    · exact W.lald hx hb h1 (jarr_of hK ht h2 h4) h3 hno hv rfl rfl hd kk
    · exact W.zald hx hb h1 (jarr_of hK ht h2 h4) h3 hno hv rfl rfl hd kk
    · exact W.aald hx hb h1 (jarr_of hK ht h2 h4) hr h3 hno hv rfl rfl hd kk
theorem jast_fin {j : Nat} {v : Value} (hS : jSim D E H (t, u, g, V)) (hS0 : va_S A s.heap H locs) (hA : A a) (hg : g a = some (κ, n)) (hκ : 50 ≤ κ) (hk : ∃ ty, jkt κ = some ty) {H1 : Heap} (e : H1[a]? = some ((arrV (E κ) n (fun k => V κ k a)).setSlot j v)) (z : H1.size = H.size) (o : ∀ q : Nat, q ≠ a → H1[q]? = H[q]?) :
    jSim D E H1 (t, u, g, jset V κ j a v) ∧ va_S A s.heap H1 (locs ++ [⟨a, j⟩]) := by
  rw [arrV_store] at e
  refine ⟨jSim_put hS hg (jcell_ofV hκ hk e (fun k => ?_)) z o (fun κ' k' b hb => ?_), hS0.put z o hA⟩
  · rw [jset_ap]
    simp only [updV, true_and, and_true]
  · rw [jset_ap, if_neg (fun h => hb h.2.2)]
theorem jiast_sound (hx : p.tables.exec = Jvm.exec) (hb : c.code = cc) (hK : jK D E s) (hS : jSim D E H (t, u, g, V)) (hS0 : va_S A s.heap H locs) (hA : A a) (hg : g a = some (κ, n)) (hκ : 50 ≤ κ) (hκ2 : κ < 90) (hk : jkt κ = some .int) {j x : Int32} (hj : jin j n = true) (hd : decode cc pc = .ok (.iastore, 1))
    (kk : ∀ (H1 : Heap) (locs1 : List Loc), jSim D E H1 (t, u, g, jset V κ j.toNatClampNeg a (.int x)) → va_S A s.heap H1 locs1 → W p l e R s m args below meth c H1 locs1 cells slots Q (F0 m (pc + 1) ls rest)) : W p l e R s m args below meth c H locs cells slots Q (F0 m pc ls (.int x :: .int j :: .ref a :: rest)) := by
  have h1 := jcell_arrV (hS.2 a κ n hg) hκ hκ2
  have h5 := arrV_size (E κ) n (fun k => V κ k a)
  refine W.iast hx hb h1 (jarr_of hK hk rfl (fun q h => by cases h)) (fun h => by cases h) (jin_no hj h5) rfl rfl hd fun H1 e z o => ?_
  obtain ⟨r1, r2⟩ := jast_fin hS hS0 hA hg hκ ⟨_, hk⟩ e z o
  exact kk H1 _ r1 r2
theorem jlast_sound (hx : p.tables.exec = Jvm.exec) (hb : c.code = cc) (hK : jK D E s) (hS : jSim D E H (t, u, g, V)) (hS0 : va_S A s.heap H locs) (hA : A a) (hg : g a = some (κ, n)) (hκ : 50 ≤ κ) (hκ2 : κ < 90) (hk : jkt κ = some .long) {j : Int32} {x : Int64} (hj : jin j n = true) (hd : decode cc pc = .ok (.lastore, 1))
    (kk : ∀ (H1 : Heap) (locs1 : List Loc), jSim D E H1 (t, u, g, jset V κ j.toNatClampNeg a (.long x)) → va_S A s.heap H1 locs1 → W p l e R s m args below meth c H1 locs1 cells slots Q (F0 m (pc + 1) ls rest)) : W p l e R s m args below meth c H locs cells slots Q (F0 m pc ls (.long x :: .int j :: .ref a :: rest)) := by
  have h1 := jcell_arrV (hS.2 a κ n hg) hκ hκ2
  have h5 := arrV_size (E κ) n (fun k => V κ k a)
  refine W.last hx hb h1 (jarr_of hK hk rfl (fun q h => by cases h)) (fun h => by cases h) (jin_no hj h5) rfl rfl hd fun H1 e z o => ?_
  obtain ⟨r1, r2⟩ := jast_fin hS hS0 hA hg hκ ⟨_, hk⟩ e z o
  exact kk H1 _ r1 r2
theorem jzast_sound (hx : p.tables.exec = Jvm.exec) (hb : c.code = cc) (hK : jK D E s) (hS : jSim D E H (t, u, g, V)) (hS0 : va_S A s.heap H locs) (hA : A a) (hg : g a = some (κ, n)) (hκ : 50 ≤ κ) (hκ2 : κ < 90) (hk : jkt κ = some .boolean) {j x : Int32} (hx2 : jfits .boolean (.int x) = true) (hj : jin j n = true) (hd : decode cc pc = .ok (.bastore, 1))
    (kk : ∀ (H1 : Heap) (locs1 : List Loc), jSim D E H1 (t, u, g, jset V κ j.toNatClampNeg a (.int x)) → va_S A s.heap H1 locs1 → W p l e R s m args below meth c H1 locs1 cells slots Q (F0 m (pc + 1) ls rest)) : W p l e R s m args below meth c H locs cells slots Q (F0 m pc ls (.int x :: .int j :: .ref a :: rest)) := by
  have h1 := jcell_arrV (hS.2 a κ n hg) hκ hκ2
  have h5 := arrV_size (E κ) n (fun k => V κ k a)
  refine W.zast hx hb h1 (jarr_of hK hk rfl (fun q h => by cases h)) (fun h => by cases h) (jin_no hj h5) rfl rfl hd fun H1 e z o => ?_
  rw [(jfits_ok hx2).1] at e
  obtain ⟨r1, r2⟩ := jast_fin hS hS0 hA hg hκ ⟨_, hk⟩ e z o
  exact kk H1 _ r1 r2
/-- an object of class number κv into an array of references -/
theorem jaast_sound (hx : p.tables.exec = Jvm.exec) (hb : c.code = cc) (hW : jW s) (hK : jK D E s) (hS : jSim D E H (t, u, g, V)) (hS0 : va_S A s.heap H locs) (hA : A a) (hg : g a = some (κ, n)) (hκ : 50 ≤ κ) (hκ2 : κ < 90) {C0 : String} (hk : jkt κ = some (.object C0)) {v κv nv : Nat} (hgv : g v = some (κv, nv)) (hκv : κv < 50) {q : vw_C} (hq : vwCl[κv]? = some q) (hca : q.1 = C0 ∨ Cond.castable q.1 C0 ∈ jwords) {j : Int32} (hj : jin j n = true) (hd : decode cc pc = .ok (.aastore, 1))
    (kk : ∀ (H1 : Heap) (locs1 : List Loc), jSim D E H1 (t, u, g, jset V κ j.toNatClampNeg a (.ref v)) → va_S A s.heap H1 locs1 → W p l e R s m args below meth c H1 locs1 cells slots Q (F0 m (pc + 1) ls rest)) : W p l e R s m args below meth c H locs cells slots Q (F0 m pc ls (.ref v :: .int j :: .ref a :: rest)) := by
  have h1 := jcell_arrV (hS.2 a κ n hg) hκ hκ2
  have h5 := arrV_size (E κ) n (fun k => V κ k a)
  obtain ⟨-, cv, g1, g2, g3, -⟩ := jcell_obj (hS.2 v κv nv hgv) hκv hq
  obtain ⟨⟨kA, comp, k1, k2, k3⟩, -⟩ := hK.2 κ _ hk
  have hcls := (hK.1 κv _ hq).2
  obtain ⟨hfc, kC, hkC, -⟩ := hcls
  have hcomp := k3 C0 rfl
  obtain ⟨kE, hkE, -⟩ := Vm.findClass_spec hcomp
  have hasg : s.vm.assignable (D.1 κv) comp = true := by
    rcases hca with h | h
    · rw [h] at hfc
      cases hfc.symm.trans hcomp
      exact va_asg _ _
    · obtain ⟨c0, t1, f1, f2, f3⟩ := Cond.castable_spec (hW _ h args)
      cases hfc.symm.trans f1
      cases hcomp.symm.trans f2
      exact f3
  refine W.aast hx hb h1 (fun q h => by cases h) (fun h => by cases h) k1 k2 rfl hkE ⟨(jin_ok hj).1, by rw [h5]; exact (jin_ok hj).2⟩ g1 (fun q h => by rw [g3] at h; cases h) (by rw [g2]; exact hkC) (by rw [g2]; exact hasg) rfl rfl hd fun H1 e z o => ?_
  obtain ⟨r1, r2⟩ := jast_fin hS hS0 hA hg hκ ⟨_, hk⟩ e z o
  exact kk H1 _ r1 r2
theorem jaastN_sound (hx : p.tables.exec = Jvm.exec) (hb : c.code = cc) (hK : jK D E s) (hS : jSim D E H (t, u, g, V)) (hS0 : va_S A s.heap H locs) (hA : A a) (hg : g a = some (κ, n)) (hκ : 50 ≤ κ) (hκ2 : κ < 90) {C0 : String} (hk : jkt κ = some (.object C0)) {j : Int32} (hj : jin j n = true) (hd : decode cc pc = .ok (.aastore, 1))
    (kk : ∀ (H1 : Heap) (locs1 : List Loc), jSim D E H1 (t, u, g, jset V κ j.toNatClampNeg a .null) → va_S A s.heap H1 locs1 → W p l e R s m args below meth c H1 locs1 cells slots Q (F0 m (pc + 1) ls rest)) : W p l e R s m args below meth c H locs cells slots Q (F0 m pc ls (.null :: .int j :: .ref a :: rest)) := by
  have h1 := jcell_arrV (hS.2 a κ n hg) hκ hκ2
  have h5 := arrV_size (E κ) n (fun k => V κ k a)
  refine va_WaastN (C := C0) hx hb h1 (jarr_of hK hk rfl (fun q h => by cases h)) (fun h => by cases h) (jin_no hj h5) rfl rfl hd fun H1 e z o => ?_
  obtain ⟨r1, r2⟩ := jast_fin hS hS0 hA hg hκ ⟨_, hk⟩ e z o
  exact kk H1 _ r1 r2
theorem jnewa_sound (hx : p.tables.exec = Jvm.exec) (hb : c.code = cc) (hW : jW s) (hK : jK D E s) {aty : ArrayType} (hk : jkt κ = some (newarray.typeOf aty)) (hκ : 50 ≤ κ) (hκ2 : κ ≠ 94) (hw : Cond.arrayClass (newarray.typeOf aty) ∈ jwords) (hS : jSim D E H (t, u, g, V)) (hS0 : va_S A s.heap H locs) {x : Int32} (h0 : ¬ x < 0) (hbytes : x.toNatClampNeg * componentBytes (newarray.typeOf aty) ≤ 536870912) (hcells : cells + 1 ≤ R.cells) (hslots : slots + x.toNatClampNeg ≤ R.slots) (hd : decode cc pc = .ok (.newarray aty, 2))
    (kk : ∀ H1 : Heap, jSim D E H1 (t + 1, u + x.toNatClampNeg, jgset g t (κ, x.toNatClampNeg), jput V κ t (fun _ => defaultValue (newarray.typeOf aty))) → va_S A s.heap H1 locs → W p l e R s m args below meth c H1 locs (cells + 1) (slots + x.toNatClampNeg) Q (F0 m (pc + 2) ls (.ref t :: rest))) : W p l e R s m args below meth c H locs cells slots Q (F0 m pc ls (.int x :: rest)) := by
  have hsz : H.size = t := hS.1
  subst hsz
  refine W.newa hx hb (hW _ hw args) (g := F0 m pc ls (.int x :: rest)) rfl hd rfl h0 hbytes hcells hslots fun cA kA comp h1 h2 h3 => ?_
  have hcA : cA = E κ := Option.some.inj (h1.symm.trans ((hK.2 κ _ hk).2 hκ2))
  subst hcA
  have e1 : (H.push { cls := E κ, slots := Array.replicate x.toNatClampNeg (defaultValue (newarray.typeOf aty)), vm := .none })[H.size]? = some (arrV (E κ) x.toNatClampNeg (fun _ => defaultValue (newarray.typeOf aty))) := by rw [← arrV_new]; simp
  have e2 : ∀ q : Nat, q < H.size → (H.push { cls := E κ, slots := Array.replicate x.toNatClampNeg (defaultValue (newarray.typeOf aty)), vm := .none })[q]? = H[q]? := fun q hq => by rw [Array.getElem?_push, if_neg (Nat.ne_of_lt hq)]
  exact kk _ (jSim_push hS (jcell_ofV hκ ⟨_, hk⟩ e1 (fun k => by rw [jput_ap, if_pos ⟨rfl, rfl⟩])) (by simp) e2 (fun κ' k' b hb => by rw [jput_ap, if_neg (fun h => hb h.2)])) (jS_push hS0 (by simp) e2)
theorem janew_sound (hx : p.tables.exec = Jvm.exec) (hb : c.code = cc) (hW : jW s) (hK : jK D E s) (hown : s.vm.findClass own = some m.cls) {C0 : String} (hk : jkt κ = some (.object C0)) (hκ : 50 ≤ κ) (hκ2 : κ ≠ 94) (hl : Cond.classLink own idx C0 ∈ jwords) (hw : Cond.arrayOver (.object C0) ∈ jwords) (hS : jSim D E H (t, u, g, V)) (hS0 : va_S A s.heap H locs) {x : Int32} (h0 : ¬ x < 0) (hbytes : x.toNatClampNeg * 4 ≤ 536870912) (hcells : cells + 1 ≤ R.cells) (hslots : slots + x.toNatClampNeg ≤ R.slots) (hd : decode cc pc = .ok (.anewarray idx, 3))
    (kk : ∀ H1 : Heap, jSim D E H1 (t + 1, u + x.toNatClampNeg, jgset g t (κ, x.toNatClampNeg), jput V κ t (fun _ => .null)) → va_S A s.heap H1 locs → W p l e R s m args below meth c H1 locs (cells + 1) (slots + x.toNatClampNeg) Q (F0 m (pc + 3) ls (.ref t :: rest))) : W p l e R s m args below meth c H locs cells slots Q (F0 m pc ls (.int x :: rest)) := by
  have hsz : H.size = t := hS.1
  subst hsz
  refine W.anew hx hb hown (hW _ hl args) (hW _ hw args) (g := F0 m pc ls (.int x :: rest)) rfl hd rfl h0 hbytes hcells hslots fun cA kA comp h1 h2 h3 h4 => ?_
  have hcA : cA = E κ := Option.some.inj (h1.symm.trans ((hK.2 κ _ hk).2 hκ2))
  subst hcA
  have e1 : (H.push { cls := E κ, slots := Array.replicate x.toNatClampNeg (.null), vm := .none })[H.size]? = some (arrV (E κ) x.toNatClampNeg (fun _ => .null)) := by rw [← arrV_new]; simp
  have e2 : ∀ q : Nat, q < H.size → (H.push { cls := E κ, slots := Array.replicate x.toNatClampNeg (.null), vm := .none })[q]? = H[q]? := fun q hq => by rw [Array.getElem?_push, if_neg (Nat.ne_of_lt hq)]
  exact kk _ (jSim_push hS (jcell_ofV hκ ⟨_, hk⟩ e1 (fun k => by rw [jput_ap, if_pos ⟨rfl, rfl⟩])) (by simp) e2 (fun κ' k' b hb => by rw [jput_ap, if_neg (fun h => hb h.2)])) (jS_push hS0 (by simp) e2)
/-- a cast of an object -/
theorem jcast_sound (hx : p.tables.exec = Jvm.exec) (hb : c.code = cc) (hW : jW s) (hK : jK D E s) (hown : s.vm.findClass own = some m.cls) {q : vw_C} (hq : vwCl[κ]? = some q) (hκ : κ < 50) {nm : String} (hl : Cond.classLink own idx nm ∈ jwords) (hca : q.1 = nm ∨ Cond.castable q.1 nm ∈ jwords) (hS : jSim D E H (t, u, g, V)) (hg : g a = some (κ, n)) (hd : decode cc pc = .ok (.checkcast idx, 3))
    (kk : W p l e R s m args below meth c H locs cells slots Q (F0 m (pc + 3) ls (.ref a :: rest))) : W p l e R s m args below meth c H locs cells slots Q (F0 m pc ls (.ref a :: rest)) := by
  obtain ⟨-, cell, q1, q2, q3, -⟩ := jcell_obj (hS.2 a κ n hg) hκ hq
  have hfc := (hK.1 κ _ hq).2.1
  have hst : cell.vm.isStatics = false := by rw [q3]; rfl
  rcases hca with h | h
  · intro T hT X
    obtain ⟨vm', X', st⟩ := X.checkcastYes hx hown (hW _ hl args) (by rw [hT]; exact q1) hst (by rw [← h]; exact hfc) (by rw [q2]; exact va_asg _ _) (g := F0 m pc ls (.ref a :: rest)) rfl rfl (by rw [hb]; exact hd)
    obtain ⟨t', a1, b1⟩ := kk (T.setVm vm') hT X'
    exact ⟨t', st t' a1, b1⟩
  · exact va_castY hx hb hown (hW _ hl args) (va_Nw.of rfl (hW _ h args)) ⟨cell, q1, hst, by rw [q2]; exact hfc⟩ hd kk
/-- a cast of an array to its own class -/
theorem jcastA_sound (hx : p.tables.exec = Jvm.exec) (hb : c.code = cc) (hW : jW s) (hK : jK D E s) (hown : s.vm.findClass own = some m.cls) {ty : FieldType} (hk : jkt κ = some ty) (hκ : 50 ≤ κ) (hκ2 : κ ≠ 94) (hl : Cond.classLink own idx ("[" ++ ty.toString) ∈ jwords) (hS : jSim D E H (t, u, g, V)) (hg : g a = some (κ, n)) (hd : decode cc pc = .ok (.checkcast idx, 3))
    (kk : W p l e R s m args below meth c H locs cells slots Q (F0 m (pc + 3) ls (.ref a :: rest))) : W p l e R s m args below meth c H locs cells slots Q (F0 m pc ls (.ref a :: rest)) := by
  obtain ⟨cell, h1, h2, h3, h4, h5, h6⟩ := jcell_arr (hS.2 a κ n hg) hκ
  have hst : cell.vm.isStatics = false := by
    cases hv : cell.vm <;> first | rfl | exact absurd hv (h4 _)
  intro T hT X
  obtain ⟨vm', X', st⟩ := X.checkcastYes hx hown (hW _ hl args) (by rw [hT]; exact h1) hst ((hK.2 κ _ hk).2 hκ2) (by rw [h2]; exact va_asg _ _) (g := F0 m pc ls (.ref a :: rest)) rfl rfl (by rw [hb]; exact hd)
  obtain ⟨t', a1, b1⟩ := kk (T.setVm vm') hT X'
  exact ⟨t', st t' a1, b1⟩
/-- System.arraycopy between arrays of one type -/
theorem jcopy_sound (hx : p.tables.exec = Jvm.exec) (hb : c.code = cc) (hml : c.maxLocals = ls.size) (hW : jW s) (hK : jK D E s) (hown : s.vm.findClass own = some m.cls) (hl : Cond.methodLink own idx arraycopyName ∈ jwords) (hnat : Cond.native arraycopyName ∈ jwords) (hstat : Cond.static arraycopyName ∈ jwords) (hini : Cond.initialized "java/lang/System" ∈ jwords)
    (hS : jSim D E H (t, u, g, V)) (hS0 : va_S A s.heap H locs) (hA : A a) {a0 κ0 n0 : Nat} (hg0 : g a0 = some (κ0, n0)) (hκ0 : 50 ≤ κ0) (hg : g a = some (κ, n)) (hκ : 50 ≤ κ) (hκ2 : κ < 90) {ty : FieldType} (hk0 : jkt κ0 = some ty) (hk : jkt κ = some ty) {sp dp x : Int32} (h1 : ¬ sp < 0) (h2 : ¬ dp < 0) (h3 : ¬ x < 0) (h4 : sp.toNatClampNeg + x.toNatClampNeg ≤ n0) (h5 : dp.toNatClampNeg + x.toNatClampNeg ≤ n)
    (hfit : ∀ i, i < x.toNatClampNeg → fits ty (V κ0 (sp.toNatClampNeg + i) a0) = true) (hel : ∀ i, i < x.toNatClampNeg → ∀ y : Nat, V κ0 (sp.toNatClampNeg + i) a0 = .ref y → ∃ (C0 : String) (κy ny : Nat) (q : vw_C), ty = .object C0 ∧ g y = some (κy, ny) ∧ κy < 50 ∧ vwCl[κy]? = some q ∧ (q.1 = C0 ∨ Cond.castable q.1 C0 ∈ jwords))
    (hframes : 1 ≤ R.frames) (hlocals : (rest.map fun v => v.category).sum + (nativeFrameWords "java/lang/System" "arraycopy" 5 + 11) ≤ R.locals) (hd : decode cc pc = .ok (.invokestatic idx, 3))
    (kk : ∀ (H1 : Heap) (locs1 : List Loc), jSim D E H1 (t, u, g, jput V κ a (va_cpy (fun k => V κ0 k a0) (fun k => V κ k a) sp.toNatClampNeg dp.toNatClampNeg x.toNatClampNeg)) → va_S A s.heap H1 locs1 → W p l e R s m args below meth c H1 locs1 cells slots Q (F0 m (pc + 3) ls rest)) : W p l e R s m args below meth c H locs cells slots Q (F0 m pc ls (.int x :: .int dp :: .ref a :: .int sp :: .ref a0 :: rest)) := by
  have nn : ∀ z : Int32, ¬ z < 0 → z.toInt = (z.toNatClampNeg : Int) := by
    intro z hz
    have hz0 : (0 : Int) ≤ z.toInt := by
      have := Int32.not_lt.mp hz
      simpa using Int32.le_iff_toInt_le.mp this
    show z.toInt = ((z.toInt.toNat : Nat) : Int)
    omega
  obtain ⟨cs, c1, c2, c3, c4, c5, c6⟩ := jcell_arr (hS.2 a0 κ0 n0 hg0) hκ0
  have hc1 := jcell_arrV (hS.2 a κ n hg) hκ hκ2
  obtain ⟨⟨k0, cm0, hk0c, hkk0, -⟩, -⟩ := hK.2 κ0 _ hk0
  obtain ⟨⟨k1, cm1, hk1c, hkk1, hcm1⟩, -⟩ := hK.2 κ _ hk
  have hget : ∀ i, i < x.toNatClampNeg → cs.slots.getD (sp.toNatClampNeg + i) .null = V κ0 (sp.toNatClampNeg + i) a0 := by
    intro i hi
    rw [Array.getD_eq_getD_getElem?, c6 _ (by omega)]
    rfl
  intro T hT X
  obtain ⟨vm', X', step⟩ := X.arraycopy hx hown (hW _ hl args) (hW _ hnat args) (hW _ hstat args) (hW _ hini args) (src := a0) (dst := a) (cs := cs) (cd := arrV (E κ) n (fun k => V κ k a)) (srcPos := sp) (destPos := dp) (n := x) (by rw [hT]; exact c1) (by rw [hT]; exact hc1)
    c4 (fun _ h => by cases h) c3 (fun h => by cases h) (by rw [c2]; exact hk0c) hk1c hkk0 hkk1 (by simp) h1 h2 h3
    (by rw [nn sp h1, nn x h3, c5]; omega)
    (by rw [nn dp h2, nn x h3, arrV_size]; omega)
    (fun vm₁ hal i hi => by
      refine ⟨by rw [hget i hi]; exact hfit i hi, ?_⟩
      rw [hget i hi]
      cases hv : V κ0 (sp.toNatClampNeg + i) a0 with
      | ref y =>
        obtain ⟨C0, κy, ny, q, hty, hgy, hκy, hqy, hca⟩ := hel i hi y hv
        obtain ⟨-, cv, g1, g2, g3, -⟩ := jcell_obj (hS.2 y κy ny hgy) hκy hqy
        obtain ⟨hfc, kC, hkC, -⟩ := (hK.1 κy _ hqy).2
        have hcomp := hcm1 C0 hty
        obtain ⟨kE, hkE, -⟩ := Vm.findClass_spec hcomp
        have hasg : s.vm.assignable (D.1 κy) cm1 = true := by
          rcases hca with h | h
          · rw [h] at hfc
            cases hfc.symm.trans hcomp
            exact va_asg _ _
          · obtain ⟨c0, t1, f1, f2, f3⟩ := Cond.castable_spec (hW _ h args)
            cases hfc.symm.trans f1
            cases hcomp.symm.trans f2
            exact f3
        obtain ⟨kC', hkC', -⟩ := hal.2.2 _ _ hkC
        obtain ⟨kE', hkE', -⟩ := hal.2.2 _ _ hkE
        refine ⟨cv, (show T.heap[y]? = some cv by rw [hT]; exact g1), (fun q h => by rw [g3] at h; cases h), ⟨kC', by rw [g2]; exact hkC'⟩, ⟨kE', hkE'⟩, ?_⟩
        show vm₁.assignable _ _ = true
        rw [hal.assignable, g2]
        exact hasg
      | _ => exact trivial)
    (g := F0 m pc ls (.int x :: .int dp :: .ref a :: .int sp :: .ref a0 :: rest)) rfl (by rw [hml]) (rest := rest) rfl (by rw [hb]; exact hd) hframes (by show 2 * 0 + _ + _ ≤ _; omega)
  have e1 : copied cs (arrV (E κ) n (fun k => V κ k a)) sp dp x = arrV (E κ) n (va_cpy (fun k => V κ0 k a0) (fun k => V κ k a) sp.toNatClampNeg dp.toNatClampNeg x.toNatClampNeg) := va_copiedX (fun z => z) cs (E κ) (fun k => V κ0 k a0) (fun k => V κ k a) c6 h4
  rw [e1] at X' step
  have hlt : a < H.size := (Array.getElem?_eq_some_iff.mp hc1).1
  generalize hcell : arrV (E κ) n (va_cpy (fun k => V κ0 k a0) (fun k => V κ k a) sp.toNatClampNeg dp.toNatClampNeg x.toNatClampNeg) = cell at X' step
  have hheap : ((T.setVm vm').setCell a cell).heap = H.setIfInBounds a cell := by rw [← hT]; rfl
  have oa : (H.setIfInBounds a cell)[a]? = some cell := by simp [Array.getElem?_setIfInBounds, hlt]
  have oq : ∀ q : Nat, q ≠ a → (H.setIfInBounds a cell)[q]? = H[q]? := fun q hq => by simp [Array.getElem?_setIfInBounds, Ne.symm hq]
  obtain ⟨t', a1, b1⟩ := kk _ _ (jSim_put hS hg (jcell_ofV hκ ⟨_, hk⟩ (by rw [hcell]; exact oa) (fun k => by rw [jput_ap, if_pos ⟨rfl, rfl⟩])) (by simp) oq (fun κ' k' b hb => by rw [jput_ap, if_neg (fun h => hb h.2)])) ⟨by simp; exact hS0.1, fun q g1 g2 => by
      rw [oq q (fun e => g2 (by rw [e]; exact hA))]
      exact hS0.2.1 q g1 g2, fun q hq => by
      rcases List.mem_append.mp hq with h | h
      · exact hS0.2.2 q h
      · obtain ⟨z, -, hz⟩ := List.mem_map.mp h
        rw [← hz]
        exact hA⟩ _ hheap X'
  exact ⟨t', step t' a1, b1⟩
end JM
end
section
-- ===== one step =====
/-- memory: an instruction that reads or writes cells; its length, the new stack, the new memory -/
def jmem (sv : Nat → Value) (μ pc : Nat) (i : ClassFile.Instr) (st : List Value) (M : jM) : Option (Nat × List Value × jM) := match i, st with
  | .getfield idx, .ref a :: r => match jfl (jow μ) idx, M.2.2.1 a with
    | some (κ, k), some (κ', _) => if κ' = κ then some (3, M.2.2.2 κ k a :: r, M) else none
    | _, _ => none
  | .putfield idx, v :: .ref a :: r => match jfl (jow μ) idx, M.2.2.1 a with
    | some (κ, k), some (κ', _) => if κ' = κ ∧ jpf μ κ k = true ∧ jfits (jty κ k) v = true then some (3, r, M.1, M.2.1, M.2.2.1, jset M.2.2.2 κ k a v) else none
    | _, _ => none
  | .new idx, st => match jnw (jow μ) idx with
    | some (κ, N, w) => some (3, .ref M.1 :: st, M.1 + 1, M.2.1 + w, jgset M.2.2.1 M.1 (κ, N), jput M.2.2.2 κ M.1 (fun k => defaultValue (jty κ k)))
    | none => none
  | .newarray aty, .int x :: r => match jna μ pc aty with
    | some κ => if ¬ x < 0 ∧ x.toNatClampNeg ≤ 1000000 then some (2, .ref M.1 :: r, M.1 + 1, M.2.1 + x.toNatClampNeg, jgset M.2.2.1 M.1 (κ, x.toNatClampNeg), jput M.2.2.2 κ M.1 (fun _ => defaultValue (newarray.typeOf aty))) else none
    | none => none
  | .anewarray idx, .int x :: r => match janw (jow μ) idx with
    | some κ => if ¬ x < 0 ∧ x.toNatClampNeg ≤ 1000000 then some (3, .ref M.1 :: r, M.1 + 1, M.2.1 + x.toNatClampNeg, jgset M.2.2.1 M.1 (κ, x.toNatClampNeg), jput M.2.2.2 κ M.1 (fun _ => .null)) else none
    | none => none
  | .arraylength, .ref a :: r => match M.2.2.1 a with
    | some (κ, n) => if 50 ≤ κ then some (1, .int (Int32.ofNat n) :: r, M) else none
    | none => none
  | .iaload, .int j :: .ref a :: r => match M.2.2.1 a with
    | some (κ, n) => if jkt κ = some .int ∧ jin j n = true then some (1, M.2.2.2 κ j.toNatClampNeg a :: r, M) else none
    | none => none
  | .laload, .int j :: .ref a :: r => match M.2.2.1 a with
    | some (κ, n) => if jkt κ = some .long ∧ jin j n = true then some (1, M.2.2.2 κ j.toNatClampNeg a :: r, M) else none
    | none => none
  | .baload, .int j :: .ref a :: r => match M.2.2.1 a with
    | some (κ, n) => if jkt κ = some .boolean ∧ jin j n = true then some (1, M.2.2.2 κ j.toNatClampNeg a :: r, M) else none
    | none => none
  | .aaload, .int j :: .ref a :: r => match M.2.2.1 a with
    | some (κ, n) => if jkr κ = true ∧ jin j n = true then some (1, M.2.2.2 κ j.toNatClampNeg a :: r, M) else none
    | none => none
  | .iastore, .int x :: .int j :: .ref a :: r => match M.2.2.1 a with
    | some (κ, n) => if (κ < 90 ∧ jkt κ = some .int) ∧ jin j n = true then some (1, r, M.1, M.2.1, M.2.2.1, jset M.2.2.2 κ j.toNatClampNeg a (.int x)) else none
    | none => none
  | .lastore, .long x :: .int j :: .ref a :: r => match M.2.2.1 a with
    | some (κ, n) => if (κ < 90 ∧ jkt κ = some .long) ∧ jin j n = true then some (1, r, M.1, M.2.1, M.2.2.1, jset M.2.2.2 κ j.toNatClampNeg a (.long x)) else none
    | none => none
  | .bastore, .int x :: .int j :: .ref a :: r => match M.2.2.1 a with
    | some (κ, n) => if (κ < 90 ∧ jkt κ = some .boolean) ∧ jfits .boolean (.int x) = true ∧ jin j n = true then some (1, r, M.1, M.2.1, M.2.2.1, jset M.2.2.2 κ j.toNatClampNeg a (.int x)) else none
    | none => none
  | .aastore, .ref v :: .int j :: .ref a :: r => match M.2.2.1 a, M.2.2.1 v with
    | some (κ, n), some (κv, _) => if 50 ≤ κ ∧ κ < 90 ∧ jca κ κv = true ∧ jin j n = true then some (1, r, M.1, M.2.1, M.2.2.1, jset M.2.2.2 κ j.toNatClampNeg a (.ref v)) else none
    | _, _ => none
  | .aastore, .null :: .int j :: .ref a :: r => match M.2.2.1 a with
    | some (κ, n) => if κ < 90 ∧ jkr κ = true ∧ jin j n = true then some (1, r, M.1, M.2.1, M.2.2.1, jset M.2.2.2 κ j.toNatClampNeg a .null) else none
    | none => none
  | .getstatic idx, st => match jsg (jow μ) idx with
    | some k => some (3, sv k :: st, M)
    | none => none
  | .ldc idx, st => match jldc (jow μ) idx with
    | some (.inl x) => some (2, .int x :: st, M)
    | some (.inr k) => some (2, sv k :: st, M)
    | none => none
  | .ldc2_w idx, st => match jldl (jow μ) idx with
    | some x => some (3, .long x :: st, M)
    | none => none
  | .checkcast _, .null :: r => some (3, .null :: r, M)
  | .checkcast idx, .ref a :: r => match M.2.2.1 a with
    | some (κ, _) => if jck (jow μ) idx κ = true then some (3, .ref a :: r, M) else none
    | none => none
  | _, _ => none
/-- what a copied element must be -/
def jel (ty : FieldType) (κ : Nat) (g : jG) (v : Value) : Bool := fits ty v && match v with
  | .ref y => match g y with
    | some (κy, _) => jca κ κy
    | none => false
  | _ => true
def jcat (st : List Value) : Nat := (st.map fun v => v.category).sum
/-- arraycopy -/
def jcpy (st : List Value) (M : jM) : Option (List Value × jM) := match st with
  | .int x :: .int dp :: .ref a :: .int sp :: .ref a0 :: r => match M.2.2.1 a0, M.2.2.1 a with
    | some (κ0, n0), some (κ, n) => match jkt κ with
      | some ty => if jcat r ≤ 8 ∧ (50 ≤ κ0 ∧ 50 ≤ κ ∧ κ < 90 ∧ jkt κ0 = some ty) ∧ (¬ sp < 0 ∧ ¬ dp < 0 ∧ ¬ x < 0) ∧ (sp.toNatClampNeg + x.toNatClampNeg ≤ n0 ∧ dp.toNatClampNeg + x.toNatClampNeg ≤ n) ∧ ∀ i, i < x.toNatClampNeg → jel ty κ M.2.2.1 (M.2.2.2 κ0 (sp.toNatClampNeg + i) a0) = true
        then some (r, M.1, M.2.1, M.2.2.1, jput M.2.2.2 κ a (va_cpy (fun k => M.2.2.2 κ0 k a0) (fun k => M.2.2.2 κ k a) sp.toNatClampNeg dp.toNatClampNeg x.toNatClampNeg)) else none
      | none => none
    | _, _ => none
  | _ => none
/-- natives: Object's constructor, arraycopy, max and min, getClass -/
def jnatv (sv : Nat → Value) (μ : Nat) (i : ClassFile.Instr) (st : List Value) (M : jM) : Option (List Value × jM) := match i with
  | .invokespecial idx => if jnt (jow μ) idx = some 0 then match st with
    | .ref _ :: r => if jcat r ≤ 8 then some (r, M) else none
    | _ => none
    else none
  | .invokestatic idx => match jnt (jow μ) idx with
    | some c => if c = 1 then jcpy st M else if c = 3 then match st with
      | .int y :: .int x :: r => if jcat r ≤ 8 then some (.int (if x < y then y else x) :: r, M) else none
      | _ => none
      else if c = 4 then match st with
      | .int y :: .int x :: r => if jcat r ≤ 8 then some (.int (if y < x then y else x) :: r, M) else none
      | _ => none
      else none
    | none => none
  | .invokevirtual idx => if jnt (jow μ) idx = some 2 then match st with
    | .ref a :: r => if jcat r ≤ 8 then match M.2.2.1 a with
      | some (κ, _) => match jmi κ with
        | some k => some (sv k :: r, M)
        | none => none
      | none => none
      else none
    | _ => none
    else none
  | _ => none
/-- calls: the callee's first frame, and the frame behind the call without the answer -/
def jcall (μ pc : Nat) (L : jL) (i : ClassFile.Instr) (st : List Value) (M : jM) : Option (jF × jF) := match i with
  | .invokevirtual idx => match jmt (jow μ) idx with
    | some (md, μ', n, κ) => if md = 0 then match st.drop n with
      | .ref b :: r => if (M.2.2.1 b).map Prod.fst = some κ ∧ jcat r ≤ 8 ∧ n ≤ st.length ∧ (jarg (.ref b :: (st.take n).reverse)).length ≤ jmaxl μ' then some ((μ', 0, jent (jmaxl μ') (.ref b :: (st.take n).reverse), []), (μ, pc + 3, L, r)) else none
      | _ => none
      else none
    | none => none
  | .invokespecial idx => match jmt (jow μ) idx with
    | some (md, μ', n, _) => if md = 1 then match st.drop n with
      | .ref b :: r => if jcat r ≤ 8 ∧ n ≤ st.length ∧ (jarg (.ref b :: (st.take n).reverse)).length ≤ jmaxl μ' then some ((μ', 0, jent (jmaxl μ') (.ref b :: (st.take n).reverse), []), (μ, pc + 3, L, r)) else none
      | _ => none
      else none
    | none => none
  | .invokestatic idx => match jmt (jow μ) idx with
    | some (md, μ', n, _) => if md = 2 then if jcat (st.drop n) ≤ 8 ∧ n ≤ st.length ∧ (jarg (st.take n).reverse).length ≤ jmaxl μ' then some ((μ', 0, jent (jmaxl μ') (st.take n).reverse, []), (μ, pc + 3, L, st.drop n)) else none
      else none
    | none => none
  | _ => none
def jrt (μ : Nat) (i : ClassFile.Instr) (st : List Value) : Option (Option Value) := match i, st with
  | .ireturn, [.int v] => if jret μ = some .int ∨ (jret μ = some .boolean ∧ jfits .boolean (.int v) = true) then some (some (.int v)) else none
  | .lreturn, [.long v] => if jret μ = some .long then some (some (.long v)) else none
  | .areturn, [.ref a] => if (jret μ).any (·.isReference) = true then some (some (.ref a)) else none
  | .areturn, [.null] => if (jret μ).any (·.isReference) = true then some (some .null) else none
  | .return_, [] => if jret μ = none then some none else none
  | _, _ => none
/-- a step: goes on (0: with no call, 1: with one native call), returns, or calls -/
def jex (sv : Nat → Value) (μ pc : Nat) (L : jL) (st : List Value) (M : jM) (i : ClassFile.Instr) (len : Nat) : Option jS :=
  match jpure i L st with
  | some (n, L', st') => if n = len then some (.inl (0, (μ, pc + n, L', st'), M)) else none
  | none => match jbr i len pc st with
    | some (t, st') => some (.inl (0, (μ, t, L, st'), M))
    | none => match jmem sv μ pc i st M with
      | some (n, st', M') => if n = len then some (.inl (0, (μ, pc + n, L, st'), M')) else none
      | none => match jrt μ i st with
        | some r => if len = 1 then some (.inr (.inl r)) else none
        | none => if len = 3 then match jnatv sv μ i st M with
          | some (st', M') => some (.inl (1, (μ, pc + 3, L, st'), M'))
          | none => (jcall μ pc L i st M).map fun q => .inr (.inr q)
          else none
def jstep (sv : Nat → Value) (F : jF) (M : jM) : Option jS := match decode (jcode F.1) F.2.1 with
  | .ok (i, len) => jex sv F.1 F.2.1 F.2.2.1 F.2.2.2 M i len
  | .error _ => none
end
section
-- ===== running =====
/-- d: how deep calls may go; n: fuel -/
def jrun (sv : Nat → Value) : Nat → Nat → jF → jM → Option (Option Value × jM)
  | 0, _, _, _ => none
  | n + 1, d, F, M => match jstep sv F M with
    | none => none
    | some (.inl (b, F', M')) => if b ≤ d then jrun sv n d F' M' else none
    | some (.inr (.inl r)) => some (r, M)
    | some (.inr (.inr (Fe, Fr))) => match d with
      | 0 => none
      | d' + 1 => match jrun sv n d' Fe M with
        | none => none
        | some (r, M1) => jrun sv n (d' + 1) (Fr.1, Fr.2.1, Fr.2.2.1, r.toList ++ Fr.2.2.2) M1
theorem jrun_mono (sv : Nat → Value) : ∀ (n d : Nat) (F : jF) (M : jM) (x : Option Value × jM), jrun sv n d F M = some x → ∀ (n' d' : Nat), n ≤ n' → d ≤ d' → jrun sv n' d' F M = some x := by
  intro n
  induction n with
  | zero => intro d F M x h; simp [jrun] at h
  | succ n ih =>
    intro d F M x h n' d' hn hd
    obtain ⟨k, rfl⟩ : ∃ k, n' = k + 1 := ⟨n' - 1, by omega⟩
    rw [jrun] at h ⊢
    cases hs : jstep sv F M with
    | none => rw [hs] at h; cases h
    | some z =>
      rw [hs] at h
      rcases z with ⟨b, F', M'⟩ | r | ⟨Fe, Fr⟩
      · dsimp only at h ⊢
        split at h
        · rename_i hb
          rw [if_pos (Nat.le_trans hb hd)]
          exact ih d F' M' x h k d' (by omega) hd
        · cases h
      · exact h
      · cases d with
        | zero => cases h
        | succ d0 =>
          obtain ⟨d1, rfl⟩ : ∃ d1, d' = d1 + 1 := ⟨d' - 1, by omega⟩
          dsimp only at h ⊢
          cases h1 : jrun sv n d0 Fe M with
          | none => rw [h1] at h; cases h
          | some y =>
            obtain ⟨r, M1⟩ := y
            rw [h1] at h
            rw [ih d0 Fe M (r, M1) h1 k d1 (by omega) (by omega)]
            exact ih (d0 + 1) _ M1 x h k (d1 + 1) (by omega) (by omega)
def Ev (sv : Nat → Value) (d : Nat) (F : jF) (M : jM) (Q : Option Value → jM → Prop) : Prop := ∃ n r M', jrun sv n d F M = some (r, M') ∧ Q r M'
theorem Ev.mono {sv : Nat → Value} {d d' : Nat} {F : jF} {M : jM} {Q Q' : Option Value → jM → Prop} (h : Ev sv d F M Q) (hd : d ≤ d') (hQ : ∀ r M', Q r M' → Q' r M') : Ev sv d' F M Q' := by
  obtain ⟨n, r, M', h1, h2⟩ := h
  exact ⟨n, r, M', jrun_mono sv n d F M _ h1 n d' (Nat.le_refl n) hd, hQ r M' h2⟩
theorem Ev_next {sv : Nat → Value} {d b : Nat} {F F' : jF} {M M' : jM} {Q : Option Value → jM → Prop} (h : jstep sv F M = some (.inl (b, F', M'))) (hb : b ≤ d) : Ev sv d F M Q ↔ Ev sv d F' M' Q := by
  constructor
  · rintro ⟨n, r, M2, h1, h2⟩
    cases n with
    | zero => simp [jrun] at h1
    | succ n =>
      rw [jrun, h] at h1
      dsimp only at h1
      rw [if_pos hb] at h1
      exact ⟨n, r, M2, h1, h2⟩
  · rintro ⟨n, r, M2, h1, h2⟩
    exact ⟨n + 1, r, M2, by rw [jrun, h]; dsimp only; rw [if_pos hb]; exact h1, h2⟩
theorem Ev_ret {sv : Nat → Value} {d : Nat} {F : jF} {M : jM} {r : Option Value} {Q : Option Value → jM → Prop} (h : jstep sv F M = some (.inr (.inl r))) : Ev sv d F M Q ↔ Q r M := by
  constructor
  · rintro ⟨n, r', M2, h1, h2⟩
    cases n with
    | zero => simp [jrun] at h1
    | succ n =>
      rw [jrun, h] at h1
      cases h1
      exact h2
  · intro hq
    exact ⟨1, r, M, by rw [jrun, h], hq⟩
theorem Ev_call {sv : Nat → Value} {d : Nat} {F Fe Fr : jF} {M : jM} {Q : Option Value → jM → Prop} (h : jstep sv F M = some (.inr (.inr (Fe, Fr)))) : Ev sv (d + 1) F M Q ↔ Ev sv d Fe M (fun r M1 => Ev sv (d + 1) (Fr.1, Fr.2.1, Fr.2.2.1, r.toList ++ Fr.2.2.2) M1 Q) := by
  constructor
  · rintro ⟨n, r, M2, h1, h2⟩
    cases n with
    | zero => simp [jrun] at h1
    | succ n =>
      rw [jrun, h] at h1
      dsimp only at h1
      cases h3 : jrun sv n d Fe M with
      | none => rw [h3] at h1; cases h1
      | some y =>
        obtain ⟨r1, M1⟩ := y
        rw [h3] at h1
        exact ⟨n, r1, M1, h3, n, r, M2, h1, h2⟩
  · rintro ⟨n, r1, M1, h1, n2, r, M2, h2, h3⟩
    refine ⟨max n n2 + 1, r, M2, ?_, h3⟩
    rw [jrun, h]
    dsimp only
    rw [jrun_mono sv n d Fe M _ h1 (max n n2) d (by omega) (Nat.le_refl d)]
    exact jrun_mono sv n2 (d + 1) _ M1 _ h2 (max n n2) (d + 1) (by omega) (Nat.le_refl _)
-- ===== memory only grows =====
def jle (M M' : jM) : Prop := M.1 ≤ M'.1 ∧ M.2.1 ≤ M'.2.1 ∧ ∀ a, a < M.1 → M'.2.2.1 a = M.2.2.1 a
theorem jle_rf (M : jM) : jle M M := ⟨Nat.le_refl _, Nat.le_refl _, fun _ _ => rfl⟩
theorem jle.tr {M M' M'' : jM} (h : jle M M') (h' : jle M' M'') : jle M M'' := ⟨Nat.le_trans h.1 h'.1, Nat.le_trans h.2.1 h'.2.1, fun a ha => (h'.2.2 a (Nat.lt_of_lt_of_le ha h.1)).trans (h.2.2 a ha)⟩
theorem jle_new {t u w : Nat} {g : jG} {V V' : jV} {x : Nat × Nat} : jle (t, u, g, V) (t + 1, u + w, jgset g t x, V') := ⟨Nat.le_succ _, Nat.le_add_right _ _, fun a ha => by show jgset g t x a = g a; rw [jgset_ap, if_neg (Nat.ne_of_lt ha)]⟩
theorem jle_V {t u : Nat} {g : jG} {V V' : jV} : jle (t, u, g, V) (t, u, g, V') := ⟨Nat.le_refl _, Nat.le_refl _, fun _ _ => rfl⟩
theorem jA_mono {M M' : jM} (h : jle M M') {q : Nat} (hq : jA M' q) : jA M q := by
  by_cases hlt : q < M.1
  · rcases hq with ⟨κ, n, h1, h2⟩ | h1
    · exact Or.inl ⟨κ, n, by rw [← h.2.2 q hlt]; exact h1, h2⟩
    · exact absurd (Nat.le_trans h.1 h1) (Nat.not_le.mpr hlt)
  · exact Or.inr (Nat.not_lt.mp hlt)
set_option maxHeartbeats 4000000 in
theorem jmem_le {sv : Nat → Value} {μ pc len : Nat} {i : ClassFile.Instr} {st st' : List Value} {M M' : jM} (h : jmem sv μ pc i st M = some (len, st', M')) : jle M M' := by
  obtain ⟨t, u, g, V⟩ := M
  unfold jmem at h
  split at h
  all_goals (repeat' (first | (cases h; done) | (cases h; first | exact jle_rf _ | exact jle_new | exact jle_V) | (split at h)))
theorem jcpy_le {st st' : List Value} {M M' : jM} (h : jcpy st M = some (st', M')) : jle M M' ∧ M'.1 = M.1 ∧ M'.2.1 = M.2.1 := by
  obtain ⟨t, u, g, V⟩ := M
  unfold jcpy at h
  split at h
  all_goals (repeat' (first | (cases h; done) | (cases h; exact ⟨jle_V, rfl, rfl⟩) | (split at h)))
theorem jnatv_le {sv : Nat → Value} {μ : Nat} {i : ClassFile.Instr} {st st' : List Value} {M M' : jM} (h : jnatv sv μ i st M = some (st', M')) : jle M M' := by
  obtain ⟨t, u, g, V⟩ := M
  unfold jnatv at h
  split at h
  all_goals (repeat' (first | (exact (jcpy_le h).1) | (cases h; done) | (cases h; first | exact jle_rf _ | exact jle_new | exact jle_V) | (split at h)))
theorem jnatv_eq {sv : Nat → Value} {μ : Nat} {i : ClassFile.Instr} {st st' : List Value} {M M' : jM} (h : jnatv sv μ i st M = some (st', M')) : M'.1 = M.1 ∧ M'.2.1 = M.2.1 := by
  obtain ⟨t, u, g, V⟩ := M
  unfold jnatv at h
  split at h
  all_goals (repeat' (first | (exact (jcpy_le h).2) | (cases h; done) | (cases h; exact ⟨rfl, rfl⟩) | (split at h)))
theorem jcall_fr {μ pc : Nat} {L : jL} {i : ClassFile.Instr} {st : List Value} {M : jM} {Fe Fr : jF} (h : jcall μ pc L i st M = some (Fe, Fr)) : Fr.1 = μ ∧ Fr.2.2.1 = L := by
  unfold jcall at h
  split at h
  all_goals (repeat' (first | (cases h; done) | (cases h; exact ⟨rfl, rfl⟩) | (split at h)))
/-- what a step was -/
theorem jex_inv {sv : Nat → Value} {μ pc len : Nat} {L : jL} {st : List Value} {M : jM} {i : ClassFile.Instr} {z : jS} (h : jex sv μ pc L st M i len = some z) :
    (∃ L' st', jpure i L st = some (len, L', st') ∧ z = .inl (0, (μ, pc + len, L', st'), M)) ∨ (∃ t st', jbr i len pc st = some (t, st') ∧ z = .inl (0, (μ, t, L, st'), M)) ∨ (∃ st' M', jmem sv μ pc i st M = some (len, st', M') ∧ z = .inl (0, (μ, pc + len, L, st'), M')) ∨
    (∃ r, jrt μ i st = some r ∧ len = 1 ∧ z = .inr (.inl r)) ∨ (∃ st' M', len = 3 ∧ jnatv sv μ i st M = some (st', M') ∧ z = .inl (1, (μ, pc + 3, L, st'), M')) ∨ (∃ q, len = 3 ∧ jcall μ pc L i st M = some q ∧ z = .inr (.inr q)) := by
  unfold jex at h
  split at h
  · rename_i n L' st' h1
    split at h
    · rename_i hn
      subst hn
      cases h
      exact Or.inl ⟨L', st', h1, rfl⟩
    · cases h
  · split at h
    · rename_i t st' h1
      cases h
      exact Or.inr (Or.inl ⟨t, st', h1, rfl⟩)
    · split at h
      · rename_i n st' M' h1
        split at h
        · rename_i hn
          subst hn
          cases h
          exact Or.inr (Or.inr (Or.inl ⟨st', M', h1, rfl⟩))
        · cases h
      · split at h
        · rename_i r h1
          split at h
          · rename_i hn
            cases h
            exact Or.inr (Or.inr (Or.inr (Or.inl ⟨r, h1, hn, rfl⟩)))
          · cases h
        · split at h
          · rename_i hn
            split at h
            · rename_i st' M' h1
              cases h
              exact Or.inr (Or.inr (Or.inr (Or.inr (Or.inl ⟨st', M', hn, h1, rfl⟩))))
            · obtain ⟨q, h1, h2⟩ := Option.map_eq_some_iff.mp h
              exact Or.inr (Or.inr (Or.inr (Or.inr (Or.inr ⟨q, hn, h1, h2.symm⟩))))
          · cases h
theorem jrun_le (sv : Nat → Value) : ∀ (n d : Nat) (F : jF) (M : jM) (r : Option Value) (M' : jM), jrun sv n d F M = some (r, M') → jle M M' := by
  intro n
  induction n with
  | zero => intro d F M r M' h; simp [jrun] at h
  | succ n ih =>
    intro d F M r M' h
    rw [jrun] at h
    cases hs : jstep sv F M with
    | none => rw [hs] at h; cases h
    | some z =>
      rw [hs] at h
      unfold jstep at hs
      split at hs
      · rename_i i len hd
        rcases jex_inv hs with ⟨L', st', h1, rfl⟩ | ⟨t, st', h1, rfl⟩ | ⟨st', M1, h1, rfl⟩ | ⟨r1, h1, h2, rfl⟩ | ⟨st', M1, h2, h1, rfl⟩ | ⟨⟨Fe, Fr⟩, h2, h1, rfl⟩
        · dsimp only at h
          rw [if_pos (Nat.zero_le d)] at h
          exact ih _ _ _ _ _ h
        · dsimp only at h
          rw [if_pos (Nat.zero_le d)] at h
          exact ih _ _ _ _ _ h
        · dsimp only at h
          rw [if_pos (Nat.zero_le d)] at h
          exact (jmem_le h1).tr (ih _ _ _ _ _ h)
        · cases h
          exact jle_rf _
        · dsimp only at h
          split at h
          · exact (jnatv_le h1).tr (ih _ _ _ _ _ h)
          · cases h
        · cases d with
          | zero => cases h
          | succ d0 =>
            dsimp only at h
            cases h3 : jrun sv n d0 Fe M with
            | none => rw [h3] at h; cases h
            | some y =>
              obtain ⟨r1, M1⟩ := y
              rw [h3] at h
              exact (ih _ _ _ _ _ h3).tr (ih _ _ _ _ _ h)
      · cases hs
/-- any run, with the memory grown -/
theorem Ev.le {sv : Nat → Value} {d : Nat} {F : jF} {M : jM} {Q : Option Value → jM → Prop} (h : Ev sv d F M Q) : Ev sv d F M (fun r M' => Q r M' ∧ jle M M') := by
  obtain ⟨n, r, M', h1, h2⟩ := h
  exact ⟨n, r, M', h1, h2, jrun_le sv n d F M r M' h1⟩
end
section
-- ===== soundness =====
def jZs (sv : Nat → Value) (A : Nat → Prop) (s : State) : Prop := ∀ (k : Nat) (C n d : String), jst k = some (C, n, d) → va_Z C n d (sv k) A s s.heap
def jMs (sv : Nat → Value) (s : State) : Prop := ∀ (k : Nat) (C : String), jmir k = some C → ∃ mi : Nat, sv k = .ref mi ∧ va_Mi C mi s
/-- the state's own: its tables' words, classes, statics, mirrors -/
def jU (sv : Nat → Value) (D : va_G) (E : Nat → ClassId) (A : Nat → Prop) (s : State) : Prop := jW s ∧ jK D E s ∧ jZs sv A s ∧ jMs sv s
def jCx (sv : Nat → Value) (D : va_G) (E : Nat → ClassId) (A : Nat → Prop) (p : Program) (s : State) (m : MethodId) (meth : Method) (c : Code) (μ : Nat) : Prop :=
  p.tables.exec = Jvm.exec ∧ c.code = jcode μ ∧ c.maxLocals = jmaxl μ ∧ s.vm.findClass (jy μ).cls = some m.cls ∧ meth.name = (jy μ).name ∧ meth.sig.returnType = jret μ ∧ meth.locks = false ∧ jU sv D E A s
theorem jMs_moved {sv : Nat → Value} {u U : State} (hvm : u.vm.Alike U.vm) (h : jMs sv u) : jMs sv U := fun k C hk => by
  obtain ⟨mi, h1, h2⟩ := h k C hk
  exact ⟨mi, h1, h2.moved hvm⟩
/-- the same of a later state, seen from a callee -/
theorem jU_call {sv : Nat → Value} {D : va_G} {E : Nat → ClassId} {A B : Nat → Prop} {s U : State} {H : Heap} {locs : List Loc} (h : jU sv D E A s) (hW : s.WarmedH U.vm) (hH : U.heap = H) (hS : va_S A s.heap H locs) (hAB : ∀ q, B q → A q) : jU sv D E B U := by
  obtain ⟨h1, h2, h3, h4⟩ := h
  refine ⟨jW_warm hW h1, jK_moved hW.alike h2, fun k C n d hk => ?_, jMs_moved hW.alike h4⟩
  rw [hH]
  exact (((h3 k C n d hk).moved hW.alike).kept (fun a ha hA => hS.2.1 a ha hA)).narrow hAB
/-- a contract's start and end -/
def jP (sv : Nat → Value) (D : va_G) (E : Nat → ClassId) (M : jM) (As : List Value) : Array Value → State → Prop := fun a U => a = As.toArray ∧ jSim D E U.heap M ∧ jU sv D E (jA M) U
def jQ (D : va_G) (E : Nat → ClassId) (M M1 : jM) (r : Option Value) : Array Value → State → Outcome → State → Prop := fun _ st o t => o = .returned r ∧ jSim D E t.heap M1 ∧ st.heap.size ≤ t.heap.size ∧ ∀ q : Nat, q < st.heap.size → ¬ jA M q → t.heap[q]? = st.heap[q]?
theorem jP_blind {sv : Nat → Value} {D : va_G} {E : Nat → ClassId} {M : jM} {As : List Value} : FrameBlind (jP sv D E M As) := by
  intro a U g mk h
  obtain ⟨h1, h2, h3⟩ := h
  exact ⟨h1, h2, jU_call (U := U.calling g mk a) h3 (State.WarmedH.refl U) rfl va_S.rf (fun _ h => h)⟩
section JS
variable {p : Program} {l : Launch} {e : Env} {R : Room} {s : State} {m : MethodId} {args : Array Value} {below : List Frame} {meth : Method} {c : Code} {H : Heap} {locs : List Loc} {cells slots : Nat} {Q : State → Prop}
variable {pc len μ : Nat} {ls : Array Slot} {st st' : List Value} {D : va_G} {E : Nat → ClassId} {A : Nat → Prop} {sv : Nat → Value} {i : ClassFile.Instr} {M M' : jM}
theorem jA_of {t u : Nat} {g : jG} {V : jV} {a κ n : Nat} (hA : ∀ q, jA (t, u, g, V) q → A q) (h : g a = some (κ, n)) (hκ : κ < 90) : A a := hA a (Or.inl ⟨κ, n, h, hκ⟩)
set_option maxHeartbeats 4000000 in
theorem jmem_sound (hC : jCx sv D E A p s m meth c μ) (hd : decode (jcode μ) pc = .ok (i, len)) (h : jmem sv μ pc i st M = some (len, st', M')) (hS : jSim D E H M) (hS0 : va_S A s.heap H locs) (hA : ∀ q, jA M q → A q) (hcells : cells + (M'.1 - M.1) ≤ R.cells) (hslots : slots + (M'.2.1 - M.2.1) ≤ R.slots)
    (kk : ∀ (H1 : Heap) (locs1 : List Loc), jSim D E H1 M' → va_S A s.heap H1 locs1 → W p l e R s m args below meth c H1 locs1 (cells + (M'.1 - M.1)) (slots + (M'.2.1 - M.2.1)) Q (F0 m (pc + len) ls st')) : W p l e R s m args below meth c H locs cells slots Q (F0 m pc ls st) := by
  obtain ⟨hx, hb, hml, hown, hnm, hret, hlk, hW, hK, hZ, hMi⟩ := hC
  obtain ⟨t, u, g, V⟩ := M
  have k0 : ∀ {st2 : List Value} {n : Nat}, len = n → st' = st2 → M' = (t, u, g, V) → W p l e R s m args below meth c H locs cells slots Q (F0 m (pc + n) ls st2) := by
    intro st2 n e1 e2 e3
    subst e1 e2 e3
    have := kk H locs hS hS0
    simpa using this
  have k1 : ∀ {V' : jV} {st2 : List Value} {n : Nat}, len = n → st' = st2 → M' = (t, u, g, V') → ∀ (H1 : Heap) (locs1 : List Loc), jSim D E H1 (t, u, g, V') → va_S A s.heap H1 locs1 → W p l e R s m args below meth c H1 locs1 cells slots Q (F0 m (pc + n) ls st2) := by
    intro V' st2 n e1 e2 e3 H1 locs1 r1 r2
    subst e1 e2 e3
    have := kk H1 locs1 r1 r2
    simpa using this
  have k2 : ∀ {g' : jG} {V' : jV} {st2 : List Value} {n w : Nat}, len = n → st' = st2 → M' = (t + 1, u + w, g', V') → (cells + 1 ≤ R.cells ∧ slots + w ≤ R.slots) ∧ ∀ H1 : Heap, jSim D E H1 (t + 1, u + w, g', V') → va_S A s.heap H1 locs → W p l e R s m args below meth c H1 locs (cells + 1) (slots + w) Q (F0 m (pc + n) ls st2) := by
    intro g' V' st2 n w e1 e2 e3
    subst e1 e2 e3
    have e4 : t + 1 - t = 1 := by omega
    have e5 : u + w - u = w := by omega
    dsimp only at hcells hslots kk
    rw [e4] at hcells
    rw [e5] at hslots
    refine ⟨⟨hcells, hslots⟩, fun H1 r1 r2 => ?_⟩
    have := kk H1 locs r1 r2
    rw [e4, e5] at this
    exact this
  unfold jmem at h
  dsimp only at h
  split at h
  · -- getfield
    split at h
    · rename_i κ k κ' n h1 h2
      split at h
      · rename_i hκ
        subst hκ
        cases h
        obtain ⟨C, T, N, hc, hκ, hk, hL⟩ := jfl_ok h1
        exact jget_sound hx hb hW hK hown hc hk hL hS h2 hκ hd (k0 rfl rfl rfl)
      · cases h
    · cases h
  · -- putfield
    split at h
    · rename_i κ k κ' n h1 h2
      split at h
      · rename_i hκ
        obtain ⟨hκ, hpf, hfit⟩ := hκ
        subst hκ
        cases h
        obtain ⟨C, T, N, hc, hκ, hk, hL⟩ := jfl_ok h1
        have hf : (T k).2.2.2 = false ∨ (meth.name = "<init>" ∧ (T k).1 = (jy μ).cls) := by
          rcases jpf_ok hpf hc with h | ⟨h3, h4⟩
          · exact Or.inl h
          · exact Or.inr ⟨by rw [hnm]; exact h3, h4⟩
        exact jput_sound hx hb hW hK hown hc hk hL hf hfit hS hS0 (jA_of hA h2 (by omega)) h2 hκ hd (k1 rfl rfl rfl)
      · cases h
    · cases h
  · -- new
    split at h
    · rename_i κ N w h1
      cases h
      obtain ⟨C, T, hc, hκ, w1, w2, w3⟩ := jnw_ok h1
      obtain ⟨⟨c1, c2⟩, k3⟩ := k2 rfl rfl rfl
      exact jnew_sound hx hb hW hK hown hc hκ w1 w2 w3 hS hS0 c1 c2 hd k3
    · cases h
  · -- newarray
    split at h
    · rename_i κ h1
      split at h
      · rename_i hx0
        cases h
        obtain ⟨w1, w2, w3, w4, w5⟩ := jna_ok h1
        obtain ⟨⟨c1, c2⟩, k3⟩ := k2 rfl rfl rfl
        exact jnewa_sound hx hb hW hK w1 w2 w3 w4 hS hS0 hx0.1 (Nat.le_trans (Nat.mul_le_mul hx0.2 w5) (by decide)) c1 c2 hd k3
      · cases h
    · cases h
  · -- anewarray
    split at h
    · rename_i κ h1
      split at h
      · rename_i hx0
        cases h
        obtain ⟨C0, w1, w2, w3, w4, w5⟩ := janw_ok h1
        obtain ⟨⟨c1, c2⟩, k3⟩ := k2 rfl rfl rfl
        exact janew_sound hx hb hW hK hown w1 w2 w3 w4 w5 hS hS0 hx0.1 (Nat.le_trans (Nat.mul_le_mul hx0.2 (Nat.le_refl 4)) (by decide)) c1 c2 hd k3
      · cases h
    · cases h
  · -- arraylength
    split at h
    · rename_i κ n h2
      split at h
      · rename_i hκ
        cases h
        exact jlen_sound hx hb hK hS h2 hκ hd (k0 rfl rfl rfl)
      · cases h
    · cases h
  · -- iaload
    split at h
    · rename_i κ n h2
      split at h
      · rename_i hκ
        cases h
        have hty := hκ.1
        have hκ5 : 50 ≤ κ := jkt_50 hty
        exact jald_sound hx hb hK hS h2 hκ5 hκ.2 hd (Or.inl ⟨hty, rfl⟩) (k0 rfl rfl rfl)
      · cases h
    · cases h
  · -- laload
    split at h
    · rename_i κ n h2
      split at h
      · rename_i hκ
        cases h
        have hty := hκ.1
        have hκ5 : 50 ≤ κ := jkt_50 hty
        exact jald_sound hx hb hK hS h2 hκ5 hκ.2 hd (Or.inr (Or.inl ⟨hty, rfl⟩)) (k0 rfl rfl rfl)
      · cases h
    · cases h
  · -- baload
    split at h
    · rename_i κ n h2
      split at h
      · rename_i hκ
        cases h
        have hty := hκ.1
        have hκ5 : 50 ≤ κ := jkt_50 hty
        exact jald_sound hx hb hK hS h2 hκ5 hκ.2 hd (Or.inr (Or.inr (Or.inl ⟨hty, rfl⟩))) (k0 rfl rfl rfl)
      · cases h
    · cases h
  · -- aaload
    split at h
    · rename_i κ n h2
      split at h
      · rename_i hκ
        cases h
        have hκ5 : 50 ≤ κ := jkr_50 hκ.1
        have hty := jkr_ok hκ.1
        exact jald_sound hx hb hK hS h2 hκ5 hκ.2 hd (Or.inr (Or.inr (Or.inr ⟨_, hty, rfl, rfl⟩))) (k0 rfl rfl rfl)
      · cases h
    · cases h
  · -- iastore
    split at h
    · rename_i κ n h2
      split at h
      · rename_i hκ
        cases h
        obtain ⟨hκ9, hty⟩ := hκ.1
        have hκ5 : 50 ≤ κ := jkt_50 hty
        exact jiast_sound hx hb hK hS hS0 (jA_of hA h2 hκ9) h2 hκ5 hκ9 hty hκ.2 hd (k1 rfl rfl rfl)
      · cases h
    · cases h
  · -- lastore
    split at h
    · rename_i κ n h2
      split at h
      · rename_i hκ
        cases h
        obtain ⟨hκ9, hty⟩ := hκ.1
        have hκ5 : 50 ≤ κ := jkt_50 hty
        exact jlast_sound hx hb hK hS hS0 (jA_of hA h2 hκ9) h2 hκ5 hκ9 hty hκ.2 hd (k1 rfl rfl rfl)
      · cases h
    · cases h
  · -- bastore
    split at h
    · rename_i κ n h2
      split at h
      · rename_i hκ
        cases h
        obtain ⟨hκ9, hty⟩ := hκ.1
        have hκ5 : 50 ≤ κ := jkt_50 hty
        exact jzast_sound hx hb hK hS hS0 (jA_of hA h2 hκ9) h2 hκ5 hκ9 hty hκ.2.1 hκ.2.2 hd (k1 rfl rfl rfl)
      · cases h
    · cases h
  · -- aastore
    split at h
    · rename_i κ n κv nv h2 h3
      split at h
      · rename_i hκ
        cases h
        obtain ⟨C0, q, w1, w2, w3, w4⟩ := jca_ok hκ.2.2.1
        exact jaast_sound hx hb hW hK hS hS0 (jA_of hA h2 hκ.2.1) h2 hκ.1 hκ.2.1 w1 h3 w2 w3 w4 hκ.2.2.2 hd (k1 rfl rfl rfl)
      · cases h
    · cases h
  · -- aastore null
    split at h
    · rename_i κ n h2
      split at h
      · rename_i hκ
        cases h
        have hκ5 : 50 ≤ κ := jkr_50 hκ.2.1
        have hty := jkr_ok hκ.2.1
        exact jaastN_sound hx hb hK hS hS0 (jA_of hA h2 hκ.1) h2 hκ5 hκ.1 hty hκ.2.2 hd (k1 rfl rfl rfl)
      · cases h
    · cases h
  · -- getstatic
    split at h
    · rename_i k h1
      cases h
      obtain ⟨C, n, d, w1, ref, w2, w3⟩ := jsg_ok h1
      have hZ1 := hZ _ _ _ _ w1
      have hsame : ∀ x, s.fieldFound? C n d = some x → s.fieldFound? ref n d = some x := by
        intro x hx
        rcases w3 with h | h
        · rw [h]; exact hx
        · exact u_same (hW _ h args) _ hx
      rcases w2 with w2 | ⟨host, w2⟩
      · exact va_gets hx hb hZ1 hS0 hown (hW _ w2 args) hsame hd (k0 rfl rfl rfl)
      · exact va_getsN hx hb hZ1 hS0 hown (hW _ w2 args) hsame hd (k0 rfl rfl rfl)
    · cases h
  · -- ldc
    split at h
    · rename_i x h1
      cases h
      exact W.ldc hx hb hown (hW _ (jldc_i h1) args) (g := F0 m pc ls _) rfl hd (k0 rfl rfl rfl)
    · rename_i k h1
      cases h
      obtain ⟨C, w1, w2⟩ := jldc_m h1
      obtain ⟨mi, e1, e2⟩ := hMi _ _ w1
      exact va_ldcM hx hb hown (hW _ w2 args) e2 hd (k0 rfl (by rw [e1]) rfl)
    · cases h
  · -- ldc2_w
    split at h
    · rename_i x h1
      cases h
      exact lv_ldc2 hx hb hown (hW _ (jldl_ok h1) args) hd (k0 rfl rfl rfl)
    · cases h
  · -- checkcast null
    cases h
    exact lv_castN hx hb hd (k0 rfl rfl rfl)
  · -- checkcast
    split at h
    · rename_i κ n h2
      split at h
      · rename_i hκ
        cases h
        rcases jck_ok hκ with ⟨w1, q, nm, w2, w3, w4⟩ | ⟨w1, w2, ty, w3, w4⟩
        · exact jcast_sound hx hb hW hK hown w2 w1 w3 w4 hS h2 hd (k0 rfl rfl rfl)
        · exact jcastA_sound hx hb hW hK hown w3 w1 w2 w4 hS h2 hd (k0 rfl rfl rfl)
      · cases h
    · cases h
  · cases h
set_option maxHeartbeats 4000000 in
theorem jnatv_sound (hC : jCx sv D E A p s m meth c μ) (hls : ls.size = jmaxl μ) (hd : decode (jcode μ) pc = .ok (i, 3)) (h : jnatv sv μ i st M = some (st', M')) (hS : jSim D E H M) (hS0 : va_S A s.heap H locs) (hA : ∀ q, jA M q → A q) (hfr : 1 ≤ R.frames) (hlo : 40 ≤ R.locals) (hce : cells ≤ R.cells) (hsl : slots ≤ R.slots)
    (kk : ∀ (H1 : Heap) (locs1 : List Loc), jSim D E H1 M' → va_S A s.heap H1 locs1 → W p l e R s m args below meth c H1 locs1 cells slots Q (F0 m (pc + 3) ls st')) : W p l e R s m args below meth c H locs cells slots Q (F0 m pc ls st) := by
  obtain ⟨hx, hb, hml, hown, hnm, hret, hlk, hW, hK, hZ, hMi⟩ := hC
  obtain ⟨t, u, g, V⟩ := M
  unfold jnatv at h
  split at h
  · -- Object.<init>
    split at h
    · rename_i hj
      split at h
      · split at h
        · rename_i hr0
          cases h
          obtain ⟨w1, w2, w3⟩ := jnt_ok0 hj
          have hr : (List.map (fun v : Value => v.category) st').sum ≤ 8 := hr0
          exact W.objInit hx hb hown (hW _ w1 args) (hW _ w2 args) (hW _ w3 args) (g := F0 m pc ls _) rfl (by rw [hml]; exact hls) rfl hd hfr (by show 2 * 0 + _ + 12 ≤ _; omega) (kk _ _ hS hS0)
        · cases h
      · cases h
    · cases h
  · split at h
    case h_2 => cases h
    rename_i cN hj
    split at h
    · -- arraycopy
      rename_i hcN
      subst hcN
      unfold jcpy at h
      split at h
      · dsimp only at h
        split at h
        · rename_i κ0 n0 κ n h1 h2
          split at h
          · rename_i ty hty
            split at h
            · rename_i hc
              obtain ⟨c0, ⟨c1, c2, c3, c4⟩, ⟨c5, c6, c7⟩, ⟨c8, c9⟩, c10⟩ := hc
              cases h
              obtain ⟨w1, w2, w3, w4⟩ := jnt_ok1 hj
              have hr : (List.map (fun v : Value => v.category) st').sum ≤ 8 := c0
              have hfw : nativeFrameWords "java/lang/System" "arraycopy" 5 ≤ 20 := by decide
              refine jcopy_sound hx hb (by rw [hml]; exact hls.symm) hW hK hown w1 w2 w3 w4 hS hS0 (jA_of hA h2 c3) h1 c1 h2 c2 c3 c4 hty c5 c6 c7 c8 c9 (fun i hi => ?_) (fun i hi y hy => ?_) hfr (by omega) hd kk
              · have := c10 i hi
                unfold jel at this
                simp only [Bool.and_eq_true] at this
                exact this.1
              · have := c10 i hi
                unfold jel at this
                rw [hy] at this
                simp only [Bool.and_eq_true] at this
                have h3 := this.2
                split at h3
                · rename_i κy ny hgy
                  obtain ⟨C0, q, v1, v2, v3, v4⟩ := jca_ok h3
                  exact ⟨C0, κy, ny, q, Option.some.inj (hty.symm.trans v1), hgy, v2, v3, v4⟩
                · cases h3
            · cases h
          · cases h
        · cases h
      · cases h
    split at h
    · -- max
      rename_i hcN1 hcN
      subst hcN
      split at h
      · split at h
        · rename_i hr0
          cases h
          obtain ⟨w1, w2, w3, w4⟩ := jnt_ok3 hj
          have hr : (List.map (fun v : Value => v.category) _).sum ≤ 8 := hr0
          exact va_mmax hx hb (by rw [hml]; exact hls.symm) hown (hW _ w1 args) (hW _ w2 args) (hW _ w3 args) (hW _ w4 args) hfr (by omega) hce hsl hd (kk _ _ hS hS0)
        · cases h
      · cases h
    split at h
    · -- min
      rename_i hcN1 hcN2 hcN
      subst hcN
      split at h
      · split at h
        · rename_i hr0
          cases h
          obtain ⟨w1, w2, w3, w4⟩ := jnt_ok4 hj
          have hr : (List.map (fun v : Value => v.category) _).sum ≤ 8 := hr0
          exact va_mmin hx hb (by rw [hml]; exact hls.symm) hown (hW _ w1 args) (hW _ w2 args) (hW _ w3 args) (hW _ w4 args) hfr (by omega) hce hsl hd (kk _ _ hS hS0)
        · cases h
      · cases h
    · cases h
  · -- getClass
    split at h
    · rename_i hj
      split at h
      · rename_i a rr
        split at h
        · rename_i hr0
          split at h
          · rename_i κ n h2
            split at h
            · rename_i k hk
              cases h
              obtain ⟨w1, w2, w3, w4⟩ := jnt_ok2 hj
              obtain ⟨C, v1, v2, v3⟩ := jmi_ok hk
              obtain ⟨mi, e1, e2⟩ := hMi _ _ v1
              have hr : (List.map (fun v : Value => v.category) rr).sum ≤ 8 := hr0
              have hrc : ∃ cell : Cell, H[a]? = some cell ∧ cell.vm.isStatics = false ∧ s.vm.findClass C = some cell.cls := by
                rcases v3 with ⟨x1, q, x2, x3⟩ | ⟨x1, x2, ty, x3, x4⟩
                · obtain ⟨-, cell, q1, q2, q3, -⟩ := jcell_obj (hS.2 _ κ n h2) x1 x2
                  exact ⟨cell, q1, by rw [q3]; rfl, by rw [q2, ← x3]; exact (hK.1 κ _ x2).2.1⟩
                · obtain ⟨cell, q1, q2, q3, q4, -⟩ := jcell_arr (hS.2 _ κ n h2) x1
                  refine ⟨cell, q1, ?_, by rw [q2, x4]; exact (hK.2 κ _ x3).2 x2⟩
                  cases hv : cell.vm <;> first | rfl | exact absurd hv (q4 _)
              have kk2 := kk _ _ hS hS0
              rw [e1] at kk2
              exact va_getC hx hb (by rw [hml]; exact hls.symm) hown (hW _ w1 args) (hW _ w2 args) (hW _ v2 args) (hW _ w3 args) (hW _ w4 args) e2 hrc hfr (by omega) hd kk2
            · cases h
          · cases h
        · cases h
      · cases h
    · cases h
  · cases h
/-- behind a call -/
theorem jafter {M1 : jM} {r : Option Value} {a : Array Value} {mc ms : Nat} {rest : List Value} (hr : va_Run p l e R s m args below meth c H locs cells slots mc ms (F0 m pc ls st) rest (jQ D E M M1 r a) (jA M)) (hS0 : va_S A s.heap H locs) (hA : ∀ q, jA M q → A q)
    (kk : ∀ (H1 : Heap) (locs1 : List Loc), jSim D E H1 M1 → va_S A s.heap H1 locs1 → W p l e R s m args below meth c H1 locs1 (cells + mc) (slots + ms) Q (F0 m (pc + 3) ls (r.toList ++ rest))) : W p l e R s m args below meth c H locs cells slots Q (F0 m pc ls st) := by
  intro T hT X
  obtain ⟨v, st₀, t, T', L, h0, X', hL, e1, e2, ⟨hv, hs, hz, hk⟩, stp⟩ := hr T hT X
  cases hv
  rw [h0] at hz hk
  obtain ⟨t2, a1, b1⟩ := kk T'.heap (locs ++ L) (by rw [e1]; exact hs) ⟨Nat.le_trans hS0.1 (by rw [e1]; exact hz), fun q h1 h2 => by rw [e1, hk q (Nat.lt_of_lt_of_le h1 hS0.1) (fun z => h2 (hA q z))]; exact hS0.2.1 q h1 h2, fun q hq => by
      rcases List.mem_append.mp hq with h | h
      · exact hS0.2.2 q h
      · exact hA _ (hL q h)⟩ T' rfl X'
  exact ⟨t2, stp t2 a1, b1⟩
/-- how a method ends -/
def jend (μ pc : Nat) (r : Option Value) : Prop := ∃ (i : ClassFile.Instr) (st : List Value), decode (jcode μ) pc = .ok (i, 1) ∧ jrt μ i st = some r ∧ st = r.toList
theorem jrt_st {r : Option Value} (h : jrt μ i st = some r) : st = r.toList := by
  unfold jrt at h
  split at h
  all_goals (repeat' (first | (cases h; done) | (cases h; rfl) | (split at h)))
theorem jend_sound {M1 : jM} {r : Option Value} {ls' : Array Slot} (hC : jCx sv D E A p s m meth c μ) (he : jend μ pc r) (hS : jSim D E H M1) (hS0 : va_S (jA M) s.heap H locs) : W p l e R s m args below meth c H locs cells slots (MQ below (jQ D E M M1 r) args s cells slots (jA M)) (F0 m pc ls' r.toList) := by
  obtain ⟨hx, hb, hml, hown, hnm, hret, hlk, -⟩ := hC
  obtain ⟨i, st, hd, hr, rfl⟩ := he
  have hq : ∀ t : State, t.heap = H → s.WarmedH t.vm → jQ D E M M1 r args s (.returned r) t := fun t ht _ => ⟨rfl, by rw [ht]; exact hS, by rw [ht]; exact hS0.1, fun q h1 h2 => by rw [ht]; exact hS0.2.1 q h1 h2⟩
  generalize hst : r.toList = st at hr
  unfold jrt at hr
  split at hr
  · rename_i v
    split at hr
    · rename_i hc
      cases hr
      rcases hc with hc | ⟨hc, hf⟩
      · exact W.iret hx hb (hret.trans hc) hq hS0.2.2 hd
      · exact W.zret hx hb (hret.trans hc) (jfits_ok hf).1 hq hS0.2.2 hd
    · cases hr
  · split at hr
    · rename_i hc
      cases hr
      exact W.lret hx hb (hret.trans hc) hq hS0.2.2 hd
    · cases hr
  · split at hr
    · rename_i hc
      cases hr
      cases hrr : jret μ with
      | none => rw [hrr] at hc; cases hc
      | some ty =>
        rw [hrr] at hc
        have hrt : (∃ n, ty = .object n) ∨ ∃ t, ty = .array t := by
          cases ty <;> first | exact Or.inl ⟨_, rfl⟩ | exact Or.inr ⟨_, rfl⟩ | cases hc
        exact W.aret hx hb (hret.trans hrr) hrt (Or.inr ⟨_, rfl⟩) hq hS0.2.2 hd
    · cases hr
  · split at hr
    · rename_i hc
      cases hr
      cases hrr : jret μ with
      | none => rw [hrr] at hc; cases hc
      | some ty =>
        rw [hrr] at hc
        have hrt : (∃ n, ty = .object n) ∨ ∃ t, ty = .array t := by
          cases ty <;> first | exact Or.inl ⟨_, rfl⟩ | exact Or.inr ⟨_, rfl⟩ | cases hc
        exact W.aret hx hb (hret.trans hrr) hrt (Or.inl rfl) hq hS0.2.2 hd
    · cases hr
  · split at hr
    · rename_i hc
      cases hr
      exact W.vret hx hb (hret.trans hc) hq hS0.2.2 hd
    · cases hr
  · cases hr
end JS
end
section
-- ===== the one theorem =====
def jRm (d mc ms : Nat) : Room := { frames := d, cells := mc, slots := ms, locals := d * 40 }
def jWs (μ : Nat) : List Cond := [Cond.code (jy μ) (jcode μ) (jmaxl μ) (jret μ)]
/-- what the soundness of runs of fuel n says -/
def jSo (sv : Nat → Value) (D : va_G) (E : Nat → ClassId) (l : Launch) (n : Nat) : Prop := ∀ (d : Nat) (F : jF) (M : jM) (r : Option Value) (M' : jM), jrun sv n d F M = some (r, M') →
  ∀ (p : Program) (e : Env) (R : Room) (s : State) (m : MethodId) (args : Array Value) (below : List Frame) (meth : Method) (c : Code) (H : Heap) (locs : List Loc) (cells slots : Nat) (Q : State → Prop) (A : Nat → Prop) (ls : Array Slot),
  jCx sv D E A p s m meth c F.1 → jSim D E H M → va_S A s.heap H locs → (∀ q, jA M q → A q) → jlv ls (jmaxl F.1) F.2.2.1 → cells + (M'.1 - M.1) ≤ R.cells → slots + (M'.2.1 - M.2.1) ≤ R.slots → d ≤ R.frames → d * 40 ≤ R.locals →
  (∀ (H' : Heap) (locs' : List Loc) (pc' : Nat) (ls' : Array Slot), jSim D E H' M' → va_S A s.heap H' locs' → jend F.1 pc' r → W p l e R s m args below meth c H' locs' (cells + (M'.1 - M.1)) (slots + (M'.2.1 - M.2.1)) Q (F0 m pc' ls' r.toList)) →
  W p l e R s m args below meth c H locs cells slots Q (F0 m F.2.1 ls F.2.2.2)
theorem jmet {sv : Nat → Value} {D : va_G} {E : Nat → ClassId} {l : Launch} {n d μ : Nat} (ih : jSo sv D E l n) {As : List Value} {M M1 : jM} {r : Option Value} (hr : jrun sv n d (μ, 0, jent (jmaxl μ) As, []) M = some (r, M1)) (hlen : (jarg As).length ≤ jmaxl μ) (hpl : plainName (jy μ).cls = true) :
    Met l (jy μ) (jWs μ) (jRm d (M1.1 - M.1) (M1.2.1 - M.2.1)) (jP sv D E M As) (jQ D E M M1 r) (M1.1 - M.1) (M1.2.1 - M.2.1) (jA M) := by
  refine Met.ofW (cc := jcode μ) (maxL := jmaxl μ) (ret := jret μ) hpl rfl ?_
  intro p e s m args below meth c s₁ B hml hP
  obtain ⟨rfl, hS, hU⟩ := hP
  have hCx : jCx sv D E (jA M) p s m meth c μ := ⟨B.exec, B.bytes, hml, findClass_of_methodNamed B.named, (name_of_methodNamed B.named B.method).1, B.returns, B.notSynchronized, hU⟩
  rw [lg_entry_eq]
  refine ih d _ M r M1 hr p e _ s m As.toArray below meth c s.heap [] 0 0 _ (jA M) _ hCx hS va_S.rf (fun _ h => h) (jlv_entry hlen) ?_ ?_ ?_ ?_ (fun H' locs' pc' ls' r1 r2 he => ?_)
  · show 0 + (M1.1 - M.1) ≤ M1.1 - M.1
    omega
  · show 0 + (M1.2.1 - M.2.1) ≤ M1.2.1 - M.2.1
    omega
  · exact Nat.le_refl d
  · exact Nat.le_refl (d * 40)
  · rw [Nat.zero_add, Nat.zero_add]
    exact jend_sound hCx he r1 r2
section JC
variable {p : Program} {l : Launch} {e : Env} {R : Room} {s : State} {m : MethodId} {args : Array Value} {below : List Frame} {meth : Method} {c : Code} {H : Heap} {locs : List Loc} {cells slots : Nat} {Q : State → Prop}
variable {pc μ : Nat} {ls : Array Slot} {st : List Value} {D : va_G} {E : Nat → ClassId} {A : Nat → Prop} {sv : Nat → Value} {M : jM}
theorem jcat_room {rest : List Value} (h : jcat rest ≤ 8) : 2 * (F0 m pc ls st).monitorRoom + (rest.map fun v => v.category).sum ≤ 8 := by
  show 2 * 0 + jcat rest ≤ 8
  omega
theorem jcode_w (hW : jW s) {μ' : Nat} (hcode : Cond.code (jy μ') (jcode μ') (jmaxl μ') (jret μ') ∈ jwords) : ∀ w ∈ jWs μ', ∀ (a' : Array Value) (U : State), s.WarmedH U.vm → w.before a' U = true := by
  intro w hw a' U hWm
  have e : w = Cond.code (jy μ') (jcode μ') (jmaxl μ') (jret μ') := by simpa [jWs] using hw
  subst e
  exact jW_warm hWm hW _ hcode a'
set_option maxHeartbeats 4000000 in
theorem jcall_sound {n d : Nat} (ih : jSo sv D E l n) (hC : jCx sv D E A p s m meth c μ) {L : jL} (hl : jlv ls (jmaxl μ) L) {i : ClassFile.Instr} (hd : decode (jcode μ) pc = .ok (i, 3)) {Fe Fr : jF} (h : jcall μ pc L i st M = some (Fe, Fr)) {M1 : jM} {r : Option Value} (hr : jrun sv n d Fe M = some (r, M1)) (hS : jSim D E H M) (hS0 : va_S A s.heap H locs) (hA : ∀ q, jA M q → A q)
    (hcells : cells + (M1.1 - M.1) ≤ R.cells) (hslots : slots + (M1.2.1 - M.2.1) ≤ R.slots) (hfr : d + 1 ≤ R.frames) (hlo : (d + 1) * 40 ≤ R.locals)
    (kk : ∀ (H1 : Heap) (locs1 : List Loc), jSim D E H1 M1 → va_S A s.heap H1 locs1 → W p l e R s m args below meth c H1 locs1 (cells + (M1.1 - M.1)) (slots + (M1.2.1 - M.2.1)) Q (F0 m Fr.2.1 ls (r.toList ++ Fr.2.2.2))) : W p l e R s m args below meth c H locs cells slots Q (F0 m pc ls st) := by
  have hC0 := hC
  obtain ⟨hx, hb, hml, hown, hnm, hret, hlk, hW, hK, hZ, hMi⟩ := hC
  have hU : jU sv D E A s := ⟨hW, hK, hZ, hMi⟩
  have S : CallFix p m c (jcode μ) (jmaxl μ) s args [] (jy μ).cls := ⟨hx, hb, hml, hown, fun w h => by cases h⟩
  have hsize : ls.size = jmaxl μ := hl.2.1
  unfold jcall at h
  split at h
  · -- virtual
    rename_i idx
    split at h
    · rename_i md μ' k κ hmt
      split at h
      case isFalse => cases h
      rename_i hmd
      subst hmd
      split at h
      · rename_i b rest hdrop
        split at h
        · rename_i hc
          obtain ⟨hg, hcat, hk, hlen⟩ := hc
          cases h
          obtain ⟨hlink, ⟨hcode, hini, hmh, har, hpl, hmx⟩, hm0, -, -⟩ := jmt_ok hmt
          obtain ⟨hinst, q, hq, hκ, hsel⟩ := hm0 rfl
          have hstk : st = ((st.take k).reverse).reverse ++ .ref b :: rest := by
            rw [List.reverse_reverse, ← hdrop, List.take_append_drop]
          have hM := jmet ih hr hlen hpl
          obtain ⟨t, u, g, V⟩ := M
          obtain ⟨x, hgx, hx1⟩ := Option.map_eq_some_iff.mp hg
          obtain ⟨κ', n'⟩ := x
          dsimp only at hx1
          subst hx1
          obtain ⟨-, cell, q1, q2, q3, -⟩ := jcell_obj (hS.2 b κ' n' hgx) hκ hq
          have hp : PreV s H q.1 b (jP sv D E (t, u, g, V) (.ref b :: (st.take k).reverse)) (st.take k).reverse := ⟨jP_blind, ⟨cell, q1, by rw [q3]; rfl, by rw [q2]; exact (hK.1 κ' _ hq).2.1⟩, fun U hH hWm => ⟨rfl, by rw [hH]; exact hS, jU_call hU hWm hH hS0 hA⟩⟩
          have har2 : ∀ sig, parseMethodDescriptor (jy μ').desc = some sig → k = sig.parameters.length := by
            intro sig h
            rw [h] at har
            exact (Option.some.inj har).symm
          have hn : ((st.take k).reverse).length = k := by rw [List.length_reverse, List.length_take]; omega
          rcases hlink with hlink | ⟨host, hlink⟩
          · have hrun := va_runV (e := e) (below := below) (meth := meth) (locs := locs) (g := F0 m pc ls st) S hM (cw := ⟨⟨rfl, rfl, hfr, by show 8 + (jmaxl μ' + 11) + d * 40 ≤ _; omega, jcode_w hW hcode, List.mem_cons_self, hW _ hcode args, hW _ hini args, hmh, har2, hW _ hlink args⟩, hW _ hinst args, hW _ hsel args⟩) hp rfl hn hsize hstk (jcat_room hcat) hd ⟨hcells, hslots⟩
            exact jafter hrun hS0 hA kk
          · have hrun := va_runVN (e := e) (below := below) (meth := meth) (locs := locs) (g := F0 m pc ls st) S hM (cw := ⟨⟨⟨rfl, rfl, hfr, by show 8 + (jmaxl μ' + 11) + d * 40 ≤ _; omega, jcode_w hW hcode, List.mem_cons_self⟩, hW _ hcode args, hW _ hini args, hmh, har2, hW _ hlink args⟩, hW _ hinst args, hW _ hsel args⟩) hp rfl hn hsize hstk (jcat_room hcat) hd ⟨hcells, hslots⟩
            exact jafter hrun hS0 hA kk
        · cases h
      · cases h
    · cases h
  · -- special
    rename_i idx
    split at h
    · rename_i md μ' k κ hmt
      split at h
      case isFalse => cases h
      rename_i hmd
      subst hmd
      split at h
      · rename_i b rest hdrop
        split at h
        · rename_i hc
          obtain ⟨hcat, hk, hlen⟩ := hc
          cases h
          obtain ⟨hlink, ⟨hcode, hini, hmh, har, hpl, hmx⟩, -, hm1, -⟩ := jmt_ok hmt
          obtain ⟨hinn, hinst, hnone⟩ := hm1 rfl
          have hstk : st = ((st.take k).reverse).reverse ++ .ref b :: rest := by
            rw [List.reverse_reverse, ← hdrop, List.take_append_drop]
          have hM := jmet ih hr hlen hpl
          have hp : PreS s H (jP sv D E M (.ref b :: (st.take k).reverse)) (.ref b :: (st.take k).reverse) := ⟨jP_blind, fun U hH hWm => ⟨rfl, by rw [hH]; exact hS, jU_call hU hWm hH hS0 hA⟩⟩
          have har2 : ∀ sig, parseMethodDescriptor (jy μ').desc = some sig → k = sig.parameters.length := by
            intro sig h
            rw [h] at har
            exact (Option.some.inj har).symm
          have hn : ((st.take k).reverse).length = k := by rw [List.length_reverse, List.length_take]; omega
          have hcode2 : Cond.code (jy μ') (jcode μ') (jmaxl μ') none ∈ jWs μ' := by rw [← hnone]; exact List.mem_cons_self
          have hcode3 : (Cond.code (jy μ') (jcode μ') (jmaxl μ') none).before args s = true := by rw [← hnone]; exact hW _ hcode args
          rcases hlink with hlink | ⟨host, hlink⟩
          · have hrun := va_runI (e := e) (below := below) (meth := meth) (locs := locs) (g := F0 m pc ls st) S hM (cw := ⟨⟨rfl, rfl, hfr, by show 8 + (jmaxl μ' + 11) + d * 40 ≤ _; omega, jcode_w hW hcode, hcode2, hcode3, hW _ hini args, hmh, har2, hW _ hlink args⟩, hinn, hW _ hinst args⟩) hp rfl hn hsize hstk (jcat_room hcat) hd ⟨hcells, hslots⟩
            exact jafter hrun hS0 hA kk
          · have hrun := va_runIN (e := e) (below := below) (meth := meth) (locs := locs) (g := F0 m pc ls st) S hM (cw := ⟨⟨⟨rfl, rfl, hfr, by show 8 + (jmaxl μ' + 11) + d * 40 ≤ _; omega, jcode_w hW hcode, hcode2⟩, hcode3, hW _ hini args, hmh, har2, hW _ hlink args⟩, hinn, hW _ hinst args⟩) hp rfl hn hsize hstk (jcat_room hcat) hd ⟨hcells, hslots⟩
            exact jafter hrun hS0 hA kk
        · cases h
      · cases h
    · cases h
  · -- static
    rename_i idx
    split at h
    · rename_i md μ' k κ hmt
      split at h
      case isFalse => cases h
      rename_i hmd
      subst hmd
      split at h
      · rename_i hc
        obtain ⟨hcat, hk, hlen⟩ := hc
        cases h
        obtain ⟨hlink, ⟨hcode, hini, hmh, har, hpl, hmx⟩, -, -, hm2⟩ := jmt_ok hmt
        have hst := hm2 rfl
        have hstk : st = ((st.take k).reverse).reverse ++ st.drop k := by
          rw [List.reverse_reverse, List.take_append_drop]
        have hM := jmet ih hr hlen hpl
        have hp : PreS s H (jP sv D E M (st.take k).reverse) (st.take k).reverse := ⟨jP_blind, fun U hH hWm => ⟨rfl, by rw [hH]; exact hS, jU_call hU hWm hH hS0 hA⟩⟩
        have har2 : ∀ sig, parseMethodDescriptor (jy μ').desc = some sig → k = sig.parameters.length := by
          intro sig h
          rw [h] at har
          exact (Option.some.inj har).symm
        have hn : ((st.take k).reverse).length = k := by rw [List.length_reverse, List.length_take]; omega
        rcases hlink with hlink | ⟨host, hlink⟩
        · have hrun := va_runS (e := e) (below := below) (meth := meth) (locs := locs) (g := F0 m pc ls st) S hM (cw := ⟨⟨rfl, rfl, hfr, by show 8 + (jmaxl μ' + 11) + d * 40 ≤ _; omega, jcode_w hW hcode, List.mem_cons_self, hW _ hcode args, hW _ hini args, hmh, har2, hW _ hlink args⟩, hW _ hst args⟩) hp rfl hn hsize hstk (jcat_room hcat) hd ⟨hcells, hslots⟩
          exact jafter hrun hS0 hA kk
        · have hrun := va_runSN (e := e) (below := below) (meth := meth) (locs := locs) (g := F0 m pc ls st) S hM (cw := ⟨⟨⟨rfl, rfl, hfr, by show 8 + (jmaxl μ' + 11) + d * 40 ≤ _; omega, jcode_w hW hcode, List.mem_cons_self⟩, hW _ hcode args, hW _ hini args, hmh, har2, hW _ hlink args⟩, hW _ hst args, trivial⟩) hp rfl hn hsize hstk (jcat_room hcat) hd ⟨hcells, hslots⟩
          exact jafter hrun hS0 hA kk
      · cases h
    · cases h
  · cases h
end JC
theorem jsound (sv : Nat → Value) (D : va_G) (E : Nat → ClassId) (l : Launch) : ∀ n : Nat, jSo sv D E l n := by
  intro n
  induction n with
  | zero => intro d F M r M' h; simp [jrun] at h
  | succ n ih =>
    intro d F M r M' h p e R s m args below meth c H locs cells slots Q A ls hC hS hS0 hA hl hcells hslots hfr hlo hret
    obtain ⟨μ, pc, L, st⟩ := F
    dsimp only at hC hl hret ⊢
    have hC0 := hC
    obtain ⟨hx, hb, hml, hown, hnm, hrt, hlk, hW, hK, hZ, hMi⟩ := hC
    rw [jrun] at h
    cases hs : jstep sv (μ, pc, L, st) M with
    | none => rw [hs] at h; cases h
    | some z =>
      rw [hs] at h
      unfold jstep at hs
      dsimp only at hs
      split at hs
      · rename_i i len hd
        rcases jex_inv hs with ⟨L', st', h1, rfl⟩ | ⟨t, st', h1, rfl⟩ | ⟨st', M1, h1, rfl⟩ | ⟨r1, h1, h2, rfl⟩ | ⟨st', M1, h2, h1, rfl⟩ | ⟨⟨Fe, Fr⟩, h2, h1, rfl⟩
        · dsimp only at h
          rw [if_pos (Nat.zero_le d)] at h
          exact jpure_sound hx hb hd h1 hl (fun ls' hl' => ih d _ M r M' h p e R s m args below meth c H locs cells slots Q A ls' hC0 hS hS0 hA hl' hcells hslots hfr hlo hret)
        · dsimp only at h
          rw [if_pos (Nat.zero_le d)] at h
          exact jbr_sound hx hb hd h1 (ih d _ M r M' h p e R s m args below meth c H locs cells slots Q A ls hC0 hS hS0 hA hl hcells hslots hfr hlo hret)
        · dsimp only at h
          rw [if_pos (Nat.zero_le d)] at h
          have g1 := jmem_le h1
          have g2 := jrun_le sv n d _ M1 r M' h
          have l1 := g1.1
          have l2 := g2.1
          have l3 := g1.2.1
          have l4 := g2.2.1
          have e1 : cells + (M1.1 - M.1) + (M'.1 - M1.1) = cells + (M'.1 - M.1) := by omega
          have e2 : slots + (M1.2.1 - M.2.1) + (M'.2.1 - M1.2.1) = slots + (M'.2.1 - M.2.1) := by omega
          exact jmem_sound hC0 hd h1 hS hS0 hA (by omega) (by omega) (fun H1 locs1 r1 r2 => ih d _ M1 r M' h p e R s m args below meth c H1 locs1 _ _ Q A ls hC0 r1 r2 (fun q hq => hA q (jA_mono g1 hq)) hl (by rw [e1]; exact hcells) (by rw [e2]; exact hslots) hfr hlo (by rw [e1, e2]; exact hret))
        · cases h
          have e0 := jrt_st h1
          subst h2
          have := hret H locs pc ls hS hS0 ⟨i, st, hd, h1, e0⟩
          rw [← e0] at this
          simpa using this
        · dsimp only at h
          split at h
          · rename_i hd1
            have g1 := jnatv_le h1
            have g2 := jrun_le sv n d _ M1 r M' h
            subst h2
            have z1 : M1.1 = M.1 ∧ M1.2.1 = M.2.1 := jnatv_eq h1
            refine jnatv_sound hC0 hl.2.1 hd h1 hS hS0 hA (Nat.le_trans hd1 hfr) (by omega) (by omega) (by omega) (fun H1 locs1 r1 r2 => ih d _ M1 r M' h p e R s m args below meth c H1 locs1 _ _ Q A ls hC0 r1 r2 (fun q hq => hA q (jA_mono g1 hq)) hl (by rw [z1.1]; exact hcells) (by rw [z1.2]; exact hslots) hfr hlo (by rw [z1.1, z1.2]; exact hret))
          · cases h
        · cases d with
          | zero => cases h
          | succ d0 =>
            dsimp only at h
            cases h3 : jrun sv n d0 Fe M with
            | none => rw [h3] at h; cases h
            | some y =>
              obtain ⟨r1, M1⟩ := y
              rw [h3] at h
              dsimp only at h
              have g1 := jrun_le sv n d0 Fe M r1 M1 h3
              have g2 := jrun_le sv n (d0 + 1) _ M1 r M' h
              have l1 := g1.1
              have l2 := g2.1
              have l3 := g1.2.1
              have l4 := g2.2.1
              have e1 : cells + (M1.1 - M.1) + (M'.1 - M1.1) = cells + (M'.1 - M.1) := by omega
              have e2 : slots + (M1.2.1 - M.2.1) + (M'.2.1 - M1.2.1) = slots + (M'.2.1 - M.2.1) := by omega
              subst h2
              obtain ⟨f1, f2⟩ := jcall_fr h1
              obtain ⟨μ2, pc2, L2, st2⟩ := Fr
              dsimp only at f1 f2 h
              subst f1 f2
              exact jcall_sound ih hC0 hl hd h1 h3 hS hS0 hA (by omega) (by omega) hfr hlo (fun H1 locs1 q1 q2 => ih (d0 + 1) _ M1 r M' h p e R s m args below meth c H1 locs1 _ _ Q A ls hC0 q1 q2 (fun q hq => hA q (jA_mono g1 hq)) hl (by rw [e1]; exact hcells) (by rw [e2]; exact hslots) hfr hlo (by rw [e1, e2]; exact hret))
      · cases hs
end
section
theorem dX0_init_0 : decode cX0_init 0 = .ok (.aload_n 0, 1) := by decide +kernel
theorem dX0_init_1 : decode cX0_init 1 = .ok (.invokespecial 3, 3) := by decide +kernel
theorem dX0_init_4 : decode cX0_init 4 = .ok (.aload_n 0, 1) := by decide +kernel
theorem dX0_init_5 : decode cX0_init 5 = .ok (.iconst 0, 1) := by decide +kernel
theorem dX0_init_6 : decode cX0_init 6 = .ok (.putfield 9, 3) := by decide +kernel
theorem dX0_init_9 : decode cX0_init 9 = .ok (.aload_n 0, 1) := by decide +kernel
theorem dX0_init_10 : decode cX0_init 10 = .ok (.iconst 0, 1) := by decide +kernel
theorem dX0_init_11 : decode cX0_init 11 = .ok (.putfield 15, 3) := by decide +kernel
theorem dX0_init_14 : decode cX0_init 14 = .ok (.aload_n 0, 1) := by decide +kernel
theorem dX0_init_15 : decode cX0_init 15 = .ok (.iconst 0, 1) := by decide +kernel
theorem dX0_init_16 : decode cX0_init 16 = .ok (.putfield 19, 3) := by decide +kernel
theorem dX0_init_19 : decode cX0_init 19 = .ok (.aload_n 0, 1) := by decide +kernel
theorem dX0_init_20 : decode cX0_init 20 = .ok (.bipush 10, 2) := by decide +kernel
theorem dX0_init_22 : decode cX0_init 22 = .ok (.newarray .int, 2) := by decide +kernel
theorem dX0_init_24 : decode cX0_init 24 = .ok (.putfield 22, 3) := by decide +kernel
theorem dX0_init_27 : decode cX0_init 27 = .ok (.aload_n 0, 1) := by decide +kernel
theorem dX0_init_28 : decode cX0_init 28 = .ok (.iconst 0, 1) := by decide +kernel
theorem dX0_init_29 : decode cX0_init 29 = .ok (.putfield 26, 3) := by decide +kernel
theorem dX0_init_32 : decode cX0_init 32 = .ok (.aload_n 0, 1) := by decide +kernel
theorem dX0_init_33 : decode cX0_init 33 = .ok (.iconst 0, 1) := by decide +kernel
theorem dX0_init_34 : decode cX0_init 34 = .ok (.putfield 29, 3) := by decide +kernel
theorem dX0_init_37 : decode cX0_init 37 = .ok (.aload_n 0, 1) := by decide +kernel
theorem dX0_init_38 : decode cX0_init 38 = .ok (.iconst 0, 1) := by decide +kernel
theorem dX0_init_39 : decode cX0_init 39 = .ok (.putfield 32, 3) := by decide +kernel
theorem dX0_init_42 : decode cX0_init 42 = .ok (.aload_n 0, 1) := by decide +kernel
theorem dX0_init_43 : decode cX0_init 43 = .ok (.iload_n 1, 1) := by decide +kernel
theorem dX0_init_44 : decode cX0_init 44 = .ok (.putfield 35, 3) := by decide +kernel
theorem dX0_init_47 : decode cX0_init 47 = .ok (.aload_n 0, 1) := by decide +kernel
theorem dX0_init_48 : decode cX0_init 48 = .ok (.iload_n 2, 1) := by decide +kernel
theorem dX0_init_49 : decode cX0_init 49 = .ok (.putfield 38, 3) := by decide +kernel
theorem dX0_init_52 : decode cX0_init 52 = .ok (.aload_n 0, 1) := by decide +kernel
theorem dX0_init_53 : decode cX0_init 53 = .ok (.iload_n 3, 1) := by decide +kernel
theorem dX0_init_54 : decode cX0_init 54 = .ok (.putfield 41, 3) := by decide +kernel
theorem dX0_init_57 : decode cX0_init 57 = .ok (.return_, 1) := by decide +kernel
theorem dX0_addLine_0 : decode cX0_addLine 0 = .ok (.aload_n 0, 1) := by decide +kernel
theorem dX0_addLine_1 : decode cX0_addLine 1 = .ok (.getfield 19, 3) := by decide +kernel
theorem dX0_addLine_4 : decode cX0_addLine 4 = .ok (.aload_n 0, 1) := by decide +kernel
theorem dX0_addLine_5 : decode cX0_addLine 5 = .ok (.getfield 22, 3) := by decide +kernel
theorem dX0_addLine_8 : decode cX0_addLine 8 = .ok (.arraylength, 1) := by decide +kernel
theorem dX0_addLine_9 : decode cX0_addLine 9 = .ok (.if_icmp .lt 4, 3) := by decide +kernel
theorem dX0_addLine_12 : decode cX0_addLine 12 = .ok (.return_, 1) := by decide +kernel
theorem dX0_addLine_13 : decode cX0_addLine 13 = .ok (.aload_n 0, 1) := by decide +kernel
theorem dX0_addLine_14 : decode cX0_addLine 14 = .ok (.getfield 19, 3) := by decide +kernel
theorem dX0_addLine_17 : decode cX0_addLine 17 = .ok (.ifCond .ne 16, 3) := by decide +kernel
theorem dX0_addLine_20 : decode cX0_addLine 20 = .ok (.aload_n 0, 1) := by decide +kernel
theorem dX0_addLine_21 : decode cX0_addLine 21 = .ok (.iload_n 1, 1) := by decide +kernel
theorem dX0_addLine_22 : decode cX0_addLine 22 = .ok (.putfield 9, 3) := by decide +kernel
theorem dX0_addLine_25 : decode cX0_addLine 25 = .ok (.aload_n 0, 1) := by decide +kernel
theorem dX0_addLine_26 : decode cX0_addLine 26 = .ok (.iload_n 2, 1) := by decide +kernel
theorem dX0_addLine_27 : decode cX0_addLine 27 = .ok (.putfield 15, 3) := by decide +kernel
theorem dX0_addLine_30 : decode cX0_addLine 30 = .ok (.goto 18, 3) := by decide +kernel
theorem dX0_addLine_33 : decode cX0_addLine 33 = .ok (.aload_n 0, 1) := by decide +kernel
theorem dX0_addLine_34 : decode cX0_addLine 34 = .ok (.getfield 22, 3) := by decide +kernel
theorem dX0_addLine_37 : decode cX0_addLine 37 = .ok (.aload_n 0, 1) := by decide +kernel
theorem dX0_addLine_38 : decode cX0_addLine 38 = .ok (.getfield 19, 3) := by decide +kernel
theorem dX0_addLine_41 : decode cX0_addLine 41 = .ok (.aload_n 0, 1) := by decide +kernel
theorem dX0_addLine_42 : decode cX0_addLine 42 = .ok (.invokevirtual 44, 3) := by decide +kernel
theorem dX0_addLine_45 : decode cX0_addLine 45 = .ok (.iload_n 1, 1) := by decide +kernel
theorem dX0_addLine_46 : decode cX0_addLine 46 = .ok (.iadd, 1) := by decide +kernel
theorem dX0_addLine_47 : decode cX0_addLine 47 = .ok (.iastore, 1) := by decide +kernel
theorem dX0_addLine_48 : decode cX0_addLine 48 = .ok (.aload_n 0, 1) := by decide +kernel
theorem dX0_addLine_49 : decode cX0_addLine 49 = .ok (.dup, 1) := by decide +kernel
theorem dX0_addLine_50 : decode cX0_addLine 50 = .ok (.getfield 19, 3) := by decide +kernel
theorem dX0_addLine_53 : decode cX0_addLine 53 = .ok (.iconst 1, 1) := by decide +kernel
theorem dX0_addLine_54 : decode cX0_addLine 54 = .ok (.iadd, 1) := by decide +kernel
theorem dX0_addLine_55 : decode cX0_addLine 55 = .ok (.putfield 19, 3) := by decide +kernel
theorem dX0_addLine_58 : decode cX0_addLine 58 = .ok (.return_, 1) := by decide +kernel
theorem dX0_height_0 : decode cX0_height 0 = .ok (.aload_n 0, 1) := by decide +kernel
theorem dX0_height_1 : decode cX0_height 1 = .ok (.getfield 19, 3) := by decide +kernel
theorem dX0_height_4 : decode cX0_height 4 = .ok (.ifCond .ne 7, 3) := by decide +kernel
theorem dX0_height_7 : decode cX0_height 7 = .ok (.iconst 0, 1) := by decide +kernel
theorem dX0_height_8 : decode cX0_height 8 = .ok (.goto 14, 3) := by decide +kernel
theorem dX0_height_11 : decode cX0_height 11 = .ok (.aload_n 0, 1) := by decide +kernel
theorem dX0_height_12 : decode cX0_height 12 = .ok (.getfield 22, 3) := by decide +kernel
theorem dX0_height_15 : decode cX0_height 15 = .ok (.aload_n 0, 1) := by decide +kernel
theorem dX0_height_16 : decode cX0_height 16 = .ok (.getfield 19, 3) := by decide +kernel
theorem dX0_height_19 : decode cX0_height 19 = .ok (.iconst 1, 1) := by decide +kernel
theorem dX0_height_20 : decode cX0_height 20 = .ok (.isub, 1) := by decide +kernel
theorem dX0_height_21 : decode cX0_height 21 = .ok (.iaload, 1) := by decide +kernel
theorem dX0_height_22 : decode cX0_height 22 = .ok (.ireturn, 1) := by decide +kernel
theorem dX0_takesItsTurn_0 : decode cX0_takesItsTurn 0 = .ok (.aload_n 0, 1) := by decide +kernel
theorem dX0_takesItsTurn_1 : decode cX0_takesItsTurn 1 = .ok (.getfield 26, 3) := by decide +kernel
theorem dX0_takesItsTurn_4 : decode cX0_takesItsTurn 4 = .ok (.ifCond .ne 14, 3) := by decide +kernel
theorem dX0_takesItsTurn_7 : decode cX0_takesItsTurn 7 = .ok (.aload_n 0, 1) := by decide +kernel
theorem dX0_takesItsTurn_8 : decode cX0_takesItsTurn 8 = .ok (.getfield 19, 3) := by decide +kernel
theorem dX0_takesItsTurn_11 : decode cX0_takesItsTurn 11 = .ok (.ifCond .le 7, 3) := by decide +kernel
theorem dX0_takesItsTurn_14 : decode cX0_takesItsTurn 14 = .ok (.iconst 1, 1) := by decide +kernel
theorem dX0_takesItsTurn_15 : decode cX0_takesItsTurn 15 = .ok (.goto 4, 3) := by decide +kernel
theorem dX0_takesItsTurn_18 : decode cX0_takesItsTurn 18 = .ok (.iconst 0, 1) := by decide +kernel
theorem dX0_takesItsTurn_19 : decode cX0_takesItsTurn 19 = .ok (.istore_n 1, 1) := by decide +kernel
theorem dX0_takesItsTurn_20 : decode cX0_takesItsTurn 20 = .ok (.aload_n 0, 1) := by decide +kernel
theorem dX0_takesItsTurn_21 : decode cX0_takesItsTurn 21 = .ok (.iconst 0, 1) := by decide +kernel
theorem dX0_takesItsTurn_22 : decode cX0_takesItsTurn 22 = .ok (.putfield 26, 3) := by decide +kernel
theorem dX0_takesItsTurn_25 : decode cX0_takesItsTurn 25 = .ok (.iload_n 1, 1) := by decide +kernel
theorem dX0_takesItsTurn_26 : decode cX0_takesItsTurn 26 = .ok (.ireturn, 1) := by decide +kernel
theorem dX1_init_0 : decode cX1_init 0 = .ok (.aload_n 0, 1) := by decide +kernel
theorem dX1_init_1 : decode cX1_init 1 = .ok (.invokespecial 1, 3) := by decide +kernel
theorem dX1_init_4 : decode cX1_init 4 = .ok (.aload_n 0, 1) := by decide +kernel
theorem dX1_init_5 : decode cX1_init 5 = .ok (.new 7, 3) := by decide +kernel
theorem dX1_init_8 : decode cX1_init 8 = .ok (.dup, 1) := by decide +kernel
theorem dX1_init_9 : decode cX1_init 9 = .ok (.invokespecial 9, 3) := by decide +kernel
theorem dX1_init_12 : decode cX1_init 12 = .ok (.putfield 10, 3) := by decide +kernel
theorem dX1_init_15 : decode cX1_init 15 = .ok (.aload_n 0, 1) := by decide +kernel
theorem dX1_init_16 : decode cX1_init 16 = .ok (.iconst 0, 1) := by decide +kernel
theorem dX1_init_17 : decode cX1_init 17 = .ok (.putfield 16, 3) := by decide +kernel
theorem dX1_init_20 : decode cX1_init 20 = .ok (.return_, 1) := by decide +kernel
theorem dX1_clear_0 : decode cX1_clear 0 = .ok (.aload_n 0, 1) := by decide +kernel
theorem dX1_clear_1 : decode cX1_clear 1 = .ok (.iconst 0, 1) := by decide +kernel
theorem dX1_clear_2 : decode cX1_clear 2 = .ok (.putfield 16, 3) := by decide +kernel
theorem dX1_clear_5 : decode cX1_clear 5 = .ok (.return_, 1) := by decide +kernel
theorem dX1_add_0 : decode cX1_add 0 = .ok (.aload_n 0, 1) := by decide +kernel
theorem dX1_add_1 : decode cX1_add 1 = .ok (.getfield 16, 3) := by decide +kernel
theorem dX1_add_4 : decode cX1_add 4 = .ok (.bipush 64, 2) := by decide +kernel
theorem dX1_add_6 : decode cX1_add 6 = .ok (.idiv, 1) := by decide +kernel
theorem dX1_add_7 : decode cX1_add 7 = .ok (.istore 6, 2) := by decide +kernel
theorem dX1_add_9 : decode cX1_add 9 = .ok (.iload 6, 2) := by decide +kernel
theorem dX1_add_11 : decode cX1_add 11 = .ok (.aload_n 0, 1) := by decide +kernel
theorem dX1_add_12 : decode cX1_add 12 = .ok (.getfield 10, 3) := by decide +kernel
theorem dX1_add_15 : decode cX1_add 15 = .ok (.invokevirtual 20, 3) := by decide +kernel
theorem dX1_add_18 : decode cX1_add 18 = .ok (.if_icmp .lt 18, 3) := by decide +kernel
theorem dX1_add_21 : decode cX1_add 21 = .ok (.aload_n 0, 1) := by decide +kernel
theorem dX1_add_22 : decode cX1_add 22 = .ok (.getfield 10, 3) := by decide +kernel
theorem dX1_add_25 : decode cX1_add 25 = .ok (.new 24, 3) := by decide +kernel
theorem dX1_add_28 : decode cX1_add 28 = .ok (.dup, 1) := by decide +kernel
theorem dX1_add_29 : decode cX1_add 29 = .ok (.invokespecial 26, 3) := by decide +kernel
theorem dX1_add_32 : decode cX1_add 32 = .ok (.invokevirtual 27, 3) := by decide +kernel
theorem dX1_add_35 : decode cX1_add 35 = .ok (.pop, 1) := by decide +kernel
theorem dX1_add_36 : decode cX1_add 36 = .ok (.aload_n 0, 1) := by decide +kernel
theorem dX1_add_37 : decode cX1_add 37 = .ok (.getfield 10, 3) := by decide +kernel
theorem dX1_add_40 : decode cX1_add 40 = .ok (.iload 6, 2) := by decide +kernel
theorem dX1_add_42 : decode cX1_add 42 = .ok (.invokevirtual 31, 3) := by decide +kernel
theorem dX1_add_45 : decode cX1_add 45 = .ok (.checkcast 24, 3) := by decide +kernel
theorem dX1_add_48 : decode cX1_add 48 = .ok (.getfield 35, 3) := by decide +kernel
theorem dX1_add_51 : decode cX1_add 51 = .ok (.astore 7, 2) := by decide +kernel
theorem dX1_add_53 : decode cX1_add 53 = .ok (.aload_n 0, 1) := by decide +kernel
theorem dX1_add_54 : decode cX1_add 54 = .ok (.getfield 16, 3) := by decide +kernel
theorem dX1_add_57 : decode cX1_add 57 = .ok (.bipush 64, 2) := by decide +kernel
theorem dX1_add_59 : decode cX1_add 59 = .ok (.irem, 1) := by decide +kernel
theorem dX1_add_60 : decode cX1_add 60 = .ok (.iconst 5, 1) := by decide +kernel
theorem dX1_add_61 : decode cX1_add 61 = .ok (.imul, 1) := by decide +kernel
theorem dX1_add_62 : decode cX1_add 62 = .ok (.istore 8, 2) := by decide +kernel
theorem dX1_add_64 : decode cX1_add 64 = .ok (.aload 7, 2) := by decide +kernel
theorem dX1_add_66 : decode cX1_add 66 = .ok (.iload 8, 2) := by decide +kernel
theorem dX1_add_68 : decode cX1_add 68 = .ok (.iload_n 1, 1) := by decide +kernel
theorem dX1_add_69 : decode cX1_add 69 = .ok (.iastore, 1) := by decide +kernel
theorem dX1_add_70 : decode cX1_add 70 = .ok (.aload 7, 2) := by decide +kernel
theorem dX1_add_72 : decode cX1_add 72 = .ok (.iload 8, 2) := by decide +kernel
theorem dX1_add_74 : decode cX1_add 74 = .ok (.iconst 1, 1) := by decide +kernel
theorem dX1_add_75 : decode cX1_add 75 = .ok (.iadd, 1) := by decide +kernel
theorem dX1_add_76 : decode cX1_add 76 = .ok (.iload_n 2, 1) := by decide +kernel
theorem dX1_add_77 : decode cX1_add 77 = .ok (.iastore, 1) := by decide +kernel
theorem dX1_add_78 : decode cX1_add 78 = .ok (.aload 7, 2) := by decide +kernel
theorem dX1_add_80 : decode cX1_add 80 = .ok (.iload 8, 2) := by decide +kernel
theorem dX1_add_82 : decode cX1_add 82 = .ok (.iconst 2, 1) := by decide +kernel
theorem dX1_add_83 : decode cX1_add 83 = .ok (.iadd, 1) := by decide +kernel
theorem dX1_add_84 : decode cX1_add 84 = .ok (.iload_n 3, 1) := by decide +kernel
theorem dX1_add_85 : decode cX1_add 85 = .ok (.iastore, 1) := by decide +kernel
theorem dX1_add_86 : decode cX1_add 86 = .ok (.aload 7, 2) := by decide +kernel
theorem dX1_add_88 : decode cX1_add 88 = .ok (.iload 8, 2) := by decide +kernel
theorem dX1_add_90 : decode cX1_add 90 = .ok (.iconst 3, 1) := by decide +kernel
theorem dX1_add_91 : decode cX1_add 91 = .ok (.iadd, 1) := by decide +kernel
theorem dX1_add_92 : decode cX1_add 92 = .ok (.iload 4, 2) := by decide +kernel
theorem dX1_add_94 : decode cX1_add 94 = .ok (.iastore, 1) := by decide +kernel
theorem dX1_add_95 : decode cX1_add 95 = .ok (.aload 7, 2) := by decide +kernel
theorem dX1_add_97 : decode cX1_add 97 = .ok (.iload 8, 2) := by decide +kernel
theorem dX1_add_99 : decode cX1_add 99 = .ok (.iconst 4, 1) := by decide +kernel
theorem dX1_add_100 : decode cX1_add 100 = .ok (.iadd, 1) := by decide +kernel
theorem dX1_add_101 : decode cX1_add 101 = .ok (.iload 5, 2) := by decide +kernel
theorem dX1_add_103 : decode cX1_add 103 = .ok (.iastore, 1) := by decide +kernel
theorem dX1_add_104 : decode cX1_add 104 = .ok (.aload_n 0, 1) := by decide +kernel
theorem dX1_add_105 : decode cX1_add 105 = .ok (.dup, 1) := by decide +kernel
theorem dX1_add_106 : decode cX1_add 106 = .ok (.getfield 16, 3) := by decide +kernel
theorem dX1_add_109 : decode cX1_add 109 = .ok (.iconst 1, 1) := by decide +kernel
theorem dX1_add_110 : decode cX1_add 110 = .ok (.iadd, 1) := by decide +kernel
theorem dX1_add_111 : decode cX1_add 111 = .ok (.putfield 16, 3) := by decide +kernel
theorem dX1_add_114 : decode cX1_add 114 = .ok (.return_, 1) := by decide +kernel
theorem dX1_has_0 : decode cX1_has 0 = .ok (.iload_n 1, 1) := by decide +kernel
theorem dX1_has_1 : decode cX1_has 1 = .ok (.ifCond .lt 24, 3) := by decide +kernel
theorem dX1_has_4 : decode cX1_has 4 = .ok (.iload_n 1, 1) := by decide +kernel
theorem dX1_has_5 : decode cX1_has 5 = .ok (.aload_n 0, 1) := by decide +kernel
theorem dX1_has_6 : decode cX1_has 6 = .ok (.getfield 16, 3) := by decide +kernel
theorem dX1_has_9 : decode cX1_has 9 = .ok (.if_icmp .ge 16, 3) := by decide +kernel
theorem dX1_has_12 : decode cX1_has 12 = .ok (.iload_n 2, 1) := by decide +kernel
theorem dX1_has_13 : decode cX1_has 13 = .ok (.ifCond .lt 12, 3) := by decide +kernel
theorem dX1_has_16 : decode cX1_has 16 = .ok (.iload_n 2, 1) := by decide +kernel
theorem dX1_has_17 : decode cX1_has 17 = .ok (.iconst 5, 1) := by decide +kernel
theorem dX1_has_18 : decode cX1_has 18 = .ok (.if_icmp .ge 7, 3) := by decide +kernel
theorem dX1_has_21 : decode cX1_has 21 = .ok (.iconst 1, 1) := by decide +kernel
theorem dX1_has_22 : decode cX1_has 22 = .ok (.goto 4, 3) := by decide +kernel
theorem dX1_has_25 : decode cX1_has 25 = .ok (.iconst 0, 1) := by decide +kernel
theorem dX1_has_26 : decode cX1_has 26 = .ok (.ireturn, 1) := by decide +kernel
theorem dX1_cell_0 : decode cX1_cell 0 = .ok (.aload_n 0, 1) := by decide +kernel
theorem dX1_cell_1 : decode cX1_cell 1 = .ok (.iload_n 1, 1) := by decide +kernel
theorem dX1_cell_2 : decode cX1_cell 2 = .ok (.iload_n 2, 1) := by decide +kernel
theorem dX1_cell_3 : decode cX1_cell 3 = .ok (.invokevirtual 39, 3) := by decide +kernel
theorem dX1_cell_6 : decode cX1_cell 6 = .ok (.ifCond .ne 5, 3) := by decide +kernel
theorem dX1_cell_9 : decode cX1_cell 9 = .ok (.iconst 0, 1) := by decide +kernel
theorem dX1_cell_10 : decode cX1_cell 10 = .ok (.ireturn, 1) := by decide +kernel
theorem dX1_cell_11 : decode cX1_cell 11 = .ok (.aload_n 0, 1) := by decide +kernel
theorem dX1_cell_12 : decode cX1_cell 12 = .ok (.getfield 10, 3) := by decide +kernel
theorem dX1_cell_15 : decode cX1_cell 15 = .ok (.iload_n 1, 1) := by decide +kernel
theorem dX1_cell_16 : decode cX1_cell 16 = .ok (.bipush 64, 2) := by decide +kernel
theorem dX1_cell_18 : decode cX1_cell 18 = .ok (.idiv, 1) := by decide +kernel
theorem dX1_cell_19 : decode cX1_cell 19 = .ok (.invokevirtual 31, 3) := by decide +kernel
theorem dX1_cell_22 : decode cX1_cell 22 = .ok (.checkcast 24, 3) := by decide +kernel
theorem dX1_cell_25 : decode cX1_cell 25 = .ok (.astore_n 3, 1) := by decide +kernel
theorem dX1_cell_26 : decode cX1_cell 26 = .ok (.aload_n 3, 1) := by decide +kernel
theorem dX1_cell_27 : decode cX1_cell 27 = .ok (.getfield 35, 3) := by decide +kernel
theorem dX1_cell_30 : decode cX1_cell 30 = .ok (.iload_n 1, 1) := by decide +kernel
theorem dX1_cell_31 : decode cX1_cell 31 = .ok (.bipush 64, 2) := by decide +kernel
theorem dX1_cell_33 : decode cX1_cell 33 = .ok (.irem, 1) := by decide +kernel
theorem dX1_cell_34 : decode cX1_cell 34 = .ok (.iconst 5, 1) := by decide +kernel
theorem dX1_cell_35 : decode cX1_cell 35 = .ok (.imul, 1) := by decide +kernel
theorem dX1_cell_36 : decode cX1_cell 36 = .ok (.iload_n 2, 1) := by decide +kernel
theorem dX1_cell_37 : decode cX1_cell 37 = .ok (.iadd, 1) := by decide +kernel
theorem dX1_cell_38 : decode cX1_cell 38 = .ok (.iaload, 1) := by decide +kernel
theorem dX1_cell_39 : decode cX1_cell 39 = .ok (.ireturn, 1) := by decide +kernel
theorem dX2_init_0 : decode cX2_init 0 = .ok (.aload_n 0, 1) := by decide +kernel
theorem dX2_init_1 : decode cX2_init 1 = .ok (.invokespecial 1, 3) := by decide +kernel
theorem dX2_init_4 : decode cX2_init 4 = .ok (.aload_n 0, 1) := by decide +kernel
theorem dX2_init_5 : decode cX2_init 5 = .ok (.sipush 320, 3) := by decide +kernel
theorem dX2_init_8 : decode cX2_init 8 = .ok (.newarray .int, 2) := by decide +kernel
theorem dX2_init_10 : decode cX2_init 10 = .ok (.putfield 9, 3) := by decide +kernel
theorem dX2_init_13 : decode cX2_init 13 = .ok (.return_, 1) := by decide +kernel
theorem dX3_init_0 : decode cX3_init 0 = .ok (.aload_n 0, 1) := by decide +kernel
theorem dX3_init_1 : decode cX3_init 1 = .ok (.invokespecial 1, 3) := by decide +kernel
theorem dX3_init_4 : decode cX3_init 4 = .ok (.aload_n 0, 1) := by decide +kernel
theorem dX3_init_5 : decode cX3_init 5 = .ok (.lconst 0, 1) := by decide +kernel
theorem dX3_init_6 : decode cX3_init 6 = .ok (.putfield 7, 3) := by decide +kernel
theorem dX3_init_9 : decode cX3_init 9 = .ok (.aload_n 0, 1) := by decide +kernel
theorem dX3_init_10 : decode cX3_init 10 = .ok (.iload_n 1, 1) := by decide +kernel
theorem dX3_init_11 : decode cX3_init 11 = .ok (.putfield 13, 3) := by decide +kernel
theorem dX3_init_14 : decode cX3_init 14 = .ok (.aload_n 0, 1) := by decide +kernel
theorem dX3_init_15 : decode cX3_init 15 = .ok (.iload_n 2, 1) := by decide +kernel
theorem dX3_init_16 : decode cX3_init 16 = .ok (.putfield 17, 3) := by decide +kernel
theorem dX3_init_19 : decode cX3_init 19 = .ok (.aload_n 0, 1) := by decide +kernel
theorem dX3_init_20 : decode cX3_init 20 = .ok (.iload_n 3, 1) := by decide +kernel
theorem dX3_init_21 : decode cX3_init 21 = .ok (.putfield 20, 3) := by decide +kernel
theorem dX3_init_24 : decode cX3_init 24 = .ok (.aload_n 0, 1) := by decide +kernel
theorem dX3_init_25 : decode cX3_init 25 = .ok (.iload 4, 2) := by decide +kernel
theorem dX3_init_27 : decode cX3_init 27 = .ok (.putfield 23, 3) := by decide +kernel
theorem dX3_init_30 : decode cX3_init 30 = .ok (.return_, 1) := by decide +kernel
theorem dX4_init_0 : decode cX4_init 0 = .ok (.aload_n 0, 1) := by decide +kernel
theorem dX4_init_1 : decode cX4_init 1 = .ok (.invokespecial 1, 3) := by decide +kernel
theorem dX4_init_4 : decode cX4_init 4 = .ok (.aload_n 0, 1) := by decide +kernel
theorem dX4_init_5 : decode cX4_init 5 = .ok (.new 7, 3) := by decide +kernel
theorem dX4_init_8 : decode cX4_init 8 = .ok (.dup, 1) := by decide +kernel
theorem dX4_init_9 : decode cX4_init 9 = .ok (.invokespecial 9, 3) := by decide +kernel
theorem dX4_init_12 : decode cX4_init 12 = .ok (.putfield 10, 3) := by decide +kernel
theorem dX4_init_15 : decode cX4_init 15 = .ok (.aload_n 0, 1) := by decide +kernel
theorem dX4_init_16 : decode cX4_init 16 = .ok (.new 7, 3) := by decide +kernel
theorem dX4_init_19 : decode cX4_init 19 = .ok (.dup, 1) := by decide +kernel
theorem dX4_init_20 : decode cX4_init 20 = .ok (.invokespecial 9, 3) := by decide +kernel
theorem dX4_init_23 : decode cX4_init 23 = .ok (.putfield 16, 3) := by decide +kernel
theorem dX4_init_26 : decode cX4_init 26 = .ok (.aload_n 0, 1) := by decide +kernel
theorem dX4_init_27 : decode cX4_init 27 = .ok (.iconst 0, 1) := by decide +kernel
theorem dX4_init_28 : decode cX4_init 28 = .ok (.putfield 19, 3) := by decide +kernel
theorem dX4_init_31 : decode cX4_init 31 = .ok (.aload_n 0, 1) := by decide +kernel
theorem dX4_init_32 : decode cX4_init 32 = .ok (.bipush 6, 2) := by decide +kernel
theorem dX4_init_34 : decode cX4_init 34 = .ok (.newarray .int, 2) := by decide +kernel
theorem dX4_init_36 : decode cX4_init 36 = .ok (.putfield 23, 3) := by decide +kernel
theorem dX4_init_39 : decode cX4_init 39 = .ok (.aload_n 0, 1) := by decide +kernel
theorem dX4_init_40 : decode cX4_init 40 = .ok (.bipush 6, 2) := by decide +kernel
theorem dX4_init_42 : decode cX4_init 42 = .ok (.newarray .int, 2) := by decide +kernel
theorem dX4_init_44 : decode cX4_init 44 = .ok (.putfield 27, 3) := by decide +kernel
theorem dX4_init_47 : decode cX4_init 47 = .ok (.aload_n 0, 1) := by decide +kernel
theorem dX4_init_48 : decode cX4_init 48 = .ok (.new 30, 3) := by decide +kernel
theorem dX4_init_51 : decode cX4_init 51 = .ok (.dup, 1) := by decide +kernel
theorem dX4_init_52 : decode cX4_init 52 = .ok (.invokespecial 32, 3) := by decide +kernel
theorem dX4_init_55 : decode cX4_init 55 = .ok (.putfield 33, 3) := by decide +kernel
theorem dX4_init_58 : decode cX4_init 58 = .ok (.aload_n 0, 1) := by decide +kernel
theorem dX4_init_59 : decode cX4_init 59 = .ok (.iconst 0, 1) := by decide +kernel
theorem dX4_init_60 : decode cX4_init 60 = .ok (.putfield 37, 3) := by decide +kernel
theorem dX4_init_63 : decode cX4_init 63 = .ok (.aload_n 0, 1) := by decide +kernel
theorem dX4_init_64 : decode cX4_init 64 = .ok (.iconst 0, 1) := by decide +kernel
theorem dX4_init_65 : decode cX4_init 65 = .ok (.putfield 41, 3) := by decide +kernel
theorem dX4_init_68 : decode cX4_init 68 = .ok (.aload_n 0, 1) := by decide +kernel
theorem dX4_init_69 : decode cX4_init 69 = .ok (.iconst 0, 1) := by decide +kernel
theorem dX4_init_70 : decode cX4_init 70 = .ok (.putfield 44, 3) := by decide +kernel
theorem dX4_init_73 : decode cX4_init 73 = .ok (.aload_n 0, 1) := by decide +kernel
theorem dX4_init_74 : decode cX4_init 74 = .ok (.iconst 0, 1) := by decide +kernel
theorem dX4_init_75 : decode cX4_init 75 = .ok (.putfield 47, 3) := by decide +kernel
theorem dX4_init_78 : decode cX4_init 78 = .ok (.aload_n 0, 1) := by decide +kernel
theorem dX4_init_79 : decode cX4_init 79 = .ok (.iconst 0, 1) := by decide +kernel
theorem dX4_init_80 : decode cX4_init 80 = .ok (.putfield 50, 3) := by decide +kernel
theorem dX4_init_83 : decode cX4_init 83 = .ok (.aload_n 0, 1) := by decide +kernel
theorem dX4_init_84 : decode cX4_init 84 = .ok (.iconst 0, 1) := by decide +kernel
theorem dX4_init_85 : decode cX4_init 85 = .ok (.putfield 53, 3) := by decide +kernel
theorem dX4_init_88 : decode cX4_init 88 = .ok (.aload_n 0, 1) := by decide +kernel
theorem dX4_init_89 : decode cX4_init 89 = .ok (.iconst 0, 1) := by decide +kernel
theorem dX4_init_90 : decode cX4_init 90 = .ok (.putfield 56, 3) := by decide +kernel
theorem dX4_init_93 : decode cX4_init 93 = .ok (.aload_n 0, 1) := by decide +kernel
theorem dX4_init_94 : decode cX4_init 94 = .ok (.iload_n 1, 1) := by decide +kernel
theorem dX4_init_95 : decode cX4_init 95 = .ok (.bipush 10, 2) := by decide +kernel
theorem dX4_init_97 : decode cX4_init 97 = .ok (.bipush 100, 2) := by decide +kernel
theorem dX4_init_99 : decode cX4_init 99 = .ok (.invokestatic 59, 3) := by decide +kernel
theorem dX4_init_102 : decode cX4_init 102 = .ok (.putfield 63, 3) := by decide +kernel
theorem dX4_init_105 : decode cX4_init 105 = .ok (.aload_n 0, 1) := by decide +kernel
theorem dX4_init_106 : decode cX4_init 106 = .ok (.iload_n 2, 1) := by decide +kernel
theorem dX4_init_107 : decode cX4_init 107 = .ok (.iconst 2, 1) := by decide +kernel
theorem dX4_init_108 : decode cX4_init 108 = .ok (.aload_n 0, 1) := by decide +kernel
theorem dX4_init_109 : decode cX4_init 109 = .ok (.getfield 63, 3) := by decide +kernel
theorem dX4_init_112 : decode cX4_init 112 = .ok (.iconst 2, 1) := by decide +kernel
theorem dX4_init_113 : decode cX4_init 113 = .ok (.isub, 1) := by decide +kernel
theorem dX4_init_114 : decode cX4_init 114 = .ok (.invokestatic 59, 3) := by decide +kernel
theorem dX4_init_117 : decode cX4_init 117 = .ok (.putfield 66, 3) := by decide +kernel
theorem dX4_init_120 : decode cX4_init 120 = .ok (.aload_n 0, 1) := by decide +kernel
theorem dX4_init_121 : decode cX4_init 121 = .ok (.iload_n 3, 1) := by decide +kernel
theorem dX4_init_122 : decode cX4_init 122 = .ok (.aload_n 0, 1) := by decide +kernel
theorem dX4_init_123 : decode cX4_init 123 = .ok (.getfield 66, 3) := by decide +kernel
theorem dX4_init_126 : decode cX4_init 126 = .ok (.aload_n 0, 1) := by decide +kernel
theorem dX4_init_127 : decode cX4_init 127 = .ok (.getfield 63, 3) := by decide +kernel
theorem dX4_init_130 : decode cX4_init 130 = .ok (.iconst 1, 1) := by decide +kernel
theorem dX4_init_131 : decode cX4_init 131 = .ok (.isub, 1) := by decide +kernel
theorem dX4_init_132 : decode cX4_init 132 = .ok (.invokestatic 59, 3) := by decide +kernel
theorem dX4_init_135 : decode cX4_init 135 = .ok (.putfield 69, 3) := by decide +kernel
theorem dX4_init_138 : decode cX4_init 138 = .ok (.return_, 1) := by decide +kernel
theorem dX4_group_0 : decode cX4_group 0 = .ok (.aload_n 0, 1) := by decide +kernel
theorem dX4_group_1 : decode cX4_group 1 = .ok (.iload_n 1, 1) := by decide +kernel
theorem dX4_group_2 : decode cX4_group 2 = .ok (.iload_n 2, 1) := by decide +kernel
theorem dX4_group_3 : decode cX4_group 3 = .ok (.invokevirtual 72, 3) := by decide +kernel
theorem dX4_group_6 : decode cX4_group 6 = .ok (.ifCond .ne 6, 3) := by decide +kernel
theorem dX4_group_9 : decode cX4_group 9 = .ok (.bipush (-4), 2) := by decide +kernel
theorem dX4_group_11 : decode cX4_group 11 = .ok (.ireturn, 1) := by decide +kernel
theorem dX4_group_12 : decode cX4_group 12 = .ok (.aload_n 0, 1) := by decide +kernel
theorem dX4_group_13 : decode cX4_group 13 = .ok (.getfield 37, 3) := by decide +kernel
theorem dX4_group_16 : decode cX4_group 16 = .ok (.ifCond .eq 6, 3) := by decide +kernel
theorem dX4_group_19 : decode cX4_group 19 = .ok (.bipush (-5), 2) := by decide +kernel
theorem dX4_group_21 : decode cX4_group 21 = .ok (.ireturn, 1) := by decide +kernel
theorem dX4_group_22 : decode cX4_group 22 = .ok (.iload_n 1, 1) := by decide +kernel
theorem dX4_group_23 : decode cX4_group 23 = .ok (.iconst 3, 1) := by decide +kernel
theorem dX4_group_24 : decode cX4_group 24 = .ok (.if_icmp .eq 14, 3) := by decide +kernel
theorem dX4_group_27 : decode cX4_group 27 = .ok (.aload_n 0, 1) := by decide +kernel
theorem dX4_group_28 : decode cX4_group 28 = .ok (.iload_n 1, 1) := by decide +kernel
theorem dX4_group_29 : decode cX4_group 29 = .ok (.iload_n 2, 1) := by decide +kernel
theorem dX4_group_30 : decode cX4_group 30 = .ok (.invokevirtual 76, 3) := by decide +kernel
theorem dX4_group_33 : decode cX4_group 33 = .ok (.ifnull 5, 3) := by decide +kernel
theorem dX4_group_36 : decode cX4_group 36 = .ok (.iconst 0, 1) := by decide +kernel
theorem dX4_group_37 : decode cX4_group 37 = .ok (.ireturn, 1) := by decide +kernel
theorem dX4_group_38 : decode cX4_group 38 = .ok (.aload_n 0, 1) := by decide +kernel
theorem dX4_group_39 : decode cX4_group 39 = .ok (.getfield 10, 3) := by decide +kernel
theorem dX4_group_42 : decode cX4_group 42 = .ok (.invokevirtual 80, 3) := by decide +kernel
theorem dX4_group_45 : decode cX4_group 45 = .ok (.bipush 20, 2) := by decide +kernel
theorem dX4_group_47 : decode cX4_group 47 = .ok (.if_icmp .lt 5, 3) := by decide +kernel
theorem dX4_group_50 : decode cX4_group 50 = .ok (.iconst (-1), 1) := by decide +kernel
theorem dX4_group_51 : decode cX4_group 51 = .ok (.ireturn, 1) := by decide +kernel
theorem dX4_group_52 : decode cX4_group 52 = .ok (.aload_n 0, 1) := by decide +kernel
theorem dX4_group_53 : decode cX4_group 53 = .ok (.getfield 10, 3) := by decide +kernel
theorem dX4_group_56 : decode cX4_group 56 = .ok (.invokevirtual 80, 3) := by decide +kernel
theorem dX4_group_59 : decode cX4_group 59 = .ok (.iconst 1, 1) := by decide +kernel
theorem dX4_group_60 : decode cX4_group 60 = .ok (.iadd, 1) := by decide +kernel
theorem dX4_group_61 : decode cX4_group 61 = .ok (.istore_n 3, 1) := by decide +kernel
theorem dX4_group_62 : decode cX4_group 62 = .ok (.aload_n 0, 1) := by decide +kernel
theorem dX4_group_63 : decode cX4_group 63 = .ok (.getfield 10, 3) := by decide +kernel
theorem dX4_group_66 : decode cX4_group 66 = .ok (.new 84, 3) := by decide +kernel
theorem dX4_group_69 : decode cX4_group 69 = .ok (.dup, 1) := by decide +kernel
theorem dX4_group_70 : decode cX4_group 70 = .ok (.iload_n 3, 1) := by decide +kernel
theorem dX4_group_71 : decode cX4_group 71 = .ok (.iload_n 1, 1) := by decide +kernel
theorem dX4_group_72 : decode cX4_group 72 = .ok (.iload_n 2, 1) := by decide +kernel
theorem dX4_group_73 : decode cX4_group 73 = .ok (.invokespecial 86, 3) := by decide +kernel
theorem dX4_group_76 : decode cX4_group 76 = .ok (.invokevirtual 89, 3) := by decide +kernel
theorem dX4_group_79 : decode cX4_group 79 = .ok (.pop, 1) := by decide +kernel
theorem dX4_group_80 : decode cX4_group 80 = .ok (.iload_n 3, 1) := by decide +kernel
theorem dX4_group_81 : decode cX4_group 81 = .ok (.ireturn, 1) := by decide +kernel
theorem dX4_line_0 : decode cX4_line 0 = .ok (.aload_n 0, 1) := by decide +kernel
theorem dX4_line_1 : decode cX4_line 1 = .ok (.iload_n 1, 1) := by decide +kernel
theorem dX4_line_2 : decode cX4_line 2 = .ok (.invokevirtual 93, 3) := by decide +kernel
theorem dX4_line_5 : decode cX4_line 5 = .ok (.astore 4, 2) := by decide +kernel
theorem dX4_line_7 : decode cX4_line 7 = .ok (.aload 4, 2) := by decide +kernel
theorem dX4_line_9 : decode cX4_line 9 = .ok (.ifnonnull 6, 3) := by decide +kernel
theorem dX4_line_12 : decode cX4_line 12 = .ok (.bipush (-2), 2) := by decide +kernel
theorem dX4_line_14 : decode cX4_line 14 = .ok (.ireturn, 1) := by decide +kernel
theorem dX4_line_15 : decode cX4_line 15 = .ok (.iload_n 3, 1) := by decide +kernel
theorem dX4_line_16 : decode cX4_line 16 = .ok (.ifCond .eq 8, 3) := by decide +kernel
theorem dX4_line_19 : decode cX4_line 19 = .ok (.bipush 20, 2) := by decide +kernel
theorem dX4_line_21 : decode cX4_line 21 = .ok (.goto 7, 3) := by decide +kernel
theorem dX4_line_24 : decode cX4_line 24 = .ok (.aload_n 0, 1) := by decide +kernel
theorem dX4_line_25 : decode cX4_line 25 = .ok (.getfield 63, 3) := by decide +kernel
theorem dX4_line_28 : decode cX4_line 28 = .ok (.istore 5, 2) := by decide +kernel
theorem dX4_line_30 : decode cX4_line 30 = .ok (.iload_n 2, 1) := by decide +kernel
theorem dX4_line_31 : decode cX4_line 31 = .ok (.iconst 1, 1) := by decide +kernel
theorem dX4_line_32 : decode cX4_line 32 = .ok (.if_icmp .lt 21, 3) := by decide +kernel
theorem dX4_line_35 : decode cX4_line 35 = .ok (.iload_n 2, 1) := by decide +kernel
theorem dX4_line_36 : decode cX4_line 36 = .ok (.iload 5, 2) := by decide +kernel
theorem dX4_line_38 : decode cX4_line 38 = .ok (.if_icmp .gt 15, 3) := by decide +kernel
theorem dX4_line_41 : decode cX4_line 41 = .ok (.iload_n 3, 1) := by decide +kernel
theorem dX4_line_42 : decode cX4_line 42 = .ok (.ifCond .ne 14, 3) := by decide +kernel
theorem dX4_line_45 : decode cX4_line 45 = .ok (.aload 4, 2) := by decide +kernel
theorem dX4_line_47 : decode cX4_line 47 = .ok (.getfield 97, 3) := by decide +kernel
theorem dX4_line_50 : decode cX4_line 50 = .ok (.ifCond .le 6, 3) := by decide +kernel
theorem dX4_line_53 : decode cX4_line 53 = .ok (.bipush (-4), 2) := by decide +kernel
theorem dX4_line_55 : decode cX4_line 55 = .ok (.ireturn, 1) := by decide +kernel
theorem dX4_line_56 : decode cX4_line 56 = .ok (.aload_n 0, 1) := by decide +kernel
theorem dX4_line_57 : decode cX4_line 57 = .ok (.getfield 37, 3) := by decide +kernel
theorem dX4_line_60 : decode cX4_line 60 = .ok (.ifCond .eq 6, 3) := by decide +kernel
theorem dX4_line_63 : decode cX4_line 63 = .ok (.bipush (-5), 2) := by decide +kernel
theorem dX4_line_65 : decode cX4_line 65 = .ok (.ireturn, 1) := by decide +kernel
theorem dX4_line_66 : decode cX4_line 66 = .ok (.aload 4, 2) := by decide +kernel
theorem dX4_line_68 : decode cX4_line 68 = .ok (.getfield 97, 3) := by decide +kernel
theorem dX4_line_71 : decode cX4_line 71 = .ok (.bipush 10, 2) := by decide +kernel
theorem dX4_line_73 : decode cX4_line 73 = .ok (.if_icmp .lt 5, 3) := by decide +kernel
theorem dX4_line_76 : decode cX4_line 76 = .ok (.iconst (-1), 1) := by decide +kernel
theorem dX4_line_77 : decode cX4_line 77 = .ok (.ireturn, 1) := by decide +kernel
theorem dX4_line_78 : decode cX4_line 78 = .ok (.aload_n 0, 1) := by decide +kernel
theorem dX4_line_79 : decode cX4_line 79 = .ok (.aload 4, 2) := by decide +kernel
theorem dX4_line_81 : decode cX4_line 81 = .ok (.iload_n 2, 1) := by decide +kernel
theorem dX4_line_82 : decode cX4_line 82 = .ok (.iload_n 3, 1) := by decide +kernel
theorem dX4_line_83 : decode cX4_line 83 = .ok (.invokevirtual 100, 3) := by decide +kernel
theorem dX4_line_86 : decode cX4_line 86 = .ok (.ifCond .ne 5, 3) := by decide +kernel
theorem dX4_line_89 : decode cX4_line 89 = .ok (.iconst 0, 1) := by decide +kernel
theorem dX4_line_90 : decode cX4_line 90 = .ok (.ireturn, 1) := by decide +kernel
theorem dX4_line_91 : decode cX4_line 91 = .ok (.aload 4, 2) := by decide +kernel
theorem dX4_line_93 : decode cX4_line 93 = .ok (.iload_n 2, 1) := by decide +kernel
theorem dX4_line_94 : decode cX4_line 94 = .ok (.iload_n 3, 1) := by decide +kernel
theorem dX4_line_95 : decode cX4_line 95 = .ok (.invokevirtual 104, 3) := by decide +kernel
theorem dX4_line_98 : decode cX4_line 98 = .ok (.aload 4, 2) := by decide +kernel
theorem dX4_line_100 : decode cX4_line 100 = .ok (.getfield 97, 3) := by decide +kernel
theorem dX4_line_103 : decode cX4_line 103 = .ok (.ireturn, 1) := by decide +kernel
theorem dX4_sum_0 : decode cX4_sum 0 = .ok (.aload_n 0, 1) := by decide +kernel
theorem dX4_sum_1 : decode cX4_sum 1 = .ok (.iload_n 1, 1) := by decide +kernel
end
section
theorem dX4_sum_2 : decode cX4_sum 2 = .ok (.invokevirtual 93, 3) := by decide +kernel
theorem dX4_sum_5 : decode cX4_sum 5 = .ok (.astore 4, 2) := by decide +kernel
theorem dX4_sum_7 : decode cX4_sum 7 = .ok (.aload 4, 2) := by decide +kernel
theorem dX4_sum_9 : decode cX4_sum 9 = .ok (.ifnull 12, 3) := by decide +kernel
theorem dX4_sum_12 : decode cX4_sum 12 = .ok (.aload 4, 2) := by decide +kernel
theorem dX4_sum_14 : decode cX4_sum 14 = .ok (.getfield 108, 3) := by decide +kernel
theorem dX4_sum_17 : decode cX4_sum 17 = .ok (.iconst 4, 1) := by decide +kernel
theorem dX4_sum_18 : decode cX4_sum 18 = .ok (.if_icmp .eq 6, 3) := by decide +kernel
theorem dX4_sum_21 : decode cX4_sum 21 = .ok (.bipush (-2), 2) := by decide +kernel
theorem dX4_sum_23 : decode cX4_sum 23 = .ok (.ireturn, 1) := by decide +kernel
theorem dX4_sum_24 : decode cX4_sum 24 = .ok (.aload_n 0, 1) := by decide +kernel
theorem dX4_sum_25 : decode cX4_sum 25 = .ok (.iload_n 2, 1) := by decide +kernel
theorem dX4_sum_26 : decode cX4_sum 26 = .ok (.aload 4, 2) := by decide +kernel
theorem dX4_sum_28 : decode cX4_sum 28 = .ok (.getfield 111, 3) := by decide +kernel
theorem dX4_sum_31 : decode cX4_sum 31 = .ok (.invokevirtual 114, 3) := by decide +kernel
theorem dX4_sum_34 : decode cX4_sum 34 = .ok (.ifCond .eq 16, 3) := by decide +kernel
theorem dX4_sum_37 : decode cX4_sum 37 = .ok (.iload_n 3, 1) := by decide +kernel
theorem dX4_sum_38 : decode cX4_sum 38 = .ok (.ifCond .lt 12, 3) := by decide +kernel
theorem dX4_sum_41 : decode cX4_sum 41 = .ok (.iload_n 3, 1) := by decide +kernel
theorem dX4_sum_42 : decode cX4_sum 42 = .ok (.aload 4, 2) := by decide +kernel
theorem dX4_sum_44 : decode cX4_sum 44 = .ok (.getfield 111, 3) := by decide +kernel
theorem dX4_sum_47 : decode cX4_sum 47 = .ok (.if_icmp .le 6, 3) := by decide +kernel
theorem dX4_sum_50 : decode cX4_sum 50 = .ok (.bipush (-4), 2) := by decide +kernel
theorem dX4_sum_52 : decode cX4_sum 52 = .ok (.ireturn, 1) := by decide +kernel
theorem dX4_sum_53 : decode cX4_sum 53 = .ok (.aload_n 0, 1) := by decide +kernel
theorem dX4_sum_54 : decode cX4_sum 54 = .ok (.getfield 37, 3) := by decide +kernel
theorem dX4_sum_57 : decode cX4_sum 57 = .ok (.ifCond .eq 6, 3) := by decide +kernel
theorem dX4_sum_60 : decode cX4_sum 60 = .ok (.bipush (-5), 2) := by decide +kernel
theorem dX4_sum_62 : decode cX4_sum 62 = .ok (.ireturn, 1) := by decide +kernel
theorem dX4_sum_63 : decode cX4_sum 63 = .ok (.aload_n 0, 1) := by decide +kernel
theorem dX4_sum_64 : decode cX4_sum 64 = .ok (.getfield 16, 3) := by decide +kernel
theorem dX4_sum_67 : decode cX4_sum 67 = .ok (.invokevirtual 80, 3) := by decide +kernel
theorem dX4_sum_70 : decode cX4_sum 70 = .ok (.bipush 20, 2) := by decide +kernel
theorem dX4_sum_72 : decode cX4_sum 72 = .ok (.if_icmp .lt 5, 3) := by decide +kernel
theorem dX4_sum_75 : decode cX4_sum 75 = .ok (.iconst (-1), 1) := by decide +kernel
theorem dX4_sum_76 : decode cX4_sum 76 = .ok (.ireturn, 1) := by decide +kernel
theorem dX4_sum_77 : decode cX4_sum 77 = .ok (.aload_n 0, 1) := by decide +kernel
theorem dX4_sum_78 : decode cX4_sum 78 = .ok (.getfield 16, 3) := by decide +kernel
theorem dX4_sum_81 : decode cX4_sum 81 = .ok (.new 117, 3) := by decide +kernel
theorem dX4_sum_84 : decode cX4_sum 84 = .ok (.dup, 1) := by decide +kernel
theorem dX4_sum_85 : decode cX4_sum 85 = .ok (.aload 4, 2) := by decide +kernel
theorem dX4_sum_87 : decode cX4_sum 87 = .ok (.getfield 119, 3) := by decide +kernel
theorem dX4_sum_90 : decode cX4_sum 90 = .ok (.aload 4, 2) := by decide +kernel
theorem dX4_sum_92 : decode cX4_sum 92 = .ok (.getfield 111, 3) := by decide +kernel
theorem dX4_sum_95 : decode cX4_sum 95 = .ok (.iload_n 2, 1) := by decide +kernel
theorem dX4_sum_96 : decode cX4_sum 96 = .ok (.iload_n 3, 1) := by decide +kernel
theorem dX4_sum_97 : decode cX4_sum 97 = .ok (.invokespecial 122, 3) := by decide +kernel
theorem dX4_sum_100 : decode cX4_sum 100 = .ok (.invokevirtual 89, 3) := by decide +kernel
theorem dX4_sum_103 : decode cX4_sum 103 = .ok (.pop, 1) := by decide +kernel
theorem dX4_sum_104 : decode cX4_sum 104 = .ok (.aload_n 0, 1) := by decide +kernel
theorem dX4_sum_105 : decode cX4_sum 105 = .ok (.getfield 16, 3) := by decide +kernel
theorem dX4_sum_108 : decode cX4_sum 108 = .ok (.invokevirtual 80, 3) := by decide +kernel
theorem dX4_sum_111 : decode cX4_sum 111 = .ok (.ireturn, 1) := by decide +kernel
theorem dX4_control_0 : decode cX4_control 0 = .ok (.aload_n 0, 1) := by decide +kernel
theorem dX4_control_1 : decode cX4_control 1 = .ok (.getfield 37, 3) := by decide +kernel
theorem dX4_control_4 : decode cX4_control 4 = .ok (.ifCond .eq 6, 3) := by decide +kernel
theorem dX4_control_7 : decode cX4_control 7 = .ok (.bipush (-5), 2) := by decide +kernel
theorem dX4_control_9 : decode cX4_control 9 = .ok (.ireturn, 1) := by decide +kernel
theorem dX4_control_10 : decode cX4_control 10 = .ok (.aload_n 0, 1) := by decide +kernel
theorem dX4_control_11 : decode cX4_control 11 = .ok (.getfield 19, 3) := by decide +kernel
theorem dX4_control_14 : decode cX4_control 14 = .ok (.iconst 5, 1) := by decide +kernel
theorem dX4_control_15 : decode cX4_control 15 = .ok (.if_icmp .lt 5, 3) := by decide +kernel
theorem dX4_control_18 : decode cX4_control 18 = .ok (.iconst (-1), 1) := by decide +kernel
theorem dX4_control_19 : decode cX4_control 19 = .ok (.ireturn, 1) := by decide +kernel
theorem dX4_control_20 : decode cX4_control 20 = .ok (.aload_n 0, 1) := by decide +kernel
theorem dX4_control_21 : decode cX4_control 21 = .ok (.dup, 1) := by decide +kernel
theorem dX4_control_22 : decode cX4_control 22 = .ok (.getfield 19, 3) := by decide +kernel
theorem dX4_control_25 : decode cX4_control 25 = .ok (.iconst 1, 1) := by decide +kernel
theorem dX4_control_26 : decode cX4_control 26 = .ok (.iadd, 1) := by decide +kernel
theorem dX4_control_27 : decode cX4_control 27 = .ok (.putfield 19, 3) := by decide +kernel
theorem dX4_control_30 : decode cX4_control 30 = .ok (.aload_n 0, 1) := by decide +kernel
theorem dX4_control_31 : decode cX4_control 31 = .ok (.getfield 23, 3) := by decide +kernel
theorem dX4_control_34 : decode cX4_control 34 = .ok (.aload_n 0, 1) := by decide +kernel
theorem dX4_control_35 : decode cX4_control 35 = .ok (.getfield 19, 3) := by decide +kernel
theorem dX4_control_38 : decode cX4_control 38 = .ok (.iload_n 1, 1) := by decide +kernel
theorem dX4_control_39 : decode cX4_control 39 = .ok (.iastore, 1) := by decide +kernel
theorem dX4_control_40 : decode cX4_control 40 = .ok (.aload_n 0, 1) := by decide +kernel
theorem dX4_control_41 : decode cX4_control 41 = .ok (.getfield 19, 3) := by decide +kernel
theorem dX4_control_44 : decode cX4_control 44 = .ok (.ireturn, 1) := by decide +kernel
theorem dX4_set_0 : decode cX4_set 0 = .ok (.iload_n 1, 1) := by decide +kernel
theorem dX4_set_1 : decode cX4_set 1 = .ok (.iconst 1, 1) := by decide +kernel
theorem dX4_set_2 : decode cX4_set 2 = .ok (.if_icmp .lt 11, 3) := by decide +kernel
theorem dX4_set_5 : decode cX4_set 5 = .ok (.iload_n 1, 1) := by decide +kernel
theorem dX4_set_6 : decode cX4_set 6 = .ok (.aload_n 0, 1) := by decide +kernel
theorem dX4_set_7 : decode cX4_set 7 = .ok (.getfield 19, 3) := by decide +kernel
theorem dX4_set_10 : decode cX4_set 10 = .ok (.if_icmp .le 6, 3) := by decide +kernel
theorem dX4_set_13 : decode cX4_set 13 = .ok (.bipush (-4), 2) := by decide +kernel
theorem dX4_set_15 : decode cX4_set 15 = .ok (.ireturn, 1) := by decide +kernel
theorem dX4_set_16 : decode cX4_set 16 = .ok (.aload_n 0, 1) := by decide +kernel
theorem dX4_set_17 : decode cX4_set 17 = .ok (.getfield 23, 3) := by decide +kernel
theorem dX4_set_20 : decode cX4_set 20 = .ok (.iload_n 1, 1) := by decide +kernel
theorem dX4_set_21 : decode cX4_set 21 = .ok (.iaload, 1) := by decide +kernel
theorem dX4_set_22 : decode cX4_set 22 = .ok (.istore_n 3, 1) := by decide +kernel
theorem dX4_set_23 : decode cX4_set 23 = .ok (.aload_n 0, 1) := by decide +kernel
theorem dX4_set_24 : decode cX4_set 24 = .ok (.getfield 23, 3) := by decide +kernel
theorem dX4_set_27 : decode cX4_set 27 = .ok (.iload_n 1, 1) := by decide +kernel
theorem dX4_set_28 : decode cX4_set 28 = .ok (.iload_n 2, 1) := by decide +kernel
theorem dX4_set_29 : decode cX4_set 29 = .ok (.iastore, 1) := by decide +kernel
theorem dX4_set_30 : decode cX4_set 30 = .ok (.iload_n 3, 1) := by decide +kernel
theorem dX4_set_31 : decode cX4_set 31 = .ok (.ireturn, 1) := by decide +kernel
theorem dX4_initiate_0 : decode cX4_initiate 0 = .ok (.aload_n 0, 1) := by decide +kernel
theorem dX4_initiate_1 : decode cX4_initiate 1 = .ok (.getfield 37, 3) := by decide +kernel
theorem dX4_initiate_4 : decode cX4_initiate 4 = .ok (.ifCond .eq 6, 3) := by decide +kernel
theorem dX4_initiate_7 : decode cX4_initiate 7 = .ok (.bipush (-5), 2) := by decide +kernel
theorem dX4_initiate_9 : decode cX4_initiate 9 = .ok (.ireturn, 1) := by decide +kernel
theorem dX4_initiate_10 : decode cX4_initiate 10 = .ok (.aload_n 0, 1) := by decide +kernel
theorem dX4_initiate_11 : decode cX4_initiate 11 = .ok (.iconst 1, 1) := by decide +kernel
theorem dX4_initiate_12 : decode cX4_initiate 12 = .ok (.putfield 37, 3) := by decide +kernel
theorem dX4_initiate_15 : decode cX4_initiate 15 = .ok (.aload_n 0, 1) := by decide +kernel
theorem dX4_initiate_16 : decode cX4_initiate 16 = .ok (.getfield 33, 3) := by decide +kernel
theorem dX4_initiate_19 : decode cX4_initiate 19 = .ok (.invokevirtual 125, 3) := by decide +kernel
theorem dX4_initiate_22 : decode cX4_initiate 22 = .ok (.iconst 0, 1) := by decide +kernel
theorem dX4_initiate_23 : decode cX4_initiate 23 = .ok (.istore_n 1, 1) := by decide +kernel
theorem dX4_initiate_24 : decode cX4_initiate 24 = .ok (.iload_n 1, 1) := by decide +kernel
theorem dX4_initiate_25 : decode cX4_initiate 25 = .ok (.aload_n 0, 1) := by decide +kernel
theorem dX4_initiate_26 : decode cX4_initiate 26 = .ok (.getfield 16, 3) := by decide +kernel
theorem dX4_initiate_29 : decode cX4_initiate 29 = .ok (.invokevirtual 80, 3) := by decide +kernel
theorem dX4_initiate_32 : decode cX4_initiate 32 = .ok (.if_icmp .ge 24, 3) := by decide +kernel
theorem dX4_initiate_35 : decode cX4_initiate 35 = .ok (.aload_n 0, 1) := by decide +kernel
theorem dX4_initiate_36 : decode cX4_initiate 36 = .ok (.getfield 16, 3) := by decide +kernel
theorem dX4_initiate_39 : decode cX4_initiate 39 = .ok (.iload_n 1, 1) := by decide +kernel
theorem dX4_initiate_40 : decode cX4_initiate 40 = .ok (.invokevirtual 128, 3) := by decide +kernel
theorem dX4_initiate_43 : decode cX4_initiate 43 = .ok (.checkcast 117, 3) := by decide +kernel
theorem dX4_initiate_46 : decode cX4_initiate 46 = .ok (.lconst 0, 1) := by decide +kernel
theorem dX4_initiate_47 : decode cX4_initiate 47 = .ok (.putfield 132, 3) := by decide +kernel
theorem dX4_initiate_50 : decode cX4_initiate 50 = .ok (.iinc 1 1, 3) := by decide +kernel
theorem dX4_initiate_53 : decode cX4_initiate 53 = .ok (.goto (-29), 3) := by decide +kernel
theorem dX4_initiate_56 : decode cX4_initiate 56 = .ok (.aload_n 0, 1) := by decide +kernel
theorem dX4_initiate_57 : decode cX4_initiate 57 = .ok (.iconst 0, 1) := by decide +kernel
theorem dX4_initiate_58 : decode cX4_initiate 58 = .ok (.putfield 41, 3) := by decide +kernel
theorem dX4_initiate_61 : decode cX4_initiate 61 = .ok (.aload_n 0, 1) := by decide +kernel
theorem dX4_initiate_62 : decode cX4_initiate 62 = .ok (.iconst 0, 1) := by decide +kernel
theorem dX4_initiate_63 : decode cX4_initiate 63 = .ok (.putfield 44, 3) := by decide +kernel
theorem dX4_initiate_66 : decode cX4_initiate 66 = .ok (.aload_n 0, 1) := by decide +kernel
theorem dX4_initiate_67 : decode cX4_initiate 67 = .ok (.iconst 0, 1) := by decide +kernel
theorem dX4_initiate_68 : decode cX4_initiate 68 = .ok (.putfield 47, 3) := by decide +kernel
theorem dX4_initiate_71 : decode cX4_initiate 71 = .ok (.aload_n 0, 1) := by decide +kernel
theorem dX4_initiate_72 : decode cX4_initiate 72 = .ok (.iconst 0, 1) := by decide +kernel
theorem dX4_initiate_73 : decode cX4_initiate 73 = .ok (.putfield 50, 3) := by decide +kernel
theorem dX4_initiate_76 : decode cX4_initiate 76 = .ok (.aload_n 0, 1) := by decide +kernel
theorem dX4_initiate_77 : decode cX4_initiate 77 = .ok (.iconst 0, 1) := by decide +kernel
theorem dX4_initiate_78 : decode cX4_initiate 78 = .ok (.putfield 53, 3) := by decide +kernel
theorem dX4_initiate_81 : decode cX4_initiate 81 = .ok (.iconst 1, 1) := by decide +kernel
theorem dX4_initiate_82 : decode cX4_initiate 82 = .ok (.ireturn, 1) := by decide +kernel
theorem dX4_generate_0 : decode cX4_generate 0 = .ok (.aload_n 0, 1) := by decide +kernel
theorem dX4_generate_1 : decode cX4_generate 1 = .ok (.iload_n 1, 1) := by decide +kernel
theorem dX4_generate_2 : decode cX4_generate 2 = .ok (.invokevirtual 93, 3) := by decide +kernel
theorem dX4_generate_5 : decode cX4_generate 5 = .ok (.astore 4, 2) := by decide +kernel
theorem dX4_generate_7 : decode cX4_generate 7 = .ok (.iload_n 1, 1) := by decide +kernel
theorem dX4_generate_8 : decode cX4_generate 8 = .ok (.ifCond .eq 20, 3) := by decide +kernel
theorem dX4_generate_11 : decode cX4_generate 11 = .ok (.aload 4, 2) := by decide +kernel
theorem dX4_generate_13 : decode cX4_generate 13 = .ok (.ifnull 12, 3) := by decide +kernel
theorem dX4_generate_16 : decode cX4_generate 16 = .ok (.aload 4, 2) := by decide +kernel
theorem dX4_generate_18 : decode cX4_generate 18 = .ok (.getfield 108, 3) := by decide +kernel
theorem dX4_generate_21 : decode cX4_generate 21 = .ok (.iconst 3, 1) := by decide +kernel
theorem dX4_generate_22 : decode cX4_generate 22 = .ok (.if_icmp .eq 6, 3) := by decide +kernel
theorem dX4_generate_25 : decode cX4_generate 25 = .ok (.bipush (-2), 2) := by decide +kernel
theorem dX4_generate_27 : decode cX4_generate 27 = .ok (.ireturn, 1) := by decide +kernel
theorem dX4_generate_28 : decode cX4_generate 28 = .ok (.aload_n 0, 1) := by decide +kernel
theorem dX4_generate_29 : decode cX4_generate 29 = .ok (.getfield 37, 3) := by decide +kernel
theorem dX4_generate_32 : decode cX4_generate 32 = .ok (.ifCond .ne 6, 3) := by decide +kernel
theorem dX4_generate_35 : decode cX4_generate 35 = .ok (.bipush (-5), 2) := by decide +kernel
theorem dX4_generate_37 : decode cX4_generate 37 = .ok (.ireturn, 1) := by decide +kernel
theorem dX4_generate_38 : decode cX4_generate 38 = .ok (.aload_n 0, 1) := by decide +kernel
theorem dX4_generate_39 : decode cX4_generate 39 = .ok (.getfield 50, 3) := by decide +kernel
theorem dX4_generate_42 : decode cX4_generate 42 = .ok (.sipush 200, 3) := by decide +kernel
theorem dX4_generate_45 : decode cX4_generate 45 = .ok (.if_icmp .lt 5, 3) := by decide +kernel
theorem dX4_generate_48 : decode cX4_generate 48 = .ok (.iconst (-1), 1) := by decide +kernel
theorem dX4_generate_49 : decode cX4_generate 49 = .ok (.ireturn, 1) := by decide +kernel
theorem dX4_generate_50 : decode cX4_generate 50 = .ok (.aload_n 0, 1) := by decide +kernel
theorem dX4_generate_51 : decode cX4_generate 51 = .ok (.getfield 33, 3) := by decide +kernel
theorem dX4_generate_54 : decode cX4_generate 54 = .ok (.getfield 136, 3) := by decide +kernel
theorem dX4_generate_57 : decode cX4_generate 57 = .ok (.istore 5, 2) := by decide +kernel
theorem dX4_generate_59 : decode cX4_generate 59 = .ok (.aload_n 0, 1) := by decide +kernel
theorem dX4_generate_60 : decode cX4_generate 60 = .ok (.invokevirtual 139, 3) := by decide +kernel
theorem dX4_generate_63 : decode cX4_generate 63 = .ok (.istore 6, 2) := by decide +kernel
theorem dX4_generate_65 : decode cX4_generate 65 = .ok (.aload_n 0, 1) := by decide +kernel
theorem dX4_generate_66 : decode cX4_generate 66 = .ok (.getfield 50, 3) := by decide +kernel
theorem dX4_generate_69 : decode cX4_generate 69 = .ok (.ifCond .ne 25, 3) := by decide +kernel
theorem dX4_generate_72 : decode cX4_generate 72 = .ok (.aload_n 0, 1) := by decide +kernel
theorem dX4_generate_73 : decode cX4_generate 73 = .ok (.aload_n 0, 1) := by decide +kernel
theorem dX4_generate_74 : decode cX4_generate 74 = .ok (.iconst 0, 1) := by decide +kernel
theorem dX4_generate_75 : decode cX4_generate 75 = .ok (.iconst 0, 1) := by decide +kernel
theorem dX4_generate_76 : decode cX4_generate 76 = .ok (.invokevirtual 76, 3) := by decide +kernel
theorem dX4_generate_79 : decode cX4_generate 79 = .ok (.invokevirtual 142, 3) := by decide +kernel
theorem dX4_generate_82 : decode cX4_generate 82 = .ok (.aload_n 0, 1) := by decide +kernel
theorem dX4_generate_83 : decode cX4_generate 83 = .ok (.invokevirtual 146, 3) := by decide +kernel
theorem dX4_generate_86 : decode cX4_generate 86 = .ok (.aload_n 0, 1) := by decide +kernel
theorem dX4_generate_87 : decode cX4_generate 87 = .ok (.iconst 0, 1) := by decide +kernel
theorem dX4_generate_88 : decode cX4_generate 88 = .ok (.invokevirtual 149, 3) := by decide +kernel
theorem dX4_generate_91 : decode cX4_generate 91 = .ok (.goto 44, 3) := by decide +kernel
theorem dX4_generate_94 : decode cX4_generate 94 = .ok (.iload 6, 2) := by decide +kernel
theorem dX4_generate_96 : decode cX4_generate 96 = .ok (.aload_n 0, 1) := by decide +kernel
theorem dX4_generate_97 : decode cX4_generate 97 = .ok (.getfield 19, 3) := by decide +kernel
theorem dX4_generate_100 : decode cX4_generate 100 = .ok (.if_icmp .gt 35, 3) := by decide +kernel
theorem dX4_generate_103 : decode cX4_generate 103 = .ok (.aload_n 0, 1) := by decide +kernel
theorem dX4_generate_104 : decode cX4_generate 104 = .ok (.dup, 1) := by decide +kernel
theorem dX4_generate_105 : decode cX4_generate 105 = .ok (.getfield 53, 3) := by decide +kernel
theorem dX4_generate_108 : decode cX4_generate 108 = .ok (.iconst 1, 1) := by decide +kernel
theorem dX4_generate_109 : decode cX4_generate 109 = .ok (.iadd, 1) := by decide +kernel
theorem dX4_generate_110 : decode cX4_generate 110 = .ok (.putfield 53, 3) := by decide +kernel
theorem dX4_generate_113 : decode cX4_generate 113 = .ok (.aload_n 0, 1) := by decide +kernel
theorem dX4_generate_114 : decode cX4_generate 114 = .ok (.iload 6, 2) := by decide +kernel
theorem dX4_generate_116 : decode cX4_generate 116 = .ok (.invokevirtual 153, 3) := by decide +kernel
theorem dX4_generate_119 : decode cX4_generate 119 = .ok (.aload_n 0, 1) := by decide +kernel
theorem dX4_generate_120 : decode cX4_generate 120 = .ok (.iload 6, 2) := by decide +kernel
theorem dX4_generate_122 : decode cX4_generate 122 = .ok (.invokevirtual 149, 3) := by decide +kernel
theorem dX4_generate_125 : decode cX4_generate 125 = .ok (.aload_n 0, 1) := by decide +kernel
theorem dX4_generate_126 : decode cX4_generate 126 = .ok (.dup, 1) := by decide +kernel
theorem dX4_generate_127 : decode cX4_generate 127 = .ok (.getfield 56, 3) := by decide +kernel
theorem dX4_generate_130 : decode cX4_generate 130 = .ok (.iconst 1, 1) := by decide +kernel
theorem dX4_generate_131 : decode cX4_generate 131 = .ok (.iadd, 1) := by decide +kernel
theorem dX4_generate_132 : decode cX4_generate 132 = .ok (.putfield 56, 3) := by decide +kernel
theorem dX4_generate_135 : decode cX4_generate 135 = .ok (.aload_n 0, 1) := by decide +kernel
theorem dX4_generate_136 : decode cX4_generate 136 = .ok (.dup, 1) := by decide +kernel
theorem dX4_generate_137 : decode cX4_generate 137 = .ok (.getfield 50, 3) := by decide +kernel
theorem dX4_generate_140 : decode cX4_generate 140 = .ok (.iconst 1, 1) := by decide +kernel
theorem dX4_generate_141 : decode cX4_generate 141 = .ok (.iadd, 1) := by decide +kernel
theorem dX4_generate_142 : decode cX4_generate 142 = .ok (.putfield 50, 3) := by decide +kernel
theorem dX4_generate_145 : decode cX4_generate 145 = .ok (.aload_n 0, 1) := by decide +kernel
theorem dX4_generate_146 : decode cX4_generate 146 = .ok (.getfield 23, 3) := by decide +kernel
theorem dX4_generate_149 : decode cX4_generate 149 = .ok (.iconst 0, 1) := by decide +kernel
theorem dX4_generate_150 : decode cX4_generate 150 = .ok (.aload_n 0, 1) := by decide +kernel
theorem dX4_generate_151 : decode cX4_generate 151 = .ok (.getfield 27, 3) := by decide +kernel
theorem dX4_generate_154 : decode cX4_generate 154 = .ok (.iconst 0, 1) := by decide +kernel
theorem dX4_generate_155 : decode cX4_generate 155 = .ok (.aload_n 0, 1) := by decide +kernel
theorem dX4_generate_156 : decode cX4_generate 156 = .ok (.getfield 23, 3) := by decide +kernel
theorem dX4_generate_159 : decode cX4_generate 159 = .ok (.arraylength, 1) := by decide +kernel
theorem dX4_generate_160 : decode cX4_generate 160 = .ok (.invokestatic 156, 3) := by decide +kernel
theorem dX4_generate_163 : decode cX4_generate 163 = .ok (.aload_n 0, 1) := by decide +kernel
theorem dX4_generate_164 : decode cX4_generate 164 = .ok (.iload_n 1, 1) := by decide +kernel
theorem dX4_generate_165 : decode cX4_generate 165 = .ok (.lload_n 2, 1) := by decide +kernel
theorem dX4_generate_166 : decode cX4_generate 166 = .ok (.invokevirtual 162, 3) := by decide +kernel
theorem dX4_generate_169 : decode cX4_generate 169 = .ok (.aload_n 0, 1) := by decide +kernel
theorem dX4_generate_170 : decode cX4_generate 170 = .ok (.aload 4, 2) := by decide +kernel
theorem dX4_generate_172 : decode cX4_generate 172 = .ok (.lload_n 2, 1) := by decide +kernel
theorem dX4_generate_173 : decode cX4_generate 173 = .ok (.invokevirtual 166, 3) := by decide +kernel
theorem dX4_generate_176 : decode cX4_generate 176 = .ok (.aload_n 0, 1) := by decide +kernel
theorem dX4_generate_177 : decode cX4_generate 177 = .ok (.getfield 33, 3) := by decide +kernel
theorem dX4_generate_180 : decode cX4_generate 180 = .ok (.getfield 136, 3) := by decide +kernel
theorem dX4_generate_183 : decode cX4_generate 183 = .ok (.iload 5, 2) := by decide +kernel
theorem dX4_generate_185 : decode cX4_generate 185 = .ok (.isub, 1) := by decide +kernel
theorem dX4_generate_186 : decode cX4_generate 186 = .ok (.ireturn, 1) := by decide +kernel
theorem dX4_terminate_0 : decode cX4_terminate 0 = .ok (.aload_n 0, 1) := by decide +kernel
theorem dX4_terminate_1 : decode cX4_terminate 1 = .ok (.getfield 37, 3) := by decide +kernel
theorem dX4_terminate_4 : decode cX4_terminate 4 = .ok (.ifCond .ne 6, 3) := by decide +kernel
theorem dX4_terminate_7 : decode cX4_terminate 7 = .ok (.bipush (-5), 2) := by decide +kernel
theorem dX4_terminate_9 : decode cX4_terminate 9 = .ok (.ireturn, 1) := by decide +kernel
theorem dX4_terminate_10 : decode cX4_terminate 10 = .ok (.aload_n 0, 1) := by decide +kernel
theorem dX4_terminate_11 : decode cX4_terminate 11 = .ok (.getfield 50, 3) := by decide +kernel
theorem dX4_terminate_14 : decode cX4_terminate 14 = .ok (.ifCond .le 23, 3) := by decide +kernel
theorem dX4_terminate_17 : decode cX4_terminate 17 = .ok (.aload_n 0, 1) := by decide +kernel
theorem dX4_terminate_18 : decode cX4_terminate 18 = .ok (.iconst 0, 1) := by decide +kernel
theorem dX4_terminate_19 : decode cX4_terminate 19 = .ok (.invokevirtual 153, 3) := by decide +kernel
theorem dX4_terminate_22 : decode cX4_terminate 22 = .ok (.aload_n 0, 1) := by decide +kernel
theorem dX4_terminate_23 : decode cX4_terminate 23 = .ok (.invokevirtual 170, 3) := by decide +kernel
theorem dX4_terminate_26 : decode cX4_terminate 26 = .ok (.aload_n 0, 1) := by decide +kernel
theorem dX4_terminate_27 : decode cX4_terminate 27 = .ok (.aload_n 0, 1) := by decide +kernel
theorem dX4_terminate_28 : decode cX4_terminate 28 = .ok (.bipush 6, 2) := by decide +kernel
theorem dX4_terminate_30 : decode cX4_terminate 30 = .ok (.iconst 0, 1) := by decide +kernel
theorem dX4_terminate_31 : decode cX4_terminate 31 = .ok (.invokevirtual 76, 3) := by decide +kernel
theorem dX4_terminate_34 : decode cX4_terminate 34 = .ok (.invokevirtual 142, 3) := by decide +kernel
theorem dX4_terminate_37 : decode cX4_terminate 37 = .ok (.aload_n 0, 1) := by decide +kernel
theorem dX4_terminate_38 : decode cX4_terminate 38 = .ok (.iconst 0, 1) := by decide +kernel
theorem dX4_terminate_39 : decode cX4_terminate 39 = .ok (.putfield 37, 3) := by decide +kernel
theorem dX4_terminate_42 : decode cX4_terminate 42 = .ok (.aload_n 0, 1) := by decide +kernel
theorem dX4_terminate_43 : decode cX4_terminate 43 = .ok (.getfield 33, 3) := by decide +kernel
theorem dX4_terminate_46 : decode cX4_terminate 46 = .ok (.getfield 136, 3) := by decide +kernel
theorem dX4_terminate_49 : decode cX4_terminate 49 = .ok (.ireturn, 1) := by decide +kernel
theorem dX4_at_0 : decode cX4_at 0 = .ok (.aload_n 0, 1) := by decide +kernel
theorem dX4_at_1 : decode cX4_at 1 = .ok (.getfield 33, 3) := by decide +kernel
theorem dX4_at_4 : decode cX4_at 4 = .ok (.iload_n 1, 1) := by decide +kernel
theorem dX4_at_5 : decode cX4_at 5 = .ok (.iload_n 2, 1) := by decide +kernel
theorem dX4_at_6 : decode cX4_at 6 = .ok (.invokevirtual 173, 3) := by decide +kernel
theorem dX4_at_9 : decode cX4_at 9 = .ok (.ifCond .ne 13, 3) := by decide +kernel
theorem dX4_at_12 : decode cX4_at 12 = .ok (.new 176, 3) := by decide +kernel
theorem dX4_at_15 : decode cX4_at 15 = .ok (.dup, 1) := by decide +kernel
theorem dX4_at_16 : decode cX4_at 16 = .ok (.ldc 178, 2) := by decide +kernel
theorem dX4_at_18 : decode cX4_at 18 = .ok (.invokespecial 180, 3) := by decide +kernel
theorem dX4_at_21 : decode cX4_at 21 = .ok (.athrow, 1) := by decide +kernel
theorem dX4_at_22 : decode cX4_at 22 = .ok (.aload_n 0, 1) := by decide +kernel
theorem dX4_at_23 : decode cX4_at 23 = .ok (.getfield 33, 3) := by decide +kernel
theorem dX4_at_26 : decode cX4_at 26 = .ok (.iload_n 1, 1) := by decide +kernel
theorem dX4_at_27 : decode cX4_at 27 = .ok (.iload_n 2, 1) := by decide +kernel
theorem dX4_at_28 : decode cX4_at 28 = .ok (.invokevirtual 183, 3) := by decide +kernel
theorem dX4_at_31 : decode cX4_at 31 = .ok (.ireturn, 1) := by decide +kernel
theorem dX4_lines_0 : decode cX4_lines 0 = .ok (.aload_n 0, 1) := by decide +kernel
theorem dX4_lines_1 : decode cX4_lines 1 = .ok (.getfield 33, 3) := by decide +kernel
theorem dX4_lines_4 : decode cX4_lines 4 = .ok (.getfield 136, 3) := by decide +kernel
theorem dX4_lines_7 : decode cX4_lines 7 = .ok (.ireturn, 1) := by decide +kernel
theorem dX4_total_0 : decode cX4_total 0 = .ok (.aload_n 0, 1) := by decide +kernel
theorem dX4_total_1 : decode cX4_total 1 = .ok (.iload_n 1, 1) := by decide +kernel
theorem dX4_total_2 : decode cX4_total 2 = .ok (.invokevirtual 187, 3) := by decide +kernel
theorem dX4_total_5 : decode cX4_total 5 = .ok (.astore_n 2, 1) := by decide +kernel
theorem dX4_total_6 : decode cX4_total 6 = .ok (.aload_n 2, 1) := by decide +kernel
theorem dX4_total_7 : decode cX4_total 7 = .ok (.ifnonnull 7, 3) := by decide +kernel
theorem dX4_total_10 : decode cX4_total 10 = .ok (.lconst 0, 1) := by decide +kernel
theorem dX4_total_11 : decode cX4_total 11 = .ok (.goto 7, 3) := by decide +kernel
theorem dX4_total_14 : decode cX4_total 14 = .ok (.aload_n 2, 1) := by decide +kernel
theorem dX4_total_15 : decode cX4_total 15 = .ok (.getfield 132, 3) := by decide +kernel
theorem dX4_total_18 : decode cX4_total 18 = .ok (.lreturn, 1) := by decide +kernel
theorem dX4_counter_0 : decode cX4_counter 0 = .ok (.iload_n 1, 1) := by decide +kernel
theorem dX4_counter_1 : decode cX4_counter 1 = .ok (.tableswitch 89 0 6 #[43, 48, 53, 66, 74, 79, 84], 43) := by decide +kernel
theorem dX4_counter_44 : decode cX4_counter 44 = .ok (.aload_n 0, 1) := by decide +kernel
theorem dX4_counter_45 : decode cX4_counter 45 = .ok (.getfield 41, 3) := by decide +kernel
theorem dX4_counter_48 : decode cX4_counter 48 = .ok (.ireturn, 1) := by decide +kernel
theorem dX4_counter_49 : decode cX4_counter 49 = .ok (.aload_n 0, 1) := by decide +kernel
theorem dX4_counter_50 : decode cX4_counter 50 = .ok (.getfield 44, 3) := by decide +kernel
theorem dX4_counter_53 : decode cX4_counter 53 = .ok (.ireturn, 1) := by decide +kernel
theorem dX4_counter_54 : decode cX4_counter 54 = .ok (.aload_n 0, 1) := by decide +kernel
theorem dX4_counter_55 : decode cX4_counter 55 = .ok (.getfield 37, 3) := by decide +kernel
theorem dX4_counter_58 : decode cX4_counter 58 = .ok (.ifCond .eq 7, 3) := by decide +kernel
theorem dX4_counter_61 : decode cX4_counter 61 = .ok (.iconst 1, 1) := by decide +kernel
theorem dX4_counter_62 : decode cX4_counter 62 = .ok (.goto 4, 3) := by decide +kernel
theorem dX4_counter_65 : decode cX4_counter 65 = .ok (.iconst 0, 1) := by decide +kernel
theorem dX4_counter_66 : decode cX4_counter 66 = .ok (.ireturn, 1) := by decide +kernel
theorem dX4_counter_67 : decode cX4_counter 67 = .ok (.aload_n 0, 1) := by decide +kernel
theorem dX4_counter_68 : decode cX4_counter 68 = .ok (.getfield 10, 3) := by decide +kernel
theorem dX4_counter_71 : decode cX4_counter 71 = .ok (.invokevirtual 80, 3) := by decide +kernel
theorem dX4_counter_74 : decode cX4_counter 74 = .ok (.ireturn, 1) := by decide +kernel
theorem dX4_counter_75 : decode cX4_counter 75 = .ok (.aload_n 0, 1) := by decide +kernel
theorem dX4_counter_76 : decode cX4_counter 76 = .ok (.getfield 50, 3) := by decide +kernel
theorem dX4_counter_79 : decode cX4_counter 79 = .ok (.ireturn, 1) := by decide +kernel
theorem dX4_counter_80 : decode cX4_counter 80 = .ok (.aload_n 0, 1) := by decide +kernel
theorem dX4_counter_81 : decode cX4_counter 81 = .ok (.getfield 53, 3) := by decide +kernel
theorem dX4_counter_84 : decode cX4_counter 84 = .ok (.ireturn, 1) := by decide +kernel
theorem dX4_counter_85 : decode cX4_counter 85 = .ok (.aload_n 0, 1) := by decide +kernel
theorem dX4_counter_86 : decode cX4_counter 86 = .ok (.getfield 19, 3) := by decide +kernel
theorem dX4_counter_89 : decode cX4_counter 89 = .ok (.ireturn, 1) := by decide +kernel
theorem dX4_counter_90 : decode cX4_counter 90 = .ok (.iconst (-1), 1) := by decide +kernel
theorem dX4_counter_91 : decode cX4_counter 91 = .ok (.ireturn, 1) := by decide +kernel
theorem dX4_suppress_0 : decode cX4_suppress 0 = .ok (.aload_n 0, 1) := by decide +kernel
theorem dX4_suppress_1 : decode cX4_suppress 1 = .ok (.iload_n 1, 1) := by decide +kernel
theorem dX4_suppress_2 : decode cX4_suppress 2 = .ok (.invokevirtual 93, 3) := by decide +kernel
theorem dX4_suppress_5 : decode cX4_suppress 5 = .ok (.astore_n 2, 1) := by decide +kernel
theorem dX4_suppress_6 : decode cX4_suppress 6 = .ok (.aload_n 2, 1) := by decide +kernel
theorem dX4_suppress_7 : decode cX4_suppress 7 = .ok (.ifnonnull 6, 3) := by decide +kernel
theorem dX4_suppress_10 : decode cX4_suppress 10 = .ok (.bipush (-2), 2) := by decide +kernel
theorem dX4_suppress_12 : decode cX4_suppress 12 = .ok (.ireturn, 1) := by decide +kernel
theorem dX4_suppress_13 : decode cX4_suppress 13 = .ok (.aload_n 2, 1) := by decide +kernel
theorem dX4_suppress_14 : decode cX4_suppress 14 = .ok (.getfield 191, 3) := by decide +kernel
theorem dX4_suppress_17 : decode cX4_suppress 17 = .ok (.ifCond .eq 5, 3) := by decide +kernel
theorem dX4_suppress_20 : decode cX4_suppress 20 = .ok (.iconst 0, 1) := by decide +kernel
theorem dX4_suppress_21 : decode cX4_suppress 21 = .ok (.ireturn, 1) := by decide +kernel
theorem dX4_suppress_22 : decode cX4_suppress 22 = .ok (.aload_n 2, 1) := by decide +kernel
theorem dX4_suppress_23 : decode cX4_suppress 23 = .ok (.iconst 1, 1) := by decide +kernel
theorem dX4_suppress_24 : decode cX4_suppress 24 = .ok (.putfield 191, 3) := by decide +kernel
theorem dX4_suppress_27 : decode cX4_suppress 27 = .ok (.iconst 1, 1) := by decide +kernel
theorem dX4_suppress_28 : decode cX4_suppress 28 = .ok (.ireturn, 1) := by decide +kernel
theorem dX4_indicate_0 : decode cX4_indicate 0 = .ok (.aload_n 0, 1) := by decide +kernel
theorem dX4_indicate_1 : decode cX4_indicate 1 = .ok (.iload_n 1, 1) := by decide +kernel
theorem dX4_indicate_2 : decode cX4_indicate 2 = .ok (.invokevirtual 93, 3) := by decide +kernel
theorem dX4_indicate_5 : decode cX4_indicate 5 = .ok (.astore_n 2, 1) := by decide +kernel
theorem dX4_indicate_6 : decode cX4_indicate 6 = .ok (.aload_n 2, 1) := by decide +kernel
theorem dX4_indicate_7 : decode cX4_indicate 7 = .ok (.ifnull 11, 3) := by decide +kernel
theorem dX4_indicate_10 : decode cX4_indicate 10 = .ok (.aload_n 2, 1) := by decide +kernel
theorem dX4_indicate_11 : decode cX4_indicate 11 = .ok (.getfield 108, 3) := by decide +kernel
theorem dX4_indicate_14 : decode cX4_indicate 14 = .ok (.iconst 3, 1) := by decide +kernel
theorem dX4_indicate_15 : decode cX4_indicate 15 = .ok (.if_icmp .eq 6, 3) := by decide +kernel
theorem dX4_indicate_18 : decode cX4_indicate 18 = .ok (.bipush (-2), 2) := by decide +kernel
theorem dX4_indicate_20 : decode cX4_indicate 20 = .ok (.ireturn, 1) := by decide +kernel
theorem dX4_indicate_21 : decode cX4_indicate 21 = .ok (.aload_n 2, 1) := by decide +kernel
theorem dX4_indicate_22 : decode cX4_indicate 22 = .ok (.getfield 194, 3) := by decide +kernel
theorem dX4_indicate_25 : decode cX4_indicate 25 = .ok (.istore_n 3, 1) := by decide +kernel
theorem dX4_indicate_26 : decode cX4_indicate 26 = .ok (.aload_n 2, 1) := by decide +kernel
theorem dX4_indicate_27 : decode cX4_indicate 27 = .ok (.iload_n 3, 1) := by decide +kernel
theorem dX4_indicate_28 : decode cX4_indicate 28 = .ok (.ifCond .ne 7, 3) := by decide +kernel
theorem dX4_indicate_31 : decode cX4_indicate 31 = .ok (.iconst 1, 1) := by decide +kernel
theorem dX4_indicate_32 : decode cX4_indicate 32 = .ok (.goto 4, 3) := by decide +kernel
theorem dX4_indicate_35 : decode cX4_indicate 35 = .ok (.iconst 0, 1) := by decide +kernel
theorem dX4_indicate_36 : decode cX4_indicate 36 = .ok (.putfield 194, 3) := by decide +kernel
theorem dX4_indicate_39 : decode cX4_indicate 39 = .ok (.iload_n 3, 1) := by decide +kernel
theorem dX4_indicate_40 : decode cX4_indicate 40 = .ok (.ifCond .eq 7, 3) := by decide +kernel
theorem dX4_indicate_43 : decode cX4_indicate 43 = .ok (.iconst 1, 1) := by decide +kernel
theorem dX4_indicate_44 : decode cX4_indicate 44 = .ok (.goto 4, 3) := by decide +kernel
theorem dX4_indicate_47 : decode cX4_indicate 47 = .ok (.iconst 0, 1) := by decide +kernel
theorem dX4_indicate_48 : decode cX4_indicate 48 = .ok (.ireturn, 1) := by decide +kernel
theorem dX4_held_0 : decode cX4_held 0 = .ok (.iload_n 1, 1) := by decide +kernel
theorem dX4_held_1 : decode cX4_held 1 = .ok (.iload_n 0, 1) := by decide +kernel
theorem dX4_held_2 : decode cX4_held 2 = .ok (.iload_n 2, 1) := by decide +kernel
theorem dX4_held_3 : decode cX4_held 3 = .ok (.invokestatic 197, 3) := by decide +kernel
theorem dX4_held_6 : decode cX4_held 6 = .ok (.invokestatic 202, 3) := by decide +kernel
theorem dX4_held_9 : decode cX4_held 9 = .ok (.ireturn, 1) := by decide +kernel
theorem dX4_isOfBody_0 : decode cX4_isOfBody 0 = .ok (.iload_n 0, 1) := by decide +kernel
theorem dX4_isOfBody_1 : decode cX4_isOfBody 1 = .ok (.iconst 2, 1) := by decide +kernel
theorem dX4_isOfBody_2 : decode cX4_isOfBody 2 = .ok (.if_icmp .eq 13, 3) := by decide +kernel
theorem dX4_isOfBody_5 : decode cX4_isOfBody 5 = .ok (.iload_n 0, 1) := by decide +kernel
theorem dX4_isOfBody_6 : decode cX4_isOfBody 6 = .ok (.iconst 3, 1) := by decide +kernel
theorem dX4_isOfBody_7 : decode cX4_isOfBody 7 = .ok (.if_icmp .eq 8, 3) := by decide +kernel
theorem dX4_isOfBody_10 : decode cX4_isOfBody 10 = .ok (.iload_n 0, 1) := by decide +kernel
theorem dX4_isOfBody_11 : decode cX4_isOfBody 11 = .ok (.iconst 4, 1) := by decide +kernel
theorem dX4_isOfBody_12 : decode cX4_isOfBody 12 = .ok (.if_icmp .ne 7, 3) := by decide +kernel
theorem dX4_isOfBody_15 : decode cX4_isOfBody 15 = .ok (.iconst 1, 1) := by decide +kernel
theorem dX4_isOfBody_16 : decode cX4_isOfBody 16 = .ok (.goto 4, 3) := by decide +kernel
theorem dX4_isOfBody_19 : decode cX4_isOfBody 19 = .ok (.iconst 0, 1) := by decide +kernel
theorem dX4_isOfBody_20 : decode cX4_isOfBody 20 = .ok (.ireturn, 1) := by decide +kernel
theorem dX4_isKindOfLevel_0 : decode cX4_isKindOfLevel 0 = .ok (.iload_n 1, 1) := by decide +kernel
theorem dX4_isKindOfLevel_1 : decode cX4_isKindOfLevel 1 = .ok (.ifCond .lt 9, 3) := by decide +kernel
theorem dX4_isKindOfLevel_4 : decode cX4_isKindOfLevel 4 = .ok (.iload_n 1, 1) := by decide +kernel
theorem dX4_isKindOfLevel_5 : decode cX4_isKindOfLevel 5 = .ok (.bipush 6, 2) := by decide +kernel
theorem dX4_isKindOfLevel_7 : decode cX4_isKindOfLevel 7 = .ok (.if_icmp .le 5, 3) := by decide +kernel
theorem dX4_isKindOfLevel_10 : decode cX4_isKindOfLevel 10 = .ok (.iconst 0, 1) := by decide +kernel
theorem dX4_isKindOfLevel_11 : decode cX4_isKindOfLevel 11 = .ok (.ireturn, 1) := by decide +kernel
theorem dX4_isKindOfLevel_12 : decode cX4_isKindOfLevel 12 = .ok (.iload_n 1, 1) := by decide +kernel
theorem dX4_isKindOfLevel_13 : decode cX4_isKindOfLevel 13 = .ok (.iconst 2, 1) := by decide +kernel
theorem dX4_isKindOfLevel_14 : decode cX4_isKindOfLevel 14 = .ok (.if_icmp .eq 8, 3) := by decide +kernel
theorem dX4_isKindOfLevel_17 : decode cX4_isKindOfLevel 17 = .ok (.iload_n 1, 1) := by decide +kernel
theorem dX4_isKindOfLevel_18 : decode cX4_isKindOfLevel 18 = .ok (.iconst 4, 1) := by decide +kernel
theorem dX4_isKindOfLevel_19 : decode cX4_isKindOfLevel 19 = .ok (.if_icmp .ne 7, 3) := by decide +kernel
theorem dX4_isKindOfLevel_22 : decode cX4_isKindOfLevel 22 = .ok (.iconst 1, 1) := by decide +kernel
theorem dX4_isKindOfLevel_23 : decode cX4_isKindOfLevel 23 = .ok (.goto 4, 3) := by decide +kernel
theorem dX4_isKindOfLevel_26 : decode cX4_isKindOfLevel 26 = .ok (.iconst 0, 1) := by decide +kernel
theorem dX4_isKindOfLevel_27 : decode cX4_isKindOfLevel 27 = .ok (.istore_n 3, 1) := by decide +kernel
theorem dX4_isKindOfLevel_28 : decode cX4_isKindOfLevel 28 = .ok (.iload_n 2, 1) := by decide +kernel
theorem dX4_isKindOfLevel_29 : decode cX4_isKindOfLevel 29 = .ok (.ifCond .lt 23, 3) := by decide +kernel
theorem dX4_isKindOfLevel_32 : decode cX4_isKindOfLevel 32 = .ok (.iload_n 2, 1) := by decide +kernel
theorem dX4_isKindOfLevel_33 : decode cX4_isKindOfLevel 33 = .ok (.iload_n 3, 1) := by decide +kernel
theorem dX4_isKindOfLevel_34 : decode cX4_isKindOfLevel 34 = .ok (.ifCond .eq 10, 3) := by decide +kernel
theorem dX4_isKindOfLevel_37 : decode cX4_isKindOfLevel 37 = .ok (.aload_n 0, 1) := by decide +kernel
theorem dX4_isKindOfLevel_38 : decode cX4_isKindOfLevel 38 = .ok (.getfield 19, 3) := by decide +kernel
end
section
theorem dX4_isKindOfLevel_41 : decode cX4_isKindOfLevel 41 = .ok (.goto 4, 3) := by decide +kernel
theorem dX4_isKindOfLevel_44 : decode cX4_isKindOfLevel 44 = .ok (.iconst 0, 1) := by decide +kernel
theorem dX4_isKindOfLevel_45 : decode cX4_isKindOfLevel 45 = .ok (.if_icmp .gt 7, 3) := by decide +kernel
theorem dX4_isKindOfLevel_48 : decode cX4_isKindOfLevel 48 = .ok (.iconst 1, 1) := by decide +kernel
theorem dX4_isKindOfLevel_49 : decode cX4_isKindOfLevel 49 = .ok (.goto 4, 3) := by decide +kernel
theorem dX4_isKindOfLevel_52 : decode cX4_isKindOfLevel 52 = .ok (.iconst 0, 1) := by decide +kernel
theorem dX4_isKindOfLevel_53 : decode cX4_isKindOfLevel 53 = .ok (.ireturn, 1) := by decide +kernel
theorem dX4_groupNumbered_0 : decode cX4_groupNumbered 0 = .ok (.iload_n 1, 1) := by decide +kernel
theorem dX4_groupNumbered_1 : decode cX4_groupNumbered 1 = .ok (.iconst 1, 1) := by decide +kernel
theorem dX4_groupNumbered_2 : decode cX4_groupNumbered 2 = .ok (.if_icmp .lt 30, 3) := by decide +kernel
theorem dX4_groupNumbered_5 : decode cX4_groupNumbered 5 = .ok (.iload_n 1, 1) := by decide +kernel
theorem dX4_groupNumbered_6 : decode cX4_groupNumbered 6 = .ok (.aload_n 0, 1) := by decide +kernel
theorem dX4_groupNumbered_7 : decode cX4_groupNumbered 7 = .ok (.getfield 10, 3) := by decide +kernel
theorem dX4_groupNumbered_10 : decode cX4_groupNumbered 10 = .ok (.invokevirtual 80, 3) := by decide +kernel
theorem dX4_groupNumbered_13 : decode cX4_groupNumbered 13 = .ok (.if_icmp .gt 19, 3) := by decide +kernel
theorem dX4_groupNumbered_16 : decode cX4_groupNumbered 16 = .ok (.aload_n 0, 1) := by decide +kernel
theorem dX4_groupNumbered_17 : decode cX4_groupNumbered 17 = .ok (.getfield 10, 3) := by decide +kernel
theorem dX4_groupNumbered_20 : decode cX4_groupNumbered 20 = .ok (.iload_n 1, 1) := by decide +kernel
theorem dX4_groupNumbered_21 : decode cX4_groupNumbered 21 = .ok (.iconst 1, 1) := by decide +kernel
theorem dX4_groupNumbered_22 : decode cX4_groupNumbered 22 = .ok (.isub, 1) := by decide +kernel
theorem dX4_groupNumbered_23 : decode cX4_groupNumbered 23 = .ok (.invokevirtual 128, 3) := by decide +kernel
theorem dX4_groupNumbered_26 : decode cX4_groupNumbered 26 = .ok (.checkcast 84, 3) := by decide +kernel
theorem dX4_groupNumbered_29 : decode cX4_groupNumbered 29 = .ok (.goto 4, 3) := by decide +kernel
theorem dX4_groupNumbered_32 : decode cX4_groupNumbered 32 = .ok (.aconst_null, 1) := by decide +kernel
theorem dX4_groupNumbered_33 : decode cX4_groupNumbered 33 = .ok (.areturn, 1) := by decide +kernel
theorem dX4_groupOf_0 : decode cX4_groupOf 0 = .ok (.iconst 0, 1) := by decide +kernel
theorem dX4_groupOf_1 : decode cX4_groupOf 1 = .ok (.istore_n 3, 1) := by decide +kernel
theorem dX4_groupOf_2 : decode cX4_groupOf 2 = .ok (.iload_n 3, 1) := by decide +kernel
theorem dX4_groupOf_3 : decode cX4_groupOf 3 = .ok (.aload_n 0, 1) := by decide +kernel
theorem dX4_groupOf_4 : decode cX4_groupOf 4 = .ok (.getfield 10, 3) := by decide +kernel
theorem dX4_groupOf_7 : decode cX4_groupOf 7 = .ok (.invokevirtual 80, 3) := by decide +kernel
theorem dX4_groupOf_10 : decode cX4_groupOf 10 = .ok (.if_icmp .ge 43, 3) := by decide +kernel
theorem dX4_groupOf_13 : decode cX4_groupOf 13 = .ok (.aload_n 0, 1) := by decide +kernel
theorem dX4_groupOf_14 : decode cX4_groupOf 14 = .ok (.getfield 10, 3) := by decide +kernel
theorem dX4_groupOf_17 : decode cX4_groupOf 17 = .ok (.iload_n 3, 1) := by decide +kernel
theorem dX4_groupOf_18 : decode cX4_groupOf 18 = .ok (.invokevirtual 128, 3) := by decide +kernel
theorem dX4_groupOf_21 : decode cX4_groupOf 21 = .ok (.checkcast 84, 3) := by decide +kernel
theorem dX4_groupOf_24 : decode cX4_groupOf 24 = .ok (.astore 4, 2) := by decide +kernel
theorem dX4_groupOf_26 : decode cX4_groupOf 26 = .ok (.aload 4, 2) := by decide +kernel
theorem dX4_groupOf_28 : decode cX4_groupOf 28 = .ok (.getfield 108, 3) := by decide +kernel
theorem dX4_groupOf_31 : decode cX4_groupOf 31 = .ok (.iload_n 1, 1) := by decide +kernel
theorem dX4_groupOf_32 : decode cX4_groupOf 32 = .ok (.if_icmp .ne 15, 3) := by decide +kernel
theorem dX4_groupOf_35 : decode cX4_groupOf 35 = .ok (.aload 4, 2) := by decide +kernel
theorem dX4_groupOf_37 : decode cX4_groupOf 37 = .ok (.getfield 111, 3) := by decide +kernel
theorem dX4_groupOf_40 : decode cX4_groupOf 40 = .ok (.iload_n 2, 1) := by decide +kernel
theorem dX4_groupOf_41 : decode cX4_groupOf 41 = .ok (.if_icmp .ne 6, 3) := by decide +kernel
theorem dX4_groupOf_44 : decode cX4_groupOf 44 = .ok (.aload 4, 2) := by decide +kernel
theorem dX4_groupOf_46 : decode cX4_groupOf 46 = .ok (.areturn, 1) := by decide +kernel
theorem dX4_groupOf_47 : decode cX4_groupOf 47 = .ok (.iinc 3 1, 3) := by decide +kernel
theorem dX4_groupOf_50 : decode cX4_groupOf 50 = .ok (.goto (-48), 3) := by decide +kernel
theorem dX4_groupOf_53 : decode cX4_groupOf 53 = .ok (.aconst_null, 1) := by decide +kernel
theorem dX4_groupOf_54 : decode cX4_groupOf 54 = .ok (.areturn, 1) := by decide +kernel
theorem dX4_sumNumbered_0 : decode cX4_sumNumbered 0 = .ok (.iload_n 1, 1) := by decide +kernel
theorem dX4_sumNumbered_1 : decode cX4_sumNumbered 1 = .ok (.iconst 1, 1) := by decide +kernel
theorem dX4_sumNumbered_2 : decode cX4_sumNumbered 2 = .ok (.if_icmp .lt 30, 3) := by decide +kernel
theorem dX4_sumNumbered_5 : decode cX4_sumNumbered 5 = .ok (.iload_n 1, 1) := by decide +kernel
theorem dX4_sumNumbered_6 : decode cX4_sumNumbered 6 = .ok (.aload_n 0, 1) := by decide +kernel
theorem dX4_sumNumbered_7 : decode cX4_sumNumbered 7 = .ok (.getfield 16, 3) := by decide +kernel
theorem dX4_sumNumbered_10 : decode cX4_sumNumbered 10 = .ok (.invokevirtual 80, 3) := by decide +kernel
theorem dX4_sumNumbered_13 : decode cX4_sumNumbered 13 = .ok (.if_icmp .gt 19, 3) := by decide +kernel
theorem dX4_sumNumbered_16 : decode cX4_sumNumbered 16 = .ok (.aload_n 0, 1) := by decide +kernel
theorem dX4_sumNumbered_17 : decode cX4_sumNumbered 17 = .ok (.getfield 16, 3) := by decide +kernel
theorem dX4_sumNumbered_20 : decode cX4_sumNumbered 20 = .ok (.iload_n 1, 1) := by decide +kernel
theorem dX4_sumNumbered_21 : decode cX4_sumNumbered 21 = .ok (.iconst 1, 1) := by decide +kernel
theorem dX4_sumNumbered_22 : decode cX4_sumNumbered 22 = .ok (.isub, 1) := by decide +kernel
theorem dX4_sumNumbered_23 : decode cX4_sumNumbered 23 = .ok (.invokevirtual 128, 3) := by decide +kernel
theorem dX4_sumNumbered_26 : decode cX4_sumNumbered 26 = .ok (.checkcast 117, 3) := by decide +kernel
theorem dX4_sumNumbered_29 : decode cX4_sumNumbered 29 = .ok (.goto 4, 3) := by decide +kernel
theorem dX4_sumNumbered_32 : decode cX4_sumNumbered 32 = .ok (.aconst_null, 1) := by decide +kernel
theorem dX4_sumNumbered_33 : decode cX4_sumNumbered 33 = .ok (.areturn, 1) := by decide +kernel
theorem dX4_firstSumOf_0 : decode cX4_firstSumOf 0 = .ok (.iconst 0, 1) := by decide +kernel
theorem dX4_firstSumOf_1 : decode cX4_firstSumOf 1 = .ok (.istore_n 2, 1) := by decide +kernel
theorem dX4_firstSumOf_2 : decode cX4_firstSumOf 2 = .ok (.iload_n 2, 1) := by decide +kernel
theorem dX4_firstSumOf_3 : decode cX4_firstSumOf 3 = .ok (.aload_n 0, 1) := by decide +kernel
theorem dX4_firstSumOf_4 : decode cX4_firstSumOf 4 = .ok (.getfield 16, 3) := by decide +kernel
theorem dX4_firstSumOf_7 : decode cX4_firstSumOf 7 = .ok (.invokevirtual 80, 3) := by decide +kernel
theorem dX4_firstSumOf_10 : decode cX4_firstSumOf 10 = .ok (.if_icmp .ge 31, 3) := by decide +kernel
theorem dX4_firstSumOf_13 : decode cX4_firstSumOf 13 = .ok (.aload_n 0, 1) := by decide +kernel
theorem dX4_firstSumOf_14 : decode cX4_firstSumOf 14 = .ok (.getfield 16, 3) := by decide +kernel
theorem dX4_firstSumOf_17 : decode cX4_firstSumOf 17 = .ok (.iload_n 2, 1) := by decide +kernel
theorem dX4_firstSumOf_18 : decode cX4_firstSumOf 18 = .ok (.invokevirtual 128, 3) := by decide +kernel
theorem dX4_firstSumOf_21 : decode cX4_firstSumOf 21 = .ok (.checkcast 117, 3) := by decide +kernel
theorem dX4_firstSumOf_24 : decode cX4_firstSumOf 24 = .ok (.astore_n 3, 1) := by decide +kernel
theorem dX4_firstSumOf_25 : decode cX4_firstSumOf 25 = .ok (.aload_n 3, 1) := by decide +kernel
theorem dX4_firstSumOf_26 : decode cX4_firstSumOf 26 = .ok (.getfield 205, 3) := by decide +kernel
theorem dX4_firstSumOf_29 : decode cX4_firstSumOf 29 = .ok (.iload_n 1, 1) := by decide +kernel
theorem dX4_firstSumOf_30 : decode cX4_firstSumOf 30 = .ok (.if_icmp .ne 5, 3) := by decide +kernel
theorem dX4_firstSumOf_33 : decode cX4_firstSumOf 33 = .ok (.aload_n 3, 1) := by decide +kernel
theorem dX4_firstSumOf_34 : decode cX4_firstSumOf 34 = .ok (.areturn, 1) := by decide +kernel
theorem dX4_firstSumOf_35 : decode cX4_firstSumOf 35 = .ok (.iinc 2 1, 3) := by decide +kernel
theorem dX4_firstSumOf_38 : decode cX4_firstSumOf 38 = .ok (.goto (-36), 3) := by decide +kernel
theorem dX4_firstSumOf_41 : decode cX4_firstSumOf 41 = .ok (.aconst_null, 1) := by decide +kernel
theorem dX4_firstSumOf_42 : decode cX4_firstSumOf 42 = .ok (.areturn, 1) := by decide +kernel
theorem dX4_isSummable_0 : decode cX4_isSummable 0 = .ok (.iload_n 1, 1) := by decide +kernel
theorem dX4_isSummable_1 : decode cX4_isSummable 1 = .ok (.ifCond .ne 5, 3) := by decide +kernel
theorem dX4_isSummable_4 : decode cX4_isSummable 4 = .ok (.iconst 1, 1) := by decide +kernel
theorem dX4_isSummable_5 : decode cX4_isSummable 5 = .ok (.ireturn, 1) := by decide +kernel
theorem dX4_isSummable_6 : decode cX4_isSummable 6 = .ok (.iload_n 1, 1) := by decide +kernel
theorem dX4_isSummable_7 : decode cX4_isSummable 7 = .ok (.ifCond .le 27, 3) := by decide +kernel
theorem dX4_isSummable_10 : decode cX4_isSummable 10 = .ok (.aload_n 0, 1) := by decide +kernel
theorem dX4_isSummable_11 : decode cX4_isSummable 11 = .ok (.iload_n 1, 1) := by decide +kernel
theorem dX4_isSummable_12 : decode cX4_isSummable 12 = .ok (.invokevirtual 93, 3) := by decide +kernel
theorem dX4_isSummable_15 : decode cX4_isSummable 15 = .ok (.astore_n 3, 1) := by decide +kernel
theorem dX4_isSummable_16 : decode cX4_isSummable 16 = .ok (.aload_n 3, 1) := by decide +kernel
theorem dX4_isSummable_17 : decode cX4_isSummable 17 = .ok (.ifnull 15, 3) := by decide +kernel
theorem dX4_isSummable_20 : decode cX4_isSummable 20 = .ok (.aload_n 3, 1) := by decide +kernel
theorem dX4_isSummable_21 : decode cX4_isSummable 21 = .ok (.getfield 108, 3) := by decide +kernel
theorem dX4_isSummable_24 : decode cX4_isSummable 24 = .ok (.iconst 3, 1) := by decide +kernel
theorem dX4_isSummable_25 : decode cX4_isSummable 25 = .ok (.if_icmp .ne 7, 3) := by decide +kernel
theorem dX4_isSummable_28 : decode cX4_isSummable 28 = .ok (.iconst 1, 1) := by decide +kernel
theorem dX4_isSummable_29 : decode cX4_isSummable 29 = .ok (.goto 4, 3) := by decide +kernel
theorem dX4_isSummable_32 : decode cX4_isSummable 32 = .ok (.iconst 0, 1) := by decide +kernel
theorem dX4_isSummable_33 : decode cX4_isSummable 33 = .ok (.ireturn, 1) := by decide +kernel
theorem dX4_isSummable_34 : decode cX4_isSummable 34 = .ok (.aload_n 0, 1) := by decide +kernel
theorem dX4_isSummable_35 : decode cX4_isSummable 35 = .ok (.iload_n 1, 1) := by decide +kernel
theorem dX4_isSummable_36 : decode cX4_isSummable 36 = .ok (.ineg, 1) := by decide +kernel
theorem dX4_isSummable_37 : decode cX4_isSummable 37 = .ok (.invokevirtual 187, 3) := by decide +kernel
theorem dX4_isSummable_40 : decode cX4_isSummable 40 = .ok (.astore_n 3, 1) := by decide +kernel
theorem dX4_isSummable_41 : decode cX4_isSummable 41 = .ok (.aload_n 3, 1) := by decide +kernel
theorem dX4_isSummable_42 : decode cX4_isSummable 42 = .ok (.ifnull 15, 3) := by decide +kernel
theorem dX4_isSummable_45 : decode cX4_isSummable 45 = .ok (.aload_n 3, 1) := by decide +kernel
theorem dX4_isSummable_46 : decode cX4_isSummable 46 = .ok (.getfield 208, 3) := by decide +kernel
theorem dX4_isSummable_49 : decode cX4_isSummable 49 = .ok (.iload_n 2, 1) := by decide +kernel
theorem dX4_isSummable_50 : decode cX4_isSummable 50 = .ok (.if_icmp .le 7, 3) := by decide +kernel
theorem dX4_isSummable_53 : decode cX4_isSummable 53 = .ok (.iconst 1, 1) := by decide +kernel
theorem dX4_isSummable_54 : decode cX4_isSummable 54 = .ok (.goto 4, 3) := by decide +kernel
theorem dX4_isSummable_57 : decode cX4_isSummable 57 = .ok (.iconst 0, 1) := by decide +kernel
theorem dX4_isSummable_58 : decode cX4_isSummable 58 = .ok (.ireturn, 1) := by decide +kernel
theorem dX4_topmostLine_0 : decode cX4_topmostLine 0 = .ok (.iload_n 1, 1) := by decide +kernel
theorem dX4_topmostLine_1 : decode cX4_topmostLine 1 = .ok (.invokestatic 209, 3) := by decide +kernel
theorem dX4_topmostLine_4 : decode cX4_topmostLine 4 = .ok (.ifCond .eq 8, 3) := by decide +kernel
theorem dX4_topmostLine_7 : decode cX4_topmostLine 7 = .ok (.aload_n 0, 1) := by decide +kernel
theorem dX4_topmostLine_8 : decode cX4_topmostLine 8 = .ok (.getfield 66, 3) := by decide +kernel
theorem dX4_topmostLine_11 : decode cX4_topmostLine 11 = .ok (.ireturn, 1) := by decide +kernel
theorem dX4_topmostLine_12 : decode cX4_topmostLine 12 = .ok (.iload_n 1, 1) := by decide +kernel
theorem dX4_topmostLine_13 : decode cX4_topmostLine 13 = .ok (.iconst 5, 1) := by decide +kernel
theorem dX4_topmostLine_14 : decode cX4_topmostLine 14 = .ok (.if_icmp .ne 12, 3) := by decide +kernel
theorem dX4_topmostLine_17 : decode cX4_topmostLine 17 = .ok (.aload_n 0, 1) := by decide +kernel
theorem dX4_topmostLine_18 : decode cX4_topmostLine 18 = .ok (.getfield 69, 3) := by decide +kernel
theorem dX4_topmostLine_21 : decode cX4_topmostLine 21 = .ok (.iconst 1, 1) := by decide +kernel
theorem dX4_topmostLine_22 : decode cX4_topmostLine 22 = .ok (.iadd, 1) := by decide +kernel
theorem dX4_topmostLine_23 : decode cX4_topmostLine 23 = .ok (.goto 4, 3) := by decide +kernel
theorem dX4_topmostLine_26 : decode cX4_topmostLine 26 = .ok (.iconst 1, 1) := by decide +kernel
theorem dX4_topmostLine_27 : decode cX4_topmostLine 27 = .ok (.ireturn, 1) := by decide +kernel
theorem dX4_lowestLine_0 : decode cX4_lowestLine 0 = .ok (.iload_n 1, 1) := by decide +kernel
theorem dX4_lowestLine_1 : decode cX4_lowestLine 1 = .ok (.invokestatic 209, 3) := by decide +kernel
theorem dX4_lowestLine_4 : decode cX4_lowestLine 4 = .ok (.ifCond .eq 8, 3) := by decide +kernel
theorem dX4_lowestLine_7 : decode cX4_lowestLine 7 = .ok (.aload_n 0, 1) := by decide +kernel
theorem dX4_lowestLine_8 : decode cX4_lowestLine 8 = .ok (.getfield 69, 3) := by decide +kernel
theorem dX4_lowestLine_11 : decode cX4_lowestLine 11 = .ok (.ireturn, 1) := by decide +kernel
theorem dX4_lowestLine_12 : decode cX4_lowestLine 12 = .ok (.iload_n 1, 1) := by decide +kernel
theorem dX4_lowestLine_13 : decode cX4_lowestLine 13 = .ok (.ifCond .eq 8, 3) := by decide +kernel
theorem dX4_lowestLine_16 : decode cX4_lowestLine 16 = .ok (.iload_n 1, 1) := by decide +kernel
theorem dX4_lowestLine_17 : decode cX4_lowestLine 17 = .ok (.iconst 1, 1) := by decide +kernel
theorem dX4_lowestLine_18 : decode cX4_lowestLine 18 = .ok (.if_icmp .ne 12, 3) := by decide +kernel
theorem dX4_lowestLine_21 : decode cX4_lowestLine 21 = .ok (.aload_n 0, 1) := by decide +kernel
theorem dX4_lowestLine_22 : decode cX4_lowestLine 22 = .ok (.getfield 66, 3) := by decide +kernel
theorem dX4_lowestLine_25 : decode cX4_lowestLine 25 = .ok (.iconst 1, 1) := by decide +kernel
theorem dX4_lowestLine_26 : decode cX4_lowestLine 26 = .ok (.isub, 1) := by decide +kernel
theorem dX4_lowestLine_27 : decode cX4_lowestLine 27 = .ok (.goto 7, 3) := by decide +kernel
theorem dX4_lowestLine_30 : decode cX4_lowestLine 30 = .ok (.aload_n 0, 1) := by decide +kernel
theorem dX4_lowestLine_31 : decode cX4_lowestLine 31 = .ok (.getfield 63, 3) := by decide +kernel
theorem dX4_lowestLine_34 : decode cX4_lowestLine 34 = .ok (.ireturn, 1) := by decide +kernel
theorem dX4_startOnNewPage_0 : decode cX4_startOnNewPage 0 = .ok (.iload_n 3, 1) := by decide +kernel
theorem dX4_startOnNewPage_1 : decode cX4_startOnNewPage 1 = .ok (.ifCond .ne 5, 3) := by decide +kernel
theorem dX4_startOnNewPage_4 : decode cX4_startOnNewPage 4 = .ok (.iload_n 2, 1) := by decide +kernel
theorem dX4_startOnNewPage_5 : decode cX4_startOnNewPage 5 = .ok (.ireturn, 1) := by decide +kernel
theorem dX4_startOnNewPage_6 : decode cX4_startOnNewPage 6 = .ok (.iload_n 1, 1) := by decide +kernel
theorem dX4_startOnNewPage_7 : decode cX4_startOnNewPage 7 = .ok (.invokestatic 209, 3) := by decide +kernel
theorem dX4_startOnNewPage_10 : decode cX4_startOnNewPage 10 = .ok (.ifCond .eq 8, 3) := by decide +kernel
theorem dX4_startOnNewPage_13 : decode cX4_startOnNewPage 13 = .ok (.aload_n 0, 1) := by decide +kernel
theorem dX4_startOnNewPage_14 : decode cX4_startOnNewPage 14 = .ok (.getfield 66, 3) := by decide +kernel
theorem dX4_startOnNewPage_17 : decode cX4_startOnNewPage 17 = .ok (.ireturn, 1) := by decide +kernel
theorem dX4_startOnNewPage_18 : decode cX4_startOnNewPage 18 = .ok (.iload_n 1, 1) := by decide +kernel
theorem dX4_startOnNewPage_19 : decode cX4_startOnNewPage 19 = .ok (.iconst 5, 1) := by decide +kernel
theorem dX4_startOnNewPage_20 : decode cX4_startOnNewPage 20 = .ok (.if_icmp .ne 12, 3) := by decide +kernel
theorem dX4_startOnNewPage_23 : decode cX4_startOnNewPage 23 = .ok (.aload_n 0, 1) := by decide +kernel
theorem dX4_startOnNewPage_24 : decode cX4_startOnNewPage 24 = .ok (.getfield 69, 3) := by decide +kernel
theorem dX4_startOnNewPage_27 : decode cX4_startOnNewPage 27 = .ok (.iload_n 2, 1) := by decide +kernel
theorem dX4_startOnNewPage_28 : decode cX4_startOnNewPage 28 = .ok (.iadd, 1) := by decide +kernel
theorem dX4_startOnNewPage_29 : decode cX4_startOnNewPage 29 = .ok (.goto 4, 3) := by decide +kernel
theorem dX4_startOnNewPage_32 : decode cX4_startOnNewPage 32 = .ok (.iload_n 2, 1) := by decide +kernel
theorem dX4_startOnNewPage_33 : decode cX4_startOnNewPage 33 = .ok (.ireturn, 1) := by decide +kernel
theorem dX4_startInBody_0 : decode cX4_startInBody 0 = .ok (.aload_n 1, 1) := by decide +kernel
theorem dX4_startInBody_1 : decode cX4_startInBody 1 = .ok (.getfield 213, 3) := by decide +kernel
theorem dX4_startInBody_4 : decode cX4_startInBody 4 = .ok (.ifCond .eq 20, 3) := by decide +kernel
theorem dX4_startInBody_7 : decode cX4_startInBody 7 = .ok (.aload_n 0, 1) := by decide +kernel
theorem dX4_startInBody_8 : decode cX4_startInBody 8 = .ok (.getfield 47, 3) := by decide +kernel
theorem dX4_startInBody_11 : decode cX4_startInBody 11 = .ok (.ifCond .le 13, 3) := by decide +kernel
theorem dX4_startInBody_14 : decode cX4_startInBody 14 = .ok (.aload_n 0, 1) := by decide +kernel
theorem dX4_startInBody_15 : decode cX4_startInBody 15 = .ok (.getfield 47, 3) := by decide +kernel
theorem dX4_startInBody_18 : decode cX4_startInBody 18 = .ok (.aload_n 1, 1) := by decide +kernel
theorem dX4_startInBody_19 : decode cX4_startInBody 19 = .ok (.getfield 216, 3) := by decide +kernel
theorem dX4_startInBody_22 : decode cX4_startInBody 22 = .ok (.iadd, 1) := by decide +kernel
theorem dX4_startInBody_23 : decode cX4_startInBody 23 = .ok (.ireturn, 1) := by decide +kernel
theorem dX4_startInBody_24 : decode cX4_startInBody 24 = .ok (.aload_n 0, 1) := by decide +kernel
theorem dX4_startInBody_25 : decode cX4_startInBody 25 = .ok (.aload_n 1, 1) := by decide +kernel
theorem dX4_startInBody_26 : decode cX4_startInBody 26 = .ok (.getfield 108, 3) := by decide +kernel
theorem dX4_startInBody_29 : decode cX4_startInBody 29 = .ok (.aload_n 1, 1) := by decide +kernel
theorem dX4_startInBody_30 : decode cX4_startInBody 30 = .ok (.getfield 216, 3) := by decide +kernel
theorem dX4_startInBody_33 : decode cX4_startInBody 33 = .ok (.aload_n 1, 1) := by decide +kernel
theorem dX4_startInBody_34 : decode cX4_startInBody 34 = .ok (.getfield 213, 3) := by decide +kernel
theorem dX4_startInBody_37 : decode cX4_startInBody 37 = .ok (.invokevirtual 219, 3) := by decide +kernel
theorem dX4_startInBody_40 : decode cX4_startInBody 40 = .ok (.ireturn, 1) := by decide +kernel
theorem dX4_fitsWithLine_0 : decode cX4_fitsWithLine 0 = .ok (.aload_n 1, 1) := by decide +kernel
theorem dX4_fitsWithLine_1 : decode cX4_fitsWithLine 1 = .ok (.getfield 97, 3) := by decide +kernel
theorem dX4_fitsWithLine_4 : decode cX4_fitsWithLine 4 = .ok (.ifCond .ne 47, 3) := by decide +kernel
theorem dX4_fitsWithLine_7 : decode cX4_fitsWithLine 7 = .ok (.aload_n 0, 1) := by decide +kernel
theorem dX4_fitsWithLine_8 : decode cX4_fitsWithLine 8 = .ok (.aload_n 1, 1) := by decide +kernel
theorem dX4_fitsWithLine_9 : decode cX4_fitsWithLine 9 = .ok (.getfield 108, 3) := by decide +kernel
theorem dX4_fitsWithLine_12 : decode cX4_fitsWithLine 12 = .ok (.iload_n 2, 1) := by decide +kernel
theorem dX4_fitsWithLine_13 : decode cX4_fitsWithLine 13 = .ok (.iload_n 3, 1) := by decide +kernel
theorem dX4_fitsWithLine_14 : decode cX4_fitsWithLine 14 = .ok (.invokevirtual 219, 3) := by decide +kernel
theorem dX4_fitsWithLine_17 : decode cX4_fitsWithLine 17 = .ok (.istore 4, 2) := by decide +kernel
theorem dX4_fitsWithLine_19 : decode cX4_fitsWithLine 19 = .ok (.iload 4, 2) := by decide +kernel
theorem dX4_fitsWithLine_21 : decode cX4_fitsWithLine 21 = .ok (.aload_n 0, 1) := by decide +kernel
theorem dX4_fitsWithLine_22 : decode cX4_fitsWithLine 22 = .ok (.aload_n 1, 1) := by decide +kernel
theorem dX4_fitsWithLine_23 : decode cX4_fitsWithLine 23 = .ok (.getfield 108, 3) := by decide +kernel
theorem dX4_fitsWithLine_26 : decode cX4_fitsWithLine 26 = .ok (.invokevirtual 223, 3) := by decide +kernel
theorem dX4_fitsWithLine_29 : decode cX4_fitsWithLine 29 = .ok (.if_icmp .lt 20, 3) := by decide +kernel
theorem dX4_fitsWithLine_32 : decode cX4_fitsWithLine 32 = .ok (.iload 4, 2) := by decide +kernel
theorem dX4_fitsWithLine_34 : decode cX4_fitsWithLine 34 = .ok (.aload_n 0, 1) := by decide +kernel
theorem dX4_fitsWithLine_35 : decode cX4_fitsWithLine 35 = .ok (.aload_n 1, 1) := by decide +kernel
theorem dX4_fitsWithLine_36 : decode cX4_fitsWithLine 36 = .ok (.getfield 108, 3) := by decide +kernel
theorem dX4_fitsWithLine_39 : decode cX4_fitsWithLine 39 = .ok (.invokevirtual 227, 3) := by decide +kernel
theorem dX4_fitsWithLine_42 : decode cX4_fitsWithLine 42 = .ok (.if_icmp .gt 7, 3) := by decide +kernel
theorem dX4_fitsWithLine_45 : decode cX4_fitsWithLine 45 = .ok (.iconst 1, 1) := by decide +kernel
theorem dX4_fitsWithLine_46 : decode cX4_fitsWithLine 46 = .ok (.goto 4, 3) := by decide +kernel
theorem dX4_fitsWithLine_49 : decode cX4_fitsWithLine 49 = .ok (.iconst 0, 1) := by decide +kernel
theorem dX4_fitsWithLine_50 : decode cX4_fitsWithLine 50 = .ok (.ireturn, 1) := by decide +kernel
theorem dX4_fitsWithLine_51 : decode cX4_fitsWithLine 51 = .ok (.aload_n 0, 1) := by decide +kernel
theorem dX4_fitsWithLine_52 : decode cX4_fitsWithLine 52 = .ok (.aload_n 1, 1) := by decide +kernel
theorem dX4_fitsWithLine_53 : decode cX4_fitsWithLine 53 = .ok (.getfield 108, 3) := by decide +kernel
theorem dX4_fitsWithLine_56 : decode cX4_fitsWithLine 56 = .ok (.aload_n 1, 1) := by decide +kernel
theorem dX4_fitsWithLine_57 : decode cX4_fitsWithLine 57 = .ok (.getfield 216, 3) := by decide +kernel
theorem dX4_fitsWithLine_60 : decode cX4_fitsWithLine 60 = .ok (.aload_n 1, 1) := by decide +kernel
theorem dX4_fitsWithLine_61 : decode cX4_fitsWithLine 61 = .ok (.getfield 213, 3) := by decide +kernel
theorem dX4_fitsWithLine_64 : decode cX4_fitsWithLine 64 = .ok (.invokevirtual 219, 3) := by decide +kernel
theorem dX4_fitsWithLine_67 : decode cX4_fitsWithLine 67 = .ok (.istore 4, 2) := by decide +kernel
theorem dX4_fitsWithLine_69 : decode cX4_fitsWithLine 69 = .ok (.iload 4, 2) := by decide +kernel
theorem dX4_fitsWithLine_71 : decode cX4_fitsWithLine 71 = .ok (.aload_n 1, 1) := by decide +kernel
theorem dX4_fitsWithLine_72 : decode cX4_fitsWithLine 72 = .ok (.invokevirtual 230, 3) := by decide +kernel
theorem dX4_fitsWithLine_75 : decode cX4_fitsWithLine 75 = .ok (.iadd, 1) := by decide +kernel
theorem dX4_fitsWithLine_76 : decode cX4_fitsWithLine 76 = .ok (.iload_n 2, 1) := by decide +kernel
theorem dX4_fitsWithLine_77 : decode cX4_fitsWithLine 77 = .ok (.iadd, 1) := by decide +kernel
theorem dX4_fitsWithLine_78 : decode cX4_fitsWithLine 78 = .ok (.aload_n 0, 1) := by decide +kernel
theorem dX4_fitsWithLine_79 : decode cX4_fitsWithLine 79 = .ok (.aload_n 1, 1) := by decide +kernel
theorem dX4_fitsWithLine_80 : decode cX4_fitsWithLine 80 = .ok (.getfield 108, 3) := by decide +kernel
theorem dX4_fitsWithLine_83 : decode cX4_fitsWithLine 83 = .ok (.invokevirtual 227, 3) := by decide +kernel
theorem dX4_fitsWithLine_86 : decode cX4_fitsWithLine 86 = .ok (.if_icmp .gt 7, 3) := by decide +kernel
theorem dX4_fitsWithLine_89 : decode cX4_fitsWithLine 89 = .ok (.iconst 1, 1) := by decide +kernel
theorem dX4_fitsWithLine_90 : decode cX4_fitsWithLine 90 = .ok (.goto 4, 3) := by decide +kernel
theorem dX4_fitsWithLine_93 : decode cX4_fitsWithLine 93 = .ok (.iconst 0, 1) := by decide +kernel
theorem dX4_fitsWithLine_94 : decode cX4_fitsWithLine 94 = .ok (.ireturn, 1) := by decide +kernel
theorem dX4_printInBody_0 : decode cX4_printInBody 0 = .ok (.aload_n 1, 1) := by decide +kernel
theorem dX4_printInBody_1 : decode cX4_printInBody 1 = .ok (.ifnull 10, 3) := by decide +kernel
theorem dX4_printInBody_4 : decode cX4_printInBody 4 = .ok (.aload_n 1, 1) := by decide +kernel
theorem dX4_printInBody_5 : decode cX4_printInBody 5 = .ok (.invokevirtual 233, 3) := by decide +kernel
theorem dX4_printInBody_8 : decode cX4_printInBody 8 = .ok (.ifCond .ne 4, 3) := by decide +kernel
theorem dX4_printInBody_11 : decode cX4_printInBody 11 = .ok (.return_, 1) := by decide +kernel
theorem dX4_printInBody_12 : decode cX4_printInBody 12 = .ok (.aload_n 0, 1) := by decide +kernel
theorem dX4_printInBody_13 : decode cX4_printInBody 13 = .ok (.aload_n 1, 1) := by decide +kernel
theorem dX4_printInBody_14 : decode cX4_printInBody 14 = .ok (.invokevirtual 237, 3) := by decide +kernel
theorem dX4_printInBody_17 : decode cX4_printInBody 17 = .ok (.istore 4, 2) := by decide +kernel
theorem dX4_printInBody_19 : decode cX4_printInBody 19 = .ok (.iload 4, 2) := by decide +kernel
theorem dX4_printInBody_21 : decode cX4_printInBody 21 = .ok (.aload_n 0, 1) := by decide +kernel
theorem dX4_printInBody_22 : decode cX4_printInBody 22 = .ok (.getfield 47, 3) := by decide +kernel
theorem dX4_printInBody_25 : decode cX4_printInBody 25 = .ok (.if_icmp .le 17, 3) := by decide +kernel
theorem dX4_printInBody_28 : decode cX4_printInBody 28 = .ok (.iload 4, 2) := by decide +kernel
theorem dX4_printInBody_30 : decode cX4_printInBody 30 = .ok (.aload_n 1, 1) := by decide +kernel
theorem dX4_printInBody_31 : decode cX4_printInBody 31 = .ok (.invokevirtual 230, 3) := by decide +kernel
theorem dX4_printInBody_34 : decode cX4_printInBody 34 = .ok (.iadd, 1) := by decide +kernel
theorem dX4_printInBody_35 : decode cX4_printInBody 35 = .ok (.aload_n 0, 1) := by decide +kernel
theorem dX4_printInBody_36 : decode cX4_printInBody 36 = .ok (.getfield 69, 3) := by decide +kernel
theorem dX4_printInBody_39 : decode cX4_printInBody 39 = .ok (.if_icmp .le 18, 3) := by decide +kernel
theorem dX4_printInBody_42 : decode cX4_printInBody 42 = .ok (.aload_n 0, 1) := by decide +kernel
theorem dX4_printInBody_43 : decode cX4_printInBody 43 = .ok (.invokevirtual 170, 3) := by decide +kernel
theorem dX4_printInBody_46 : decode cX4_printInBody 46 = .ok (.aload_n 0, 1) := by decide +kernel
theorem dX4_printInBody_47 : decode cX4_printInBody 47 = .ok (.invokevirtual 146, 3) := by decide +kernel
theorem dX4_printInBody_50 : decode cX4_printInBody 50 = .ok (.aload_n 0, 1) := by decide +kernel
theorem dX4_printInBody_51 : decode cX4_printInBody 51 = .ok (.aload_n 1, 1) := by decide +kernel
theorem dX4_printInBody_52 : decode cX4_printInBody 52 = .ok (.invokevirtual 237, 3) := by decide +kernel
theorem dX4_printInBody_55 : decode cX4_printInBody 55 = .ok (.istore 4, 2) := by decide +kernel
theorem dX4_printInBody_57 : decode cX4_printInBody 57 = .ok (.aload_n 1, 1) := by decide +kernel
theorem dX4_printInBody_58 : decode cX4_printInBody 58 = .ok (.getfield 194, 3) := by decide +kernel
theorem dX4_printInBody_61 : decode cX4_printInBody 61 = .ok (.ifCond .eq 18, 3) := by decide +kernel
theorem dX4_printInBody_64 : decode cX4_printInBody 64 = .ok (.aload_n 1, 1) := by decide +kernel
theorem dX4_printInBody_65 : decode cX4_printInBody 65 = .ok (.getfield 241, 3) := by decide +kernel
theorem dX4_printInBody_68 : decode cX4_printInBody 68 = .ok (.aload_n 0, 1) := by decide +kernel
theorem dX4_printInBody_69 : decode cX4_printInBody 69 = .ok (.getfield 56, 3) := by decide +kernel
theorem dX4_printInBody_72 : decode cX4_printInBody 72 = .ok (.if_icmp .ne 7, 3) := by decide +kernel
theorem dX4_printInBody_75 : decode cX4_printInBody 75 = .ok (.iconst 1, 1) := by decide +kernel
theorem dX4_printInBody_76 : decode cX4_printInBody 76 = .ok (.goto 4, 3) := by decide +kernel
theorem dX4_printInBody_79 : decode cX4_printInBody 79 = .ok (.iconst 0, 1) := by decide +kernel
theorem dX4_printInBody_80 : decode cX4_printInBody 80 = .ok (.istore 5, 2) := by decide +kernel
theorem dX4_printInBody_82 : decode cX4_printInBody 82 = .ok (.aload_n 0, 1) := by decide +kernel
theorem dX4_printInBody_83 : decode cX4_printInBody 83 = .ok (.iload 4, 2) := by decide +kernel
theorem dX4_printInBody_85 : decode cX4_printInBody 85 = .ok (.aload_n 1, 1) := by decide +kernel
theorem dX4_printInBody_86 : decode cX4_printInBody 86 = .ok (.iload 5, 2) := by decide +kernel
theorem dX4_printInBody_88 : decode cX4_printInBody 88 = .ok (.ifCond .eq 7, 3) := by decide +kernel
theorem dX4_printInBody_91 : decode cX4_printInBody 91 = .ok (.lconst 0, 1) := by decide +kernel
theorem dX4_printInBody_92 : decode cX4_printInBody 92 = .ok (.goto 4, 3) := by decide +kernel
theorem dX4_printInBody_95 : decode cX4_printInBody 95 = .ok (.lload_n 2, 1) := by decide +kernel
theorem dX4_printInBody_96 : decode cX4_printInBody 96 = .ok (.invokevirtual 244, 3) := by decide +kernel
theorem dX4_printInBody_99 : decode cX4_printInBody 99 = .ok (.aload_n 0, 1) := by decide +kernel
theorem dX4_printInBody_100 : decode cX4_printInBody 100 = .ok (.aload_n 0, 1) := by decide +kernel
theorem dX4_printInBody_101 : decode cX4_printInBody 101 = .ok (.getfield 44, 3) := by decide +kernel
theorem dX4_printInBody_104 : decode cX4_printInBody 104 = .ok (.putfield 47, 3) := by decide +kernel
theorem dX4_printInBody_107 : decode cX4_printInBody 107 = .ok (.aload_n 1, 1) := by decide +kernel
theorem dX4_printInBody_108 : decode cX4_printInBody 108 = .ok (.aload_n 0, 1) := by decide +kernel
theorem dX4_printInBody_109 : decode cX4_printInBody 109 = .ok (.getfield 56, 3) := by decide +kernel
theorem dX4_printInBody_112 : decode cX4_printInBody 112 = .ok (.putfield 241, 3) := by decide +kernel
theorem dX4_printInBody_115 : decode cX4_printInBody 115 = .ok (.return_, 1) := by decide +kernel
theorem dX4_beginPage_0 : decode cX4_beginPage 0 = .ok (.aload_n 0, 1) := by decide +kernel
theorem dX4_beginPage_1 : decode cX4_beginPage 1 = .ok (.invokevirtual 248, 3) := by decide +kernel
theorem dX4_beginPage_4 : decode cX4_beginPage 4 = .ok (.aload_n 0, 1) := by decide +kernel
theorem dX4_beginPage_5 : decode cX4_beginPage 5 = .ok (.dup, 1) := by decide +kernel
theorem dX4_beginPage_6 : decode cX4_beginPage 6 = .ok (.getfield 56, 3) := by decide +kernel
theorem dX4_beginPage_9 : decode cX4_beginPage 9 = .ok (.iconst 1, 1) := by decide +kernel
theorem dX4_beginPage_10 : decode cX4_beginPage 10 = .ok (.iadd, 1) := by decide +kernel
theorem dX4_beginPage_11 : decode cX4_beginPage 11 = .ok (.putfield 56, 3) := by decide +kernel
theorem dX4_beginPage_14 : decode cX4_beginPage 14 = .ok (.aload_n 0, 1) := by decide +kernel
theorem dX4_beginPage_15 : decode cX4_beginPage 15 = .ok (.aload_n 0, 1) := by decide +kernel
theorem dX4_beginPage_16 : decode cX4_beginPage 16 = .ok (.iconst 1, 1) := by decide +kernel
theorem dX4_beginPage_17 : decode cX4_beginPage 17 = .ok (.iconst 0, 1) := by decide +kernel
theorem dX4_beginPage_18 : decode cX4_beginPage 18 = .ok (.invokevirtual 76, 3) := by decide +kernel
theorem dX4_beginPage_21 : decode cX4_beginPage 21 = .ok (.invokevirtual 251, 3) := by decide +kernel
theorem dX4_beginPage_24 : decode cX4_beginPage 24 = .ok (.return_, 1) := by decide +kernel
theorem dX4_endPage_0 : decode cX4_endPage 0 = .ok (.aload_n 0, 1) := by decide +kernel
theorem dX4_endPage_1 : decode cX4_endPage 1 = .ok (.aload_n 0, 1) := by decide +kernel
theorem dX4_endPage_2 : decode cX4_endPage 2 = .ok (.iconst 5, 1) := by decide +kernel
theorem dX4_endPage_3 : decode cX4_endPage 3 = .ok (.iconst 0, 1) := by decide +kernel
theorem dX4_endPage_4 : decode cX4_endPage 4 = .ok (.invokevirtual 76, 3) := by decide +kernel
theorem dX4_endPage_7 : decode cX4_endPage 7 = .ok (.invokevirtual 251, 3) := by decide +kernel
theorem dX4_endPage_10 : decode cX4_endPage 10 = .ok (.return_, 1) := by decide +kernel
theorem dX4_countPage_0 : decode cX4_countPage 0 = .ok (.aload_n 0, 1) := by decide +kernel
theorem dX4_countPage_1 : decode cX4_countPage 1 = .ok (.dup, 1) := by decide +kernel
theorem dX4_countPage_2 : decode cX4_countPage 2 = .ok (.getfield 41, 3) := by decide +kernel
theorem dX4_countPage_5 : decode cX4_countPage 5 = .ok (.iconst 1, 1) := by decide +kernel
theorem dX4_countPage_6 : decode cX4_countPage 6 = .ok (.iadd, 1) := by decide +kernel
theorem dX4_countPage_7 : decode cX4_countPage 7 = .ok (.putfield 41, 3) := by decide +kernel
theorem dX4_countPage_10 : decode cX4_countPage 10 = .ok (.aload_n 0, 1) := by decide +kernel
theorem dX4_countPage_11 : decode cX4_countPage 11 = .ok (.iconst 0, 1) := by decide +kernel
theorem dX4_countPage_12 : decode cX4_countPage 12 = .ok (.putfield 44, 3) := by decide +kernel
theorem dX4_countPage_15 : decode cX4_countPage 15 = .ok (.aload_n 0, 1) := by decide +kernel
theorem dX4_countPage_16 : decode cX4_countPage 16 = .ok (.iconst 0, 1) := by decide +kernel
theorem dX4_countPage_17 : decode cX4_countPage 17 = .ok (.putfield 47, 3) := by decide +kernel
theorem dX4_countPage_20 : decode cX4_countPage 20 = .ok (.return_, 1) := by decide +kernel
theorem dX4_printOutsideBody_0 : decode cX4_printOutsideBody 0 = .ok (.aload_n 1, 1) := by decide +kernel
theorem dX4_printOutsideBody_1 : decode cX4_printOutsideBody 1 = .ok (.ifnull 32, 3) := by decide +kernel
theorem dX4_printOutsideBody_4 : decode cX4_printOutsideBody 4 = .ok (.aload_n 1, 1) := by decide +kernel
theorem dX4_printOutsideBody_5 : decode cX4_printOutsideBody 5 = .ok (.invokevirtual 233, 3) := by decide +kernel
theorem dX4_printOutsideBody_8 : decode cX4_printOutsideBody 8 = .ok (.ifCond .eq 25, 3) := by decide +kernel
theorem dX4_printOutsideBody_11 : decode cX4_printOutsideBody 11 = .ok (.aload_n 0, 1) := by decide +kernel
theorem dX4_printOutsideBody_12 : decode cX4_printOutsideBody 12 = .ok (.aload_n 0, 1) := by decide +kernel
theorem dX4_printOutsideBody_13 : decode cX4_printOutsideBody 13 = .ok (.aload_n 1, 1) := by decide +kernel
theorem dX4_printOutsideBody_14 : decode cX4_printOutsideBody 14 = .ok (.getfield 108, 3) := by decide +kernel
theorem dX4_printOutsideBody_17 : decode cX4_printOutsideBody 17 = .ok (.aload_n 1, 1) := by decide +kernel
theorem dX4_printOutsideBody_18 : decode cX4_printOutsideBody 18 = .ok (.getfield 216, 3) := by decide +kernel
theorem dX4_printOutsideBody_21 : decode cX4_printOutsideBody 21 = .ok (.aload_n 1, 1) := by decide +kernel
theorem dX4_printOutsideBody_22 : decode cX4_printOutsideBody 22 = .ok (.getfield 213, 3) := by decide +kernel
theorem dX4_printOutsideBody_25 : decode cX4_printOutsideBody 25 = .ok (.invokevirtual 219, 3) := by decide +kernel
theorem dX4_printOutsideBody_28 : decode cX4_printOutsideBody 28 = .ok (.aload_n 1, 1) := by decide +kernel
theorem dX4_printOutsideBody_29 : decode cX4_printOutsideBody 29 = .ok (.lconst 0, 1) := by decide +kernel
theorem dX4_printOutsideBody_30 : decode cX4_printOutsideBody 30 = .ok (.invokevirtual 244, 3) := by decide +kernel
theorem dX4_printOutsideBody_33 : decode cX4_printOutsideBody 33 = .ok (.return_, 1) := by decide +kernel
theorem dX4_printOnOwnPage_0 : decode cX4_printOnOwnPage 0 = .ok (.aload_n 1, 1) := by decide +kernel
theorem dX4_printOnOwnPage_1 : decode cX4_printOnOwnPage 1 = .ok (.ifnull 36, 3) := by decide +kernel
theorem dX4_printOnOwnPage_4 : decode cX4_printOnOwnPage 4 = .ok (.aload_n 1, 1) := by decide +kernel
theorem dX4_printOnOwnPage_5 : decode cX4_printOnOwnPage 5 = .ok (.invokevirtual 233, 3) := by decide +kernel
theorem dX4_printOnOwnPage_8 : decode cX4_printOnOwnPage 8 = .ok (.ifCond .eq 29, 3) := by decide +kernel
theorem dX4_printOnOwnPage_11 : decode cX4_printOnOwnPage 11 = .ok (.aload_n 0, 1) := by decide +kernel
theorem dX4_printOnOwnPage_12 : decode cX4_printOnOwnPage 12 = .ok (.invokevirtual 248, 3) := by decide +kernel
theorem dX4_printOnOwnPage_15 : decode cX4_printOnOwnPage 15 = .ok (.aload_n 0, 1) := by decide +kernel
theorem dX4_printOnOwnPage_16 : decode cX4_printOnOwnPage 16 = .ok (.aload_n 0, 1) := by decide +kernel
theorem dX4_printOnOwnPage_17 : decode cX4_printOnOwnPage 17 = .ok (.aload_n 1, 1) := by decide +kernel
theorem dX4_printOnOwnPage_18 : decode cX4_printOnOwnPage 18 = .ok (.getfield 108, 3) := by decide +kernel
theorem dX4_printOnOwnPage_21 : decode cX4_printOnOwnPage 21 = .ok (.aload_n 1, 1) := by decide +kernel
theorem dX4_printOnOwnPage_22 : decode cX4_printOnOwnPage 22 = .ok (.getfield 216, 3) := by decide +kernel
theorem dX4_printOnOwnPage_25 : decode cX4_printOnOwnPage 25 = .ok (.aload_n 1, 1) := by decide +kernel
theorem dX4_printOnOwnPage_26 : decode cX4_printOnOwnPage 26 = .ok (.getfield 213, 3) := by decide +kernel
theorem dX4_printOnOwnPage_29 : decode cX4_printOnOwnPage 29 = .ok (.invokevirtual 219, 3) := by decide +kernel
theorem dX4_printOnOwnPage_32 : decode cX4_printOnOwnPage 32 = .ok (.aload_n 1, 1) := by decide +kernel
theorem dX4_printOnOwnPage_33 : decode cX4_printOnOwnPage 33 = .ok (.lconst 0, 1) := by decide +kernel
theorem dX4_printOnOwnPage_34 : decode cX4_printOnOwnPage 34 = .ok (.invokevirtual 244, 3) := by decide +kernel
theorem dX4_printOnOwnPage_37 : decode cX4_printOnOwnPage 37 = .ok (.return_, 1) := by decide +kernel
theorem dX4_printFrom_0 : decode cX4_printFrom 0 = .ok (.iconst 0, 1) := by decide +kernel
theorem dX4_printFrom_1 : decode cX4_printFrom 1 = .ok (.istore 5, 2) := by decide +kernel
theorem dX4_printFrom_3 : decode cX4_printFrom 3 = .ok (.iload 5, 2) := by decide +kernel
theorem dX4_printFrom_5 : decode cX4_printFrom 5 = .ok (.aload_n 2, 1) := by decide +kernel
theorem dX4_printFrom_6 : decode cX4_printFrom 6 = .ok (.getfield 97, 3) := by decide +kernel
theorem dX4_printFrom_9 : decode cX4_printFrom 9 = .ok (.if_icmp .ge 45, 3) := by decide +kernel
theorem dX4_printFrom_12 : decode cX4_printFrom 12 = .ok (.aload_n 0, 1) := by decide +kernel
theorem dX4_printFrom_13 : decode cX4_printFrom 13 = .ok (.iload_n 1, 1) := by decide +kernel
theorem dX4_printFrom_14 : decode cX4_printFrom 14 = .ok (.aload_n 2, 1) := by decide +kernel
theorem dX4_printFrom_15 : decode cX4_printFrom 15 = .ok (.getfield 254, 3) := by decide +kernel
theorem dX4_printFrom_18 : decode cX4_printFrom 18 = .ok (.iload 5, 2) := by decide +kernel
theorem dX4_printFrom_20 : decode cX4_printFrom 20 = .ok (.iaload, 1) := by decide +kernel
theorem dX4_printFrom_21 : decode cX4_printFrom 21 = .ok (.iadd, 1) := by decide +kernel
theorem dX4_printFrom_22 : decode cX4_printFrom 22 = .ok (.putfield 44, 3) := by decide +kernel
theorem dX4_printFrom_25 : decode cX4_printFrom 25 = .ok (.aload_n 0, 1) := by decide +kernel
theorem dX4_printFrom_26 : decode cX4_printFrom 26 = .ok (.getfield 33, 3) := by decide +kernel
theorem dX4_printFrom_29 : decode cX4_printFrom 29 = .ok (.aload_n 0, 1) := by decide +kernel
theorem dX4_printFrom_30 : decode cX4_printFrom 30 = .ok (.getfield 41, 3) := by decide +kernel
theorem dX4_printFrom_33 : decode cX4_printFrom 33 = .ok (.aload_n 0, 1) := by decide +kernel
theorem dX4_printFrom_34 : decode cX4_printFrom 34 = .ok (.getfield 44, 3) := by decide +kernel
theorem dX4_printFrom_37 : decode cX4_printFrom 37 = .ok (.aload_n 2, 1) := by decide +kernel
theorem dX4_printFrom_38 : decode cX4_printFrom 38 = .ok (.getfield 119, 3) := by decide +kernel
theorem dX4_printFrom_41 : decode cX4_printFrom 41 = .ok (.iload 5, 2) := by decide +kernel
theorem dX4_printFrom_43 : decode cX4_printFrom 43 = .ok (.lload_n 3, 1) := by decide +kernel
theorem dX4_printFrom_44 : decode cX4_printFrom 44 = .ok (.l2i, 1) := by decide +kernel
theorem dX4_printFrom_45 : decode cX4_printFrom 45 = .ok (.invokevirtual 257, 3) := by decide +kernel
theorem dX4_printFrom_48 : decode cX4_printFrom 48 = .ok (.iinc 5 1, 3) := by decide +kernel
theorem dX4_printFrom_51 : decode cX4_printFrom 51 = .ok (.goto (-48), 3) := by decide +kernel
theorem dX4_printFrom_54 : decode cX4_printFrom 54 = .ok (.return_, 1) := by decide +kernel
theorem dX4_changedLevel_0 : decode cX4_changedLevel 0 = .ok (.iconst 1, 1) := by decide +kernel
theorem dX4_changedLevel_1 : decode cX4_changedLevel 1 = .ok (.istore_n 1, 1) := by decide +kernel
theorem dX4_changedLevel_2 : decode cX4_changedLevel 2 = .ok (.iload_n 1, 1) := by decide +kernel
theorem dX4_changedLevel_3 : decode cX4_changedLevel 3 = .ok (.aload_n 0, 1) := by decide +kernel
theorem dX4_changedLevel_4 : decode cX4_changedLevel 4 = .ok (.getfield 19, 3) := by decide +kernel
end
section
theorem dX4_changedLevel_7 : decode cX4_changedLevel 7 = .ok (.if_icmp .gt 24, 3) := by decide +kernel
theorem dX4_changedLevel_10 : decode cX4_changedLevel 10 = .ok (.aload_n 0, 1) := by decide +kernel
theorem dX4_changedLevel_11 : decode cX4_changedLevel 11 = .ok (.getfield 23, 3) := by decide +kernel
theorem dX4_changedLevel_14 : decode cX4_changedLevel 14 = .ok (.iload_n 1, 1) := by decide +kernel
theorem dX4_changedLevel_15 : decode cX4_changedLevel 15 = .ok (.iaload, 1) := by decide +kernel
theorem dX4_changedLevel_16 : decode cX4_changedLevel 16 = .ok (.aload_n 0, 1) := by decide +kernel
theorem dX4_changedLevel_17 : decode cX4_changedLevel 17 = .ok (.getfield 27, 3) := by decide +kernel
theorem dX4_changedLevel_20 : decode cX4_changedLevel 20 = .ok (.iload_n 1, 1) := by decide +kernel
theorem dX4_changedLevel_21 : decode cX4_changedLevel 21 = .ok (.iaload, 1) := by decide +kernel
theorem dX4_changedLevel_22 : decode cX4_changedLevel 22 = .ok (.if_icmp .ne 9, 3) := by decide +kernel
theorem dX4_changedLevel_25 : decode cX4_changedLevel 25 = .ok (.iinc 1 1, 3) := by decide +kernel
theorem dX4_changedLevel_28 : decode cX4_changedLevel 28 = .ok (.goto (-26), 3) := by decide +kernel
theorem dX4_changedLevel_31 : decode cX4_changedLevel 31 = .ok (.iload_n 1, 1) := by decide +kernel
theorem dX4_changedLevel_32 : decode cX4_changedLevel 32 = .ok (.ireturn, 1) := by decide +kernel
theorem dX4_printControlHeads_0 : decode cX4_printControlHeads 0 = .ok (.iload_n 1, 1) := by decide +kernel
theorem dX4_printControlHeads_1 : decode cX4_printControlHeads 1 = .ok (.istore_n 2, 1) := by decide +kernel
theorem dX4_printControlHeads_2 : decode cX4_printControlHeads 2 = .ok (.iload_n 2, 1) := by decide +kernel
theorem dX4_printControlHeads_3 : decode cX4_printControlHeads 3 = .ok (.aload_n 0, 1) := by decide +kernel
theorem dX4_printControlHeads_4 : decode cX4_printControlHeads 4 = .ok (.getfield 19, 3) := by decide +kernel
theorem dX4_printControlHeads_7 : decode cX4_printControlHeads 7 = .ok (.if_icmp .gt 26, 3) := by decide +kernel
theorem dX4_printControlHeads_10 : decode cX4_printControlHeads 10 = .ok (.aload_n 0, 1) := by decide +kernel
theorem dX4_printControlHeads_11 : decode cX4_printControlHeads 11 = .ok (.aload_n 0, 1) := by decide +kernel
theorem dX4_printControlHeads_12 : decode cX4_printControlHeads 12 = .ok (.iconst 2, 1) := by decide +kernel
theorem dX4_printControlHeads_13 : decode cX4_printControlHeads 13 = .ok (.iload_n 2, 1) := by decide +kernel
theorem dX4_printControlHeads_14 : decode cX4_printControlHeads 14 = .ok (.invokevirtual 76, 3) := by decide +kernel
theorem dX4_printControlHeads_17 : decode cX4_printControlHeads 17 = .ok (.aload_n 0, 1) := by decide +kernel
theorem dX4_printControlHeads_18 : decode cX4_printControlHeads 18 = .ok (.getfield 23, 3) := by decide +kernel
theorem dX4_printControlHeads_21 : decode cX4_printControlHeads 21 = .ok (.iload_n 2, 1) := by decide +kernel
theorem dX4_printControlHeads_22 : decode cX4_printControlHeads 22 = .ok (.iaload, 1) := by decide +kernel
theorem dX4_printControlHeads_23 : decode cX4_printControlHeads 23 = .ok (.i2l, 1) := by decide +kernel
theorem dX4_printControlHeads_24 : decode cX4_printControlHeads 24 = .ok (.invokevirtual 166, 3) := by decide +kernel
theorem dX4_printControlHeads_27 : decode cX4_printControlHeads 27 = .ok (.iinc 2 1, 3) := by decide +kernel
theorem dX4_printControlHeads_30 : decode cX4_printControlHeads 30 = .ok (.goto (-28), 3) := by decide +kernel
theorem dX4_printControlHeads_33 : decode cX4_printControlHeads 33 = .ok (.return_, 1) := by decide +kernel
theorem dX4_printControlFoots_0 : decode cX4_printControlFoots 0 = .ok (.aload_n 0, 1) := by decide +kernel
theorem dX4_printControlFoots_1 : decode cX4_printControlFoots 1 = .ok (.getfield 19, 3) := by decide +kernel
theorem dX4_printControlFoots_4 : decode cX4_printControlFoots 4 = .ok (.istore_n 2, 1) := by decide +kernel
theorem dX4_printControlFoots_5 : decode cX4_printControlFoots 5 = .ok (.iload_n 2, 1) := by decide +kernel
theorem dX4_printControlFoots_6 : decode cX4_printControlFoots 6 = .ok (.iload_n 1, 1) := by decide +kernel
theorem dX4_printControlFoots_7 : decode cX4_printControlFoots 7 = .ok (.if_icmp .lt 65, 3) := by decide +kernel
theorem dX4_printControlFoots_10 : decode cX4_printControlFoots 10 = .ok (.aload_n 0, 1) := by decide +kernel
theorem dX4_printControlFoots_11 : decode cX4_printControlFoots 11 = .ok (.iconst 4, 1) := by decide +kernel
theorem dX4_printControlFoots_12 : decode cX4_printControlFoots 12 = .ok (.iload_n 2, 1) := by decide +kernel
theorem dX4_printControlFoots_13 : decode cX4_printControlFoots 13 = .ok (.invokevirtual 76, 3) := by decide +kernel
theorem dX4_printControlFoots_16 : decode cX4_printControlFoots 16 = .ok (.astore_n 3, 1) := by decide +kernel
theorem dX4_printControlFoots_17 : decode cX4_printControlFoots 17 = .ok (.aload_n 3, 1) := by decide +kernel
theorem dX4_printControlFoots_18 : decode cX4_printControlFoots 18 = .ok (.ifnull 38, 3) := by decide +kernel
theorem dX4_printControlFoots_21 : decode cX4_printControlFoots 21 = .ok (.aload_n 0, 1) := by decide +kernel
theorem dX4_printControlFoots_22 : decode cX4_printControlFoots 22 = .ok (.aload_n 3, 1) := by decide +kernel
theorem dX4_printControlFoots_23 : decode cX4_printControlFoots 23 = .ok (.getfield 119, 3) := by decide +kernel
theorem dX4_printControlFoots_26 : decode cX4_printControlFoots 26 = .ok (.invokevirtual 260, 3) := by decide +kernel
theorem dX4_printControlFoots_29 : decode cX4_printControlFoots 29 = .ok (.astore 4, 2) := by decide +kernel
theorem dX4_printControlFoots_31 : decode cX4_printControlFoots 31 = .ok (.aload_n 0, 1) := by decide +kernel
theorem dX4_printControlFoots_32 : decode cX4_printControlFoots 32 = .ok (.aload_n 3, 1) := by decide +kernel
theorem dX4_printControlFoots_33 : decode cX4_printControlFoots 33 = .ok (.aload 4, 2) := by decide +kernel
theorem dX4_printControlFoots_35 : decode cX4_printControlFoots 35 = .ok (.ifnonnull 13, 3) := by decide +kernel
theorem dX4_printControlFoots_38 : decode cX4_printControlFoots 38 = .ok (.aload_n 0, 1) := by decide +kernel
theorem dX4_printControlFoots_39 : decode cX4_printControlFoots 39 = .ok (.getfield 27, 3) := by decide +kernel
theorem dX4_printControlFoots_42 : decode cX4_printControlFoots 42 = .ok (.iload_n 2, 1) := by decide +kernel
theorem dX4_printControlFoots_43 : decode cX4_printControlFoots 43 = .ok (.iaload, 1) := by decide +kernel
theorem dX4_printControlFoots_44 : decode cX4_printControlFoots 44 = .ok (.i2l, 1) := by decide +kernel
theorem dX4_printControlFoots_45 : decode cX4_printControlFoots 45 = .ok (.goto 8, 3) := by decide +kernel
theorem dX4_printControlFoots_48 : decode cX4_printControlFoots 48 = .ok (.aload 4, 2) := by decide +kernel
theorem dX4_printControlFoots_50 : decode cX4_printControlFoots 50 = .ok (.getfield 132, 3) := by decide +kernel
theorem dX4_printControlFoots_53 : decode cX4_printControlFoots 53 = .ok (.invokevirtual 166, 3) := by decide +kernel
theorem dX4_printControlFoots_56 : decode cX4_printControlFoots 56 = .ok (.aload_n 0, 1) := by decide +kernel
theorem dX4_printControlFoots_57 : decode cX4_printControlFoots 57 = .ok (.iload_n 2, 1) := by decide +kernel
theorem dX4_printControlFoots_58 : decode cX4_printControlFoots 58 = .ok (.invokevirtual 263, 3) := by decide +kernel
theorem dX4_printControlFoots_61 : decode cX4_printControlFoots 61 = .ok (.aload_n 0, 1) := by decide +kernel
theorem dX4_printControlFoots_62 : decode cX4_printControlFoots 62 = .ok (.iload_n 2, 1) := by decide +kernel
theorem dX4_printControlFoots_63 : decode cX4_printControlFoots 63 = .ok (.invokevirtual 266, 3) := by decide +kernel
theorem dX4_printControlFoots_66 : decode cX4_printControlFoots 66 = .ok (.iinc 2 (-1), 3) := by decide +kernel
theorem dX4_printControlFoots_69 : decode cX4_printControlFoots 69 = .ok (.goto (-64), 3) := by decide +kernel
theorem dX4_printControlFoots_72 : decode cX4_printControlFoots 72 = .ok (.return_, 1) := by decide +kernel
theorem dX4_addToSums_0 : decode cX4_addToSums 0 = .ok (.iconst 0, 1) := by decide +kernel
theorem dX4_addToSums_1 : decode cX4_addToSums 1 = .ok (.istore 4, 2) := by decide +kernel
theorem dX4_addToSums_3 : decode cX4_addToSums 3 = .ok (.iload 4, 2) := by decide +kernel
theorem dX4_addToSums_5 : decode cX4_addToSums 5 = .ok (.aload_n 0, 1) := by decide +kernel
theorem dX4_addToSums_6 : decode cX4_addToSums 6 = .ok (.getfield 16, 3) := by decide +kernel
theorem dX4_addToSums_9 : decode cX4_addToSums 9 = .ok (.invokevirtual 80, 3) := by decide +kernel
theorem dX4_addToSums_12 : decode cX4_addToSums 12 = .ok (.if_icmp .ge 51, 3) := by decide +kernel
theorem dX4_addToSums_15 : decode cX4_addToSums 15 = .ok (.aload_n 0, 1) := by decide +kernel
theorem dX4_addToSums_16 : decode cX4_addToSums 16 = .ok (.getfield 16, 3) := by decide +kernel
theorem dX4_addToSums_19 : decode cX4_addToSums 19 = .ok (.iload 4, 2) := by decide +kernel
theorem dX4_addToSums_21 : decode cX4_addToSums 21 = .ok (.invokevirtual 128, 3) := by decide +kernel
theorem dX4_addToSums_24 : decode cX4_addToSums 24 = .ok (.checkcast 117, 3) := by decide +kernel
theorem dX4_addToSums_27 : decode cX4_addToSums 27 = .ok (.astore 5, 2) := by decide +kernel
theorem dX4_addToSums_29 : decode cX4_addToSums 29 = .ok (.aload 5, 2) := by decide +kernel
theorem dX4_addToSums_31 : decode cX4_addToSums 31 = .ok (.getfield 269, 3) := by decide +kernel
theorem dX4_addToSums_34 : decode cX4_addToSums 34 = .ok (.ifCond .eq 12, 3) := by decide +kernel
theorem dX4_addToSums_37 : decode cX4_addToSums 37 = .ok (.aload 5, 2) := by decide +kernel
theorem dX4_addToSums_39 : decode cX4_addToSums 39 = .ok (.getfield 269, 3) := by decide +kernel
theorem dX4_addToSums_42 : decode cX4_addToSums 42 = .ok (.iload_n 1, 1) := by decide +kernel
theorem dX4_addToSums_43 : decode cX4_addToSums 43 = .ok (.if_icmp .ne 14, 3) := by decide +kernel
theorem dX4_addToSums_46 : decode cX4_addToSums 46 = .ok (.aload 5, 2) := by decide +kernel
theorem dX4_addToSums_48 : decode cX4_addToSums 48 = .ok (.dup, 1) := by decide +kernel
theorem dX4_addToSums_49 : decode cX4_addToSums 49 = .ok (.getfield 132, 3) := by decide +kernel
theorem dX4_addToSums_52 : decode cX4_addToSums 52 = .ok (.lload_n 2, 1) := by decide +kernel
theorem dX4_addToSums_53 : decode cX4_addToSums 53 = .ok (.ladd, 1) := by decide +kernel
theorem dX4_addToSums_54 : decode cX4_addToSums 54 = .ok (.putfield 132, 3) := by decide +kernel
theorem dX4_addToSums_57 : decode cX4_addToSums 57 = .ok (.iinc 4 1, 3) := by decide +kernel
theorem dX4_addToSums_60 : decode cX4_addToSums 60 = .ok (.goto (-57), 3) := by decide +kernel
theorem dX4_addToSums_63 : decode cX4_addToSums 63 = .ok (.return_, 1) := by decide +kernel
theorem dX4_rollSums_0 : decode cX4_rollSums 0 = .ok (.iconst 0, 1) := by decide +kernel
theorem dX4_rollSums_1 : decode cX4_rollSums 1 = .ok (.istore_n 2, 1) := by decide +kernel
theorem dX4_rollSums_2 : decode cX4_rollSums 2 = .ok (.iload_n 2, 1) := by decide +kernel
theorem dX4_rollSums_3 : decode cX4_rollSums 3 = .ok (.aload_n 0, 1) := by decide +kernel
theorem dX4_rollSums_4 : decode cX4_rollSums 4 = .ok (.getfield 16, 3) := by decide +kernel
theorem dX4_rollSums_7 : decode cX4_rollSums 7 = .ok (.invokevirtual 80, 3) := by decide +kernel
theorem dX4_rollSums_10 : decode cX4_rollSums 10 = .ok (.if_icmp .ge 71, 3) := by decide +kernel
theorem dX4_rollSums_13 : decode cX4_rollSums 13 = .ok (.aload_n 0, 1) := by decide +kernel
theorem dX4_rollSums_14 : decode cX4_rollSums 14 = .ok (.getfield 16, 3) := by decide +kernel
theorem dX4_rollSums_17 : decode cX4_rollSums 17 = .ok (.iload_n 2, 1) := by decide +kernel
theorem dX4_rollSums_18 : decode cX4_rollSums 18 = .ok (.invokevirtual 128, 3) := by decide +kernel
theorem dX4_rollSums_21 : decode cX4_rollSums 21 = .ok (.checkcast 117, 3) := by decide +kernel
theorem dX4_rollSums_24 : decode cX4_rollSums 24 = .ok (.astore_n 3, 1) := by decide +kernel
theorem dX4_rollSums_25 : decode cX4_rollSums 25 = .ok (.aload_n 3, 1) := by decide +kernel
theorem dX4_rollSums_26 : decode cX4_rollSums 26 = .ok (.getfield 269, 3) := by decide +kernel
theorem dX4_rollSums_29 : decode cX4_rollSums 29 = .ok (.ifCond .ge 15, 3) := by decide +kernel
theorem dX4_rollSums_32 : decode cX4_rollSums 32 = .ok (.aload_n 0, 1) := by decide +kernel
theorem dX4_rollSums_33 : decode cX4_rollSums 33 = .ok (.aload_n 3, 1) := by decide +kernel
theorem dX4_rollSums_34 : decode cX4_rollSums 34 = .ok (.getfield 269, 3) := by decide +kernel
theorem dX4_rollSums_37 : decode cX4_rollSums 37 = .ok (.ineg, 1) := by decide +kernel
theorem dX4_rollSums_38 : decode cX4_rollSums 38 = .ok (.invokevirtual 187, 3) := by decide +kernel
theorem dX4_rollSums_41 : decode cX4_rollSums 41 = .ok (.goto 4, 3) := by decide +kernel
theorem dX4_rollSums_44 : decode cX4_rollSums 44 = .ok (.aconst_null, 1) := by decide +kernel
theorem dX4_rollSums_45 : decode cX4_rollSums 45 = .ok (.astore 4, 2) := by decide +kernel
theorem dX4_rollSums_47 : decode cX4_rollSums 47 = .ok (.aload 4, 2) := by decide +kernel
theorem dX4_rollSums_49 : decode cX4_rollSums 49 = .ok (.ifnull 26, 3) := by decide +kernel
theorem dX4_rollSums_52 : decode cX4_rollSums 52 = .ok (.aload 4, 2) := by decide +kernel
theorem dX4_rollSums_54 : decode cX4_rollSums 54 = .ok (.getfield 208, 3) := by decide +kernel
theorem dX4_rollSums_57 : decode cX4_rollSums 57 = .ok (.iload_n 1, 1) := by decide +kernel
theorem dX4_rollSums_58 : decode cX4_rollSums 58 = .ok (.if_icmp .ne 17, 3) := by decide +kernel
theorem dX4_rollSums_61 : decode cX4_rollSums 61 = .ok (.aload_n 3, 1) := by decide +kernel
theorem dX4_rollSums_62 : decode cX4_rollSums 62 = .ok (.dup, 1) := by decide +kernel
theorem dX4_rollSums_63 : decode cX4_rollSums 63 = .ok (.getfield 132, 3) := by decide +kernel
theorem dX4_rollSums_66 : decode cX4_rollSums 66 = .ok (.aload 4, 2) := by decide +kernel
theorem dX4_rollSums_68 : decode cX4_rollSums 68 = .ok (.getfield 132, 3) := by decide +kernel
theorem dX4_rollSums_71 : decode cX4_rollSums 71 = .ok (.ladd, 1) := by decide +kernel
theorem dX4_rollSums_72 : decode cX4_rollSums 72 = .ok (.putfield 132, 3) := by decide +kernel
theorem dX4_rollSums_75 : decode cX4_rollSums 75 = .ok (.iinc 2 1, 3) := by decide +kernel
theorem dX4_rollSums_78 : decode cX4_rollSums 78 = .ok (.goto (-76), 3) := by decide +kernel
theorem dX4_rollSums_81 : decode cX4_rollSums 81 = .ok (.return_, 1) := by decide +kernel
theorem dX4_resetSums_0 : decode cX4_resetSums 0 = .ok (.iconst 0, 1) := by decide +kernel
theorem dX4_resetSums_1 : decode cX4_resetSums 1 = .ok (.istore_n 2, 1) := by decide +kernel
theorem dX4_resetSums_2 : decode cX4_resetSums 2 = .ok (.iload_n 2, 1) := by decide +kernel
theorem dX4_resetSums_3 : decode cX4_resetSums 3 = .ok (.aload_n 0, 1) := by decide +kernel
theorem dX4_resetSums_4 : decode cX4_resetSums 4 = .ok (.getfield 16, 3) := by decide +kernel
theorem dX4_resetSums_7 : decode cX4_resetSums 7 = .ok (.invokevirtual 80, 3) := by decide +kernel
theorem dX4_resetSums_10 : decode cX4_resetSums 10 = .ok (.if_icmp .ge 34, 3) := by decide +kernel
theorem dX4_resetSums_13 : decode cX4_resetSums 13 = .ok (.aload_n 0, 1) := by decide +kernel
theorem dX4_resetSums_14 : decode cX4_resetSums 14 = .ok (.getfield 16, 3) := by decide +kernel
theorem dX4_resetSums_17 : decode cX4_resetSums 17 = .ok (.iload_n 2, 1) := by decide +kernel
theorem dX4_resetSums_18 : decode cX4_resetSums 18 = .ok (.invokevirtual 128, 3) := by decide +kernel
theorem dX4_resetSums_21 : decode cX4_resetSums 21 = .ok (.checkcast 117, 3) := by decide +kernel
theorem dX4_resetSums_24 : decode cX4_resetSums 24 = .ok (.astore_n 3, 1) := by decide +kernel
theorem dX4_resetSums_25 : decode cX4_resetSums 25 = .ok (.aload_n 3, 1) := by decide +kernel
theorem dX4_resetSums_26 : decode cX4_resetSums 26 = .ok (.getfield 272, 3) := by decide +kernel
theorem dX4_resetSums_29 : decode cX4_resetSums 29 = .ok (.iload_n 1, 1) := by decide +kernel
theorem dX4_resetSums_30 : decode cX4_resetSums 30 = .ok (.if_icmp .ne 8, 3) := by decide +kernel
theorem dX4_resetSums_33 : decode cX4_resetSums 33 = .ok (.aload_n 3, 1) := by decide +kernel
theorem dX4_resetSums_34 : decode cX4_resetSums 34 = .ok (.lconst 0, 1) := by decide +kernel
theorem dX4_resetSums_35 : decode cX4_resetSums 35 = .ok (.putfield 132, 3) := by decide +kernel
theorem dX4_resetSums_38 : decode cX4_resetSums 38 = .ok (.iinc 2 1, 3) := by decide +kernel
theorem dX4_resetSums_41 : decode cX4_resetSums 41 = .ok (.goto (-39), 3) := by decide +kernel
theorem dX4_resetSums_44 : decode cX4_resetSums 44 = .ok (.return_, 1) := by decide +kernel
theorem dX5_init_0 : decode cX5_init 0 = .ok (.aload_n 0, 1) := by decide +kernel
theorem dX5_init_1 : decode cX5_init 1 = .ok (.invokespecial 1, 3) := by decide +kernel
theorem dX5_init_4 : decode cX5_init 4 = .ok (.aload_n 0, 1) := by decide +kernel
theorem dX5_init_5 : decode cX5_init 5 = .ok (.bipush 6, 2) := by decide +kernel
theorem dX5_init_7 : decode cX5_init 7 = .ok (.newarray .int, 2) := by decide +kernel
theorem dX5_init_9 : decode cX5_init 9 = .ok (.putfield 7, 3) := by decide +kernel
theorem dX5_init_12 : decode cX5_init 12 = .ok (.aload_n 0, 1) := by decide +kernel
theorem dX5_init_13 : decode cX5_init 13 = .ok (.bipush 6, 2) := by decide +kernel
theorem dX5_init_15 : decode cX5_init 15 = .ok (.newarray .int, 2) := by decide +kernel
theorem dX5_init_17 : decode cX5_init 17 = .ok (.putfield 13, 3) := by decide +kernel
theorem dX5_init_20 : decode cX5_init 20 = .ok (.aload_n 0, 1) := by decide +kernel
theorem dX5_init_21 : decode cX5_init 21 = .ok (.bipush 21, 2) := by decide +kernel
theorem dX5_init_23 : decode cX5_init 23 = .ok (.newarray .int, 2) := by decide +kernel
theorem dX5_init_25 : decode cX5_init 25 = .ok (.putfield 16, 3) := by decide +kernel
theorem dX5_init_28 : decode cX5_init 28 = .ok (.aload_n 0, 1) := by decide +kernel
theorem dX5_init_29 : decode cX5_init 29 = .ok (.bipush 21, 2) := by decide +kernel
theorem dX5_init_31 : decode cX5_init 31 = .ok (.newarray .int, 2) := by decide +kernel
theorem dX5_init_33 : decode cX5_init 33 = .ok (.putfield 19, 3) := by decide +kernel
theorem dX5_init_36 : decode cX5_init 36 = .ok (.aload_n 0, 1) := by decide +kernel
theorem dX5_init_37 : decode cX5_init 37 = .ok (.bipush 21, 2) := by decide +kernel
theorem dX5_init_39 : decode cX5_init 39 = .ok (.newarray .int, 2) := by decide +kernel
theorem dX5_init_41 : decode cX5_init 41 = .ok (.putfield 22, 3) := by decide +kernel
theorem dX5_init_44 : decode cX5_init 44 = .ok (.aload_n 0, 1) := by decide +kernel
theorem dX5_init_45 : decode cX5_init 45 = .ok (.sipush 210, 3) := by decide +kernel
theorem dX5_init_48 : decode cX5_init 48 = .ok (.newarray .int, 2) := by decide +kernel
theorem dX5_init_50 : decode cX5_init 50 = .ok (.putfield 25, 3) := by decide +kernel
theorem dX5_init_53 : decode cX5_init 53 = .ok (.aload_n 0, 1) := by decide +kernel
theorem dX5_init_54 : decode cX5_init 54 = .ok (.bipush 21, 2) := by decide +kernel
theorem dX5_init_56 : decode cX5_init 56 = .ok (.newarray .boolean, 2) := by decide +kernel
theorem dX5_init_58 : decode cX5_init 58 = .ok (.putfield 28, 3) := by decide +kernel
theorem dX5_init_61 : decode cX5_init 61 = .ok (.aload_n 0, 1) := by decide +kernel
theorem dX5_init_62 : decode cX5_init 62 = .ok (.bipush 21, 2) := by decide +kernel
theorem dX5_init_64 : decode cX5_init 64 = .ok (.newarray .boolean, 2) := by decide +kernel
theorem dX5_init_66 : decode cX5_init 66 = .ok (.putfield 32, 3) := by decide +kernel
theorem dX5_init_69 : decode cX5_init 69 = .ok (.aload_n 0, 1) := by decide +kernel
theorem dX5_init_70 : decode cX5_init 70 = .ok (.bipush 21, 2) := by decide +kernel
theorem dX5_init_72 : decode cX5_init 72 = .ok (.newarray .boolean, 2) := by decide +kernel
theorem dX5_init_74 : decode cX5_init 74 = .ok (.putfield 35, 3) := by decide +kernel
theorem dX5_init_77 : decode cX5_init 77 = .ok (.aload_n 0, 1) := by decide +kernel
theorem dX5_init_78 : decode cX5_init 78 = .ok (.bipush 21, 2) := by decide +kernel
theorem dX5_init_80 : decode cX5_init 80 = .ok (.newarray .boolean, 2) := by decide +kernel
theorem dX5_init_82 : decode cX5_init 82 = .ok (.putfield 38, 3) := by decide +kernel
theorem dX5_init_85 : decode cX5_init 85 = .ok (.aload_n 0, 1) := by decide +kernel
theorem dX5_init_86 : decode cX5_init 86 = .ok (.bipush 21, 2) := by decide +kernel
theorem dX5_init_88 : decode cX5_init 88 = .ok (.newarray .int, 2) := by decide +kernel
theorem dX5_init_90 : decode cX5_init 90 = .ok (.putfield 41, 3) := by decide +kernel
theorem dX5_init_93 : decode cX5_init 93 = .ok (.aload_n 0, 1) := by decide +kernel
theorem dX5_init_94 : decode cX5_init 94 = .ok (.bipush 21, 2) := by decide +kernel
theorem dX5_init_96 : decode cX5_init 96 = .ok (.newarray .int, 2) := by decide +kernel
theorem dX5_init_98 : decode cX5_init 98 = .ok (.putfield 44, 3) := by decide +kernel
theorem dX5_init_101 : decode cX5_init 101 = .ok (.aload_n 0, 1) := by decide +kernel
theorem dX5_init_102 : decode cX5_init 102 = .ok (.bipush 21, 2) := by decide +kernel
theorem dX5_init_104 : decode cX5_init 104 = .ok (.newarray .int, 2) := by decide +kernel
theorem dX5_init_106 : decode cX5_init 106 = .ok (.putfield 47, 3) := by decide +kernel
theorem dX5_init_109 : decode cX5_init 109 = .ok (.aload_n 0, 1) := by decide +kernel
theorem dX5_init_110 : decode cX5_init 110 = .ok (.bipush 21, 2) := by decide +kernel
theorem dX5_init_112 : decode cX5_init 112 = .ok (.newarray .long, 2) := by decide +kernel
theorem dX5_init_114 : decode cX5_init 114 = .ok (.putfield 50, 3) := by decide +kernel
theorem dX5_init_117 : decode cX5_init 117 = .ok (.aload_n 0, 1) := by decide +kernel
theorem dX5_init_118 : decode cX5_init 118 = .ok (.ldc 54, 2) := by decide +kernel
theorem dX5_init_120 : decode cX5_init 120 = .ok (.newarray .int, 2) := by decide +kernel
theorem dX5_init_122 : decode cX5_init 122 = .ok (.putfield 55, 3) := by decide +kernel
theorem dX5_init_125 : decode cX5_init 125 = .ok (.aload_n 0, 1) := by decide +kernel
theorem dX5_init_126 : decode cX5_init 126 = .ok (.iload_n 1, 1) := by decide +kernel
theorem dX5_init_127 : decode cX5_init 127 = .ok (.bipush 10, 2) := by decide +kernel
theorem dX5_init_129 : decode cX5_init 129 = .ok (.bipush 100, 2) := by decide +kernel
theorem dX5_init_131 : decode cX5_init 131 = .ok (.invokestatic 58, 3) := by decide +kernel
theorem dX5_init_134 : decode cX5_init 134 = .ok (.putfield 62, 3) := by decide +kernel
theorem dX5_init_137 : decode cX5_init 137 = .ok (.aload_n 0, 1) := by decide +kernel
theorem dX5_init_138 : decode cX5_init 138 = .ok (.iload_n 2, 1) := by decide +kernel
theorem dX5_init_139 : decode cX5_init 139 = .ok (.iconst 2, 1) := by decide +kernel
theorem dX5_init_140 : decode cX5_init 140 = .ok (.aload_n 0, 1) := by decide +kernel
theorem dX5_init_141 : decode cX5_init 141 = .ok (.getfield 62, 3) := by decide +kernel
theorem dX5_init_144 : decode cX5_init 144 = .ok (.iconst 2, 1) := by decide +kernel
theorem dX5_init_145 : decode cX5_init 145 = .ok (.isub, 1) := by decide +kernel
theorem dX5_init_146 : decode cX5_init 146 = .ok (.invokestatic 58, 3) := by decide +kernel
theorem dX5_init_149 : decode cX5_init 149 = .ok (.putfield 66, 3) := by decide +kernel
theorem dX5_init_152 : decode cX5_init 152 = .ok (.aload_n 0, 1) := by decide +kernel
theorem dX5_init_153 : decode cX5_init 153 = .ok (.iload_n 3, 1) := by decide +kernel
theorem dX5_init_154 : decode cX5_init 154 = .ok (.aload_n 0, 1) := by decide +kernel
theorem dX5_init_155 : decode cX5_init 155 = .ok (.getfield 66, 3) := by decide +kernel
theorem dX5_init_158 : decode cX5_init 158 = .ok (.aload_n 0, 1) := by decide +kernel
theorem dX5_init_159 : decode cX5_init 159 = .ok (.getfield 62, 3) := by decide +kernel
theorem dX5_init_162 : decode cX5_init 162 = .ok (.iconst 1, 1) := by decide +kernel
theorem dX5_init_163 : decode cX5_init 163 = .ok (.isub, 1) := by decide +kernel
theorem dX5_init_164 : decode cX5_init 164 = .ok (.invokestatic 58, 3) := by decide +kernel
theorem dX5_init_167 : decode cX5_init 167 = .ok (.putfield 69, 3) := by decide +kernel
theorem dX5_init_170 : decode cX5_init 170 = .ok (.return_, 1) := by decide +kernel
theorem dX5_held_0 : decode cX5_held 0 = .ok (.iload_n 0, 1) := by decide +kernel
theorem dX5_held_1 : decode cX5_held 1 = .ok (.iload_n 1, 1) := by decide +kernel
theorem dX5_held_2 : decode cX5_held 2 = .ok (.if_icmp .ge 7, 3) := by decide +kernel
theorem dX5_held_5 : decode cX5_held 5 = .ok (.iload_n 1, 1) := by decide +kernel
theorem dX5_held_6 : decode cX5_held 6 = .ok (.goto 13, 3) := by decide +kernel
theorem dX5_held_9 : decode cX5_held 9 = .ok (.iload_n 0, 1) := by decide +kernel
theorem dX5_held_10 : decode cX5_held 10 = .ok (.iload_n 2, 1) := by decide +kernel
theorem dX5_held_11 : decode cX5_held 11 = .ok (.if_icmp .le 7, 3) := by decide +kernel
theorem dX5_held_14 : decode cX5_held 14 = .ok (.iload_n 2, 1) := by decide +kernel
theorem dX5_held_15 : decode cX5_held 15 = .ok (.goto 4, 3) := by decide +kernel
theorem dX5_held_18 : decode cX5_held 18 = .ok (.iload_n 0, 1) := by decide +kernel
theorem dX5_held_19 : decode cX5_held 19 = .ok (.ireturn, 1) := by decide +kernel
theorem dX5_thrown_0 : decode cX5_thrown 0 = .ok (.aload_n 0, 1) := by decide +kernel
theorem dX5_thrown_1 : decode cX5_thrown 1 = .ok (.getfield 72, 3) := by decide +kernel
theorem dX5_thrown_4 : decode cX5_thrown 4 = .ok (.ireturn, 1) := by decide +kernel
theorem dX5_isGroup_0 : decode cX5_isGroup 0 = .ok (.iload_n 1, 1) := by decide +kernel
theorem dX5_isGroup_1 : decode cX5_isGroup 1 = .ok (.ifCond .le 15, 3) := by decide +kernel
theorem dX5_isGroup_4 : decode cX5_isGroup 4 = .ok (.iload_n 1, 1) := by decide +kernel
theorem dX5_isGroup_5 : decode cX5_isGroup 5 = .ok (.aload_n 0, 1) := by decide +kernel
theorem dX5_isGroup_6 : decode cX5_isGroup 6 = .ok (.getfield 75, 3) := by decide +kernel
theorem dX5_isGroup_9 : decode cX5_isGroup 9 = .ok (.if_icmp .gt 7, 3) := by decide +kernel
theorem dX5_isGroup_12 : decode cX5_isGroup 12 = .ok (.iconst 1, 1) := by decide +kernel
theorem dX5_isGroup_13 : decode cX5_isGroup 13 = .ok (.goto 4, 3) := by decide +kernel
theorem dX5_isGroup_16 : decode cX5_isGroup 16 = .ok (.iconst 0, 1) := by decide +kernel
theorem dX5_isGroup_17 : decode cX5_isGroup 17 = .ok (.ireturn, 1) := by decide +kernel
theorem dX5_isDetail_0 : decode cX5_isDetail 0 = .ok (.aload_n 0, 1) := by decide +kernel
theorem dX5_isDetail_1 : decode cX5_isDetail 1 = .ok (.iload_n 1, 1) := by decide +kernel
theorem dX5_isDetail_2 : decode cX5_isDetail 2 = .ok (.invokevirtual 78, 3) := by decide +kernel
theorem dX5_isDetail_5 : decode cX5_isDetail 5 = .ok (.ifCond .eq 17, 3) := by decide +kernel
theorem dX5_isDetail_8 : decode cX5_isDetail 8 = .ok (.aload_n 0, 1) := by decide +kernel
theorem dX5_isDetail_9 : decode cX5_isDetail 9 = .ok (.getfield 16, 3) := by decide +kernel
theorem dX5_isDetail_12 : decode cX5_isDetail 12 = .ok (.iload_n 1, 1) := by decide +kernel
theorem dX5_isDetail_13 : decode cX5_isDetail 13 = .ok (.iaload, 1) := by decide +kernel
theorem dX5_isDetail_14 : decode cX5_isDetail 14 = .ok (.iconst 3, 1) := by decide +kernel
theorem dX5_isDetail_15 : decode cX5_isDetail 15 = .ok (.if_icmp .ne 7, 3) := by decide +kernel
theorem dX5_isDetail_18 : decode cX5_isDetail 18 = .ok (.iconst 1, 1) := by decide +kernel
theorem dX5_isDetail_19 : decode cX5_isDetail 19 = .ok (.goto 4, 3) := by decide +kernel
theorem dX5_isDetail_22 : decode cX5_isDetail 22 = .ok (.iconst 0, 1) := by decide +kernel
theorem dX5_isDetail_23 : decode cX5_isDetail 23 = .ok (.ireturn, 1) := by decide +kernel
theorem dX5_find_0 : decode cX5_find 0 = .ok (.iconst 0, 1) := by decide +kernel
theorem dX5_find_1 : decode cX5_find 1 = .ok (.istore_n 3, 1) := by decide +kernel
theorem dX5_find_2 : decode cX5_find 2 = .ok (.iconst 1, 1) := by decide +kernel
theorem dX5_find_3 : decode cX5_find 3 = .ok (.istore 4, 2) := by decide +kernel
theorem dX5_find_5 : decode cX5_find 5 = .ok (.iload 4, 2) := by decide +kernel
theorem dX5_find_7 : decode cX5_find 7 = .ok (.aload_n 0, 1) := by decide +kernel
theorem dX5_find_8 : decode cX5_find 8 = .ok (.getfield 75, 3) := by decide +kernel
theorem dX5_find_11 : decode cX5_find 11 = .ok (.if_icmp .gt 38, 3) := by decide +kernel
theorem dX5_find_14 : decode cX5_find 14 = .ok (.aload_n 0, 1) := by decide +kernel
theorem dX5_find_15 : decode cX5_find 15 = .ok (.getfield 16, 3) := by decide +kernel
theorem dX5_find_18 : decode cX5_find 18 = .ok (.iload 4, 2) := by decide +kernel
theorem dX5_find_20 : decode cX5_find 20 = .ok (.iaload, 1) := by decide +kernel
theorem dX5_find_21 : decode cX5_find 21 = .ok (.iload_n 1, 1) := by decide +kernel
theorem dX5_find_22 : decode cX5_find 22 = .ok (.if_icmp .ne 19, 3) := by decide +kernel
theorem dX5_find_25 : decode cX5_find 25 = .ok (.aload_n 0, 1) := by decide +kernel
theorem dX5_find_26 : decode cX5_find 26 = .ok (.getfield 19, 3) := by decide +kernel
theorem dX5_find_29 : decode cX5_find 29 = .ok (.iload 4, 2) := by decide +kernel
theorem dX5_find_31 : decode cX5_find 31 = .ok (.iaload, 1) := by decide +kernel
theorem dX5_find_32 : decode cX5_find 32 = .ok (.iload_n 2, 1) := by decide +kernel
theorem dX5_find_33 : decode cX5_find 33 = .ok (.if_icmp .ne 8, 3) := by decide +kernel
theorem dX5_find_36 : decode cX5_find 36 = .ok (.iload 4, 2) := by decide +kernel
theorem dX5_find_38 : decode cX5_find 38 = .ok (.goto 4, 3) := by decide +kernel
theorem dX5_find_41 : decode cX5_find 41 = .ok (.iload_n 3, 1) := by decide +kernel
theorem dX5_find_42 : decode cX5_find 42 = .ok (.istore_n 3, 1) := by decide +kernel
theorem dX5_find_43 : decode cX5_find 43 = .ok (.iinc 4 1, 3) := by decide +kernel
theorem dX5_find_46 : decode cX5_find 46 = .ok (.goto (-41), 3) := by decide +kernel
theorem dX5_find_49 : decode cX5_find 49 = .ok (.iload_n 3, 1) := by decide +kernel
theorem dX5_find_50 : decode cX5_find 50 = .ok (.ireturn, 1) := by decide +kernel
theorem dX5_group_0 : decode cX5_group 0 = .ok (.aload_n 0, 1) := by decide +kernel
theorem dX5_group_1 : decode cX5_group 1 = .ok (.iconst 0, 1) := by decide +kernel
theorem dX5_group_2 : decode cX5_group 2 = .ok (.putfield 72, 3) := by decide +kernel
theorem dX5_group_5 : decode cX5_group 5 = .ok (.iload_n 1, 1) := by decide +kernel
theorem dX5_group_6 : decode cX5_group 6 = .ok (.iconst 2, 1) := by decide +kernel
theorem dX5_group_7 : decode cX5_group 7 = .ok (.if_icmp .eq 8, 3) := by decide +kernel
theorem dX5_group_10 : decode cX5_group 10 = .ok (.iload_n 1, 1) := by decide +kernel
theorem dX5_group_11 : decode cX5_group 11 = .ok (.iconst 4, 1) := by decide +kernel
theorem dX5_group_12 : decode cX5_group 12 = .ok (.if_icmp .ne 7, 3) := by decide +kernel
theorem dX5_group_15 : decode cX5_group 15 = .ok (.iconst 1, 1) := by decide +kernel
theorem dX5_group_16 : decode cX5_group 16 = .ok (.goto 4, 3) := by decide +kernel
theorem dX5_group_19 : decode cX5_group 19 = .ok (.iconst 0, 1) := by decide +kernel
theorem dX5_group_20 : decode cX5_group 20 = .ok (.istore_n 3, 1) := by decide +kernel
theorem dX5_group_21 : decode cX5_group 21 = .ok (.iload_n 1, 1) := by decide +kernel
theorem dX5_group_22 : decode cX5_group 22 = .ok (.ifCond .lt 29, 3) := by decide +kernel
theorem dX5_group_25 : decode cX5_group 25 = .ok (.iload_n 1, 1) := by decide +kernel
theorem dX5_group_26 : decode cX5_group 26 = .ok (.bipush 6, 2) := by decide +kernel
theorem dX5_group_28 : decode cX5_group 28 = .ok (.if_icmp .gt 23, 3) := by decide +kernel
theorem dX5_group_31 : decode cX5_group 31 = .ok (.iload_n 2, 1) := by decide +kernel
theorem dX5_group_32 : decode cX5_group 32 = .ok (.ifCond .lt 19, 3) := by decide +kernel
theorem dX5_group_35 : decode cX5_group 35 = .ok (.iload_n 2, 1) := by decide +kernel
theorem dX5_group_36 : decode cX5_group 36 = .ok (.iload_n 3, 1) := by decide +kernel
theorem dX5_group_37 : decode cX5_group 37 = .ok (.ifCond .eq 10, 3) := by decide +kernel
theorem dX5_group_40 : decode cX5_group 40 = .ok (.aload_n 0, 1) := by decide +kernel
theorem dX5_group_41 : decode cX5_group 41 = .ok (.getfield 82, 3) := by decide +kernel
theorem dX5_group_44 : decode cX5_group 44 = .ok (.goto 4, 3) := by decide +kernel
theorem dX5_group_47 : decode cX5_group 47 = .ok (.iconst 0, 1) := by decide +kernel
theorem dX5_group_48 : decode cX5_group 48 = .ok (.if_icmp .le 6, 3) := by decide +kernel
theorem dX5_group_51 : decode cX5_group 51 = .ok (.bipush (-4), 2) := by decide +kernel
theorem dX5_group_53 : decode cX5_group 53 = .ok (.ireturn, 1) := by decide +kernel
theorem dX5_group_54 : decode cX5_group 54 = .ok (.aload_n 0, 1) := by decide +kernel
theorem dX5_group_55 : decode cX5_group 55 = .ok (.getfield 85, 3) := by decide +kernel
theorem dX5_group_58 : decode cX5_group 58 = .ok (.ifCond .eq 6, 3) := by decide +kernel
theorem dX5_group_61 : decode cX5_group 61 = .ok (.bipush (-5), 2) := by decide +kernel
theorem dX5_group_63 : decode cX5_group 63 = .ok (.ireturn, 1) := by decide +kernel
theorem dX5_group_64 : decode cX5_group 64 = .ok (.iload_n 1, 1) := by decide +kernel
theorem dX5_group_65 : decode cX5_group 65 = .ok (.iconst 3, 1) := by decide +kernel
theorem dX5_group_66 : decode cX5_group 66 = .ok (.if_icmp .eq 14, 3) := by decide +kernel
theorem dX5_group_69 : decode cX5_group 69 = .ok (.aload_n 0, 1) := by decide +kernel
theorem dX5_group_70 : decode cX5_group 70 = .ok (.iload_n 1, 1) := by decide +kernel
theorem dX5_group_71 : decode cX5_group 71 = .ok (.iload_n 2, 1) := by decide +kernel
theorem dX5_group_72 : decode cX5_group 72 = .ok (.invokevirtual 89, 3) := by decide +kernel
theorem dX5_group_75 : decode cX5_group 75 = .ok (.ifCond .eq 5, 3) := by decide +kernel
theorem dX5_group_78 : decode cX5_group 78 = .ok (.iconst 0, 1) := by decide +kernel
theorem dX5_group_79 : decode cX5_group 79 = .ok (.ireturn, 1) := by decide +kernel
theorem dX5_group_80 : decode cX5_group 80 = .ok (.aload_n 0, 1) := by decide +kernel
theorem dX5_group_81 : decode cX5_group 81 = .ok (.getfield 75, 3) := by decide +kernel
theorem dX5_group_84 : decode cX5_group 84 = .ok (.bipush 20, 2) := by decide +kernel
theorem dX5_group_86 : decode cX5_group 86 = .ok (.if_icmp .ne 5, 3) := by decide +kernel
theorem dX5_group_89 : decode cX5_group 89 = .ok (.iconst (-1), 1) := by decide +kernel
theorem dX5_group_90 : decode cX5_group 90 = .ok (.ireturn, 1) := by decide +kernel
theorem dX5_group_91 : decode cX5_group 91 = .ok (.aload_n 0, 1) := by decide +kernel
theorem dX5_group_92 : decode cX5_group 92 = .ok (.dup, 1) := by decide +kernel
theorem dX5_group_93 : decode cX5_group 93 = .ok (.getfield 75, 3) := by decide +kernel
theorem dX5_group_96 : decode cX5_group 96 = .ok (.iconst 1, 1) := by decide +kernel
theorem dX5_group_97 : decode cX5_group 97 = .ok (.iadd, 1) := by decide +kernel
theorem dX5_group_98 : decode cX5_group 98 = .ok (.putfield 75, 3) := by decide +kernel
theorem dX5_group_101 : decode cX5_group 101 = .ok (.aload_n 0, 1) := by decide +kernel
theorem dX5_group_102 : decode cX5_group 102 = .ok (.getfield 16, 3) := by decide +kernel
theorem dX5_group_105 : decode cX5_group 105 = .ok (.aload_n 0, 1) := by decide +kernel
theorem dX5_group_106 : decode cX5_group 106 = .ok (.getfield 75, 3) := by decide +kernel
theorem dX5_group_109 : decode cX5_group 109 = .ok (.iload_n 1, 1) := by decide +kernel
theorem dX5_group_110 : decode cX5_group 110 = .ok (.iastore, 1) := by decide +kernel
theorem dX5_group_111 : decode cX5_group 111 = .ok (.aload_n 0, 1) := by decide +kernel
theorem dX5_group_112 : decode cX5_group 112 = .ok (.getfield 19, 3) := by decide +kernel
theorem dX5_group_115 : decode cX5_group 115 = .ok (.aload_n 0, 1) := by decide +kernel
theorem dX5_group_116 : decode cX5_group 116 = .ok (.getfield 75, 3) := by decide +kernel
theorem dX5_group_119 : decode cX5_group 119 = .ok (.iload_n 2, 1) := by decide +kernel
theorem dX5_group_120 : decode cX5_group 120 = .ok (.iastore, 1) := by decide +kernel
theorem dX5_group_121 : decode cX5_group 121 = .ok (.aload_n 0, 1) := by decide +kernel
theorem dX5_group_122 : decode cX5_group 122 = .ok (.getfield 75, 3) := by decide +kernel
theorem dX5_group_125 : decode cX5_group 125 = .ok (.ireturn, 1) := by decide +kernel
theorem dX5_fits_0 : decode cX5_fits 0 = .ok (.aload_n 0, 1) := by decide +kernel
theorem dX5_fits_1 : decode cX5_fits 1 = .ok (.getfield 16, 3) := by decide +kernel
theorem dX5_fits_4 : decode cX5_fits 4 = .ok (.iload_n 1, 1) := by decide +kernel
theorem dX5_fits_5 : decode cX5_fits 5 = .ok (.iaload, 1) := by decide +kernel
theorem dX5_fits_6 : decode cX5_fits 6 = .ok (.iconst 2, 1) := by decide +kernel
theorem dX5_fits_7 : decode cX5_fits 7 = .ok (.if_icmp .eq 23, 3) := by decide +kernel
theorem dX5_fits_10 : decode cX5_fits 10 = .ok (.aload_n 0, 1) := by decide +kernel
theorem dX5_fits_11 : decode cX5_fits 11 = .ok (.getfield 16, 3) := by decide +kernel
theorem dX5_fits_14 : decode cX5_fits 14 = .ok (.iload_n 1, 1) := by decide +kernel
theorem dX5_fits_15 : decode cX5_fits 15 = .ok (.iaload, 1) := by decide +kernel
theorem dX5_fits_16 : decode cX5_fits 16 = .ok (.iconst 3, 1) := by decide +kernel
theorem dX5_fits_17 : decode cX5_fits 17 = .ok (.if_icmp .eq 13, 3) := by decide +kernel
theorem dX5_fits_20 : decode cX5_fits 20 = .ok (.aload_n 0, 1) := by decide +kernel
theorem dX5_fits_21 : decode cX5_fits 21 = .ok (.getfield 16, 3) := by decide +kernel
theorem dX5_fits_24 : decode cX5_fits 24 = .ok (.iload_n 1, 1) := by decide +kernel
theorem dX5_fits_25 : decode cX5_fits 25 = .ok (.iaload, 1) := by decide +kernel
theorem dX5_fits_26 : decode cX5_fits 26 = .ok (.iconst 4, 1) := by decide +kernel
theorem dX5_fits_27 : decode cX5_fits 27 = .ok (.if_icmp .ne 7, 3) := by decide +kernel
theorem dX5_fits_30 : decode cX5_fits 30 = .ok (.iconst 1, 1) := by decide +kernel
theorem dX5_fits_31 : decode cX5_fits 31 = .ok (.goto 4, 3) := by decide +kernel
theorem dX5_fits_34 : decode cX5_fits 34 = .ok (.iconst 0, 1) := by decide +kernel
theorem dX5_fits_35 : decode cX5_fits 35 = .ok (.istore 4, 2) := by decide +kernel
theorem dX5_fits_37 : decode cX5_fits 37 = .ok (.aload_n 0, 1) := by decide +kernel
theorem dX5_fits_38 : decode cX5_fits 38 = .ok (.getfield 16, 3) := by decide +kernel
theorem dX5_fits_41 : decode cX5_fits 41 = .ok (.iload_n 1, 1) := by decide +kernel
theorem dX5_fits_42 : decode cX5_fits 42 = .ok (.iaload, 1) := by decide +kernel
theorem dX5_fits_43 : decode cX5_fits 43 = .ok (.iconst 5, 1) := by decide +kernel
end
section
theorem dX5_fits_44 : decode cX5_fits 44 = .ok (.if_icmp .ne 10, 3) := by decide +kernel
theorem dX5_fits_47 : decode cX5_fits 47 = .ok (.aload_n 0, 1) := by decide +kernel
theorem dX5_fits_48 : decode cX5_fits 48 = .ok (.getfield 69, 3) := by decide +kernel
theorem dX5_fits_51 : decode cX5_fits 51 = .ok (.goto 4, 3) := by decide +kernel
theorem dX5_fits_54 : decode cX5_fits 54 = .ok (.iconst 0, 1) := by decide +kernel
theorem dX5_fits_55 : decode cX5_fits 55 = .ok (.istore 5, 2) := by decide +kernel
theorem dX5_fits_57 : decode cX5_fits 57 = .ok (.aload_n 0, 1) := by decide +kernel
theorem dX5_fits_58 : decode cX5_fits 58 = .ok (.getfield 22, 3) := by decide +kernel
theorem dX5_fits_61 : decode cX5_fits 61 = .ok (.iload_n 1, 1) := by decide +kernel
theorem dX5_fits_62 : decode cX5_fits 62 = .ok (.iaload, 1) := by decide +kernel
theorem dX5_fits_63 : decode cX5_fits 63 = .ok (.ifCond .ne 15, 3) := by decide +kernel
theorem dX5_fits_66 : decode cX5_fits 66 = .ok (.iload_n 3, 1) := by decide +kernel
theorem dX5_fits_67 : decode cX5_fits 67 = .ok (.ifCond .ne 7, 3) := by decide +kernel
theorem dX5_fits_70 : decode cX5_fits 70 = .ok (.iconst 1, 1) := by decide +kernel
theorem dX5_fits_71 : decode cX5_fits 71 = .ok (.goto 13, 3) := by decide +kernel
theorem dX5_fits_74 : decode cX5_fits 74 = .ok (.iconst 0, 1) := by decide +kernel
theorem dX5_fits_75 : decode cX5_fits 75 = .ok (.goto 9, 3) := by decide +kernel
theorem dX5_fits_78 : decode cX5_fits 78 = .ok (.aload_n 0, 1) := by decide +kernel
theorem dX5_fits_79 : decode cX5_fits 79 = .ok (.getfield 28, 3) := by decide +kernel
theorem dX5_fits_82 : decode cX5_fits 82 = .ok (.iload_n 1, 1) := by decide +kernel
theorem dX5_fits_83 : decode cX5_fits 83 = .ok (.baload, 1) := by decide +kernel
theorem dX5_fits_84 : decode cX5_fits 84 = .ok (.istore 6, 2) := by decide +kernel
theorem dX5_fits_86 : decode cX5_fits 86 = .ok (.aload_n 0, 1) := by decide +kernel
theorem dX5_fits_87 : decode cX5_fits 87 = .ok (.getfield 22, 3) := by decide +kernel
theorem dX5_fits_90 : decode cX5_fits 90 = .ok (.iload_n 1, 1) := by decide +kernel
theorem dX5_fits_91 : decode cX5_fits 91 = .ok (.iaload, 1) := by decide +kernel
theorem dX5_fits_92 : decode cX5_fits 92 = .ok (.ifCond .ne 7, 3) := by decide +kernel
theorem dX5_fits_95 : decode cX5_fits 95 = .ok (.iload_n 2, 1) := by decide +kernel
theorem dX5_fits_96 : decode cX5_fits 96 = .ok (.goto 12, 3) := by decide +kernel
theorem dX5_fits_99 : decode cX5_fits 99 = .ok (.aload_n 0, 1) := by decide +kernel
theorem dX5_fits_100 : decode cX5_fits 100 = .ok (.getfield 25, 3) := by decide +kernel
theorem dX5_fits_103 : decode cX5_fits 103 = .ok (.bipush 10, 2) := by decide +kernel
theorem dX5_fits_105 : decode cX5_fits 105 = .ok (.iload_n 1, 1) := by decide +kernel
theorem dX5_fits_106 : decode cX5_fits 106 = .ok (.imul, 1) := by decide +kernel
theorem dX5_fits_107 : decode cX5_fits 107 = .ok (.iaload, 1) := by decide +kernel
theorem dX5_fits_108 : decode cX5_fits 108 = .ok (.istore 7, 2) := by decide +kernel
theorem dX5_fits_110 : decode cX5_fits 110 = .ok (.iload 6, 2) := by decide +kernel
theorem dX5_fits_112 : decode cX5_fits 112 = .ok (.ifCond .eq 8, 3) := by decide +kernel
theorem dX5_fits_115 : decode cX5_fits 115 = .ok (.iload 7, 2) := by decide +kernel
theorem dX5_fits_117 : decode cX5_fits 117 = .ok (.goto 20, 3) := by decide +kernel
theorem dX5_fits_120 : decode cX5_fits 120 = .ok (.iload 4, 2) := by decide +kernel
theorem dX5_fits_122 : decode cX5_fits 122 = .ok (.ifCond .eq 10, 3) := by decide +kernel
theorem dX5_fits_125 : decode cX5_fits 125 = .ok (.aload_n 0, 1) := by decide +kernel
theorem dX5_fits_126 : decode cX5_fits 126 = .ok (.getfield 66, 3) := by decide +kernel
theorem dX5_fits_129 : decode cX5_fits 129 = .ok (.goto 8, 3) := by decide +kernel
theorem dX5_fits_132 : decode cX5_fits 132 = .ok (.iload 5, 2) := by decide +kernel
theorem dX5_fits_134 : decode cX5_fits 134 = .ok (.iload 7, 2) := by decide +kernel
theorem dX5_fits_136 : decode cX5_fits 136 = .ok (.iadd, 1) := by decide +kernel
theorem dX5_fits_137 : decode cX5_fits 137 = .ok (.istore 8, 2) := by decide +kernel
theorem dX5_fits_139 : decode cX5_fits 139 = .ok (.iload 8, 2) := by decide +kernel
theorem dX5_fits_141 : decode cX5_fits 141 = .ok (.istore 9, 2) := by decide +kernel
theorem dX5_fits_143 : decode cX5_fits 143 = .ok (.iconst 1, 1) := by decide +kernel
theorem dX5_fits_144 : decode cX5_fits 144 = .ok (.istore 10, 2) := by decide +kernel
theorem dX5_fits_146 : decode cX5_fits 146 = .ok (.iload 10, 2) := by decide +kernel
theorem dX5_fits_148 : decode cX5_fits 148 = .ok (.aload_n 0, 1) := by decide +kernel
theorem dX5_fits_149 : decode cX5_fits 149 = .ok (.getfield 22, 3) := by decide +kernel
theorem dX5_fits_152 : decode cX5_fits 152 = .ok (.iload_n 1, 1) := by decide +kernel
theorem dX5_fits_153 : decode cX5_fits 153 = .ok (.iaload, 1) := by decide +kernel
theorem dX5_fits_154 : decode cX5_fits 154 = .ok (.if_icmp .ge 26, 3) := by decide +kernel
theorem dX5_fits_157 : decode cX5_fits 157 = .ok (.iload 9, 2) := by decide +kernel
theorem dX5_fits_159 : decode cX5_fits 159 = .ok (.aload_n 0, 1) := by decide +kernel
theorem dX5_fits_160 : decode cX5_fits 160 = .ok (.getfield 25, 3) := by decide +kernel
theorem dX5_fits_163 : decode cX5_fits 163 = .ok (.bipush 10, 2) := by decide +kernel
theorem dX5_fits_165 : decode cX5_fits 165 = .ok (.iload_n 1, 1) := by decide +kernel
theorem dX5_fits_166 : decode cX5_fits 166 = .ok (.imul, 1) := by decide +kernel
theorem dX5_fits_167 : decode cX5_fits 167 = .ok (.iload 10, 2) := by decide +kernel
theorem dX5_fits_169 : decode cX5_fits 169 = .ok (.iadd, 1) := by decide +kernel
theorem dX5_fits_170 : decode cX5_fits 170 = .ok (.iaload, 1) := by decide +kernel
theorem dX5_fits_171 : decode cX5_fits 171 = .ok (.iadd, 1) := by decide +kernel
theorem dX5_fits_172 : decode cX5_fits 172 = .ok (.istore 9, 2) := by decide +kernel
theorem dX5_fits_174 : decode cX5_fits 174 = .ok (.iinc 10 1, 3) := by decide +kernel
theorem dX5_fits_177 : decode cX5_fits 177 = .ok (.goto (-31), 3) := by decide +kernel
theorem dX5_fits_180 : decode cX5_fits 180 = .ok (.iload 9, 2) := by decide +kernel
theorem dX5_fits_182 : decode cX5_fits 182 = .ok (.aload_n 0, 1) := by decide +kernel
theorem dX5_fits_183 : decode cX5_fits 183 = .ok (.getfield 22, 3) := by decide +kernel
theorem dX5_fits_186 : decode cX5_fits 186 = .ok (.iload_n 1, 1) := by decide +kernel
theorem dX5_fits_187 : decode cX5_fits 187 = .ok (.iaload, 1) := by decide +kernel
theorem dX5_fits_188 : decode cX5_fits 188 = .ok (.ifCond .le 7, 3) := by decide +kernel
theorem dX5_fits_191 : decode cX5_fits 191 = .ok (.iload_n 2, 1) := by decide +kernel
theorem dX5_fits_192 : decode cX5_fits 192 = .ok (.goto 4, 3) := by decide +kernel
theorem dX5_fits_195 : decode cX5_fits 195 = .ok (.iconst 0, 1) := by decide +kernel
theorem dX5_fits_196 : decode cX5_fits 196 = .ok (.iadd, 1) := by decide +kernel
theorem dX5_fits_197 : decode cX5_fits 197 = .ok (.istore 9, 2) := by decide +kernel
theorem dX5_fits_199 : decode cX5_fits 199 = .ok (.aload_n 0, 1) := by decide +kernel
theorem dX5_fits_200 : decode cX5_fits 200 = .ok (.getfield 16, 3) := by decide +kernel
theorem dX5_fits_203 : decode cX5_fits 203 = .ok (.iload_n 1, 1) := by decide +kernel
theorem dX5_fits_204 : decode cX5_fits 204 = .ok (.iaload, 1) := by decide +kernel
theorem dX5_fits_205 : decode cX5_fits 205 = .ok (.ifCond .eq 13, 3) := by decide +kernel
theorem dX5_fits_208 : decode cX5_fits 208 = .ok (.aload_n 0, 1) := by decide +kernel
theorem dX5_fits_209 : decode cX5_fits 209 = .ok (.getfield 16, 3) := by decide +kernel
theorem dX5_fits_212 : decode cX5_fits 212 = .ok (.iload_n 1, 1) := by decide +kernel
theorem dX5_fits_213 : decode cX5_fits 213 = .ok (.iaload, 1) := by decide +kernel
theorem dX5_fits_214 : decode cX5_fits 214 = .ok (.iconst 1, 1) := by decide +kernel
theorem dX5_fits_215 : decode cX5_fits 215 = .ok (.if_icmp .ne 18, 3) := by decide +kernel
theorem dX5_fits_218 : decode cX5_fits 218 = .ok (.iload 9, 2) := by decide +kernel
theorem dX5_fits_220 : decode cX5_fits 220 = .ok (.aload_n 0, 1) := by decide +kernel
theorem dX5_fits_221 : decode cX5_fits 221 = .ok (.getfield 66, 3) := by decide +kernel
theorem dX5_fits_224 : decode cX5_fits 224 = .ok (.if_icmp .ge 7, 3) := by decide +kernel
theorem dX5_fits_227 : decode cX5_fits 227 = .ok (.iconst 1, 1) := by decide +kernel
theorem dX5_fits_228 : decode cX5_fits 228 = .ok (.goto 4, 3) := by decide +kernel
theorem dX5_fits_231 : decode cX5_fits 231 = .ok (.iconst 0, 1) := by decide +kernel
theorem dX5_fits_232 : decode cX5_fits 232 = .ok (.ireturn, 1) := by decide +kernel
theorem dX5_fits_233 : decode cX5_fits 233 = .ok (.iload 4, 2) := by decide +kernel
theorem dX5_fits_235 : decode cX5_fits 235 = .ok (.ifCond .eq 27, 3) := by decide +kernel
theorem dX5_fits_238 : decode cX5_fits 238 = .ok (.iload 8, 2) := by decide +kernel
theorem dX5_fits_240 : decode cX5_fits 240 = .ok (.aload_n 0, 1) := by decide +kernel
theorem dX5_fits_241 : decode cX5_fits 241 = .ok (.getfield 66, 3) := by decide +kernel
theorem dX5_fits_244 : decode cX5_fits 244 = .ok (.if_icmp .lt 16, 3) := by decide +kernel
theorem dX5_fits_247 : decode cX5_fits 247 = .ok (.iload 9, 2) := by decide +kernel
theorem dX5_fits_249 : decode cX5_fits 249 = .ok (.aload_n 0, 1) := by decide +kernel
theorem dX5_fits_250 : decode cX5_fits 250 = .ok (.getfield 69, 3) := by decide +kernel
theorem dX5_fits_253 : decode cX5_fits 253 = .ok (.if_icmp .gt 7, 3) := by decide +kernel
theorem dX5_fits_256 : decode cX5_fits 256 = .ok (.iconst 1, 1) := by decide +kernel
theorem dX5_fits_257 : decode cX5_fits 257 = .ok (.goto 4, 3) := by decide +kernel
theorem dX5_fits_260 : decode cX5_fits 260 = .ok (.iconst 0, 1) := by decide +kernel
theorem dX5_fits_261 : decode cX5_fits 261 = .ok (.ireturn, 1) := by decide +kernel
theorem dX5_fits_262 : decode cX5_fits 262 = .ok (.aload_n 0, 1) := by decide +kernel
theorem dX5_fits_263 : decode cX5_fits 263 = .ok (.getfield 16, 3) := by decide +kernel
theorem dX5_fits_266 : decode cX5_fits 266 = .ok (.iload_n 1, 1) := by decide +kernel
theorem dX5_fits_267 : decode cX5_fits 267 = .ok (.iaload, 1) := by decide +kernel
theorem dX5_fits_268 : decode cX5_fits 268 = .ok (.bipush 6, 2) := by decide +kernel
theorem dX5_fits_270 : decode cX5_fits 270 = .ok (.if_icmp .eq 12, 3) := by decide +kernel
theorem dX5_fits_273 : decode cX5_fits 273 = .ok (.iload 8, 2) := by decide +kernel
theorem dX5_fits_275 : decode cX5_fits 275 = .ok (.aload_n 0, 1) := by decide +kernel
theorem dX5_fits_276 : decode cX5_fits 276 = .ok (.getfield 69, 3) := by decide +kernel
theorem dX5_fits_279 : decode cX5_fits 279 = .ok (.if_icmp .le 16, 3) := by decide +kernel
theorem dX5_fits_282 : decode cX5_fits 282 = .ok (.iload 9, 2) := by decide +kernel
theorem dX5_fits_284 : decode cX5_fits 284 = .ok (.aload_n 0, 1) := by decide +kernel
theorem dX5_fits_285 : decode cX5_fits 285 = .ok (.getfield 62, 3) := by decide +kernel
theorem dX5_fits_288 : decode cX5_fits 288 = .ok (.if_icmp .gt 7, 3) := by decide +kernel
theorem dX5_fits_291 : decode cX5_fits 291 = .ok (.iconst 1, 1) := by decide +kernel
theorem dX5_fits_292 : decode cX5_fits 292 = .ok (.goto 4, 3) := by decide +kernel
theorem dX5_fits_295 : decode cX5_fits 295 = .ok (.iconst 0, 1) := by decide +kernel
theorem dX5_fits_296 : decode cX5_fits 296 = .ok (.ireturn, 1) := by decide +kernel
theorem dX5_line_0 : decode cX5_line 0 = .ok (.aload_n 0, 1) := by decide +kernel
theorem dX5_line_1 : decode cX5_line 1 = .ok (.iconst 0, 1) := by decide +kernel
theorem dX5_line_2 : decode cX5_line 2 = .ok (.putfield 72, 3) := by decide +kernel
theorem dX5_line_5 : decode cX5_line 5 = .ok (.aload_n 0, 1) := by decide +kernel
theorem dX5_line_6 : decode cX5_line 6 = .ok (.iload_n 1, 1) := by decide +kernel
theorem dX5_line_7 : decode cX5_line 7 = .ok (.invokevirtual 78, 3) := by decide +kernel
theorem dX5_line_10 : decode cX5_line 10 = .ok (.ifCond .ne 6, 3) := by decide +kernel
theorem dX5_line_13 : decode cX5_line 13 = .ok (.bipush (-2), 2) := by decide +kernel
theorem dX5_line_15 : decode cX5_line 15 = .ok (.ireturn, 1) := by decide +kernel
theorem dX5_line_16 : decode cX5_line 16 = .ok (.iload_n 2, 1) := by decide +kernel
theorem dX5_line_17 : decode cX5_line 17 = .ok (.iconst 1, 1) := by decide +kernel
theorem dX5_line_18 : decode cX5_line 18 = .ok (.if_icmp .lt 33, 3) := by decide +kernel
theorem dX5_line_21 : decode cX5_line 21 = .ok (.iload_n 2, 1) := by decide +kernel
theorem dX5_line_22 : decode cX5_line 22 = .ok (.iload_n 3, 1) := by decide +kernel
theorem dX5_line_23 : decode cX5_line 23 = .ok (.ifCond .eq 8, 3) := by decide +kernel
theorem dX5_line_26 : decode cX5_line 26 = .ok (.bipush 20, 2) := by decide +kernel
theorem dX5_line_28 : decode cX5_line 28 = .ok (.goto 7, 3) := by decide +kernel
theorem dX5_line_31 : decode cX5_line 31 = .ok (.aload_n 0, 1) := by decide +kernel
theorem dX5_line_32 : decode cX5_line 32 = .ok (.getfield 62, 3) := by decide +kernel
theorem dX5_line_35 : decode cX5_line 35 = .ok (.if_icmp .gt 16, 3) := by decide +kernel
theorem dX5_line_38 : decode cX5_line 38 = .ok (.iload_n 3, 1) := by decide +kernel
theorem dX5_line_39 : decode cX5_line 39 = .ok (.ifCond .ne 15, 3) := by decide +kernel
theorem dX5_line_42 : decode cX5_line 42 = .ok (.aload_n 0, 1) := by decide +kernel
theorem dX5_line_43 : decode cX5_line 43 = .ok (.getfield 22, 3) := by decide +kernel
theorem dX5_line_46 : decode cX5_line 46 = .ok (.iload_n 1, 1) := by decide +kernel
theorem dX5_line_47 : decode cX5_line 47 = .ok (.iaload, 1) := by decide +kernel
theorem dX5_line_48 : decode cX5_line 48 = .ok (.ifCond .le 6, 3) := by decide +kernel
theorem dX5_line_51 : decode cX5_line 51 = .ok (.bipush (-4), 2) := by decide +kernel
theorem dX5_line_53 : decode cX5_line 53 = .ok (.ireturn, 1) := by decide +kernel
theorem dX5_line_54 : decode cX5_line 54 = .ok (.aload_n 0, 1) := by decide +kernel
theorem dX5_line_55 : decode cX5_line 55 = .ok (.getfield 85, 3) := by decide +kernel
theorem dX5_line_58 : decode cX5_line 58 = .ok (.ifCond .eq 6, 3) := by decide +kernel
theorem dX5_line_61 : decode cX5_line 61 = .ok (.bipush (-5), 2) := by decide +kernel
theorem dX5_line_63 : decode cX5_line 63 = .ok (.ireturn, 1) := by decide +kernel
theorem dX5_line_64 : decode cX5_line 64 = .ok (.aload_n 0, 1) := by decide +kernel
theorem dX5_line_65 : decode cX5_line 65 = .ok (.getfield 22, 3) := by decide +kernel
theorem dX5_line_68 : decode cX5_line 68 = .ok (.iload_n 1, 1) := by decide +kernel
theorem dX5_line_69 : decode cX5_line 69 = .ok (.iaload, 1) := by decide +kernel
theorem dX5_line_70 : decode cX5_line 70 = .ok (.bipush 10, 2) := by decide +kernel
theorem dX5_line_72 : decode cX5_line 72 = .ok (.if_icmp .ne 5, 3) := by decide +kernel
theorem dX5_line_75 : decode cX5_line 75 = .ok (.iconst (-1), 1) := by decide +kernel
theorem dX5_line_76 : decode cX5_line 76 = .ok (.ireturn, 1) := by decide +kernel
theorem dX5_line_77 : decode cX5_line 77 = .ok (.aload_n 0, 1) := by decide +kernel
theorem dX5_line_78 : decode cX5_line 78 = .ok (.iload_n 1, 1) := by decide +kernel
theorem dX5_line_79 : decode cX5_line 79 = .ok (.iload_n 2, 1) := by decide +kernel
theorem dX5_line_80 : decode cX5_line 80 = .ok (.iload_n 3, 1) := by decide +kernel
theorem dX5_line_81 : decode cX5_line 81 = .ok (.invokevirtual 93, 3) := by decide +kernel
theorem dX5_line_84 : decode cX5_line 84 = .ok (.ifCond .ne 5, 3) := by decide +kernel
theorem dX5_line_87 : decode cX5_line 87 = .ok (.iconst 0, 1) := by decide +kernel
theorem dX5_line_88 : decode cX5_line 88 = .ok (.ireturn, 1) := by decide +kernel
theorem dX5_line_89 : decode cX5_line 89 = .ok (.aload_n 0, 1) := by decide +kernel
theorem dX5_line_90 : decode cX5_line 90 = .ok (.getfield 25, 3) := by decide +kernel
theorem dX5_line_93 : decode cX5_line 93 = .ok (.bipush 10, 2) := by decide +kernel
theorem dX5_line_95 : decode cX5_line 95 = .ok (.iload_n 1, 1) := by decide +kernel
theorem dX5_line_96 : decode cX5_line 96 = .ok (.imul, 1) := by decide +kernel
theorem dX5_line_97 : decode cX5_line 97 = .ok (.aload_n 0, 1) := by decide +kernel
theorem dX5_line_98 : decode cX5_line 98 = .ok (.getfield 22, 3) := by decide +kernel
theorem dX5_line_101 : decode cX5_line 101 = .ok (.iload_n 1, 1) := by decide +kernel
theorem dX5_line_102 : decode cX5_line 102 = .ok (.iaload, 1) := by decide +kernel
theorem dX5_line_103 : decode cX5_line 103 = .ok (.iadd, 1) := by decide +kernel
theorem dX5_line_104 : decode cX5_line 104 = .ok (.iload_n 2, 1) := by decide +kernel
theorem dX5_line_105 : decode cX5_line 105 = .ok (.iastore, 1) := by decide +kernel
theorem dX5_line_106 : decode cX5_line 106 = .ok (.aload_n 0, 1) := by decide +kernel
theorem dX5_line_107 : decode cX5_line 107 = .ok (.getfield 22, 3) := by decide +kernel
theorem dX5_line_110 : decode cX5_line 110 = .ok (.iload_n 1, 1) := by decide +kernel
theorem dX5_line_111 : decode cX5_line 111 = .ok (.iaload, 1) := by decide +kernel
theorem dX5_line_112 : decode cX5_line 112 = .ok (.ifCond .ne 18, 3) := by decide +kernel
theorem dX5_line_115 : decode cX5_line 115 = .ok (.aload_n 0, 1) := by decide +kernel
theorem dX5_line_116 : decode cX5_line 116 = .ok (.getfield 28, 3) := by decide +kernel
theorem dX5_line_119 : decode cX5_line 119 = .ok (.iload_n 1, 1) := by decide +kernel
theorem dX5_line_120 : decode cX5_line 120 = .ok (.iload_n 3, 1) := by decide +kernel
theorem dX5_line_121 : decode cX5_line 121 = .ok (.ifCond .ne 7, 3) := by decide +kernel
theorem dX5_line_124 : decode cX5_line 124 = .ok (.iconst 1, 1) := by decide +kernel
theorem dX5_line_125 : decode cX5_line 125 = .ok (.goto 4, 3) := by decide +kernel
theorem dX5_line_128 : decode cX5_line 128 = .ok (.iconst 0, 1) := by decide +kernel
theorem dX5_line_129 : decode cX5_line 129 = .ok (.bastore, 1) := by decide +kernel
theorem dX5_line_130 : decode cX5_line 130 = .ok (.aload_n 0, 1) := by decide +kernel
theorem dX5_line_131 : decode cX5_line 131 = .ok (.getfield 22, 3) := by decide +kernel
theorem dX5_line_134 : decode cX5_line 134 = .ok (.iload_n 1, 1) := by decide +kernel
theorem dX5_line_135 : decode cX5_line 135 = .ok (.dup2, 1) := by decide +kernel
theorem dX5_line_136 : decode cX5_line 136 = .ok (.iaload, 1) := by decide +kernel
theorem dX5_line_137 : decode cX5_line 137 = .ok (.iconst 1, 1) := by decide +kernel
theorem dX5_line_138 : decode cX5_line 138 = .ok (.iadd, 1) := by decide +kernel
theorem dX5_line_139 : decode cX5_line 139 = .ok (.iastore, 1) := by decide +kernel
theorem dX5_line_140 : decode cX5_line 140 = .ok (.aload_n 0, 1) := by decide +kernel
theorem dX5_line_141 : decode cX5_line 141 = .ok (.getfield 22, 3) := by decide +kernel
theorem dX5_line_144 : decode cX5_line 144 = .ok (.iload_n 1, 1) := by decide +kernel
theorem dX5_line_145 : decode cX5_line 145 = .ok (.iaload, 1) := by decide +kernel
theorem dX5_line_146 : decode cX5_line 146 = .ok (.ireturn, 1) := by decide +kernel
theorem dX5_isOf_0 : decode cX5_isOf 0 = .ok (.iload_n 2, 1) := by decide +kernel
theorem dX5_isOf_1 : decode cX5_isOf 1 = .ok (.ifCond .eq 11, 3) := by decide +kernel
theorem dX5_isOf_4 : decode cX5_isOf 4 = .ok (.aload_n 0, 1) := by decide +kernel
theorem dX5_isOf_5 : decode cX5_isOf 5 = .ok (.iload_n 2, 1) := by decide +kernel
theorem dX5_isOf_6 : decode cX5_isOf 6 = .ok (.invokevirtual 97, 3) := by decide +kernel
theorem dX5_isOf_9 : decode cX5_isOf 9 = .ok (.ifCond .eq 5, 3) := by decide +kernel
theorem dX5_isOf_12 : decode cX5_isOf 12 = .ok (.iconst 1, 1) := by decide +kernel
theorem dX5_isOf_13 : decode cX5_isOf 13 = .ok (.ireturn, 1) := by decide +kernel
theorem dX5_isOf_14 : decode cX5_isOf 14 = .ok (.iconst 0, 1) := by decide +kernel
theorem dX5_isOf_15 : decode cX5_isOf 15 = .ok (.iload_n 2, 1) := by decide +kernel
theorem dX5_isOf_16 : decode cX5_isOf 16 = .ok (.isub, 1) := by decide +kernel
theorem dX5_isOf_17 : decode cX5_isOf 17 = .ok (.istore_n 3, 1) := by decide +kernel
theorem dX5_isOf_18 : decode cX5_isOf 18 = .ok (.iload_n 3, 1) := by decide +kernel
theorem dX5_isOf_19 : decode cX5_isOf 19 = .ok (.ifCond .le 35, 3) := by decide +kernel
theorem dX5_isOf_22 : decode cX5_isOf 22 = .ok (.iload_n 3, 1) := by decide +kernel
theorem dX5_isOf_23 : decode cX5_isOf 23 = .ok (.aload_n 0, 1) := by decide +kernel
theorem dX5_isOf_24 : decode cX5_isOf 24 = .ok (.getfield 100, 3) := by decide +kernel
theorem dX5_isOf_27 : decode cX5_isOf 27 = .ok (.if_icmp .gt 27, 3) := by decide +kernel
theorem dX5_isOf_30 : decode cX5_isOf 30 = .ok (.aload_n 0, 1) := by decide +kernel
theorem dX5_isOf_31 : decode cX5_isOf 31 = .ok (.getfield 19, 3) := by decide +kernel
theorem dX5_isOf_34 : decode cX5_isOf 34 = .ok (.aload_n 0, 1) := by decide +kernel
theorem dX5_isOf_35 : decode cX5_isOf 35 = .ok (.getfield 41, 3) := by decide +kernel
theorem dX5_isOf_38 : decode cX5_isOf 38 = .ok (.iload_n 3, 1) := by decide +kernel
theorem dX5_isOf_39 : decode cX5_isOf 39 = .ok (.iaload, 1) := by decide +kernel
theorem dX5_isOf_40 : decode cX5_isOf 40 = .ok (.iaload, 1) := by decide +kernel
theorem dX5_isOf_41 : decode cX5_isOf 41 = .ok (.aload_n 0, 1) := by decide +kernel
theorem dX5_isOf_42 : decode cX5_isOf 42 = .ok (.getfield 19, 3) := by decide +kernel
theorem dX5_isOf_45 : decode cX5_isOf 45 = .ok (.iload_n 1, 1) := by decide +kernel
theorem dX5_isOf_46 : decode cX5_isOf 46 = .ok (.iaload, 1) := by decide +kernel
theorem dX5_isOf_47 : decode cX5_isOf 47 = .ok (.if_icmp .le 7, 3) := by decide +kernel
theorem dX5_isOf_50 : decode cX5_isOf 50 = .ok (.iconst 1, 1) := by decide +kernel
theorem dX5_isOf_51 : decode cX5_isOf 51 = .ok (.goto 4, 3) := by decide +kernel
theorem dX5_isOf_54 : decode cX5_isOf 54 = .ok (.iconst 0, 1) := by decide +kernel
theorem dX5_isOf_55 : decode cX5_isOf 55 = .ok (.ireturn, 1) := by decide +kernel
theorem dX5_sum_0 : decode cX5_sum 0 = .ok (.aload_n 0, 1) := by decide +kernel
theorem dX5_sum_1 : decode cX5_sum 1 = .ok (.iconst 0, 1) := by decide +kernel
theorem dX5_sum_2 : decode cX5_sum 2 = .ok (.putfield 72, 3) := by decide +kernel
theorem dX5_sum_5 : decode cX5_sum 5 = .ok (.aload_n 0, 1) := by decide +kernel
theorem dX5_sum_6 : decode cX5_sum 6 = .ok (.iload_n 1, 1) := by decide +kernel
theorem dX5_sum_7 : decode cX5_sum 7 = .ok (.invokevirtual 78, 3) := by decide +kernel
theorem dX5_sum_10 : decode cX5_sum 10 = .ok (.ifCond .eq 13, 3) := by decide +kernel
theorem dX5_sum_13 : decode cX5_sum 13 = .ok (.aload_n 0, 1) := by decide +kernel
theorem dX5_sum_14 : decode cX5_sum 14 = .ok (.getfield 16, 3) := by decide +kernel
theorem dX5_sum_17 : decode cX5_sum 17 = .ok (.iload_n 1, 1) := by decide +kernel
theorem dX5_sum_18 : decode cX5_sum 18 = .ok (.iaload, 1) := by decide +kernel
theorem dX5_sum_19 : decode cX5_sum 19 = .ok (.iconst 4, 1) := by decide +kernel
theorem dX5_sum_20 : decode cX5_sum 20 = .ok (.if_icmp .eq 6, 3) := by decide +kernel
theorem dX5_sum_23 : decode cX5_sum 23 = .ok (.bipush (-2), 2) := by decide +kernel
theorem dX5_sum_25 : decode cX5_sum 25 = .ok (.ireturn, 1) := by decide +kernel
theorem dX5_sum_26 : decode cX5_sum 26 = .ok (.aload_n 0, 1) := by decide +kernel
theorem dX5_sum_27 : decode cX5_sum 27 = .ok (.iload_n 1, 1) := by decide +kernel
theorem dX5_sum_28 : decode cX5_sum 28 = .ok (.iload_n 2, 1) := by decide +kernel
theorem dX5_sum_29 : decode cX5_sum 29 = .ok (.invokevirtual 103, 3) := by decide +kernel
theorem dX5_sum_32 : decode cX5_sum 32 = .ok (.ifCond .eq 17, 3) := by decide +kernel
theorem dX5_sum_35 : decode cX5_sum 35 = .ok (.iload_n 3, 1) := by decide +kernel
theorem dX5_sum_36 : decode cX5_sum 36 = .ok (.ifCond .lt 13, 3) := by decide +kernel
theorem dX5_sum_39 : decode cX5_sum 39 = .ok (.iload_n 3, 1) := by decide +kernel
theorem dX5_sum_40 : decode cX5_sum 40 = .ok (.aload_n 0, 1) := by decide +kernel
theorem dX5_sum_41 : decode cX5_sum 41 = .ok (.getfield 19, 3) := by decide +kernel
theorem dX5_sum_44 : decode cX5_sum 44 = .ok (.iload_n 1, 1) := by decide +kernel
theorem dX5_sum_45 : decode cX5_sum 45 = .ok (.iaload, 1) := by decide +kernel
theorem dX5_sum_46 : decode cX5_sum 46 = .ok (.if_icmp .le 6, 3) := by decide +kernel
theorem dX5_sum_49 : decode cX5_sum 49 = .ok (.bipush (-4), 2) := by decide +kernel
theorem dX5_sum_51 : decode cX5_sum 51 = .ok (.ireturn, 1) := by decide +kernel
theorem dX5_sum_52 : decode cX5_sum 52 = .ok (.aload_n 0, 1) := by decide +kernel
theorem dX5_sum_53 : decode cX5_sum 53 = .ok (.getfield 85, 3) := by decide +kernel
theorem dX5_sum_56 : decode cX5_sum 56 = .ok (.ifCond .eq 6, 3) := by decide +kernel
theorem dX5_sum_59 : decode cX5_sum 59 = .ok (.bipush (-5), 2) := by decide +kernel
theorem dX5_sum_61 : decode cX5_sum 61 = .ok (.ireturn, 1) := by decide +kernel
theorem dX5_sum_62 : decode cX5_sum 62 = .ok (.aload_n 0, 1) := by decide +kernel
theorem dX5_sum_63 : decode cX5_sum 63 = .ok (.getfield 100, 3) := by decide +kernel
theorem dX5_sum_66 : decode cX5_sum 66 = .ok (.bipush 20, 2) := by decide +kernel
theorem dX5_sum_68 : decode cX5_sum 68 = .ok (.if_icmp .ne 5, 3) := by decide +kernel
theorem dX5_sum_71 : decode cX5_sum 71 = .ok (.iconst (-1), 1) := by decide +kernel
theorem dX5_sum_72 : decode cX5_sum 72 = .ok (.ireturn, 1) := by decide +kernel
theorem dX5_sum_73 : decode cX5_sum 73 = .ok (.aload_n 0, 1) := by decide +kernel
theorem dX5_sum_74 : decode cX5_sum 74 = .ok (.dup, 1) := by decide +kernel
theorem dX5_sum_75 : decode cX5_sum 75 = .ok (.getfield 100, 3) := by decide +kernel
theorem dX5_sum_78 : decode cX5_sum 78 = .ok (.iconst 1, 1) := by decide +kernel
theorem dX5_sum_79 : decode cX5_sum 79 = .ok (.iadd, 1) := by decide +kernel
theorem dX5_sum_80 : decode cX5_sum 80 = .ok (.putfield 100, 3) := by decide +kernel
theorem dX5_sum_83 : decode cX5_sum 83 = .ok (.aload_n 0, 1) := by decide +kernel
theorem dX5_sum_84 : decode cX5_sum 84 = .ok (.getfield 41, 3) := by decide +kernel
theorem dX5_sum_87 : decode cX5_sum 87 = .ok (.aload_n 0, 1) := by decide +kernel
theorem dX5_sum_88 : decode cX5_sum 88 = .ok (.getfield 100, 3) := by decide +kernel
theorem dX5_sum_91 : decode cX5_sum 91 = .ok (.iload_n 1, 1) := by decide +kernel
theorem dX5_sum_92 : decode cX5_sum 92 = .ok (.iastore, 1) := by decide +kernel
theorem dX5_sum_93 : decode cX5_sum 93 = .ok (.aload_n 0, 1) := by decide +kernel
theorem dX5_sum_94 : decode cX5_sum 94 = .ok (.getfield 44, 3) := by decide +kernel
theorem dX5_sum_97 : decode cX5_sum 97 = .ok (.aload_n 0, 1) := by decide +kernel
theorem dX5_sum_98 : decode cX5_sum 98 = .ok (.getfield 100, 3) := by decide +kernel
theorem dX5_sum_101 : decode cX5_sum 101 = .ok (.iload_n 2, 1) := by decide +kernel
theorem dX5_sum_102 : decode cX5_sum 102 = .ok (.iastore, 1) := by decide +kernel
theorem dX5_sum_103 : decode cX5_sum 103 = .ok (.aload_n 0, 1) := by decide +kernel
theorem dX5_sum_104 : decode cX5_sum 104 = .ok (.getfield 47, 3) := by decide +kernel
theorem dX5_sum_107 : decode cX5_sum 107 = .ok (.aload_n 0, 1) := by decide +kernel
theorem dX5_sum_108 : decode cX5_sum 108 = .ok (.getfield 100, 3) := by decide +kernel
theorem dX5_sum_111 : decode cX5_sum 111 = .ok (.iload_n 3, 1) := by decide +kernel
theorem dX5_sum_112 : decode cX5_sum 112 = .ok (.iastore, 1) := by decide +kernel
theorem dX5_sum_113 : decode cX5_sum 113 = .ok (.aload_n 0, 1) := by decide +kernel
theorem dX5_sum_114 : decode cX5_sum 114 = .ok (.getfield 50, 3) := by decide +kernel
theorem dX5_sum_117 : decode cX5_sum 117 = .ok (.aload_n 0, 1) := by decide +kernel
theorem dX5_sum_118 : decode cX5_sum 118 = .ok (.getfield 100, 3) := by decide +kernel
theorem dX5_sum_121 : decode cX5_sum 121 = .ok (.lconst 0, 1) := by decide +kernel
theorem dX5_sum_122 : decode cX5_sum 122 = .ok (.lastore, 1) := by decide +kernel
theorem dX5_sum_123 : decode cX5_sum 123 = .ok (.aload_n 0, 1) := by decide +kernel
theorem dX5_sum_124 : decode cX5_sum 124 = .ok (.getfield 100, 3) := by decide +kernel
theorem dX5_sum_127 : decode cX5_sum 127 = .ok (.ireturn, 1) := by decide +kernel
theorem dX5_control_0 : decode cX5_control 0 = .ok (.aload_n 0, 1) := by decide +kernel
theorem dX5_control_1 : decode cX5_control 1 = .ok (.iconst 0, 1) := by decide +kernel
theorem dX5_control_2 : decode cX5_control 2 = .ok (.putfield 72, 3) := by decide +kernel
theorem dX5_control_5 : decode cX5_control 5 = .ok (.aload_n 0, 1) := by decide +kernel
theorem dX5_control_6 : decode cX5_control 6 = .ok (.getfield 85, 3) := by decide +kernel
theorem dX5_control_9 : decode cX5_control 9 = .ok (.ifCond .eq 6, 3) := by decide +kernel
theorem dX5_control_12 : decode cX5_control 12 = .ok (.bipush (-5), 2) := by decide +kernel
theorem dX5_control_14 : decode cX5_control 14 = .ok (.ireturn, 1) := by decide +kernel
theorem dX5_control_15 : decode cX5_control 15 = .ok (.aload_n 0, 1) := by decide +kernel
theorem dX5_control_16 : decode cX5_control 16 = .ok (.getfield 82, 3) := by decide +kernel
theorem dX5_control_19 : decode cX5_control 19 = .ok (.iconst 5, 1) := by decide +kernel
theorem dX5_control_20 : decode cX5_control 20 = .ok (.if_icmp .ne 5, 3) := by decide +kernel
theorem dX5_control_23 : decode cX5_control 23 = .ok (.iconst (-1), 1) := by decide +kernel
theorem dX5_control_24 : decode cX5_control 24 = .ok (.ireturn, 1) := by decide +kernel
theorem dX5_control_25 : decode cX5_control 25 = .ok (.aload_n 0, 1) := by decide +kernel
theorem dX5_control_26 : decode cX5_control 26 = .ok (.dup, 1) := by decide +kernel
theorem dX5_control_27 : decode cX5_control 27 = .ok (.getfield 82, 3) := by decide +kernel
theorem dX5_control_30 : decode cX5_control 30 = .ok (.iconst 1, 1) := by decide +kernel
theorem dX5_control_31 : decode cX5_control 31 = .ok (.iadd, 1) := by decide +kernel
theorem dX5_control_32 : decode cX5_control 32 = .ok (.putfield 82, 3) := by decide +kernel
theorem dX5_control_35 : decode cX5_control 35 = .ok (.aload_n 0, 1) := by decide +kernel
theorem dX5_control_36 : decode cX5_control 36 = .ok (.getfield 7, 3) := by decide +kernel
theorem dX5_control_39 : decode cX5_control 39 = .ok (.aload_n 0, 1) := by decide +kernel
theorem dX5_control_40 : decode cX5_control 40 = .ok (.getfield 82, 3) := by decide +kernel
theorem dX5_control_43 : decode cX5_control 43 = .ok (.iload_n 1, 1) := by decide +kernel
theorem dX5_control_44 : decode cX5_control 44 = .ok (.iastore, 1) := by decide +kernel
theorem dX5_control_45 : decode cX5_control 45 = .ok (.aload_n 0, 1) := by decide +kernel
theorem dX5_control_46 : decode cX5_control 46 = .ok (.getfield 82, 3) := by decide +kernel
theorem dX5_control_49 : decode cX5_control 49 = .ok (.ireturn, 1) := by decide +kernel
theorem dX5_set_0 : decode cX5_set 0 = .ok (.aload_n 0, 1) := by decide +kernel
theorem dX5_set_1 : decode cX5_set 1 = .ok (.iconst 0, 1) := by decide +kernel
theorem dX5_set_2 : decode cX5_set 2 = .ok (.putfield 72, 3) := by decide +kernel
theorem dX5_set_5 : decode cX5_set 5 = .ok (.iload_n 1, 1) := by decide +kernel
theorem dX5_set_6 : decode cX5_set 6 = .ok (.iconst 1, 1) := by decide +kernel
theorem dX5_set_7 : decode cX5_set 7 = .ok (.if_icmp .lt 11, 3) := by decide +kernel
theorem dX5_set_10 : decode cX5_set 10 = .ok (.iload_n 1, 1) := by decide +kernel
theorem dX5_set_11 : decode cX5_set 11 = .ok (.aload_n 0, 1) := by decide +kernel
theorem dX5_set_12 : decode cX5_set 12 = .ok (.getfield 82, 3) := by decide +kernel
theorem dX5_set_15 : decode cX5_set 15 = .ok (.if_icmp .le 6, 3) := by decide +kernel
theorem dX5_set_18 : decode cX5_set 18 = .ok (.bipush (-4), 2) := by decide +kernel
theorem dX5_set_20 : decode cX5_set 20 = .ok (.ireturn, 1) := by decide +kernel
theorem dX5_set_21 : decode cX5_set 21 = .ok (.aload_n 0, 1) := by decide +kernel
theorem dX5_set_22 : decode cX5_set 22 = .ok (.getfield 7, 3) := by decide +kernel
theorem dX5_set_25 : decode cX5_set 25 = .ok (.iload_n 1, 1) := by decide +kernel
theorem dX5_set_26 : decode cX5_set 26 = .ok (.iaload, 1) := by decide +kernel
theorem dX5_set_27 : decode cX5_set 27 = .ok (.istore_n 3, 1) := by decide +kernel
theorem dX5_set_28 : decode cX5_set 28 = .ok (.aload_n 0, 1) := by decide +kernel
theorem dX5_set_29 : decode cX5_set 29 = .ok (.getfield 7, 3) := by decide +kernel
theorem dX5_set_32 : decode cX5_set 32 = .ok (.iload_n 1, 1) := by decide +kernel
theorem dX5_set_33 : decode cX5_set 33 = .ok (.iload_n 2, 1) := by decide +kernel
theorem dX5_set_34 : decode cX5_set 34 = .ok (.iastore, 1) := by decide +kernel
theorem dX5_set_35 : decode cX5_set 35 = .ok (.iload_n 3, 1) := by decide +kernel
theorem dX5_set_36 : decode cX5_set 36 = .ok (.ireturn, 1) := by decide +kernel
theorem dX5_suppress_0 : decode cX5_suppress 0 = .ok (.aload_n 0, 1) := by decide +kernel
theorem dX5_suppress_1 : decode cX5_suppress 1 = .ok (.iconst 0, 1) := by decide +kernel
theorem dX5_suppress_2 : decode cX5_suppress 2 = .ok (.putfield 72, 3) := by decide +kernel
theorem dX5_suppress_5 : decode cX5_suppress 5 = .ok (.aload_n 0, 1) := by decide +kernel
theorem dX5_suppress_6 : decode cX5_suppress 6 = .ok (.iload_n 1, 1) := by decide +kernel
theorem dX5_suppress_7 : decode cX5_suppress 7 = .ok (.invokevirtual 78, 3) := by decide +kernel
theorem dX5_suppress_10 : decode cX5_suppress 10 = .ok (.ifCond .ne 6, 3) := by decide +kernel
theorem dX5_suppress_13 : decode cX5_suppress 13 = .ok (.bipush (-2), 2) := by decide +kernel
theorem dX5_suppress_15 : decode cX5_suppress 15 = .ok (.ireturn, 1) := by decide +kernel
theorem dX5_suppress_16 : decode cX5_suppress 16 = .ok (.aload_n 0, 1) := by decide +kernel
theorem dX5_suppress_17 : decode cX5_suppress 17 = .ok (.getfield 32, 3) := by decide +kernel
theorem dX5_suppress_20 : decode cX5_suppress 20 = .ok (.iload_n 1, 1) := by decide +kernel
theorem dX5_suppress_21 : decode cX5_suppress 21 = .ok (.baload, 1) := by decide +kernel
theorem dX5_suppress_22 : decode cX5_suppress 22 = .ok (.istore_n 2, 1) := by decide +kernel
theorem dX5_suppress_23 : decode cX5_suppress 23 = .ok (.aload_n 0, 1) := by decide +kernel
theorem dX5_suppress_24 : decode cX5_suppress 24 = .ok (.getfield 32, 3) := by decide +kernel
theorem dX5_suppress_27 : decode cX5_suppress 27 = .ok (.iload_n 1, 1) := by decide +kernel
theorem dX5_suppress_28 : decode cX5_suppress 28 = .ok (.iconst 1, 1) := by decide +kernel
theorem dX5_suppress_29 : decode cX5_suppress 29 = .ok (.bastore, 1) := by decide +kernel
theorem dX5_suppress_30 : decode cX5_suppress 30 = .ok (.iload_n 2, 1) := by decide +kernel
theorem dX5_suppress_31 : decode cX5_suppress 31 = .ok (.ifCond .eq 7, 3) := by decide +kernel
theorem dX5_suppress_34 : decode cX5_suppress 34 = .ok (.iconst 0, 1) := by decide +kernel
theorem dX5_suppress_35 : decode cX5_suppress 35 = .ok (.goto 4, 3) := by decide +kernel
theorem dX5_suppress_38 : decode cX5_suppress 38 = .ok (.iconst 1, 1) := by decide +kernel
theorem dX5_suppress_39 : decode cX5_suppress 39 = .ok (.ireturn, 1) := by decide +kernel
theorem dX5_indicate_0 : decode cX5_indicate 0 = .ok (.aload_n 0, 1) := by decide +kernel
theorem dX5_indicate_1 : decode cX5_indicate 1 = .ok (.iconst 0, 1) := by decide +kernel
theorem dX5_indicate_2 : decode cX5_indicate 2 = .ok (.putfield 72, 3) := by decide +kernel
theorem dX5_indicate_5 : decode cX5_indicate 5 = .ok (.aload_n 0, 1) := by decide +kernel
theorem dX5_indicate_6 : decode cX5_indicate 6 = .ok (.iload_n 1, 1) := by decide +kernel
theorem dX5_indicate_7 : decode cX5_indicate 7 = .ok (.invokevirtual 97, 3) := by decide +kernel
theorem dX5_indicate_10 : decode cX5_indicate 10 = .ok (.ifCond .ne 6, 3) := by decide +kernel
theorem dX5_indicate_13 : decode cX5_indicate 13 = .ok (.bipush (-2), 2) := by decide +kernel
theorem dX5_indicate_15 : decode cX5_indicate 15 = .ok (.ireturn, 1) := by decide +kernel
theorem dX5_indicate_16 : decode cX5_indicate 16 = .ok (.aload_n 0, 1) := by decide +kernel
theorem dX5_indicate_17 : decode cX5_indicate 17 = .ok (.getfield 35, 3) := by decide +kernel
end
section
theorem dX5_indicate_20 : decode cX5_indicate 20 = .ok (.iload_n 1, 1) := by decide +kernel
theorem dX5_indicate_21 : decode cX5_indicate 21 = .ok (.baload, 1) := by decide +kernel
theorem dX5_indicate_22 : decode cX5_indicate 22 = .ok (.istore_n 2, 1) := by decide +kernel
theorem dX5_indicate_23 : decode cX5_indicate 23 = .ok (.aload_n 0, 1) := by decide +kernel
theorem dX5_indicate_24 : decode cX5_indicate 24 = .ok (.getfield 35, 3) := by decide +kernel
theorem dX5_indicate_27 : decode cX5_indicate 27 = .ok (.iload_n 1, 1) := by decide +kernel
theorem dX5_indicate_28 : decode cX5_indicate 28 = .ok (.iload_n 2, 1) := by decide +kernel
theorem dX5_indicate_29 : decode cX5_indicate 29 = .ok (.ifCond .ne 7, 3) := by decide +kernel
theorem dX5_indicate_32 : decode cX5_indicate 32 = .ok (.iconst 1, 1) := by decide +kernel
theorem dX5_indicate_33 : decode cX5_indicate 33 = .ok (.goto 4, 3) := by decide +kernel
theorem dX5_indicate_36 : decode cX5_indicate 36 = .ok (.iconst 0, 1) := by decide +kernel
theorem dX5_indicate_37 : decode cX5_indicate 37 = .ok (.bastore, 1) := by decide +kernel
theorem dX5_indicate_38 : decode cX5_indicate 38 = .ok (.iload_n 2, 1) := by decide +kernel
theorem dX5_indicate_39 : decode cX5_indicate 39 = .ok (.ifCond .eq 7, 3) := by decide +kernel
theorem dX5_indicate_42 : decode cX5_indicate 42 = .ok (.iconst 1, 1) := by decide +kernel
theorem dX5_indicate_43 : decode cX5_indicate 43 = .ok (.goto 4, 3) := by decide +kernel
theorem dX5_indicate_46 : decode cX5_indicate 46 = .ok (.iconst 0, 1) := by decide +kernel
theorem dX5_indicate_47 : decode cX5_indicate 47 = .ok (.ireturn, 1) := by decide +kernel
theorem dX5_put_0 : decode cX5_put 0 = .ok (.aload_n 0, 1) := by decide +kernel
theorem dX5_put_1 : decode cX5_put 1 = .ok (.getfield 55, 3) := by decide +kernel
theorem dX5_put_4 : decode cX5_put 4 = .ok (.iconst 5, 1) := by decide +kernel
theorem dX5_put_5 : decode cX5_put 5 = .ok (.aload_n 0, 1) := by decide +kernel
theorem dX5_put_6 : decode cX5_put 6 = .ok (.getfield 107, 3) := by decide +kernel
theorem dX5_put_9 : decode cX5_put 9 = .ok (.imul, 1) := by decide +kernel
theorem dX5_put_10 : decode cX5_put 10 = .ok (.aload_n 0, 1) := by decide +kernel
theorem dX5_put_11 : decode cX5_put 11 = .ok (.getfield 110, 3) := by decide +kernel
theorem dX5_put_14 : decode cX5_put 14 = .ok (.iastore, 1) := by decide +kernel
theorem dX5_put_15 : decode cX5_put 15 = .ok (.aload_n 0, 1) := by decide +kernel
theorem dX5_put_16 : decode cX5_put 16 = .ok (.getfield 55, 3) := by decide +kernel
theorem dX5_put_19 : decode cX5_put 19 = .ok (.iconst 5, 1) := by decide +kernel
theorem dX5_put_20 : decode cX5_put 20 = .ok (.aload_n 0, 1) := by decide +kernel
theorem dX5_put_21 : decode cX5_put 21 = .ok (.getfield 107, 3) := by decide +kernel
theorem dX5_put_24 : decode cX5_put 24 = .ok (.imul, 1) := by decide +kernel
theorem dX5_put_25 : decode cX5_put 25 = .ok (.iconst 1, 1) := by decide +kernel
theorem dX5_put_26 : decode cX5_put 26 = .ok (.iadd, 1) := by decide +kernel
theorem dX5_put_27 : decode cX5_put 27 = .ok (.iload_n 3, 1) := by decide +kernel
theorem dX5_put_28 : decode cX5_put 28 = .ok (.iastore, 1) := by decide +kernel
theorem dX5_put_29 : decode cX5_put 29 = .ok (.aload_n 0, 1) := by decide +kernel
theorem dX5_put_30 : decode cX5_put 30 = .ok (.getfield 55, 3) := by decide +kernel
theorem dX5_put_33 : decode cX5_put 33 = .ok (.iconst 5, 1) := by decide +kernel
theorem dX5_put_34 : decode cX5_put 34 = .ok (.aload_n 0, 1) := by decide +kernel
theorem dX5_put_35 : decode cX5_put 35 = .ok (.getfield 107, 3) := by decide +kernel
theorem dX5_put_38 : decode cX5_put 38 = .ok (.imul, 1) := by decide +kernel
theorem dX5_put_39 : decode cX5_put 39 = .ok (.iconst 2, 1) := by decide +kernel
theorem dX5_put_40 : decode cX5_put 40 = .ok (.iadd, 1) := by decide +kernel
theorem dX5_put_41 : decode cX5_put 41 = .ok (.iload_n 1, 1) := by decide +kernel
theorem dX5_put_42 : decode cX5_put 42 = .ok (.iastore, 1) := by decide +kernel
theorem dX5_put_43 : decode cX5_put 43 = .ok (.aload_n 0, 1) := by decide +kernel
theorem dX5_put_44 : decode cX5_put 44 = .ok (.getfield 55, 3) := by decide +kernel
theorem dX5_put_47 : decode cX5_put 47 = .ok (.iconst 5, 1) := by decide +kernel
theorem dX5_put_48 : decode cX5_put 48 = .ok (.aload_n 0, 1) := by decide +kernel
theorem dX5_put_49 : decode cX5_put 49 = .ok (.getfield 107, 3) := by decide +kernel
theorem dX5_put_52 : decode cX5_put 52 = .ok (.imul, 1) := by decide +kernel
theorem dX5_put_53 : decode cX5_put 53 = .ok (.iconst 3, 1) := by decide +kernel
theorem dX5_put_54 : decode cX5_put 54 = .ok (.iadd, 1) := by decide +kernel
theorem dX5_put_55 : decode cX5_put 55 = .ok (.iload_n 2, 1) := by decide +kernel
theorem dX5_put_56 : decode cX5_put 56 = .ok (.iastore, 1) := by decide +kernel
theorem dX5_put_57 : decode cX5_put 57 = .ok (.aload_n 0, 1) := by decide +kernel
theorem dX5_put_58 : decode cX5_put 58 = .ok (.getfield 55, 3) := by decide +kernel
theorem dX5_put_61 : decode cX5_put 61 = .ok (.iconst 5, 1) := by decide +kernel
theorem dX5_put_62 : decode cX5_put 62 = .ok (.aload_n 0, 1) := by decide +kernel
theorem dX5_put_63 : decode cX5_put 63 = .ok (.getfield 107, 3) := by decide +kernel
theorem dX5_put_66 : decode cX5_put 66 = .ok (.imul, 1) := by decide +kernel
theorem dX5_put_67 : decode cX5_put 67 = .ok (.iconst 4, 1) := by decide +kernel
theorem dX5_put_68 : decode cX5_put 68 = .ok (.iadd, 1) := by decide +kernel
theorem dX5_put_69 : decode cX5_put 69 = .ok (.iload 4, 2) := by decide +kernel
theorem dX5_put_71 : decode cX5_put 71 = .ok (.iastore, 1) := by decide +kernel
theorem dX5_put_72 : decode cX5_put 72 = .ok (.aload_n 0, 1) := by decide +kernel
theorem dX5_put_73 : decode cX5_put 73 = .ok (.dup, 1) := by decide +kernel
theorem dX5_put_74 : decode cX5_put 74 = .ok (.getfield 107, 3) := by decide +kernel
theorem dX5_put_77 : decode cX5_put 77 = .ok (.iconst 1, 1) := by decide +kernel
theorem dX5_put_78 : decode cX5_put 78 = .ok (.iadd, 1) := by decide +kernel
theorem dX5_put_79 : decode cX5_put 79 = .ok (.putfield 107, 3) := by decide +kernel
theorem dX5_put_82 : decode cX5_put 82 = .ok (.aload_n 0, 1) := by decide +kernel
theorem dX5_put_83 : decode cX5_put 83 = .ok (.iload_n 3, 1) := by decide +kernel
theorem dX5_put_84 : decode cX5_put 84 = .ok (.putfield 113, 3) := by decide +kernel
theorem dX5_put_87 : decode cX5_put 87 = .ok (.return_, 1) := by decide +kernel
theorem dX5_isOn_0 : decode cX5_isOn 0 = .ok (.iload_n 1, 1) := by decide +kernel
theorem dX5_isOn_1 : decode cX5_isOn 1 = .ok (.ifCond .ne 5, 3) := by decide +kernel
theorem dX5_isOn_4 : decode cX5_isOn 4 = .ok (.iconst 0, 1) := by decide +kernel
theorem dX5_isOn_5 : decode cX5_isOn 5 = .ok (.ireturn, 1) := by decide +kernel
theorem dX5_isOn_6 : decode cX5_isOn 6 = .ok (.aload_n 0, 1) := by decide +kernel
theorem dX5_isOn_7 : decode cX5_isOn 7 = .ok (.getfield 32, 3) := by decide +kernel
theorem dX5_isOn_10 : decode cX5_isOn 10 = .ok (.iload_n 1, 1) := by decide +kernel
theorem dX5_isOn_11 : decode cX5_isOn 11 = .ok (.baload, 1) := by decide +kernel
theorem dX5_isOn_12 : decode cX5_isOn 12 = .ok (.istore_n 2, 1) := by decide +kernel
theorem dX5_isOn_13 : decode cX5_isOn 13 = .ok (.aload_n 0, 1) := by decide +kernel
theorem dX5_isOn_14 : decode cX5_isOn 14 = .ok (.getfield 32, 3) := by decide +kernel
theorem dX5_isOn_17 : decode cX5_isOn 17 = .ok (.iload_n 1, 1) := by decide +kernel
theorem dX5_isOn_18 : decode cX5_isOn 18 = .ok (.iconst 0, 1) := by decide +kernel
theorem dX5_isOn_19 : decode cX5_isOn 19 = .ok (.bastore, 1) := by decide +kernel
theorem dX5_isOn_20 : decode cX5_isOn 20 = .ok (.iload_n 2, 1) := by decide +kernel
theorem dX5_isOn_21 : decode cX5_isOn 21 = .ok (.ifCond .ne 16, 3) := by decide +kernel
theorem dX5_isOn_24 : decode cX5_isOn 24 = .ok (.aload_n 0, 1) := by decide +kernel
theorem dX5_isOn_25 : decode cX5_isOn 25 = .ok (.getfield 22, 3) := by decide +kernel
theorem dX5_isOn_28 : decode cX5_isOn 28 = .ok (.iload_n 1, 1) := by decide +kernel
theorem dX5_isOn_29 : decode cX5_isOn 29 = .ok (.iaload, 1) := by decide +kernel
theorem dX5_isOn_30 : decode cX5_isOn 30 = .ok (.ifCond .le 7, 3) := by decide +kernel
theorem dX5_isOn_33 : decode cX5_isOn 33 = .ok (.iconst 1, 1) := by decide +kernel
theorem dX5_isOn_34 : decode cX5_isOn 34 = .ok (.goto 4, 3) := by decide +kernel
theorem dX5_isOn_37 : decode cX5_isOn 37 = .ok (.iconst 0, 1) := by decide +kernel
theorem dX5_isOn_38 : decode cX5_isOn 38 = .ok (.ireturn, 1) := by decide +kernel
theorem dX5_putAll_0 : decode cX5_putAll 0 = .ok (.iload_n 2, 1) := by decide +kernel
theorem dX5_putAll_1 : decode cX5_putAll 1 = .ok (.istore 4, 2) := by decide +kernel
theorem dX5_putAll_3 : decode cX5_putAll 3 = .ok (.iconst 0, 1) := by decide +kernel
theorem dX5_putAll_4 : decode cX5_putAll 4 = .ok (.istore 5, 2) := by decide +kernel
theorem dX5_putAll_6 : decode cX5_putAll 6 = .ok (.iload 5, 2) := by decide +kernel
theorem dX5_putAll_8 : decode cX5_putAll 8 = .ok (.aload_n 0, 1) := by decide +kernel
theorem dX5_putAll_9 : decode cX5_putAll 9 = .ok (.getfield 22, 3) := by decide +kernel
theorem dX5_putAll_12 : decode cX5_putAll 12 = .ok (.iload_n 1, 1) := by decide +kernel
theorem dX5_putAll_13 : decode cX5_putAll 13 = .ok (.iaload, 1) := by decide +kernel
theorem dX5_putAll_14 : decode cX5_putAll 14 = .ok (.if_icmp .ge 45, 3) := by decide +kernel
theorem dX5_putAll_17 : decode cX5_putAll 17 = .ok (.iload 4, 2) := by decide +kernel
theorem dX5_putAll_19 : decode cX5_putAll 19 = .ok (.iload 5, 2) := by decide +kernel
theorem dX5_putAll_21 : decode cX5_putAll 21 = .ok (.ifCond .ne 7, 3) := by decide +kernel
theorem dX5_putAll_24 : decode cX5_putAll 24 = .ok (.iconst 0, 1) := by decide +kernel
theorem dX5_putAll_25 : decode cX5_putAll 25 = .ok (.goto 15, 3) := by decide +kernel
theorem dX5_putAll_28 : decode cX5_putAll 28 = .ok (.aload_n 0, 1) := by decide +kernel
theorem dX5_putAll_29 : decode cX5_putAll 29 = .ok (.getfield 25, 3) := by decide +kernel
theorem dX5_putAll_32 : decode cX5_putAll 32 = .ok (.bipush 10, 2) := by decide +kernel
theorem dX5_putAll_34 : decode cX5_putAll 34 = .ok (.iload_n 1, 1) := by decide +kernel
theorem dX5_putAll_35 : decode cX5_putAll 35 = .ok (.imul, 1) := by decide +kernel
theorem dX5_putAll_36 : decode cX5_putAll 36 = .ok (.iload 5, 2) := by decide +kernel
theorem dX5_putAll_38 : decode cX5_putAll 38 = .ok (.iadd, 1) := by decide +kernel
theorem dX5_putAll_39 : decode cX5_putAll 39 = .ok (.iaload, 1) := by decide +kernel
theorem dX5_putAll_40 : decode cX5_putAll 40 = .ok (.iadd, 1) := by decide +kernel
theorem dX5_putAll_41 : decode cX5_putAll 41 = .ok (.istore 4, 2) := by decide +kernel
theorem dX5_putAll_43 : decode cX5_putAll 43 = .ok (.aload_n 0, 1) := by decide +kernel
theorem dX5_putAll_44 : decode cX5_putAll 44 = .ok (.iload_n 1, 1) := by decide +kernel
theorem dX5_putAll_45 : decode cX5_putAll 45 = .ok (.iload 5, 2) := by decide +kernel
theorem dX5_putAll_47 : decode cX5_putAll 47 = .ok (.iload 4, 2) := by decide +kernel
theorem dX5_putAll_49 : decode cX5_putAll 49 = .ok (.iload_n 3, 1) := by decide +kernel
theorem dX5_putAll_50 : decode cX5_putAll 50 = .ok (.invokevirtual 116, 3) := by decide +kernel
theorem dX5_putAll_53 : decode cX5_putAll 53 = .ok (.iinc 5 1, 3) := by decide +kernel
theorem dX5_putAll_56 : decode cX5_putAll 56 = .ok (.goto (-50), 3) := by decide +kernel
theorem dX5_putAll_59 : decode cX5_putAll 59 = .ok (.return_, 1) := by decide +kernel
theorem dX5_putFrom_0 : decode cX5_putFrom 0 = .ok (.aload_n 0, 1) := by decide +kernel
theorem dX5_putFrom_1 : decode cX5_putFrom 1 = .ok (.iload_n 1, 1) := by decide +kernel
theorem dX5_putFrom_2 : decode cX5_putFrom 2 = .ok (.aload_n 0, 1) := by decide +kernel
theorem dX5_putFrom_3 : decode cX5_putFrom 3 = .ok (.getfield 28, 3) := by decide +kernel
theorem dX5_putFrom_6 : decode cX5_putFrom 6 = .ok (.iload_n 1, 1) := by decide +kernel
theorem dX5_putFrom_7 : decode cX5_putFrom 7 = .ok (.baload, 1) := by decide +kernel
theorem dX5_putFrom_8 : decode cX5_putFrom 8 = .ok (.ifCond .eq 15, 3) := by decide +kernel
theorem dX5_putFrom_11 : decode cX5_putFrom 11 = .ok (.aload_n 0, 1) := by decide +kernel
theorem dX5_putFrom_12 : decode cX5_putFrom 12 = .ok (.getfield 25, 3) := by decide +kernel
theorem dX5_putFrom_15 : decode cX5_putFrom 15 = .ok (.bipush 10, 2) := by decide +kernel
theorem dX5_putFrom_17 : decode cX5_putFrom 17 = .ok (.iload_n 1, 1) := by decide +kernel
theorem dX5_putFrom_18 : decode cX5_putFrom 18 = .ok (.imul, 1) := by decide +kernel
theorem dX5_putFrom_19 : decode cX5_putFrom 19 = .ok (.iaload, 1) := by decide +kernel
theorem dX5_putFrom_20 : decode cX5_putFrom 20 = .ok (.goto 14, 3) := by decide +kernel
theorem dX5_putFrom_23 : decode cX5_putFrom 23 = .ok (.iload_n 2, 1) := by decide +kernel
theorem dX5_putFrom_24 : decode cX5_putFrom 24 = .ok (.aload_n 0, 1) := by decide +kernel
theorem dX5_putFrom_25 : decode cX5_putFrom 25 = .ok (.getfield 25, 3) := by decide +kernel
theorem dX5_putFrom_28 : decode cX5_putFrom 28 = .ok (.bipush 10, 2) := by decide +kernel
theorem dX5_putFrom_30 : decode cX5_putFrom 30 = .ok (.iload_n 1, 1) := by decide +kernel
theorem dX5_putFrom_31 : decode cX5_putFrom 31 = .ok (.imul, 1) := by decide +kernel
theorem dX5_putFrom_32 : decode cX5_putFrom 32 = .ok (.iaload, 1) := by decide +kernel
theorem dX5_putFrom_33 : decode cX5_putFrom 33 = .ok (.iadd, 1) := by decide +kernel
theorem dX5_putFrom_34 : decode cX5_putFrom 34 = .ok (.iload_n 3, 1) := by decide +kernel
theorem dX5_putFrom_35 : decode cX5_putFrom 35 = .ok (.invokevirtual 120, 3) := by decide +kernel
theorem dX5_putFrom_38 : decode cX5_putFrom 38 = .ok (.return_, 1) := by decide +kernel
theorem dX5_alone_0 : decode cX5_alone 0 = .ok (.aload_n 0, 1) := by decide +kernel
theorem dX5_alone_1 : decode cX5_alone 1 = .ok (.iload_n 1, 1) := by decide +kernel
theorem dX5_alone_2 : decode cX5_alone 2 = .ok (.iconst 0, 1) := by decide +kernel
theorem dX5_alone_3 : decode cX5_alone 3 = .ok (.invokevirtual 89, 3) := by decide +kernel
theorem dX5_alone_6 : decode cX5_alone 6 = .ok (.istore_n 2, 1) := by decide +kernel
theorem dX5_alone_7 : decode cX5_alone 7 = .ok (.aload_n 0, 1) := by decide +kernel
theorem dX5_alone_8 : decode cX5_alone 8 = .ok (.iload_n 2, 1) := by decide +kernel
theorem dX5_alone_9 : decode cX5_alone 9 = .ok (.invokevirtual 124, 3) := by decide +kernel
theorem dX5_alone_12 : decode cX5_alone 12 = .ok (.ifCond .ne 4, 3) := by decide +kernel
theorem dX5_alone_15 : decode cX5_alone 15 = .ok (.return_, 1) := by decide +kernel
theorem dX5_alone_16 : decode cX5_alone 16 = .ok (.aload_n 0, 1) := by decide +kernel
theorem dX5_alone_17 : decode cX5_alone 17 = .ok (.dup, 1) := by decide +kernel
theorem dX5_alone_18 : decode cX5_alone 18 = .ok (.getfield 110, 3) := by decide +kernel
theorem dX5_alone_21 : decode cX5_alone 21 = .ok (.iconst 1, 1) := by decide +kernel
theorem dX5_alone_22 : decode cX5_alone 22 = .ok (.iadd, 1) := by decide +kernel
theorem dX5_alone_23 : decode cX5_alone 23 = .ok (.putfield 110, 3) := by decide +kernel
theorem dX5_alone_26 : decode cX5_alone 26 = .ok (.aload_n 0, 1) := by decide +kernel
theorem dX5_alone_27 : decode cX5_alone 27 = .ok (.iconst 0, 1) := by decide +kernel
theorem dX5_alone_28 : decode cX5_alone 28 = .ok (.putfield 113, 3) := by decide +kernel
theorem dX5_alone_31 : decode cX5_alone 31 = .ok (.aload_n 0, 1) := by decide +kernel
theorem dX5_alone_32 : decode cX5_alone 32 = .ok (.iload_n 2, 1) := by decide +kernel
theorem dX5_alone_33 : decode cX5_alone 33 = .ok (.iconst 0, 1) := by decide +kernel
theorem dX5_alone_34 : decode cX5_alone 34 = .ok (.iconst 0, 1) := by decide +kernel
theorem dX5_alone_35 : decode cX5_alone 35 = .ok (.invokevirtual 127, 3) := by decide +kernel
theorem dX5_alone_38 : decode cX5_alone 38 = .ok (.return_, 1) := by decide +kernel
theorem dX5_begin_0 : decode cX5_begin 0 = .ok (.aload_n 0, 1) := by decide +kernel
theorem dX5_begin_1 : decode cX5_begin 1 = .ok (.dup, 1) := by decide +kernel
theorem dX5_begin_2 : decode cX5_begin 2 = .ok (.getfield 110, 3) := by decide +kernel
theorem dX5_begin_5 : decode cX5_begin 5 = .ok (.iconst 1, 1) := by decide +kernel
theorem dX5_begin_6 : decode cX5_begin 6 = .ok (.iadd, 1) := by decide +kernel
theorem dX5_begin_7 : decode cX5_begin 7 = .ok (.putfield 110, 3) := by decide +kernel
theorem dX5_begin_10 : decode cX5_begin 10 = .ok (.aload_n 0, 1) := by decide +kernel
theorem dX5_begin_11 : decode cX5_begin 11 = .ok (.iconst 0, 1) := by decide +kernel
theorem dX5_begin_12 : decode cX5_begin 12 = .ok (.putfield 113, 3) := by decide +kernel
theorem dX5_begin_15 : decode cX5_begin 15 = .ok (.aload_n 0, 1) := by decide +kernel
theorem dX5_begin_16 : decode cX5_begin 16 = .ok (.iconst 0, 1) := by decide +kernel
theorem dX5_begin_17 : decode cX5_begin 17 = .ok (.putfield 130, 3) := by decide +kernel
theorem dX5_begin_20 : decode cX5_begin 20 = .ok (.aload_n 0, 1) := by decide +kernel
theorem dX5_begin_21 : decode cX5_begin 21 = .ok (.invokevirtual 133, 3) := by decide +kernel
theorem dX5_begin_24 : decode cX5_begin 24 = .ok (.aload_n 0, 1) := by decide +kernel
theorem dX5_begin_25 : decode cX5_begin 25 = .ok (.iconst 1, 1) := by decide +kernel
theorem dX5_begin_26 : decode cX5_begin 26 = .ok (.iconst 0, 1) := by decide +kernel
theorem dX5_begin_27 : decode cX5_begin 27 = .ok (.invokevirtual 89, 3) := by decide +kernel
theorem dX5_begin_30 : decode cX5_begin 30 = .ok (.istore_n 1, 1) := by decide +kernel
theorem dX5_begin_31 : decode cX5_begin 31 = .ok (.aload_n 0, 1) := by decide +kernel
theorem dX5_begin_32 : decode cX5_begin 32 = .ok (.iload_n 1, 1) := by decide +kernel
theorem dX5_begin_33 : decode cX5_begin 33 = .ok (.invokevirtual 124, 3) := by decide +kernel
theorem dX5_begin_36 : decode cX5_begin 36 = .ok (.ifCond .eq 10, 3) := by decide +kernel
theorem dX5_begin_39 : decode cX5_begin 39 = .ok (.aload_n 0, 1) := by decide +kernel
theorem dX5_begin_40 : decode cX5_begin 40 = .ok (.iload_n 1, 1) := by decide +kernel
theorem dX5_begin_41 : decode cX5_begin 41 = .ok (.iconst 0, 1) := by decide +kernel
theorem dX5_begin_42 : decode cX5_begin 42 = .ok (.iconst 0, 1) := by decide +kernel
theorem dX5_begin_43 : decode cX5_begin 43 = .ok (.invokevirtual 127, 3) := by decide +kernel
theorem dX5_begin_46 : decode cX5_begin 46 = .ok (.return_, 1) := by decide +kernel
theorem dX5_over_0 : decode cX5_over 0 = .ok (.aload_n 0, 1) := by decide +kernel
theorem dX5_over_1 : decode cX5_over 1 = .ok (.iconst 5, 1) := by decide +kernel
theorem dX5_over_2 : decode cX5_over 2 = .ok (.iconst 0, 1) := by decide +kernel
theorem dX5_over_3 : decode cX5_over 3 = .ok (.invokevirtual 89, 3) := by decide +kernel
theorem dX5_over_6 : decode cX5_over 6 = .ok (.istore_n 1, 1) := by decide +kernel
theorem dX5_over_7 : decode cX5_over 7 = .ok (.aload_n 0, 1) := by decide +kernel
theorem dX5_over_8 : decode cX5_over 8 = .ok (.iload_n 1, 1) := by decide +kernel
theorem dX5_over_9 : decode cX5_over 9 = .ok (.invokevirtual 124, 3) := by decide +kernel
theorem dX5_over_12 : decode cX5_over 12 = .ok (.ifCond .eq 13, 3) := by decide +kernel
theorem dX5_over_15 : decode cX5_over 15 = .ok (.aload_n 0, 1) := by decide +kernel
theorem dX5_over_16 : decode cX5_over 16 = .ok (.iload_n 1, 1) := by decide +kernel
theorem dX5_over_17 : decode cX5_over 17 = .ok (.aload_n 0, 1) := by decide +kernel
theorem dX5_over_18 : decode cX5_over 18 = .ok (.getfield 69, 3) := by decide +kernel
theorem dX5_over_21 : decode cX5_over 21 = .ok (.iconst 0, 1) := by decide +kernel
theorem dX5_over_22 : decode cX5_over 22 = .ok (.invokevirtual 127, 3) := by decide +kernel
theorem dX5_over_25 : decode cX5_over 25 = .ok (.return_, 1) := by decide +kernel
theorem dX5_fresh_0 : decode cX5_fresh 0 = .ok (.iconst 0, 1) := by decide +kernel
theorem dX5_fresh_1 : decode cX5_fresh 1 = .ok (.istore_n 1, 1) := by decide +kernel
theorem dX5_fresh_2 : decode cX5_fresh 2 = .ok (.iload_n 1, 1) := by decide +kernel
theorem dX5_fresh_3 : decode cX5_fresh 3 = .ok (.bipush 20, 2) := by decide +kernel
theorem dX5_fresh_5 : decode cX5_fresh 5 = .ok (.if_icmp .gt 16, 3) := by decide +kernel
theorem dX5_fresh_8 : decode cX5_fresh 8 = .ok (.aload_n 0, 1) := by decide +kernel
theorem dX5_fresh_9 : decode cX5_fresh 9 = .ok (.getfield 38, 3) := by decide +kernel
theorem dX5_fresh_12 : decode cX5_fresh 12 = .ok (.iload_n 1, 1) := by decide +kernel
theorem dX5_fresh_13 : decode cX5_fresh 13 = .ok (.iconst 0, 1) := by decide +kernel
theorem dX5_fresh_14 : decode cX5_fresh 14 = .ok (.bastore, 1) := by decide +kernel
theorem dX5_fresh_15 : decode cX5_fresh 15 = .ok (.iinc 1 1, 3) := by decide +kernel
theorem dX5_fresh_18 : decode cX5_fresh 18 = .ok (.goto (-16), 3) := by decide +kernel
theorem dX5_fresh_21 : decode cX5_fresh 21 = .ok (.return_, 1) := by decide +kernel
theorem dX5_top_0 : decode cX5_top 0 = .ok (.aload_n 0, 1) := by decide +kernel
theorem dX5_top_1 : decode cX5_top 1 = .ok (.getfield 28, 3) := by decide +kernel
theorem dX5_top_4 : decode cX5_top 4 = .ok (.iload_n 1, 1) := by decide +kernel
theorem dX5_top_5 : decode cX5_top 5 = .ok (.baload, 1) := by decide +kernel
theorem dX5_top_6 : decode cX5_top 6 = .ok (.ifCond .eq 15, 3) := by decide +kernel
theorem dX5_top_9 : decode cX5_top 9 = .ok (.aload_n 0, 1) := by decide +kernel
theorem dX5_top_10 : decode cX5_top 10 = .ok (.getfield 25, 3) := by decide +kernel
theorem dX5_top_13 : decode cX5_top 13 = .ok (.bipush 10, 2) := by decide +kernel
theorem dX5_top_15 : decode cX5_top 15 = .ok (.iload_n 1, 1) := by decide +kernel
theorem dX5_top_16 : decode cX5_top 16 = .ok (.imul, 1) := by decide +kernel
theorem dX5_top_17 : decode cX5_top 17 = .ok (.iaload, 1) := by decide +kernel
theorem dX5_top_18 : decode cX5_top 18 = .ok (.goto 31, 3) := by decide +kernel
theorem dX5_top_21 : decode cX5_top 21 = .ok (.aload_n 0, 1) := by decide +kernel
theorem dX5_top_22 : decode cX5_top 22 = .ok (.getfield 130, 3) := by decide +kernel
theorem dX5_top_25 : decode cX5_top 25 = .ok (.ifCond .ne 10, 3) := by decide +kernel
theorem dX5_top_28 : decode cX5_top 28 = .ok (.aload_n 0, 1) := by decide +kernel
theorem dX5_top_29 : decode cX5_top 29 = .ok (.getfield 66, 3) := by decide +kernel
theorem dX5_top_32 : decode cX5_top 32 = .ok (.goto 17, 3) := by decide +kernel
theorem dX5_top_35 : decode cX5_top 35 = .ok (.aload_n 0, 1) := by decide +kernel
theorem dX5_top_36 : decode cX5_top 36 = .ok (.getfield 130, 3) := by decide +kernel
theorem dX5_top_39 : decode cX5_top 39 = .ok (.aload_n 0, 1) := by decide +kernel
theorem dX5_top_40 : decode cX5_top 40 = .ok (.getfield 25, 3) := by decide +kernel
theorem dX5_top_43 : decode cX5_top 43 = .ok (.bipush 10, 2) := by decide +kernel
theorem dX5_top_45 : decode cX5_top 45 = .ok (.iload_n 1, 1) := by decide +kernel
theorem dX5_top_46 : decode cX5_top 46 = .ok (.imul, 1) := by decide +kernel
theorem dX5_top_47 : decode cX5_top 47 = .ok (.iaload, 1) := by decide +kernel
theorem dX5_top_48 : decode cX5_top 48 = .ok (.iadd, 1) := by decide +kernel
theorem dX5_top_49 : decode cX5_top 49 = .ok (.ireturn, 1) := by decide +kernel
theorem dX5_inBody_0 : decode cX5_inBody 0 = .ok (.aload_n 0, 1) := by decide +kernel
theorem dX5_inBody_1 : decode cX5_inBody 1 = .ok (.iload_n 1, 1) := by decide +kernel
theorem dX5_inBody_2 : decode cX5_inBody 2 = .ok (.invokevirtual 124, 3) := by decide +kernel
theorem dX5_inBody_5 : decode cX5_inBody 5 = .ok (.ifCond .ne 4, 3) := by decide +kernel
theorem dX5_inBody_8 : decode cX5_inBody 8 = .ok (.return_, 1) := by decide +kernel
theorem dX5_inBody_9 : decode cX5_inBody 9 = .ok (.aload_n 0, 1) := by decide +kernel
theorem dX5_inBody_10 : decode cX5_inBody 10 = .ok (.iload_n 1, 1) := by decide +kernel
theorem dX5_inBody_11 : decode cX5_inBody 11 = .ok (.invokevirtual 136, 3) := by decide +kernel
theorem dX5_inBody_14 : decode cX5_inBody 14 = .ok (.istore_n 3, 1) := by decide +kernel
theorem dX5_inBody_15 : decode cX5_inBody 15 = .ok (.iconst 1, 1) := by decide +kernel
theorem dX5_inBody_16 : decode cX5_inBody 16 = .ok (.istore 4, 2) := by decide +kernel
theorem dX5_inBody_18 : decode cX5_inBody 18 = .ok (.iload 4, 2) := by decide +kernel
theorem dX5_inBody_20 : decode cX5_inBody 20 = .ok (.aload_n 0, 1) := by decide +kernel
theorem dX5_inBody_21 : decode cX5_inBody 21 = .ok (.getfield 22, 3) := by decide +kernel
theorem dX5_inBody_24 : decode cX5_inBody 24 = .ok (.iload_n 1, 1) := by decide +kernel
theorem dX5_inBody_25 : decode cX5_inBody 25 = .ok (.iaload, 1) := by decide +kernel
theorem dX5_inBody_26 : decode cX5_inBody 26 = .ok (.if_icmp .ge 24, 3) := by decide +kernel
theorem dX5_inBody_29 : decode cX5_inBody 29 = .ok (.iload_n 3, 1) := by decide +kernel
theorem dX5_inBody_30 : decode cX5_inBody 30 = .ok (.aload_n 0, 1) := by decide +kernel
theorem dX5_inBody_31 : decode cX5_inBody 31 = .ok (.getfield 25, 3) := by decide +kernel
theorem dX5_inBody_34 : decode cX5_inBody 34 = .ok (.bipush 10, 2) := by decide +kernel
theorem dX5_inBody_36 : decode cX5_inBody 36 = .ok (.iload_n 1, 1) := by decide +kernel
theorem dX5_inBody_37 : decode cX5_inBody 37 = .ok (.imul, 1) := by decide +kernel
theorem dX5_inBody_38 : decode cX5_inBody 38 = .ok (.iload 4, 2) := by decide +kernel
theorem dX5_inBody_40 : decode cX5_inBody 40 = .ok (.iadd, 1) := by decide +kernel
theorem dX5_inBody_41 : decode cX5_inBody 41 = .ok (.iaload, 1) := by decide +kernel
theorem dX5_inBody_42 : decode cX5_inBody 42 = .ok (.iadd, 1) := by decide +kernel
theorem dX5_inBody_43 : decode cX5_inBody 43 = .ok (.istore_n 3, 1) := by decide +kernel
theorem dX5_inBody_44 : decode cX5_inBody 44 = .ok (.iinc 4 1, 3) := by decide +kernel
theorem dX5_inBody_47 : decode cX5_inBody 47 = .ok (.goto (-29), 3) := by decide +kernel
theorem dX5_inBody_50 : decode cX5_inBody 50 = .ok (.aload_n 0, 1) := by decide +kernel
theorem dX5_inBody_51 : decode cX5_inBody 51 = .ok (.getfield 130, 3) := by decide +kernel
theorem dX5_inBody_54 : decode cX5_inBody 54 = .ok (.ifCond .le 15, 3) := by decide +kernel
theorem dX5_inBody_57 : decode cX5_inBody 57 = .ok (.aload_n 0, 1) := by decide +kernel
theorem dX5_inBody_58 : decode cX5_inBody 58 = .ok (.iload_n 1, 1) := by decide +kernel
theorem dX5_inBody_59 : decode cX5_inBody 59 = .ok (.invokevirtual 136, 3) := by decide +kernel
theorem dX5_inBody_62 : decode cX5_inBody 62 = .ok (.aload_n 0, 1) := by decide +kernel
theorem dX5_inBody_63 : decode cX5_inBody 63 = .ok (.getfield 130, 3) := by decide +kernel
theorem dX5_inBody_66 : decode cX5_inBody 66 = .ok (.if_icmp .le 11, 3) := by decide +kernel
theorem dX5_inBody_69 : decode cX5_inBody 69 = .ok (.iload_n 3, 1) := by decide +kernel
theorem dX5_inBody_70 : decode cX5_inBody 70 = .ok (.aload_n 0, 1) := by decide +kernel
theorem dX5_inBody_71 : decode cX5_inBody 71 = .ok (.getfield 69, 3) := by decide +kernel
theorem dX5_inBody_74 : decode cX5_inBody 74 = .ok (.if_icmp .le 11, 3) := by decide +kernel
theorem dX5_inBody_77 : decode cX5_inBody 77 = .ok (.aload_n 0, 1) := by decide +kernel
theorem dX5_inBody_78 : decode cX5_inBody 78 = .ok (.invokevirtual 140, 3) := by decide +kernel
theorem dX5_inBody_81 : decode cX5_inBody 81 = .ok (.aload_n 0, 1) := by decide +kernel
theorem dX5_inBody_82 : decode cX5_inBody 82 = .ok (.invokevirtual 143, 3) := by decide +kernel
theorem dX5_inBody_85 : decode cX5_inBody 85 = .ok (.aload_n 0, 1) := by decide +kernel
theorem dX5_inBody_86 : decode cX5_inBody 86 = .ok (.getfield 35, 3) := by decide +kernel
theorem dX5_inBody_89 : decode cX5_inBody 89 = .ok (.iload_n 1, 1) := by decide +kernel
theorem dX5_inBody_90 : decode cX5_inBody 90 = .ok (.baload, 1) := by decide +kernel
theorem dX5_inBody_91 : decode cX5_inBody 91 = .ok (.ifCond .eq 12, 3) := by decide +kernel
theorem dX5_inBody_94 : decode cX5_inBody 94 = .ok (.aload_n 0, 1) := by decide +kernel
theorem dX5_inBody_95 : decode cX5_inBody 95 = .ok (.getfield 38, 3) := by decide +kernel
theorem dX5_inBody_98 : decode cX5_inBody 98 = .ok (.iload_n 1, 1) := by decide +kernel
theorem dX5_inBody_99 : decode cX5_inBody 99 = .ok (.baload, 1) := by decide +kernel
theorem dX5_inBody_100 : decode cX5_inBody 100 = .ok (.ifCond .ne 7, 3) := by decide +kernel
theorem dX5_inBody_103 : decode cX5_inBody 103 = .ok (.iconst 1, 1) := by decide +kernel
theorem dX5_inBody_104 : decode cX5_inBody 104 = .ok (.goto 4, 3) := by decide +kernel
theorem dX5_inBody_107 : decode cX5_inBody 107 = .ok (.iconst 0, 1) := by decide +kernel
theorem dX5_inBody_108 : decode cX5_inBody 108 = .ok (.istore 4, 2) := by decide +kernel
theorem dX5_inBody_110 : decode cX5_inBody 110 = .ok (.aload_n 0, 1) := by decide +kernel
theorem dX5_inBody_111 : decode cX5_inBody 111 = .ok (.getfield 38, 3) := by decide +kernel
theorem dX5_inBody_114 : decode cX5_inBody 114 = .ok (.iload_n 1, 1) := by decide +kernel
theorem dX5_inBody_115 : decode cX5_inBody 115 = .ok (.iconst 1, 1) := by decide +kernel
theorem dX5_inBody_116 : decode cX5_inBody 116 = .ok (.bastore, 1) := by decide +kernel
theorem dX5_inBody_117 : decode cX5_inBody 117 = .ok (.aload_n 0, 1) := by decide +kernel
theorem dX5_inBody_118 : decode cX5_inBody 118 = .ok (.iload_n 1, 1) := by decide +kernel
theorem dX5_inBody_119 : decode cX5_inBody 119 = .ok (.aload_n 0, 1) := by decide +kernel
theorem dX5_inBody_120 : decode cX5_inBody 120 = .ok (.iload_n 1, 1) := by decide +kernel
theorem dX5_inBody_121 : decode cX5_inBody 121 = .ok (.invokevirtual 136, 3) := by decide +kernel
theorem dX5_inBody_124 : decode cX5_inBody 124 = .ok (.aload_n 0, 1) := by decide +kernel
theorem dX5_inBody_125 : decode cX5_inBody 125 = .ok (.getfield 16, 3) := by decide +kernel
theorem dX5_inBody_128 : decode cX5_inBody 128 = .ok (.iload_n 1, 1) := by decide +kernel
theorem dX5_inBody_129 : decode cX5_inBody 129 = .ok (.iaload, 1) := by decide +kernel
theorem dX5_inBody_130 : decode cX5_inBody 130 = .ok (.iconst 3, 1) := by decide +kernel
theorem dX5_inBody_131 : decode cX5_inBody 131 = .ok (.if_icmp .ne 12, 3) := by decide +kernel
theorem dX5_inBody_134 : decode cX5_inBody 134 = .ok (.iload 4, 2) := by decide +kernel
theorem dX5_inBody_136 : decode cX5_inBody 136 = .ok (.ifCond .ne 7, 3) := by decide +kernel
theorem dX5_inBody_139 : decode cX5_inBody 139 = .ok (.iconst 0, 1) := by decide +kernel
theorem dX5_inBody_140 : decode cX5_inBody 140 = .ok (.goto 4, 3) := by decide +kernel
theorem dX5_inBody_143 : decode cX5_inBody 143 = .ok (.iload_n 2, 1) := by decide +kernel
theorem dX5_inBody_144 : decode cX5_inBody 144 = .ok (.invokevirtual 120, 3) := by decide +kernel
theorem dX5_inBody_147 : decode cX5_inBody 147 = .ok (.aload_n 0, 1) := by decide +kernel
theorem dX5_inBody_148 : decode cX5_inBody 148 = .ok (.aload_n 0, 1) := by decide +kernel
theorem dX5_inBody_149 : decode cX5_inBody 149 = .ok (.getfield 113, 3) := by decide +kernel
theorem dX5_inBody_152 : decode cX5_inBody 152 = .ok (.putfield 130, 3) := by decide +kernel
theorem dX5_inBody_155 : decode cX5_inBody 155 = .ok (.return_, 1) := by decide +kernel
theorem dX5_head_0 : decode cX5_head 0 = .ok (.aload_n 0, 1) := by decide +kernel
theorem dX5_head_1 : decode cX5_head 1 = .ok (.iconst 2, 1) := by decide +kernel
theorem dX5_head_2 : decode cX5_head 2 = .ok (.iload_n 1, 1) := by decide +kernel
theorem dX5_head_3 : decode cX5_head 3 = .ok (.invokevirtual 89, 3) := by decide +kernel
theorem dX5_head_6 : decode cX5_head 6 = .ok (.istore_n 2, 1) := by decide +kernel
theorem dX5_head_7 : decode cX5_head 7 = .ok (.iload_n 2, 1) := by decide +kernel
theorem dX5_head_8 : decode cX5_head 8 = .ok (.ifCond .eq 22, 3) := by decide +kernel
theorem dX5_head_11 : decode cX5_head 11 = .ok (.aload_n 0, 1) := by decide +kernel
theorem dX5_head_12 : decode cX5_head 12 = .ok (.iload_n 2, 1) := by decide +kernel
theorem dX5_head_13 : decode cX5_head 13 = .ok (.iload_n 1, 1) := by decide +kernel
theorem dX5_head_14 : decode cX5_head 14 = .ok (.ifCond .ne 7, 3) := by decide +kernel
theorem dX5_head_17 : decode cX5_head 17 = .ok (.iconst 0, 1) := by decide +kernel
theorem dX5_head_18 : decode cX5_head 18 = .ok (.goto 9, 3) := by decide +kernel
theorem dX5_head_21 : decode cX5_head 21 = .ok (.aload_n 0, 1) := by decide +kernel
theorem dX5_head_22 : decode cX5_head 22 = .ok (.getfield 7, 3) := by decide +kernel
theorem dX5_head_25 : decode cX5_head 25 = .ok (.iload_n 1, 1) := by decide +kernel
theorem dX5_head_26 : decode cX5_head 26 = .ok (.iaload, 1) := by decide +kernel
theorem dX5_head_27 : decode cX5_head 27 = .ok (.invokevirtual 146, 3) := by decide +kernel
theorem dX5_head_30 : decode cX5_head 30 = .ok (.return_, 1) := by decide +kernel
theorem dX5_firstSum_0 : decode cX5_firstSum 0 = .ok (.iconst 0, 1) := by decide +kernel
theorem dX5_firstSum_1 : decode cX5_firstSum 1 = .ok (.istore_n 2, 1) := by decide +kernel
theorem dX5_firstSum_2 : decode cX5_firstSum 2 = .ok (.aload_n 0, 1) := by decide +kernel
theorem dX5_firstSum_3 : decode cX5_firstSum 3 = .ok (.getfield 100, 3) := by decide +kernel
theorem dX5_firstSum_6 : decode cX5_firstSum 6 = .ok (.istore_n 3, 1) := by decide +kernel
theorem dX5_firstSum_7 : decode cX5_firstSum 7 = .ok (.iload_n 3, 1) := by decide +kernel
theorem dX5_firstSum_8 : decode cX5_firstSum 8 = .ok (.ifCond .le 25, 3) := by decide +kernel
theorem dX5_firstSum_11 : decode cX5_firstSum 11 = .ok (.aload_n 0, 1) := by decide +kernel
theorem dX5_firstSum_12 : decode cX5_firstSum 12 = .ok (.getfield 41, 3) := by decide +kernel
theorem dX5_firstSum_15 : decode cX5_firstSum 15 = .ok (.iload_n 3, 1) := by decide +kernel
theorem dX5_firstSum_16 : decode cX5_firstSum 16 = .ok (.iaload, 1) := by decide +kernel
theorem dX5_firstSum_17 : decode cX5_firstSum 17 = .ok (.iload_n 1, 1) := by decide +kernel
theorem dX5_firstSum_18 : decode cX5_firstSum 18 = .ok (.if_icmp .ne 7, 3) := by decide +kernel
theorem dX5_firstSum_21 : decode cX5_firstSum 21 = .ok (.iload_n 3, 1) := by decide +kernel
theorem dX5_firstSum_22 : decode cX5_firstSum 22 = .ok (.goto 4, 3) := by decide +kernel
theorem dX5_firstSum_25 : decode cX5_firstSum 25 = .ok (.iload_n 2, 1) := by decide +kernel
theorem dX5_firstSum_26 : decode cX5_firstSum 26 = .ok (.istore_n 2, 1) := by decide +kernel
theorem dX5_firstSum_27 : decode cX5_firstSum 27 = .ok (.iinc 3 (-1), 3) := by decide +kernel
theorem dX5_firstSum_30 : decode cX5_firstSum 30 = .ok (.goto (-23), 3) := by decide +kernel
theorem dX5_firstSum_33 : decode cX5_firstSum 33 = .ok (.iload_n 2, 1) := by decide +kernel
theorem dX5_firstSum_34 : decode cX5_firstSum 34 = .ok (.ireturn, 1) := by decide +kernel
theorem dX5_foot_0 : decode cX5_foot 0 = .ok (.aload_n 0, 1) := by decide +kernel
theorem dX5_foot_1 : decode cX5_foot 1 = .ok (.iconst 4, 1) := by decide +kernel
theorem dX5_foot_2 : decode cX5_foot 2 = .ok (.iload_n 1, 1) := by decide +kernel
theorem dX5_foot_3 : decode cX5_foot 3 = .ok (.invokevirtual 89, 3) := by decide +kernel
theorem dX5_foot_6 : decode cX5_foot 6 = .ok (.istore_n 2, 1) := by decide +kernel
theorem dX5_foot_7 : decode cX5_foot 7 = .ok (.iload_n 2, 1) := by decide +kernel
theorem dX5_foot_8 : decode cX5_foot 8 = .ok (.ifCond .eq 124, 3) := by decide +kernel
theorem dX5_foot_11 : decode cX5_foot 11 = .ok (.aload_n 0, 1) := by decide +kernel
theorem dX5_foot_12 : decode cX5_foot 12 = .ok (.iload_n 2, 1) := by decide +kernel
theorem dX5_foot_13 : decode cX5_foot 13 = .ok (.invokevirtual 150, 3) := by decide +kernel
theorem dX5_foot_16 : decode cX5_foot 16 = .ok (.istore_n 3, 1) := by decide +kernel
theorem dX5_foot_17 : decode cX5_foot 17 = .ok (.aload_n 0, 1) := by decide +kernel
theorem dX5_foot_18 : decode cX5_foot 18 = .ok (.iload_n 2, 1) := by decide +kernel
theorem dX5_foot_19 : decode cX5_foot 19 = .ok (.iload_n 3, 1) := by decide +kernel
theorem dX5_foot_20 : decode cX5_foot 20 = .ok (.ifCond .eq 13, 3) := by decide +kernel
theorem dX5_foot_23 : decode cX5_foot 23 = .ok (.aload_n 0, 1) := by decide +kernel
theorem dX5_foot_24 : decode cX5_foot 24 = .ok (.getfield 50, 3) := by decide +kernel
theorem dX5_foot_27 : decode cX5_foot 27 = .ok (.iload_n 3, 1) := by decide +kernel
theorem dX5_foot_28 : decode cX5_foot 28 = .ok (.laload, 1) := by decide +kernel
theorem dX5_foot_29 : decode cX5_foot 29 = .ok (.l2i, 1) := by decide +kernel
end
section
theorem dX5_foot_30 : decode cX5_foot 30 = .ok (.goto 17, 3) := by decide +kernel
theorem dX5_foot_33 : decode cX5_foot 33 = .ok (.iload_n 1, 1) := by decide +kernel
theorem dX5_foot_34 : decode cX5_foot 34 = .ok (.ifCond .ne 7, 3) := by decide +kernel
theorem dX5_foot_37 : decode cX5_foot 37 = .ok (.iconst 0, 1) := by decide +kernel
theorem dX5_foot_38 : decode cX5_foot 38 = .ok (.goto 9, 3) := by decide +kernel
theorem dX5_foot_41 : decode cX5_foot 41 = .ok (.aload_n 0, 1) := by decide +kernel
theorem dX5_foot_42 : decode cX5_foot 42 = .ok (.getfield 13, 3) := by decide +kernel
theorem dX5_foot_45 : decode cX5_foot 45 = .ok (.iload_n 1, 1) := by decide +kernel
theorem dX5_foot_46 : decode cX5_foot 46 = .ok (.iaload, 1) := by decide +kernel
theorem dX5_foot_47 : decode cX5_foot 47 = .ok (.invokevirtual 146, 3) := by decide +kernel
theorem dX5_foot_50 : decode cX5_foot 50 = .ok (.iconst 1, 1) := by decide +kernel
theorem dX5_foot_51 : decode cX5_foot 51 = .ok (.istore 4, 2) := by decide +kernel
theorem dX5_foot_53 : decode cX5_foot 53 = .ok (.iload 4, 2) := by decide +kernel
theorem dX5_foot_55 : decode cX5_foot 55 = .ok (.aload_n 0, 1) := by decide +kernel
theorem dX5_foot_56 : decode cX5_foot 56 = .ok (.getfield 100, 3) := by decide +kernel
theorem dX5_foot_59 : decode cX5_foot 59 = .ok (.if_icmp .gt 73, 3) := by decide +kernel
theorem dX5_foot_62 : decode cX5_foot 62 = .ok (.iconst 1, 1) := by decide +kernel
theorem dX5_foot_63 : decode cX5_foot 63 = .ok (.istore 5, 2) := by decide +kernel
theorem dX5_foot_65 : decode cX5_foot 65 = .ok (.iload 5, 2) := by decide +kernel
theorem dX5_foot_67 : decode cX5_foot 67 = .ok (.aload_n 0, 1) := by decide +kernel
theorem dX5_foot_68 : decode cX5_foot 68 = .ok (.getfield 100, 3) := by decide +kernel
theorem dX5_foot_71 : decode cX5_foot 71 = .ok (.if_icmp .gt 55, 3) := by decide +kernel
theorem dX5_foot_74 : decode cX5_foot 74 = .ok (.aload_n 0, 1) := by decide +kernel
theorem dX5_foot_75 : decode cX5_foot 75 = .ok (.getfield 41, 3) := by decide +kernel
theorem dX5_foot_78 : decode cX5_foot 78 = .ok (.iload 4, 2) := by decide +kernel
theorem dX5_foot_80 : decode cX5_foot 80 = .ok (.iaload, 1) := by decide +kernel
theorem dX5_foot_81 : decode cX5_foot 81 = .ok (.iload_n 2, 1) := by decide +kernel
theorem dX5_foot_82 : decode cX5_foot 82 = .ok (.if_icmp .ne 44, 3) := by decide +kernel
theorem dX5_foot_85 : decode cX5_foot 85 = .ok (.aload_n 0, 1) := by decide +kernel
theorem dX5_foot_86 : decode cX5_foot 86 = .ok (.getfield 50, 3) := by decide +kernel
theorem dX5_foot_89 : decode cX5_foot 89 = .ok (.iload 5, 2) := by decide +kernel
theorem dX5_foot_91 : decode cX5_foot 91 = .ok (.dup2, 1) := by decide +kernel
theorem dX5_foot_92 : decode cX5_foot 92 = .ok (.laload, 1) := by decide +kernel
theorem dX5_foot_93 : decode cX5_foot 93 = .ok (.aload_n 0, 1) := by decide +kernel
theorem dX5_foot_94 : decode cX5_foot 94 = .ok (.getfield 44, 3) := by decide +kernel
theorem dX5_foot_97 : decode cX5_foot 97 = .ok (.iload 5, 2) := by decide +kernel
theorem dX5_foot_99 : decode cX5_foot 99 = .ok (.iaload, 1) := by decide +kernel
theorem dX5_foot_100 : decode cX5_foot 100 = .ok (.iconst 0, 1) := by decide +kernel
theorem dX5_foot_101 : decode cX5_foot 101 = .ok (.iload 4, 2) := by decide +kernel
theorem dX5_foot_103 : decode cX5_foot 103 = .ok (.isub, 1) := by decide +kernel
theorem dX5_foot_104 : decode cX5_foot 104 = .ok (.if_icmp .ne 13, 3) := by decide +kernel
theorem dX5_foot_107 : decode cX5_foot 107 = .ok (.aload_n 0, 1) := by decide +kernel
theorem dX5_foot_108 : decode cX5_foot 108 = .ok (.getfield 50, 3) := by decide +kernel
theorem dX5_foot_111 : decode cX5_foot 111 = .ok (.iload 4, 2) := by decide +kernel
theorem dX5_foot_113 : decode cX5_foot 113 = .ok (.laload, 1) := by decide +kernel
theorem dX5_foot_114 : decode cX5_foot 114 = .ok (.goto 4, 3) := by decide +kernel
theorem dX5_foot_117 : decode cX5_foot 117 = .ok (.lconst 0, 1) := by decide +kernel
theorem dX5_foot_118 : decode cX5_foot 118 = .ok (.ladd, 1) := by decide +kernel
theorem dX5_foot_119 : decode cX5_foot 119 = .ok (.lastore, 1) := by decide +kernel
theorem dX5_foot_120 : decode cX5_foot 120 = .ok (.iinc 5 1, 3) := by decide +kernel
theorem dX5_foot_123 : decode cX5_foot 123 = .ok (.goto (-58), 3) := by decide +kernel
theorem dX5_foot_126 : decode cX5_foot 126 = .ok (.iinc 4 1, 3) := by decide +kernel
theorem dX5_foot_129 : decode cX5_foot 129 = .ok (.goto (-76), 3) := by decide +kernel
theorem dX5_foot_132 : decode cX5_foot 132 = .ok (.iconst 1, 1) := by decide +kernel
theorem dX5_foot_133 : decode cX5_foot 133 = .ok (.istore_n 3, 1) := by decide +kernel
theorem dX5_foot_134 : decode cX5_foot 134 = .ok (.iload_n 3, 1) := by decide +kernel
theorem dX5_foot_135 : decode cX5_foot 135 = .ok (.aload_n 0, 1) := by decide +kernel
theorem dX5_foot_136 : decode cX5_foot 136 = .ok (.getfield 100, 3) := by decide +kernel
theorem dX5_foot_139 : decode cX5_foot 139 = .ok (.if_icmp .gt 35, 3) := by decide +kernel
theorem dX5_foot_142 : decode cX5_foot 142 = .ok (.aload_n 0, 1) := by decide +kernel
theorem dX5_foot_143 : decode cX5_foot 143 = .ok (.getfield 50, 3) := by decide +kernel
theorem dX5_foot_146 : decode cX5_foot 146 = .ok (.iload_n 3, 1) := by decide +kernel
theorem dX5_foot_147 : decode cX5_foot 147 = .ok (.aload_n 0, 1) := by decide +kernel
theorem dX5_foot_148 : decode cX5_foot 148 = .ok (.getfield 47, 3) := by decide +kernel
theorem dX5_foot_151 : decode cX5_foot 151 = .ok (.iload_n 3, 1) := by decide +kernel
theorem dX5_foot_152 : decode cX5_foot 152 = .ok (.iaload, 1) := by decide +kernel
theorem dX5_foot_153 : decode cX5_foot 153 = .ok (.iload_n 1, 1) := by decide +kernel
theorem dX5_foot_154 : decode cX5_foot 154 = .ok (.if_icmp .ne 7, 3) := by decide +kernel
theorem dX5_foot_157 : decode cX5_foot 157 = .ok (.lconst 0, 1) := by decide +kernel
theorem dX5_foot_158 : decode cX5_foot 158 = .ok (.goto 9, 3) := by decide +kernel
theorem dX5_foot_161 : decode cX5_foot 161 = .ok (.aload_n 0, 1) := by decide +kernel
theorem dX5_foot_162 : decode cX5_foot 162 = .ok (.getfield 50, 3) := by decide +kernel
theorem dX5_foot_165 : decode cX5_foot 165 = .ok (.iload_n 3, 1) := by decide +kernel
theorem dX5_foot_166 : decode cX5_foot 166 = .ok (.laload, 1) := by decide +kernel
theorem dX5_foot_167 : decode cX5_foot 167 = .ok (.lastore, 1) := by decide +kernel
theorem dX5_foot_168 : decode cX5_foot 168 = .ok (.iinc 3 1, 3) := by decide +kernel
theorem dX5_foot_171 : decode cX5_foot 171 = .ok (.goto (-37), 3) := by decide +kernel
theorem dX5_foot_174 : decode cX5_foot 174 = .ok (.return_, 1) := by decide +kernel
theorem dX5_keep_0 : decode cX5_keep 0 = .ok (.iconst 1, 1) := by decide +kernel
theorem dX5_keep_1 : decode cX5_keep 1 = .ok (.istore_n 1, 1) := by decide +kernel
theorem dX5_keep_2 : decode cX5_keep 2 = .ok (.iload_n 1, 1) := by decide +kernel
theorem dX5_keep_3 : decode cX5_keep 3 = .ok (.aload_n 0, 1) := by decide +kernel
theorem dX5_keep_4 : decode cX5_keep 4 = .ok (.getfield 82, 3) := by decide +kernel
theorem dX5_keep_7 : decode cX5_keep 7 = .ok (.if_icmp .gt 21, 3) := by decide +kernel
theorem dX5_keep_10 : decode cX5_keep 10 = .ok (.aload_n 0, 1) := by decide +kernel
theorem dX5_keep_11 : decode cX5_keep 11 = .ok (.getfield 13, 3) := by decide +kernel
theorem dX5_keep_14 : decode cX5_keep 14 = .ok (.iload_n 1, 1) := by decide +kernel
theorem dX5_keep_15 : decode cX5_keep 15 = .ok (.aload_n 0, 1) := by decide +kernel
theorem dX5_keep_16 : decode cX5_keep 16 = .ok (.getfield 7, 3) := by decide +kernel
theorem dX5_keep_19 : decode cX5_keep 19 = .ok (.iload_n 1, 1) := by decide +kernel
theorem dX5_keep_20 : decode cX5_keep 20 = .ok (.iaload, 1) := by decide +kernel
theorem dX5_keep_21 : decode cX5_keep 21 = .ok (.iastore, 1) := by decide +kernel
theorem dX5_keep_22 : decode cX5_keep 22 = .ok (.iinc 1 1, 3) := by decide +kernel
theorem dX5_keep_25 : decode cX5_keep 25 = .ok (.goto (-23), 3) := by decide +kernel
theorem dX5_keep_28 : decode cX5_keep 28 = .ok (.return_, 1) := by decide +kernel
theorem dX5_initiate_0 : decode cX5_initiate 0 = .ok (.aload_n 0, 1) := by decide +kernel
theorem dX5_initiate_1 : decode cX5_initiate 1 = .ok (.iconst 0, 1) := by decide +kernel
theorem dX5_initiate_2 : decode cX5_initiate 2 = .ok (.putfield 72, 3) := by decide +kernel
theorem dX5_initiate_5 : decode cX5_initiate 5 = .ok (.aload_n 0, 1) := by decide +kernel
theorem dX5_initiate_6 : decode cX5_initiate 6 = .ok (.getfield 85, 3) := by decide +kernel
theorem dX5_initiate_9 : decode cX5_initiate 9 = .ok (.ifCond .eq 6, 3) := by decide +kernel
theorem dX5_initiate_12 : decode cX5_initiate 12 = .ok (.bipush (-5), 2) := by decide +kernel
theorem dX5_initiate_14 : decode cX5_initiate 14 = .ok (.ireturn, 1) := by decide +kernel
theorem dX5_initiate_15 : decode cX5_initiate 15 = .ok (.aload_n 0, 1) := by decide +kernel
theorem dX5_initiate_16 : decode cX5_initiate 16 = .ok (.iconst 1, 1) := by decide +kernel
theorem dX5_initiate_17 : decode cX5_initiate 17 = .ok (.putfield 85, 3) := by decide +kernel
theorem dX5_initiate_20 : decode cX5_initiate 20 = .ok (.aload_n 0, 1) := by decide +kernel
theorem dX5_initiate_21 : decode cX5_initiate 21 = .ok (.iconst 0, 1) := by decide +kernel
theorem dX5_initiate_22 : decode cX5_initiate 22 = .ok (.putfield 153, 3) := by decide +kernel
theorem dX5_initiate_25 : decode cX5_initiate 25 = .ok (.aload_n 0, 1) := by decide +kernel
theorem dX5_initiate_26 : decode cX5_initiate 26 = .ok (.iconst 0, 1) := by decide +kernel
theorem dX5_initiate_27 : decode cX5_initiate 27 = .ok (.putfield 156, 3) := by decide +kernel
theorem dX5_initiate_30 : decode cX5_initiate 30 = .ok (.aload_n 0, 1) := by decide +kernel
theorem dX5_initiate_31 : decode cX5_initiate 31 = .ok (.iconst 0, 1) := by decide +kernel
theorem dX5_initiate_32 : decode cX5_initiate 32 = .ok (.putfield 110, 3) := by decide +kernel
theorem dX5_initiate_35 : decode cX5_initiate 35 = .ok (.aload_n 0, 1) := by decide +kernel
theorem dX5_initiate_36 : decode cX5_initiate 36 = .ok (.iconst 0, 1) := by decide +kernel
theorem dX5_initiate_37 : decode cX5_initiate 37 = .ok (.putfield 113, 3) := by decide +kernel
theorem dX5_initiate_40 : decode cX5_initiate 40 = .ok (.aload_n 0, 1) := by decide +kernel
theorem dX5_initiate_41 : decode cX5_initiate 41 = .ok (.iconst 0, 1) := by decide +kernel
theorem dX5_initiate_42 : decode cX5_initiate 42 = .ok (.putfield 130, 3) := by decide +kernel
theorem dX5_initiate_45 : decode cX5_initiate 45 = .ok (.aload_n 0, 1) := by decide +kernel
theorem dX5_initiate_46 : decode cX5_initiate 46 = .ok (.iconst 0, 1) := by decide +kernel
theorem dX5_initiate_47 : decode cX5_initiate 47 = .ok (.putfield 107, 3) := by decide +kernel
theorem dX5_initiate_50 : decode cX5_initiate 50 = .ok (.iconst 0, 1) := by decide +kernel
theorem dX5_initiate_51 : decode cX5_initiate 51 = .ok (.istore_n 1, 1) := by decide +kernel
theorem dX5_initiate_52 : decode cX5_initiate 52 = .ok (.iload_n 1, 1) := by decide +kernel
theorem dX5_initiate_53 : decode cX5_initiate 53 = .ok (.bipush 20, 2) := by decide +kernel
theorem dX5_initiate_55 : decode cX5_initiate 55 = .ok (.if_icmp .gt 16, 3) := by decide +kernel
theorem dX5_initiate_58 : decode cX5_initiate 58 = .ok (.aload_n 0, 1) := by decide +kernel
theorem dX5_initiate_59 : decode cX5_initiate 59 = .ok (.getfield 50, 3) := by decide +kernel
theorem dX5_initiate_62 : decode cX5_initiate 62 = .ok (.iload_n 1, 1) := by decide +kernel
theorem dX5_initiate_63 : decode cX5_initiate 63 = .ok (.lconst 0, 1) := by decide +kernel
theorem dX5_initiate_64 : decode cX5_initiate 64 = .ok (.lastore, 1) := by decide +kernel
theorem dX5_initiate_65 : decode cX5_initiate 65 = .ok (.iinc 1 1, 3) := by decide +kernel
theorem dX5_initiate_68 : decode cX5_initiate 68 = .ok (.goto (-16), 3) := by decide +kernel
theorem dX5_initiate_71 : decode cX5_initiate 71 = .ok (.aload_n 0, 1) := by decide +kernel
theorem dX5_initiate_72 : decode cX5_initiate 72 = .ok (.invokevirtual 133, 3) := by decide +kernel
theorem dX5_initiate_75 : decode cX5_initiate 75 = .ok (.iconst 1, 1) := by decide +kernel
theorem dX5_initiate_76 : decode cX5_initiate 76 = .ok (.ireturn, 1) := by decide +kernel
theorem dX5_changed_0 : decode cX5_changed 0 = .ok (.aload_n 0, 1) := by decide +kernel
theorem dX5_changed_1 : decode cX5_changed 1 = .ok (.getfield 82, 3) := by decide +kernel
theorem dX5_changed_4 : decode cX5_changed 4 = .ok (.iconst 1, 1) := by decide +kernel
theorem dX5_changed_5 : decode cX5_changed 5 = .ok (.iadd, 1) := by decide +kernel
theorem dX5_changed_6 : decode cX5_changed 6 = .ok (.istore_n 1, 1) := by decide +kernel
theorem dX5_changed_7 : decode cX5_changed 7 = .ok (.aload_n 0, 1) := by decide +kernel
theorem dX5_changed_8 : decode cX5_changed 8 = .ok (.getfield 82, 3) := by decide +kernel
theorem dX5_changed_11 : decode cX5_changed 11 = .ok (.istore_n 2, 1) := by decide +kernel
theorem dX5_changed_12 : decode cX5_changed 12 = .ok (.iload_n 2, 1) := by decide +kernel
theorem dX5_changed_13 : decode cX5_changed 13 = .ok (.ifCond .le 30, 3) := by decide +kernel
theorem dX5_changed_16 : decode cX5_changed 16 = .ok (.aload_n 0, 1) := by decide +kernel
theorem dX5_changed_17 : decode cX5_changed 17 = .ok (.getfield 7, 3) := by decide +kernel
theorem dX5_changed_20 : decode cX5_changed 20 = .ok (.iload_n 2, 1) := by decide +kernel
theorem dX5_changed_21 : decode cX5_changed 21 = .ok (.iaload, 1) := by decide +kernel
theorem dX5_changed_22 : decode cX5_changed 22 = .ok (.aload_n 0, 1) := by decide +kernel
theorem dX5_changed_23 : decode cX5_changed 23 = .ok (.getfield 13, 3) := by decide +kernel
theorem dX5_changed_26 : decode cX5_changed 26 = .ok (.iload_n 2, 1) := by decide +kernel
theorem dX5_changed_27 : decode cX5_changed 27 = .ok (.iaload, 1) := by decide +kernel
theorem dX5_changed_28 : decode cX5_changed 28 = .ok (.if_icmp .eq 7, 3) := by decide +kernel
theorem dX5_changed_31 : decode cX5_changed 31 = .ok (.iload_n 2, 1) := by decide +kernel
theorem dX5_changed_32 : decode cX5_changed 32 = .ok (.goto 4, 3) := by decide +kernel
theorem dX5_changed_35 : decode cX5_changed 35 = .ok (.iload_n 1, 1) := by decide +kernel
theorem dX5_changed_36 : decode cX5_changed 36 = .ok (.istore_n 1, 1) := by decide +kernel
theorem dX5_changed_37 : decode cX5_changed 37 = .ok (.iinc 2 (-1), 3) := by decide +kernel
theorem dX5_changed_40 : decode cX5_changed 40 = .ok (.goto (-28), 3) := by decide +kernel
theorem dX5_changed_43 : decode cX5_changed 43 = .ok (.iload_n 1, 1) := by decide +kernel
theorem dX5_changed_44 : decode cX5_changed 44 = .ok (.ireturn, 1) := by decide +kernel
theorem dX5_generate_0 : decode cX5_generate 0 = .ok (.aload_n 0, 1) := by decide +kernel
theorem dX5_generate_1 : decode cX5_generate 1 = .ok (.iconst 0, 1) := by decide +kernel
theorem dX5_generate_2 : decode cX5_generate 2 = .ok (.putfield 72, 3) := by decide +kernel
theorem dX5_generate_5 : decode cX5_generate 5 = .ok (.iload_n 1, 1) := by decide +kernel
theorem dX5_generate_6 : decode cX5_generate 6 = .ok (.ifCond .eq 14, 3) := by decide +kernel
theorem dX5_generate_9 : decode cX5_generate 9 = .ok (.aload_n 0, 1) := by decide +kernel
theorem dX5_generate_10 : decode cX5_generate 10 = .ok (.iload_n 1, 1) := by decide +kernel
theorem dX5_generate_11 : decode cX5_generate 11 = .ok (.invokevirtual 97, 3) := by decide +kernel
theorem dX5_generate_14 : decode cX5_generate 14 = .ok (.ifCond .ne 6, 3) := by decide +kernel
theorem dX5_generate_17 : decode cX5_generate 17 = .ok (.bipush (-2), 2) := by decide +kernel
theorem dX5_generate_19 : decode cX5_generate 19 = .ok (.ireturn, 1) := by decide +kernel
theorem dX5_generate_20 : decode cX5_generate 20 = .ok (.aload_n 0, 1) := by decide +kernel
theorem dX5_generate_21 : decode cX5_generate 21 = .ok (.getfield 85, 3) := by decide +kernel
theorem dX5_generate_24 : decode cX5_generate 24 = .ok (.ifCond .ne 6, 3) := by decide +kernel
theorem dX5_generate_27 : decode cX5_generate 27 = .ok (.bipush (-5), 2) := by decide +kernel
theorem dX5_generate_29 : decode cX5_generate 29 = .ok (.ireturn, 1) := by decide +kernel
theorem dX5_generate_30 : decode cX5_generate 30 = .ok (.aload_n 0, 1) := by decide +kernel
theorem dX5_generate_31 : decode cX5_generate 31 = .ok (.getfield 153, 3) := by decide +kernel
theorem dX5_generate_34 : decode cX5_generate 34 = .ok (.sipush 200, 3) := by decide +kernel
theorem dX5_generate_37 : decode cX5_generate 37 = .ok (.if_icmp .ne 5, 3) := by decide +kernel
theorem dX5_generate_40 : decode cX5_generate 40 = .ok (.iconst (-1), 1) := by decide +kernel
theorem dX5_generate_41 : decode cX5_generate 41 = .ok (.ireturn, 1) := by decide +kernel
theorem dX5_generate_42 : decode cX5_generate 42 = .ok (.aload_n 0, 1) := by decide +kernel
theorem dX5_generate_43 : decode cX5_generate 43 = .ok (.getfield 107, 3) := by decide +kernel
theorem dX5_generate_46 : decode cX5_generate 46 = .ok (.istore 4, 2) := by decide +kernel
theorem dX5_generate_48 : decode cX5_generate 48 = .ok (.aload_n 0, 1) := by decide +kernel
theorem dX5_generate_49 : decode cX5_generate 49 = .ok (.getfield 153, 3) := by decide +kernel
theorem dX5_generate_52 : decode cX5_generate 52 = .ok (.ifCond .ne 39, 3) := by decide +kernel
theorem dX5_generate_55 : decode cX5_generate 55 = .ok (.aload_n 0, 1) := by decide +kernel
theorem dX5_generate_56 : decode cX5_generate 56 = .ok (.iconst 0, 1) := by decide +kernel
theorem dX5_generate_57 : decode cX5_generate 57 = .ok (.invokevirtual 159, 3) := by decide +kernel
theorem dX5_generate_60 : decode cX5_generate 60 = .ok (.aload_n 0, 1) := by decide +kernel
theorem dX5_generate_61 : decode cX5_generate 61 = .ok (.invokevirtual 143, 3) := by decide +kernel
theorem dX5_generate_64 : decode cX5_generate 64 = .ok (.iconst 0, 1) := by decide +kernel
theorem dX5_generate_65 : decode cX5_generate 65 = .ok (.istore 5, 2) := by decide +kernel
theorem dX5_generate_67 : decode cX5_generate 67 = .ok (.iload 5, 2) := by decide +kernel
theorem dX5_generate_69 : decode cX5_generate 69 = .ok (.aload_n 0, 1) := by decide +kernel
theorem dX5_generate_70 : decode cX5_generate 70 = .ok (.getfield 82, 3) := by decide +kernel
theorem dX5_generate_73 : decode cX5_generate 73 = .ok (.if_icmp .gt 15, 3) := by decide +kernel
theorem dX5_generate_76 : decode cX5_generate 76 = .ok (.aload_n 0, 1) := by decide +kernel
theorem dX5_generate_77 : decode cX5_generate 77 = .ok (.iload 5, 2) := by decide +kernel
theorem dX5_generate_79 : decode cX5_generate 79 = .ok (.invokevirtual 163, 3) := by decide +kernel
theorem dX5_generate_82 : decode cX5_generate 82 = .ok (.iinc 5 1, 3) := by decide +kernel
theorem dX5_generate_85 : decode cX5_generate 85 = .ok (.goto (-18), 3) := by decide +kernel
theorem dX5_generate_88 : decode cX5_generate 88 = .ok (.goto 82, 3) := by decide +kernel
theorem dX5_generate_91 : decode cX5_generate 91 = .ok (.aload_n 0, 1) := by decide +kernel
theorem dX5_generate_92 : decode cX5_generate 92 = .ok (.invokevirtual 166, 3) := by decide +kernel
theorem dX5_generate_95 : decode cX5_generate 95 = .ok (.istore 5, 2) := by decide +kernel
theorem dX5_generate_97 : decode cX5_generate 97 = .ok (.iload 5, 2) := by decide +kernel
theorem dX5_generate_99 : decode cX5_generate 99 = .ok (.aload_n 0, 1) := by decide +kernel
theorem dX5_generate_100 : decode cX5_generate 100 = .ok (.getfield 82, 3) := by decide +kernel
theorem dX5_generate_103 : decode cX5_generate 103 = .ok (.if_icmp .gt 67, 3) := by decide +kernel
theorem dX5_generate_106 : decode cX5_generate 106 = .ok (.aload_n 0, 1) := by decide +kernel
theorem dX5_generate_107 : decode cX5_generate 107 = .ok (.dup, 1) := by decide +kernel
theorem dX5_generate_108 : decode cX5_generate 108 = .ok (.getfield 156, 3) := by decide +kernel
theorem dX5_generate_111 : decode cX5_generate 111 = .ok (.iconst 1, 1) := by decide +kernel
theorem dX5_generate_112 : decode cX5_generate 112 = .ok (.iadd, 1) := by decide +kernel
theorem dX5_generate_113 : decode cX5_generate 113 = .ok (.putfield 156, 3) := by decide +kernel
theorem dX5_generate_116 : decode cX5_generate 116 = .ok (.aload_n 0, 1) := by decide +kernel
theorem dX5_generate_117 : decode cX5_generate 117 = .ok (.getfield 82, 3) := by decide +kernel
theorem dX5_generate_120 : decode cX5_generate 120 = .ok (.istore 6, 2) := by decide +kernel
theorem dX5_generate_122 : decode cX5_generate 122 = .ok (.iload 6, 2) := by decide +kernel
theorem dX5_generate_124 : decode cX5_generate 124 = .ok (.iload 5, 2) := by decide +kernel
theorem dX5_generate_126 : decode cX5_generate 126 = .ok (.if_icmp .lt 15, 3) := by decide +kernel
theorem dX5_generate_129 : decode cX5_generate 129 = .ok (.aload_n 0, 1) := by decide +kernel
theorem dX5_generate_130 : decode cX5_generate 130 = .ok (.iload 6, 2) := by decide +kernel
theorem dX5_generate_132 : decode cX5_generate 132 = .ok (.invokevirtual 170, 3) := by decide +kernel
theorem dX5_generate_135 : decode cX5_generate 135 = .ok (.iinc 6 (-1), 3) := by decide +kernel
theorem dX5_generate_138 : decode cX5_generate 138 = .ok (.goto (-16), 3) := by decide +kernel
theorem dX5_generate_141 : decode cX5_generate 141 = .ok (.aload_n 0, 1) := by decide +kernel
theorem dX5_generate_142 : decode cX5_generate 142 = .ok (.invokevirtual 133, 3) := by decide +kernel
theorem dX5_generate_145 : decode cX5_generate 145 = .ok (.iload 5, 2) := by decide +kernel
theorem dX5_generate_147 : decode cX5_generate 147 = .ok (.istore 6, 2) := by decide +kernel
theorem dX5_generate_149 : decode cX5_generate 149 = .ok (.iload 6, 2) := by decide +kernel
theorem dX5_generate_151 : decode cX5_generate 151 = .ok (.aload_n 0, 1) := by decide +kernel
theorem dX5_generate_152 : decode cX5_generate 152 = .ok (.getfield 82, 3) := by decide +kernel
theorem dX5_generate_155 : decode cX5_generate 155 = .ok (.if_icmp .gt 15, 3) := by decide +kernel
theorem dX5_generate_158 : decode cX5_generate 158 = .ok (.aload_n 0, 1) := by decide +kernel
theorem dX5_generate_159 : decode cX5_generate 159 = .ok (.iload 6, 2) := by decide +kernel
theorem dX5_generate_161 : decode cX5_generate 161 = .ok (.invokevirtual 163, 3) := by decide +kernel
theorem dX5_generate_164 : decode cX5_generate 164 = .ok (.iinc 6 1, 3) := by decide +kernel
theorem dX5_generate_167 : decode cX5_generate 167 = .ok (.goto (-18), 3) := by decide +kernel
theorem dX5_generate_170 : decode cX5_generate 170 = .ok (.aload_n 0, 1) := by decide +kernel
theorem dX5_generate_171 : decode cX5_generate 171 = .ok (.invokevirtual 172, 3) := by decide +kernel
theorem dX5_generate_174 : decode cX5_generate 174 = .ok (.aload_n 0, 1) := by decide +kernel
theorem dX5_generate_175 : decode cX5_generate 175 = .ok (.dup, 1) := by decide +kernel
theorem dX5_generate_176 : decode cX5_generate 176 = .ok (.getfield 153, 3) := by decide +kernel
theorem dX5_generate_179 : decode cX5_generate 179 = .ok (.iconst 1, 1) := by decide +kernel
theorem dX5_generate_180 : decode cX5_generate 180 = .ok (.iadd, 1) := by decide +kernel
theorem dX5_generate_181 : decode cX5_generate 181 = .ok (.putfield 153, 3) := by decide +kernel
theorem dX5_generate_184 : decode cX5_generate 184 = .ok (.iconst 1, 1) := by decide +kernel
theorem dX5_generate_185 : decode cX5_generate 185 = .ok (.istore 5, 2) := by decide +kernel
theorem dX5_generate_187 : decode cX5_generate 187 = .ok (.iload 5, 2) := by decide +kernel
theorem dX5_generate_189 : decode cX5_generate 189 = .ok (.aload_n 0, 1) := by decide +kernel
theorem dX5_generate_190 : decode cX5_generate 190 = .ok (.getfield 100, 3) := by decide +kernel
theorem dX5_generate_193 : decode cX5_generate 193 = .ok (.if_icmp .gt 55, 3) := by decide +kernel
theorem dX5_generate_196 : decode cX5_generate 196 = .ok (.aload_n 0, 1) := by decide +kernel
theorem dX5_generate_197 : decode cX5_generate 197 = .ok (.getfield 50, 3) := by decide +kernel
theorem dX5_generate_200 : decode cX5_generate 200 = .ok (.iload 5, 2) := by decide +kernel
theorem dX5_generate_202 : decode cX5_generate 202 = .ok (.dup2, 1) := by decide +kernel
theorem dX5_generate_203 : decode cX5_generate 203 = .ok (.laload, 1) := by decide +kernel
theorem dX5_generate_204 : decode cX5_generate 204 = .ok (.aload_n 0, 1) := by decide +kernel
theorem dX5_generate_205 : decode cX5_generate 205 = .ok (.getfield 44, 3) := by decide +kernel
theorem dX5_generate_208 : decode cX5_generate 208 = .ok (.iload 5, 2) := by decide +kernel
theorem dX5_generate_210 : decode cX5_generate 210 = .ok (.iaload, 1) := by decide +kernel
theorem dX5_generate_211 : decode cX5_generate 211 = .ok (.ifCond .eq 24, 3) := by decide +kernel
theorem dX5_generate_214 : decode cX5_generate 214 = .ok (.aload_n 0, 1) := by decide +kernel
theorem dX5_generate_215 : decode cX5_generate 215 = .ok (.getfield 44, 3) := by decide +kernel
theorem dX5_generate_218 : decode cX5_generate 218 = .ok (.iload 5, 2) := by decide +kernel
theorem dX5_generate_220 : decode cX5_generate 220 = .ok (.iaload, 1) := by decide +kernel
theorem dX5_generate_221 : decode cX5_generate 221 = .ok (.ifCond .le 18, 3) := by decide +kernel
theorem dX5_generate_224 : decode cX5_generate 224 = .ok (.aload_n 0, 1) := by decide +kernel
theorem dX5_generate_225 : decode cX5_generate 225 = .ok (.getfield 44, 3) := by decide +kernel
theorem dX5_generate_228 : decode cX5_generate 228 = .ok (.iload 5, 2) := by decide +kernel
theorem dX5_generate_230 : decode cX5_generate 230 = .ok (.iaload, 1) := by decide +kernel
theorem dX5_generate_231 : decode cX5_generate 231 = .ok (.iload_n 1, 1) := by decide +kernel
theorem dX5_generate_232 : decode cX5_generate 232 = .ok (.if_icmp .ne 7, 3) := by decide +kernel
theorem dX5_generate_235 : decode cX5_generate 235 = .ok (.lload_n 2, 1) := by decide +kernel
theorem dX5_generate_236 : decode cX5_generate 236 = .ok (.goto 4, 3) := by decide +kernel
theorem dX5_generate_239 : decode cX5_generate 239 = .ok (.lconst 0, 1) := by decide +kernel
theorem dX5_generate_240 : decode cX5_generate 240 = .ok (.ladd, 1) := by decide +kernel
theorem dX5_generate_241 : decode cX5_generate 241 = .ok (.lastore, 1) := by decide +kernel
theorem dX5_generate_242 : decode cX5_generate 242 = .ok (.iinc 5 1, 3) := by decide +kernel
theorem dX5_generate_245 : decode cX5_generate 245 = .ok (.goto (-58), 3) := by decide +kernel
theorem dX5_generate_248 : decode cX5_generate 248 = .ok (.iload_n 1, 1) := by decide +kernel
theorem dX5_generate_249 : decode cX5_generate 249 = .ok (.ifCond .eq 10, 3) := by decide +kernel
theorem dX5_generate_252 : decode cX5_generate 252 = .ok (.aload_n 0, 1) := by decide +kernel
theorem dX5_generate_253 : decode cX5_generate 253 = .ok (.iload_n 1, 1) := by decide +kernel
theorem dX5_generate_254 : decode cX5_generate 254 = .ok (.lload_n 2, 1) := by decide +kernel
theorem dX5_generate_255 : decode cX5_generate 255 = .ok (.l2i, 1) := by decide +kernel
theorem dX5_generate_256 : decode cX5_generate 256 = .ok (.invokevirtual 146, 3) := by decide +kernel
theorem dX5_generate_259 : decode cX5_generate 259 = .ok (.aload_n 0, 1) := by decide +kernel
theorem dX5_generate_260 : decode cX5_generate 260 = .ok (.getfield 107, 3) := by decide +kernel
theorem dX5_generate_263 : decode cX5_generate 263 = .ok (.iload 4, 2) := by decide +kernel
theorem dX5_generate_265 : decode cX5_generate 265 = .ok (.isub, 1) := by decide +kernel
theorem dX5_generate_266 : decode cX5_generate 266 = .ok (.ireturn, 1) := by decide +kernel
theorem dX5_terminate_0 : decode cX5_terminate 0 = .ok (.aload_n 0, 1) := by decide +kernel
theorem dX5_terminate_1 : decode cX5_terminate 1 = .ok (.iconst 0, 1) := by decide +kernel
theorem dX5_terminate_2 : decode cX5_terminate 2 = .ok (.putfield 72, 3) := by decide +kernel
theorem dX5_terminate_5 : decode cX5_terminate 5 = .ok (.aload_n 0, 1) := by decide +kernel
theorem dX5_terminate_6 : decode cX5_terminate 6 = .ok (.getfield 85, 3) := by decide +kernel
theorem dX5_terminate_9 : decode cX5_terminate 9 = .ok (.ifCond .ne 6, 3) := by decide +kernel
theorem dX5_terminate_12 : decode cX5_terminate 12 = .ok (.bipush (-5), 2) := by decide +kernel
theorem dX5_terminate_14 : decode cX5_terminate 14 = .ok (.ireturn, 1) := by decide +kernel
theorem dX5_terminate_15 : decode cX5_terminate 15 = .ok (.aload_n 0, 1) := by decide +kernel
theorem dX5_terminate_16 : decode cX5_terminate 16 = .ok (.iconst 0, 1) := by decide +kernel
theorem dX5_terminate_17 : decode cX5_terminate 17 = .ok (.putfield 85, 3) := by decide +kernel
theorem dX5_terminate_20 : decode cX5_terminate 20 = .ok (.aload_n 0, 1) := by decide +kernel
theorem dX5_terminate_21 : decode cX5_terminate 21 = .ok (.getfield 153, 3) := by decide +kernel
theorem dX5_terminate_24 : decode cX5_terminate 24 = .ok (.ifCond .ne 5, 3) := by decide +kernel
theorem dX5_terminate_27 : decode cX5_terminate 27 = .ok (.iconst 0, 1) := by decide +kernel
theorem dX5_terminate_28 : decode cX5_terminate 28 = .ok (.ireturn, 1) := by decide +kernel
theorem dX5_terminate_29 : decode cX5_terminate 29 = .ok (.aload_n 0, 1) := by decide +kernel
theorem dX5_terminate_30 : decode cX5_terminate 30 = .ok (.getfield 82, 3) := by decide +kernel
theorem dX5_terminate_33 : decode cX5_terminate 33 = .ok (.istore_n 1, 1) := by decide +kernel
theorem dX5_terminate_34 : decode cX5_terminate 34 = .ok (.iload_n 1, 1) := by decide +kernel
theorem dX5_terminate_35 : decode cX5_terminate 35 = .ok (.ifCond .lt 14, 3) := by decide +kernel
theorem dX5_terminate_38 : decode cX5_terminate 38 = .ok (.aload_n 0, 1) := by decide +kernel
theorem dX5_terminate_39 : decode cX5_terminate 39 = .ok (.iload_n 1, 1) := by decide +kernel
theorem dX5_terminate_40 : decode cX5_terminate 40 = .ok (.invokevirtual 170, 3) := by decide +kernel
theorem dX5_terminate_43 : decode cX5_terminate 43 = .ok (.iinc 1 (-1), 3) := by decide +kernel
theorem dX5_terminate_46 : decode cX5_terminate 46 = .ok (.goto (-12), 3) := by decide +kernel
theorem dX5_terminate_49 : decode cX5_terminate 49 = .ok (.aload_n 0, 1) := by decide +kernel
theorem dX5_terminate_50 : decode cX5_terminate 50 = .ok (.invokevirtual 140, 3) := by decide +kernel
theorem dX5_terminate_53 : decode cX5_terminate 53 = .ok (.aload_n 0, 1) := by decide +kernel
theorem dX5_terminate_54 : decode cX5_terminate 54 = .ok (.bipush 6, 2) := by decide +kernel
theorem dX5_terminate_56 : decode cX5_terminate 56 = .ok (.invokevirtual 159, 3) := by decide +kernel
theorem dX5_terminate_59 : decode cX5_terminate 59 = .ok (.aload_n 0, 1) := by decide +kernel
theorem dX5_terminate_60 : decode cX5_terminate 60 = .ok (.getfield 107, 3) := by decide +kernel
theorem dX5_terminate_63 : decode cX5_terminate 63 = .ok (.ireturn, 1) := by decide +kernel
theorem dX5_at_0 : decode cX5_at 0 = .ok (.aload_n 0, 1) := by decide +kernel
theorem dX5_at_1 : decode cX5_at 1 = .ok (.iload_n 1, 1) := by decide +kernel
theorem dX5_at_2 : decode cX5_at 2 = .ok (.ifCond .lt 20, 3) := by decide +kernel
theorem dX5_at_5 : decode cX5_at 5 = .ok (.iload_n 1, 1) := by decide +kernel
theorem dX5_at_6 : decode cX5_at 6 = .ok (.aload_n 0, 1) := by decide +kernel
theorem dX5_at_7 : decode cX5_at 7 = .ok (.getfield 107, 3) := by decide +kernel
theorem dX5_at_10 : decode cX5_at 10 = .ok (.if_icmp .ge 12, 3) := by decide +kernel
theorem dX5_at_13 : decode cX5_at 13 = .ok (.iload_n 2, 1) := by decide +kernel
theorem dX5_at_14 : decode cX5_at 14 = .ok (.ifCond .lt 8, 3) := by decide +kernel
theorem dX5_at_17 : decode cX5_at 17 = .ok (.iload_n 2, 1) := by decide +kernel
theorem dX5_at_18 : decode cX5_at 18 = .ok (.iconst 4, 1) := by decide +kernel
theorem dX5_at_19 : decode cX5_at 19 = .ok (.if_icmp .le 7, 3) := by decide +kernel
theorem dX5_at_22 : decode cX5_at 22 = .ok (.iconst 1, 1) := by decide +kernel
theorem dX5_at_23 : decode cX5_at 23 = .ok (.goto 4, 3) := by decide +kernel
theorem dX5_at_26 : decode cX5_at 26 = .ok (.iconst 0, 1) := by decide +kernel
theorem dX5_at_27 : decode cX5_at 27 = .ok (.putfield 72, 3) := by decide +kernel
theorem dX5_at_30 : decode cX5_at 30 = .ok (.aload_n 0, 1) := by decide +kernel
theorem dX5_at_31 : decode cX5_at 31 = .ok (.getfield 72, 3) := by decide +kernel
theorem dX5_at_34 : decode cX5_at 34 = .ok (.ifCond .le 7, 3) := by decide +kernel
theorem dX5_at_37 : decode cX5_at 37 = .ok (.iconst 0, 1) := by decide +kernel
theorem dX5_at_38 : decode cX5_at 38 = .ok (.goto 13, 3) := by decide +kernel
theorem dX5_at_41 : decode cX5_at 41 = .ok (.aload_n 0, 1) := by decide +kernel
theorem dX5_at_42 : decode cX5_at 42 = .ok (.getfield 55, 3) := by decide +kernel
theorem dX5_at_45 : decode cX5_at 45 = .ok (.iconst 5, 1) := by decide +kernel
theorem dX5_at_46 : decode cX5_at 46 = .ok (.iload_n 1, 1) := by decide +kernel
theorem dX5_at_47 : decode cX5_at 47 = .ok (.imul, 1) := by decide +kernel
theorem dX5_at_48 : decode cX5_at 48 = .ok (.iload_n 2, 1) := by decide +kernel
theorem dX5_at_49 : decode cX5_at 49 = .ok (.iadd, 1) := by decide +kernel
theorem dX5_at_50 : decode cX5_at 50 = .ok (.iaload, 1) := by decide +kernel
theorem dX5_at_51 : decode cX5_at 51 = .ok (.ireturn, 1) := by decide +kernel
theorem dX5_lines_0 : decode cX5_lines 0 = .ok (.aload_n 0, 1) := by decide +kernel
theorem dX5_lines_1 : decode cX5_lines 1 = .ok (.iconst 0, 1) := by decide +kernel
theorem dX5_lines_2 : decode cX5_lines 2 = .ok (.putfield 72, 3) := by decide +kernel
theorem dX5_lines_5 : decode cX5_lines 5 = .ok (.aload_n 0, 1) := by decide +kernel
theorem dX5_lines_6 : decode cX5_lines 6 = .ok (.getfield 107, 3) := by decide +kernel
theorem dX5_lines_9 : decode cX5_lines 9 = .ok (.ireturn, 1) := by decide +kernel
theorem dX5_total_0 : decode cX5_total 0 = .ok (.aload_n 0, 1) := by decide +kernel
theorem dX5_total_1 : decode cX5_total 1 = .ok (.iconst 0, 1) := by decide +kernel
theorem dX5_total_2 : decode cX5_total 2 = .ok (.putfield 72, 3) := by decide +kernel
theorem dX5_total_5 : decode cX5_total 5 = .ok (.iload_n 1, 1) := by decide +kernel
theorem dX5_total_6 : decode cX5_total 6 = .ok (.ifCond .le 20, 3) := by decide +kernel
theorem dX5_total_9 : decode cX5_total 9 = .ok (.iload_n 1, 1) := by decide +kernel
theorem dX5_total_10 : decode cX5_total 10 = .ok (.aload_n 0, 1) := by decide +kernel
theorem dX5_total_11 : decode cX5_total 11 = .ok (.getfield 100, 3) := by decide +kernel
theorem dX5_total_14 : decode cX5_total 14 = .ok (.if_icmp .gt 12, 3) := by decide +kernel
theorem dX5_total_17 : decode cX5_total 17 = .ok (.aload_n 0, 1) := by decide +kernel
theorem dX5_total_18 : decode cX5_total 18 = .ok (.getfield 50, 3) := by decide +kernel
theorem dX5_total_21 : decode cX5_total 21 = .ok (.iload_n 1, 1) := by decide +kernel
theorem dX5_total_22 : decode cX5_total 22 = .ok (.laload, 1) := by decide +kernel
theorem dX5_total_23 : decode cX5_total 23 = .ok (.goto 4, 3) := by decide +kernel
theorem dX5_total_26 : decode cX5_total 26 = .ok (.lconst 0, 1) := by decide +kernel
theorem dX5_total_27 : decode cX5_total 27 = .ok (.lreturn, 1) := by decide +kernel
theorem dX5_counter_0 : decode cX5_counter 0 = .ok (.aload_n 0, 1) := by decide +kernel
theorem dX5_counter_1 : decode cX5_counter 1 = .ok (.iconst 0, 1) := by decide +kernel
theorem dX5_counter_2 : decode cX5_counter 2 = .ok (.putfield 72, 3) := by decide +kernel
theorem dX5_counter_5 : decode cX5_counter 5 = .ok (.iload_n 1, 1) := by decide +kernel
theorem dX5_counter_6 : decode cX5_counter 6 = .ok (.tableswitch 85 0 6 #[42, 47, 52, 65, 70, 75, 80], 42) := by decide +kernel
theorem dX5_counter_48 : decode cX5_counter 48 = .ok (.aload_n 0, 1) := by decide +kernel
theorem dX5_counter_49 : decode cX5_counter 49 = .ok (.getfield 110, 3) := by decide +kernel
theorem dX5_counter_52 : decode cX5_counter 52 = .ok (.ireturn, 1) := by decide +kernel
theorem dX5_counter_53 : decode cX5_counter 53 = .ok (.aload_n 0, 1) := by decide +kernel
theorem dX5_counter_54 : decode cX5_counter 54 = .ok (.getfield 113, 3) := by decide +kernel
theorem dX5_counter_57 : decode cX5_counter 57 = .ok (.ireturn, 1) := by decide +kernel
theorem dX5_counter_58 : decode cX5_counter 58 = .ok (.aload_n 0, 1) := by decide +kernel
theorem dX5_counter_59 : decode cX5_counter 59 = .ok (.getfield 85, 3) := by decide +kernel
theorem dX5_counter_62 : decode cX5_counter 62 = .ok (.ifCond .eq 7, 3) := by decide +kernel
theorem dX5_counter_65 : decode cX5_counter 65 = .ok (.iconst 1, 1) := by decide +kernel
theorem dX5_counter_66 : decode cX5_counter 66 = .ok (.goto 4, 3) := by decide +kernel
theorem dX5_counter_69 : decode cX5_counter 69 = .ok (.iconst 0, 1) := by decide +kernel
theorem dX5_counter_70 : decode cX5_counter 70 = .ok (.ireturn, 1) := by decide +kernel
theorem dX5_counter_71 : decode cX5_counter 71 = .ok (.aload_n 0, 1) := by decide +kernel
theorem dX5_counter_72 : decode cX5_counter 72 = .ok (.getfield 75, 3) := by decide +kernel
theorem dX5_counter_75 : decode cX5_counter 75 = .ok (.ireturn, 1) := by decide +kernel
theorem dX5_counter_76 : decode cX5_counter 76 = .ok (.aload_n 0, 1) := by decide +kernel
theorem dX5_counter_77 : decode cX5_counter 77 = .ok (.getfield 153, 3) := by decide +kernel
theorem dX5_counter_80 : decode cX5_counter 80 = .ok (.ireturn, 1) := by decide +kernel
theorem dX5_counter_81 : decode cX5_counter 81 = .ok (.aload_n 0, 1) := by decide +kernel
theorem dX5_counter_82 : decode cX5_counter 82 = .ok (.getfield 156, 3) := by decide +kernel
theorem dX5_counter_85 : decode cX5_counter 85 = .ok (.ireturn, 1) := by decide +kernel
theorem dX5_counter_86 : decode cX5_counter 86 = .ok (.aload_n 0, 1) := by decide +kernel
theorem dX5_counter_87 : decode cX5_counter 87 = .ok (.getfield 82, 3) := by decide +kernel
theorem dX5_counter_90 : decode cX5_counter 90 = .ok (.ireturn, 1) := by decide +kernel
theorem dX5_counter_91 : decode cX5_counter 91 = .ok (.iconst (-1), 1) := by decide +kernel
end
section
theorem dX5_counter_92 : decode cX5_counter 92 = .ok (.ireturn, 1) := by decide +kernel
theorem dJx00060_init_a7421_0 : decode cJx00060_init_a7421 0 = .ok (.aload_n 0, 1) := by decide +kernel
theorem dJx00060_init_a7421_1 : decode cJx00060_init_a7421 1 = .ok (.aload_n 1, 1) := by decide +kernel
theorem dJx00060_init_a7421_2 : decode cJx00060_init_a7421 2 = .ok (.invokespecial 7, 3) := by decide +kernel
theorem dJx00060_init_a7421_5 : decode cJx00060_init_a7421 5 = .ok (.return_, 1) := by decide +kernel
theorem dJ9_max_7cf53_0 : decode cJ9_max_7cf53 0 = .ok (.iload_n 0, 1) := by decide +kernel
theorem dJ9_max_7cf53_1 : decode cJ9_max_7cf53 1 = .ok (.iload_n 1, 1) := by decide +kernel
theorem dJ9_max_7cf53_2 : decode cJ9_max_7cf53 2 = .ok (.if_icmp .lt 7, 3) := by decide +kernel
theorem dJ9_max_7cf53_5 : decode cJ9_max_7cf53 5 = .ok (.iload_n 0, 1) := by decide +kernel
theorem dJ9_max_7cf53_6 : decode cJ9_max_7cf53 6 = .ok (.goto 4, 3) := by decide +kernel
theorem dJ9_max_7cf53_9 : decode cJ9_max_7cf53 9 = .ok (.iload_n 1, 1) := by decide +kernel
theorem dJ9_max_7cf53_10 : decode cJ9_max_7cf53 10 = .ok (.ireturn, 1) := by decide +kernel
theorem dJ9_min_7cf53_0 : decode cJ9_min_7cf53 0 = .ok (.iload_n 0, 1) := by decide +kernel
theorem dJ9_min_7cf53_1 : decode cJ9_min_7cf53 1 = .ok (.iload_n 1, 1) := by decide +kernel
theorem dJ9_min_7cf53_2 : decode cJ9_min_7cf53 2 = .ok (.if_icmp .gt 7, 3) := by decide +kernel
theorem dJ9_min_7cf53_5 : decode cJ9_min_7cf53 5 = .ok (.iload_n 0, 1) := by decide +kernel
theorem dJ9_min_7cf53_6 : decode cJ9_min_7cf53 6 = .ok (.goto 4, 3) := by decide +kernel
theorem dJ9_min_7cf53_9 : decode cJ9_min_7cf53 9 = .ok (.iload_n 1, 1) := by decide +kernel
theorem dJ9_min_7cf53_10 : decode cJ9_min_7cf53 10 = .ok (.ireturn, 1) := by decide +kernel
theorem dJxa1e45_init_da8c8_0 : decode cJxa1e45_init_da8c8 0 = .ok (.aload_n 0, 1) := by decide +kernel
theorem dJxa1e45_init_da8c8_1 : decode cJxa1e45_init_da8c8 1 = .ok (.invokespecial 1, 3) := by decide +kernel
theorem dJxa1e45_init_da8c8_4 : decode cJxa1e45_init_da8c8 4 = .ok (.return_, 1) := by decide +kernel
theorem dJxc12de_init_da8c8_0 : decode cJxc12de_init_da8c8 0 = .ok (.aload_n 0, 1) := by decide +kernel
theorem dJxc12de_init_da8c8_1 : decode cJxc12de_init_da8c8 1 = .ok (.invokespecial 1, 3) := by decide +kernel
theorem dJxc12de_init_da8c8_4 : decode cJxc12de_init_da8c8 4 = .ok (.aload_n 0, 1) := by decide +kernel
theorem dJxc12de_init_da8c8_5 : decode cJxc12de_init_da8c8 5 = .ok (.iconst 0, 1) := by decide +kernel
theorem dJxc12de_init_da8c8_6 : decode cJxc12de_init_da8c8 6 = .ok (.putfield 7, 3) := by decide +kernel
theorem dJxc12de_init_da8c8_9 : decode cJxc12de_init_da8c8 9 = .ok (.return_, 1) := by decide +kernel
theorem dJx4a65c_init_da8c8_0 : decode cJx4a65c_init_da8c8 0 = .ok (.aload_n 0, 1) := by decide +kernel
theorem dJx4a65c_init_da8c8_1 : decode cJx4a65c_init_da8c8 1 = .ok (.invokespecial 1, 3) := by decide +kernel
theorem dJx4a65c_init_da8c8_4 : decode cJx4a65c_init_da8c8 4 = .ok (.aload_n 0, 1) := by decide +kernel
theorem dJx4a65c_init_da8c8_5 : decode cJx4a65c_init_da8c8 5 = .ok (.getstatic 39, 3) := by decide +kernel
theorem dJx4a65c_init_da8c8_8 : decode cJx4a65c_init_da8c8 8 = .ok (.putfield 9, 3) := by decide +kernel
theorem dJx4a65c_init_da8c8_11 : decode cJx4a65c_init_da8c8 11 = .ok (.return_, 1) := by decide +kernel
theorem dJx4a65c_grow_92f84_0 : decode cJx4a65c_grow_92f84 0 = .ok (.aload_n 0, 1) := by decide +kernel
theorem dJx4a65c_grow_92f84_1 : decode cJx4a65c_grow_92f84 1 = .ok (.getfield 9, 3) := by decide +kernel
theorem dJx4a65c_grow_92f84_4 : decode cJx4a65c_grow_92f84 4 = .ok (.arraylength, 1) := by decide +kernel
theorem dJx4a65c_grow_92f84_5 : decode cJx4a65c_grow_92f84 5 = .ok (.istore_n 2, 1) := by decide +kernel
theorem dJx4a65c_grow_92f84_6 : decode cJx4a65c_grow_92f84 6 = .ok (.iload_n 2, 1) := by decide +kernel
theorem dJx4a65c_grow_92f84_7 : decode cJx4a65c_grow_92f84 7 = .ok (.ifCond .gt 13, 3) := by decide +kernel
theorem dJx4a65c_grow_92f84_10 : decode cJx4a65c_grow_92f84 10 = .ok (.aload_n 0, 1) := by decide +kernel
theorem dJx4a65c_grow_92f84_11 : decode cJx4a65c_grow_92f84 11 = .ok (.getfield 9, 3) := by decide +kernel
theorem dJx4a65c_grow_92f84_14 : decode cJx4a65c_grow_92f84 14 = .ok (.getstatic 39, 3) := by decide +kernel
theorem dJx4a65c_grow_92f84_17 : decode cJx4a65c_grow_92f84 17 = .ok (.if_acmp .eq 28, 3) := by decide +kernel
theorem dJx4a65c_grow_92f84_20 : decode cJx4a65c_grow_92f84 20 = .ok (.iload_n 2, 1) := by decide +kernel
theorem dJx4a65c_grow_92f84_21 : decode cJx4a65c_grow_92f84 21 = .ok (.iload_n 1, 1) := by decide +kernel
theorem dJx4a65c_grow_92f84_22 : decode cJx4a65c_grow_92f84 22 = .ok (.iload_n 2, 1) := by decide +kernel
theorem dJx4a65c_grow_92f84_23 : decode cJx4a65c_grow_92f84 23 = .ok (.isub, 1) := by decide +kernel
theorem dJx4a65c_grow_92f84_24 : decode cJx4a65c_grow_92f84 24 = .ok (.iload_n 2, 1) := by decide +kernel
theorem dJx4a65c_grow_92f84_25 : decode cJx4a65c_grow_92f84 25 = .ok (.iconst 1, 1) := by decide +kernel
theorem dJx4a65c_grow_92f84_26 : decode cJx4a65c_grow_92f84 26 = .ok (.ishr, 1) := by decide +kernel
theorem dJx4a65c_grow_92f84_27 : decode cJx4a65c_grow_92f84 27 = .ok (.invokestatic 73, 3) := by decide +kernel
theorem dJx4a65c_grow_92f84_30 : decode cJx4a65c_grow_92f84 30 = .ok (.istore_n 3, 1) := by decide +kernel
theorem dJx4a65c_grow_92f84_31 : decode cJx4a65c_grow_92f84 31 = .ok (.aload_n 0, 1) := by decide +kernel
theorem dJx4a65c_grow_92f84_32 : decode cJx4a65c_grow_92f84 32 = .ok (.aload_n 0, 1) := by decide +kernel
theorem dJx4a65c_grow_92f84_33 : decode cJx4a65c_grow_92f84 33 = .ok (.getfield 9, 3) := by decide +kernel
theorem dJx4a65c_grow_92f84_36 : decode cJx4a65c_grow_92f84 36 = .ok (.iload_n 3, 1) := by decide +kernel
theorem dJx4a65c_grow_92f84_37 : decode cJx4a65c_grow_92f84 37 = .ok (.invokestatic 66, 3) := by decide +kernel
theorem dJx4a65c_grow_92f84_40 : decode cJx4a65c_grow_92f84 40 = .ok (.dup_x1, 1) := by decide +kernel
theorem dJx4a65c_grow_92f84_41 : decode cJx4a65c_grow_92f84 41 = .ok (.putfield 9, 3) := by decide +kernel
theorem dJx4a65c_grow_92f84_44 : decode cJx4a65c_grow_92f84 44 = .ok (.areturn, 1) := by decide +kernel
theorem dJx4a65c_grow_92f84_45 : decode cJx4a65c_grow_92f84 45 = .ok (.aload_n 0, 1) := by decide +kernel
theorem dJx4a65c_grow_92f84_46 : decode cJx4a65c_grow_92f84 46 = .ok (.bipush 10, 2) := by decide +kernel
theorem dJx4a65c_grow_92f84_48 : decode cJx4a65c_grow_92f84 48 = .ok (.iload_n 1, 1) := by decide +kernel
theorem dJx4a65c_grow_92f84_49 : decode cJx4a65c_grow_92f84 49 = .ok (.invokestatic 79, 3) := by decide +kernel
theorem dJx4a65c_grow_92f84_52 : decode cJx4a65c_grow_92f84 52 = .ok (.anewarray 7, 3) := by decide +kernel
theorem dJx4a65c_grow_92f84_55 : decode cJx4a65c_grow_92f84 55 = .ok (.dup_x1, 1) := by decide +kernel
theorem dJx4a65c_grow_92f84_56 : decode cJx4a65c_grow_92f84 56 = .ok (.putfield 9, 3) := by decide +kernel
theorem dJx4a65c_grow_92f84_59 : decode cJx4a65c_grow_92f84 59 = .ok (.areturn, 1) := by decide +kernel
theorem dJx4a65c_grow_d5877_0 : decode cJx4a65c_grow_d5877 0 = .ok (.aload_n 0, 1) := by decide +kernel
theorem dJx4a65c_grow_d5877_1 : decode cJx4a65c_grow_d5877 1 = .ok (.aload_n 0, 1) := by decide +kernel
theorem dJx4a65c_grow_d5877_2 : decode cJx4a65c_grow_d5877 2 = .ok (.getfield 48, 3) := by decide +kernel
theorem dJx4a65c_grow_d5877_5 : decode cJx4a65c_grow_d5877 5 = .ok (.iconst 1, 1) := by decide +kernel
theorem dJx4a65c_grow_d5877_6 : decode cJx4a65c_grow_d5877 6 = .ok (.iadd, 1) := by decide +kernel
theorem dJx4a65c_grow_d5877_7 : decode cJx4a65c_grow_d5877 7 = .ok (.invokevirtual 69, 3) := by decide +kernel
theorem dJx4a65c_grow_d5877_10 : decode cJx4a65c_grow_d5877 10 = .ok (.areturn, 1) := by decide +kernel
theorem dJx4a65c_size_8abf5_0 : decode cJx4a65c_size_8abf5 0 = .ok (.aload_n 0, 1) := by decide +kernel
theorem dJx4a65c_size_8abf5_1 : decode cJx4a65c_size_8abf5 1 = .ok (.getfield 48, 3) := by decide +kernel
theorem dJx4a65c_size_8abf5_4 : decode cJx4a65c_size_8abf5 4 = .ok (.ireturn, 1) := by decide +kernel
theorem dJx4a65c_elementData_915e3_0 : decode cJx4a65c_elementData_915e3 0 = .ok (.aload_n 0, 1) := by decide +kernel
theorem dJx4a65c_elementData_915e3_1 : decode cJx4a65c_elementData_915e3 1 = .ok (.getfield 9, 3) := by decide +kernel
theorem dJx4a65c_elementData_915e3_4 : decode cJx4a65c_elementData_915e3 4 = .ok (.iload_n 1, 1) := by decide +kernel
theorem dJx4a65c_elementData_915e3_5 : decode cJx4a65c_elementData_915e3 5 = .ok (.aaload, 1) := by decide +kernel
theorem dJx4a65c_elementData_915e3_6 : decode cJx4a65c_elementData_915e3 6 = .ok (.areturn, 1) := by decide +kernel
theorem dJx4a65c_get_915e3_0 : decode cJx4a65c_get_915e3 0 = .ok (.iload_n 1, 1) := by decide +kernel
theorem dJx4a65c_get_915e3_1 : decode cJx4a65c_get_915e3 1 = .ok (.aload_n 0, 1) := by decide +kernel
theorem dJx4a65c_get_915e3_2 : decode cJx4a65c_get_915e3 2 = .ok (.getfield 48, 3) := by decide +kernel
theorem dJx4a65c_get_915e3_5 : decode cJx4a65c_get_915e3 5 = .ok (.invokestatic 118, 3) := by decide +kernel
theorem dJx4a65c_get_915e3_8 : decode cJx4a65c_get_915e3 8 = .ok (.pop, 1) := by decide +kernel
theorem dJx4a65c_get_915e3_9 : decode cJx4a65c_get_915e3 9 = .ok (.aload_n 0, 1) := by decide +kernel
theorem dJx4a65c_get_915e3_10 : decode cJx4a65c_get_915e3 10 = .ok (.iload_n 1, 1) := by decide +kernel
theorem dJx4a65c_get_915e3_11 : decode cJx4a65c_get_915e3 11 = .ok (.invokevirtual 123, 3) := by decide +kernel
theorem dJx4a65c_get_915e3_14 : decode cJx4a65c_get_915e3 14 = .ok (.areturn, 1) := by decide +kernel
theorem dJx4a65c_add_72be8_0 : decode cJx4a65c_add_72be8 0 = .ok (.iload_n 3, 1) := by decide +kernel
theorem dJx4a65c_add_72be8_1 : decode cJx4a65c_add_72be8 1 = .ok (.aload_n 2, 1) := by decide +kernel
theorem dJx4a65c_add_72be8_2 : decode cJx4a65c_add_72be8 2 = .ok (.arraylength, 1) := by decide +kernel
theorem dJx4a65c_add_72be8_3 : decode cJx4a65c_add_72be8 3 = .ok (.if_icmp .ne 8, 3) := by decide +kernel
theorem dJx4a65c_add_72be8_6 : decode cJx4a65c_add_72be8 6 = .ok (.aload_n 0, 1) := by decide +kernel
theorem dJx4a65c_add_72be8_7 : decode cJx4a65c_add_72be8 7 = .ok (.invokevirtual 129, 3) := by decide +kernel
theorem dJx4a65c_add_72be8_10 : decode cJx4a65c_add_72be8 10 = .ok (.astore_n 2, 1) := by decide +kernel
theorem dJx4a65c_add_72be8_11 : decode cJx4a65c_add_72be8 11 = .ok (.aload_n 2, 1) := by decide +kernel
theorem dJx4a65c_add_72be8_12 : decode cJx4a65c_add_72be8 12 = .ok (.iload_n 3, 1) := by decide +kernel
theorem dJx4a65c_add_72be8_13 : decode cJx4a65c_add_72be8 13 = .ok (.aload_n 1, 1) := by decide +kernel
theorem dJx4a65c_add_72be8_14 : decode cJx4a65c_add_72be8 14 = .ok (.aastore, 1) := by decide +kernel
theorem dJx4a65c_add_72be8_15 : decode cJx4a65c_add_72be8 15 = .ok (.aload_n 0, 1) := by decide +kernel
theorem dJx4a65c_add_72be8_16 : decode cJx4a65c_add_72be8 16 = .ok (.iload_n 3, 1) := by decide +kernel
theorem dJx4a65c_add_72be8_17 : decode cJx4a65c_add_72be8 17 = .ok (.iconst 1, 1) := by decide +kernel
theorem dJx4a65c_add_72be8_18 : decode cJx4a65c_add_72be8 18 = .ok (.iadd, 1) := by decide +kernel
theorem dJx4a65c_add_72be8_19 : decode cJx4a65c_add_72be8 19 = .ok (.putfield 48, 3) := by decide +kernel
theorem dJx4a65c_add_72be8_22 : decode cJx4a65c_add_72be8 22 = .ok (.return_, 1) := by decide +kernel
theorem dJx4a65c_add_9ea2d_0 : decode cJx4a65c_add_9ea2d 0 = .ok (.aload_n 0, 1) := by decide +kernel
theorem dJx4a65c_add_9ea2d_1 : decode cJx4a65c_add_9ea2d 1 = .ok (.dup, 1) := by decide +kernel
theorem dJx4a65c_add_9ea2d_2 : decode cJx4a65c_add_9ea2d 2 = .ok (.getfield 63, 3) := by decide +kernel
theorem dJx4a65c_add_9ea2d_5 : decode cJx4a65c_add_9ea2d 5 = .ok (.iconst 1, 1) := by decide +kernel
theorem dJx4a65c_add_9ea2d_6 : decode cJx4a65c_add_9ea2d 6 = .ok (.iadd, 1) := by decide +kernel
theorem dJx4a65c_add_9ea2d_7 : decode cJx4a65c_add_9ea2d 7 = .ok (.putfield 63, 3) := by decide +kernel
theorem dJx4a65c_add_9ea2d_10 : decode cJx4a65c_add_9ea2d 10 = .ok (.aload_n 0, 1) := by decide +kernel
theorem dJx4a65c_add_9ea2d_11 : decode cJx4a65c_add_9ea2d 11 = .ok (.aload_n 1, 1) := by decide +kernel
theorem dJx4a65c_add_9ea2d_12 : decode cJx4a65c_add_9ea2d 12 = .ok (.aload_n 0, 1) := by decide +kernel
theorem dJx4a65c_add_9ea2d_13 : decode cJx4a65c_add_9ea2d 13 = .ok (.getfield 9, 3) := by decide +kernel
theorem dJx4a65c_add_9ea2d_16 : decode cJx4a65c_add_9ea2d 16 = .ok (.aload_n 0, 1) := by decide +kernel
theorem dJx4a65c_add_9ea2d_17 : decode cJx4a65c_add_9ea2d 17 = .ok (.getfield 48, 3) := by decide +kernel
theorem dJx4a65c_add_9ea2d_20 : decode cJx4a65c_add_9ea2d 20 = .ok (.invokevirtual 131, 3) := by decide +kernel
theorem dJx4a65c_add_9ea2d_23 : decode cJx4a65c_add_9ea2d 23 = .ok (.iconst 1, 1) := by decide +kernel
theorem dJx4a65c_add_9ea2d_24 : decode cJx4a65c_add_9ea2d 24 = .ok (.ireturn, 1) := by decide +kernel
theorem dJ7_copyOf_1904c_0 : decode cJ7_copyOf_1904c 0 = .ok (.aload_n 0, 1) := by decide +kernel
theorem dJ7_copyOf_1904c_1 : decode cJ7_copyOf_1904c 1 = .ok (.iload_n 1, 1) := by decide +kernel
theorem dJ7_copyOf_1904c_2 : decode cJ7_copyOf_1904c 2 = .ok (.aload_n 0, 1) := by decide +kernel
theorem dJ7_copyOf_1904c_3 : decode cJ7_copyOf_1904c 3 = .ok (.invokevirtual 86, 3) := by decide +kernel
theorem dJ7_copyOf_1904c_6 : decode cJ7_copyOf_1904c 6 = .ok (.invokestatic 300, 3) := by decide +kernel
theorem dJ7_copyOf_1904c_9 : decode cJ7_copyOf_1904c 9 = .ok (.areturn, 1) := by decide +kernel
theorem dJ7_copyOf_6403c_0 : decode cJ7_copyOf_6403c 0 = .ok (.aload_n 2, 1) := by decide +kernel
theorem dJ7_copyOf_6403c_1 : decode cJ7_copyOf_6403c 1 = .ok (.ldc 110, 2) := by decide +kernel
theorem dJ7_copyOf_6403c_3 : decode cJ7_copyOf_6403c 3 = .ok (.if_acmp .ne 10, 3) := by decide +kernel
theorem dJ7_copyOf_6403c_6 : decode cJ7_copyOf_6403c 6 = .ok (.iload_n 1, 1) := by decide +kernel
theorem dJ7_copyOf_6403c_7 : decode cJ7_copyOf_6403c 7 = .ok (.anewarray 2, 3) := by decide +kernel
theorem dJ7_copyOf_6403c_10 : decode cJ7_copyOf_6403c 10 = .ok (.goto 14, 3) := by decide +kernel
theorem dJ7_copyOf_6403c_13 : decode cJ7_copyOf_6403c 13 = .ok (.aload_n 2, 1) := by decide +kernel
theorem dJ7_copyOf_6403c_14 : decode cJ7_copyOf_6403c 14 = .ok (.invokevirtual 90, 3) := by decide +kernel
theorem dJ7_copyOf_6403c_17 : decode cJ7_copyOf_6403c 17 = .ok (.iload_n 1, 1) := by decide +kernel
theorem dJ7_copyOf_6403c_18 : decode cJ7_copyOf_6403c 18 = .ok (.invokestatic 95, 3) := by decide +kernel
theorem dJ7_copyOf_6403c_21 : decode cJ7_copyOf_6403c 21 = .ok (.checkcast 110, 3) := by decide +kernel
theorem dJ7_copyOf_6403c_24 : decode cJ7_copyOf_6403c 24 = .ok (.astore_n 3, 1) := by decide +kernel
theorem dJ7_copyOf_6403c_25 : decode cJ7_copyOf_6403c 25 = .ok (.aload_n 0, 1) := by decide +kernel
theorem dJ7_copyOf_6403c_26 : decode cJ7_copyOf_6403c 26 = .ok (.iconst 0, 1) := by decide +kernel
theorem dJ7_copyOf_6403c_27 : decode cJ7_copyOf_6403c 27 = .ok (.aload_n 3, 1) := by decide +kernel
theorem dJ7_copyOf_6403c_28 : decode cJ7_copyOf_6403c 28 = .ok (.iconst 0, 1) := by decide +kernel
theorem dJ7_copyOf_6403c_29 : decode cJ7_copyOf_6403c 29 = .ok (.aload_n 0, 1) := by decide +kernel
theorem dJ7_copyOf_6403c_30 : decode cJ7_copyOf_6403c 30 = .ok (.arraylength, 1) := by decide +kernel
theorem dJ7_copyOf_6403c_31 : decode cJ7_copyOf_6403c 31 = .ok (.iload_n 1, 1) := by decide +kernel
theorem dJ7_copyOf_6403c_32 : decode cJ7_copyOf_6403c 32 = .ok (.invokestatic 304, 3) := by decide +kernel
theorem dJ7_copyOf_6403c_35 : decode cJ7_copyOf_6403c 35 = .ok (.invokestatic 150, 3) := by decide +kernel
theorem dJ7_copyOf_6403c_38 : decode cJ7_copyOf_6403c 38 = .ok (.aload_n 3, 1) := by decide +kernel
theorem dJ7_copyOf_6403c_39 : decode cJ7_copyOf_6403c 39 = .ok (.areturn, 1) := by decide +kernel
theorem dJ15_checkIndex_7cf53_0 : decode cJ15_checkIndex_7cf53 0 = .ok (.iload_n 0, 1) := by decide +kernel
theorem dJ15_checkIndex_7cf53_1 : decode cJ15_checkIndex_7cf53 1 = .ok (.iload_n 1, 1) := by decide +kernel
theorem dJ15_checkIndex_7cf53_2 : decode cJ15_checkIndex_7cf53 2 = .ok (.aconst_null, 1) := by decide +kernel
theorem dJ15_checkIndex_7cf53_3 : decode cJ15_checkIndex_7cf53 3 = .ok (.invokestatic 105, 3) := by decide +kernel
theorem dJ15_checkIndex_7cf53_6 : decode cJ15_checkIndex_7cf53 6 = .ok (.ireturn, 1) := by decide +kernel
theorem dJ8_newLength_cabcc_0 : decode cJ8_newLength_cabcc 0 = .ok (.iload_n 0, 1) := by decide +kernel
theorem dJ8_newLength_cabcc_1 : decode cJ8_newLength_cabcc 1 = .ok (.iload_n 1, 1) := by decide +kernel
theorem dJ8_newLength_cabcc_2 : decode cJ8_newLength_cabcc 2 = .ok (.iload_n 2, 1) := by decide +kernel
theorem dJ8_newLength_cabcc_3 : decode cJ8_newLength_cabcc 3 = .ok (.invokestatic 194, 3) := by decide +kernel
theorem dJ8_newLength_cabcc_6 : decode cJ8_newLength_cabcc 6 = .ok (.iadd, 1) := by decide +kernel
theorem dJ8_newLength_cabcc_7 : decode cJ8_newLength_cabcc 7 = .ok (.istore_n 3, 1) := by decide +kernel
theorem dJ8_newLength_cabcc_8 : decode cJ8_newLength_cabcc 8 = .ok (.iconst 0, 1) := by decide +kernel
theorem dJ8_newLength_cabcc_9 : decode cJ8_newLength_cabcc 9 = .ok (.iload_n 3, 1) := by decide +kernel
theorem dJ8_newLength_cabcc_10 : decode cJ8_newLength_cabcc 10 = .ok (.if_icmp .ge 11, 3) := by decide +kernel
theorem dJ8_newLength_cabcc_13 : decode cJ8_newLength_cabcc 13 = .ok (.iload_n 3, 1) := by decide +kernel
theorem dJ8_newLength_cabcc_14 : decode cJ8_newLength_cabcc 14 = .ok (.ldc 200, 2) := by decide +kernel
theorem dJ8_newLength_cabcc_16 : decode cJ8_newLength_cabcc 16 = .ok (.if_icmp .gt 5, 3) := by decide +kernel
theorem dJ8_newLength_cabcc_19 : decode cJ8_newLength_cabcc 19 = .ok (.iload_n 3, 1) := by decide +kernel
theorem dJ8_newLength_cabcc_20 : decode cJ8_newLength_cabcc 20 = .ok (.ireturn, 1) := by decide +kernel
theorem dJ8_newLength_cabcc_21 : decode cJ8_newLength_cabcc 21 = .ok (.iload_n 0, 1) := by decide +kernel
theorem dJ8_newLength_cabcc_22 : decode cJ8_newLength_cabcc 22 = .ok (.iload_n 1, 1) := by decide +kernel
theorem dJ8_newLength_cabcc_23 : decode cJ8_newLength_cabcc 23 = .ok (.invokestatic 201, 3) := by decide +kernel
theorem dJ8_newLength_cabcc_26 : decode cJ8_newLength_cabcc 26 = .ok (.ireturn, 1) := by decide +kernel
theorem dJ8_hugeLength_7cf53_0 : decode cJ8_hugeLength_7cf53 0 = .ok (.iload_n 0, 1) := by decide +kernel
theorem dJ8_hugeLength_7cf53_1 : decode cJ8_hugeLength_7cf53 1 = .ok (.iload_n 1, 1) := by decide +kernel
theorem dJ8_hugeLength_7cf53_2 : decode cJ8_hugeLength_7cf53 2 = .ok (.iadd, 1) := by decide +kernel
theorem dJ8_hugeLength_7cf53_3 : decode cJ8_hugeLength_7cf53 3 = .ok (.istore_n 2, 1) := by decide +kernel
theorem dJ8_hugeLength_7cf53_4 : decode cJ8_hugeLength_7cf53 4 = .ok (.iload_n 2, 1) := by decide +kernel
theorem dJ8_hugeLength_7cf53_5 : decode cJ8_hugeLength_7cf53 5 = .ok (.ifCond .ge 44, 3) := by decide +kernel
theorem dJ8_hugeLength_7cf53_8 : decode cJ8_hugeLength_7cf53 8 = .ok (.new 204, 3) := by decide +kernel
theorem dJ8_hugeLength_7cf53_11 : decode cJ8_hugeLength_7cf53 11 = .ok (.dup, 1) := by decide +kernel
theorem dJ8_hugeLength_7cf53_12 : decode cJ8_hugeLength_7cf53 12 = .ok (.new 89, 3) := by decide +kernel
theorem dJ8_hugeLength_7cf53_15 : decode cJ8_hugeLength_7cf53 15 = .ok (.dup, 1) := by decide +kernel
theorem dJ8_hugeLength_7cf53_16 : decode cJ8_hugeLength_7cf53 16 = .ok (.invokespecial 91, 3) := by decide +kernel
theorem dJ8_hugeLength_7cf53_19 : decode cJ8_hugeLength_7cf53 19 = .ok (.ldc 206, 2) := by decide +kernel
theorem dJ8_hugeLength_7cf53_21 : decode cJ8_hugeLength_7cf53 21 = .ok (.invokevirtual 94, 3) := by decide +kernel
theorem dJ8_hugeLength_7cf53_24 : decode cJ8_hugeLength_7cf53 24 = .ok (.iload_n 0, 1) := by decide +kernel
theorem dJ8_hugeLength_7cf53_25 : decode cJ8_hugeLength_7cf53 25 = .ok (.invokevirtual 98, 3) := by decide +kernel
theorem dJ8_hugeLength_7cf53_28 : decode cJ8_hugeLength_7cf53 28 = .ok (.ldc 208, 2) := by decide +kernel
theorem dJ8_hugeLength_7cf53_30 : decode cJ8_hugeLength_7cf53 30 = .ok (.invokevirtual 94, 3) := by decide +kernel
theorem dJ8_hugeLength_7cf53_33 : decode cJ8_hugeLength_7cf53 33 = .ok (.iload_n 1, 1) := by decide +kernel
theorem dJ8_hugeLength_7cf53_34 : decode cJ8_hugeLength_7cf53 34 = .ok (.invokevirtual 98, 3) := by decide +kernel
theorem dJ8_hugeLength_7cf53_37 : decode cJ8_hugeLength_7cf53 37 = .ok (.ldc 210, 2) := by decide +kernel
theorem dJ8_hugeLength_7cf53_39 : decode cJ8_hugeLength_7cf53 39 = .ok (.invokevirtual 94, 3) := by decide +kernel
theorem dJ8_hugeLength_7cf53_42 : decode cJ8_hugeLength_7cf53 42 = .ok (.invokevirtual 101, 3) := by decide +kernel
theorem dJ8_hugeLength_7cf53_45 : decode cJ8_hugeLength_7cf53 45 = .ok (.invokespecial 212, 3) := by decide +kernel
theorem dJ8_hugeLength_7cf53_48 : decode cJ8_hugeLength_7cf53 48 = .ok (.athrow, 1) := by decide +kernel
theorem dJ8_hugeLength_7cf53_49 : decode cJ8_hugeLength_7cf53 49 = .ok (.iload_n 2, 1) := by decide +kernel
theorem dJ8_hugeLength_7cf53_50 : decode cJ8_hugeLength_7cf53 50 = .ok (.ldc 200, 2) := by decide +kernel
theorem dJ8_hugeLength_7cf53_52 : decode cJ8_hugeLength_7cf53 52 = .ok (.if_icmp .gt 6, 3) := by decide +kernel
theorem dJ8_hugeLength_7cf53_55 : decode cJ8_hugeLength_7cf53 55 = .ok (.ldc 200, 2) := by decide +kernel
theorem dJ8_hugeLength_7cf53_57 : decode cJ8_hugeLength_7cf53 57 = .ok (.ireturn, 1) := by decide +kernel
theorem dJ8_hugeLength_7cf53_58 : decode cJ8_hugeLength_7cf53 58 = .ok (.iload_n 2, 1) := by decide +kernel
theorem dJ8_hugeLength_7cf53_59 : decode cJ8_hugeLength_7cf53 59 = .ok (.ireturn, 1) := by decide +kernel
theorem dJ3_checkIndex_8e157_0 : decode cJ3_checkIndex_8e157 0 = .ok (.iload_n 0, 1) := by decide +kernel
theorem dJ3_checkIndex_8e157_1 : decode cJ3_checkIndex_8e157 1 = .ok (.ifCond .lt 8, 3) := by decide +kernel
theorem dJ3_checkIndex_8e157_4 : decode cJ3_checkIndex_8e157 4 = .ok (.iload_n 0, 1) := by decide +kernel
theorem dJ3_checkIndex_8e157_5 : decode cJ3_checkIndex_8e157 5 = .ok (.iload_n 1, 1) := by decide +kernel
theorem dJ3_checkIndex_8e157_6 : decode cJ3_checkIndex_8e157 6 = .ok (.if_icmp .lt 10, 3) := by decide +kernel
theorem dJ3_checkIndex_8e157_9 : decode cJ3_checkIndex_8e157 9 = .ok (.aload_n 2, 1) := by decide +kernel
theorem dJ3_checkIndex_8e157_10 : decode cJ3_checkIndex_8e157 10 = .ok (.iload_n 0, 1) := by decide +kernel
theorem dJ3_checkIndex_8e157_11 : decode cJ3_checkIndex_8e157 11 = .ok (.iload_n 1, 1) := by decide +kernel
theorem dJ3_checkIndex_8e157_12 : decode cJ3_checkIndex_8e157 12 = .ok (.invokestatic 95, 3) := by decide +kernel
theorem dJ3_checkIndex_8e157_15 : decode cJ3_checkIndex_8e157 15 = .ok (.athrow, 1) := by decide +kernel
theorem dJ3_checkIndex_8e157_16 : decode cJ3_checkIndex_8e157 16 = .ok (.iload_n 0, 1) := by decide +kernel
theorem dJ3_checkIndex_8e157_17 : decode cJ3_checkIndex_8e157 17 = .ok (.ireturn, 1) := by decide +kernel
theorem dL_cell_0 : decode cL_cell 0 = .ok (.iload_n 1, 1) := by decide +kernel
theorem dL_cell_1 : decode cL_cell 1 = .ok (.aload_n 0, 1) := by decide +kernel
theorem dL_cell_2 : decode cL_cell 2 = .ok (.arraylength, 1) := by decide +kernel
theorem dL_cell_3 : decode cL_cell 3 = .ok (.if_icmp .ge 9, 3) := by decide +kernel
theorem dL_cell_6 : decode cL_cell 6 = .ok (.aload_n 0, 1) := by decide +kernel
theorem dL_cell_7 : decode cL_cell 7 = .ok (.iload_n 1, 1) := by decide +kernel
theorem dL_cell_8 : decode cL_cell 8 = .ok (.iaload, 1) := by decide +kernel
theorem dL_cell_9 : decode cL_cell 9 = .ok (.goto 4, 3) := by decide +kernel
theorem dL_cell_12 : decode cL_cell 12 = .ok (.iconst 0, 1) := by decide +kernel
theorem dL_cell_13 : decode cL_cell 13 = .ok (.ireturn, 1) := by decide +kernel
theorem dL_at_0 : decode cL_at 0 = .ok (.aload_n 3, 1) := by decide +kernel
theorem dL_at_1 : decode cL_at 1 = .ok (.iconst 0, 1) := by decide +kernel
theorem dL_at_2 : decode cL_at 2 = .ok (.aload_n 0, 1) := by decide +kernel
theorem dL_at_3 : decode cL_at 3 = .ok (.iload_n 1, 1) := by decide +kernel
theorem dL_at_4 : decode cL_at 4 = .ok (.iload_n 2, 1) := by decide +kernel
theorem dL_at_5 : decode cL_at 5 = .ok (.invokevirtual 7, 3) := by decide +kernel
theorem dL_at_8 : decode cL_at 8 = .ok (.i2l, 1) := by decide +kernel
theorem dL_at_9 : decode cL_at 9 = .ok (.lastore, 1) := by decide +kernel
theorem dL_at_10 : decode cL_at 10 = .ok (.goto 7, 3) := by decide +kernel
theorem dL_at_13 : decode cL_at 13 = .ok (.astore 4, 2) := by decide +kernel
theorem dL_at_15 : decode cL_at 15 = .ok (.iconst 1, 1) := by decide +kernel
theorem dL_at_16 : decode cL_at 16 = .ok (.ireturn, 1) := by decide +kernel
theorem dL_at_17 : decode cL_at 17 = .ok (.iconst 0, 1) := by decide +kernel
theorem dL_at_18 : decode cL_at 18 = .ok (.ireturn, 1) := by decide +kernel
theorem dL_law_0 : decode cL_law 0 = .ok (.new 8, 3) := by decide +kernel
theorem dL_law_3 : decode cL_law 3 = .ok (.dup, 1) := by decide +kernel
theorem dL_law_4 : decode cL_law 4 = .ok (.aload_n 0, 1) := by decide +kernel
theorem dL_law_5 : decode cL_law 5 = .ok (.iconst 0, 1) := by decide +kernel
theorem dL_law_6 : decode cL_law 6 = .ok (.invokestatic 15, 3) := by decide +kernel
theorem dL_law_9 : decode cL_law 9 = .ok (.aload_n 0, 1) := by decide +kernel
theorem dL_law_10 : decode cL_law 10 = .ok (.iconst 1, 1) := by decide +kernel
theorem dL_law_11 : decode cL_law 11 = .ok (.invokestatic 15, 3) := by decide +kernel
theorem dL_law_14 : decode cL_law 14 = .ok (.aload_n 0, 1) := by decide +kernel
theorem dL_law_15 : decode cL_law 15 = .ok (.iconst 2, 1) := by decide +kernel
theorem dL_law_16 : decode cL_law 16 = .ok (.invokestatic 15, 3) := by decide +kernel
theorem dL_law_19 : decode cL_law 19 = .ok (.invokespecial 21, 3) := by decide +kernel
theorem dL_law_22 : decode cL_law 22 = .ok (.astore_n 1, 1) := by decide +kernel
theorem dL_law_23 : decode cL_law 23 = .ok (.new 24, 3) := by decide +kernel
theorem dL_law_26 : decode cL_law 26 = .ok (.dup, 1) := by decide +kernel
theorem dL_law_27 : decode cL_law 27 = .ok (.aload_n 0, 1) := by decide +kernel
theorem dL_law_28 : decode cL_law 28 = .ok (.iconst 0, 1) := by decide +kernel
theorem dL_law_29 : decode cL_law 29 = .ok (.invokestatic 15, 3) := by decide +kernel
theorem dL_law_32 : decode cL_law 32 = .ok (.aload_n 0, 1) := by decide +kernel
theorem dL_law_33 : decode cL_law 33 = .ok (.iconst 1, 1) := by decide +kernel
theorem dL_law_34 : decode cL_law 34 = .ok (.invokestatic 15, 3) := by decide +kernel
theorem dL_law_37 : decode cL_law 37 = .ok (.aload_n 0, 1) := by decide +kernel
theorem dL_law_38 : decode cL_law 38 = .ok (.iconst 2, 1) := by decide +kernel
theorem dL_law_39 : decode cL_law 39 = .ok (.invokestatic 15, 3) := by decide +kernel
theorem dL_law_42 : decode cL_law 42 = .ok (.invokespecial 26, 3) := by decide +kernel
theorem dL_law_45 : decode cL_law 45 = .ok (.astore_n 2, 1) := by decide +kernel
theorem dL_law_46 : decode cL_law 46 = .ok (.iconst 1, 1) := by decide +kernel
theorem dL_law_47 : decode cL_law 47 = .ok (.newarray .long, 2) := by decide +kernel
theorem dL_law_49 : decode cL_law 49 = .ok (.astore_n 3, 1) := by decide +kernel
theorem dL_law_50 : decode cL_law 50 = .ok (.iconst 3, 1) := by decide +kernel
theorem dL_law_51 : decode cL_law 51 = .ok (.istore 4, 2) := by decide +kernel
theorem dL_law_53 : decode cL_law 53 = .ok (.iload 4, 2) := by decide +kernel
theorem dL_law_55 : decode cL_law 55 = .ok (.aload_n 0, 1) := by decide +kernel
theorem dL_law_56 : decode cL_law 56 = .ok (.arraylength, 1) := by decide +kernel
theorem dL_law_57 : decode cL_law 57 = .ok (.iconst 4, 1) := by decide +kernel
theorem dL_law_58 : decode cL_law 58 = .ok (.isub, 1) := by decide +kernel
theorem dL_law_59 : decode cL_law 59 = .ok (.if_icmp .gt 577, 3) := by decide +kernel
theorem dL_law_62 : decode cL_law 62 = .ok (.aload_n 0, 1) := by decide +kernel
theorem dL_law_63 : decode cL_law 63 = .ok (.iload 4, 2) := by decide +kernel
theorem dL_law_65 : decode cL_law 65 = .ok (.iaload, 1) := by decide +kernel
theorem dL_law_66 : decode cL_law 66 = .ok (.bipush 15, 2) := by decide +kernel
theorem dL_law_68 : decode cL_law 68 = .ok (.iand, 1) := by decide +kernel
theorem dL_law_69 : decode cL_law 69 = .ok (.tableswitch 561 0 13 #[71, 108, 173, 222, 247, 284, 297, 366, 379, 447, 460, 486, 511, 536], 71) := by decide +kernel
theorem dL_law_140 : decode cL_law 140 = .ok (.aload_n 1, 1) := by decide +kernel
theorem dL_law_141 : decode cL_law 141 = .ok (.aload_n 0, 1) := by decide +kernel
theorem dL_law_142 : decode cL_law 142 = .ok (.iload 4, 2) := by decide +kernel
theorem dL_law_144 : decode cL_law 144 = .ok (.iconst 1, 1) := by decide +kernel
theorem dL_law_145 : decode cL_law 145 = .ok (.iadd, 1) := by decide +kernel
theorem dL_law_146 : decode cL_law 146 = .ok (.iaload, 1) := by decide +kernel
theorem dL_law_147 : decode cL_law 147 = .ok (.aload_n 0, 1) := by decide +kernel
theorem dL_law_148 : decode cL_law 148 = .ok (.iload 4, 2) := by decide +kernel
theorem dL_law_150 : decode cL_law 150 = .ok (.iconst 2, 1) := by decide +kernel
theorem dL_law_151 : decode cL_law 151 = .ok (.iadd, 1) := by decide +kernel
theorem dL_law_152 : decode cL_law 152 = .ok (.iaload, 1) := by decide +kernel
theorem dL_law_153 : decode cL_law 153 = .ok (.invokevirtual 27, 3) := by decide +kernel
theorem dL_law_156 : decode cL_law 156 = .ok (.aload_n 2, 1) := by decide +kernel
theorem dL_law_157 : decode cL_law 157 = .ok (.aload_n 0, 1) := by decide +kernel
theorem dL_law_158 : decode cL_law 158 = .ok (.iload 4, 2) := by decide +kernel
theorem dL_law_160 : decode cL_law 160 = .ok (.iconst 1, 1) := by decide +kernel
theorem dL_law_161 : decode cL_law 161 = .ok (.iadd, 1) := by decide +kernel
theorem dL_law_162 : decode cL_law 162 = .ok (.iaload, 1) := by decide +kernel
theorem dL_law_163 : decode cL_law 163 = .ok (.aload_n 0, 1) := by decide +kernel
theorem dL_law_164 : decode cL_law 164 = .ok (.iload 4, 2) := by decide +kernel
theorem dL_law_166 : decode cL_law 166 = .ok (.iconst 2, 1) := by decide +kernel
theorem dL_law_167 : decode cL_law 167 = .ok (.iadd, 1) := by decide +kernel
theorem dL_law_168 : decode cL_law 168 = .ok (.iaload, 1) := by decide +kernel
theorem dL_law_169 : decode cL_law 169 = .ok (.invokevirtual 30, 3) := by decide +kernel
theorem dL_law_172 : decode cL_law 172 = .ok (.if_icmp .eq 458, 3) := by decide +kernel
theorem dL_law_175 : decode cL_law 175 = .ok (.iconst 0, 1) := by decide +kernel
theorem dL_law_176 : decode cL_law 176 = .ok (.ireturn, 1) := by decide +kernel
theorem dL_law_177 : decode cL_law 177 = .ok (.aload_n 1, 1) := by decide +kernel
theorem dL_law_178 : decode cL_law 178 = .ok (.aload_n 0, 1) := by decide +kernel
theorem dL_law_179 : decode cL_law 179 = .ok (.iload 4, 2) := by decide +kernel
theorem dL_law_181 : decode cL_law 181 = .ok (.iconst 1, 1) := by decide +kernel
theorem dL_law_182 : decode cL_law 182 = .ok (.iadd, 1) := by decide +kernel
theorem dL_law_183 : decode cL_law 183 = .ok (.iaload, 1) := by decide +kernel
theorem dL_law_184 : decode cL_law 184 = .ok (.aload_n 0, 1) := by decide +kernel
theorem dL_law_185 : decode cL_law 185 = .ok (.iload 4, 2) := by decide +kernel
theorem dL_law_187 : decode cL_law 187 = .ok (.iconst 2, 1) := by decide +kernel
theorem dL_law_188 : decode cL_law 188 = .ok (.iadd, 1) := by decide +kernel
theorem dL_law_189 : decode cL_law 189 = .ok (.iaload, 1) := by decide +kernel
theorem dL_law_190 : decode cL_law 190 = .ok (.aload_n 0, 1) := by decide +kernel
theorem dL_law_191 : decode cL_law 191 = .ok (.iload 4, 2) := by decide +kernel
theorem dL_law_193 : decode cL_law 193 = .ok (.iconst 3, 1) := by decide +kernel
theorem dL_law_194 : decode cL_law 194 = .ok (.iadd, 1) := by decide +kernel
theorem dL_law_195 : decode cL_law 195 = .ok (.iaload, 1) := by decide +kernel
theorem dL_law_196 : decode cL_law 196 = .ok (.ifCond .eq 7, 3) := by decide +kernel
theorem dL_law_199 : decode cL_law 199 = .ok (.iconst 1, 1) := by decide +kernel
theorem dL_law_200 : decode cL_law 200 = .ok (.goto 4, 3) := by decide +kernel
theorem dL_law_203 : decode cL_law 203 = .ok (.iconst 0, 1) := by decide +kernel
theorem dL_law_204 : decode cL_law 204 = .ok (.invokevirtual 31, 3) := by decide +kernel
theorem dL_law_207 : decode cL_law 207 = .ok (.aload_n 2, 1) := by decide +kernel
theorem dL_law_208 : decode cL_law 208 = .ok (.aload_n 0, 1) := by decide +kernel
theorem dL_law_209 : decode cL_law 209 = .ok (.iload 4, 2) := by decide +kernel
theorem dL_law_211 : decode cL_law 211 = .ok (.iconst 1, 1) := by decide +kernel
theorem dL_law_212 : decode cL_law 212 = .ok (.iadd, 1) := by decide +kernel
theorem dL_law_213 : decode cL_law 213 = .ok (.iaload, 1) := by decide +kernel
theorem dL_law_214 : decode cL_law 214 = .ok (.aload_n 0, 1) := by decide +kernel
theorem dL_law_215 : decode cL_law 215 = .ok (.iload 4, 2) := by decide +kernel
theorem dL_law_217 : decode cL_law 217 = .ok (.iconst 2, 1) := by decide +kernel
theorem dL_law_218 : decode cL_law 218 = .ok (.iadd, 1) := by decide +kernel
theorem dL_law_219 : decode cL_law 219 = .ok (.iaload, 1) := by decide +kernel
theorem dL_law_220 : decode cL_law 220 = .ok (.aload_n 0, 1) := by decide +kernel
theorem dL_law_221 : decode cL_law 221 = .ok (.iload 4, 2) := by decide +kernel
theorem dL_law_223 : decode cL_law 223 = .ok (.iconst 3, 1) := by decide +kernel
theorem dL_law_224 : decode cL_law 224 = .ok (.iadd, 1) := by decide +kernel
theorem dL_law_225 : decode cL_law 225 = .ok (.iaload, 1) := by decide +kernel
theorem dL_law_226 : decode cL_law 226 = .ok (.ifCond .eq 7, 3) := by decide +kernel
theorem dL_law_229 : decode cL_law 229 = .ok (.iconst 1, 1) := by decide +kernel
theorem dL_law_230 : decode cL_law 230 = .ok (.goto 4, 3) := by decide +kernel
theorem dL_law_233 : decode cL_law 233 = .ok (.iconst 0, 1) := by decide +kernel
theorem dL_law_234 : decode cL_law 234 = .ok (.invokevirtual 35, 3) := by decide +kernel
theorem dL_law_237 : decode cL_law 237 = .ok (.if_icmp .eq 393, 3) := by decide +kernel
theorem dL_law_240 : decode cL_law 240 = .ok (.iconst 0, 1) := by decide +kernel
theorem dL_law_241 : decode cL_law 241 = .ok (.ireturn, 1) := by decide +kernel
theorem dL_law_242 : decode cL_law 242 = .ok (.aload_n 1, 1) := by decide +kernel
theorem dL_law_243 : decode cL_law 243 = .ok (.aload_n 0, 1) := by decide +kernel
theorem dL_law_244 : decode cL_law 244 = .ok (.iload 4, 2) := by decide +kernel
theorem dL_law_246 : decode cL_law 246 = .ok (.iconst 1, 1) := by decide +kernel
theorem dL_law_247 : decode cL_law 247 = .ok (.iadd, 1) := by decide +kernel
theorem dL_law_248 : decode cL_law 248 = .ok (.iaload, 1) := by decide +kernel
theorem dL_law_249 : decode cL_law 249 = .ok (.aload_n 0, 1) := by decide +kernel
theorem dL_law_250 : decode cL_law 250 = .ok (.iload 4, 2) := by decide +kernel
theorem dL_law_252 : decode cL_law 252 = .ok (.iconst 2, 1) := by decide +kernel
theorem dL_law_253 : decode cL_law 253 = .ok (.iadd, 1) := by decide +kernel
theorem dL_law_254 : decode cL_law 254 = .ok (.iaload, 1) := by decide +kernel
theorem dL_law_255 : decode cL_law 255 = .ok (.aload_n 0, 1) := by decide +kernel
theorem dL_law_256 : decode cL_law 256 = .ok (.iload 4, 2) := by decide +kernel
theorem dL_law_258 : decode cL_law 258 = .ok (.iconst 3, 1) := by decide +kernel
theorem dL_law_259 : decode cL_law 259 = .ok (.iadd, 1) := by decide +kernel
theorem dL_law_260 : decode cL_law 260 = .ok (.iaload, 1) := by decide +kernel
theorem dL_law_261 : decode cL_law 261 = .ok (.invokevirtual 36, 3) := by decide +kernel
theorem dL_law_264 : decode cL_law 264 = .ok (.aload_n 2, 1) := by decide +kernel
theorem dL_law_265 : decode cL_law 265 = .ok (.aload_n 0, 1) := by decide +kernel
theorem dL_law_266 : decode cL_law 266 = .ok (.iload 4, 2) := by decide +kernel
theorem dL_law_268 : decode cL_law 268 = .ok (.iconst 1, 1) := by decide +kernel
theorem dL_law_269 : decode cL_law 269 = .ok (.iadd, 1) := by decide +kernel
theorem dL_law_270 : decode cL_law 270 = .ok (.iaload, 1) := by decide +kernel
theorem dL_law_271 : decode cL_law 271 = .ok (.aload_n 0, 1) := by decide +kernel
theorem dL_law_272 : decode cL_law 272 = .ok (.iload 4, 2) := by decide +kernel
theorem dL_law_274 : decode cL_law 274 = .ok (.iconst 2, 1) := by decide +kernel
theorem dL_law_275 : decode cL_law 275 = .ok (.iadd, 1) := by decide +kernel
theorem dL_law_276 : decode cL_law 276 = .ok (.iaload, 1) := by decide +kernel
theorem dL_law_277 : decode cL_law 277 = .ok (.aload_n 0, 1) := by decide +kernel
theorem dL_law_278 : decode cL_law 278 = .ok (.iload 4, 2) := by decide +kernel
theorem dL_law_280 : decode cL_law 280 = .ok (.iconst 3, 1) := by decide +kernel
theorem dL_law_281 : decode cL_law 281 = .ok (.iadd, 1) := by decide +kernel
theorem dL_law_282 : decode cL_law 282 = .ok (.iaload, 1) := by decide +kernel
theorem dL_law_283 : decode cL_law 283 = .ok (.invokevirtual 40, 3) := by decide +kernel
theorem dL_law_286 : decode cL_law 286 = .ok (.if_icmp .eq 344, 3) := by decide +kernel
theorem dL_law_289 : decode cL_law 289 = .ok (.iconst 0, 1) := by decide +kernel
theorem dL_law_290 : decode cL_law 290 = .ok (.ireturn, 1) := by decide +kernel
theorem dL_law_291 : decode cL_law 291 = .ok (.aload_n 1, 1) := by decide +kernel
theorem dL_law_292 : decode cL_law 292 = .ok (.aload_n 0, 1) := by decide +kernel
theorem dL_law_293 : decode cL_law 293 = .ok (.iload 4, 2) := by decide +kernel
theorem dL_law_295 : decode cL_law 295 = .ok (.iconst 1, 1) := by decide +kernel
theorem dL_law_296 : decode cL_law 296 = .ok (.iadd, 1) := by decide +kernel
theorem dL_law_297 : decode cL_law 297 = .ok (.iaload, 1) := by decide +kernel
theorem dL_law_298 : decode cL_law 298 = .ok (.invokevirtual 41, 3) := by decide +kernel
theorem dL_law_301 : decode cL_law 301 = .ok (.aload_n 2, 1) := by decide +kernel
theorem dL_law_302 : decode cL_law 302 = .ok (.aload_n 0, 1) := by decide +kernel
theorem dL_law_303 : decode cL_law 303 = .ok (.iload 4, 2) := by decide +kernel
theorem dL_law_305 : decode cL_law 305 = .ok (.iconst 1, 1) := by decide +kernel
theorem dL_law_306 : decode cL_law 306 = .ok (.iadd, 1) := by decide +kernel
theorem dL_law_307 : decode cL_law 307 = .ok (.iaload, 1) := by decide +kernel
theorem dL_law_308 : decode cL_law 308 = .ok (.invokevirtual 45, 3) := by decide +kernel
theorem dL_law_311 : decode cL_law 311 = .ok (.if_icmp .eq 319, 3) := by decide +kernel
theorem dL_law_314 : decode cL_law 314 = .ok (.iconst 0, 1) := by decide +kernel
theorem dL_law_315 : decode cL_law 315 = .ok (.ireturn, 1) := by decide +kernel
theorem dL_law_316 : decode cL_law 316 = .ok (.aload_n 1, 1) := by decide +kernel
theorem dL_law_317 : decode cL_law 317 = .ok (.aload_n 0, 1) := by decide +kernel
theorem dL_law_318 : decode cL_law 318 = .ok (.iload 4, 2) := by decide +kernel
theorem dL_law_320 : decode cL_law 320 = .ok (.iconst 1, 1) := by decide +kernel
theorem dL_law_321 : decode cL_law 321 = .ok (.iadd, 1) := by decide +kernel
theorem dL_law_322 : decode cL_law 322 = .ok (.iaload, 1) := by decide +kernel
theorem dL_law_323 : decode cL_law 323 = .ok (.aload_n 0, 1) := by decide +kernel
end
section
theorem dL_law_324 : decode cL_law 324 = .ok (.iload 4, 2) := by decide +kernel
theorem dL_law_326 : decode cL_law 326 = .ok (.iconst 2, 1) := by decide +kernel
theorem dL_law_327 : decode cL_law 327 = .ok (.iadd, 1) := by decide +kernel
theorem dL_law_328 : decode cL_law 328 = .ok (.iaload, 1) := by decide +kernel
theorem dL_law_329 : decode cL_law 329 = .ok (.invokevirtual 46, 3) := by decide +kernel
theorem dL_law_332 : decode cL_law 332 = .ok (.aload_n 2, 1) := by decide +kernel
theorem dL_law_333 : decode cL_law 333 = .ok (.aload_n 0, 1) := by decide +kernel
theorem dL_law_334 : decode cL_law 334 = .ok (.iload 4, 2) := by decide +kernel
theorem dL_law_336 : decode cL_law 336 = .ok (.iconst 1, 1) := by decide +kernel
theorem dL_law_337 : decode cL_law 337 = .ok (.iadd, 1) := by decide +kernel
theorem dL_law_338 : decode cL_law 338 = .ok (.iaload, 1) := by decide +kernel
theorem dL_law_339 : decode cL_law 339 = .ok (.aload_n 0, 1) := by decide +kernel
theorem dL_law_340 : decode cL_law 340 = .ok (.iload 4, 2) := by decide +kernel
theorem dL_law_342 : decode cL_law 342 = .ok (.iconst 2, 1) := by decide +kernel
theorem dL_law_343 : decode cL_law 343 = .ok (.iadd, 1) := by decide +kernel
theorem dL_law_344 : decode cL_law 344 = .ok (.iaload, 1) := by decide +kernel
theorem dL_law_345 : decode cL_law 345 = .ok (.invokevirtual 49, 3) := by decide +kernel
theorem dL_law_348 : decode cL_law 348 = .ok (.if_icmp .eq 282, 3) := by decide +kernel
theorem dL_law_351 : decode cL_law 351 = .ok (.iconst 0, 1) := by decide +kernel
theorem dL_law_352 : decode cL_law 352 = .ok (.ireturn, 1) := by decide +kernel
theorem dL_law_353 : decode cL_law 353 = .ok (.aload_n 1, 1) := by decide +kernel
theorem dL_law_354 : decode cL_law 354 = .ok (.invokevirtual 50, 3) := by decide +kernel
theorem dL_law_357 : decode cL_law 357 = .ok (.aload_n 2, 1) := by decide +kernel
theorem dL_law_358 : decode cL_law 358 = .ok (.invokevirtual 54, 3) := by decide +kernel
theorem dL_law_361 : decode cL_law 361 = .ok (.if_icmp .eq 269, 3) := by decide +kernel
theorem dL_law_364 : decode cL_law 364 = .ok (.iconst 0, 1) := by decide +kernel
theorem dL_law_365 : decode cL_law 365 = .ok (.ireturn, 1) := by decide +kernel
theorem dL_law_366 : decode cL_law 366 = .ok (.aload_n 1, 1) := by decide +kernel
theorem dL_law_367 : decode cL_law 367 = .ok (.aload_n 0, 1) := by decide +kernel
theorem dL_law_368 : decode cL_law 368 = .ok (.iload 4, 2) := by decide +kernel
theorem dL_law_370 : decode cL_law 370 = .ok (.iconst 1, 1) := by decide +kernel
theorem dL_law_371 : decode cL_law 371 = .ok (.iadd, 1) := by decide +kernel
theorem dL_law_372 : decode cL_law 372 = .ok (.iaload, 1) := by decide +kernel
theorem dL_law_373 : decode cL_law 373 = .ok (.aload_n 0, 1) := by decide +kernel
theorem dL_law_374 : decode cL_law 374 = .ok (.iload 4, 2) := by decide +kernel
theorem dL_law_376 : decode cL_law 376 = .ok (.iconst 2, 1) := by decide +kernel
theorem dL_law_377 : decode cL_law 377 = .ok (.iadd, 1) := by decide +kernel
theorem dL_law_378 : decode cL_law 378 = .ok (.iaload, 1) := by decide +kernel
theorem dL_law_379 : decode cL_law 379 = .ok (.i2l, 1) := by decide +kernel
theorem dL_law_380 : decode cL_law 380 = .ok (.bipush 32, 2) := by decide +kernel
theorem dL_law_382 : decode cL_law 382 = .ok (.lshl, 1) := by decide +kernel
theorem dL_law_383 : decode cL_law 383 = .ok (.aload_n 0, 1) := by decide +kernel
theorem dL_law_384 : decode cL_law 384 = .ok (.iload 4, 2) := by decide +kernel
theorem dL_law_386 : decode cL_law 386 = .ok (.iconst 3, 1) := by decide +kernel
theorem dL_law_387 : decode cL_law 387 = .ok (.iadd, 1) := by decide +kernel
theorem dL_law_388 : decode cL_law 388 = .ok (.iaload, 1) := by decide +kernel
theorem dL_law_389 : decode cL_law 389 = .ok (.i2l, 1) := by decide +kernel
theorem dL_law_390 : decode cL_law 390 = .ok (.ldc2_w 55, 3) := by decide +kernel
theorem dL_law_393 : decode cL_law 393 = .ok (.land, 1) := by decide +kernel
theorem dL_law_394 : decode cL_law 394 = .ok (.lor, 1) := by decide +kernel
theorem dL_law_395 : decode cL_law 395 = .ok (.invokevirtual 57, 3) := by decide +kernel
theorem dL_law_398 : decode cL_law 398 = .ok (.aload_n 2, 1) := by decide +kernel
theorem dL_law_399 : decode cL_law 399 = .ok (.aload_n 0, 1) := by decide +kernel
theorem dL_law_400 : decode cL_law 400 = .ok (.iload 4, 2) := by decide +kernel
theorem dL_law_402 : decode cL_law 402 = .ok (.iconst 1, 1) := by decide +kernel
theorem dL_law_403 : decode cL_law 403 = .ok (.iadd, 1) := by decide +kernel
theorem dL_law_404 : decode cL_law 404 = .ok (.iaload, 1) := by decide +kernel
theorem dL_law_405 : decode cL_law 405 = .ok (.aload_n 0, 1) := by decide +kernel
theorem dL_law_406 : decode cL_law 406 = .ok (.iload 4, 2) := by decide +kernel
theorem dL_law_408 : decode cL_law 408 = .ok (.iconst 2, 1) := by decide +kernel
theorem dL_law_409 : decode cL_law 409 = .ok (.iadd, 1) := by decide +kernel
theorem dL_law_410 : decode cL_law 410 = .ok (.iaload, 1) := by decide +kernel
theorem dL_law_411 : decode cL_law 411 = .ok (.i2l, 1) := by decide +kernel
theorem dL_law_412 : decode cL_law 412 = .ok (.bipush 32, 2) := by decide +kernel
theorem dL_law_414 : decode cL_law 414 = .ok (.lshl, 1) := by decide +kernel
theorem dL_law_415 : decode cL_law 415 = .ok (.aload_n 0, 1) := by decide +kernel
theorem dL_law_416 : decode cL_law 416 = .ok (.iload 4, 2) := by decide +kernel
theorem dL_law_418 : decode cL_law 418 = .ok (.iconst 3, 1) := by decide +kernel
theorem dL_law_419 : decode cL_law 419 = .ok (.iadd, 1) := by decide +kernel
theorem dL_law_420 : decode cL_law 420 = .ok (.iaload, 1) := by decide +kernel
theorem dL_law_421 : decode cL_law 421 = .ok (.i2l, 1) := by decide +kernel
theorem dL_law_422 : decode cL_law 422 = .ok (.ldc2_w 55, 3) := by decide +kernel
theorem dL_law_425 : decode cL_law 425 = .ok (.land, 1) := by decide +kernel
theorem dL_law_426 : decode cL_law 426 = .ok (.lor, 1) := by decide +kernel
theorem dL_law_427 : decode cL_law 427 = .ok (.invokevirtual 61, 3) := by decide +kernel
theorem dL_law_430 : decode cL_law 430 = .ok (.if_icmp .eq 200, 3) := by decide +kernel
theorem dL_law_433 : decode cL_law 433 = .ok (.iconst 0, 1) := by decide +kernel
theorem dL_law_434 : decode cL_law 434 = .ok (.ireturn, 1) := by decide +kernel
theorem dL_law_435 : decode cL_law 435 = .ok (.aload_n 1, 1) := by decide +kernel
theorem dL_law_436 : decode cL_law 436 = .ok (.invokevirtual 62, 3) := by decide +kernel
theorem dL_law_439 : decode cL_law 439 = .ok (.aload_n 2, 1) := by decide +kernel
theorem dL_law_440 : decode cL_law 440 = .ok (.invokevirtual 65, 3) := by decide +kernel
theorem dL_law_443 : decode cL_law 443 = .ok (.if_icmp .eq 187, 3) := by decide +kernel
theorem dL_law_446 : decode cL_law 446 = .ok (.iconst 0, 1) := by decide +kernel
theorem dL_law_447 : decode cL_law 447 = .ok (.ireturn, 1) := by decide +kernel
theorem dL_law_448 : decode cL_law 448 = .ok (.aload_n 1, 1) := by decide +kernel
theorem dL_law_449 : decode cL_law 449 = .ok (.aload_n 0, 1) := by decide +kernel
theorem dL_law_450 : decode cL_law 450 = .ok (.iload 4, 2) := by decide +kernel
theorem dL_law_452 : decode cL_law 452 = .ok (.iconst 1, 1) := by decide +kernel
theorem dL_law_453 : decode cL_law 453 = .ok (.iadd, 1) := by decide +kernel
theorem dL_law_454 : decode cL_law 454 = .ok (.iaload, 1) := by decide +kernel
theorem dL_law_455 : decode cL_law 455 = .ok (.aload_n 0, 1) := by decide +kernel
theorem dL_law_456 : decode cL_law 456 = .ok (.iload 4, 2) := by decide +kernel
theorem dL_law_458 : decode cL_law 458 = .ok (.iconst 2, 1) := by decide +kernel
theorem dL_law_459 : decode cL_law 459 = .ok (.iadd, 1) := by decide +kernel
theorem dL_law_460 : decode cL_law 460 = .ok (.iaload, 1) := by decide +kernel
theorem dL_law_461 : decode cL_law 461 = .ok (.aload_n 3, 1) := by decide +kernel
theorem dL_law_462 : decode cL_law 462 = .ok (.invokestatic 66, 3) := by decide +kernel
theorem dL_law_465 : decode cL_law 465 = .ok (.istore 5, 2) := by decide +kernel
theorem dL_law_467 : decode cL_law 467 = .ok (.aload_n 2, 1) := by decide +kernel
theorem dL_law_468 : decode cL_law 468 = .ok (.aload_n 0, 1) := by decide +kernel
theorem dL_law_469 : decode cL_law 469 = .ok (.iload 4, 2) := by decide +kernel
theorem dL_law_471 : decode cL_law 471 = .ok (.iconst 1, 1) := by decide +kernel
theorem dL_law_472 : decode cL_law 472 = .ok (.iadd, 1) := by decide +kernel
theorem dL_law_473 : decode cL_law 473 = .ok (.iaload, 1) := by decide +kernel
theorem dL_law_474 : decode cL_law 474 = .ok (.aload_n 0, 1) := by decide +kernel
theorem dL_law_475 : decode cL_law 475 = .ok (.iload 4, 2) := by decide +kernel
theorem dL_law_477 : decode cL_law 477 = .ok (.iconst 2, 1) := by decide +kernel
theorem dL_law_478 : decode cL_law 478 = .ok (.iadd, 1) := by decide +kernel
theorem dL_law_479 : decode cL_law 479 = .ok (.iaload, 1) := by decide +kernel
theorem dL_law_480 : decode cL_law 480 = .ok (.invokevirtual 69, 3) := by decide +kernel
theorem dL_law_483 : decode cL_law 483 = .ok (.istore 6, 2) := by decide +kernel
theorem dL_law_485 : decode cL_law 485 = .ok (.aload_n 2, 1) := by decide +kernel
theorem dL_law_486 : decode cL_law 486 = .ok (.invokevirtual 70, 3) := by decide +kernel
theorem dL_law_489 : decode cL_law 489 = .ok (.iload 5, 2) := by decide +kernel
theorem dL_law_491 : decode cL_law 491 = .ok (.if_icmp .eq 5, 3) := by decide +kernel
theorem dL_law_494 : decode cL_law 494 = .ok (.iconst 0, 1) := by decide +kernel
theorem dL_law_495 : decode cL_law 495 = .ok (.ireturn, 1) := by decide +kernel
theorem dL_law_496 : decode cL_law 496 = .ok (.iload 5, 2) := by decide +kernel
theorem dL_law_498 : decode cL_law 498 = .ok (.ifCond .ne 15, 3) := by decide +kernel
theorem dL_law_501 : decode cL_law 501 = .ok (.aload_n 3, 1) := by decide +kernel
theorem dL_law_502 : decode cL_law 502 = .ok (.iconst 0, 1) := by decide +kernel
theorem dL_law_503 : decode cL_law 503 = .ok (.laload, 1) := by decide +kernel
theorem dL_law_504 : decode cL_law 504 = .ok (.iload 6, 2) := by decide +kernel
theorem dL_law_506 : decode cL_law 506 = .ok (.i2l, 1) := by decide +kernel
theorem dL_law_507 : decode cL_law 507 = .ok (.lcmp, 1) := by decide +kernel
theorem dL_law_508 : decode cL_law 508 = .ok (.ifCond .eq 5, 3) := by decide +kernel
theorem dL_law_511 : decode cL_law 511 = .ok (.iconst 0, 1) := by decide +kernel
theorem dL_law_512 : decode cL_law 512 = .ok (.ireturn, 1) := by decide +kernel
theorem dL_law_513 : decode cL_law 513 = .ok (.goto 117, 3) := by decide +kernel
theorem dL_law_516 : decode cL_law 516 = .ok (.aload_n 1, 1) := by decide +kernel
theorem dL_law_517 : decode cL_law 517 = .ok (.invokevirtual 73, 3) := by decide +kernel
theorem dL_law_520 : decode cL_law 520 = .ok (.aload_n 2, 1) := by decide +kernel
theorem dL_law_521 : decode cL_law 521 = .ok (.invokevirtual 76, 3) := by decide +kernel
theorem dL_law_524 : decode cL_law 524 = .ok (.if_icmp .eq 106, 3) := by decide +kernel
theorem dL_law_527 : decode cL_law 527 = .ok (.iconst 0, 1) := by decide +kernel
theorem dL_law_528 : decode cL_law 528 = .ok (.ireturn, 1) := by decide +kernel
theorem dL_law_529 : decode cL_law 529 = .ok (.aload_n 1, 1) := by decide +kernel
theorem dL_law_530 : decode cL_law 530 = .ok (.aload_n 0, 1) := by decide +kernel
theorem dL_law_531 : decode cL_law 531 = .ok (.iload 4, 2) := by decide +kernel
theorem dL_law_533 : decode cL_law 533 = .ok (.iconst 1, 1) := by decide +kernel
theorem dL_law_534 : decode cL_law 534 = .ok (.iadd, 1) := by decide +kernel
theorem dL_law_535 : decode cL_law 535 = .ok (.iaload, 1) := by decide +kernel
theorem dL_law_536 : decode cL_law 536 = .ok (.invokevirtual 77, 3) := by decide +kernel
theorem dL_law_539 : decode cL_law 539 = .ok (.aload_n 2, 1) := by decide +kernel
theorem dL_law_540 : decode cL_law 540 = .ok (.aload_n 0, 1) := by decide +kernel
theorem dL_law_541 : decode cL_law 541 = .ok (.iload 4, 2) := by decide +kernel
theorem dL_law_543 : decode cL_law 543 = .ok (.iconst 1, 1) := by decide +kernel
theorem dL_law_544 : decode cL_law 544 = .ok (.iadd, 1) := by decide +kernel
theorem dL_law_545 : decode cL_law 545 = .ok (.iaload, 1) := by decide +kernel
theorem dL_law_546 : decode cL_law 546 = .ok (.invokevirtual 81, 3) := by decide +kernel
theorem dL_law_549 : decode cL_law 549 = .ok (.lcmp, 1) := by decide +kernel
theorem dL_law_550 : decode cL_law 550 = .ok (.ifCond .eq 80, 3) := by decide +kernel
theorem dL_law_553 : decode cL_law 553 = .ok (.iconst 0, 1) := by decide +kernel
theorem dL_law_554 : decode cL_law 554 = .ok (.ireturn, 1) := by decide +kernel
theorem dL_law_555 : decode cL_law 555 = .ok (.aload_n 1, 1) := by decide +kernel
theorem dL_law_556 : decode cL_law 556 = .ok (.aload_n 0, 1) := by decide +kernel
theorem dL_law_557 : decode cL_law 557 = .ok (.iload 4, 2) := by decide +kernel
theorem dL_law_559 : decode cL_law 559 = .ok (.iconst 1, 1) := by decide +kernel
theorem dL_law_560 : decode cL_law 560 = .ok (.iadd, 1) := by decide +kernel
theorem dL_law_561 : decode cL_law 561 = .ok (.iaload, 1) := by decide +kernel
theorem dL_law_562 : decode cL_law 562 = .ok (.invokevirtual 82, 3) := by decide +kernel
theorem dL_law_565 : decode cL_law 565 = .ok (.aload_n 2, 1) := by decide +kernel
theorem dL_law_566 : decode cL_law 566 = .ok (.aload_n 0, 1) := by decide +kernel
theorem dL_law_567 : decode cL_law 567 = .ok (.iload 4, 2) := by decide +kernel
theorem dL_law_569 : decode cL_law 569 = .ok (.iconst 1, 1) := by decide +kernel
theorem dL_law_570 : decode cL_law 570 = .ok (.iadd, 1) := by decide +kernel
theorem dL_law_571 : decode cL_law 571 = .ok (.iaload, 1) := by decide +kernel
theorem dL_law_572 : decode cL_law 572 = .ok (.invokevirtual 85, 3) := by decide +kernel
theorem dL_law_575 : decode cL_law 575 = .ok (.if_icmp .eq 55, 3) := by decide +kernel
theorem dL_law_578 : decode cL_law 578 = .ok (.iconst 0, 1) := by decide +kernel
theorem dL_law_579 : decode cL_law 579 = .ok (.ireturn, 1) := by decide +kernel
theorem dL_law_580 : decode cL_law 580 = .ok (.aload_n 1, 1) := by decide +kernel
theorem dL_law_581 : decode cL_law 581 = .ok (.aload_n 0, 1) := by decide +kernel
theorem dL_law_582 : decode cL_law 582 = .ok (.iload 4, 2) := by decide +kernel
theorem dL_law_584 : decode cL_law 584 = .ok (.iconst 1, 1) := by decide +kernel
theorem dL_law_585 : decode cL_law 585 = .ok (.iadd, 1) := by decide +kernel
theorem dL_law_586 : decode cL_law 586 = .ok (.iaload, 1) := by decide +kernel
theorem dL_law_587 : decode cL_law 587 = .ok (.invokevirtual 86, 3) := by decide +kernel
theorem dL_law_590 : decode cL_law 590 = .ok (.aload_n 2, 1) := by decide +kernel
theorem dL_law_591 : decode cL_law 591 = .ok (.aload_n 0, 1) := by decide +kernel
theorem dL_law_592 : decode cL_law 592 = .ok (.iload 4, 2) := by decide +kernel
theorem dL_law_594 : decode cL_law 594 = .ok (.iconst 1, 1) := by decide +kernel
theorem dL_law_595 : decode cL_law 595 = .ok (.iadd, 1) := by decide +kernel
theorem dL_law_596 : decode cL_law 596 = .ok (.iaload, 1) := by decide +kernel
theorem dL_law_597 : decode cL_law 597 = .ok (.invokevirtual 89, 3) := by decide +kernel
theorem dL_law_600 : decode cL_law 600 = .ok (.if_icmp .eq 30, 3) := by decide +kernel
theorem dL_law_603 : decode cL_law 603 = .ok (.iconst 0, 1) := by decide +kernel
theorem dL_law_604 : decode cL_law 604 = .ok (.ireturn, 1) := by decide +kernel
theorem dL_law_605 : decode cL_law 605 = .ok (.aload_n 1, 1) := by decide +kernel
theorem dL_law_606 : decode cL_law 606 = .ok (.aload_n 0, 1) := by decide +kernel
theorem dL_law_607 : decode cL_law 607 = .ok (.iload 4, 2) := by decide +kernel
theorem dL_law_609 : decode cL_law 609 = .ok (.iconst 1, 1) := by decide +kernel
theorem dL_law_610 : decode cL_law 610 = .ok (.iadd, 1) := by decide +kernel
theorem dL_law_611 : decode cL_law 611 = .ok (.iaload, 1) := by decide +kernel
theorem dL_law_612 : decode cL_law 612 = .ok (.invokevirtual 90, 3) := by decide +kernel
theorem dL_law_615 : decode cL_law 615 = .ok (.aload_n 2, 1) := by decide +kernel
theorem dL_law_616 : decode cL_law 616 = .ok (.aload_n 0, 1) := by decide +kernel
theorem dL_law_617 : decode cL_law 617 = .ok (.iload 4, 2) := by decide +kernel
theorem dL_law_619 : decode cL_law 619 = .ok (.iconst 1, 1) := by decide +kernel
theorem dL_law_620 : decode cL_law 620 = .ok (.iadd, 1) := by decide +kernel
theorem dL_law_621 : decode cL_law 621 = .ok (.iaload, 1) := by decide +kernel
theorem dL_law_622 : decode cL_law 622 = .ok (.invokevirtual 93, 3) := by decide +kernel
theorem dL_law_625 : decode cL_law 625 = .ok (.if_icmp .eq 5, 3) := by decide +kernel
theorem dL_law_628 : decode cL_law 628 = .ok (.iconst 0, 1) := by decide +kernel
theorem dL_law_629 : decode cL_law 629 = .ok (.ireturn, 1) := by decide +kernel
theorem dL_law_630 : decode cL_law 630 = .ok (.iinc 4 4, 3) := by decide +kernel
theorem dL_law_633 : decode cL_law 633 = .ok (.goto (-580), 3) := by decide +kernel
theorem dL_law_636 : decode cL_law 636 = .ok (.iconst 1, 1) := by decide +kernel
theorem dL_law_637 : decode cL_law 637 = .ok (.ireturn, 1) := by decide +kernel
end
section
-- ===== memory by types: ints and booleans, longs, references =====
abbrev tI : Type := Nat → Nat → Nat → Int32
abbrev tJ : Type := Nat → Nat → Nat → Int64
abbrev tP : Type := Nat → Nat → Nat → Option Nat
def jsoT (ty : FieldType) : Nat := match ty with
  | .int => 0
  | .boolean => 0
  | .long => 1
  | _ => 2
def jso (κ k : Nat) : Nat := if κ < 50 then jsoT (jty κ k) else match jkt κ with
  | some ty => jsoT ty
  | none => 2
def tV (I : tI) (J : tJ) (P : tP) : jV := fun κ k a => match jso κ k with
  | 0 => .int (I κ k a)
  | 1 => .long (J κ k a)
  | _ => va_rf (P κ k a)
def tv (t u : Nat) (g : jG) (I : tI) (J : tJ) (P : tP) : jM := (t, u, g, tV I J P)
def ups {α : Type} (f : Nat → Nat → Nat → α) (κ k a : Nat) (v : α) : Nat → Nat → Nat → α := fun κ' k' a' => if κ' = κ ∧ k' = k ∧ a' = a then v else f κ' k' a'
/-- a whole cell -/
def upc {α : Type} (f : Nat → Nat → Nat → α) (κ a : Nat) (h : Nat → α) : Nat → Nat → Nat → α := fun κ' k' a' => if κ' = κ ∧ a' = a then h k' else f κ' k' a'
def jt (g : jG) (a : Nat) : Option Nat := (g a).map Prod.fst
def jn (g : jG) (a : Nat) : Nat := ((g a).map Prod.snd).getD 0
theorem ups_ap {α : Type} (f : Nat → Nat → Nat → α) (κ k a : Nat) (v : α) (κ' k' a' : Nat) : ups f κ k a v κ' k' a' = if κ' = κ ∧ k' = k ∧ a' = a then v else f κ' k' a' := rfl
theorem upc_ap {α : Type} (f : Nat → Nat → Nat → α) (κ a : Nat) (h : Nat → α) (κ' k' a' : Nat) : upc f κ a h κ' k' a' = if κ' = κ ∧ a' = a then h k' else f κ' k' a' := rfl
theorem jt_set (g : jG) (a κ n b : Nat) : jt (jgset g a (κ, n)) b = if b = a then some κ else jt g b := by
  unfold jt
  rw [jgset_ap]
  by_cases h : b = a
  · rw [if_pos h, if_pos h]; rfl
  · rw [if_neg h, if_neg h]
theorem jn_set (g : jG) (a κ n b : Nat) : jn (jgset g a (κ, n)) b = if b = a then n else jn g b := by
  unfold jn
  rw [jgset_ap]
  by_cases h : b = a
  · rw [if_pos h, if_pos h]; rfl
  · rw [if_neg h, if_neg h]
theorem jt_of {g : jG} {a κ : Nat} (h : jt g a = some κ) : g a = some (κ, jn g a) := by
  unfold jt at h
  obtain ⟨⟨κ', n⟩, h1, h2⟩ := Option.map_eq_some_iff.mp h
  unfold jn
  rw [h1]
  dsimp only at h2
  rw [h2]
  rfl
theorem tV_i {I : tI} {J : tJ} {P : tP} {κ k a : Nat} (h : jso κ k = 0) : tV I J P κ k a = .int (I κ k a) := by unfold tV; rw [h]; rfl
theorem tV_l {I : tI} {J : tJ} {P : tP} {κ k a : Nat} (h : jso κ k = 1) : tV I J P κ k a = .long (J κ k a) := by unfold tV; rw [h]; rfl
theorem tV_a {I : tI} {J : tJ} {P : tP} {κ k a : Nat} (h : jso κ k = 2) : tV I J P κ k a = va_rf (P κ k a) := by unfold tV; rw [h]; rfl
theorem jset_i {I : tI} {J : tJ} {P : tP} {κ k a : Nat} {x : Int32} (h : jso κ k = 0) : jset (tV I J P) κ k a (.int x) = tV (ups I κ k a x) J P := by
  funext κ' k' a'
  rw [jset_ap]
  by_cases hc : κ' = κ ∧ k' = k ∧ a' = a
  · obtain ⟨rfl, rfl, rfl⟩ := hc
    rw [if_pos ⟨rfl, rfl, rfl⟩, tV_i h, ups_ap, if_pos ⟨rfl, rfl, rfl⟩]
  · rw [if_neg hc]
    unfold tV
    rw [ups_ap, if_neg hc]
theorem jset_l {I : tI} {J : tJ} {P : tP} {κ k a : Nat} {x : Int64} (h : jso κ k = 1) : jset (tV I J P) κ k a (.long x) = tV I (ups J κ k a x) P := by
  funext κ' k' a'
  rw [jset_ap]
  by_cases hc : κ' = κ ∧ k' = k ∧ a' = a
  · obtain ⟨rfl, rfl, rfl⟩ := hc
    rw [if_pos ⟨rfl, rfl, rfl⟩, tV_l h, ups_ap, if_pos ⟨rfl, rfl, rfl⟩]
  · rw [if_neg hc]
    unfold tV
    rw [ups_ap, if_neg hc]
theorem jset_a {I : tI} {J : tJ} {P : tP} {κ k a : Nat} {r : Option Nat} (h : jso κ k = 2) : jset (tV I J P) κ k a (va_rf r) = tV I J (ups P κ k a r) := by
  funext κ' k' a'
  rw [jset_ap]
  by_cases hc : κ' = κ ∧ k' = k ∧ a' = a
  · obtain ⟨rfl, rfl, rfl⟩ := hc
    rw [if_pos ⟨rfl, rfl, rfl⟩, tV_a h, ups_ap, if_pos ⟨rfl, rfl, rfl⟩]
  · rw [if_neg hc]
    unfold tV
    rw [ups_ap, if_neg hc]
/-- what a new cell holds -/
def jdf (κ k : Nat) : Value := match jso κ k with
  | 0 => .int 0
  | 1 => .long 0
  | _ => .null
theorem jput_df {I : tI} {J : tJ} {P : tP} {κ a : Nat} {f : Nat → Value} (h : ∀ k, f k = jdf κ k) : jput (tV I J P) κ a f = tV (upc I κ a (fun _ => 0)) (upc J κ a (fun _ => 0)) (upc P κ a (fun _ => none)) := by
  funext κ' k' a'
  rw [jput_ap]
  by_cases hc : κ' = κ ∧ a' = a
  · obtain ⟨rfl, rfl⟩ := hc
    rw [if_pos ⟨rfl, rfl⟩, h]
    unfold jdf tV
    rw [upc_ap, upc_ap, upc_ap, if_pos ⟨rfl, rfl⟩, if_pos ⟨rfl, rfl⟩, if_pos ⟨rfl, rfl⟩]
    split <;> rfl
  · rw [if_neg hc]
    unfold tV
    rw [upc_ap, upc_ap, upc_ap, if_neg hc, if_neg hc, if_neg hc]
theorem jput_ci {I : tI} {J : tJ} {P : tP} {κ κ0 a a0 sp dp n : Nat} (h : ∀ k, jso κ k = 0) (h0 : ∀ k, jso κ0 k = 0) : jput (tV I J P) κ a (va_cpy (fun k => tV I J P κ0 k a0) (fun k => tV I J P κ k a) sp dp n) = tV (upc I κ a (va_cpy (fun k => I κ0 k a0) (fun k => I κ k a) sp dp n)) J P := by
  funext κ' k' a'
  rw [jput_ap]
  by_cases hc : κ' = κ ∧ a' = a
  · obtain ⟨rfl, rfl⟩ := hc
    rw [if_pos ⟨rfl, rfl⟩, tV_i (h _), upc_ap, if_pos ⟨rfl, rfl⟩]
    unfold va_cpy
    by_cases hk : dp ≤ k' ∧ k' < dp + n
    · rw [if_pos hk, if_pos hk]
      exact tV_i (h0 _)
    · rw [if_neg hk, if_neg hk]
      exact tV_i (h _)
  · rw [if_neg hc]
    unfold tV
    rw [upc_ap, if_neg hc]
theorem jput_ca {I : tI} {J : tJ} {P : tP} {κ κ0 a a0 sp dp n : Nat} (h : ∀ k, jso κ k = 2) (h0 : ∀ k, jso κ0 k = 2) : jput (tV I J P) κ a (va_cpy (fun k => tV I J P κ0 k a0) (fun k => tV I J P κ k a) sp dp n) = tV I J (upc P κ a (va_cpy (fun k => P κ0 k a0) (fun k => P κ k a) sp dp n)) := by
  funext κ' k' a'
  rw [jput_ap]
  by_cases hc : κ' = κ ∧ a' = a
  · obtain ⟨rfl, rfl⟩ := hc
    rw [if_pos ⟨rfl, rfl⟩, tV_a (h _), upc_ap, if_pos ⟨rfl, rfl⟩]
    unfold va_cpy
    by_cases hk : dp ≤ k' ∧ k' < dp + n
    · rw [if_pos hk, if_pos hk]
      exact tV_a (h0 _)
    · rw [if_neg hk, if_neg hk]
      exact tV_a (h _)
  · rw [if_neg hc]
    unfold tV
    rw [upc_ap, if_neg hc]
theorem jso_arr {κ : Nat} {ty : FieldType} (hκ : 50 ≤ κ) (h : jkt κ = some ty) (k : Nat) : jso κ k = jsoT ty := by
  unfold jso
  rw [if_neg (Nat.not_lt.mpr hκ), h]
-- ===== steps as rewriting rows =====
section JR
variable {sv : Nat → Value} {d μ pc len t u κ k a n idx tgt : Nat} {L L' : jL} {st st' : List Value} {M : jM} {Q : Option Value → jM → Prop} {i : ClassFile.Instr} {g : jG} {I : tI} {J : tJ} {P : tP}
theorem jstep_of {z : jS} (hd : decode (jcode μ) pc = .ok (i, len)) (h : jex sv μ pc L st M i len = some z) : jstep sv (μ, pc, L, st) M = some z := by
  unfold jstep
  dsimp only
  rw [hd]
  exact h
theorem R_pure (hd : decode (jcode μ) pc = .ok (i, len)) (h : jpure i L st = some (len, L', st')) : Ev sv d (μ, pc, L, st) M Q ↔ Ev sv d (μ, pc + len, L', st') M Q := by
  refine Ev_next (jstep_of hd ?_) (Nat.zero_le d)
  unfold jex
  rw [h]
  dsimp only
  rw [if_pos rfl]
theorem R_br (hd : decode (jcode μ) pc = .ok (i, len)) (h0 : jpure i L st = none) (h : jbr i len pc st = some (tgt, st')) : Ev sv d (μ, pc, L, st) M Q ↔ Ev sv d (μ, tgt, L, st') M Q := by
  refine Ev_next (jstep_of hd ?_) (Nat.zero_le d)
  unfold jex
  rw [h0, h]
theorem R_mem {M' : jM} (hd : decode (jcode μ) pc = .ok (i, len)) (h0 : jpure i L st = none) (h1 : jbr i len pc st = none) (h : jmem sv μ pc i st M = some (len, st', M')) : Ev sv d (μ, pc, L, st) M Q ↔ Ev sv d (μ, pc + len, L, st') M' Q := by
  refine Ev_next (jstep_of hd ?_) (Nat.zero_le d)
  unfold jex
  rw [h0, h1, h]
  dsimp only
  rw [if_pos rfl]
theorem R_ret {r : Option Value} (hd : decode (jcode μ) pc = .ok (i, 1)) (h0 : jpure i L st = none) (h1 : jbr i 1 pc st = none) (h2 : jmem sv μ pc i st M = none) (h : jrt μ i st = some r) : Ev sv d (μ, pc, L, st) M Q ↔ Q r M := by
  refine Ev_ret (jstep_of hd ?_)
  unfold jex
  rw [h0, h1, h2, h]
  rfl
theorem R_nat {M' : jM} (hd : decode (jcode μ) pc = .ok (i, 3)) (h0 : jpure i L st = none) (h1 : jbr i 3 pc st = none) (h2 : jmem sv μ pc i st M = none) (h3 : jrt μ i st = none) (h : jnatv sv μ i st M = some (st', M')) : Ev sv (d + 1) (μ, pc, L, st) M Q ↔ Ev sv (d + 1) (μ, pc + 3, L, st') M' Q := by
  refine Ev_next (b := 1) (jstep_of hd ?_) (Nat.le_add_left 1 d)
  unfold jex
  rw [h0, h1, h2, h3]
  dsimp only
  rw [if_pos rfl, h]
theorem R_call {Fe Fr : jF} (hd : decode (jcode μ) pc = .ok (i, 3)) (h0 : jpure i L st = none) (h1 : jbr i 3 pc st = none) (h2 : jmem sv μ pc i st M = none) (h3 : jrt μ i st = none) (h4 : jnatv sv μ i st M = none) (h : jcall μ pc L i st M = some (Fe, Fr)) : Ev sv (d + 1) (μ, pc, L, st) M Q ↔ Ev sv d Fe M (fun r M1 => Ev sv (d + 1) (Fr.1, Fr.2.1, Fr.2.2.1, r.toList ++ Fr.2.2.2) M1 Q) := by
  refine Ev_call (jstep_of hd ?_)
  unfold jex
  rw [h0, h1, h2, h3]
  dsimp only
  rw [if_pos rfl, h4, h]
  rfl
-- branches
theorem R_goto {off : Int} (hd : decode (jcode μ) pc = .ok (.goto off, 3)) (ht : jtg pc off = some tgt) : Ev sv d (μ, pc, L, st) M Q ↔ Ev sv d (μ, tgt, L, st) M Q := by
  refine R_br hd rfl ?_
  simp [jbr, ht, va_rf, jrf]
theorem R_if {c : ClassFile.Cond} {off : Int} {x : Int32} (hd : decode (jcode μ) pc = .ok (.ifCond c off, 3)) (ht : jtg pc off = some tgt) : Ev sv d (μ, pc, L, .int x :: st) M Q ↔ Ev sv d (μ, if jcb c x 0 then tgt else pc + 3, L, st) M Q := by
  refine R_br hd rfl ?_
  simp [jbr, ht, va_rf, jrf]
theorem R_icmp {c : ClassFile.Cond} {off : Int} {x y : Int32} (hd : decode (jcode μ) pc = .ok (.if_icmp c off, 3)) (ht : jtg pc off = some tgt) : Ev sv d (μ, pc, L, .int y :: .int x :: st) M Q ↔ Ev sv d (μ, if jcb c x y then tgt else pc + 3, L, st) M Q := by
  refine R_br hd rfl ?_
  simp [jbr, ht, va_rf, jrf]
/-- a branch as a choice: on 'equal', or on 'less' -/
theorem R_ch {b : Bool} {p : Prop} [Decidable p] {x y : Nat} (h : b = true ↔ p) : Ev sv d (μ, if b = true then x else y, L, st) M Q ↔ if p then Ev sv d (μ, x, L, st) M Q else Ev sv d (μ, y, L, st) M Q := by
  by_cases hp : p
  · rw [if_pos (h.mpr hp), if_pos hp]
  · rw [if_neg (fun z => hp (h.mp z)), if_neg hp]
theorem R_chn {b : Bool} {p : Prop} [Decidable p] {x y : Nat} (h : b = true ↔ ¬ p) : Ev sv d (μ, if b = true then x else y, L, st) M Q ↔ if p then Ev sv d (μ, y, L, st) M Q else Ev sv d (μ, x, L, st) M Q := by
  by_cases hp : p
  · rw [if_neg (fun z => h.mp z hp), if_pos hp]
  · rw [if_pos (h.mpr hp), if_neg hp]
theorem jcb_eq {x y : Int32} : jcb .eq x y = true ↔ x = y := jcb_iff
theorem jcb_ne {x y : Int32} : jcb .ne x y = true ↔ ¬ x = y := jcb_iff
theorem jcb_lt {x y : Int32} : jcb .lt x y = true ↔ x < y := jcb_iff
theorem jcb_ge {x y : Int32} : jcb .ge x y = true ↔ ¬ x < y := jcb_iff.trans Int32.not_lt.symm
theorem jcb_gt {x y : Int32} : jcb .gt x y = true ↔ y < x := jcb_iff
theorem jcb_le {x y : Int32} : jcb .le x y = true ↔ ¬ y < x := jcb_iff.trans Int32.not_lt.symm
theorem R_null {off : Int} {r : Option Nat} (hd : decode (jcode μ) pc = .ok (.ifnull off, 3)) (ht : jtg pc off = some tgt) : Ev sv d (μ, pc, L, va_rf r :: st) M Q ↔ if r = none then Ev sv d (μ, tgt, L, st) M Q else Ev sv d (μ, pc + 3, L, st) M Q := by
  cases r with
  | none =>
    rw [if_pos rfl]
    refine R_br hd rfl ?_
    simp [jbr, ht, va_rf, jrf]
  | some b =>
    rw [if_neg (fun h => by cases h)]
    refine R_br hd rfl ?_
    simp [jbr, ht, va_rf, jrf]
theorem R_nonnull {off : Int} {r : Option Nat} (hd : decode (jcode μ) pc = .ok (.ifnonnull off, 3)) (ht : jtg pc off = some tgt) : Ev sv d (μ, pc, L, va_rf r :: st) M Q ↔ if r = none then Ev sv d (μ, pc + 3, L, st) M Q else Ev sv d (μ, tgt, L, st) M Q := by
  cases r with
  | none =>
    rw [if_pos rfl]
    refine R_br hd rfl ?_
    simp [jbr, ht, va_rf, jrf]
  | some b =>
    rw [if_neg (fun h => by cases h)]
    refine R_br hd rfl ?_
    simp [jbr, ht, va_rf, jrf]
theorem R_acmpne {off : Int} {b : Nat} (hd : decode (jcode μ) pc = .ok (.if_acmp .ne off, 3)) (ht : jtg pc off = some tgt) : Ev sv d (μ, pc, L, .ref b :: .ref a :: st) M Q ↔ if a = b then Ev sv d (μ, pc + 3, L, st) M Q else Ev sv d (μ, tgt, L, st) M Q := by
  have h : jbr (.if_acmp .ne off) 3 pc (.ref b :: .ref a :: st) = some (if some a = some b then pc + 3 else tgt, st) := by
    simp [jbr, ht, va_rf, jrf]
  rw [R_br hd rfl h]
  by_cases hab : a = b
  · rw [if_pos hab, if_pos (by rw [hab])]
  · rw [if_neg hab, if_neg (fun h => hab (Option.some.inj h))]
theorem R_acmpeq {off : Int} {b : Nat} (hd : decode (jcode μ) pc = .ok (.if_acmp .eq off, 3)) (ht : jtg pc off = some tgt) : Ev sv d (μ, pc, L, .ref b :: .ref a :: st) M Q ↔ if a = b then Ev sv d (μ, tgt, L, st) M Q else Ev sv d (μ, pc + 3, L, st) M Q := by
  have h : jbr (.if_acmp .eq off) 3 pc (.ref b :: .ref a :: st) = some (if some a = some b then tgt else pc + 3, st) := by
    simp [jbr, ht, va_rf, jrf]
  rw [R_br hd rfl h]
  by_cases hab : a = b
  · rw [if_pos hab, if_pos (by rw [hab])]
  · rw [if_neg hab, if_neg (fun h => hab (Option.some.inj h))]
-- locals
/-- a slot that holds no long -/
def jw (o : Option Value) : Bool := match o with
  | some (.long _) => false
  | some (.double _) => false
  | _ => true
theorem jw_none : jw none = true := rfl
theorem jw_int (x : Int32) : jw (some (.int x)) = true := rfl
theorem jw_ref (x : Nat) : jw (some (.ref x)) = true := rfl
theorem jw_null : jw (some .null) = true := rfl
theorem jw_rf (r : Option Nat) : jw (some (va_rf r)) = true := by cases r <;> rfl
theorem jw_wide {o : Option Value} (h : jw o = true) : jwide (some o) = false := by
  cases o with
  | none => rfl
  | some v => cases v <;> first | rfl | cases h
theorem cat_int (x : Int32) : (Value.int x).category = 1 := rfl
theorem cat_ref (x : Nat) : (Value.ref x).category = 1 := rfl
theorem cat_null : Value.null.category = 1 := rfl
theorem cat_long (x : Int64) : (Value.long x).category = 2 := rfl
theorem cat_rf (r : Option Nat) : (va_rf r).category = 1 := by cases r <;> rfl
theorem jcat_nil : jcat [] = 0 := rfl
theorem jcat_cons (v : Value) (r : List Value) : jcat (v :: r) = v.category + jcat r := by
  unfold jcat
  rw [List.map_cons, List.sum_cons]
/-- 0 or 1 -/
def bz (x : Int32) : Prop := x = 0 ∨ x = 1
theorem bz_0 : bz 0 := Or.inl rfl
theorem bz_1 : bz 1 := Or.inr rfl
theorem bz_if {p : Prop} [Decidable p] {x y : Int32} (hx : bz x) (hy : bz y) : bz (if p then x else y) := by
  by_cases h : p
  · rw [if_pos h]; exact hx
  · rw [if_neg h]; exact hy
theorem bz_fits {x : Int32} (h : bz x) : jfits .boolean (.int x) = true := by
  rcases h with h | h <;> subst h <;> rfl
theorem R_st1 {v : Value} {p : Option Value} {jj : Nat} (hd : decode (jcode μ) pc = .ok (i, len)) (hi : jpure i L st = (jst1 L (jj + 1) v).map fun L' => (len, L', st')) (hp : L[jj]? = some p) (hw : jw p = true) (hl : jj + 1 < L.length) : Ev sv d (μ, pc, L, st) M Q ↔ Ev sv d (μ, pc + len, L.set (jj + 1) (some v), st') M Q := by
  refine R_pure hd ?_
  rw [hi]
  have e : jst1 L (jj + 1) v = some (L.set (jj + 1) (some v)) := by
    have hf : jfree L (jj + 1) = true := by
      show (!jwide L[jj]?) = true
      rw [hp, jw_wide hw]
      rfl
    unfold jst1
    rw [hf, if_pos (by simp [hl])]
  rw [e]
  rfl
theorem R_st2 {v : Value} {p : Option Value} {jj : Nat} (hd : decode (jcode μ) pc = .ok (i, len)) (hi : jpure i L st = (jst2 L (jj + 1) v).map fun L' => (len, L', st')) (hp : L[jj]? = some p) (hw : jw p = true) (hl : jj + 1 + 1 < L.length) : Ev sv d (μ, pc, L, st) M Q ↔ Ev sv d (μ, pc + len, (L.set (jj + 1) (some v)).set (jj + 1 + 1) none, st') M Q := by
  refine R_pure hd ?_
  rw [hi]
  have e : jst2 L (jj + 1) v = some ((L.set (jj + 1) (some v)).set (jj + 1 + 1) none) := by
    have hf : jfree L (jj + 1) = true := by
      show (!jwide L[jj]?) = true
      rw [hp, jw_wide hw]
      rfl
    unfold jst2
    rw [hf, if_pos (by simp [hl])]
  rw [e]
  rfl
-- returns
theorem R_iret {x : Int32} (hd : decode (jcode μ) pc = .ok (.ireturn, 1)) (hr : jret μ = some .int) : Ev sv d (μ, pc, L, [.int x]) M Q ↔ Q (some (.int x)) M := by
  refine R_ret hd rfl rfl rfl ?_
  exact if_pos (Or.inl hr)
theorem R_zret {x : Int32} (hd : decode (jcode μ) pc = .ok (.ireturn, 1)) (hr : jret μ = some .boolean) (hx : bz x) : Ev sv d (μ, pc, L, [.int x]) M Q ↔ Q (some (.int x)) M := by
  refine R_ret hd rfl rfl rfl ?_
  exact if_pos (Or.inr ⟨hr, bz_fits hx⟩)
theorem R_lret {x : Int64} (hd : decode (jcode μ) pc = .ok (.lreturn, 1)) (hr : jret μ = some .long) : Ev sv d (μ, pc, L, [.long x]) M Q ↔ Q (some (.long x)) M := by
  refine R_ret hd rfl rfl rfl ?_
  exact if_pos hr
theorem R_aret {r : Option Nat} (hd : decode (jcode μ) pc = .ok (.areturn, 1)) (hr : (jret μ).any (·.isReference) = true) : Ev sv d (μ, pc, L, [va_rf r]) M Q ↔ Q (some (va_rf r)) M := by
  cases r with
  | none =>
    refine R_ret hd rfl rfl rfl ?_
    exact if_pos hr
  | some b =>
    refine R_ret hd rfl rfl rfl ?_
    exact if_pos hr
theorem R_vret (hd : decode (jcode μ) pc = .ok (.return_, 1)) (hr : jret μ = none) : Ev sv d (μ, pc, L, []) M Q ↔ Q none M := by
  refine R_ret hd rfl rfl rfl ?_
  exact if_pos hr
end JR
end
section
-- ===== rows of the typed memory =====
section JR2
variable {sv : Nat → Value} {d μ pc len t u κ k a n idx tgt : Nat} {L L' : jL} {st st' : List Value} {M : jM} {Q : Option Value → jM → Prop} {i : ClassFile.Instr} {g : jG} {I : tI} {J : tJ} {P : tP}
theorem R_getv (hd : decode (jcode μ) pc = .ok (.getfield idx, 3)) (hf : jfl (jow μ) idx = some (κ, k)) (ht : jt g a = some κ) : Ev sv d (μ, pc, L, .ref a :: st) (tv t u g I J P) Q ↔ Ev sv d (μ, pc + 3, L, tV I J P κ k a :: st) (tv t u g I J P) Q := by
  refine R_mem hd rfl rfl ?_
  unfold jmem tv
  dsimp only
  rw [hf, jt_of ht]
  dsimp only
  rw [if_pos rfl]
theorem R_geti (hd : decode (jcode μ) pc = .ok (.getfield idx, 3)) (hf : jfl (jow μ) idx = some (κ, k)) (hs : jso κ k = 0) (ht : jt g a = some κ) : Ev sv d (μ, pc, L, .ref a :: st) (tv t u g I J P) Q ↔ Ev sv d (μ, pc + 3, L, .int (I κ k a) :: st) (tv t u g I J P) Q := by
  rw [R_getv hd hf ht, tV_i hs]
theorem R_getl (hd : decode (jcode μ) pc = .ok (.getfield idx, 3)) (hf : jfl (jow μ) idx = some (κ, k)) (hs : jso κ k = 1) (ht : jt g a = some κ) : Ev sv d (μ, pc, L, .ref a :: st) (tv t u g I J P) Q ↔ Ev sv d (μ, pc + 3, L, .long (J κ k a) :: st) (tv t u g I J P) Q := by
  rw [R_getv hd hf ht, tV_l hs]
theorem R_geta (hd : decode (jcode μ) pc = .ok (.getfield idx, 3)) (hf : jfl (jow μ) idx = some (κ, k)) (hs : jso κ k = 2) (ht : jt g a = some κ) : Ev sv d (μ, pc, L, .ref a :: st) (tv t u g I J P) Q ↔ Ev sv d (μ, pc + 3, L, va_rf (P κ k a) :: st) (tv t u g I J P) Q := by
  rw [R_getv hd hf ht, tV_a hs]
theorem R_putv {v : Value} (hd : decode (jcode μ) pc = .ok (.putfield idx, 3)) (hf : jfl (jow μ) idx = some (κ, k)) (hpf : jpf μ κ k = true) (hv : jfits (jty κ k) v = true) (ht : jt g a = some κ) : Ev sv d (μ, pc, L, v :: .ref a :: st) (tv t u g I J P) Q ↔ Ev sv d (μ, pc + 3, L, st) (t, u, g, jset (tV I J P) κ k a v) Q := by
  have h : jmem sv μ pc (.putfield idx) (v :: .ref a :: st) (tv t u g I J P) = some (3, st, t, u, g, jset (tV I J P) κ k a v) := by
    unfold jmem tv
    dsimp only
    rw [hf, jt_of ht]
    dsimp only
    rw [if_pos ⟨rfl, hpf, hv⟩]
  exact R_mem hd rfl rfl h
theorem R_puti {x : Int32} (hd : decode (jcode μ) pc = .ok (.putfield idx, 3)) (hf : jfl (jow μ) idx = some (κ, k)) (hpf : jpf μ κ k = true) (hty : jty κ k = .int) (hs : jso κ k = 0) (ht : jt g a = some κ) : Ev sv d (μ, pc, L, .int x :: .ref a :: st) (tv t u g I J P) Q ↔ Ev sv d (μ, pc + 3, L, st) (tv t u g (ups I κ k a x) J P) Q := by
  rw [R_putv hd hf hpf (by rw [hty]; rfl) ht, jset_i hs]
  rfl
theorem R_putz {x : Int32} (hd : decode (jcode μ) pc = .ok (.putfield idx, 3)) (hf : jfl (jow μ) idx = some (κ, k)) (hpf : jpf μ κ k = true) (hty : jty κ k = .boolean) (hs : jso κ k = 0) (ht : jt g a = some κ) (hx : bz x) : Ev sv d (μ, pc, L, .int x :: .ref a :: st) (tv t u g I J P) Q ↔ Ev sv d (μ, pc + 3, L, st) (tv t u g (ups I κ k a x) J P) Q := by
  rw [R_putv hd hf hpf (by rw [hty]; exact bz_fits hx) ht, jset_i hs]
  rfl
theorem R_putl {x : Int64} (hd : decode (jcode μ) pc = .ok (.putfield idx, 3)) (hf : jfl (jow μ) idx = some (κ, k)) (hpf : jpf μ κ k = true) (hty : jty κ k = .long) (hs : jso κ k = 1) (ht : jt g a = some κ) : Ev sv d (μ, pc, L, .long x :: .ref a :: st) (tv t u g I J P) Q ↔ Ev sv d (μ, pc + 3, L, st) (tv t u g I (ups J κ k a x) P) Q := by
  rw [R_putv hd hf hpf (by rw [hty]; rfl) ht, jset_l hs]
  rfl
/-- a reference into a field -/
def jrty (ty : FieldType) : Bool := match ty with
  | .object _ => true
  | .array _ => true
  | _ => false
theorem R_puta {r : Option Nat} (hd : decode (jcode μ) pc = .ok (.putfield idx, 3)) (hf : jfl (jow μ) idx = some (κ, k)) (hpf : jpf μ κ k = true) (hty : jrty (jty κ k) = true) (hs : jso κ k = 2) (ht : jt g a = some κ) : Ev sv d (μ, pc, L, va_rf r :: .ref a :: st) (tv t u g I J P) Q ↔ Ev sv d (μ, pc + 3, L, st) (tv t u g I J (ups P κ k a r)) Q := by
  have hv : jfits (jty κ k) (va_rf r) = true := by
    cases h : jty κ k <;> rw [h] at hty <;> first | (cases hty; done) | (cases r <;> rfl)
  rw [R_putv hd hf hpf hv ht, jset_a hs]
  rfl
theorem R_new {N w : Nat} (hd : decode (jcode μ) pc = .ok (.new idx, 3)) (hf : jnw (jow μ) idx = some (κ, N, w)) (hdf : ∀ k, defaultValue (jty κ k) = jdf κ k) : Ev sv d (μ, pc, L, st) (tv t u g I J P) Q ↔ Ev sv d (μ, pc + 3, L, .ref t :: st) (tv (t + 1) (u + w) (jgset g t (κ, N)) (upc I κ t (fun _ => 0)) (upc J κ t (fun _ => 0)) (upc P κ t (fun _ => none))) Q := by
  have h : jmem sv μ pc (.new idx) st (tv t u g I J P) = some (3, .ref t :: st, tv (t + 1) (u + w) (jgset g t (κ, N)) (upc I κ t (fun _ => 0)) (upc J κ t (fun _ => 0)) (upc P κ t (fun _ => none))) := by
    unfold jmem tv
    dsimp only
    rw [hf]
    dsimp only
    rw [jput_df hdf]
  exact R_mem hd rfl rfl h
theorem R_newa {aty : ArrayType} {x : Int32} {nn : Nat} (hd : decode (jcode μ) pc = .ok (.newarray aty, 2)) (hf : jna μ pc aty = some κ) (hdf : ∀ k, defaultValue (newarray.typeOf aty) = jdf κ k) (h0 : ¬ x < 0) (hx : x.toNatClampNeg = nn) (hn : nn ≤ 1000000) : Ev sv d (μ, pc, L, .int x :: st) (tv t u g I J P) Q ↔ Ev sv d (μ, pc + 2, L, .ref t :: st) (tv (t + 1) (u + nn) (jgset g t (κ, nn)) (upc I κ t (fun _ => 0)) (upc J κ t (fun _ => 0)) (upc P κ t (fun _ => none))) Q := by
  subst hx
  have h : jmem sv μ pc (.newarray aty) (.int x :: st) (tv t u g I J P) = some (2, .ref t :: st, tv (t + 1) (u + x.toNatClampNeg) (jgset g t (κ, x.toNatClampNeg)) (upc I κ t (fun _ => 0)) (upc J κ t (fun _ => 0)) (upc P κ t (fun _ => none))) := by
    unfold jmem tv
    dsimp only
    rw [hf]
    dsimp only
    rw [if_pos ⟨h0, hn⟩, jput_df hdf]
  exact R_mem hd rfl rfl h
theorem R_anew {x : Int32} (hd : decode (jcode μ) pc = .ok (.anewarray idx, 3)) (hf : janw (jow μ) idx = some κ) (hdf : ∀ k, Value.null = jdf κ k) (h0 : ¬ x < 0) (hn : x.toNatClampNeg ≤ 1000000) : Ev sv d (μ, pc, L, .int x :: st) (tv t u g I J P) Q ↔ Ev sv d (μ, pc + 3, L, .ref t :: st) (tv (t + 1) (u + x.toNatClampNeg) (jgset g t (κ, x.toNatClampNeg)) (upc I κ t (fun _ => 0)) (upc J κ t (fun _ => 0)) (upc P κ t (fun _ => none))) Q := by
  have h : jmem sv μ pc (.anewarray idx) (.int x :: st) (tv t u g I J P) = some (3, .ref t :: st, tv (t + 1) (u + x.toNatClampNeg) (jgset g t (κ, x.toNatClampNeg)) (upc I κ t (fun _ => 0)) (upc J κ t (fun _ => 0)) (upc P κ t (fun _ => none))) := by
    unfold jmem tv
    dsimp only
    rw [hf]
    dsimp only
    rw [if_pos ⟨h0, hn⟩, jput_df hdf]
  exact R_mem hd rfl rfl h
theorem R_len (hd : decode (jcode μ) pc = .ok (.arraylength, 1)) (hκ : 50 ≤ κ) (ht : jt g a = some κ) : Ev sv d (μ, pc, L, .ref a :: st) (tv t u g I J P) Q ↔ Ev sv d (μ, pc + 1, L, .int (Int32.ofNat (jn g a)) :: st) (tv t u g I J P) Q := by
  have h : jmem sv μ pc .arraylength (.ref a :: st) (tv t u g I J P) = some (1, .int (Int32.ofNat (jn g a)) :: st, tv t u g I J P) := by
    unfold jmem tv
    dsimp only
    rw [jt_of ht]
    dsimp only
    rw [if_pos hκ]
  exact R_mem hd rfl rfl h
theorem R_iald {j : Int32} (hd : decode (jcode μ) pc = .ok (.iaload, 1)) (hk : jkt κ = some .int) (ht : jt g a = some κ) (hj : jin j (jn g a) = true) : Ev sv d (μ, pc, L, .int j :: .ref a :: st) (tv t u g I J P) Q ↔ Ev sv d (μ, pc + 1, L, .int (I κ j.toNatClampNeg a) :: st) (tv t u g I J P) Q := by
  have h : jmem sv μ pc .iaload (.int j :: .ref a :: st) (tv t u g I J P) = some (1, .int (I κ j.toNatClampNeg a) :: st, tv t u g I J P) := by
    unfold jmem tv
    dsimp only
    rw [jt_of ht]
    dsimp only
    rw [if_pos ⟨hk, hj⟩, tV_i (by rw [jso_arr (jkt_50 hk) hk]; rfl)]
  exact R_mem hd rfl rfl h
theorem R_zald {j : Int32} (hd : decode (jcode μ) pc = .ok (.baload, 1)) (hk : jkt κ = some .boolean) (ht : jt g a = some κ) (hj : jin j (jn g a) = true) : Ev sv d (μ, pc, L, .int j :: .ref a :: st) (tv t u g I J P) Q ↔ Ev sv d (μ, pc + 1, L, .int (I κ j.toNatClampNeg a) :: st) (tv t u g I J P) Q := by
  have h : jmem sv μ pc .baload (.int j :: .ref a :: st) (tv t u g I J P) = some (1, .int (I κ j.toNatClampNeg a) :: st, tv t u g I J P) := by
    unfold jmem tv
    dsimp only
    rw [jt_of ht]
    dsimp only
    rw [if_pos ⟨hk, hj⟩, tV_i (by rw [jso_arr (jkt_50 hk) hk]; rfl)]
  exact R_mem hd rfl rfl h
theorem R_lald {j : Int32} (hd : decode (jcode μ) pc = .ok (.laload, 1)) (hk : jkt κ = some .long) (ht : jt g a = some κ) (hj : jin j (jn g a) = true) : Ev sv d (μ, pc, L, .int j :: .ref a :: st) (tv t u g I J P) Q ↔ Ev sv d (μ, pc + 1, L, .long (J κ j.toNatClampNeg a) :: st) (tv t u g I J P) Q := by
  have h : jmem sv μ pc .laload (.int j :: .ref a :: st) (tv t u g I J P) = some (1, .long (J κ j.toNatClampNeg a) :: st, tv t u g I J P) := by
    unfold jmem tv
    dsimp only
    rw [jt_of ht]
    dsimp only
    rw [if_pos ⟨hk, hj⟩, tV_l (by rw [jso_arr (jkt_50 hk) hk]; rfl)]
  exact R_mem hd rfl rfl h
theorem R_aald {j : Int32} (hd : decode (jcode μ) pc = .ok (.aaload, 1)) (hk : jkr κ = true) (ht : jt g a = some κ) (hj : jin j (jn g a) = true) : Ev sv d (μ, pc, L, .int j :: .ref a :: st) (tv t u g I J P) Q ↔ Ev sv d (μ, pc + 1, L, va_rf (P κ j.toNatClampNeg a) :: st) (tv t u g I J P) Q := by
  have hkt := jkr_ok hk
  have h : jmem sv μ pc .aaload (.int j :: .ref a :: st) (tv t u g I J P) = some (1, va_rf (P κ j.toNatClampNeg a) :: st, tv t u g I J P) := by
    unfold jmem tv
    dsimp only
    rw [jt_of ht]
    dsimp only
    rw [if_pos ⟨hk, hj⟩, tV_a (by rw [jso_arr (jkt_50 hkt) hkt]; rfl)]
  exact R_mem hd rfl rfl h
theorem R_iast {j x : Int32} (hd : decode (jcode μ) pc = .ok (.iastore, 1)) (hκ : κ < 90) (hk : jkt κ = some .int) (ht : jt g a = some κ) (hj : jin j (jn g a) = true) : Ev sv d (μ, pc, L, .int x :: .int j :: .ref a :: st) (tv t u g I J P) Q ↔ Ev sv d (μ, pc + 1, L, st) (tv t u g (ups I κ j.toNatClampNeg a x) J P) Q := by
  have h : jmem sv μ pc .iastore (.int x :: .int j :: .ref a :: st) (tv t u g I J P) = some (1, st, tv t u g (ups I κ j.toNatClampNeg a x) J P) := by
    unfold jmem tv
    dsimp only
    rw [jt_of ht]
    dsimp only
    rw [if_pos ⟨⟨hκ, hk⟩, hj⟩, jset_i (by rw [jso_arr (jkt_50 hk) hk]; rfl)]
  exact R_mem hd rfl rfl h
theorem R_zast {j x : Int32} (hd : decode (jcode μ) pc = .ok (.bastore, 1)) (hκ : κ < 90) (hk : jkt κ = some .boolean) (ht : jt g a = some κ) (hx : bz x) (hj : jin j (jn g a) = true) : Ev sv d (μ, pc, L, .int x :: .int j :: .ref a :: st) (tv t u g I J P) Q ↔ Ev sv d (μ, pc + 1, L, st) (tv t u g (ups I κ j.toNatClampNeg a x) J P) Q := by
  have h : jmem sv μ pc .bastore (.int x :: .int j :: .ref a :: st) (tv t u g I J P) = some (1, st, tv t u g (ups I κ j.toNatClampNeg a x) J P) := by
    unfold jmem tv
    dsimp only
    rw [jt_of ht]
    dsimp only
    rw [if_pos ⟨⟨hκ, hk⟩, bz_fits hx, hj⟩, jset_i (by rw [jso_arr (jkt_50 hk) hk]; rfl)]
  exact R_mem hd rfl rfl h
theorem R_last {j : Int32} {x : Int64} (hd : decode (jcode μ) pc = .ok (.lastore, 1)) (hκ : κ < 90) (hk : jkt κ = some .long) (ht : jt g a = some κ) (hj : jin j (jn g a) = true) : Ev sv d (μ, pc, L, .long x :: .int j :: .ref a :: st) (tv t u g I J P) Q ↔ Ev sv d (μ, pc + 1, L, st) (tv t u g I (ups J κ j.toNatClampNeg a x) P) Q := by
  have h : jmem sv μ pc .lastore (.long x :: .int j :: .ref a :: st) (tv t u g I J P) = some (1, st, tv t u g I (ups J κ j.toNatClampNeg a x) P) := by
    unfold jmem tv
    dsimp only
    rw [jt_of ht]
    dsimp only
    rw [if_pos ⟨⟨hκ, hk⟩, hj⟩, jset_l (by rw [jso_arr (jkt_50 hk) hk]; rfl)]
  exact R_mem hd rfl rfl h
theorem R_aast {j : Int32} {v κv : Nat} (hd : decode (jcode μ) pc = .ok (.aastore, 1)) (ht : jt g a = some 53) (hv : jt g v = some κv) (hca : jca 53 κv = true) (hj : jin j (jn g a) = true) : Ev sv d (μ, pc, L, .ref v :: .int j :: .ref a :: st) (tv t u g I J P) Q ↔ Ev sv d (μ, pc + 1, L, st) (tv t u g I J (ups P 53 j.toNatClampNeg a (some v))) Q := by
  have h : jmem sv μ pc .aastore (.ref v :: .int j :: .ref a :: st) (tv t u g I J P) = some (1, st, tv t u g I J (ups P 53 j.toNatClampNeg a (some v))) := by
    unfold jmem tv
    dsimp only
    rw [jt_of ht, jt_of hv]
    dsimp only
    rw [if_pos ⟨by decide, by decide, hca, hj⟩]
    have e := jset_a (I := I) (J := J) (P := P) (κ := 53) (k := j.toNatClampNeg) (a := a) (r := some v) (by rw [jso_arr (by decide) (ty := .object "java/lang/Object") rfl]; rfl)
    rw [← e]
    rfl
  exact R_mem hd rfl rfl h
theorem R_gets (hd : decode (jcode μ) pc = .ok (.getstatic idx, 3)) (hf : jsg (jow μ) idx = some k) : Ev sv d (μ, pc, L, st) M Q ↔ Ev sv d (μ, pc + 3, L, sv k :: st) M Q := by
  refine R_mem hd rfl rfl ?_
  unfold jmem
  dsimp only
  rw [hf]
theorem R_ldci {x : Int32} (hd : decode (jcode μ) pc = .ok (.ldc idx, 2)) (hf : jldc (jow μ) idx = some (.inl x)) : Ev sv d (μ, pc, L, st) M Q ↔ Ev sv d (μ, pc + 2, L, .int x :: st) M Q := by
  refine R_mem hd rfl rfl ?_
  unfold jmem
  dsimp only
  rw [hf]
theorem R_ldcm (hd : decode (jcode μ) pc = .ok (.ldc idx, 2)) (hf : jldc (jow μ) idx = some (.inr k)) : Ev sv d (μ, pc, L, st) M Q ↔ Ev sv d (μ, pc + 2, L, sv k :: st) M Q := by
  refine R_mem hd rfl rfl ?_
  unfold jmem
  dsimp only
  rw [hf]
theorem R_ldc2 {x : Int64} (hd : decode (jcode μ) pc = .ok (.ldc2_w idx, 3)) (hf : jldl (jow μ) idx = some x) : Ev sv d (μ, pc, L, st) M Q ↔ Ev sv d (μ, pc + 3, L, .long x :: st) M Q := by
  refine R_mem hd rfl rfl ?_
  unfold jmem
  dsimp only
  rw [hf]
theorem R_cast (hd : decode (jcode μ) pc = .ok (.checkcast idx, 3)) (hf : jck (jow μ) idx κ = true) (ht : jt g a = some κ) : Ev sv d (μ, pc, L, .ref a :: st) (tv t u g I J P) Q ↔ Ev sv d (μ, pc + 3, L, .ref a :: st) (tv t u g I J P) Q := by
  refine R_mem hd rfl rfl ?_
  unfold jmem tv
  dsimp only
  rw [jt_of ht]
  dsimp only
  rw [if_pos hf]
-- natives
theorem R_objinit (hd : decode (jcode μ) pc = .ok (.invokespecial idx, 3)) (hf : jnt (jow μ) idx = some 0) (hc : jcat st ≤ 8) : Ev sv (d + 1) (μ, pc, L, .ref a :: st) M Q ↔ Ev sv (d + 1) (μ, pc + 3, L, st) M Q := by
  refine R_nat hd rfl rfl rfl rfl ?_
  unfold jnatv
  dsimp only
  rw [if_pos hf, if_pos hc]
theorem R_max {x y : Int32} (hd : decode (jcode μ) pc = .ok (.invokestatic idx, 3)) (hf : jnt (jow μ) idx = some 3) (hc : jcat st ≤ 8) : Ev sv (d + 1) (μ, pc, L, .int y :: .int x :: st) M Q ↔ Ev sv (d + 1) (μ, pc + 3, L, .int (if x < y then y else x) :: st) M Q := by
  refine R_nat hd rfl rfl rfl rfl ?_
  unfold jnatv
  dsimp only
  rw [hf]
  dsimp only
  rw [if_neg (by decide), if_pos rfl, if_pos hc]
theorem R_min {x y : Int32} (hd : decode (jcode μ) pc = .ok (.invokestatic idx, 3)) (hf : jnt (jow μ) idx = some 4) (hc : jcat st ≤ 8) : Ev sv (d + 1) (μ, pc, L, .int y :: .int x :: st) M Q ↔ Ev sv (d + 1) (μ, pc + 3, L, .int (if y < x then y else x) :: st) M Q := by
  refine R_nat hd rfl rfl rfl rfl ?_
  unfold jnatv
  dsimp only
  rw [hf]
  dsimp only
  rw [if_neg (by decide), if_neg (by decide), if_pos rfl, if_pos hc]
theorem R_getC (hd : decode (jcode μ) pc = .ok (.invokevirtual idx, 3)) (hf : jnt (jow μ) idx = some 2) (hm : jmi κ = some k) (ht : jt g a = some κ) (hc : jcat st ≤ 8) : Ev sv (d + 1) (μ, pc, L, .ref a :: st) (tv t u g I J P) Q ↔ Ev sv (d + 1) (μ, pc + 3, L, sv k :: st) (tv t u g I J P) Q := by
  refine R_nat hd rfl rfl rfl rfl ?_
  unfold jnatv tv
  dsimp only
  rw [if_pos hf, if_pos hc, jt_of ht]
  dsimp only
  rw [hm]
theorem R_copyi {a0 κ0 : Nat} {x sp dp : Int32} (hd : decode (jcode μ) pc = .ok (.invokestatic idx, 3)) (hf : jnt (jow μ) idx = some 1) (hk0 : jkt κ0 = some .int) (hk : jkt κ = some .int) (hκ : κ < 90) (ht0 : jt g a0 = some κ0) (ht : jt g a = some κ) (hs : ¬ sp < 0 ∧ ¬ dp < 0 ∧ ¬ x < 0) (hl : sp.toNatClampNeg + x.toNatClampNeg ≤ jn g a0 ∧ dp.toNatClampNeg + x.toNatClampNeg ≤ jn g a) (hc : jcat st ≤ 8) :
    Ev sv (d + 1) (μ, pc, L, .int x :: .int dp :: .ref a :: .int sp :: .ref a0 :: st) (tv t u g I J P) Q ↔ Ev sv (d + 1) (μ, pc + 3, L, st) (tv t u g (upc I κ a (va_cpy (fun k => I κ0 k a0) (fun k => I κ k a) sp.toNatClampNeg dp.toNatClampNeg x.toNatClampNeg)) J P) Q := by
  have s0 : ∀ k, jso κ0 k = 0 := fun k => by rw [jso_arr (jkt_50 hk0) hk0]; rfl
  have s1 : ∀ k, jso κ k = 0 := fun k => by rw [jso_arr (jkt_50 hk) hk]; rfl
  refine R_nat hd rfl rfl rfl rfl ?_
  unfold jnatv tv
  dsimp only
  rw [hf]
  dsimp only
  rw [if_pos rfl]
  unfold jcpy
  dsimp only
  rw [jt_of ht0, jt_of ht]
  dsimp only
  rw [hk]
  dsimp only
  rw [if_pos ⟨hc, ⟨jkt_50 hk0, jkt_50 hk, hκ, hk0⟩, hs, hl, fun i _ => by rw [tV_i (s0 _)]; rfl⟩, jput_ci s1 s0]
/-- an element that an array of Objects takes -/
def jok (g : jG) (r : Option Nat) : Prop := ∀ y, r = some y → jt g y = some 2 ∨ jt g y = some 4 ∨ jt g y = some 5
theorem jok_el {r : Option Nat} (h : jok g r) : jel (.object "java/lang/Object") 53 g (va_rf r) = true := by
  cases r with
  | none => rfl
  | some y =>
    unfold jel
    have e : fits (.object "java/lang/Object") (va_rf (some y)) = true := rfl
    rw [e]
    show (match g y with | some (κy, _) => jca 53 κy | none => false) = true
    rcases h y rfl with h | h | h <;> rw [jt_of h] <;> rfl
theorem R_copya {a0 κ0 : Nat} {x sp dp : Int32} (hd : decode (jcode μ) pc = .ok (.invokestatic idx, 3)) (hf : jnt (jow μ) idx = some 1) (hk0 : jkr κ0 = true) (ht0 : jt g a0 = some κ0) (ht : jt g a = some 53) (hs : ¬ sp < 0 ∧ ¬ dp < 0 ∧ ¬ x < 0) (hl : sp.toNatClampNeg + x.toNatClampNeg ≤ jn g a0 ∧ dp.toNatClampNeg + x.toNatClampNeg ≤ jn g a) (hel : ∀ i, i < x.toNatClampNeg → jok g (P κ0 (sp.toNatClampNeg + i) a0)) (hc : jcat st ≤ 8) :
    Ev sv (d + 1) (μ, pc, L, .int x :: .int dp :: .ref a :: .int sp :: .ref a0 :: st) (tv t u g I J P) Q ↔ Ev sv (d + 1) (μ, pc + 3, L, st) (tv t u g I J (upc P 53 a (va_cpy (fun k => P κ0 k a0) (fun k => P 53 k a) sp.toNatClampNeg dp.toNatClampNeg x.toNatClampNeg))) Q := by
  have hkt0 := jkr_ok hk0
  have s0 : ∀ k, jso κ0 k = 2 := fun k => by rw [jso_arr (jkt_50 hkt0) hkt0]; rfl
  have hkt : jkt 53 = some (.object "java/lang/Object") := rfl
  have s1 : ∀ k, jso 53 k = 2 := fun k => by rw [jso_arr (by decide) hkt]; rfl
  refine R_nat hd rfl rfl rfl rfl ?_
  unfold jnatv tv
  dsimp only
  rw [hf]
  dsimp only
  rw [if_pos rfl]
  unfold jcpy
  dsimp only
  rw [jt_of ht0, jt_of ht]
  dsimp only
  rw [hkt]
  dsimp only
  rw [if_pos ⟨hc, ⟨jkt_50 hkt0, by decide, by decide, hkt0⟩, hs, hl, fun i hi => by rw [tV_a (s0 _)]; exact jok_el (hel i hi)⟩, jput_ca s1 s0]
-- calls
theorem R_callV {μ' b : Nat} {as : List Value} (hd : decode (jcode μ) pc = .ok (.invokevirtual idx, 3)) (hn : jnt (jow μ) idx = none) (hf : jmt (jow μ) idx = some (0, μ', k, κ)) (hk : as.length = k) (ht : jt g b = some κ) (hc : jcat st ≤ 8) (hl : (jarg (.ref b :: as.reverse)).length ≤ jmaxl μ') :
    Ev sv (d + 1) (μ, pc, L, as ++ .ref b :: st) (tv t u g I J P) Q ↔ Ev sv d (μ', 0, jent (jmaxl μ') (.ref b :: as.reverse), []) (tv t u g I J P) (fun r M1 => Ev sv (d + 1) (μ, pc + 3, L, r.toList ++ st) M1 Q) := by
  subst hk
  refine R_call (Fe := (μ', 0, jent (jmaxl μ') (.ref b :: as.reverse), [])) (Fr := (μ, pc + 3, L, st)) hd rfl rfl ?_ rfl ?_ ?_
  · rfl
  · unfold jnatv
    dsimp only
    rw [hn]
    rfl
  · unfold jcall tv
    dsimp only
    rw [hf]
    dsimp only
    rw [if_pos rfl, List.drop_left, List.take_left]
    dsimp only
    rw [if_pos ⟨ht, hc, by simp, hl⟩]
theorem R_callI {μ' b κ' : Nat} {as : List Value} (hd : decode (jcode μ) pc = .ok (.invokespecial idx, 3)) (hn : jnt (jow μ) idx = none) (hf : jmt (jow μ) idx = some (1, μ', k, κ')) (hk : as.length = k) (hc : jcat st ≤ 8) (hl : (jarg (.ref b :: as.reverse)).length ≤ jmaxl μ') :
    Ev sv (d + 1) (μ, pc, L, as ++ .ref b :: st) M Q ↔ Ev sv d (μ', 0, jent (jmaxl μ') (.ref b :: as.reverse), []) M (fun r M1 => Ev sv (d + 1) (μ, pc + 3, L, r.toList ++ st) M1 Q) := by
  subst hk
  refine R_call (Fe := (μ', 0, jent (jmaxl μ') (.ref b :: as.reverse), [])) (Fr := (μ, pc + 3, L, st)) hd rfl rfl ?_ rfl ?_ ?_
  · rfl
  · unfold jnatv
    dsimp only
    rw [hn]
    rfl
  · unfold jcall
    dsimp only
    rw [hf]
    dsimp only
    rw [if_pos rfl, List.drop_left, List.take_left]
    dsimp only
    rw [if_pos ⟨hc, by simp, hl⟩]
theorem R_callS {μ' κ' : Nat} {as : List Value} (hd : decode (jcode μ) pc = .ok (.invokestatic idx, 3)) (hn : jnt (jow μ) idx = none) (hf : jmt (jow μ) idx = some (2, μ', k, κ')) (hk : as.length = k) (hc : jcat st ≤ 8) (hl : (jarg as.reverse).length ≤ jmaxl μ') :
    Ev sv (d + 1) (μ, pc, L, as ++ st) M Q ↔ Ev sv d (μ', 0, jent (jmaxl μ') as.reverse, []) M (fun r M1 => Ev sv (d + 1) (μ, pc + 3, L, r.toList ++ st) M1 Q) := by
  subst hk
  refine R_call (Fe := (μ', 0, jent (jmaxl μ') as.reverse, [])) (Fr := (μ, pc + 3, L, st)) hd rfl rfl ?_ rfl ?_ ?_
  · rfl
  · unfold jnatv
    dsimp only
    rw [hn]
  · unfold jcall
    dsimp only
    rw [hf]
    dsimp only
    rw [if_pos rfl, List.drop_left, List.take_left, if_pos ⟨hc, by simp, hl⟩]
end JR2
-- ===== fresh objects
theorem jdf_0 : ∀ k, defaultValue (jty 0 k) = jdf 0 k
  | 0 => rfl
  | 1 => rfl
  | 2 => rfl
  | 3 => rfl
  | 4 => rfl
  | n + 5 => rfl
theorem jdf_1 : ∀ k, defaultValue (jty 1 k) = jdf 1 k
  | 0 => rfl
  | 1 => rfl
  | n + 2 => rfl
theorem jdf_2 : ∀ k, defaultValue (jty 2 k) = jdf 2 k
  | 0 => rfl
  | 1 => rfl
  | 2 => rfl
  | 3 => rfl
  | 4 => rfl
  | 5 => rfl
  | 6 => rfl
  | 7 => rfl
  | 8 => rfl
  | n + 9 => rfl
theorem jdf_3 : ∀ k, defaultValue (jty 3 k) = jdf 3 k
  | 0 => rfl
  | n + 1 => rfl
theorem jdf_4 : ∀ k, defaultValue (jty 4 k) = jdf 4 k
  | n => rfl
theorem jdf_5 : ∀ k, defaultValue (jty 5 k) = jdf 5 k
  | 0 => rfl
  | 1 => rfl
  | 2 => rfl
  | 3 => rfl
  | n + 4 => rfl
theorem jdf_6 : ∀ k, defaultValue (jty 6 k) = jdf 6 k
  | 0 => rfl
  | 1 => rfl
  | 2 => rfl
  | 3 => rfl
  | 4 => rfl
  | 5 => rfl
  | 6 => rfl
  | 7 => rfl
  | 8 => rfl
  | 9 => rfl
  | 10 => rfl
  | 11 => rfl
  | 12 => rfl
  | 13 => rfl
  | 14 => rfl
  | n + 15 => rfl
theorem jdf_7 : ∀ k, defaultValue (jty 7 k) = jdf 7 k
  | 0 => rfl
  | 1 => rfl
  | 2 => rfl
  | 3 => rfl
  | 4 => rfl
  | 5 => rfl
  | 6 => rfl
  | 7 => rfl
  | 8 => rfl
  | 9 => rfl
  | 10 => rfl
  | 11 => rfl
  | 12 => rfl
  | 13 => rfl
  | 14 => rfl
  | 15 => rfl
  | 16 => rfl
  | 17 => rfl
  | 18 => rfl
  | 19 => rfl
  | 20 => rfl
  | 21 => rfl
  | 22 => rfl
  | 23 => rfl
  | 24 => rfl
  | 25 => rfl
  | 26 => rfl
  | 27 => rfl
  | n + 28 => rfl
end
section
section
variable {sv : Nat → Value} {d t u : Nat} {M : jM} {Q : Option Value → jM → Prop} {st : List Value} {g : jG} {I : tI} {J : tJ} {P : tP} {l0 l1 l2 l3 l4 l5 l6 l7 l8 l9 l10 : Option Value} {x y : Int32} {X Y : Int64} {a b a0 : Nat} {r : Option Nat} {v w : Value}
theorem h_X5_init {pc : Nat} {z : Except ClassFile.DecodeError (ClassFile.Instr × Nat)} (h : decode cX5_init pc = z) : decode (jcode 52) pc = z := h
theorem s_X5_init_0 : Ev sv d (52, 0, [some (.ref a), l1, l2, l3], st) M Q ↔ Ev sv d (52, 1, [some (.ref a), l1, l2, l3], .ref a :: st) M Q := R_pure (h_X5_init dX5_init_0) rfl
theorem s_X5_init_0n : Ev sv d (52, 0, [some (va_rf r), l1, l2, l3], st) M Q ↔ Ev sv d (52, 1, [some (va_rf r), l1, l2, l3], va_rf r :: st) M Q := by cases r <;> exact R_pure (h_X5_init dX5_init_0) rfl
theorem s_X5_init_0z : Ev sv d (52, 0, [some .null, l1, l2, l3], st) M Q ↔ Ev sv d (52, 1, [some .null, l1, l2, l3], .null :: st) M Q := R_pure (h_X5_init dX5_init_0) rfl
theorem s_X5_init_1 (hc : jcat st ≤ 8) : Ev sv (d + 1) (52, 1, [l0, l1, l2, l3], .ref a :: st) M Q ↔ Ev sv (d + 1) (52, 4, [l0, l1, l2, l3], st) M Q := R_objinit (h_X5_init dX5_init_1) rfl hc
theorem s_X5_init_4 : Ev sv d (52, 4, [some (.ref a), l1, l2, l3], st) M Q ↔ Ev sv d (52, 5, [some (.ref a), l1, l2, l3], .ref a :: st) M Q := R_pure (h_X5_init dX5_init_4) rfl
theorem s_X5_init_4n : Ev sv d (52, 4, [some (va_rf r), l1, l2, l3], st) M Q ↔ Ev sv d (52, 5, [some (va_rf r), l1, l2, l3], va_rf r :: st) M Q := by cases r <;> exact R_pure (h_X5_init dX5_init_4) rfl
theorem s_X5_init_4z : Ev sv d (52, 4, [some .null, l1, l2, l3], st) M Q ↔ Ev sv d (52, 5, [some .null, l1, l2, l3], .null :: st) M Q := R_pure (h_X5_init dX5_init_4) rfl
theorem s_X5_init_5 : Ev sv d (52, 5, [l0, l1, l2, l3], st) M Q ↔ Ev sv d (52, 7, [l0, l1, l2, l3], .int (6 : Int32) :: st) M Q := R_pure (h_X5_init dX5_init_5) rfl
theorem s_X5_init_7 : Ev sv d (52, 7, [l0, l1, l2, l3], .int (6 : Int32) :: st) (tv t u g I J P) Q ↔ Ev sv d (52, 9, [l0, l1, l2, l3], .ref t :: st) (tv (t + 1) (u + 6) (jgset g t (64, 6)) (upc I 64 t (fun _ => 0)) (upc J 64 t (fun _ => 0)) (upc P 64 t (fun _ => none))) Q := R_newa (h_X5_init dX5_init_7) rfl (fun k => by rw [jdf, jso_arr (by decide) (ty := .int) rfl]; rfl) (by decide) (by decide) (by decide)
theorem s_X5_init_9 (ht : jt g a = some 7) : Ev sv d (52, 9, [l0, l1, l2, l3], .ref b :: .ref a :: st) (tv t u g I J P) Q ↔ Ev sv d (52, 12, [l0, l1, l2, l3], st) (tv t u g I J (ups P 7 7 a (some b))) Q := R_puta (r := some b) (h_X5_init dX5_init_9) rfl rfl rfl rfl ht
theorem s_X5_init_9n (ht : jt g a = some 7) : Ev sv d (52, 9, [l0, l1, l2, l3], va_rf r :: .ref a :: st) (tv t u g I J P) Q ↔ Ev sv d (52, 12, [l0, l1, l2, l3], st) (tv t u g I J (ups P 7 7 a r)) Q := R_puta (h_X5_init dX5_init_9) rfl rfl rfl rfl ht
theorem s_X5_init_12 : Ev sv d (52, 12, [some (.ref a), l1, l2, l3], st) M Q ↔ Ev sv d (52, 13, [some (.ref a), l1, l2, l3], .ref a :: st) M Q := R_pure (h_X5_init dX5_init_12) rfl
theorem s_X5_init_12n : Ev sv d (52, 12, [some (va_rf r), l1, l2, l3], st) M Q ↔ Ev sv d (52, 13, [some (va_rf r), l1, l2, l3], va_rf r :: st) M Q := by cases r <;> exact R_pure (h_X5_init dX5_init_12) rfl
theorem s_X5_init_12z : Ev sv d (52, 12, [some .null, l1, l2, l3], st) M Q ↔ Ev sv d (52, 13, [some .null, l1, l2, l3], .null :: st) M Q := R_pure (h_X5_init dX5_init_12) rfl
theorem s_X5_init_13 : Ev sv d (52, 13, [l0, l1, l2, l3], st) M Q ↔ Ev sv d (52, 15, [l0, l1, l2, l3], .int (6 : Int32) :: st) M Q := R_pure (h_X5_init dX5_init_13) rfl
theorem s_X5_init_15 : Ev sv d (52, 15, [l0, l1, l2, l3], .int (6 : Int32) :: st) (tv t u g I J P) Q ↔ Ev sv d (52, 17, [l0, l1, l2, l3], .ref t :: st) (tv (t + 1) (u + 6) (jgset g t (65, 6)) (upc I 65 t (fun _ => 0)) (upc J 65 t (fun _ => 0)) (upc P 65 t (fun _ => none))) Q := R_newa (h_X5_init dX5_init_15) rfl (fun k => by rw [jdf, jso_arr (by decide) (ty := .int) rfl]; rfl) (by decide) (by decide) (by decide)
theorem s_X5_init_17 (ht : jt g a = some 7) : Ev sv d (52, 17, [l0, l1, l2, l3], .ref b :: .ref a :: st) (tv t u g I J P) Q ↔ Ev sv d (52, 20, [l0, l1, l2, l3], st) (tv t u g I J (ups P 7 8 a (some b))) Q := R_puta (r := some b) (h_X5_init dX5_init_17) rfl rfl rfl rfl ht
theorem s_X5_init_17n (ht : jt g a = some 7) : Ev sv d (52, 17, [l0, l1, l2, l3], va_rf r :: .ref a :: st) (tv t u g I J P) Q ↔ Ev sv d (52, 20, [l0, l1, l2, l3], st) (tv t u g I J (ups P 7 8 a r)) Q := R_puta (h_X5_init dX5_init_17) rfl rfl rfl rfl ht
theorem s_X5_init_20 : Ev sv d (52, 20, [some (.ref a), l1, l2, l3], st) M Q ↔ Ev sv d (52, 21, [some (.ref a), l1, l2, l3], .ref a :: st) M Q := R_pure (h_X5_init dX5_init_20) rfl
theorem s_X5_init_20n : Ev sv d (52, 20, [some (va_rf r), l1, l2, l3], st) M Q ↔ Ev sv d (52, 21, [some (va_rf r), l1, l2, l3], va_rf r :: st) M Q := by cases r <;> exact R_pure (h_X5_init dX5_init_20) rfl
theorem s_X5_init_20z : Ev sv d (52, 20, [some .null, l1, l2, l3], st) M Q ↔ Ev sv d (52, 21, [some .null, l1, l2, l3], .null :: st) M Q := R_pure (h_X5_init dX5_init_20) rfl
theorem s_X5_init_21 : Ev sv d (52, 21, [l0, l1, l2, l3], st) M Q ↔ Ev sv d (52, 23, [l0, l1, l2, l3], .int (21 : Int32) :: st) M Q := R_pure (h_X5_init dX5_init_21) rfl
theorem s_X5_init_23 : Ev sv d (52, 23, [l0, l1, l2, l3], .int (21 : Int32) :: st) (tv t u g I J P) Q ↔ Ev sv d (52, 25, [l0, l1, l2, l3], .ref t :: st) (tv (t + 1) (u + 21) (jgset g t (66, 21)) (upc I 66 t (fun _ => 0)) (upc J 66 t (fun _ => 0)) (upc P 66 t (fun _ => none))) Q := R_newa (h_X5_init dX5_init_23) rfl (fun k => by rw [jdf, jso_arr (by decide) (ty := .int) rfl]; rfl) (by decide) (by decide) (by decide)
theorem s_X5_init_25 (ht : jt g a = some 7) : Ev sv d (52, 25, [l0, l1, l2, l3], .ref b :: .ref a :: st) (tv t u g I J P) Q ↔ Ev sv d (52, 28, [l0, l1, l2, l3], st) (tv t u g I J (ups P 7 9 a (some b))) Q := R_puta (r := some b) (h_X5_init dX5_init_25) rfl rfl rfl rfl ht
theorem s_X5_init_25n (ht : jt g a = some 7) : Ev sv d (52, 25, [l0, l1, l2, l3], va_rf r :: .ref a :: st) (tv t u g I J P) Q ↔ Ev sv d (52, 28, [l0, l1, l2, l3], st) (tv t u g I J (ups P 7 9 a r)) Q := R_puta (h_X5_init dX5_init_25) rfl rfl rfl rfl ht
theorem s_X5_init_28 : Ev sv d (52, 28, [some (.ref a), l1, l2, l3], st) M Q ↔ Ev sv d (52, 29, [some (.ref a), l1, l2, l3], .ref a :: st) M Q := R_pure (h_X5_init dX5_init_28) rfl
theorem s_X5_init_28n : Ev sv d (52, 28, [some (va_rf r), l1, l2, l3], st) M Q ↔ Ev sv d (52, 29, [some (va_rf r), l1, l2, l3], va_rf r :: st) M Q := by cases r <;> exact R_pure (h_X5_init dX5_init_28) rfl
theorem s_X5_init_28z : Ev sv d (52, 28, [some .null, l1, l2, l3], st) M Q ↔ Ev sv d (52, 29, [some .null, l1, l2, l3], .null :: st) M Q := R_pure (h_X5_init dX5_init_28) rfl
theorem s_X5_init_29 : Ev sv d (52, 29, [l0, l1, l2, l3], st) M Q ↔ Ev sv d (52, 31, [l0, l1, l2, l3], .int (21 : Int32) :: st) M Q := R_pure (h_X5_init dX5_init_29) rfl
theorem s_X5_init_31 : Ev sv d (52, 31, [l0, l1, l2, l3], .int (21 : Int32) :: st) (tv t u g I J P) Q ↔ Ev sv d (52, 33, [l0, l1, l2, l3], .ref t :: st) (tv (t + 1) (u + 21) (jgset g t (67, 21)) (upc I 67 t (fun _ => 0)) (upc J 67 t (fun _ => 0)) (upc P 67 t (fun _ => none))) Q := R_newa (h_X5_init dX5_init_31) rfl (fun k => by rw [jdf, jso_arr (by decide) (ty := .int) rfl]; rfl) (by decide) (by decide) (by decide)
theorem s_X5_init_33 (ht : jt g a = some 7) : Ev sv d (52, 33, [l0, l1, l2, l3], .ref b :: .ref a :: st) (tv t u g I J P) Q ↔ Ev sv d (52, 36, [l0, l1, l2, l3], st) (tv t u g I J (ups P 7 10 a (some b))) Q := R_puta (r := some b) (h_X5_init dX5_init_33) rfl rfl rfl rfl ht
theorem s_X5_init_33n (ht : jt g a = some 7) : Ev sv d (52, 33, [l0, l1, l2, l3], va_rf r :: .ref a :: st) (tv t u g I J P) Q ↔ Ev sv d (52, 36, [l0, l1, l2, l3], st) (tv t u g I J (ups P 7 10 a r)) Q := R_puta (h_X5_init dX5_init_33) rfl rfl rfl rfl ht
theorem s_X5_init_36 : Ev sv d (52, 36, [some (.ref a), l1, l2, l3], st) M Q ↔ Ev sv d (52, 37, [some (.ref a), l1, l2, l3], .ref a :: st) M Q := R_pure (h_X5_init dX5_init_36) rfl
theorem s_X5_init_36n : Ev sv d (52, 36, [some (va_rf r), l1, l2, l3], st) M Q ↔ Ev sv d (52, 37, [some (va_rf r), l1, l2, l3], va_rf r :: st) M Q := by cases r <;> exact R_pure (h_X5_init dX5_init_36) rfl
theorem s_X5_init_36z : Ev sv d (52, 36, [some .null, l1, l2, l3], st) M Q ↔ Ev sv d (52, 37, [some .null, l1, l2, l3], .null :: st) M Q := R_pure (h_X5_init dX5_init_36) rfl
theorem s_X5_init_37 : Ev sv d (52, 37, [l0, l1, l2, l3], st) M Q ↔ Ev sv d (52, 39, [l0, l1, l2, l3], .int (21 : Int32) :: st) M Q := R_pure (h_X5_init dX5_init_37) rfl
theorem s_X5_init_39 : Ev sv d (52, 39, [l0, l1, l2, l3], .int (21 : Int32) :: st) (tv t u g I J P) Q ↔ Ev sv d (52, 41, [l0, l1, l2, l3], .ref t :: st) (tv (t + 1) (u + 21) (jgset g t (68, 21)) (upc I 68 t (fun _ => 0)) (upc J 68 t (fun _ => 0)) (upc P 68 t (fun _ => none))) Q := R_newa (h_X5_init dX5_init_39) rfl (fun k => by rw [jdf, jso_arr (by decide) (ty := .int) rfl]; rfl) (by decide) (by decide) (by decide)
theorem s_X5_init_41 (ht : jt g a = some 7) : Ev sv d (52, 41, [l0, l1, l2, l3], .ref b :: .ref a :: st) (tv t u g I J P) Q ↔ Ev sv d (52, 44, [l0, l1, l2, l3], st) (tv t u g I J (ups P 7 11 a (some b))) Q := R_puta (r := some b) (h_X5_init dX5_init_41) rfl rfl rfl rfl ht
theorem s_X5_init_41n (ht : jt g a = some 7) : Ev sv d (52, 41, [l0, l1, l2, l3], va_rf r :: .ref a :: st) (tv t u g I J P) Q ↔ Ev sv d (52, 44, [l0, l1, l2, l3], st) (tv t u g I J (ups P 7 11 a r)) Q := R_puta (h_X5_init dX5_init_41) rfl rfl rfl rfl ht
theorem s_X5_init_44 : Ev sv d (52, 44, [some (.ref a), l1, l2, l3], st) M Q ↔ Ev sv d (52, 45, [some (.ref a), l1, l2, l3], .ref a :: st) M Q := R_pure (h_X5_init dX5_init_44) rfl
theorem s_X5_init_44n : Ev sv d (52, 44, [some (va_rf r), l1, l2, l3], st) M Q ↔ Ev sv d (52, 45, [some (va_rf r), l1, l2, l3], va_rf r :: st) M Q := by cases r <;> exact R_pure (h_X5_init dX5_init_44) rfl
theorem s_X5_init_44z : Ev sv d (52, 44, [some .null, l1, l2, l3], st) M Q ↔ Ev sv d (52, 45, [some .null, l1, l2, l3], .null :: st) M Q := R_pure (h_X5_init dX5_init_44) rfl
theorem s_X5_init_45 : Ev sv d (52, 45, [l0, l1, l2, l3], st) M Q ↔ Ev sv d (52, 48, [l0, l1, l2, l3], .int (210 : Int32) :: st) M Q := R_pure (h_X5_init dX5_init_45) rfl
theorem s_X5_init_48 : Ev sv d (52, 48, [l0, l1, l2, l3], .int (210 : Int32) :: st) (tv t u g I J P) Q ↔ Ev sv d (52, 50, [l0, l1, l2, l3], .ref t :: st) (tv (t + 1) (u + 210) (jgset g t (69, 210)) (upc I 69 t (fun _ => 0)) (upc J 69 t (fun _ => 0)) (upc P 69 t (fun _ => none))) Q := R_newa (h_X5_init dX5_init_48) rfl (fun k => by rw [jdf, jso_arr (by decide) (ty := .int) rfl]; rfl) (by decide) (by decide) (by decide)
theorem s_X5_init_50 (ht : jt g a = some 7) : Ev sv d (52, 50, [l0, l1, l2, l3], .ref b :: .ref a :: st) (tv t u g I J P) Q ↔ Ev sv d (52, 53, [l0, l1, l2, l3], st) (tv t u g I J (ups P 7 12 a (some b))) Q := R_puta (r := some b) (h_X5_init dX5_init_50) rfl rfl rfl rfl ht
theorem s_X5_init_50n (ht : jt g a = some 7) : Ev sv d (52, 50, [l0, l1, l2, l3], va_rf r :: .ref a :: st) (tv t u g I J P) Q ↔ Ev sv d (52, 53, [l0, l1, l2, l3], st) (tv t u g I J (ups P 7 12 a r)) Q := R_puta (h_X5_init dX5_init_50) rfl rfl rfl rfl ht
theorem s_X5_init_53 : Ev sv d (52, 53, [some (.ref a), l1, l2, l3], st) M Q ↔ Ev sv d (52, 54, [some (.ref a), l1, l2, l3], .ref a :: st) M Q := R_pure (h_X5_init dX5_init_53) rfl
theorem s_X5_init_53n : Ev sv d (52, 53, [some (va_rf r), l1, l2, l3], st) M Q ↔ Ev sv d (52, 54, [some (va_rf r), l1, l2, l3], va_rf r :: st) M Q := by cases r <;> exact R_pure (h_X5_init dX5_init_53) rfl
theorem s_X5_init_53z : Ev sv d (52, 53, [some .null, l1, l2, l3], st) M Q ↔ Ev sv d (52, 54, [some .null, l1, l2, l3], .null :: st) M Q := R_pure (h_X5_init dX5_init_53) rfl
theorem s_X5_init_54 : Ev sv d (52, 54, [l0, l1, l2, l3], st) M Q ↔ Ev sv d (52, 56, [l0, l1, l2, l3], .int (21 : Int32) :: st) M Q := R_pure (h_X5_init dX5_init_54) rfl
theorem s_X5_init_56 : Ev sv d (52, 56, [l0, l1, l2, l3], .int (21 : Int32) :: st) (tv t u g I J P) Q ↔ Ev sv d (52, 58, [l0, l1, l2, l3], .ref t :: st) (tv (t + 1) (u + 21) (jgset g t (70, 21)) (upc I 70 t (fun _ => 0)) (upc J 70 t (fun _ => 0)) (upc P 70 t (fun _ => none))) Q := R_newa (h_X5_init dX5_init_56) rfl (fun k => by rw [jdf, jso_arr (by decide) (ty := .boolean) rfl]; rfl) (by decide) (by decide) (by decide)
theorem s_X5_init_58 (ht : jt g a = some 7) : Ev sv d (52, 58, [l0, l1, l2, l3], .ref b :: .ref a :: st) (tv t u g I J P) Q ↔ Ev sv d (52, 61, [l0, l1, l2, l3], st) (tv t u g I J (ups P 7 13 a (some b))) Q := R_puta (r := some b) (h_X5_init dX5_init_58) rfl rfl rfl rfl ht
theorem s_X5_init_58n (ht : jt g a = some 7) : Ev sv d (52, 58, [l0, l1, l2, l3], va_rf r :: .ref a :: st) (tv t u g I J P) Q ↔ Ev sv d (52, 61, [l0, l1, l2, l3], st) (tv t u g I J (ups P 7 13 a r)) Q := R_puta (h_X5_init dX5_init_58) rfl rfl rfl rfl ht
theorem s_X5_init_61 : Ev sv d (52, 61, [some (.ref a), l1, l2, l3], st) M Q ↔ Ev sv d (52, 62, [some (.ref a), l1, l2, l3], .ref a :: st) M Q := R_pure (h_X5_init dX5_init_61) rfl
theorem s_X5_init_61n : Ev sv d (52, 61, [some (va_rf r), l1, l2, l3], st) M Q ↔ Ev sv d (52, 62, [some (va_rf r), l1, l2, l3], va_rf r :: st) M Q := by cases r <;> exact R_pure (h_X5_init dX5_init_61) rfl
theorem s_X5_init_61z : Ev sv d (52, 61, [some .null, l1, l2, l3], st) M Q ↔ Ev sv d (52, 62, [some .null, l1, l2, l3], .null :: st) M Q := R_pure (h_X5_init dX5_init_61) rfl
theorem s_X5_init_62 : Ev sv d (52, 62, [l0, l1, l2, l3], st) M Q ↔ Ev sv d (52, 64, [l0, l1, l2, l3], .int (21 : Int32) :: st) M Q := R_pure (h_X5_init dX5_init_62) rfl
theorem s_X5_init_64 : Ev sv d (52, 64, [l0, l1, l2, l3], .int (21 : Int32) :: st) (tv t u g I J P) Q ↔ Ev sv d (52, 66, [l0, l1, l2, l3], .ref t :: st) (tv (t + 1) (u + 21) (jgset g t (71, 21)) (upc I 71 t (fun _ => 0)) (upc J 71 t (fun _ => 0)) (upc P 71 t (fun _ => none))) Q := R_newa (h_X5_init dX5_init_64) rfl (fun k => by rw [jdf, jso_arr (by decide) (ty := .boolean) rfl]; rfl) (by decide) (by decide) (by decide)
theorem s_X5_init_66 (ht : jt g a = some 7) : Ev sv d (52, 66, [l0, l1, l2, l3], .ref b :: .ref a :: st) (tv t u g I J P) Q ↔ Ev sv d (52, 69, [l0, l1, l2, l3], st) (tv t u g I J (ups P 7 14 a (some b))) Q := R_puta (r := some b) (h_X5_init dX5_init_66) rfl rfl rfl rfl ht
theorem s_X5_init_66n (ht : jt g a = some 7) : Ev sv d (52, 66, [l0, l1, l2, l3], va_rf r :: .ref a :: st) (tv t u g I J P) Q ↔ Ev sv d (52, 69, [l0, l1, l2, l3], st) (tv t u g I J (ups P 7 14 a r)) Q := R_puta (h_X5_init dX5_init_66) rfl rfl rfl rfl ht
theorem s_X5_init_69 : Ev sv d (52, 69, [some (.ref a), l1, l2, l3], st) M Q ↔ Ev sv d (52, 70, [some (.ref a), l1, l2, l3], .ref a :: st) M Q := R_pure (h_X5_init dX5_init_69) rfl
theorem s_X5_init_69n : Ev sv d (52, 69, [some (va_rf r), l1, l2, l3], st) M Q ↔ Ev sv d (52, 70, [some (va_rf r), l1, l2, l3], va_rf r :: st) M Q := by cases r <;> exact R_pure (h_X5_init dX5_init_69) rfl
theorem s_X5_init_69z : Ev sv d (52, 69, [some .null, l1, l2, l3], st) M Q ↔ Ev sv d (52, 70, [some .null, l1, l2, l3], .null :: st) M Q := R_pure (h_X5_init dX5_init_69) rfl
theorem s_X5_init_70 : Ev sv d (52, 70, [l0, l1, l2, l3], st) M Q ↔ Ev sv d (52, 72, [l0, l1, l2, l3], .int (21 : Int32) :: st) M Q := R_pure (h_X5_init dX5_init_70) rfl
theorem s_X5_init_72 : Ev sv d (52, 72, [l0, l1, l2, l3], .int (21 : Int32) :: st) (tv t u g I J P) Q ↔ Ev sv d (52, 74, [l0, l1, l2, l3], .ref t :: st) (tv (t + 1) (u + 21) (jgset g t (72, 21)) (upc I 72 t (fun _ => 0)) (upc J 72 t (fun _ => 0)) (upc P 72 t (fun _ => none))) Q := R_newa (h_X5_init dX5_init_72) rfl (fun k => by rw [jdf, jso_arr (by decide) (ty := .boolean) rfl]; rfl) (by decide) (by decide) (by decide)
theorem s_X5_init_74 (ht : jt g a = some 7) : Ev sv d (52, 74, [l0, l1, l2, l3], .ref b :: .ref a :: st) (tv t u g I J P) Q ↔ Ev sv d (52, 77, [l0, l1, l2, l3], st) (tv t u g I J (ups P 7 15 a (some b))) Q := R_puta (r := some b) (h_X5_init dX5_init_74) rfl rfl rfl rfl ht
theorem s_X5_init_74n (ht : jt g a = some 7) : Ev sv d (52, 74, [l0, l1, l2, l3], va_rf r :: .ref a :: st) (tv t u g I J P) Q ↔ Ev sv d (52, 77, [l0, l1, l2, l3], st) (tv t u g I J (ups P 7 15 a r)) Q := R_puta (h_X5_init dX5_init_74) rfl rfl rfl rfl ht
theorem s_X5_init_77 : Ev sv d (52, 77, [some (.ref a), l1, l2, l3], st) M Q ↔ Ev sv d (52, 78, [some (.ref a), l1, l2, l3], .ref a :: st) M Q := R_pure (h_X5_init dX5_init_77) rfl
theorem s_X5_init_77n : Ev sv d (52, 77, [some (va_rf r), l1, l2, l3], st) M Q ↔ Ev sv d (52, 78, [some (va_rf r), l1, l2, l3], va_rf r :: st) M Q := by cases r <;> exact R_pure (h_X5_init dX5_init_77) rfl
theorem s_X5_init_77z : Ev sv d (52, 77, [some .null, l1, l2, l3], st) M Q ↔ Ev sv d (52, 78, [some .null, l1, l2, l3], .null :: st) M Q := R_pure (h_X5_init dX5_init_77) rfl
theorem s_X5_init_78 : Ev sv d (52, 78, [l0, l1, l2, l3], st) M Q ↔ Ev sv d (52, 80, [l0, l1, l2, l3], .int (21 : Int32) :: st) M Q := R_pure (h_X5_init dX5_init_78) rfl
theorem s_X5_init_80 : Ev sv d (52, 80, [l0, l1, l2, l3], .int (21 : Int32) :: st) (tv t u g I J P) Q ↔ Ev sv d (52, 82, [l0, l1, l2, l3], .ref t :: st) (tv (t + 1) (u + 21) (jgset g t (73, 21)) (upc I 73 t (fun _ => 0)) (upc J 73 t (fun _ => 0)) (upc P 73 t (fun _ => none))) Q := R_newa (h_X5_init dX5_init_80) rfl (fun k => by rw [jdf, jso_arr (by decide) (ty := .boolean) rfl]; rfl) (by decide) (by decide) (by decide)
theorem s_X5_init_82 (ht : jt g a = some 7) : Ev sv d (52, 82, [l0, l1, l2, l3], .ref b :: .ref a :: st) (tv t u g I J P) Q ↔ Ev sv d (52, 85, [l0, l1, l2, l3], st) (tv t u g I J (ups P 7 16 a (some b))) Q := R_puta (r := some b) (h_X5_init dX5_init_82) rfl rfl rfl rfl ht
theorem s_X5_init_82n (ht : jt g a = some 7) : Ev sv d (52, 82, [l0, l1, l2, l3], va_rf r :: .ref a :: st) (tv t u g I J P) Q ↔ Ev sv d (52, 85, [l0, l1, l2, l3], st) (tv t u g I J (ups P 7 16 a r)) Q := R_puta (h_X5_init dX5_init_82) rfl rfl rfl rfl ht
theorem s_X5_init_85 : Ev sv d (52, 85, [some (.ref a), l1, l2, l3], st) M Q ↔ Ev sv d (52, 86, [some (.ref a), l1, l2, l3], .ref a :: st) M Q := R_pure (h_X5_init dX5_init_85) rfl
theorem s_X5_init_85n : Ev sv d (52, 85, [some (va_rf r), l1, l2, l3], st) M Q ↔ Ev sv d (52, 86, [some (va_rf r), l1, l2, l3], va_rf r :: st) M Q := by cases r <;> exact R_pure (h_X5_init dX5_init_85) rfl
theorem s_X5_init_85z : Ev sv d (52, 85, [some .null, l1, l2, l3], st) M Q ↔ Ev sv d (52, 86, [some .null, l1, l2, l3], .null :: st) M Q := R_pure (h_X5_init dX5_init_85) rfl
theorem s_X5_init_86 : Ev sv d (52, 86, [l0, l1, l2, l3], st) M Q ↔ Ev sv d (52, 88, [l0, l1, l2, l3], .int (21 : Int32) :: st) M Q := R_pure (h_X5_init dX5_init_86) rfl
theorem s_X5_init_88 : Ev sv d (52, 88, [l0, l1, l2, l3], .int (21 : Int32) :: st) (tv t u g I J P) Q ↔ Ev sv d (52, 90, [l0, l1, l2, l3], .ref t :: st) (tv (t + 1) (u + 21) (jgset g t (74, 21)) (upc I 74 t (fun _ => 0)) (upc J 74 t (fun _ => 0)) (upc P 74 t (fun _ => none))) Q := R_newa (h_X5_init dX5_init_88) rfl (fun k => by rw [jdf, jso_arr (by decide) (ty := .int) rfl]; rfl) (by decide) (by decide) (by decide)
theorem s_X5_init_90 (ht : jt g a = some 7) : Ev sv d (52, 90, [l0, l1, l2, l3], .ref b :: .ref a :: st) (tv t u g I J P) Q ↔ Ev sv d (52, 93, [l0, l1, l2, l3], st) (tv t u g I J (ups P 7 17 a (some b))) Q := R_puta (r := some b) (h_X5_init dX5_init_90) rfl rfl rfl rfl ht
theorem s_X5_init_90n (ht : jt g a = some 7) : Ev sv d (52, 90, [l0, l1, l2, l3], va_rf r :: .ref a :: st) (tv t u g I J P) Q ↔ Ev sv d (52, 93, [l0, l1, l2, l3], st) (tv t u g I J (ups P 7 17 a r)) Q := R_puta (h_X5_init dX5_init_90) rfl rfl rfl rfl ht
theorem s_X5_init_93 : Ev sv d (52, 93, [some (.ref a), l1, l2, l3], st) M Q ↔ Ev sv d (52, 94, [some (.ref a), l1, l2, l3], .ref a :: st) M Q := R_pure (h_X5_init dX5_init_93) rfl
theorem s_X5_init_93n : Ev sv d (52, 93, [some (va_rf r), l1, l2, l3], st) M Q ↔ Ev sv d (52, 94, [some (va_rf r), l1, l2, l3], va_rf r :: st) M Q := by cases r <;> exact R_pure (h_X5_init dX5_init_93) rfl
theorem s_X5_init_93z : Ev sv d (52, 93, [some .null, l1, l2, l3], st) M Q ↔ Ev sv d (52, 94, [some .null, l1, l2, l3], .null :: st) M Q := R_pure (h_X5_init dX5_init_93) rfl
theorem s_X5_init_94 : Ev sv d (52, 94, [l0, l1, l2, l3], st) M Q ↔ Ev sv d (52, 96, [l0, l1, l2, l3], .int (21 : Int32) :: st) M Q := R_pure (h_X5_init dX5_init_94) rfl
theorem s_X5_init_96 : Ev sv d (52, 96, [l0, l1, l2, l3], .int (21 : Int32) :: st) (tv t u g I J P) Q ↔ Ev sv d (52, 98, [l0, l1, l2, l3], .ref t :: st) (tv (t + 1) (u + 21) (jgset g t (75, 21)) (upc I 75 t (fun _ => 0)) (upc J 75 t (fun _ => 0)) (upc P 75 t (fun _ => none))) Q := R_newa (h_X5_init dX5_init_96) rfl (fun k => by rw [jdf, jso_arr (by decide) (ty := .int) rfl]; rfl) (by decide) (by decide) (by decide)
theorem s_X5_init_98 (ht : jt g a = some 7) : Ev sv d (52, 98, [l0, l1, l2, l3], .ref b :: .ref a :: st) (tv t u g I J P) Q ↔ Ev sv d (52, 101, [l0, l1, l2, l3], st) (tv t u g I J (ups P 7 18 a (some b))) Q := R_puta (r := some b) (h_X5_init dX5_init_98) rfl rfl rfl rfl ht
theorem s_X5_init_98n (ht : jt g a = some 7) : Ev sv d (52, 98, [l0, l1, l2, l3], va_rf r :: .ref a :: st) (tv t u g I J P) Q ↔ Ev sv d (52, 101, [l0, l1, l2, l3], st) (tv t u g I J (ups P 7 18 a r)) Q := R_puta (h_X5_init dX5_init_98) rfl rfl rfl rfl ht
theorem s_X5_init_101 : Ev sv d (52, 101, [some (.ref a), l1, l2, l3], st) M Q ↔ Ev sv d (52, 102, [some (.ref a), l1, l2, l3], .ref a :: st) M Q := R_pure (h_X5_init dX5_init_101) rfl
theorem s_X5_init_101n : Ev sv d (52, 101, [some (va_rf r), l1, l2, l3], st) M Q ↔ Ev sv d (52, 102, [some (va_rf r), l1, l2, l3], va_rf r :: st) M Q := by cases r <;> exact R_pure (h_X5_init dX5_init_101) rfl
theorem s_X5_init_101z : Ev sv d (52, 101, [some .null, l1, l2, l3], st) M Q ↔ Ev sv d (52, 102, [some .null, l1, l2, l3], .null :: st) M Q := R_pure (h_X5_init dX5_init_101) rfl
theorem s_X5_init_102 : Ev sv d (52, 102, [l0, l1, l2, l3], st) M Q ↔ Ev sv d (52, 104, [l0, l1, l2, l3], .int (21 : Int32) :: st) M Q := R_pure (h_X5_init dX5_init_102) rfl
theorem s_X5_init_104 : Ev sv d (52, 104, [l0, l1, l2, l3], .int (21 : Int32) :: st) (tv t u g I J P) Q ↔ Ev sv d (52, 106, [l0, l1, l2, l3], .ref t :: st) (tv (t + 1) (u + 21) (jgset g t (76, 21)) (upc I 76 t (fun _ => 0)) (upc J 76 t (fun _ => 0)) (upc P 76 t (fun _ => none))) Q := R_newa (h_X5_init dX5_init_104) rfl (fun k => by rw [jdf, jso_arr (by decide) (ty := .int) rfl]; rfl) (by decide) (by decide) (by decide)
theorem s_X5_init_106 (ht : jt g a = some 7) : Ev sv d (52, 106, [l0, l1, l2, l3], .ref b :: .ref a :: st) (tv t u g I J P) Q ↔ Ev sv d (52, 109, [l0, l1, l2, l3], st) (tv t u g I J (ups P 7 19 a (some b))) Q := R_puta (r := some b) (h_X5_init dX5_init_106) rfl rfl rfl rfl ht
theorem s_X5_init_106n (ht : jt g a = some 7) : Ev sv d (52, 106, [l0, l1, l2, l3], va_rf r :: .ref a :: st) (tv t u g I J P) Q ↔ Ev sv d (52, 109, [l0, l1, l2, l3], st) (tv t u g I J (ups P 7 19 a r)) Q := R_puta (h_X5_init dX5_init_106) rfl rfl rfl rfl ht
theorem s_X5_init_109 : Ev sv d (52, 109, [some (.ref a), l1, l2, l3], st) M Q ↔ Ev sv d (52, 110, [some (.ref a), l1, l2, l3], .ref a :: st) M Q := R_pure (h_X5_init dX5_init_109) rfl
theorem s_X5_init_109n : Ev sv d (52, 109, [some (va_rf r), l1, l2, l3], st) M Q ↔ Ev sv d (52, 110, [some (va_rf r), l1, l2, l3], va_rf r :: st) M Q := by cases r <;> exact R_pure (h_X5_init dX5_init_109) rfl
theorem s_X5_init_109z : Ev sv d (52, 109, [some .null, l1, l2, l3], st) M Q ↔ Ev sv d (52, 110, [some .null, l1, l2, l3], .null :: st) M Q := R_pure (h_X5_init dX5_init_109) rfl
theorem s_X5_init_110 : Ev sv d (52, 110, [l0, l1, l2, l3], st) M Q ↔ Ev sv d (52, 112, [l0, l1, l2, l3], .int (21 : Int32) :: st) M Q := R_pure (h_X5_init dX5_init_110) rfl
theorem s_X5_init_112 : Ev sv d (52, 112, [l0, l1, l2, l3], .int (21 : Int32) :: st) (tv t u g I J P) Q ↔ Ev sv d (52, 114, [l0, l1, l2, l3], .ref t :: st) (tv (t + 1) (u + 21) (jgset g t (77, 21)) (upc I 77 t (fun _ => 0)) (upc J 77 t (fun _ => 0)) (upc P 77 t (fun _ => none))) Q := R_newa (h_X5_init dX5_init_112) rfl (fun k => by rw [jdf, jso_arr (by decide) (ty := .long) rfl]; rfl) (by decide) (by decide) (by decide)
theorem s_X5_init_114 (ht : jt g a = some 7) : Ev sv d (52, 114, [l0, l1, l2, l3], .ref b :: .ref a :: st) (tv t u g I J P) Q ↔ Ev sv d (52, 117, [l0, l1, l2, l3], st) (tv t u g I J (ups P 7 20 a (some b))) Q := R_puta (r := some b) (h_X5_init dX5_init_114) rfl rfl rfl rfl ht
theorem s_X5_init_114n (ht : jt g a = some 7) : Ev sv d (52, 114, [l0, l1, l2, l3], va_rf r :: .ref a :: st) (tv t u g I J P) Q ↔ Ev sv d (52, 117, [l0, l1, l2, l3], st) (tv t u g I J (ups P 7 20 a r)) Q := R_puta (h_X5_init dX5_init_114) rfl rfl rfl rfl ht
theorem s_X5_init_117 : Ev sv d (52, 117, [some (.ref a), l1, l2, l3], st) M Q ↔ Ev sv d (52, 118, [some (.ref a), l1, l2, l3], .ref a :: st) M Q := R_pure (h_X5_init dX5_init_117) rfl
theorem s_X5_init_117n : Ev sv d (52, 117, [some (va_rf r), l1, l2, l3], st) M Q ↔ Ev sv d (52, 118, [some (va_rf r), l1, l2, l3], va_rf r :: st) M Q := by cases r <;> exact R_pure (h_X5_init dX5_init_117) rfl
theorem s_X5_init_117z : Ev sv d (52, 117, [some .null, l1, l2, l3], st) M Q ↔ Ev sv d (52, 118, [some .null, l1, l2, l3], .null :: st) M Q := R_pure (h_X5_init dX5_init_117) rfl
theorem s_X5_init_118 : Ev sv d (52, 118, [l0, l1, l2, l3], st) M Q ↔ Ev sv d (52, 120, [l0, l1, l2, l3], .int (500000 : Int32) :: st) M Q := R_ldci (h_X5_init dX5_init_118) rfl
theorem s_X5_init_120 : Ev sv d (52, 120, [l0, l1, l2, l3], .int (500000 : Int32) :: st) (tv t u g I J P) Q ↔ Ev sv d (52, 122, [l0, l1, l2, l3], .ref t :: st) (tv (t + 1) (u + 500000) (jgset g t (78, 500000)) (upc I 78 t (fun _ => 0)) (upc J 78 t (fun _ => 0)) (upc P 78 t (fun _ => none))) Q := R_newa (h_X5_init dX5_init_120) rfl (fun k => by rw [jdf, jso_arr (by decide) (ty := .int) rfl]; rfl) (by decide) (by decide) (by decide)
theorem s_X5_init_122 (ht : jt g a = some 7) : Ev sv d (52, 122, [l0, l1, l2, l3], .ref b :: .ref a :: st) (tv t u g I J P) Q ↔ Ev sv d (52, 125, [l0, l1, l2, l3], st) (tv t u g I J (ups P 7 27 a (some b))) Q := R_puta (r := some b) (h_X5_init dX5_init_122) rfl rfl rfl rfl ht
theorem s_X5_init_122n (ht : jt g a = some 7) : Ev sv d (52, 122, [l0, l1, l2, l3], va_rf r :: .ref a :: st) (tv t u g I J P) Q ↔ Ev sv d (52, 125, [l0, l1, l2, l3], st) (tv t u g I J (ups P 7 27 a r)) Q := R_puta (h_X5_init dX5_init_122) rfl rfl rfl rfl ht
theorem s_X5_init_125 : Ev sv d (52, 125, [some (.ref a), l1, l2, l3], st) M Q ↔ Ev sv d (52, 126, [some (.ref a), l1, l2, l3], .ref a :: st) M Q := R_pure (h_X5_init dX5_init_125) rfl
theorem s_X5_init_125n : Ev sv d (52, 125, [some (va_rf r), l1, l2, l3], st) M Q ↔ Ev sv d (52, 126, [some (va_rf r), l1, l2, l3], va_rf r :: st) M Q := by cases r <;> exact R_pure (h_X5_init dX5_init_125) rfl
theorem s_X5_init_125z : Ev sv d (52, 125, [some .null, l1, l2, l3], st) M Q ↔ Ev sv d (52, 126, [some .null, l1, l2, l3], .null :: st) M Q := R_pure (h_X5_init dX5_init_125) rfl
theorem s_X5_init_126 : Ev sv d (52, 126, [l0, some (.int x), l2, l3], st) M Q ↔ Ev sv d (52, 127, [l0, some (.int x), l2, l3], .int x :: st) M Q := R_pure (h_X5_init dX5_init_126) rfl
theorem s_X5_init_127 : Ev sv d (52, 127, [l0, l1, l2, l3], st) M Q ↔ Ev sv d (52, 129, [l0, l1, l2, l3], .int (10 : Int32) :: st) M Q := R_pure (h_X5_init dX5_init_127) rfl
theorem s_X5_init_129 : Ev sv d (52, 129, [l0, l1, l2, l3], st) M Q ↔ Ev sv d (52, 131, [l0, l1, l2, l3], .int (100 : Int32) :: st) M Q := R_pure (h_X5_init dX5_init_129) rfl
theorem s_X5_init_131 {x0 : Int32} {x1 : Int32} {x2 : Int32}  (hc : jcat st ≤ 8) : Ev sv (d + 1) (52, 131, [l0, l1, l2, l3], .int x2 :: .int x1 :: .int x0 :: st) M Q ↔ Ev sv d (53, 0, [some (.int x0), some (.int x1), some (.int x2)], []) M (fun r M1 => Ev sv (d + 1) (52, 134, [l0, l1, l2, l3], r.toList ++ st) M1 Q) := R_callS (as := [.int x2, .int x1, .int x0]) (h_X5_init dX5_init_131) rfl rfl rfl hc (by decide : (3 : Nat) ≤ 3)
theorem s_X5_init_134 (ht : jt g a = some 7) : Ev sv d (52, 134, [l0, l1, l2, l3], .int x :: .ref a :: st) (tv t u g I J P) Q ↔ Ev sv d (52, 137, [l0, l1, l2, l3], st) (tv t u g (ups I 7 1 a x) J P) Q := R_puti (h_X5_init dX5_init_134) rfl rfl rfl rfl ht
theorem s_X5_init_137 : Ev sv d (52, 137, [some (.ref a), l1, l2, l3], st) M Q ↔ Ev sv d (52, 138, [some (.ref a), l1, l2, l3], .ref a :: st) M Q := R_pure (h_X5_init dX5_init_137) rfl
theorem s_X5_init_137n : Ev sv d (52, 137, [some (va_rf r), l1, l2, l3], st) M Q ↔ Ev sv d (52, 138, [some (va_rf r), l1, l2, l3], va_rf r :: st) M Q := by cases r <;> exact R_pure (h_X5_init dX5_init_137) rfl
theorem s_X5_init_137z : Ev sv d (52, 137, [some .null, l1, l2, l3], st) M Q ↔ Ev sv d (52, 138, [some .null, l1, l2, l3], .null :: st) M Q := R_pure (h_X5_init dX5_init_137) rfl
theorem s_X5_init_138 : Ev sv d (52, 138, [l0, l1, some (.int x), l3], st) M Q ↔ Ev sv d (52, 139, [l0, l1, some (.int x), l3], .int x :: st) M Q := R_pure (h_X5_init dX5_init_138) rfl
theorem s_X5_init_139 : Ev sv d (52, 139, [l0, l1, l2, l3], st) M Q ↔ Ev sv d (52, 140, [l0, l1, l2, l3], .int (2 : Int32) :: st) M Q := R_pure (h_X5_init dX5_init_139) rfl
theorem s_X5_init_140 : Ev sv d (52, 140, [some (.ref a), l1, l2, l3], st) M Q ↔ Ev sv d (52, 141, [some (.ref a), l1, l2, l3], .ref a :: st) M Q := R_pure (h_X5_init dX5_init_140) rfl
theorem s_X5_init_140n : Ev sv d (52, 140, [some (va_rf r), l1, l2, l3], st) M Q ↔ Ev sv d (52, 141, [some (va_rf r), l1, l2, l3], va_rf r :: st) M Q := by cases r <;> exact R_pure (h_X5_init dX5_init_140) rfl
theorem s_X5_init_140z : Ev sv d (52, 140, [some .null, l1, l2, l3], st) M Q ↔ Ev sv d (52, 141, [some .null, l1, l2, l3], .null :: st) M Q := R_pure (h_X5_init dX5_init_140) rfl
theorem s_X5_init_141 (ht : jt g a = some 7) : Ev sv d (52, 141, [l0, l1, l2, l3], .ref a :: st) (tv t u g I J P) Q ↔ Ev sv d (52, 144, [l0, l1, l2, l3], .int (I 7 1 a) :: st) (tv t u g I J P) Q := R_geti (h_X5_init dX5_init_141) rfl rfl ht
theorem s_X5_init_144 : Ev sv d (52, 144, [l0, l1, l2, l3], st) M Q ↔ Ev sv d (52, 145, [l0, l1, l2, l3], .int (2 : Int32) :: st) M Q := R_pure (h_X5_init dX5_init_144) rfl
theorem s_X5_init_145 : Ev sv d (52, 145, [l0, l1, l2, l3], .int y :: .int x :: st) M Q ↔ Ev sv d (52, 146, [l0, l1, l2, l3], .int (x - y) :: st) M Q := R_pure (h_X5_init dX5_init_145) rfl
theorem s_X5_init_146 {x0 : Int32} {x1 : Int32} {x2 : Int32}  (hc : jcat st ≤ 8) : Ev sv (d + 1) (52, 146, [l0, l1, l2, l3], .int x2 :: .int x1 :: .int x0 :: st) M Q ↔ Ev sv d (53, 0, [some (.int x0), some (.int x1), some (.int x2)], []) M (fun r M1 => Ev sv (d + 1) (52, 149, [l0, l1, l2, l3], r.toList ++ st) M1 Q) := R_callS (as := [.int x2, .int x1, .int x0]) (h_X5_init dX5_init_146) rfl rfl rfl hc (by decide : (3 : Nat) ≤ 3)
theorem s_X5_init_149 (ht : jt g a = some 7) : Ev sv d (52, 149, [l0, l1, l2, l3], .int x :: .ref a :: st) (tv t u g I J P) Q ↔ Ev sv d (52, 152, [l0, l1, l2, l3], st) (tv t u g (ups I 7 2 a x) J P) Q := R_puti (h_X5_init dX5_init_149) rfl rfl rfl rfl ht
theorem s_X5_init_152 : Ev sv d (52, 152, [some (.ref a), l1, l2, l3], st) M Q ↔ Ev sv d (52, 153, [some (.ref a), l1, l2, l3], .ref a :: st) M Q := R_pure (h_X5_init dX5_init_152) rfl
theorem s_X5_init_152n : Ev sv d (52, 152, [some (va_rf r), l1, l2, l3], st) M Q ↔ Ev sv d (52, 153, [some (va_rf r), l1, l2, l3], va_rf r :: st) M Q := by cases r <;> exact R_pure (h_X5_init dX5_init_152) rfl
theorem s_X5_init_152z : Ev sv d (52, 152, [some .null, l1, l2, l3], st) M Q ↔ Ev sv d (52, 153, [some .null, l1, l2, l3], .null :: st) M Q := R_pure (h_X5_init dX5_init_152) rfl
theorem s_X5_init_153 : Ev sv d (52, 153, [l0, l1, l2, some (.int x)], st) M Q ↔ Ev sv d (52, 154, [l0, l1, l2, some (.int x)], .int x :: st) M Q := R_pure (h_X5_init dX5_init_153) rfl
theorem s_X5_init_154 : Ev sv d (52, 154, [some (.ref a), l1, l2, l3], st) M Q ↔ Ev sv d (52, 155, [some (.ref a), l1, l2, l3], .ref a :: st) M Q := R_pure (h_X5_init dX5_init_154) rfl
theorem s_X5_init_154n : Ev sv d (52, 154, [some (va_rf r), l1, l2, l3], st) M Q ↔ Ev sv d (52, 155, [some (va_rf r), l1, l2, l3], va_rf r :: st) M Q := by cases r <;> exact R_pure (h_X5_init dX5_init_154) rfl
theorem s_X5_init_154z : Ev sv d (52, 154, [some .null, l1, l2, l3], st) M Q ↔ Ev sv d (52, 155, [some .null, l1, l2, l3], .null :: st) M Q := R_pure (h_X5_init dX5_init_154) rfl
theorem s_X5_init_155 (ht : jt g a = some 7) : Ev sv d (52, 155, [l0, l1, l2, l3], .ref a :: st) (tv t u g I J P) Q ↔ Ev sv d (52, 158, [l0, l1, l2, l3], .int (I 7 2 a) :: st) (tv t u g I J P) Q := R_geti (h_X5_init dX5_init_155) rfl rfl ht
theorem s_X5_init_158 : Ev sv d (52, 158, [some (.ref a), l1, l2, l3], st) M Q ↔ Ev sv d (52, 159, [some (.ref a), l1, l2, l3], .ref a :: st) M Q := R_pure (h_X5_init dX5_init_158) rfl
theorem s_X5_init_158n : Ev sv d (52, 158, [some (va_rf r), l1, l2, l3], st) M Q ↔ Ev sv d (52, 159, [some (va_rf r), l1, l2, l3], va_rf r :: st) M Q := by cases r <;> exact R_pure (h_X5_init dX5_init_158) rfl
theorem s_X5_init_158z : Ev sv d (52, 158, [some .null, l1, l2, l3], st) M Q ↔ Ev sv d (52, 159, [some .null, l1, l2, l3], .null :: st) M Q := R_pure (h_X5_init dX5_init_158) rfl
theorem s_X5_init_159 (ht : jt g a = some 7) : Ev sv d (52, 159, [l0, l1, l2, l3], .ref a :: st) (tv t u g I J P) Q ↔ Ev sv d (52, 162, [l0, l1, l2, l3], .int (I 7 1 a) :: st) (tv t u g I J P) Q := R_geti (h_X5_init dX5_init_159) rfl rfl ht
theorem s_X5_init_162 : Ev sv d (52, 162, [l0, l1, l2, l3], st) M Q ↔ Ev sv d (52, 163, [l0, l1, l2, l3], .int (1 : Int32) :: st) M Q := R_pure (h_X5_init dX5_init_162) rfl
theorem s_X5_init_163 : Ev sv d (52, 163, [l0, l1, l2, l3], .int y :: .int x :: st) M Q ↔ Ev sv d (52, 164, [l0, l1, l2, l3], .int (x - y) :: st) M Q := R_pure (h_X5_init dX5_init_163) rfl
theorem s_X5_init_164 {x0 : Int32} {x1 : Int32} {x2 : Int32}  (hc : jcat st ≤ 8) : Ev sv (d + 1) (52, 164, [l0, l1, l2, l3], .int x2 :: .int x1 :: .int x0 :: st) M Q ↔ Ev sv d (53, 0, [some (.int x0), some (.int x1), some (.int x2)], []) M (fun r M1 => Ev sv (d + 1) (52, 167, [l0, l1, l2, l3], r.toList ++ st) M1 Q) := R_callS (as := [.int x2, .int x1, .int x0]) (h_X5_init dX5_init_164) rfl rfl rfl hc (by decide : (3 : Nat) ≤ 3)
theorem s_X5_init_167 (ht : jt g a = some 7) : Ev sv d (52, 167, [l0, l1, l2, l3], .int x :: .ref a :: st) (tv t u g I J P) Q ↔ Ev sv d (52, 170, [l0, l1, l2, l3], st) (tv t u g (ups I 7 3 a x) J P) Q := R_puti (h_X5_init dX5_init_167) rfl rfl rfl rfl ht
theorem s_X5_init_170 : Ev sv d (52, 170, [l0, l1, l2, l3], []) M Q ↔ Q none M := R_vret (h_X5_init dX5_init_170) rfl
theorem h_X5_held {pc : Nat} {z : Except ClassFile.DecodeError (ClassFile.Instr × Nat)} (h : decode cX5_held pc = z) : decode (jcode 53) pc = z := h
theorem s_X5_held_0 : Ev sv d (53, 0, [some (.int x), l1, l2], st) M Q ↔ Ev sv d (53, 1, [some (.int x), l1, l2], .int x :: st) M Q := R_pure (h_X5_held dX5_held_0) rfl
theorem s_X5_held_1 : Ev sv d (53, 1, [l0, some (.int x), l2], st) M Q ↔ Ev sv d (53, 2, [l0, some (.int x), l2], .int x :: st) M Q := R_pure (h_X5_held dX5_held_1) rfl
theorem s_X5_held_2 : Ev sv d (53, 2, [l0, l1, l2], .int y :: .int x :: st) M Q ↔ if x < y then Ev sv d (53, 5, [l0, l1, l2], st) M Q else Ev sv d (53, 9, [l0, l1, l2], st) M Q := (R_icmp (h_X5_held dX5_held_2) rfl).trans (R_chn jcb_ge)
theorem s_X5_held_5 : Ev sv d (53, 5, [l0, some (.int x), l2], st) M Q ↔ Ev sv d (53, 6, [l0, some (.int x), l2], .int x :: st) M Q := R_pure (h_X5_held dX5_held_5) rfl
theorem s_X5_held_6 : Ev sv d (53, 6, [l0, l1, l2], st) M Q ↔ Ev sv d (53, 19, [l0, l1, l2], st) M Q := R_goto (h_X5_held dX5_held_6) rfl
theorem s_X5_held_9 : Ev sv d (53, 9, [some (.int x), l1, l2], st) M Q ↔ Ev sv d (53, 10, [some (.int x), l1, l2], .int x :: st) M Q := R_pure (h_X5_held dX5_held_9) rfl
theorem s_X5_held_10 : Ev sv d (53, 10, [l0, l1, some (.int x)], st) M Q ↔ Ev sv d (53, 11, [l0, l1, some (.int x)], .int x :: st) M Q := R_pure (h_X5_held dX5_held_10) rfl
theorem s_X5_held_11 : Ev sv d (53, 11, [l0, l1, l2], .int y :: .int x :: st) M Q ↔ if y < x then Ev sv d (53, 14, [l0, l1, l2], st) M Q else Ev sv d (53, 18, [l0, l1, l2], st) M Q := (R_icmp (h_X5_held dX5_held_11) rfl).trans (R_chn jcb_le)
theorem s_X5_held_14 : Ev sv d (53, 14, [l0, l1, some (.int x)], st) M Q ↔ Ev sv d (53, 15, [l0, l1, some (.int x)], .int x :: st) M Q := R_pure (h_X5_held dX5_held_14) rfl
theorem s_X5_held_15 : Ev sv d (53, 15, [l0, l1, l2], st) M Q ↔ Ev sv d (53, 19, [l0, l1, l2], st) M Q := R_goto (h_X5_held dX5_held_15) rfl
theorem s_X5_held_18 : Ev sv d (53, 18, [some (.int x), l1, l2], st) M Q ↔ Ev sv d (53, 19, [some (.int x), l1, l2], .int x :: st) M Q := R_pure (h_X5_held dX5_held_18) rfl
theorem s_X5_held_19 : Ev sv d (53, 19, [l0, l1, l2], [.int x]) M Q ↔ Q (some (.int x)) M := R_iret (h_X5_held dX5_held_19) rfl
theorem h_X5_thrown {pc : Nat} {z : Except ClassFile.DecodeError (ClassFile.Instr × Nat)} (h : decode cX5_thrown pc = z) : decode (jcode 54) pc = z := h
theorem s_X5_thrown_0 : Ev sv d (54, 0, [some (.ref a)], st) M Q ↔ Ev sv d (54, 1, [some (.ref a)], .ref a :: st) M Q := R_pure (h_X5_thrown dX5_thrown_0) rfl
theorem s_X5_thrown_0n : Ev sv d (54, 0, [some (va_rf r)], st) M Q ↔ Ev sv d (54, 1, [some (va_rf r)], va_rf r :: st) M Q := by cases r <;> exact R_pure (h_X5_thrown dX5_thrown_0) rfl
theorem s_X5_thrown_0z : Ev sv d (54, 0, [some .null], st) M Q ↔ Ev sv d (54, 1, [some .null], .null :: st) M Q := R_pure (h_X5_thrown dX5_thrown_0) rfl
theorem s_X5_thrown_1 (ht : jt g a = some 7) : Ev sv d (54, 1, [l0], .ref a :: st) (tv t u g I J P) Q ↔ Ev sv d (54, 4, [l0], .int (I 7 0 a) :: st) (tv t u g I J P) Q := R_geti (h_X5_thrown dX5_thrown_1) rfl rfl ht
theorem s_X5_thrown_4 : Ev sv d (54, 4, [l0], [.int x]) M Q ↔ Q (some (.int x)) M := R_iret (h_X5_thrown dX5_thrown_4) rfl
theorem h_X5_isGroup {pc : Nat} {z : Except ClassFile.DecodeError (ClassFile.Instr × Nat)} (h : decode cX5_isGroup pc = z) : decode (jcode 55) pc = z := h
theorem s_X5_isGroup_0 : Ev sv d (55, 0, [l0, some (.int x)], st) M Q ↔ Ev sv d (55, 1, [l0, some (.int x)], .int x :: st) M Q := R_pure (h_X5_isGroup dX5_isGroup_0) rfl
theorem s_X5_isGroup_1 : Ev sv d (55, 1, [l0, l1], .int x :: st) M Q ↔ if 0 < x then Ev sv d (55, 4, [l0, l1], st) M Q else Ev sv d (55, 16, [l0, l1], st) M Q := (R_if (h_X5_isGroup dX5_isGroup_1) rfl).trans (R_chn jcb_le)
theorem s_X5_isGroup_4 : Ev sv d (55, 4, [l0, some (.int x)], st) M Q ↔ Ev sv d (55, 5, [l0, some (.int x)], .int x :: st) M Q := R_pure (h_X5_isGroup dX5_isGroup_4) rfl
theorem s_X5_isGroup_5 : Ev sv d (55, 5, [some (.ref a), l1], st) M Q ↔ Ev sv d (55, 6, [some (.ref a), l1], .ref a :: st) M Q := R_pure (h_X5_isGroup dX5_isGroup_5) rfl
theorem s_X5_isGroup_5n : Ev sv d (55, 5, [some (va_rf r), l1], st) M Q ↔ Ev sv d (55, 6, [some (va_rf r), l1], va_rf r :: st) M Q := by cases r <;> exact R_pure (h_X5_isGroup dX5_isGroup_5) rfl
theorem s_X5_isGroup_5z : Ev sv d (55, 5, [some .null, l1], st) M Q ↔ Ev sv d (55, 6, [some .null, l1], .null :: st) M Q := R_pure (h_X5_isGroup dX5_isGroup_5) rfl
theorem s_X5_isGroup_6 (ht : jt g a = some 7) : Ev sv d (55, 6, [l0, l1], .ref a :: st) (tv t u g I J P) Q ↔ Ev sv d (55, 9, [l0, l1], .int (I 7 5 a) :: st) (tv t u g I J P) Q := R_geti (h_X5_isGroup dX5_isGroup_6) rfl rfl ht
theorem s_X5_isGroup_9 : Ev sv d (55, 9, [l0, l1], .int y :: .int x :: st) M Q ↔ if y < x then Ev sv d (55, 16, [l0, l1], st) M Q else Ev sv d (55, 12, [l0, l1], st) M Q := (R_icmp (h_X5_isGroup dX5_isGroup_9) rfl).trans (R_ch jcb_gt)
theorem s_X5_isGroup_12 : Ev sv d (55, 12, [l0, l1], st) M Q ↔ Ev sv d (55, 13, [l0, l1], .int (1 : Int32) :: st) M Q := R_pure (h_X5_isGroup dX5_isGroup_12) rfl
theorem s_X5_isGroup_13 : Ev sv d (55, 13, [l0, l1], st) M Q ↔ Ev sv d (55, 17, [l0, l1], st) M Q := R_goto (h_X5_isGroup dX5_isGroup_13) rfl
theorem s_X5_isGroup_16 : Ev sv d (55, 16, [l0, l1], st) M Q ↔ Ev sv d (55, 17, [l0, l1], .int (0 : Int32) :: st) M Q := R_pure (h_X5_isGroup dX5_isGroup_16) rfl
theorem s_X5_isGroup_17 (hx : bz x) : Ev sv d (55, 17, [l0, l1], [.int x]) M Q ↔ Q (some (.int x)) M := R_zret (h_X5_isGroup dX5_isGroup_17) rfl hx
theorem h_X5_isDetail {pc : Nat} {z : Except ClassFile.DecodeError (ClassFile.Instr × Nat)} (h : decode cX5_isDetail pc = z) : decode (jcode 56) pc = z := h
theorem s_X5_isDetail_0 : Ev sv d (56, 0, [some (.ref a), l1], st) M Q ↔ Ev sv d (56, 1, [some (.ref a), l1], .ref a :: st) M Q := R_pure (h_X5_isDetail dX5_isDetail_0) rfl
theorem s_X5_isDetail_0n : Ev sv d (56, 0, [some (va_rf r), l1], st) M Q ↔ Ev sv d (56, 1, [some (va_rf r), l1], va_rf r :: st) M Q := by cases r <;> exact R_pure (h_X5_isDetail dX5_isDetail_0) rfl
theorem s_X5_isDetail_0z : Ev sv d (56, 0, [some .null, l1], st) M Q ↔ Ev sv d (56, 1, [some .null, l1], .null :: st) M Q := R_pure (h_X5_isDetail dX5_isDetail_0) rfl
theorem s_X5_isDetail_1 : Ev sv d (56, 1, [l0, some (.int x)], st) M Q ↔ Ev sv d (56, 2, [l0, some (.int x)], .int x :: st) M Q := R_pure (h_X5_isDetail dX5_isDetail_1) rfl
theorem s_X5_isDetail_2 {x0 : Int32} (ht : jt g b = some 7)  (hc : jcat st ≤ 8) : Ev sv (d + 1) (56, 2, [l0, l1], .int x0 :: .ref b :: st) (tv t u g I J P) Q ↔ Ev sv d (55, 0, [some (.ref b), some (.int x0)], []) (tv t u g I J P) (fun r M1 => Ev sv (d + 1) (56, 5, [l0, l1], r.toList ++ st) M1 Q) := R_callV (as := [.int x0]) (h_X5_isDetail dX5_isDetail_2) rfl rfl rfl ht hc (by decide : (2 : Nat) ≤ 2)
theorem s_X5_isDetail_5 : Ev sv d (56, 5, [l0, l1], .int x :: st) M Q ↔ if x = 0 then Ev sv d (56, 22, [l0, l1], st) M Q else Ev sv d (56, 8, [l0, l1], st) M Q := (R_if (h_X5_isDetail dX5_isDetail_5) rfl).trans (R_ch jcb_eq)
theorem s_X5_isDetail_8 : Ev sv d (56, 8, [some (.ref a), l1], st) M Q ↔ Ev sv d (56, 9, [some (.ref a), l1], .ref a :: st) M Q := R_pure (h_X5_isDetail dX5_isDetail_8) rfl
theorem s_X5_isDetail_8n : Ev sv d (56, 8, [some (va_rf r), l1], st) M Q ↔ Ev sv d (56, 9, [some (va_rf r), l1], va_rf r :: st) M Q := by cases r <;> exact R_pure (h_X5_isDetail dX5_isDetail_8) rfl
theorem s_X5_isDetail_8z : Ev sv d (56, 8, [some .null, l1], st) M Q ↔ Ev sv d (56, 9, [some .null, l1], .null :: st) M Q := R_pure (h_X5_isDetail dX5_isDetail_8) rfl
theorem s_X5_isDetail_9 (ht : jt g a = some 7) : Ev sv d (56, 9, [l0, l1], .ref a :: st) (tv t u g I J P) Q ↔ Ev sv d (56, 12, [l0, l1], va_rf (P 7 9 a) :: st) (tv t u g I J P) Q := R_geta (h_X5_isDetail dX5_isDetail_9) rfl rfl ht
theorem s_X5_isDetail_12 : Ev sv d (56, 12, [l0, some (.int x)], st) M Q ↔ Ev sv d (56, 13, [l0, some (.int x)], .int x :: st) M Q := R_pure (h_X5_isDetail dX5_isDetail_12) rfl
theorem s_X5_isDetail_13 (ht : jt g a = some 66) (hj : jin x (jn g a) = true) : Ev sv d (56, 13, [l0, l1], .int x :: .ref a :: st) (tv t u g I J P) Q ↔ Ev sv d (56, 14, [l0, l1], .int (I 66 x.toNatClampNeg a) :: st) (tv t u g I J P) Q := R_iald (h_X5_isDetail dX5_isDetail_13) rfl ht hj
theorem s_X5_isDetail_14 : Ev sv d (56, 14, [l0, l1], st) M Q ↔ Ev sv d (56, 15, [l0, l1], .int (3 : Int32) :: st) M Q := R_pure (h_X5_isDetail dX5_isDetail_14) rfl
theorem s_X5_isDetail_15 : Ev sv d (56, 15, [l0, l1], .int y :: .int x :: st) M Q ↔ if x = y then Ev sv d (56, 18, [l0, l1], st) M Q else Ev sv d (56, 22, [l0, l1], st) M Q := (R_icmp (h_X5_isDetail dX5_isDetail_15) rfl).trans (R_chn jcb_ne)
theorem s_X5_isDetail_18 : Ev sv d (56, 18, [l0, l1], st) M Q ↔ Ev sv d (56, 19, [l0, l1], .int (1 : Int32) :: st) M Q := R_pure (h_X5_isDetail dX5_isDetail_18) rfl
theorem s_X5_isDetail_19 : Ev sv d (56, 19, [l0, l1], st) M Q ↔ Ev sv d (56, 23, [l0, l1], st) M Q := R_goto (h_X5_isDetail dX5_isDetail_19) rfl
theorem s_X5_isDetail_22 : Ev sv d (56, 22, [l0, l1], st) M Q ↔ Ev sv d (56, 23, [l0, l1], .int (0 : Int32) :: st) M Q := R_pure (h_X5_isDetail dX5_isDetail_22) rfl
theorem s_X5_isDetail_23 (hx : bz x) : Ev sv d (56, 23, [l0, l1], [.int x]) M Q ↔ Q (some (.int x)) M := R_zret (h_X5_isDetail dX5_isDetail_23) rfl hx
theorem h_X5_find {pc : Nat} {z : Except ClassFile.DecodeError (ClassFile.Instr × Nat)} (h : decode cX5_find pc = z) : decode (jcode 57) pc = z := h
theorem s_X5_find_0 : Ev sv d (57, 0, [l0, l1, l2, l3, l4], st) M Q ↔ Ev sv d (57, 1, [l0, l1, l2, l3, l4], .int (0 : Int32) :: st) M Q := R_pure (h_X5_find dX5_find_0) rfl
theorem s_X5_find_1 (hw : jw l2 = true) : Ev sv d (57, 1, [l0, l1, l2, l3, l4], .int x :: st) M Q ↔ Ev sv d (57, 2, [l0, l1, l2, some (.int x), l4], st) M Q := R_st1 (jj := 2) (h_X5_find dX5_find_1) rfl rfl hw (by decide : (3 : Nat) < 5)
theorem s_X5_find_2 : Ev sv d (57, 2, [l0, l1, l2, l3, l4], st) M Q ↔ Ev sv d (57, 3, [l0, l1, l2, l3, l4], .int (1 : Int32) :: st) M Q := R_pure (h_X5_find dX5_find_2) rfl
theorem s_X5_find_3 (hw : jw l3 = true) : Ev sv d (57, 3, [l0, l1, l2, l3, l4], .int x :: st) M Q ↔ Ev sv d (57, 5, [l0, l1, l2, l3, some (.int x)], st) M Q := R_st1 (jj := 3) (h_X5_find dX5_find_3) rfl rfl hw (by decide : (4 : Nat) < 5)
theorem s_X5_find_5 : Ev sv d (57, 5, [l0, l1, l2, l3, some (.int x)], st) M Q ↔ Ev sv d (57, 7, [l0, l1, l2, l3, some (.int x)], .int x :: st) M Q := R_pure (h_X5_find dX5_find_5) rfl
theorem s_X5_find_7 : Ev sv d (57, 7, [some (.ref a), l1, l2, l3, l4], st) M Q ↔ Ev sv d (57, 8, [some (.ref a), l1, l2, l3, l4], .ref a :: st) M Q := R_pure (h_X5_find dX5_find_7) rfl
theorem s_X5_find_7n : Ev sv d (57, 7, [some (va_rf r), l1, l2, l3, l4], st) M Q ↔ Ev sv d (57, 8, [some (va_rf r), l1, l2, l3, l4], va_rf r :: st) M Q := by cases r <;> exact R_pure (h_X5_find dX5_find_7) rfl
theorem s_X5_find_7z : Ev sv d (57, 7, [some .null, l1, l2, l3, l4], st) M Q ↔ Ev sv d (57, 8, [some .null, l1, l2, l3, l4], .null :: st) M Q := R_pure (h_X5_find dX5_find_7) rfl
theorem s_X5_find_8 (ht : jt g a = some 7) : Ev sv d (57, 8, [l0, l1, l2, l3, l4], .ref a :: st) (tv t u g I J P) Q ↔ Ev sv d (57, 11, [l0, l1, l2, l3, l4], .int (I 7 5 a) :: st) (tv t u g I J P) Q := R_geti (h_X5_find dX5_find_8) rfl rfl ht
theorem s_X5_find_11 : Ev sv d (57, 11, [l0, l1, l2, l3, l4], .int y :: .int x :: st) M Q ↔ if y < x then Ev sv d (57, 49, [l0, l1, l2, l3, l4], st) M Q else Ev sv d (57, 14, [l0, l1, l2, l3, l4], st) M Q := (R_icmp (h_X5_find dX5_find_11) rfl).trans (R_ch jcb_gt)
theorem s_X5_find_14 : Ev sv d (57, 14, [some (.ref a), l1, l2, l3, l4], st) M Q ↔ Ev sv d (57, 15, [some (.ref a), l1, l2, l3, l4], .ref a :: st) M Q := R_pure (h_X5_find dX5_find_14) rfl
theorem s_X5_find_14n : Ev sv d (57, 14, [some (va_rf r), l1, l2, l3, l4], st) M Q ↔ Ev sv d (57, 15, [some (va_rf r), l1, l2, l3, l4], va_rf r :: st) M Q := by cases r <;> exact R_pure (h_X5_find dX5_find_14) rfl
theorem s_X5_find_14z : Ev sv d (57, 14, [some .null, l1, l2, l3, l4], st) M Q ↔ Ev sv d (57, 15, [some .null, l1, l2, l3, l4], .null :: st) M Q := R_pure (h_X5_find dX5_find_14) rfl
theorem s_X5_find_15 (ht : jt g a = some 7) : Ev sv d (57, 15, [l0, l1, l2, l3, l4], .ref a :: st) (tv t u g I J P) Q ↔ Ev sv d (57, 18, [l0, l1, l2, l3, l4], va_rf (P 7 9 a) :: st) (tv t u g I J P) Q := R_geta (h_X5_find dX5_find_15) rfl rfl ht
theorem s_X5_find_18 : Ev sv d (57, 18, [l0, l1, l2, l3, some (.int x)], st) M Q ↔ Ev sv d (57, 20, [l0, l1, l2, l3, some (.int x)], .int x :: st) M Q := R_pure (h_X5_find dX5_find_18) rfl
theorem s_X5_find_20 (ht : jt g a = some 66) (hj : jin x (jn g a) = true) : Ev sv d (57, 20, [l0, l1, l2, l3, l4], .int x :: .ref a :: st) (tv t u g I J P) Q ↔ Ev sv d (57, 21, [l0, l1, l2, l3, l4], .int (I 66 x.toNatClampNeg a) :: st) (tv t u g I J P) Q := R_iald (h_X5_find dX5_find_20) rfl ht hj
theorem s_X5_find_21 : Ev sv d (57, 21, [l0, some (.int x), l2, l3, l4], st) M Q ↔ Ev sv d (57, 22, [l0, some (.int x), l2, l3, l4], .int x :: st) M Q := R_pure (h_X5_find dX5_find_21) rfl
theorem s_X5_find_22 : Ev sv d (57, 22, [l0, l1, l2, l3, l4], .int y :: .int x :: st) M Q ↔ if x = y then Ev sv d (57, 25, [l0, l1, l2, l3, l4], st) M Q else Ev sv d (57, 41, [l0, l1, l2, l3, l4], st) M Q := (R_icmp (h_X5_find dX5_find_22) rfl).trans (R_chn jcb_ne)
theorem s_X5_find_25 : Ev sv d (57, 25, [some (.ref a), l1, l2, l3, l4], st) M Q ↔ Ev sv d (57, 26, [some (.ref a), l1, l2, l3, l4], .ref a :: st) M Q := R_pure (h_X5_find dX5_find_25) rfl
theorem s_X5_find_25n : Ev sv d (57, 25, [some (va_rf r), l1, l2, l3, l4], st) M Q ↔ Ev sv d (57, 26, [some (va_rf r), l1, l2, l3, l4], va_rf r :: st) M Q := by cases r <;> exact R_pure (h_X5_find dX5_find_25) rfl
theorem s_X5_find_25z : Ev sv d (57, 25, [some .null, l1, l2, l3, l4], st) M Q ↔ Ev sv d (57, 26, [some .null, l1, l2, l3, l4], .null :: st) M Q := R_pure (h_X5_find dX5_find_25) rfl
theorem s_X5_find_26 (ht : jt g a = some 7) : Ev sv d (57, 26, [l0, l1, l2, l3, l4], .ref a :: st) (tv t u g I J P) Q ↔ Ev sv d (57, 29, [l0, l1, l2, l3, l4], va_rf (P 7 10 a) :: st) (tv t u g I J P) Q := R_geta (h_X5_find dX5_find_26) rfl rfl ht
theorem s_X5_find_29 : Ev sv d (57, 29, [l0, l1, l2, l3, some (.int x)], st) M Q ↔ Ev sv d (57, 31, [l0, l1, l2, l3, some (.int x)], .int x :: st) M Q := R_pure (h_X5_find dX5_find_29) rfl
theorem s_X5_find_31 (ht : jt g a = some 67) (hj : jin x (jn g a) = true) : Ev sv d (57, 31, [l0, l1, l2, l3, l4], .int x :: .ref a :: st) (tv t u g I J P) Q ↔ Ev sv d (57, 32, [l0, l1, l2, l3, l4], .int (I 67 x.toNatClampNeg a) :: st) (tv t u g I J P) Q := R_iald (h_X5_find dX5_find_31) rfl ht hj
theorem s_X5_find_32 : Ev sv d (57, 32, [l0, l1, some (.int x), l3, l4], st) M Q ↔ Ev sv d (57, 33, [l0, l1, some (.int x), l3, l4], .int x :: st) M Q := R_pure (h_X5_find dX5_find_32) rfl
theorem s_X5_find_33 : Ev sv d (57, 33, [l0, l1, l2, l3, l4], .int y :: .int x :: st) M Q ↔ if x = y then Ev sv d (57, 36, [l0, l1, l2, l3, l4], st) M Q else Ev sv d (57, 41, [l0, l1, l2, l3, l4], st) M Q := (R_icmp (h_X5_find dX5_find_33) rfl).trans (R_chn jcb_ne)
theorem s_X5_find_36 : Ev sv d (57, 36, [l0, l1, l2, l3, some (.int x)], st) M Q ↔ Ev sv d (57, 38, [l0, l1, l2, l3, some (.int x)], .int x :: st) M Q := R_pure (h_X5_find dX5_find_36) rfl
theorem s_X5_find_38 : Ev sv d (57, 38, [l0, l1, l2, l3, l4], st) M Q ↔ Ev sv d (57, 42, [l0, l1, l2, l3, l4], st) M Q := R_goto (h_X5_find dX5_find_38) rfl
theorem s_X5_find_41 : Ev sv d (57, 41, [l0, l1, l2, some (.int x), l4], st) M Q ↔ Ev sv d (57, 42, [l0, l1, l2, some (.int x), l4], .int x :: st) M Q := R_pure (h_X5_find dX5_find_41) rfl
theorem s_X5_find_42 (hw : jw l2 = true) : Ev sv d (57, 42, [l0, l1, l2, l3, l4], .int x :: st) M Q ↔ Ev sv d (57, 43, [l0, l1, l2, some (.int x), l4], st) M Q := R_st1 (jj := 2) (h_X5_find dX5_find_42) rfl rfl hw (by decide : (3 : Nat) < 5)
theorem s_X5_find_43 (hw : jw l3 = true) : Ev sv d (57, 43, [l0, l1, l2, l3, some (.int x)], st) M Q ↔ Ev sv d (57, 46, [l0, l1, l2, l3, some (.int (x + (1 : Int32)))], st) M Q := R_st1 (jj := 3) (v := .int (x + (1 : Int32))) (h_X5_find dX5_find_43) rfl rfl hw (by decide : (4 : Nat) < 5)
theorem s_X5_find_46 : Ev sv d (57, 46, [l0, l1, l2, l3, l4], st) M Q ↔ Ev sv d (57, 5, [l0, l1, l2, l3, l4], st) M Q := R_goto (h_X5_find dX5_find_46) rfl
theorem s_X5_find_49 : Ev sv d (57, 49, [l0, l1, l2, some (.int x), l4], st) M Q ↔ Ev sv d (57, 50, [l0, l1, l2, some (.int x), l4], .int x :: st) M Q := R_pure (h_X5_find dX5_find_49) rfl
theorem s_X5_find_50 : Ev sv d (57, 50, [l0, l1, l2, l3, l4], [.int x]) M Q ↔ Q (some (.int x)) M := R_iret (h_X5_find dX5_find_50) rfl
theorem h_X5_group {pc : Nat} {z : Except ClassFile.DecodeError (ClassFile.Instr × Nat)} (h : decode cX5_group pc = z) : decode (jcode 58) pc = z := h
theorem s_X5_group_0 : Ev sv d (58, 0, [some (.ref a), l1, l2, l3], st) M Q ↔ Ev sv d (58, 1, [some (.ref a), l1, l2, l3], .ref a :: st) M Q := R_pure (h_X5_group dX5_group_0) rfl
theorem s_X5_group_0n : Ev sv d (58, 0, [some (va_rf r), l1, l2, l3], st) M Q ↔ Ev sv d (58, 1, [some (va_rf r), l1, l2, l3], va_rf r :: st) M Q := by cases r <;> exact R_pure (h_X5_group dX5_group_0) rfl
theorem s_X5_group_0z : Ev sv d (58, 0, [some .null, l1, l2, l3], st) M Q ↔ Ev sv d (58, 1, [some .null, l1, l2, l3], .null :: st) M Q := R_pure (h_X5_group dX5_group_0) rfl
theorem s_X5_group_1 : Ev sv d (58, 1, [l0, l1, l2, l3], st) M Q ↔ Ev sv d (58, 2, [l0, l1, l2, l3], .int (0 : Int32) :: st) M Q := R_pure (h_X5_group dX5_group_1) rfl
theorem s_X5_group_2 (ht : jt g a = some 7) : Ev sv d (58, 2, [l0, l1, l2, l3], .int x :: .ref a :: st) (tv t u g I J P) Q ↔ Ev sv d (58, 5, [l0, l1, l2, l3], st) (tv t u g (ups I 7 0 a x) J P) Q := R_puti (h_X5_group dX5_group_2) rfl rfl rfl rfl ht
theorem s_X5_group_5 : Ev sv d (58, 5, [l0, some (.int x), l2, l3], st) M Q ↔ Ev sv d (58, 6, [l0, some (.int x), l2, l3], .int x :: st) M Q := R_pure (h_X5_group dX5_group_5) rfl
theorem s_X5_group_6 : Ev sv d (58, 6, [l0, l1, l2, l3], st) M Q ↔ Ev sv d (58, 7, [l0, l1, l2, l3], .int (2 : Int32) :: st) M Q := R_pure (h_X5_group dX5_group_6) rfl
theorem s_X5_group_7 : Ev sv d (58, 7, [l0, l1, l2, l3], .int y :: .int x :: st) M Q ↔ if x = y then Ev sv d (58, 15, [l0, l1, l2, l3], st) M Q else Ev sv d (58, 10, [l0, l1, l2, l3], st) M Q := (R_icmp (h_X5_group dX5_group_7) rfl).trans (R_ch jcb_eq)
theorem s_X5_group_10 : Ev sv d (58, 10, [l0, some (.int x), l2, l3], st) M Q ↔ Ev sv d (58, 11, [l0, some (.int x), l2, l3], .int x :: st) M Q := R_pure (h_X5_group dX5_group_10) rfl
theorem s_X5_group_11 : Ev sv d (58, 11, [l0, l1, l2, l3], st) M Q ↔ Ev sv d (58, 12, [l0, l1, l2, l3], .int (4 : Int32) :: st) M Q := R_pure (h_X5_group dX5_group_11) rfl
theorem s_X5_group_12 : Ev sv d (58, 12, [l0, l1, l2, l3], .int y :: .int x :: st) M Q ↔ if x = y then Ev sv d (58, 15, [l0, l1, l2, l3], st) M Q else Ev sv d (58, 19, [l0, l1, l2, l3], st) M Q := (R_icmp (h_X5_group dX5_group_12) rfl).trans (R_chn jcb_ne)
theorem s_X5_group_15 : Ev sv d (58, 15, [l0, l1, l2, l3], st) M Q ↔ Ev sv d (58, 16, [l0, l1, l2, l3], .int (1 : Int32) :: st) M Q := R_pure (h_X5_group dX5_group_15) rfl
theorem s_X5_group_16 : Ev sv d (58, 16, [l0, l1, l2, l3], st) M Q ↔ Ev sv d (58, 20, [l0, l1, l2, l3], st) M Q := R_goto (h_X5_group dX5_group_16) rfl
theorem s_X5_group_19 : Ev sv d (58, 19, [l0, l1, l2, l3], st) M Q ↔ Ev sv d (58, 20, [l0, l1, l2, l3], .int (0 : Int32) :: st) M Q := R_pure (h_X5_group dX5_group_19) rfl
theorem s_X5_group_20 (hw : jw l2 = true) : Ev sv d (58, 20, [l0, l1, l2, l3], .int x :: st) M Q ↔ Ev sv d (58, 21, [l0, l1, l2, some (.int x)], st) M Q := R_st1 (jj := 2) (h_X5_group dX5_group_20) rfl rfl hw (by decide : (3 : Nat) < 4)
theorem s_X5_group_21 : Ev sv d (58, 21, [l0, some (.int x), l2, l3], st) M Q ↔ Ev sv d (58, 22, [l0, some (.int x), l2, l3], .int x :: st) M Q := R_pure (h_X5_group dX5_group_21) rfl
theorem s_X5_group_22 : Ev sv d (58, 22, [l0, l1, l2, l3], .int x :: st) M Q ↔ if x < 0 then Ev sv d (58, 51, [l0, l1, l2, l3], st) M Q else Ev sv d (58, 25, [l0, l1, l2, l3], st) M Q := (R_if (h_X5_group dX5_group_22) rfl).trans (R_ch jcb_lt)
theorem s_X5_group_25 : Ev sv d (58, 25, [l0, some (.int x), l2, l3], st) M Q ↔ Ev sv d (58, 26, [l0, some (.int x), l2, l3], .int x :: st) M Q := R_pure (h_X5_group dX5_group_25) rfl
theorem s_X5_group_26 : Ev sv d (58, 26, [l0, l1, l2, l3], st) M Q ↔ Ev sv d (58, 28, [l0, l1, l2, l3], .int (6 : Int32) :: st) M Q := R_pure (h_X5_group dX5_group_26) rfl
theorem s_X5_group_28 : Ev sv d (58, 28, [l0, l1, l2, l3], .int y :: .int x :: st) M Q ↔ if y < x then Ev sv d (58, 51, [l0, l1, l2, l3], st) M Q else Ev sv d (58, 31, [l0, l1, l2, l3], st) M Q := (R_icmp (h_X5_group dX5_group_28) rfl).trans (R_ch jcb_gt)
theorem s_X5_group_31 : Ev sv d (58, 31, [l0, l1, some (.int x), l3], st) M Q ↔ Ev sv d (58, 32, [l0, l1, some (.int x), l3], .int x :: st) M Q := R_pure (h_X5_group dX5_group_31) rfl
theorem s_X5_group_32 : Ev sv d (58, 32, [l0, l1, l2, l3], .int x :: st) M Q ↔ if x < 0 then Ev sv d (58, 51, [l0, l1, l2, l3], st) M Q else Ev sv d (58, 35, [l0, l1, l2, l3], st) M Q := (R_if (h_X5_group dX5_group_32) rfl).trans (R_ch jcb_lt)
theorem s_X5_group_35 : Ev sv d (58, 35, [l0, l1, some (.int x), l3], st) M Q ↔ Ev sv d (58, 36, [l0, l1, some (.int x), l3], .int x :: st) M Q := R_pure (h_X5_group dX5_group_35) rfl
theorem s_X5_group_36 : Ev sv d (58, 36, [l0, l1, l2, some (.int x)], st) M Q ↔ Ev sv d (58, 37, [l0, l1, l2, some (.int x)], .int x :: st) M Q := R_pure (h_X5_group dX5_group_36) rfl
theorem s_X5_group_37 : Ev sv d (58, 37, [l0, l1, l2, l3], .int x :: st) M Q ↔ if x = 0 then Ev sv d (58, 47, [l0, l1, l2, l3], st) M Q else Ev sv d (58, 40, [l0, l1, l2, l3], st) M Q := (R_if (h_X5_group dX5_group_37) rfl).trans (R_ch jcb_eq)
theorem s_X5_group_40 : Ev sv d (58, 40, [some (.ref a), l1, l2, l3], st) M Q ↔ Ev sv d (58, 41, [some (.ref a), l1, l2, l3], .ref a :: st) M Q := R_pure (h_X5_group dX5_group_40) rfl
theorem s_X5_group_40n : Ev sv d (58, 40, [some (va_rf r), l1, l2, l3], st) M Q ↔ Ev sv d (58, 41, [some (va_rf r), l1, l2, l3], va_rf r :: st) M Q := by cases r <;> exact R_pure (h_X5_group dX5_group_40) rfl
theorem s_X5_group_40z : Ev sv d (58, 40, [some .null, l1, l2, l3], st) M Q ↔ Ev sv d (58, 41, [some .null, l1, l2, l3], .null :: st) M Q := R_pure (h_X5_group dX5_group_40) rfl
theorem s_X5_group_41 (ht : jt g a = some 7) : Ev sv d (58, 41, [l0, l1, l2, l3], .ref a :: st) (tv t u g I J P) Q ↔ Ev sv d (58, 44, [l0, l1, l2, l3], .int (I 7 4 a) :: st) (tv t u g I J P) Q := R_geti (h_X5_group dX5_group_41) rfl rfl ht
theorem s_X5_group_44 : Ev sv d (58, 44, [l0, l1, l2, l3], st) M Q ↔ Ev sv d (58, 48, [l0, l1, l2, l3], st) M Q := R_goto (h_X5_group dX5_group_44) rfl
theorem s_X5_group_47 : Ev sv d (58, 47, [l0, l1, l2, l3], st) M Q ↔ Ev sv d (58, 48, [l0, l1, l2, l3], .int (0 : Int32) :: st) M Q := R_pure (h_X5_group dX5_group_47) rfl
theorem s_X5_group_48 : Ev sv d (58, 48, [l0, l1, l2, l3], .int y :: .int x :: st) M Q ↔ if y < x then Ev sv d (58, 51, [l0, l1, l2, l3], st) M Q else Ev sv d (58, 54, [l0, l1, l2, l3], st) M Q := (R_icmp (h_X5_group dX5_group_48) rfl).trans (R_chn jcb_le)
theorem s_X5_group_51 : Ev sv d (58, 51, [l0, l1, l2, l3], st) M Q ↔ Ev sv d (58, 53, [l0, l1, l2, l3], .int (-4 : Int32) :: st) M Q := R_pure (h_X5_group dX5_group_51) rfl
theorem s_X5_group_53 : Ev sv d (58, 53, [l0, l1, l2, l3], [.int x]) M Q ↔ Q (some (.int x)) M := R_iret (h_X5_group dX5_group_53) rfl
theorem s_X5_group_54 : Ev sv d (58, 54, [some (.ref a), l1, l2, l3], st) M Q ↔ Ev sv d (58, 55, [some (.ref a), l1, l2, l3], .ref a :: st) M Q := R_pure (h_X5_group dX5_group_54) rfl
theorem s_X5_group_54n : Ev sv d (58, 54, [some (va_rf r), l1, l2, l3], st) M Q ↔ Ev sv d (58, 55, [some (va_rf r), l1, l2, l3], va_rf r :: st) M Q := by cases r <;> exact R_pure (h_X5_group dX5_group_54) rfl
theorem s_X5_group_54z : Ev sv d (58, 54, [some .null, l1, l2, l3], st) M Q ↔ Ev sv d (58, 55, [some .null, l1, l2, l3], .null :: st) M Q := R_pure (h_X5_group dX5_group_54) rfl
theorem s_X5_group_55 (ht : jt g a = some 7) : Ev sv d (58, 55, [l0, l1, l2, l3], .ref a :: st) (tv t u g I J P) Q ↔ Ev sv d (58, 58, [l0, l1, l2, l3], .int (I 7 21 a) :: st) (tv t u g I J P) Q := R_geti (h_X5_group dX5_group_55) rfl rfl ht
theorem s_X5_group_58 : Ev sv d (58, 58, [l0, l1, l2, l3], .int x :: st) M Q ↔ if x = 0 then Ev sv d (58, 64, [l0, l1, l2, l3], st) M Q else Ev sv d (58, 61, [l0, l1, l2, l3], st) M Q := (R_if (h_X5_group dX5_group_58) rfl).trans (R_ch jcb_eq)
theorem s_X5_group_61 : Ev sv d (58, 61, [l0, l1, l2, l3], st) M Q ↔ Ev sv d (58, 63, [l0, l1, l2, l3], .int (-5 : Int32) :: st) M Q := R_pure (h_X5_group dX5_group_61) rfl
theorem s_X5_group_63 : Ev sv d (58, 63, [l0, l1, l2, l3], [.int x]) M Q ↔ Q (some (.int x)) M := R_iret (h_X5_group dX5_group_63) rfl
theorem s_X5_group_64 : Ev sv d (58, 64, [l0, some (.int x), l2, l3], st) M Q ↔ Ev sv d (58, 65, [l0, some (.int x), l2, l3], .int x :: st) M Q := R_pure (h_X5_group dX5_group_64) rfl
theorem s_X5_group_65 : Ev sv d (58, 65, [l0, l1, l2, l3], st) M Q ↔ Ev sv d (58, 66, [l0, l1, l2, l3], .int (3 : Int32) :: st) M Q := R_pure (h_X5_group dX5_group_65) rfl
theorem s_X5_group_66 : Ev sv d (58, 66, [l0, l1, l2, l3], .int y :: .int x :: st) M Q ↔ if x = y then Ev sv d (58, 80, [l0, l1, l2, l3], st) M Q else Ev sv d (58, 69, [l0, l1, l2, l3], st) M Q := (R_icmp (h_X5_group dX5_group_66) rfl).trans (R_ch jcb_eq)
theorem s_X5_group_69 : Ev sv d (58, 69, [some (.ref a), l1, l2, l3], st) M Q ↔ Ev sv d (58, 70, [some (.ref a), l1, l2, l3], .ref a :: st) M Q := R_pure (h_X5_group dX5_group_69) rfl
theorem s_X5_group_69n : Ev sv d (58, 69, [some (va_rf r), l1, l2, l3], st) M Q ↔ Ev sv d (58, 70, [some (va_rf r), l1, l2, l3], va_rf r :: st) M Q := by cases r <;> exact R_pure (h_X5_group dX5_group_69) rfl
theorem s_X5_group_69z : Ev sv d (58, 69, [some .null, l1, l2, l3], st) M Q ↔ Ev sv d (58, 70, [some .null, l1, l2, l3], .null :: st) M Q := R_pure (h_X5_group dX5_group_69) rfl
theorem s_X5_group_70 : Ev sv d (58, 70, [l0, some (.int x), l2, l3], st) M Q ↔ Ev sv d (58, 71, [l0, some (.int x), l2, l3], .int x :: st) M Q := R_pure (h_X5_group dX5_group_70) rfl
theorem s_X5_group_71 : Ev sv d (58, 71, [l0, l1, some (.int x), l3], st) M Q ↔ Ev sv d (58, 72, [l0, l1, some (.int x), l3], .int x :: st) M Q := R_pure (h_X5_group dX5_group_71) rfl
theorem s_X5_group_72 {x0 : Int32} {x1 : Int32} (ht : jt g b = some 7)  (hc : jcat st ≤ 8) : Ev sv (d + 1) (58, 72, [l0, l1, l2, l3], .int x1 :: .int x0 :: .ref b :: st) (tv t u g I J P) Q ↔ Ev sv d (57, 0, [some (.ref b), some (.int x0), some (.int x1), none, none], []) (tv t u g I J P) (fun r M1 => Ev sv (d + 1) (58, 75, [l0, l1, l2, l3], r.toList ++ st) M1 Q) := R_callV (as := [.int x1, .int x0]) (h_X5_group dX5_group_72) rfl rfl rfl ht hc (by decide : (3 : Nat) ≤ 5)
theorem s_X5_group_75 : Ev sv d (58, 75, [l0, l1, l2, l3], .int x :: st) M Q ↔ if x = 0 then Ev sv d (58, 80, [l0, l1, l2, l3], st) M Q else Ev sv d (58, 78, [l0, l1, l2, l3], st) M Q := (R_if (h_X5_group dX5_group_75) rfl).trans (R_ch jcb_eq)
theorem s_X5_group_78 : Ev sv d (58, 78, [l0, l1, l2, l3], st) M Q ↔ Ev sv d (58, 79, [l0, l1, l2, l3], .int (0 : Int32) :: st) M Q := R_pure (h_X5_group dX5_group_78) rfl
theorem s_X5_group_79 : Ev sv d (58, 79, [l0, l1, l2, l3], [.int x]) M Q ↔ Q (some (.int x)) M := R_iret (h_X5_group dX5_group_79) rfl
theorem s_X5_group_80 : Ev sv d (58, 80, [some (.ref a), l1, l2, l3], st) M Q ↔ Ev sv d (58, 81, [some (.ref a), l1, l2, l3], .ref a :: st) M Q := R_pure (h_X5_group dX5_group_80) rfl
theorem s_X5_group_80n : Ev sv d (58, 80, [some (va_rf r), l1, l2, l3], st) M Q ↔ Ev sv d (58, 81, [some (va_rf r), l1, l2, l3], va_rf r :: st) M Q := by cases r <;> exact R_pure (h_X5_group dX5_group_80) rfl
theorem s_X5_group_80z : Ev sv d (58, 80, [some .null, l1, l2, l3], st) M Q ↔ Ev sv d (58, 81, [some .null, l1, l2, l3], .null :: st) M Q := R_pure (h_X5_group dX5_group_80) rfl
theorem s_X5_group_81 (ht : jt g a = some 7) : Ev sv d (58, 81, [l0, l1, l2, l3], .ref a :: st) (tv t u g I J P) Q ↔ Ev sv d (58, 84, [l0, l1, l2, l3], .int (I 7 5 a) :: st) (tv t u g I J P) Q := R_geti (h_X5_group dX5_group_81) rfl rfl ht
theorem s_X5_group_84 : Ev sv d (58, 84, [l0, l1, l2, l3], st) M Q ↔ Ev sv d (58, 86, [l0, l1, l2, l3], .int (20 : Int32) :: st) M Q := R_pure (h_X5_group dX5_group_84) rfl
theorem s_X5_group_86 : Ev sv d (58, 86, [l0, l1, l2, l3], .int y :: .int x :: st) M Q ↔ if x = y then Ev sv d (58, 89, [l0, l1, l2, l3], st) M Q else Ev sv d (58, 91, [l0, l1, l2, l3], st) M Q := (R_icmp (h_X5_group dX5_group_86) rfl).trans (R_chn jcb_ne)
theorem s_X5_group_89 : Ev sv d (58, 89, [l0, l1, l2, l3], st) M Q ↔ Ev sv d (58, 90, [l0, l1, l2, l3], .int (-1 : Int32) :: st) M Q := R_pure (h_X5_group dX5_group_89) rfl
theorem s_X5_group_90 : Ev sv d (58, 90, [l0, l1, l2, l3], [.int x]) M Q ↔ Q (some (.int x)) M := R_iret (h_X5_group dX5_group_90) rfl
theorem s_X5_group_91 : Ev sv d (58, 91, [some (.ref a), l1, l2, l3], st) M Q ↔ Ev sv d (58, 92, [some (.ref a), l1, l2, l3], .ref a :: st) M Q := R_pure (h_X5_group dX5_group_91) rfl
theorem s_X5_group_91n : Ev sv d (58, 91, [some (va_rf r), l1, l2, l3], st) M Q ↔ Ev sv d (58, 92, [some (va_rf r), l1, l2, l3], va_rf r :: st) M Q := by cases r <;> exact R_pure (h_X5_group dX5_group_91) rfl
theorem s_X5_group_91z : Ev sv d (58, 91, [some .null, l1, l2, l3], st) M Q ↔ Ev sv d (58, 92, [some .null, l1, l2, l3], .null :: st) M Q := R_pure (h_X5_group dX5_group_91) rfl
theorem s_X5_group_92 (hv : v.category = 1) : Ev sv d (58, 92, [l0, l1, l2, l3], v :: st) M Q ↔ Ev sv d (58, 93, [l0, l1, l2, l3], v :: v :: st) M Q := R_pure (h_X5_group dX5_group_92) (by simp [jpure, hv])
theorem s_X5_group_93 (ht : jt g a = some 7) : Ev sv d (58, 93, [l0, l1, l2, l3], .ref a :: st) (tv t u g I J P) Q ↔ Ev sv d (58, 96, [l0, l1, l2, l3], .int (I 7 5 a) :: st) (tv t u g I J P) Q := R_geti (h_X5_group dX5_group_93) rfl rfl ht
theorem s_X5_group_96 : Ev sv d (58, 96, [l0, l1, l2, l3], st) M Q ↔ Ev sv d (58, 97, [l0, l1, l2, l3], .int (1 : Int32) :: st) M Q := R_pure (h_X5_group dX5_group_96) rfl
theorem s_X5_group_97 : Ev sv d (58, 97, [l0, l1, l2, l3], .int y :: .int x :: st) M Q ↔ Ev sv d (58, 98, [l0, l1, l2, l3], .int (x + y) :: st) M Q := R_pure (h_X5_group dX5_group_97) rfl
theorem s_X5_group_98 (ht : jt g a = some 7) : Ev sv d (58, 98, [l0, l1, l2, l3], .int x :: .ref a :: st) (tv t u g I J P) Q ↔ Ev sv d (58, 101, [l0, l1, l2, l3], st) (tv t u g (ups I 7 5 a x) J P) Q := R_puti (h_X5_group dX5_group_98) rfl rfl rfl rfl ht
theorem s_X5_group_101 : Ev sv d (58, 101, [some (.ref a), l1, l2, l3], st) M Q ↔ Ev sv d (58, 102, [some (.ref a), l1, l2, l3], .ref a :: st) M Q := R_pure (h_X5_group dX5_group_101) rfl
theorem s_X5_group_101n : Ev sv d (58, 101, [some (va_rf r), l1, l2, l3], st) M Q ↔ Ev sv d (58, 102, [some (va_rf r), l1, l2, l3], va_rf r :: st) M Q := by cases r <;> exact R_pure (h_X5_group dX5_group_101) rfl
theorem s_X5_group_101z : Ev sv d (58, 101, [some .null, l1, l2, l3], st) M Q ↔ Ev sv d (58, 102, [some .null, l1, l2, l3], .null :: st) M Q := R_pure (h_X5_group dX5_group_101) rfl
theorem s_X5_group_102 (ht : jt g a = some 7) : Ev sv d (58, 102, [l0, l1, l2, l3], .ref a :: st) (tv t u g I J P) Q ↔ Ev sv d (58, 105, [l0, l1, l2, l3], va_rf (P 7 9 a) :: st) (tv t u g I J P) Q := R_geta (h_X5_group dX5_group_102) rfl rfl ht
theorem s_X5_group_105 : Ev sv d (58, 105, [some (.ref a), l1, l2, l3], st) M Q ↔ Ev sv d (58, 106, [some (.ref a), l1, l2, l3], .ref a :: st) M Q := R_pure (h_X5_group dX5_group_105) rfl
theorem s_X5_group_105n : Ev sv d (58, 105, [some (va_rf r), l1, l2, l3], st) M Q ↔ Ev sv d (58, 106, [some (va_rf r), l1, l2, l3], va_rf r :: st) M Q := by cases r <;> exact R_pure (h_X5_group dX5_group_105) rfl
theorem s_X5_group_105z : Ev sv d (58, 105, [some .null, l1, l2, l3], st) M Q ↔ Ev sv d (58, 106, [some .null, l1, l2, l3], .null :: st) M Q := R_pure (h_X5_group dX5_group_105) rfl
theorem s_X5_group_106 (ht : jt g a = some 7) : Ev sv d (58, 106, [l0, l1, l2, l3], .ref a :: st) (tv t u g I J P) Q ↔ Ev sv d (58, 109, [l0, l1, l2, l3], .int (I 7 5 a) :: st) (tv t u g I J P) Q := R_geti (h_X5_group dX5_group_106) rfl rfl ht
theorem s_X5_group_109 : Ev sv d (58, 109, [l0, some (.int x), l2, l3], st) M Q ↔ Ev sv d (58, 110, [l0, some (.int x), l2, l3], .int x :: st) M Q := R_pure (h_X5_group dX5_group_109) rfl
theorem s_X5_group_110 (ht : jt g a = some 66) (hj : jin x (jn g a) = true) : Ev sv d (58, 110, [l0, l1, l2, l3], .int y :: .int x :: .ref a :: st) (tv t u g I J P) Q ↔ Ev sv d (58, 111, [l0, l1, l2, l3], st) (tv t u g (ups I 66 x.toNatClampNeg a y) J P) Q := R_iast (h_X5_group dX5_group_110) (by decide) rfl ht hj
theorem s_X5_group_111 : Ev sv d (58, 111, [some (.ref a), l1, l2, l3], st) M Q ↔ Ev sv d (58, 112, [some (.ref a), l1, l2, l3], .ref a :: st) M Q := R_pure (h_X5_group dX5_group_111) rfl
theorem s_X5_group_111n : Ev sv d (58, 111, [some (va_rf r), l1, l2, l3], st) M Q ↔ Ev sv d (58, 112, [some (va_rf r), l1, l2, l3], va_rf r :: st) M Q := by cases r <;> exact R_pure (h_X5_group dX5_group_111) rfl
theorem s_X5_group_111z : Ev sv d (58, 111, [some .null, l1, l2, l3], st) M Q ↔ Ev sv d (58, 112, [some .null, l1, l2, l3], .null :: st) M Q := R_pure (h_X5_group dX5_group_111) rfl
theorem s_X5_group_112 (ht : jt g a = some 7) : Ev sv d (58, 112, [l0, l1, l2, l3], .ref a :: st) (tv t u g I J P) Q ↔ Ev sv d (58, 115, [l0, l1, l2, l3], va_rf (P 7 10 a) :: st) (tv t u g I J P) Q := R_geta (h_X5_group dX5_group_112) rfl rfl ht
theorem s_X5_group_115 : Ev sv d (58, 115, [some (.ref a), l1, l2, l3], st) M Q ↔ Ev sv d (58, 116, [some (.ref a), l1, l2, l3], .ref a :: st) M Q := R_pure (h_X5_group dX5_group_115) rfl
theorem s_X5_group_115n : Ev sv d (58, 115, [some (va_rf r), l1, l2, l3], st) M Q ↔ Ev sv d (58, 116, [some (va_rf r), l1, l2, l3], va_rf r :: st) M Q := by cases r <;> exact R_pure (h_X5_group dX5_group_115) rfl
theorem s_X5_group_115z : Ev sv d (58, 115, [some .null, l1, l2, l3], st) M Q ↔ Ev sv d (58, 116, [some .null, l1, l2, l3], .null :: st) M Q := R_pure (h_X5_group dX5_group_115) rfl
theorem s_X5_group_116 (ht : jt g a = some 7) : Ev sv d (58, 116, [l0, l1, l2, l3], .ref a :: st) (tv t u g I J P) Q ↔ Ev sv d (58, 119, [l0, l1, l2, l3], .int (I 7 5 a) :: st) (tv t u g I J P) Q := R_geti (h_X5_group dX5_group_116) rfl rfl ht
theorem s_X5_group_119 : Ev sv d (58, 119, [l0, l1, some (.int x), l3], st) M Q ↔ Ev sv d (58, 120, [l0, l1, some (.int x), l3], .int x :: st) M Q := R_pure (h_X5_group dX5_group_119) rfl
theorem s_X5_group_120 (ht : jt g a = some 67) (hj : jin x (jn g a) = true) : Ev sv d (58, 120, [l0, l1, l2, l3], .int y :: .int x :: .ref a :: st) (tv t u g I J P) Q ↔ Ev sv d (58, 121, [l0, l1, l2, l3], st) (tv t u g (ups I 67 x.toNatClampNeg a y) J P) Q := R_iast (h_X5_group dX5_group_120) (by decide) rfl ht hj
theorem s_X5_group_121 : Ev sv d (58, 121, [some (.ref a), l1, l2, l3], st) M Q ↔ Ev sv d (58, 122, [some (.ref a), l1, l2, l3], .ref a :: st) M Q := R_pure (h_X5_group dX5_group_121) rfl
theorem s_X5_group_121n : Ev sv d (58, 121, [some (va_rf r), l1, l2, l3], st) M Q ↔ Ev sv d (58, 122, [some (va_rf r), l1, l2, l3], va_rf r :: st) M Q := by cases r <;> exact R_pure (h_X5_group dX5_group_121) rfl
theorem s_X5_group_121z : Ev sv d (58, 121, [some .null, l1, l2, l3], st) M Q ↔ Ev sv d (58, 122, [some .null, l1, l2, l3], .null :: st) M Q := R_pure (h_X5_group dX5_group_121) rfl
theorem s_X5_group_122 (ht : jt g a = some 7) : Ev sv d (58, 122, [l0, l1, l2, l3], .ref a :: st) (tv t u g I J P) Q ↔ Ev sv d (58, 125, [l0, l1, l2, l3], .int (I 7 5 a) :: st) (tv t u g I J P) Q := R_geti (h_X5_group dX5_group_122) rfl rfl ht
theorem s_X5_group_125 : Ev sv d (58, 125, [l0, l1, l2, l3], [.int x]) M Q ↔ Q (some (.int x)) M := R_iret (h_X5_group dX5_group_125) rfl
theorem h_X5_fits {pc : Nat} {z : Except ClassFile.DecodeError (ClassFile.Instr × Nat)} (h : decode cX5_fits pc = z) : decode (jcode 59) pc = z := h
theorem s_X5_fits_0 : Ev sv d (59, 0, [some (.ref a), l1, l2, l3, l4, l5, l6, l7, l8, l9, l10], st) M Q ↔ Ev sv d (59, 1, [some (.ref a), l1, l2, l3, l4, l5, l6, l7, l8, l9, l10], .ref a :: st) M Q := R_pure (h_X5_fits dX5_fits_0) rfl
theorem s_X5_fits_0n : Ev sv d (59, 0, [some (va_rf r), l1, l2, l3, l4, l5, l6, l7, l8, l9, l10], st) M Q ↔ Ev sv d (59, 1, [some (va_rf r), l1, l2, l3, l4, l5, l6, l7, l8, l9, l10], va_rf r :: st) M Q := by cases r <;> exact R_pure (h_X5_fits dX5_fits_0) rfl
theorem s_X5_fits_0z : Ev sv d (59, 0, [some .null, l1, l2, l3, l4, l5, l6, l7, l8, l9, l10], st) M Q ↔ Ev sv d (59, 1, [some .null, l1, l2, l3, l4, l5, l6, l7, l8, l9, l10], .null :: st) M Q := R_pure (h_X5_fits dX5_fits_0) rfl
theorem s_X5_fits_1 (ht : jt g a = some 7) : Ev sv d (59, 1, [l0, l1, l2, l3, l4, l5, l6, l7, l8, l9, l10], .ref a :: st) (tv t u g I J P) Q ↔ Ev sv d (59, 4, [l0, l1, l2, l3, l4, l5, l6, l7, l8, l9, l10], va_rf (P 7 9 a) :: st) (tv t u g I J P) Q := R_geta (h_X5_fits dX5_fits_1) rfl rfl ht
theorem s_X5_fits_4 : Ev sv d (59, 4, [l0, some (.int x), l2, l3, l4, l5, l6, l7, l8, l9, l10], st) M Q ↔ Ev sv d (59, 5, [l0, some (.int x), l2, l3, l4, l5, l6, l7, l8, l9, l10], .int x :: st) M Q := R_pure (h_X5_fits dX5_fits_4) rfl
theorem s_X5_fits_5 (ht : jt g a = some 66) (hj : jin x (jn g a) = true) : Ev sv d (59, 5, [l0, l1, l2, l3, l4, l5, l6, l7, l8, l9, l10], .int x :: .ref a :: st) (tv t u g I J P) Q ↔ Ev sv d (59, 6, [l0, l1, l2, l3, l4, l5, l6, l7, l8, l9, l10], .int (I 66 x.toNatClampNeg a) :: st) (tv t u g I J P) Q := R_iald (h_X5_fits dX5_fits_5) rfl ht hj
theorem s_X5_fits_6 : Ev sv d (59, 6, [l0, l1, l2, l3, l4, l5, l6, l7, l8, l9, l10], st) M Q ↔ Ev sv d (59, 7, [l0, l1, l2, l3, l4, l5, l6, l7, l8, l9, l10], .int (2 : Int32) :: st) M Q := R_pure (h_X5_fits dX5_fits_6) rfl
theorem s_X5_fits_7 : Ev sv d (59, 7, [l0, l1, l2, l3, l4, l5, l6, l7, l8, l9, l10], .int y :: .int x :: st) M Q ↔ if x = y then Ev sv d (59, 30, [l0, l1, l2, l3, l4, l5, l6, l7, l8, l9, l10], st) M Q else Ev sv d (59, 10, [l0, l1, l2, l3, l4, l5, l6, l7, l8, l9, l10], st) M Q := (R_icmp (h_X5_fits dX5_fits_7) rfl).trans (R_ch jcb_eq)
theorem s_X5_fits_10 : Ev sv d (59, 10, [some (.ref a), l1, l2, l3, l4, l5, l6, l7, l8, l9, l10], st) M Q ↔ Ev sv d (59, 11, [some (.ref a), l1, l2, l3, l4, l5, l6, l7, l8, l9, l10], .ref a :: st) M Q := R_pure (h_X5_fits dX5_fits_10) rfl
theorem s_X5_fits_10n : Ev sv d (59, 10, [some (va_rf r), l1, l2, l3, l4, l5, l6, l7, l8, l9, l10], st) M Q ↔ Ev sv d (59, 11, [some (va_rf r), l1, l2, l3, l4, l5, l6, l7, l8, l9, l10], va_rf r :: st) M Q := by cases r <;> exact R_pure (h_X5_fits dX5_fits_10) rfl
theorem s_X5_fits_10z : Ev sv d (59, 10, [some .null, l1, l2, l3, l4, l5, l6, l7, l8, l9, l10], st) M Q ↔ Ev sv d (59, 11, [some .null, l1, l2, l3, l4, l5, l6, l7, l8, l9, l10], .null :: st) M Q := R_pure (h_X5_fits dX5_fits_10) rfl
theorem s_X5_fits_11 (ht : jt g a = some 7) : Ev sv d (59, 11, [l0, l1, l2, l3, l4, l5, l6, l7, l8, l9, l10], .ref a :: st) (tv t u g I J P) Q ↔ Ev sv d (59, 14, [l0, l1, l2, l3, l4, l5, l6, l7, l8, l9, l10], va_rf (P 7 9 a) :: st) (tv t u g I J P) Q := R_geta (h_X5_fits dX5_fits_11) rfl rfl ht
theorem s_X5_fits_14 : Ev sv d (59, 14, [l0, some (.int x), l2, l3, l4, l5, l6, l7, l8, l9, l10], st) M Q ↔ Ev sv d (59, 15, [l0, some (.int x), l2, l3, l4, l5, l6, l7, l8, l9, l10], .int x :: st) M Q := R_pure (h_X5_fits dX5_fits_14) rfl
theorem s_X5_fits_15 (ht : jt g a = some 66) (hj : jin x (jn g a) = true) : Ev sv d (59, 15, [l0, l1, l2, l3, l4, l5, l6, l7, l8, l9, l10], .int x :: .ref a :: st) (tv t u g I J P) Q ↔ Ev sv d (59, 16, [l0, l1, l2, l3, l4, l5, l6, l7, l8, l9, l10], .int (I 66 x.toNatClampNeg a) :: st) (tv t u g I J P) Q := R_iald (h_X5_fits dX5_fits_15) rfl ht hj
theorem s_X5_fits_16 : Ev sv d (59, 16, [l0, l1, l2, l3, l4, l5, l6, l7, l8, l9, l10], st) M Q ↔ Ev sv d (59, 17, [l0, l1, l2, l3, l4, l5, l6, l7, l8, l9, l10], .int (3 : Int32) :: st) M Q := R_pure (h_X5_fits dX5_fits_16) rfl
theorem s_X5_fits_17 : Ev sv d (59, 17, [l0, l1, l2, l3, l4, l5, l6, l7, l8, l9, l10], .int y :: .int x :: st) M Q ↔ if x = y then Ev sv d (59, 30, [l0, l1, l2, l3, l4, l5, l6, l7, l8, l9, l10], st) M Q else Ev sv d (59, 20, [l0, l1, l2, l3, l4, l5, l6, l7, l8, l9, l10], st) M Q := (R_icmp (h_X5_fits dX5_fits_17) rfl).trans (R_ch jcb_eq)
theorem s_X5_fits_20 : Ev sv d (59, 20, [some (.ref a), l1, l2, l3, l4, l5, l6, l7, l8, l9, l10], st) M Q ↔ Ev sv d (59, 21, [some (.ref a), l1, l2, l3, l4, l5, l6, l7, l8, l9, l10], .ref a :: st) M Q := R_pure (h_X5_fits dX5_fits_20) rfl
theorem s_X5_fits_20n : Ev sv d (59, 20, [some (va_rf r), l1, l2, l3, l4, l5, l6, l7, l8, l9, l10], st) M Q ↔ Ev sv d (59, 21, [some (va_rf r), l1, l2, l3, l4, l5, l6, l7, l8, l9, l10], va_rf r :: st) M Q := by cases r <;> exact R_pure (h_X5_fits dX5_fits_20) rfl
theorem s_X5_fits_20z : Ev sv d (59, 20, [some .null, l1, l2, l3, l4, l5, l6, l7, l8, l9, l10], st) M Q ↔ Ev sv d (59, 21, [some .null, l1, l2, l3, l4, l5, l6, l7, l8, l9, l10], .null :: st) M Q := R_pure (h_X5_fits dX5_fits_20) rfl
theorem s_X5_fits_21 (ht : jt g a = some 7) : Ev sv d (59, 21, [l0, l1, l2, l3, l4, l5, l6, l7, l8, l9, l10], .ref a :: st) (tv t u g I J P) Q ↔ Ev sv d (59, 24, [l0, l1, l2, l3, l4, l5, l6, l7, l8, l9, l10], va_rf (P 7 9 a) :: st) (tv t u g I J P) Q := R_geta (h_X5_fits dX5_fits_21) rfl rfl ht
theorem s_X5_fits_24 : Ev sv d (59, 24, [l0, some (.int x), l2, l3, l4, l5, l6, l7, l8, l9, l10], st) M Q ↔ Ev sv d (59, 25, [l0, some (.int x), l2, l3, l4, l5, l6, l7, l8, l9, l10], .int x :: st) M Q := R_pure (h_X5_fits dX5_fits_24) rfl
theorem s_X5_fits_25 (ht : jt g a = some 66) (hj : jin x (jn g a) = true) : Ev sv d (59, 25, [l0, l1, l2, l3, l4, l5, l6, l7, l8, l9, l10], .int x :: .ref a :: st) (tv t u g I J P) Q ↔ Ev sv d (59, 26, [l0, l1, l2, l3, l4, l5, l6, l7, l8, l9, l10], .int (I 66 x.toNatClampNeg a) :: st) (tv t u g I J P) Q := R_iald (h_X5_fits dX5_fits_25) rfl ht hj
theorem s_X5_fits_26 : Ev sv d (59, 26, [l0, l1, l2, l3, l4, l5, l6, l7, l8, l9, l10], st) M Q ↔ Ev sv d (59, 27, [l0, l1, l2, l3, l4, l5, l6, l7, l8, l9, l10], .int (4 : Int32) :: st) M Q := R_pure (h_X5_fits dX5_fits_26) rfl
theorem s_X5_fits_27 : Ev sv d (59, 27, [l0, l1, l2, l3, l4, l5, l6, l7, l8, l9, l10], .int y :: .int x :: st) M Q ↔ if x = y then Ev sv d (59, 30, [l0, l1, l2, l3, l4, l5, l6, l7, l8, l9, l10], st) M Q else Ev sv d (59, 34, [l0, l1, l2, l3, l4, l5, l6, l7, l8, l9, l10], st) M Q := (R_icmp (h_X5_fits dX5_fits_27) rfl).trans (R_chn jcb_ne)
theorem s_X5_fits_30 : Ev sv d (59, 30, [l0, l1, l2, l3, l4, l5, l6, l7, l8, l9, l10], st) M Q ↔ Ev sv d (59, 31, [l0, l1, l2, l3, l4, l5, l6, l7, l8, l9, l10], .int (1 : Int32) :: st) M Q := R_pure (h_X5_fits dX5_fits_30) rfl
theorem s_X5_fits_31 : Ev sv d (59, 31, [l0, l1, l2, l3, l4, l5, l6, l7, l8, l9, l10], st) M Q ↔ Ev sv d (59, 35, [l0, l1, l2, l3, l4, l5, l6, l7, l8, l9, l10], st) M Q := R_goto (h_X5_fits dX5_fits_31) rfl
theorem s_X5_fits_34 : Ev sv d (59, 34, [l0, l1, l2, l3, l4, l5, l6, l7, l8, l9, l10], st) M Q ↔ Ev sv d (59, 35, [l0, l1, l2, l3, l4, l5, l6, l7, l8, l9, l10], .int (0 : Int32) :: st) M Q := R_pure (h_X5_fits dX5_fits_34) rfl
theorem s_X5_fits_35 (hw : jw l3 = true) : Ev sv d (59, 35, [l0, l1, l2, l3, l4, l5, l6, l7, l8, l9, l10], .int x :: st) M Q ↔ Ev sv d (59, 37, [l0, l1, l2, l3, some (.int x), l5, l6, l7, l8, l9, l10], st) M Q := R_st1 (jj := 3) (h_X5_fits dX5_fits_35) rfl rfl hw (by decide : (4 : Nat) < 11)
theorem s_X5_fits_37 : Ev sv d (59, 37, [some (.ref a), l1, l2, l3, l4, l5, l6, l7, l8, l9, l10], st) M Q ↔ Ev sv d (59, 38, [some (.ref a), l1, l2, l3, l4, l5, l6, l7, l8, l9, l10], .ref a :: st) M Q := R_pure (h_X5_fits dX5_fits_37) rfl
theorem s_X5_fits_37n : Ev sv d (59, 37, [some (va_rf r), l1, l2, l3, l4, l5, l6, l7, l8, l9, l10], st) M Q ↔ Ev sv d (59, 38, [some (va_rf r), l1, l2, l3, l4, l5, l6, l7, l8, l9, l10], va_rf r :: st) M Q := by cases r <;> exact R_pure (h_X5_fits dX5_fits_37) rfl
theorem s_X5_fits_37z : Ev sv d (59, 37, [some .null, l1, l2, l3, l4, l5, l6, l7, l8, l9, l10], st) M Q ↔ Ev sv d (59, 38, [some .null, l1, l2, l3, l4, l5, l6, l7, l8, l9, l10], .null :: st) M Q := R_pure (h_X5_fits dX5_fits_37) rfl
theorem s_X5_fits_38 (ht : jt g a = some 7) : Ev sv d (59, 38, [l0, l1, l2, l3, l4, l5, l6, l7, l8, l9, l10], .ref a :: st) (tv t u g I J P) Q ↔ Ev sv d (59, 41, [l0, l1, l2, l3, l4, l5, l6, l7, l8, l9, l10], va_rf (P 7 9 a) :: st) (tv t u g I J P) Q := R_geta (h_X5_fits dX5_fits_38) rfl rfl ht
theorem s_X5_fits_41 : Ev sv d (59, 41, [l0, some (.int x), l2, l3, l4, l5, l6, l7, l8, l9, l10], st) M Q ↔ Ev sv d (59, 42, [l0, some (.int x), l2, l3, l4, l5, l6, l7, l8, l9, l10], .int x :: st) M Q := R_pure (h_X5_fits dX5_fits_41) rfl
theorem s_X5_fits_42 (ht : jt g a = some 66) (hj : jin x (jn g a) = true) : Ev sv d (59, 42, [l0, l1, l2, l3, l4, l5, l6, l7, l8, l9, l10], .int x :: .ref a :: st) (tv t u g I J P) Q ↔ Ev sv d (59, 43, [l0, l1, l2, l3, l4, l5, l6, l7, l8, l9, l10], .int (I 66 x.toNatClampNeg a) :: st) (tv t u g I J P) Q := R_iald (h_X5_fits dX5_fits_42) rfl ht hj
theorem s_X5_fits_43 : Ev sv d (59, 43, [l0, l1, l2, l3, l4, l5, l6, l7, l8, l9, l10], st) M Q ↔ Ev sv d (59, 44, [l0, l1, l2, l3, l4, l5, l6, l7, l8, l9, l10], .int (5 : Int32) :: st) M Q := R_pure (h_X5_fits dX5_fits_43) rfl
theorem s_X5_fits_44 : Ev sv d (59, 44, [l0, l1, l2, l3, l4, l5, l6, l7, l8, l9, l10], .int y :: .int x :: st) M Q ↔ if x = y then Ev sv d (59, 47, [l0, l1, l2, l3, l4, l5, l6, l7, l8, l9, l10], st) M Q else Ev sv d (59, 54, [l0, l1, l2, l3, l4, l5, l6, l7, l8, l9, l10], st) M Q := (R_icmp (h_X5_fits dX5_fits_44) rfl).trans (R_chn jcb_ne)
theorem s_X5_fits_47 : Ev sv d (59, 47, [some (.ref a), l1, l2, l3, l4, l5, l6, l7, l8, l9, l10], st) M Q ↔ Ev sv d (59, 48, [some (.ref a), l1, l2, l3, l4, l5, l6, l7, l8, l9, l10], .ref a :: st) M Q := R_pure (h_X5_fits dX5_fits_47) rfl
theorem s_X5_fits_47n : Ev sv d (59, 47, [some (va_rf r), l1, l2, l3, l4, l5, l6, l7, l8, l9, l10], st) M Q ↔ Ev sv d (59, 48, [some (va_rf r), l1, l2, l3, l4, l5, l6, l7, l8, l9, l10], va_rf r :: st) M Q := by cases r <;> exact R_pure (h_X5_fits dX5_fits_47) rfl
theorem s_X5_fits_47z : Ev sv d (59, 47, [some .null, l1, l2, l3, l4, l5, l6, l7, l8, l9, l10], st) M Q ↔ Ev sv d (59, 48, [some .null, l1, l2, l3, l4, l5, l6, l7, l8, l9, l10], .null :: st) M Q := R_pure (h_X5_fits dX5_fits_47) rfl
theorem s_X5_fits_48 (ht : jt g a = some 7) : Ev sv d (59, 48, [l0, l1, l2, l3, l4, l5, l6, l7, l8, l9, l10], .ref a :: st) (tv t u g I J P) Q ↔ Ev sv d (59, 51, [l0, l1, l2, l3, l4, l5, l6, l7, l8, l9, l10], .int (I 7 3 a) :: st) (tv t u g I J P) Q := R_geti (h_X5_fits dX5_fits_48) rfl rfl ht
theorem s_X5_fits_51 : Ev sv d (59, 51, [l0, l1, l2, l3, l4, l5, l6, l7, l8, l9, l10], st) M Q ↔ Ev sv d (59, 55, [l0, l1, l2, l3, l4, l5, l6, l7, l8, l9, l10], st) M Q := R_goto (h_X5_fits dX5_fits_51) rfl
theorem s_X5_fits_54 : Ev sv d (59, 54, [l0, l1, l2, l3, l4, l5, l6, l7, l8, l9, l10], st) M Q ↔ Ev sv d (59, 55, [l0, l1, l2, l3, l4, l5, l6, l7, l8, l9, l10], .int (0 : Int32) :: st) M Q := R_pure (h_X5_fits dX5_fits_54) rfl
theorem s_X5_fits_55 (hw : jw l4 = true) : Ev sv d (59, 55, [l0, l1, l2, l3, l4, l5, l6, l7, l8, l9, l10], .int x :: st) M Q ↔ Ev sv d (59, 57, [l0, l1, l2, l3, l4, some (.int x), l6, l7, l8, l9, l10], st) M Q := R_st1 (jj := 4) (h_X5_fits dX5_fits_55) rfl rfl hw (by decide : (5 : Nat) < 11)
theorem s_X5_fits_57 : Ev sv d (59, 57, [some (.ref a), l1, l2, l3, l4, l5, l6, l7, l8, l9, l10], st) M Q ↔ Ev sv d (59, 58, [some (.ref a), l1, l2, l3, l4, l5, l6, l7, l8, l9, l10], .ref a :: st) M Q := R_pure (h_X5_fits dX5_fits_57) rfl
theorem s_X5_fits_57n : Ev sv d (59, 57, [some (va_rf r), l1, l2, l3, l4, l5, l6, l7, l8, l9, l10], st) M Q ↔ Ev sv d (59, 58, [some (va_rf r), l1, l2, l3, l4, l5, l6, l7, l8, l9, l10], va_rf r :: st) M Q := by cases r <;> exact R_pure (h_X5_fits dX5_fits_57) rfl
theorem s_X5_fits_57z : Ev sv d (59, 57, [some .null, l1, l2, l3, l4, l5, l6, l7, l8, l9, l10], st) M Q ↔ Ev sv d (59, 58, [some .null, l1, l2, l3, l4, l5, l6, l7, l8, l9, l10], .null :: st) M Q := R_pure (h_X5_fits dX5_fits_57) rfl
theorem s_X5_fits_58 (ht : jt g a = some 7) : Ev sv d (59, 58, [l0, l1, l2, l3, l4, l5, l6, l7, l8, l9, l10], .ref a :: st) (tv t u g I J P) Q ↔ Ev sv d (59, 61, [l0, l1, l2, l3, l4, l5, l6, l7, l8, l9, l10], va_rf (P 7 11 a) :: st) (tv t u g I J P) Q := R_geta (h_X5_fits dX5_fits_58) rfl rfl ht
theorem s_X5_fits_61 : Ev sv d (59, 61, [l0, some (.int x), l2, l3, l4, l5, l6, l7, l8, l9, l10], st) M Q ↔ Ev sv d (59, 62, [l0, some (.int x), l2, l3, l4, l5, l6, l7, l8, l9, l10], .int x :: st) M Q := R_pure (h_X5_fits dX5_fits_61) rfl
theorem s_X5_fits_62 (ht : jt g a = some 68) (hj : jin x (jn g a) = true) : Ev sv d (59, 62, [l0, l1, l2, l3, l4, l5, l6, l7, l8, l9, l10], .int x :: .ref a :: st) (tv t u g I J P) Q ↔ Ev sv d (59, 63, [l0, l1, l2, l3, l4, l5, l6, l7, l8, l9, l10], .int (I 68 x.toNatClampNeg a) :: st) (tv t u g I J P) Q := R_iald (h_X5_fits dX5_fits_62) rfl ht hj
theorem s_X5_fits_63 : Ev sv d (59, 63, [l0, l1, l2, l3, l4, l5, l6, l7, l8, l9, l10], .int x :: st) M Q ↔ if x = 0 then Ev sv d (59, 66, [l0, l1, l2, l3, l4, l5, l6, l7, l8, l9, l10], st) M Q else Ev sv d (59, 78, [l0, l1, l2, l3, l4, l5, l6, l7, l8, l9, l10], st) M Q := (R_if (h_X5_fits dX5_fits_63) rfl).trans (R_chn jcb_ne)
theorem s_X5_fits_66 : Ev sv d (59, 66, [l0, l1, l2, some (.int x), l4, l5, l6, l7, l8, l9, l10], st) M Q ↔ Ev sv d (59, 67, [l0, l1, l2, some (.int x), l4, l5, l6, l7, l8, l9, l10], .int x :: st) M Q := R_pure (h_X5_fits dX5_fits_66) rfl
theorem s_X5_fits_67 : Ev sv d (59, 67, [l0, l1, l2, l3, l4, l5, l6, l7, l8, l9, l10], .int x :: st) M Q ↔ if x = 0 then Ev sv d (59, 70, [l0, l1, l2, l3, l4, l5, l6, l7, l8, l9, l10], st) M Q else Ev sv d (59, 74, [l0, l1, l2, l3, l4, l5, l6, l7, l8, l9, l10], st) M Q := (R_if (h_X5_fits dX5_fits_67) rfl).trans (R_chn jcb_ne)
theorem s_X5_fits_70 : Ev sv d (59, 70, [l0, l1, l2, l3, l4, l5, l6, l7, l8, l9, l10], st) M Q ↔ Ev sv d (59, 71, [l0, l1, l2, l3, l4, l5, l6, l7, l8, l9, l10], .int (1 : Int32) :: st) M Q := R_pure (h_X5_fits dX5_fits_70) rfl
theorem s_X5_fits_71 : Ev sv d (59, 71, [l0, l1, l2, l3, l4, l5, l6, l7, l8, l9, l10], st) M Q ↔ Ev sv d (59, 84, [l0, l1, l2, l3, l4, l5, l6, l7, l8, l9, l10], st) M Q := R_goto (h_X5_fits dX5_fits_71) rfl
theorem s_X5_fits_74 : Ev sv d (59, 74, [l0, l1, l2, l3, l4, l5, l6, l7, l8, l9, l10], st) M Q ↔ Ev sv d (59, 75, [l0, l1, l2, l3, l4, l5, l6, l7, l8, l9, l10], .int (0 : Int32) :: st) M Q := R_pure (h_X5_fits dX5_fits_74) rfl
theorem s_X5_fits_75 : Ev sv d (59, 75, [l0, l1, l2, l3, l4, l5, l6, l7, l8, l9, l10], st) M Q ↔ Ev sv d (59, 84, [l0, l1, l2, l3, l4, l5, l6, l7, l8, l9, l10], st) M Q := R_goto (h_X5_fits dX5_fits_75) rfl
theorem s_X5_fits_78 : Ev sv d (59, 78, [some (.ref a), l1, l2, l3, l4, l5, l6, l7, l8, l9, l10], st) M Q ↔ Ev sv d (59, 79, [some (.ref a), l1, l2, l3, l4, l5, l6, l7, l8, l9, l10], .ref a :: st) M Q := R_pure (h_X5_fits dX5_fits_78) rfl
theorem s_X5_fits_78n : Ev sv d (59, 78, [some (va_rf r), l1, l2, l3, l4, l5, l6, l7, l8, l9, l10], st) M Q ↔ Ev sv d (59, 79, [some (va_rf r), l1, l2, l3, l4, l5, l6, l7, l8, l9, l10], va_rf r :: st) M Q := by cases r <;> exact R_pure (h_X5_fits dX5_fits_78) rfl
theorem s_X5_fits_78z : Ev sv d (59, 78, [some .null, l1, l2, l3, l4, l5, l6, l7, l8, l9, l10], st) M Q ↔ Ev sv d (59, 79, [some .null, l1, l2, l3, l4, l5, l6, l7, l8, l9, l10], .null :: st) M Q := R_pure (h_X5_fits dX5_fits_78) rfl
theorem s_X5_fits_79 (ht : jt g a = some 7) : Ev sv d (59, 79, [l0, l1, l2, l3, l4, l5, l6, l7, l8, l9, l10], .ref a :: st) (tv t u g I J P) Q ↔ Ev sv d (59, 82, [l0, l1, l2, l3, l4, l5, l6, l7, l8, l9, l10], va_rf (P 7 13 a) :: st) (tv t u g I J P) Q := R_geta (h_X5_fits dX5_fits_79) rfl rfl ht
theorem s_X5_fits_82 : Ev sv d (59, 82, [l0, some (.int x), l2, l3, l4, l5, l6, l7, l8, l9, l10], st) M Q ↔ Ev sv d (59, 83, [l0, some (.int x), l2, l3, l4, l5, l6, l7, l8, l9, l10], .int x :: st) M Q := R_pure (h_X5_fits dX5_fits_82) rfl
theorem s_X5_fits_83 (ht : jt g a = some 70) (hj : jin x (jn g a) = true) : Ev sv d (59, 83, [l0, l1, l2, l3, l4, l5, l6, l7, l8, l9, l10], .int x :: .ref a :: st) (tv t u g I J P) Q ↔ Ev sv d (59, 84, [l0, l1, l2, l3, l4, l5, l6, l7, l8, l9, l10], .int (I 70 x.toNatClampNeg a) :: st) (tv t u g I J P) Q := R_zald (h_X5_fits dX5_fits_83) rfl ht hj
theorem s_X5_fits_84 (hw : jw l5 = true) : Ev sv d (59, 84, [l0, l1, l2, l3, l4, l5, l6, l7, l8, l9, l10], .int x :: st) M Q ↔ Ev sv d (59, 86, [l0, l1, l2, l3, l4, l5, some (.int x), l7, l8, l9, l10], st) M Q := R_st1 (jj := 5) (h_X5_fits dX5_fits_84) rfl rfl hw (by decide : (6 : Nat) < 11)
theorem s_X5_fits_86 : Ev sv d (59, 86, [some (.ref a), l1, l2, l3, l4, l5, l6, l7, l8, l9, l10], st) M Q ↔ Ev sv d (59, 87, [some (.ref a), l1, l2, l3, l4, l5, l6, l7, l8, l9, l10], .ref a :: st) M Q := R_pure (h_X5_fits dX5_fits_86) rfl
theorem s_X5_fits_86n : Ev sv d (59, 86, [some (va_rf r), l1, l2, l3, l4, l5, l6, l7, l8, l9, l10], st) M Q ↔ Ev sv d (59, 87, [some (va_rf r), l1, l2, l3, l4, l5, l6, l7, l8, l9, l10], va_rf r :: st) M Q := by cases r <;> exact R_pure (h_X5_fits dX5_fits_86) rfl
theorem s_X5_fits_86z : Ev sv d (59, 86, [some .null, l1, l2, l3, l4, l5, l6, l7, l8, l9, l10], st) M Q ↔ Ev sv d (59, 87, [some .null, l1, l2, l3, l4, l5, l6, l7, l8, l9, l10], .null :: st) M Q := R_pure (h_X5_fits dX5_fits_86) rfl
theorem s_X5_fits_87 (ht : jt g a = some 7) : Ev sv d (59, 87, [l0, l1, l2, l3, l4, l5, l6, l7, l8, l9, l10], .ref a :: st) (tv t u g I J P) Q ↔ Ev sv d (59, 90, [l0, l1, l2, l3, l4, l5, l6, l7, l8, l9, l10], va_rf (P 7 11 a) :: st) (tv t u g I J P) Q := R_geta (h_X5_fits dX5_fits_87) rfl rfl ht
theorem s_X5_fits_90 : Ev sv d (59, 90, [l0, some (.int x), l2, l3, l4, l5, l6, l7, l8, l9, l10], st) M Q ↔ Ev sv d (59, 91, [l0, some (.int x), l2, l3, l4, l5, l6, l7, l8, l9, l10], .int x :: st) M Q := R_pure (h_X5_fits dX5_fits_90) rfl
theorem s_X5_fits_91 (ht : jt g a = some 68) (hj : jin x (jn g a) = true) : Ev sv d (59, 91, [l0, l1, l2, l3, l4, l5, l6, l7, l8, l9, l10], .int x :: .ref a :: st) (tv t u g I J P) Q ↔ Ev sv d (59, 92, [l0, l1, l2, l3, l4, l5, l6, l7, l8, l9, l10], .int (I 68 x.toNatClampNeg a) :: st) (tv t u g I J P) Q := R_iald (h_X5_fits dX5_fits_91) rfl ht hj
theorem s_X5_fits_92 : Ev sv d (59, 92, [l0, l1, l2, l3, l4, l5, l6, l7, l8, l9, l10], .int x :: st) M Q ↔ if x = 0 then Ev sv d (59, 95, [l0, l1, l2, l3, l4, l5, l6, l7, l8, l9, l10], st) M Q else Ev sv d (59, 99, [l0, l1, l2, l3, l4, l5, l6, l7, l8, l9, l10], st) M Q := (R_if (h_X5_fits dX5_fits_92) rfl).trans (R_chn jcb_ne)
theorem s_X5_fits_95 : Ev sv d (59, 95, [l0, l1, some (.int x), l3, l4, l5, l6, l7, l8, l9, l10], st) M Q ↔ Ev sv d (59, 96, [l0, l1, some (.int x), l3, l4, l5, l6, l7, l8, l9, l10], .int x :: st) M Q := R_pure (h_X5_fits dX5_fits_95) rfl
theorem s_X5_fits_96 : Ev sv d (59, 96, [l0, l1, l2, l3, l4, l5, l6, l7, l8, l9, l10], st) M Q ↔ Ev sv d (59, 108, [l0, l1, l2, l3, l4, l5, l6, l7, l8, l9, l10], st) M Q := R_goto (h_X5_fits dX5_fits_96) rfl
theorem s_X5_fits_99 : Ev sv d (59, 99, [some (.ref a), l1, l2, l3, l4, l5, l6, l7, l8, l9, l10], st) M Q ↔ Ev sv d (59, 100, [some (.ref a), l1, l2, l3, l4, l5, l6, l7, l8, l9, l10], .ref a :: st) M Q := R_pure (h_X5_fits dX5_fits_99) rfl
theorem s_X5_fits_99n : Ev sv d (59, 99, [some (va_rf r), l1, l2, l3, l4, l5, l6, l7, l8, l9, l10], st) M Q ↔ Ev sv d (59, 100, [some (va_rf r), l1, l2, l3, l4, l5, l6, l7, l8, l9, l10], va_rf r :: st) M Q := by cases r <;> exact R_pure (h_X5_fits dX5_fits_99) rfl
theorem s_X5_fits_99z : Ev sv d (59, 99, [some .null, l1, l2, l3, l4, l5, l6, l7, l8, l9, l10], st) M Q ↔ Ev sv d (59, 100, [some .null, l1, l2, l3, l4, l5, l6, l7, l8, l9, l10], .null :: st) M Q := R_pure (h_X5_fits dX5_fits_99) rfl
theorem s_X5_fits_100 (ht : jt g a = some 7) : Ev sv d (59, 100, [l0, l1, l2, l3, l4, l5, l6, l7, l8, l9, l10], .ref a :: st) (tv t u g I J P) Q ↔ Ev sv d (59, 103, [l0, l1, l2, l3, l4, l5, l6, l7, l8, l9, l10], va_rf (P 7 12 a) :: st) (tv t u g I J P) Q := R_geta (h_X5_fits dX5_fits_100) rfl rfl ht
theorem s_X5_fits_103 : Ev sv d (59, 103, [l0, l1, l2, l3, l4, l5, l6, l7, l8, l9, l10], st) M Q ↔ Ev sv d (59, 105, [l0, l1, l2, l3, l4, l5, l6, l7, l8, l9, l10], .int (10 : Int32) :: st) M Q := R_pure (h_X5_fits dX5_fits_103) rfl
theorem s_X5_fits_105 : Ev sv d (59, 105, [l0, some (.int x), l2, l3, l4, l5, l6, l7, l8, l9, l10], st) M Q ↔ Ev sv d (59, 106, [l0, some (.int x), l2, l3, l4, l5, l6, l7, l8, l9, l10], .int x :: st) M Q := R_pure (h_X5_fits dX5_fits_105) rfl
theorem s_X5_fits_106 : Ev sv d (59, 106, [l0, l1, l2, l3, l4, l5, l6, l7, l8, l9, l10], .int y :: .int x :: st) M Q ↔ Ev sv d (59, 107, [l0, l1, l2, l3, l4, l5, l6, l7, l8, l9, l10], .int (x * y) :: st) M Q := R_pure (h_X5_fits dX5_fits_106) rfl
theorem s_X5_fits_107 (ht : jt g a = some 69) (hj : jin x (jn g a) = true) : Ev sv d (59, 107, [l0, l1, l2, l3, l4, l5, l6, l7, l8, l9, l10], .int x :: .ref a :: st) (tv t u g I J P) Q ↔ Ev sv d (59, 108, [l0, l1, l2, l3, l4, l5, l6, l7, l8, l9, l10], .int (I 69 x.toNatClampNeg a) :: st) (tv t u g I J P) Q := R_iald (h_X5_fits dX5_fits_107) rfl ht hj
theorem s_X5_fits_108 (hw : jw l6 = true) : Ev sv d (59, 108, [l0, l1, l2, l3, l4, l5, l6, l7, l8, l9, l10], .int x :: st) M Q ↔ Ev sv d (59, 110, [l0, l1, l2, l3, l4, l5, l6, some (.int x), l8, l9, l10], st) M Q := R_st1 (jj := 6) (h_X5_fits dX5_fits_108) rfl rfl hw (by decide : (7 : Nat) < 11)
theorem s_X5_fits_110 : Ev sv d (59, 110, [l0, l1, l2, l3, l4, l5, some (.int x), l7, l8, l9, l10], st) M Q ↔ Ev sv d (59, 112, [l0, l1, l2, l3, l4, l5, some (.int x), l7, l8, l9, l10], .int x :: st) M Q := R_pure (h_X5_fits dX5_fits_110) rfl
theorem s_X5_fits_112 : Ev sv d (59, 112, [l0, l1, l2, l3, l4, l5, l6, l7, l8, l9, l10], .int x :: st) M Q ↔ if x = 0 then Ev sv d (59, 120, [l0, l1, l2, l3, l4, l5, l6, l7, l8, l9, l10], st) M Q else Ev sv d (59, 115, [l0, l1, l2, l3, l4, l5, l6, l7, l8, l9, l10], st) M Q := (R_if (h_X5_fits dX5_fits_112) rfl).trans (R_ch jcb_eq)
theorem s_X5_fits_115 : Ev sv d (59, 115, [l0, l1, l2, l3, l4, l5, l6, some (.int x), l8, l9, l10], st) M Q ↔ Ev sv d (59, 117, [l0, l1, l2, l3, l4, l5, l6, some (.int x), l8, l9, l10], .int x :: st) M Q := R_pure (h_X5_fits dX5_fits_115) rfl
theorem s_X5_fits_117 : Ev sv d (59, 117, [l0, l1, l2, l3, l4, l5, l6, l7, l8, l9, l10], st) M Q ↔ Ev sv d (59, 137, [l0, l1, l2, l3, l4, l5, l6, l7, l8, l9, l10], st) M Q := R_goto (h_X5_fits dX5_fits_117) rfl
theorem s_X5_fits_120 : Ev sv d (59, 120, [l0, l1, l2, l3, some (.int x), l5, l6, l7, l8, l9, l10], st) M Q ↔ Ev sv d (59, 122, [l0, l1, l2, l3, some (.int x), l5, l6, l7, l8, l9, l10], .int x :: st) M Q := R_pure (h_X5_fits dX5_fits_120) rfl
theorem s_X5_fits_122 : Ev sv d (59, 122, [l0, l1, l2, l3, l4, l5, l6, l7, l8, l9, l10], .int x :: st) M Q ↔ if x = 0 then Ev sv d (59, 132, [l0, l1, l2, l3, l4, l5, l6, l7, l8, l9, l10], st) M Q else Ev sv d (59, 125, [l0, l1, l2, l3, l4, l5, l6, l7, l8, l9, l10], st) M Q := (R_if (h_X5_fits dX5_fits_122) rfl).trans (R_ch jcb_eq)
theorem s_X5_fits_125 : Ev sv d (59, 125, [some (.ref a), l1, l2, l3, l4, l5, l6, l7, l8, l9, l10], st) M Q ↔ Ev sv d (59, 126, [some (.ref a), l1, l2, l3, l4, l5, l6, l7, l8, l9, l10], .ref a :: st) M Q := R_pure (h_X5_fits dX5_fits_125) rfl
theorem s_X5_fits_125n : Ev sv d (59, 125, [some (va_rf r), l1, l2, l3, l4, l5, l6, l7, l8, l9, l10], st) M Q ↔ Ev sv d (59, 126, [some (va_rf r), l1, l2, l3, l4, l5, l6, l7, l8, l9, l10], va_rf r :: st) M Q := by cases r <;> exact R_pure (h_X5_fits dX5_fits_125) rfl
theorem s_X5_fits_125z : Ev sv d (59, 125, [some .null, l1, l2, l3, l4, l5, l6, l7, l8, l9, l10], st) M Q ↔ Ev sv d (59, 126, [some .null, l1, l2, l3, l4, l5, l6, l7, l8, l9, l10], .null :: st) M Q := R_pure (h_X5_fits dX5_fits_125) rfl
theorem s_X5_fits_126 (ht : jt g a = some 7) : Ev sv d (59, 126, [l0, l1, l2, l3, l4, l5, l6, l7, l8, l9, l10], .ref a :: st) (tv t u g I J P) Q ↔ Ev sv d (59, 129, [l0, l1, l2, l3, l4, l5, l6, l7, l8, l9, l10], .int (I 7 2 a) :: st) (tv t u g I J P) Q := R_geti (h_X5_fits dX5_fits_126) rfl rfl ht
theorem s_X5_fits_129 : Ev sv d (59, 129, [l0, l1, l2, l3, l4, l5, l6, l7, l8, l9, l10], st) M Q ↔ Ev sv d (59, 137, [l0, l1, l2, l3, l4, l5, l6, l7, l8, l9, l10], st) M Q := R_goto (h_X5_fits dX5_fits_129) rfl
theorem s_X5_fits_132 : Ev sv d (59, 132, [l0, l1, l2, l3, l4, some (.int x), l6, l7, l8, l9, l10], st) M Q ↔ Ev sv d (59, 134, [l0, l1, l2, l3, l4, some (.int x), l6, l7, l8, l9, l10], .int x :: st) M Q := R_pure (h_X5_fits dX5_fits_132) rfl
theorem s_X5_fits_134 : Ev sv d (59, 134, [l0, l1, l2, l3, l4, l5, l6, some (.int x), l8, l9, l10], st) M Q ↔ Ev sv d (59, 136, [l0, l1, l2, l3, l4, l5, l6, some (.int x), l8, l9, l10], .int x :: st) M Q := R_pure (h_X5_fits dX5_fits_134) rfl
theorem s_X5_fits_136 : Ev sv d (59, 136, [l0, l1, l2, l3, l4, l5, l6, l7, l8, l9, l10], .int y :: .int x :: st) M Q ↔ Ev sv d (59, 137, [l0, l1, l2, l3, l4, l5, l6, l7, l8, l9, l10], .int (x + y) :: st) M Q := R_pure (h_X5_fits dX5_fits_136) rfl
theorem s_X5_fits_137 (hw : jw l7 = true) : Ev sv d (59, 137, [l0, l1, l2, l3, l4, l5, l6, l7, l8, l9, l10], .int x :: st) M Q ↔ Ev sv d (59, 139, [l0, l1, l2, l3, l4, l5, l6, l7, some (.int x), l9, l10], st) M Q := R_st1 (jj := 7) (h_X5_fits dX5_fits_137) rfl rfl hw (by decide : (8 : Nat) < 11)
theorem s_X5_fits_139 : Ev sv d (59, 139, [l0, l1, l2, l3, l4, l5, l6, l7, some (.int x), l9, l10], st) M Q ↔ Ev sv d (59, 141, [l0, l1, l2, l3, l4, l5, l6, l7, some (.int x), l9, l10], .int x :: st) M Q := R_pure (h_X5_fits dX5_fits_139) rfl
theorem s_X5_fits_141 (hw : jw l8 = true) : Ev sv d (59, 141, [l0, l1, l2, l3, l4, l5, l6, l7, l8, l9, l10], .int x :: st) M Q ↔ Ev sv d (59, 143, [l0, l1, l2, l3, l4, l5, l6, l7, l8, some (.int x), l10], st) M Q := R_st1 (jj := 8) (h_X5_fits dX5_fits_141) rfl rfl hw (by decide : (9 : Nat) < 11)
theorem s_X5_fits_143 : Ev sv d (59, 143, [l0, l1, l2, l3, l4, l5, l6, l7, l8, l9, l10], st) M Q ↔ Ev sv d (59, 144, [l0, l1, l2, l3, l4, l5, l6, l7, l8, l9, l10], .int (1 : Int32) :: st) M Q := R_pure (h_X5_fits dX5_fits_143) rfl
theorem s_X5_fits_144 (hw : jw l9 = true) : Ev sv d (59, 144, [l0, l1, l2, l3, l4, l5, l6, l7, l8, l9, l10], .int x :: st) M Q ↔ Ev sv d (59, 146, [l0, l1, l2, l3, l4, l5, l6, l7, l8, l9, some (.int x)], st) M Q := R_st1 (jj := 9) (h_X5_fits dX5_fits_144) rfl rfl hw (by decide : (10 : Nat) < 11)
theorem s_X5_fits_146 : Ev sv d (59, 146, [l0, l1, l2, l3, l4, l5, l6, l7, l8, l9, some (.int x)], st) M Q ↔ Ev sv d (59, 148, [l0, l1, l2, l3, l4, l5, l6, l7, l8, l9, some (.int x)], .int x :: st) M Q := R_pure (h_X5_fits dX5_fits_146) rfl
theorem s_X5_fits_148 : Ev sv d (59, 148, [some (.ref a), l1, l2, l3, l4, l5, l6, l7, l8, l9, l10], st) M Q ↔ Ev sv d (59, 149, [some (.ref a), l1, l2, l3, l4, l5, l6, l7, l8, l9, l10], .ref a :: st) M Q := R_pure (h_X5_fits dX5_fits_148) rfl
theorem s_X5_fits_148n : Ev sv d (59, 148, [some (va_rf r), l1, l2, l3, l4, l5, l6, l7, l8, l9, l10], st) M Q ↔ Ev sv d (59, 149, [some (va_rf r), l1, l2, l3, l4, l5, l6, l7, l8, l9, l10], va_rf r :: st) M Q := by cases r <;> exact R_pure (h_X5_fits dX5_fits_148) rfl
theorem s_X5_fits_148z : Ev sv d (59, 148, [some .null, l1, l2, l3, l4, l5, l6, l7, l8, l9, l10], st) M Q ↔ Ev sv d (59, 149, [some .null, l1, l2, l3, l4, l5, l6, l7, l8, l9, l10], .null :: st) M Q := R_pure (h_X5_fits dX5_fits_148) rfl
theorem s_X5_fits_149 (ht : jt g a = some 7) : Ev sv d (59, 149, [l0, l1, l2, l3, l4, l5, l6, l7, l8, l9, l10], .ref a :: st) (tv t u g I J P) Q ↔ Ev sv d (59, 152, [l0, l1, l2, l3, l4, l5, l6, l7, l8, l9, l10], va_rf (P 7 11 a) :: st) (tv t u g I J P) Q := R_geta (h_X5_fits dX5_fits_149) rfl rfl ht
theorem s_X5_fits_152 : Ev sv d (59, 152, [l0, some (.int x), l2, l3, l4, l5, l6, l7, l8, l9, l10], st) M Q ↔ Ev sv d (59, 153, [l0, some (.int x), l2, l3, l4, l5, l6, l7, l8, l9, l10], .int x :: st) M Q := R_pure (h_X5_fits dX5_fits_152) rfl
theorem s_X5_fits_153 (ht : jt g a = some 68) (hj : jin x (jn g a) = true) : Ev sv d (59, 153, [l0, l1, l2, l3, l4, l5, l6, l7, l8, l9, l10], .int x :: .ref a :: st) (tv t u g I J P) Q ↔ Ev sv d (59, 154, [l0, l1, l2, l3, l4, l5, l6, l7, l8, l9, l10], .int (I 68 x.toNatClampNeg a) :: st) (tv t u g I J P) Q := R_iald (h_X5_fits dX5_fits_153) rfl ht hj
theorem s_X5_fits_154 : Ev sv d (59, 154, [l0, l1, l2, l3, l4, l5, l6, l7, l8, l9, l10], .int y :: .int x :: st) M Q ↔ if x < y then Ev sv d (59, 157, [l0, l1, l2, l3, l4, l5, l6, l7, l8, l9, l10], st) M Q else Ev sv d (59, 180, [l0, l1, l2, l3, l4, l5, l6, l7, l8, l9, l10], st) M Q := (R_icmp (h_X5_fits dX5_fits_154) rfl).trans (R_chn jcb_ge)
theorem s_X5_fits_157 : Ev sv d (59, 157, [l0, l1, l2, l3, l4, l5, l6, l7, l8, some (.int x), l10], st) M Q ↔ Ev sv d (59, 159, [l0, l1, l2, l3, l4, l5, l6, l7, l8, some (.int x), l10], .int x :: st) M Q := R_pure (h_X5_fits dX5_fits_157) rfl
theorem s_X5_fits_159 : Ev sv d (59, 159, [some (.ref a), l1, l2, l3, l4, l5, l6, l7, l8, l9, l10], st) M Q ↔ Ev sv d (59, 160, [some (.ref a), l1, l2, l3, l4, l5, l6, l7, l8, l9, l10], .ref a :: st) M Q := R_pure (h_X5_fits dX5_fits_159) rfl
theorem s_X5_fits_159n : Ev sv d (59, 159, [some (va_rf r), l1, l2, l3, l4, l5, l6, l7, l8, l9, l10], st) M Q ↔ Ev sv d (59, 160, [some (va_rf r), l1, l2, l3, l4, l5, l6, l7, l8, l9, l10], va_rf r :: st) M Q := by cases r <;> exact R_pure (h_X5_fits dX5_fits_159) rfl
theorem s_X5_fits_159z : Ev sv d (59, 159, [some .null, l1, l2, l3, l4, l5, l6, l7, l8, l9, l10], st) M Q ↔ Ev sv d (59, 160, [some .null, l1, l2, l3, l4, l5, l6, l7, l8, l9, l10], .null :: st) M Q := R_pure (h_X5_fits dX5_fits_159) rfl
theorem s_X5_fits_160 (ht : jt g a = some 7) : Ev sv d (59, 160, [l0, l1, l2, l3, l4, l5, l6, l7, l8, l9, l10], .ref a :: st) (tv t u g I J P) Q ↔ Ev sv d (59, 163, [l0, l1, l2, l3, l4, l5, l6, l7, l8, l9, l10], va_rf (P 7 12 a) :: st) (tv t u g I J P) Q := R_geta (h_X5_fits dX5_fits_160) rfl rfl ht
theorem s_X5_fits_163 : Ev sv d (59, 163, [l0, l1, l2, l3, l4, l5, l6, l7, l8, l9, l10], st) M Q ↔ Ev sv d (59, 165, [l0, l1, l2, l3, l4, l5, l6, l7, l8, l9, l10], .int (10 : Int32) :: st) M Q := R_pure (h_X5_fits dX5_fits_163) rfl
theorem s_X5_fits_165 : Ev sv d (59, 165, [l0, some (.int x), l2, l3, l4, l5, l6, l7, l8, l9, l10], st) M Q ↔ Ev sv d (59, 166, [l0, some (.int x), l2, l3, l4, l5, l6, l7, l8, l9, l10], .int x :: st) M Q := R_pure (h_X5_fits dX5_fits_165) rfl
theorem s_X5_fits_166 : Ev sv d (59, 166, [l0, l1, l2, l3, l4, l5, l6, l7, l8, l9, l10], .int y :: .int x :: st) M Q ↔ Ev sv d (59, 167, [l0, l1, l2, l3, l4, l5, l6, l7, l8, l9, l10], .int (x * y) :: st) M Q := R_pure (h_X5_fits dX5_fits_166) rfl
theorem s_X5_fits_167 : Ev sv d (59, 167, [l0, l1, l2, l3, l4, l5, l6, l7, l8, l9, some (.int x)], st) M Q ↔ Ev sv d (59, 169, [l0, l1, l2, l3, l4, l5, l6, l7, l8, l9, some (.int x)], .int x :: st) M Q := R_pure (h_X5_fits dX5_fits_167) rfl
theorem s_X5_fits_169 : Ev sv d (59, 169, [l0, l1, l2, l3, l4, l5, l6, l7, l8, l9, l10], .int y :: .int x :: st) M Q ↔ Ev sv d (59, 170, [l0, l1, l2, l3, l4, l5, l6, l7, l8, l9, l10], .int (x + y) :: st) M Q := R_pure (h_X5_fits dX5_fits_169) rfl
theorem s_X5_fits_170 (ht : jt g a = some 69) (hj : jin x (jn g a) = true) : Ev sv d (59, 170, [l0, l1, l2, l3, l4, l5, l6, l7, l8, l9, l10], .int x :: .ref a :: st) (tv t u g I J P) Q ↔ Ev sv d (59, 171, [l0, l1, l2, l3, l4, l5, l6, l7, l8, l9, l10], .int (I 69 x.toNatClampNeg a) :: st) (tv t u g I J P) Q := R_iald (h_X5_fits dX5_fits_170) rfl ht hj
theorem s_X5_fits_171 : Ev sv d (59, 171, [l0, l1, l2, l3, l4, l5, l6, l7, l8, l9, l10], .int y :: .int x :: st) M Q ↔ Ev sv d (59, 172, [l0, l1, l2, l3, l4, l5, l6, l7, l8, l9, l10], .int (x + y) :: st) M Q := R_pure (h_X5_fits dX5_fits_171) rfl
theorem s_X5_fits_172 (hw : jw l8 = true) : Ev sv d (59, 172, [l0, l1, l2, l3, l4, l5, l6, l7, l8, l9, l10], .int x :: st) M Q ↔ Ev sv d (59, 174, [l0, l1, l2, l3, l4, l5, l6, l7, l8, some (.int x), l10], st) M Q := R_st1 (jj := 8) (h_X5_fits dX5_fits_172) rfl rfl hw (by decide : (9 : Nat) < 11)
theorem s_X5_fits_174 (hw : jw l9 = true) : Ev sv d (59, 174, [l0, l1, l2, l3, l4, l5, l6, l7, l8, l9, some (.int x)], st) M Q ↔ Ev sv d (59, 177, [l0, l1, l2, l3, l4, l5, l6, l7, l8, l9, some (.int (x + (1 : Int32)))], st) M Q := R_st1 (jj := 9) (v := .int (x + (1 : Int32))) (h_X5_fits dX5_fits_174) rfl rfl hw (by decide : (10 : Nat) < 11)
theorem s_X5_fits_177 : Ev sv d (59, 177, [l0, l1, l2, l3, l4, l5, l6, l7, l8, l9, l10], st) M Q ↔ Ev sv d (59, 146, [l0, l1, l2, l3, l4, l5, l6, l7, l8, l9, l10], st) M Q := R_goto (h_X5_fits dX5_fits_177) rfl
theorem s_X5_fits_180 : Ev sv d (59, 180, [l0, l1, l2, l3, l4, l5, l6, l7, l8, some (.int x), l10], st) M Q ↔ Ev sv d (59, 182, [l0, l1, l2, l3, l4, l5, l6, l7, l8, some (.int x), l10], .int x :: st) M Q := R_pure (h_X5_fits dX5_fits_180) rfl
theorem s_X5_fits_182 : Ev sv d (59, 182, [some (.ref a), l1, l2, l3, l4, l5, l6, l7, l8, l9, l10], st) M Q ↔ Ev sv d (59, 183, [some (.ref a), l1, l2, l3, l4, l5, l6, l7, l8, l9, l10], .ref a :: st) M Q := R_pure (h_X5_fits dX5_fits_182) rfl
theorem s_X5_fits_182n : Ev sv d (59, 182, [some (va_rf r), l1, l2, l3, l4, l5, l6, l7, l8, l9, l10], st) M Q ↔ Ev sv d (59, 183, [some (va_rf r), l1, l2, l3, l4, l5, l6, l7, l8, l9, l10], va_rf r :: st) M Q := by cases r <;> exact R_pure (h_X5_fits dX5_fits_182) rfl
theorem s_X5_fits_182z : Ev sv d (59, 182, [some .null, l1, l2, l3, l4, l5, l6, l7, l8, l9, l10], st) M Q ↔ Ev sv d (59, 183, [some .null, l1, l2, l3, l4, l5, l6, l7, l8, l9, l10], .null :: st) M Q := R_pure (h_X5_fits dX5_fits_182) rfl
theorem s_X5_fits_183 (ht : jt g a = some 7) : Ev sv d (59, 183, [l0, l1, l2, l3, l4, l5, l6, l7, l8, l9, l10], .ref a :: st) (tv t u g I J P) Q ↔ Ev sv d (59, 186, [l0, l1, l2, l3, l4, l5, l6, l7, l8, l9, l10], va_rf (P 7 11 a) :: st) (tv t u g I J P) Q := R_geta (h_X5_fits dX5_fits_183) rfl rfl ht
theorem s_X5_fits_186 : Ev sv d (59, 186, [l0, some (.int x), l2, l3, l4, l5, l6, l7, l8, l9, l10], st) M Q ↔ Ev sv d (59, 187, [l0, some (.int x), l2, l3, l4, l5, l6, l7, l8, l9, l10], .int x :: st) M Q := R_pure (h_X5_fits dX5_fits_186) rfl
theorem s_X5_fits_187 (ht : jt g a = some 68) (hj : jin x (jn g a) = true) : Ev sv d (59, 187, [l0, l1, l2, l3, l4, l5, l6, l7, l8, l9, l10], .int x :: .ref a :: st) (tv t u g I J P) Q ↔ Ev sv d (59, 188, [l0, l1, l2, l3, l4, l5, l6, l7, l8, l9, l10], .int (I 68 x.toNatClampNeg a) :: st) (tv t u g I J P) Q := R_iald (h_X5_fits dX5_fits_187) rfl ht hj
theorem s_X5_fits_188 : Ev sv d (59, 188, [l0, l1, l2, l3, l4, l5, l6, l7, l8, l9, l10], .int x :: st) M Q ↔ if 0 < x then Ev sv d (59, 191, [l0, l1, l2, l3, l4, l5, l6, l7, l8, l9, l10], st) M Q else Ev sv d (59, 195, [l0, l1, l2, l3, l4, l5, l6, l7, l8, l9, l10], st) M Q := (R_if (h_X5_fits dX5_fits_188) rfl).trans (R_chn jcb_le)
theorem s_X5_fits_191 : Ev sv d (59, 191, [l0, l1, some (.int x), l3, l4, l5, l6, l7, l8, l9, l10], st) M Q ↔ Ev sv d (59, 192, [l0, l1, some (.int x), l3, l4, l5, l6, l7, l8, l9, l10], .int x :: st) M Q := R_pure (h_X5_fits dX5_fits_191) rfl
theorem s_X5_fits_192 : Ev sv d (59, 192, [l0, l1, l2, l3, l4, l5, l6, l7, l8, l9, l10], st) M Q ↔ Ev sv d (59, 196, [l0, l1, l2, l3, l4, l5, l6, l7, l8, l9, l10], st) M Q := R_goto (h_X5_fits dX5_fits_192) rfl
theorem s_X5_fits_195 : Ev sv d (59, 195, [l0, l1, l2, l3, l4, l5, l6, l7, l8, l9, l10], st) M Q ↔ Ev sv d (59, 196, [l0, l1, l2, l3, l4, l5, l6, l7, l8, l9, l10], .int (0 : Int32) :: st) M Q := R_pure (h_X5_fits dX5_fits_195) rfl
theorem s_X5_fits_196 : Ev sv d (59, 196, [l0, l1, l2, l3, l4, l5, l6, l7, l8, l9, l10], .int y :: .int x :: st) M Q ↔ Ev sv d (59, 197, [l0, l1, l2, l3, l4, l5, l6, l7, l8, l9, l10], .int (x + y) :: st) M Q := R_pure (h_X5_fits dX5_fits_196) rfl
theorem s_X5_fits_197 (hw : jw l8 = true) : Ev sv d (59, 197, [l0, l1, l2, l3, l4, l5, l6, l7, l8, l9, l10], .int x :: st) M Q ↔ Ev sv d (59, 199, [l0, l1, l2, l3, l4, l5, l6, l7, l8, some (.int x), l10], st) M Q := R_st1 (jj := 8) (h_X5_fits dX5_fits_197) rfl rfl hw (by decide : (9 : Nat) < 11)
theorem s_X5_fits_199 : Ev sv d (59, 199, [some (.ref a), l1, l2, l3, l4, l5, l6, l7, l8, l9, l10], st) M Q ↔ Ev sv d (59, 200, [some (.ref a), l1, l2, l3, l4, l5, l6, l7, l8, l9, l10], .ref a :: st) M Q := R_pure (h_X5_fits dX5_fits_199) rfl
theorem s_X5_fits_199n : Ev sv d (59, 199, [some (va_rf r), l1, l2, l3, l4, l5, l6, l7, l8, l9, l10], st) M Q ↔ Ev sv d (59, 200, [some (va_rf r), l1, l2, l3, l4, l5, l6, l7, l8, l9, l10], va_rf r :: st) M Q := by cases r <;> exact R_pure (h_X5_fits dX5_fits_199) rfl
theorem s_X5_fits_199z : Ev sv d (59, 199, [some .null, l1, l2, l3, l4, l5, l6, l7, l8, l9, l10], st) M Q ↔ Ev sv d (59, 200, [some .null, l1, l2, l3, l4, l5, l6, l7, l8, l9, l10], .null :: st) M Q := R_pure (h_X5_fits dX5_fits_199) rfl
theorem s_X5_fits_200 (ht : jt g a = some 7) : Ev sv d (59, 200, [l0, l1, l2, l3, l4, l5, l6, l7, l8, l9, l10], .ref a :: st) (tv t u g I J P) Q ↔ Ev sv d (59, 203, [l0, l1, l2, l3, l4, l5, l6, l7, l8, l9, l10], va_rf (P 7 9 a) :: st) (tv t u g I J P) Q := R_geta (h_X5_fits dX5_fits_200) rfl rfl ht
theorem s_X5_fits_203 : Ev sv d (59, 203, [l0, some (.int x), l2, l3, l4, l5, l6, l7, l8, l9, l10], st) M Q ↔ Ev sv d (59, 204, [l0, some (.int x), l2, l3, l4, l5, l6, l7, l8, l9, l10], .int x :: st) M Q := R_pure (h_X5_fits dX5_fits_203) rfl
theorem s_X5_fits_204 (ht : jt g a = some 66) (hj : jin x (jn g a) = true) : Ev sv d (59, 204, [l0, l1, l2, l3, l4, l5, l6, l7, l8, l9, l10], .int x :: .ref a :: st) (tv t u g I J P) Q ↔ Ev sv d (59, 205, [l0, l1, l2, l3, l4, l5, l6, l7, l8, l9, l10], .int (I 66 x.toNatClampNeg a) :: st) (tv t u g I J P) Q := R_iald (h_X5_fits dX5_fits_204) rfl ht hj
theorem s_X5_fits_205 : Ev sv d (59, 205, [l0, l1, l2, l3, l4, l5, l6, l7, l8, l9, l10], .int x :: st) M Q ↔ if x = 0 then Ev sv d (59, 218, [l0, l1, l2, l3, l4, l5, l6, l7, l8, l9, l10], st) M Q else Ev sv d (59, 208, [l0, l1, l2, l3, l4, l5, l6, l7, l8, l9, l10], st) M Q := (R_if (h_X5_fits dX5_fits_205) rfl).trans (R_ch jcb_eq)
theorem s_X5_fits_208 : Ev sv d (59, 208, [some (.ref a), l1, l2, l3, l4, l5, l6, l7, l8, l9, l10], st) M Q ↔ Ev sv d (59, 209, [some (.ref a), l1, l2, l3, l4, l5, l6, l7, l8, l9, l10], .ref a :: st) M Q := R_pure (h_X5_fits dX5_fits_208) rfl
theorem s_X5_fits_208n : Ev sv d (59, 208, [some (va_rf r), l1, l2, l3, l4, l5, l6, l7, l8, l9, l10], st) M Q ↔ Ev sv d (59, 209, [some (va_rf r), l1, l2, l3, l4, l5, l6, l7, l8, l9, l10], va_rf r :: st) M Q := by cases r <;> exact R_pure (h_X5_fits dX5_fits_208) rfl
theorem s_X5_fits_208z : Ev sv d (59, 208, [some .null, l1, l2, l3, l4, l5, l6, l7, l8, l9, l10], st) M Q ↔ Ev sv d (59, 209, [some .null, l1, l2, l3, l4, l5, l6, l7, l8, l9, l10], .null :: st) M Q := R_pure (h_X5_fits dX5_fits_208) rfl
theorem s_X5_fits_209 (ht : jt g a = some 7) : Ev sv d (59, 209, [l0, l1, l2, l3, l4, l5, l6, l7, l8, l9, l10], .ref a :: st) (tv t u g I J P) Q ↔ Ev sv d (59, 212, [l0, l1, l2, l3, l4, l5, l6, l7, l8, l9, l10], va_rf (P 7 9 a) :: st) (tv t u g I J P) Q := R_geta (h_X5_fits dX5_fits_209) rfl rfl ht
theorem s_X5_fits_212 : Ev sv d (59, 212, [l0, some (.int x), l2, l3, l4, l5, l6, l7, l8, l9, l10], st) M Q ↔ Ev sv d (59, 213, [l0, some (.int x), l2, l3, l4, l5, l6, l7, l8, l9, l10], .int x :: st) M Q := R_pure (h_X5_fits dX5_fits_212) rfl
theorem s_X5_fits_213 (ht : jt g a = some 66) (hj : jin x (jn g a) = true) : Ev sv d (59, 213, [l0, l1, l2, l3, l4, l5, l6, l7, l8, l9, l10], .int x :: .ref a :: st) (tv t u g I J P) Q ↔ Ev sv d (59, 214, [l0, l1, l2, l3, l4, l5, l6, l7, l8, l9, l10], .int (I 66 x.toNatClampNeg a) :: st) (tv t u g I J P) Q := R_iald (h_X5_fits dX5_fits_213) rfl ht hj
theorem s_X5_fits_214 : Ev sv d (59, 214, [l0, l1, l2, l3, l4, l5, l6, l7, l8, l9, l10], st) M Q ↔ Ev sv d (59, 215, [l0, l1, l2, l3, l4, l5, l6, l7, l8, l9, l10], .int (1 : Int32) :: st) M Q := R_pure (h_X5_fits dX5_fits_214) rfl
theorem s_X5_fits_215 : Ev sv d (59, 215, [l0, l1, l2, l3, l4, l5, l6, l7, l8, l9, l10], .int y :: .int x :: st) M Q ↔ if x = y then Ev sv d (59, 218, [l0, l1, l2, l3, l4, l5, l6, l7, l8, l9, l10], st) M Q else Ev sv d (59, 233, [l0, l1, l2, l3, l4, l5, l6, l7, l8, l9, l10], st) M Q := (R_icmp (h_X5_fits dX5_fits_215) rfl).trans (R_chn jcb_ne)
theorem s_X5_fits_218 : Ev sv d (59, 218, [l0, l1, l2, l3, l4, l5, l6, l7, l8, some (.int x), l10], st) M Q ↔ Ev sv d (59, 220, [l0, l1, l2, l3, l4, l5, l6, l7, l8, some (.int x), l10], .int x :: st) M Q := R_pure (h_X5_fits dX5_fits_218) rfl
theorem s_X5_fits_220 : Ev sv d (59, 220, [some (.ref a), l1, l2, l3, l4, l5, l6, l7, l8, l9, l10], st) M Q ↔ Ev sv d (59, 221, [some (.ref a), l1, l2, l3, l4, l5, l6, l7, l8, l9, l10], .ref a :: st) M Q := R_pure (h_X5_fits dX5_fits_220) rfl
theorem s_X5_fits_220n : Ev sv d (59, 220, [some (va_rf r), l1, l2, l3, l4, l5, l6, l7, l8, l9, l10], st) M Q ↔ Ev sv d (59, 221, [some (va_rf r), l1, l2, l3, l4, l5, l6, l7, l8, l9, l10], va_rf r :: st) M Q := by cases r <;> exact R_pure (h_X5_fits dX5_fits_220) rfl
theorem s_X5_fits_220z : Ev sv d (59, 220, [some .null, l1, l2, l3, l4, l5, l6, l7, l8, l9, l10], st) M Q ↔ Ev sv d (59, 221, [some .null, l1, l2, l3, l4, l5, l6, l7, l8, l9, l10], .null :: st) M Q := R_pure (h_X5_fits dX5_fits_220) rfl
theorem s_X5_fits_221 (ht : jt g a = some 7) : Ev sv d (59, 221, [l0, l1, l2, l3, l4, l5, l6, l7, l8, l9, l10], .ref a :: st) (tv t u g I J P) Q ↔ Ev sv d (59, 224, [l0, l1, l2, l3, l4, l5, l6, l7, l8, l9, l10], .int (I 7 2 a) :: st) (tv t u g I J P) Q := R_geti (h_X5_fits dX5_fits_221) rfl rfl ht
theorem s_X5_fits_224 : Ev sv d (59, 224, [l0, l1, l2, l3, l4, l5, l6, l7, l8, l9, l10], .int y :: .int x :: st) M Q ↔ if x < y then Ev sv d (59, 227, [l0, l1, l2, l3, l4, l5, l6, l7, l8, l9, l10], st) M Q else Ev sv d (59, 231, [l0, l1, l2, l3, l4, l5, l6, l7, l8, l9, l10], st) M Q := (R_icmp (h_X5_fits dX5_fits_224) rfl).trans (R_chn jcb_ge)
theorem s_X5_fits_227 : Ev sv d (59, 227, [l0, l1, l2, l3, l4, l5, l6, l7, l8, l9, l10], st) M Q ↔ Ev sv d (59, 228, [l0, l1, l2, l3, l4, l5, l6, l7, l8, l9, l10], .int (1 : Int32) :: st) M Q := R_pure (h_X5_fits dX5_fits_227) rfl
theorem s_X5_fits_228 : Ev sv d (59, 228, [l0, l1, l2, l3, l4, l5, l6, l7, l8, l9, l10], st) M Q ↔ Ev sv d (59, 232, [l0, l1, l2, l3, l4, l5, l6, l7, l8, l9, l10], st) M Q := R_goto (h_X5_fits dX5_fits_228) rfl
theorem s_X5_fits_231 : Ev sv d (59, 231, [l0, l1, l2, l3, l4, l5, l6, l7, l8, l9, l10], st) M Q ↔ Ev sv d (59, 232, [l0, l1, l2, l3, l4, l5, l6, l7, l8, l9, l10], .int (0 : Int32) :: st) M Q := R_pure (h_X5_fits dX5_fits_231) rfl
theorem s_X5_fits_232 (hx : bz x) : Ev sv d (59, 232, [l0, l1, l2, l3, l4, l5, l6, l7, l8, l9, l10], [.int x]) M Q ↔ Q (some (.int x)) M := R_zret (h_X5_fits dX5_fits_232) rfl hx
theorem s_X5_fits_233 : Ev sv d (59, 233, [l0, l1, l2, l3, some (.int x), l5, l6, l7, l8, l9, l10], st) M Q ↔ Ev sv d (59, 235, [l0, l1, l2, l3, some (.int x), l5, l6, l7, l8, l9, l10], .int x :: st) M Q := R_pure (h_X5_fits dX5_fits_233) rfl
theorem s_X5_fits_235 : Ev sv d (59, 235, [l0, l1, l2, l3, l4, l5, l6, l7, l8, l9, l10], .int x :: st) M Q ↔ if x = 0 then Ev sv d (59, 262, [l0, l1, l2, l3, l4, l5, l6, l7, l8, l9, l10], st) M Q else Ev sv d (59, 238, [l0, l1, l2, l3, l4, l5, l6, l7, l8, l9, l10], st) M Q := (R_if (h_X5_fits dX5_fits_235) rfl).trans (R_ch jcb_eq)
theorem s_X5_fits_238 : Ev sv d (59, 238, [l0, l1, l2, l3, l4, l5, l6, l7, some (.int x), l9, l10], st) M Q ↔ Ev sv d (59, 240, [l0, l1, l2, l3, l4, l5, l6, l7, some (.int x), l9, l10], .int x :: st) M Q := R_pure (h_X5_fits dX5_fits_238) rfl
theorem s_X5_fits_240 : Ev sv d (59, 240, [some (.ref a), l1, l2, l3, l4, l5, l6, l7, l8, l9, l10], st) M Q ↔ Ev sv d (59, 241, [some (.ref a), l1, l2, l3, l4, l5, l6, l7, l8, l9, l10], .ref a :: st) M Q := R_pure (h_X5_fits dX5_fits_240) rfl
theorem s_X5_fits_240n : Ev sv d (59, 240, [some (va_rf r), l1, l2, l3, l4, l5, l6, l7, l8, l9, l10], st) M Q ↔ Ev sv d (59, 241, [some (va_rf r), l1, l2, l3, l4, l5, l6, l7, l8, l9, l10], va_rf r :: st) M Q := by cases r <;> exact R_pure (h_X5_fits dX5_fits_240) rfl
theorem s_X5_fits_240z : Ev sv d (59, 240, [some .null, l1, l2, l3, l4, l5, l6, l7, l8, l9, l10], st) M Q ↔ Ev sv d (59, 241, [some .null, l1, l2, l3, l4, l5, l6, l7, l8, l9, l10], .null :: st) M Q := R_pure (h_X5_fits dX5_fits_240) rfl
theorem s_X5_fits_241 (ht : jt g a = some 7) : Ev sv d (59, 241, [l0, l1, l2, l3, l4, l5, l6, l7, l8, l9, l10], .ref a :: st) (tv t u g I J P) Q ↔ Ev sv d (59, 244, [l0, l1, l2, l3, l4, l5, l6, l7, l8, l9, l10], .int (I 7 2 a) :: st) (tv t u g I J P) Q := R_geti (h_X5_fits dX5_fits_241) rfl rfl ht
theorem s_X5_fits_244 : Ev sv d (59, 244, [l0, l1, l2, l3, l4, l5, l6, l7, l8, l9, l10], .int y :: .int x :: st) M Q ↔ if x < y then Ev sv d (59, 260, [l0, l1, l2, l3, l4, l5, l6, l7, l8, l9, l10], st) M Q else Ev sv d (59, 247, [l0, l1, l2, l3, l4, l5, l6, l7, l8, l9, l10], st) M Q := (R_icmp (h_X5_fits dX5_fits_244) rfl).trans (R_ch jcb_lt)
theorem s_X5_fits_247 : Ev sv d (59, 247, [l0, l1, l2, l3, l4, l5, l6, l7, l8, some (.int x), l10], st) M Q ↔ Ev sv d (59, 249, [l0, l1, l2, l3, l4, l5, l6, l7, l8, some (.int x), l10], .int x :: st) M Q := R_pure (h_X5_fits dX5_fits_247) rfl
theorem s_X5_fits_249 : Ev sv d (59, 249, [some (.ref a), l1, l2, l3, l4, l5, l6, l7, l8, l9, l10], st) M Q ↔ Ev sv d (59, 250, [some (.ref a), l1, l2, l3, l4, l5, l6, l7, l8, l9, l10], .ref a :: st) M Q := R_pure (h_X5_fits dX5_fits_249) rfl
theorem s_X5_fits_249n : Ev sv d (59, 249, [some (va_rf r), l1, l2, l3, l4, l5, l6, l7, l8, l9, l10], st) M Q ↔ Ev sv d (59, 250, [some (va_rf r), l1, l2, l3, l4, l5, l6, l7, l8, l9, l10], va_rf r :: st) M Q := by cases r <;> exact R_pure (h_X5_fits dX5_fits_249) rfl
theorem s_X5_fits_249z : Ev sv d (59, 249, [some .null, l1, l2, l3, l4, l5, l6, l7, l8, l9, l10], st) M Q ↔ Ev sv d (59, 250, [some .null, l1, l2, l3, l4, l5, l6, l7, l8, l9, l10], .null :: st) M Q := R_pure (h_X5_fits dX5_fits_249) rfl
theorem s_X5_fits_250 (ht : jt g a = some 7) : Ev sv d (59, 250, [l0, l1, l2, l3, l4, l5, l6, l7, l8, l9, l10], .ref a :: st) (tv t u g I J P) Q ↔ Ev sv d (59, 253, [l0, l1, l2, l3, l4, l5, l6, l7, l8, l9, l10], .int (I 7 3 a) :: st) (tv t u g I J P) Q := R_geti (h_X5_fits dX5_fits_250) rfl rfl ht
theorem s_X5_fits_253 : Ev sv d (59, 253, [l0, l1, l2, l3, l4, l5, l6, l7, l8, l9, l10], .int y :: .int x :: st) M Q ↔ if y < x then Ev sv d (59, 260, [l0, l1, l2, l3, l4, l5, l6, l7, l8, l9, l10], st) M Q else Ev sv d (59, 256, [l0, l1, l2, l3, l4, l5, l6, l7, l8, l9, l10], st) M Q := (R_icmp (h_X5_fits dX5_fits_253) rfl).trans (R_ch jcb_gt)
theorem s_X5_fits_256 : Ev sv d (59, 256, [l0, l1, l2, l3, l4, l5, l6, l7, l8, l9, l10], st) M Q ↔ Ev sv d (59, 257, [l0, l1, l2, l3, l4, l5, l6, l7, l8, l9, l10], .int (1 : Int32) :: st) M Q := R_pure (h_X5_fits dX5_fits_256) rfl
theorem s_X5_fits_257 : Ev sv d (59, 257, [l0, l1, l2, l3, l4, l5, l6, l7, l8, l9, l10], st) M Q ↔ Ev sv d (59, 261, [l0, l1, l2, l3, l4, l5, l6, l7, l8, l9, l10], st) M Q := R_goto (h_X5_fits dX5_fits_257) rfl
theorem s_X5_fits_260 : Ev sv d (59, 260, [l0, l1, l2, l3, l4, l5, l6, l7, l8, l9, l10], st) M Q ↔ Ev sv d (59, 261, [l0, l1, l2, l3, l4, l5, l6, l7, l8, l9, l10], .int (0 : Int32) :: st) M Q := R_pure (h_X5_fits dX5_fits_260) rfl
theorem s_X5_fits_261 (hx : bz x) : Ev sv d (59, 261, [l0, l1, l2, l3, l4, l5, l6, l7, l8, l9, l10], [.int x]) M Q ↔ Q (some (.int x)) M := R_zret (h_X5_fits dX5_fits_261) rfl hx
theorem s_X5_fits_262 : Ev sv d (59, 262, [some (.ref a), l1, l2, l3, l4, l5, l6, l7, l8, l9, l10], st) M Q ↔ Ev sv d (59, 263, [some (.ref a), l1, l2, l3, l4, l5, l6, l7, l8, l9, l10], .ref a :: st) M Q := R_pure (h_X5_fits dX5_fits_262) rfl
theorem s_X5_fits_262n : Ev sv d (59, 262, [some (va_rf r), l1, l2, l3, l4, l5, l6, l7, l8, l9, l10], st) M Q ↔ Ev sv d (59, 263, [some (va_rf r), l1, l2, l3, l4, l5, l6, l7, l8, l9, l10], va_rf r :: st) M Q := by cases r <;> exact R_pure (h_X5_fits dX5_fits_262) rfl
theorem s_X5_fits_262z : Ev sv d (59, 262, [some .null, l1, l2, l3, l4, l5, l6, l7, l8, l9, l10], st) M Q ↔ Ev sv d (59, 263, [some .null, l1, l2, l3, l4, l5, l6, l7, l8, l9, l10], .null :: st) M Q := R_pure (h_X5_fits dX5_fits_262) rfl
theorem s_X5_fits_263 (ht : jt g a = some 7) : Ev sv d (59, 263, [l0, l1, l2, l3, l4, l5, l6, l7, l8, l9, l10], .ref a :: st) (tv t u g I J P) Q ↔ Ev sv d (59, 266, [l0, l1, l2, l3, l4, l5, l6, l7, l8, l9, l10], va_rf (P 7 9 a) :: st) (tv t u g I J P) Q := R_geta (h_X5_fits dX5_fits_263) rfl rfl ht
theorem s_X5_fits_266 : Ev sv d (59, 266, [l0, some (.int x), l2, l3, l4, l5, l6, l7, l8, l9, l10], st) M Q ↔ Ev sv d (59, 267, [l0, some (.int x), l2, l3, l4, l5, l6, l7, l8, l9, l10], .int x :: st) M Q := R_pure (h_X5_fits dX5_fits_266) rfl
theorem s_X5_fits_267 (ht : jt g a = some 66) (hj : jin x (jn g a) = true) : Ev sv d (59, 267, [l0, l1, l2, l3, l4, l5, l6, l7, l8, l9, l10], .int x :: .ref a :: st) (tv t u g I J P) Q ↔ Ev sv d (59, 268, [l0, l1, l2, l3, l4, l5, l6, l7, l8, l9, l10], .int (I 66 x.toNatClampNeg a) :: st) (tv t u g I J P) Q := R_iald (h_X5_fits dX5_fits_267) rfl ht hj
theorem s_X5_fits_268 : Ev sv d (59, 268, [l0, l1, l2, l3, l4, l5, l6, l7, l8, l9, l10], st) M Q ↔ Ev sv d (59, 270, [l0, l1, l2, l3, l4, l5, l6, l7, l8, l9, l10], .int (6 : Int32) :: st) M Q := R_pure (h_X5_fits dX5_fits_268) rfl
theorem s_X5_fits_270 : Ev sv d (59, 270, [l0, l1, l2, l3, l4, l5, l6, l7, l8, l9, l10], .int y :: .int x :: st) M Q ↔ if x = y then Ev sv d (59, 282, [l0, l1, l2, l3, l4, l5, l6, l7, l8, l9, l10], st) M Q else Ev sv d (59, 273, [l0, l1, l2, l3, l4, l5, l6, l7, l8, l9, l10], st) M Q := (R_icmp (h_X5_fits dX5_fits_270) rfl).trans (R_ch jcb_eq)
theorem s_X5_fits_273 : Ev sv d (59, 273, [l0, l1, l2, l3, l4, l5, l6, l7, some (.int x), l9, l10], st) M Q ↔ Ev sv d (59, 275, [l0, l1, l2, l3, l4, l5, l6, l7, some (.int x), l9, l10], .int x :: st) M Q := R_pure (h_X5_fits dX5_fits_273) rfl
theorem s_X5_fits_275 : Ev sv d (59, 275, [some (.ref a), l1, l2, l3, l4, l5, l6, l7, l8, l9, l10], st) M Q ↔ Ev sv d (59, 276, [some (.ref a), l1, l2, l3, l4, l5, l6, l7, l8, l9, l10], .ref a :: st) M Q := R_pure (h_X5_fits dX5_fits_275) rfl
theorem s_X5_fits_275n : Ev sv d (59, 275, [some (va_rf r), l1, l2, l3, l4, l5, l6, l7, l8, l9, l10], st) M Q ↔ Ev sv d (59, 276, [some (va_rf r), l1, l2, l3, l4, l5, l6, l7, l8, l9, l10], va_rf r :: st) M Q := by cases r <;> exact R_pure (h_X5_fits dX5_fits_275) rfl
theorem s_X5_fits_275z : Ev sv d (59, 275, [some .null, l1, l2, l3, l4, l5, l6, l7, l8, l9, l10], st) M Q ↔ Ev sv d (59, 276, [some .null, l1, l2, l3, l4, l5, l6, l7, l8, l9, l10], .null :: st) M Q := R_pure (h_X5_fits dX5_fits_275) rfl
theorem s_X5_fits_276 (ht : jt g a = some 7) : Ev sv d (59, 276, [l0, l1, l2, l3, l4, l5, l6, l7, l8, l9, l10], .ref a :: st) (tv t u g I J P) Q ↔ Ev sv d (59, 279, [l0, l1, l2, l3, l4, l5, l6, l7, l8, l9, l10], .int (I 7 3 a) :: st) (tv t u g I J P) Q := R_geti (h_X5_fits dX5_fits_276) rfl rfl ht
theorem s_X5_fits_279 : Ev sv d (59, 279, [l0, l1, l2, l3, l4, l5, l6, l7, l8, l9, l10], .int y :: .int x :: st) M Q ↔ if y < x then Ev sv d (59, 282, [l0, l1, l2, l3, l4, l5, l6, l7, l8, l9, l10], st) M Q else Ev sv d (59, 295, [l0, l1, l2, l3, l4, l5, l6, l7, l8, l9, l10], st) M Q := (R_icmp (h_X5_fits dX5_fits_279) rfl).trans (R_chn jcb_le)
theorem s_X5_fits_282 : Ev sv d (59, 282, [l0, l1, l2, l3, l4, l5, l6, l7, l8, some (.int x), l10], st) M Q ↔ Ev sv d (59, 284, [l0, l1, l2, l3, l4, l5, l6, l7, l8, some (.int x), l10], .int x :: st) M Q := R_pure (h_X5_fits dX5_fits_282) rfl
theorem s_X5_fits_284 : Ev sv d (59, 284, [some (.ref a), l1, l2, l3, l4, l5, l6, l7, l8, l9, l10], st) M Q ↔ Ev sv d (59, 285, [some (.ref a), l1, l2, l3, l4, l5, l6, l7, l8, l9, l10], .ref a :: st) M Q := R_pure (h_X5_fits dX5_fits_284) rfl
theorem s_X5_fits_284n : Ev sv d (59, 284, [some (va_rf r), l1, l2, l3, l4, l5, l6, l7, l8, l9, l10], st) M Q ↔ Ev sv d (59, 285, [some (va_rf r), l1, l2, l3, l4, l5, l6, l7, l8, l9, l10], va_rf r :: st) M Q := by cases r <;> exact R_pure (h_X5_fits dX5_fits_284) rfl
theorem s_X5_fits_284z : Ev sv d (59, 284, [some .null, l1, l2, l3, l4, l5, l6, l7, l8, l9, l10], st) M Q ↔ Ev sv d (59, 285, [some .null, l1, l2, l3, l4, l5, l6, l7, l8, l9, l10], .null :: st) M Q := R_pure (h_X5_fits dX5_fits_284) rfl
theorem s_X5_fits_285 (ht : jt g a = some 7) : Ev sv d (59, 285, [l0, l1, l2, l3, l4, l5, l6, l7, l8, l9, l10], .ref a :: st) (tv t u g I J P) Q ↔ Ev sv d (59, 288, [l0, l1, l2, l3, l4, l5, l6, l7, l8, l9, l10], .int (I 7 1 a) :: st) (tv t u g I J P) Q := R_geti (h_X5_fits dX5_fits_285) rfl rfl ht
theorem s_X5_fits_288 : Ev sv d (59, 288, [l0, l1, l2, l3, l4, l5, l6, l7, l8, l9, l10], .int y :: .int x :: st) M Q ↔ if y < x then Ev sv d (59, 295, [l0, l1, l2, l3, l4, l5, l6, l7, l8, l9, l10], st) M Q else Ev sv d (59, 291, [l0, l1, l2, l3, l4, l5, l6, l7, l8, l9, l10], st) M Q := (R_icmp (h_X5_fits dX5_fits_288) rfl).trans (R_ch jcb_gt)
theorem s_X5_fits_291 : Ev sv d (59, 291, [l0, l1, l2, l3, l4, l5, l6, l7, l8, l9, l10], st) M Q ↔ Ev sv d (59, 292, [l0, l1, l2, l3, l4, l5, l6, l7, l8, l9, l10], .int (1 : Int32) :: st) M Q := R_pure (h_X5_fits dX5_fits_291) rfl
theorem s_X5_fits_292 : Ev sv d (59, 292, [l0, l1, l2, l3, l4, l5, l6, l7, l8, l9, l10], st) M Q ↔ Ev sv d (59, 296, [l0, l1, l2, l3, l4, l5, l6, l7, l8, l9, l10], st) M Q := R_goto (h_X5_fits dX5_fits_292) rfl
theorem s_X5_fits_295 : Ev sv d (59, 295, [l0, l1, l2, l3, l4, l5, l6, l7, l8, l9, l10], st) M Q ↔ Ev sv d (59, 296, [l0, l1, l2, l3, l4, l5, l6, l7, l8, l9, l10], .int (0 : Int32) :: st) M Q := R_pure (h_X5_fits dX5_fits_295) rfl
theorem s_X5_fits_296 (hx : bz x) : Ev sv d (59, 296, [l0, l1, l2, l3, l4, l5, l6, l7, l8, l9, l10], [.int x]) M Q ↔ Q (some (.int x)) M := R_zret (h_X5_fits dX5_fits_296) rfl hx
end
end
