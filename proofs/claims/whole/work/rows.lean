section
-- ===== PART A: goes FIRST, ahead of the names: the tables' words, and 'selects' of the private methods out of them =====
/-- a private method of a class that the tables say can be made, by its rows of tables_1 -/
def lw_okq (q : MethodName × Nat) : Prop := (q.1.cls ≠ "java/lang/invoke/MethodHandle" ∧ q.1.cls ≠ "java/lang/invoke/VarHandle") ∧ Cond.instantiable q.1.cls q.2 ∈ tables_1 ∧ Cond.privateMethod q.1 ∈ tables_1 ∧ Cond.instanceMethod q.1 ∈ tables_1
theorem lw_p0 : lw_okq (⟨"ReportWriter", "isKindOfLevel", "(II)Z"⟩, 16) := ⟨⟨by decide +kernel, by decide +kernel⟩, List.mem_of_getElem? (i := 22) (by decide +kernel), List.mem_of_getElem? (i := 135) (by decide +kernel), List.mem_of_getElem? (i := 136) (by decide +kernel)⟩
theorem lw_p1 : lw_okq (⟨"ReportWriter", "groupOf", "(II)LReportWriter$Group;"⟩, 16) := ⟨⟨by decide +kernel, by decide +kernel⟩, List.mem_of_getElem? (i := 22) (by decide +kernel), List.mem_of_getElem? (i := 139) (by decide +kernel), List.mem_of_getElem? (i := 140) (by decide +kernel)⟩
theorem lw_p2 : lw_okq (⟨"java/util/ArrayList", "add", "(Ljava/lang/Object;[Ljava/lang/Object;I)V"⟩, 3) := ⟨⟨by decide +kernel, by decide +kernel⟩, List.mem_of_getElem? (i := 30) (by decide +kernel), List.mem_of_getElem? (i := 212) (by decide +kernel), List.mem_of_getElem? (i := 213) (by decide +kernel)⟩
theorem lw_p3 : lw_okq (⟨"java/util/ArrayList", "grow", "()[Ljava/lang/Object;"⟩, 3) := ⟨⟨by decide +kernel, by decide +kernel⟩, List.mem_of_getElem? (i := 30) (by decide +kernel), List.mem_of_getElem? (i := 216) (by decide +kernel), List.mem_of_getElem? (i := 217) (by decide +kernel)⟩
theorem lw_p4 : lw_okq (⟨"java/util/ArrayList", "grow", "(I)[Ljava/lang/Object;"⟩, 3) := ⟨⟨by decide +kernel, by decide +kernel⟩, List.mem_of_getElem? (i := 30) (by decide +kernel), List.mem_of_getElem? (i := 220) (by decide +kernel), List.mem_of_getElem? (i := 221) (by decide +kernel)⟩
theorem lw_p5 : lw_okq (⟨"ReportWriter", "groupNumbered", "(I)LReportWriter$Group;"⟩, 16) := ⟨⟨by decide +kernel, by decide +kernel⟩, List.mem_of_getElem? (i := 22) (by decide +kernel), List.mem_of_getElem? (i := 263) (by decide +kernel), List.mem_of_getElem? (i := 264) (by decide +kernel)⟩
theorem lw_p6 : lw_okq (⟨"ReportWriter", "fitsWithLine", "(LReportWriter$Group;IZ)Z"⟩, 16) := ⟨⟨by decide +kernel, by decide +kernel⟩, List.mem_of_getElem? (i := 22) (by decide +kernel), List.mem_of_getElem? (i := 267) (by decide +kernel), List.mem_of_getElem? (i := 268) (by decide +kernel)⟩
theorem lw_p7 : lw_okq (⟨"ReportWriter", "startOnNewPage", "(IIZ)I"⟩, 16) := ⟨⟨by decide +kernel, by decide +kernel⟩, List.mem_of_getElem? (i := 22) (by decide +kernel), List.mem_of_getElem? (i := 271) (by decide +kernel), List.mem_of_getElem? (i := 272) (by decide +kernel)⟩
theorem lw_p8 : lw_okq (⟨"ReportWriter", "topmostLine", "(I)I"⟩, 16) := ⟨⟨by decide +kernel, by decide +kernel⟩, List.mem_of_getElem? (i := 22) (by decide +kernel), List.mem_of_getElem? (i := 278) (by decide +kernel), List.mem_of_getElem? (i := 279) (by decide +kernel)⟩
theorem lw_p9 : lw_okq (⟨"ReportWriter", "lowestLine", "(I)I"⟩, 16) := ⟨⟨by decide +kernel, by decide +kernel⟩, List.mem_of_getElem? (i := 22) (by decide +kernel), List.mem_of_getElem? (i := 282) (by decide +kernel), List.mem_of_getElem? (i := 283) (by decide +kernel)⟩
theorem lw_p10 : lw_okq (⟨"ReportWriter", "isSummable", "(II)Z"⟩, 16) := ⟨⟨by decide +kernel, by decide +kernel⟩, List.mem_of_getElem? (i := 22) (by decide +kernel), List.mem_of_getElem? (i := 299) (by decide +kernel), List.mem_of_getElem? (i := 300) (by decide +kernel)⟩
theorem lw_p11 : lw_okq (⟨"ReportWriter", "sumNumbered", "(I)LReportWriter$Sum;"⟩, 16) := ⟨⟨by decide +kernel, by decide +kernel⟩, List.mem_of_getElem? (i := 22) (by decide +kernel), List.mem_of_getElem? (i := 303) (by decide +kernel), List.mem_of_getElem? (i := 304) (by decide +kernel)⟩
theorem lw_p12 : lw_okq (⟨"ReportWriter", "changedLevel", "()I"⟩, 16) := ⟨⟨by decide +kernel, by decide +kernel⟩, List.mem_of_getElem? (i := 22) (by decide +kernel), List.mem_of_getElem? (i := 354) (by decide +kernel), List.mem_of_getElem? (i := 355) (by decide +kernel)⟩
theorem lw_p13 : lw_okq (⟨"ReportWriter", "printOnOwnPage", "(LReportWriter$Group;)V"⟩, 16) := ⟨⟨by decide +kernel, by decide +kernel⟩, List.mem_of_getElem? (i := 22) (by decide +kernel), List.mem_of_getElem? (i := 358) (by decide +kernel), List.mem_of_getElem? (i := 359) (by decide +kernel)⟩
theorem lw_p14 : lw_okq (⟨"ReportWriter", "countPage", "()V"⟩, 16) := ⟨⟨by decide +kernel, by decide +kernel⟩, List.mem_of_getElem? (i := 22) (by decide +kernel), List.mem_of_getElem? (i := 366) (by decide +kernel), List.mem_of_getElem? (i := 367) (by decide +kernel)⟩
theorem lw_p15 : lw_okq (⟨"ReportWriter", "printFrom", "(ILReportWriter$Group;J)V"⟩, 16) := ⟨⟨by decide +kernel, by decide +kernel⟩, List.mem_of_getElem? (i := 22) (by decide +kernel), List.mem_of_getElem? (i := 370) (by decide +kernel), List.mem_of_getElem? (i := 371) (by decide +kernel)⟩
def lw_privs_1 : List (MethodName × Nat) := [(⟨"ReportWriter", "isKindOfLevel", "(II)Z"⟩, 16), (⟨"ReportWriter", "groupOf", "(II)LReportWriter$Group;"⟩, 16), (⟨"java/util/ArrayList", "add", "(Ljava/lang/Object;[Ljava/lang/Object;I)V"⟩, 3), (⟨"java/util/ArrayList", "grow", "()[Ljava/lang/Object;"⟩, 3), (⟨"java/util/ArrayList", "grow", "(I)[Ljava/lang/Object;"⟩, 3), (⟨"ReportWriter", "groupNumbered", "(I)LReportWriter$Group;"⟩, 16), (⟨"ReportWriter", "fitsWithLine", "(LReportWriter$Group;IZ)Z"⟩, 16), (⟨"ReportWriter", "startOnNewPage", "(IIZ)I"⟩, 16), (⟨"ReportWriter", "topmostLine", "(I)I"⟩, 16), (⟨"ReportWriter", "lowestLine", "(I)I"⟩, 16), (⟨"ReportWriter", "isSummable", "(II)Z"⟩, 16), (⟨"ReportWriter", "sumNumbered", "(I)LReportWriter$Sum;"⟩, 16), (⟨"ReportWriter", "changedLevel", "()I"⟩, 16), (⟨"ReportWriter", "printOnOwnPage", "(LReportWriter$Group;)V"⟩, 16), (⟨"ReportWriter", "countPage", "()V"⟩, 16), (⟨"ReportWriter", "printFrom", "(ILReportWriter$Group;J)V"⟩, 16)]
theorem lw_r1 : ∀ q ∈ lw_privs_1, lw_okq q := List.forall_mem_cons.mpr ⟨lw_p0, List.forall_mem_cons.mpr ⟨lw_p1, List.forall_mem_cons.mpr ⟨lw_p2, List.forall_mem_cons.mpr ⟨lw_p3, List.forall_mem_cons.mpr ⟨lw_p4, List.forall_mem_cons.mpr ⟨lw_p5, List.forall_mem_cons.mpr ⟨lw_p6, List.forall_mem_cons.mpr ⟨lw_p7, List.forall_mem_cons.mpr ⟨lw_p8, List.forall_mem_cons.mpr ⟨lw_p9, List.forall_mem_cons.mpr ⟨lw_p10, List.forall_mem_cons.mpr ⟨lw_p11, List.forall_mem_cons.mpr ⟨lw_p12, List.forall_mem_cons.mpr ⟨lw_p13, List.forall_mem_cons.mpr ⟨lw_p14, List.forall_mem_cons.mpr ⟨lw_p15, fun _ h => absurd h List.not_mem_nil⟩⟩⟩⟩⟩⟩⟩⟩⟩⟩⟩⟩⟩⟩⟩⟩
theorem lw_p16 : lw_okq (⟨"ReportWriter", "beginPage", "()V"⟩, 16) := ⟨⟨by decide +kernel, by decide +kernel⟩, List.mem_of_getElem? (i := 22) (by decide +kernel), List.mem_of_getElem? (i := 392) (by decide +kernel), List.mem_of_getElem? (i := 393) (by decide +kernel)⟩
theorem lw_p17 : lw_okq (⟨"ReportWriter", "printOutsideBody", "(LReportWriter$Group;)V"⟩, 16) := ⟨⟨by decide +kernel, by decide +kernel⟩, List.mem_of_getElem? (i := 22) (by decide +kernel), List.mem_of_getElem? (i := 396) (by decide +kernel), List.mem_of_getElem? (i := 397) (by decide +kernel)⟩
theorem lw_p18 : lw_okq (⟨"ReportWriter", "printControlHeads", "(I)V"⟩, 16) := ⟨⟨by decide +kernel, by decide +kernel⟩, List.mem_of_getElem? (i := 22) (by decide +kernel), List.mem_of_getElem? (i := 400) (by decide +kernel), List.mem_of_getElem? (i := 401) (by decide +kernel)⟩
theorem lw_p19 : lw_okq (⟨"ReportWriter", "printInBody", "(LReportWriter$Group;J)V"⟩, 16) := ⟨⟨by decide +kernel, by decide +kernel⟩, List.mem_of_getElem? (i := 22) (by decide +kernel), List.mem_of_getElem? (i := 404) (by decide +kernel), List.mem_of_getElem? (i := 405) (by decide +kernel)⟩
theorem lw_p20 : lw_okq (⟨"ReportWriter", "startInBody", "(LReportWriter$Group;)I"⟩, 16) := ⟨⟨by decide +kernel, by decide +kernel⟩, List.mem_of_getElem? (i := 22) (by decide +kernel), List.mem_of_getElem? (i := 408) (by decide +kernel), List.mem_of_getElem? (i := 409) (by decide +kernel)⟩
theorem lw_p21 : lw_okq (⟨"ReportWriter", "endPage", "()V"⟩, 16) := ⟨⟨by decide +kernel, by decide +kernel⟩, List.mem_of_getElem? (i := 22) (by decide +kernel), List.mem_of_getElem? (i := 412) (by decide +kernel), List.mem_of_getElem? (i := 413) (by decide +kernel)⟩
theorem lw_p22 : lw_okq (⟨"ReportWriter", "printControlFoots", "(I)V"⟩, 16) := ⟨⟨by decide +kernel, by decide +kernel⟩, List.mem_of_getElem? (i := 22) (by decide +kernel), List.mem_of_getElem? (i := 416) (by decide +kernel), List.mem_of_getElem? (i := 417) (by decide +kernel)⟩
theorem lw_p23 : lw_okq (⟨"ReportWriter", "firstSumOf", "(I)LReportWriter$Sum;"⟩, 16) := ⟨⟨by decide +kernel, by decide +kernel⟩, List.mem_of_getElem? (i := 22) (by decide +kernel), List.mem_of_getElem? (i := 420) (by decide +kernel), List.mem_of_getElem? (i := 421) (by decide +kernel)⟩
theorem lw_p24 : lw_okq (⟨"ReportWriter", "rollSums", "(I)V"⟩, 16) := ⟨⟨by decide +kernel, by decide +kernel⟩, List.mem_of_getElem? (i := 22) (by decide +kernel), List.mem_of_getElem? (i := 424) (by decide +kernel), List.mem_of_getElem? (i := 425) (by decide +kernel)⟩
theorem lw_p25 : lw_okq (⟨"ReportWriter", "resetSums", "(I)V"⟩, 16) := ⟨⟨by decide +kernel, by decide +kernel⟩, List.mem_of_getElem? (i := 22) (by decide +kernel), List.mem_of_getElem? (i := 428) (by decide +kernel), List.mem_of_getElem? (i := 429) (by decide +kernel)⟩
theorem lw_p26 : lw_okq (⟨"ReportWriter", "addToSums", "(IJ)V"⟩, 16) := ⟨⟨by decide +kernel, by decide +kernel⟩, List.mem_of_getElem? (i := 22) (by decide +kernel), List.mem_of_getElem? (i := 433) (by decide +kernel), List.mem_of_getElem? (i := 434) (by decide +kernel)⟩
theorem lw_p27 : lw_okq (⟨"java/lang/Throwable", "fillInStackTrace", "(I)Ljava/lang/Throwable;"⟩, 6) := ⟨⟨by decide +kernel, by decide +kernel⟩, List.mem_of_getElem? (i := 514) (by decide +kernel), List.mem_of_getElem? (i := 512) (by decide +kernel), List.mem_of_getElem? (i := 513) (by decide +kernel)⟩
theorem lw_p28 : lw_okq (⟨"ReportWriterModel", "find", "(II)I"⟩, 29) := ⟨⟨by decide +kernel, by decide +kernel⟩, List.mem_of_getElem? (i := 552) (by decide +kernel), List.mem_of_getElem? (i := 660) (by decide +kernel), List.mem_of_getElem? (i := 661) (by decide +kernel)⟩
theorem lw_p29 : lw_okq (⟨"ReportWriterModel", "isGroup", "(I)Z"⟩, 29) := ⟨⟨by decide +kernel, by decide +kernel⟩, List.mem_of_getElem? (i := 552) (by decide +kernel), List.mem_of_getElem? (i := 668) (by decide +kernel), List.mem_of_getElem? (i := 669) (by decide +kernel)⟩
theorem lw_p30 : lw_okq (⟨"ReportWriterModel", "fits", "(IIZ)Z"⟩, 29) := ⟨⟨by decide +kernel, by decide +kernel⟩, List.mem_of_getElem? (i := 552) (by decide +kernel), List.mem_of_getElem? (i := 672) (by decide +kernel), List.mem_of_getElem? (i := 673) (by decide +kernel)⟩
theorem lw_p31 : lw_okq (⟨"ReportWriterModel", "isOf", "(II)Z"⟩, 29) := ⟨⟨by decide +kernel, by decide +kernel⟩, List.mem_of_getElem? (i := 552) (by decide +kernel), List.mem_of_getElem? (i := 680) (by decide +kernel), List.mem_of_getElem? (i := 681) (by decide +kernel)⟩
def lw_privs_2 : List (MethodName × Nat) := [(⟨"ReportWriter", "beginPage", "()V"⟩, 16), (⟨"ReportWriter", "printOutsideBody", "(LReportWriter$Group;)V"⟩, 16), (⟨"ReportWriter", "printControlHeads", "(I)V"⟩, 16), (⟨"ReportWriter", "printInBody", "(LReportWriter$Group;J)V"⟩, 16), (⟨"ReportWriter", "startInBody", "(LReportWriter$Group;)I"⟩, 16), (⟨"ReportWriter", "endPage", "()V"⟩, 16), (⟨"ReportWriter", "printControlFoots", "(I)V"⟩, 16), (⟨"ReportWriter", "firstSumOf", "(I)LReportWriter$Sum;"⟩, 16), (⟨"ReportWriter", "rollSums", "(I)V"⟩, 16), (⟨"ReportWriter", "resetSums", "(I)V"⟩, 16), (⟨"ReportWriter", "addToSums", "(IJ)V"⟩, 16), (⟨"java/lang/Throwable", "fillInStackTrace", "(I)Ljava/lang/Throwable;"⟩, 6), (⟨"ReportWriterModel", "find", "(II)I"⟩, 29), (⟨"ReportWriterModel", "isGroup", "(I)Z"⟩, 29), (⟨"ReportWriterModel", "fits", "(IIZ)Z"⟩, 29), (⟨"ReportWriterModel", "isOf", "(II)Z"⟩, 29)]
theorem lw_r2 : ∀ q ∈ lw_privs_2, lw_okq q := List.forall_mem_cons.mpr ⟨lw_p16, List.forall_mem_cons.mpr ⟨lw_p17, List.forall_mem_cons.mpr ⟨lw_p18, List.forall_mem_cons.mpr ⟨lw_p19, List.forall_mem_cons.mpr ⟨lw_p20, List.forall_mem_cons.mpr ⟨lw_p21, List.forall_mem_cons.mpr ⟨lw_p22, List.forall_mem_cons.mpr ⟨lw_p23, List.forall_mem_cons.mpr ⟨lw_p24, List.forall_mem_cons.mpr ⟨lw_p25, List.forall_mem_cons.mpr ⟨lw_p26, List.forall_mem_cons.mpr ⟨lw_p27, List.forall_mem_cons.mpr ⟨lw_p28, List.forall_mem_cons.mpr ⟨lw_p29, List.forall_mem_cons.mpr ⟨lw_p30, List.forall_mem_cons.mpr ⟨lw_p31, fun _ h => absurd h List.not_mem_nil⟩⟩⟩⟩⟩⟩⟩⟩⟩⟩⟩⟩⟩⟩⟩⟩
theorem lw_p32 : lw_okq (⟨"ReportWriterModel", "isDetail", "(I)Z"⟩, 29) := ⟨⟨by decide +kernel, by decide +kernel⟩, List.mem_of_getElem? (i := 552) (by decide +kernel), List.mem_of_getElem? (i := 684) (by decide +kernel), List.mem_of_getElem? (i := 685) (by decide +kernel)⟩
theorem lw_p33 : lw_okq (⟨"ReportWriterModel", "fresh", "()V"⟩, 29) := ⟨⟨by decide +kernel, by decide +kernel⟩, List.mem_of_getElem? (i := 552) (by decide +kernel), List.mem_of_getElem? (i := 708) (by decide +kernel), List.mem_of_getElem? (i := 709) (by decide +kernel)⟩
theorem lw_p34 : lw_okq (⟨"ReportWriterModel", "alone", "(I)V"⟩, 29) := ⟨⟨by decide +kernel, by decide +kernel⟩, List.mem_of_getElem? (i := 552) (by decide +kernel), List.mem_of_getElem? (i := 716) (by decide +kernel), List.mem_of_getElem? (i := 717) (by decide +kernel)⟩
theorem lw_p35 : lw_okq (⟨"ReportWriterModel", "isOn", "(I)Z"⟩, 29) := ⟨⟨by decide +kernel, by decide +kernel⟩, List.mem_of_getElem? (i := 552) (by decide +kernel), List.mem_of_getElem? (i := 720) (by decide +kernel), List.mem_of_getElem? (i := 721) (by decide +kernel)⟩
theorem lw_p36 : lw_okq (⟨"ReportWriterModel", "putFrom", "(III)V"⟩, 29) := ⟨⟨by decide +kernel, by decide +kernel⟩, List.mem_of_getElem? (i := 552) (by decide +kernel), List.mem_of_getElem? (i := 724) (by decide +kernel), List.mem_of_getElem? (i := 725) (by decide +kernel)⟩
theorem lw_p37 : lw_okq (⟨"ReportWriterModel", "putAll", "(III)V"⟩, 29) := ⟨⟨by decide +kernel, by decide +kernel⟩, List.mem_of_getElem? (i := 552) (by decide +kernel), List.mem_of_getElem? (i := 728) (by decide +kernel), List.mem_of_getElem? (i := 729) (by decide +kernel)⟩
theorem lw_p38 : lw_okq (⟨"ReportWriterModel", "put", "(IIII)V"⟩, 29) := ⟨⟨by decide +kernel, by decide +kernel⟩, List.mem_of_getElem? (i := 552) (by decide +kernel), List.mem_of_getElem? (i := 732) (by decide +kernel), List.mem_of_getElem? (i := 733) (by decide +kernel)⟩
theorem lw_p39 : lw_okq (⟨"ReportWriterModel", "begin", "()V"⟩, 29) := ⟨⟨by decide +kernel, by decide +kernel⟩, List.mem_of_getElem? (i := 552) (by decide +kernel), List.mem_of_getElem? (i := 736) (by decide +kernel), List.mem_of_getElem? (i := 737) (by decide +kernel)⟩
theorem lw_p40 : lw_okq (⟨"ReportWriterModel", "head", "(I)V"⟩, 29) := ⟨⟨by decide +kernel, by decide +kernel⟩, List.mem_of_getElem? (i := 552) (by decide +kernel), List.mem_of_getElem? (i := 740) (by decide +kernel), List.mem_of_getElem? (i := 741) (by decide +kernel)⟩
theorem lw_p41 : lw_okq (⟨"ReportWriterModel", "inBody", "(II)V"⟩, 29) := ⟨⟨by decide +kernel, by decide +kernel⟩, List.mem_of_getElem? (i := 552) (by decide +kernel), List.mem_of_getElem? (i := 744) (by decide +kernel), List.mem_of_getElem? (i := 745) (by decide +kernel)⟩
theorem lw_p42 : lw_okq (⟨"ReportWriterModel", "top", "(I)I"⟩, 29) := ⟨⟨by decide +kernel, by decide +kernel⟩, List.mem_of_getElem? (i := 552) (by decide +kernel), List.mem_of_getElem? (i := 748) (by decide +kernel), List.mem_of_getElem? (i := 749) (by decide +kernel)⟩
theorem lw_p43 : lw_okq (⟨"ReportWriterModel", "over", "()V"⟩, 29) := ⟨⟨by decide +kernel, by decide +kernel⟩, List.mem_of_getElem? (i := 552) (by decide +kernel), List.mem_of_getElem? (i := 752) (by decide +kernel), List.mem_of_getElem? (i := 753) (by decide +kernel)⟩
theorem lw_p44 : lw_okq (⟨"ReportWriterModel", "changed", "()I"⟩, 29) := ⟨⟨by decide +kernel, by decide +kernel⟩, List.mem_of_getElem? (i := 552) (by decide +kernel), List.mem_of_getElem? (i := 756) (by decide +kernel), List.mem_of_getElem? (i := 757) (by decide +kernel)⟩
theorem lw_p45 : lw_okq (⟨"ReportWriterModel", "foot", "(I)V"⟩, 29) := ⟨⟨by decide +kernel, by decide +kernel⟩, List.mem_of_getElem? (i := 552) (by decide +kernel), List.mem_of_getElem? (i := 760) (by decide +kernel), List.mem_of_getElem? (i := 761) (by decide +kernel)⟩
theorem lw_p46 : lw_okq (⟨"ReportWriterModel", "firstSum", "(I)I"⟩, 29) := ⟨⟨by decide +kernel, by decide +kernel⟩, List.mem_of_getElem? (i := 552) (by decide +kernel), List.mem_of_getElem? (i := 764) (by decide +kernel), List.mem_of_getElem? (i := 765) (by decide +kernel)⟩
theorem lw_p47 : lw_okq (⟨"ReportWriterModel", "keep", "()V"⟩, 29) := ⟨⟨by decide +kernel, by decide +kernel⟩, List.mem_of_getElem? (i := 552) (by decide +kernel), List.mem_of_getElem? (i := 768) (by decide +kernel), List.mem_of_getElem? (i := 769) (by decide +kernel)⟩
def lw_privs_3 : List (MethodName × Nat) := [(⟨"ReportWriterModel", "isDetail", "(I)Z"⟩, 29), (⟨"ReportWriterModel", "fresh", "()V"⟩, 29), (⟨"ReportWriterModel", "alone", "(I)V"⟩, 29), (⟨"ReportWriterModel", "isOn", "(I)Z"⟩, 29), (⟨"ReportWriterModel", "putFrom", "(III)V"⟩, 29), (⟨"ReportWriterModel", "putAll", "(III)V"⟩, 29), (⟨"ReportWriterModel", "put", "(IIII)V"⟩, 29), (⟨"ReportWriterModel", "begin", "()V"⟩, 29), (⟨"ReportWriterModel", "head", "(I)V"⟩, 29), (⟨"ReportWriterModel", "inBody", "(II)V"⟩, 29), (⟨"ReportWriterModel", "top", "(I)I"⟩, 29), (⟨"ReportWriterModel", "over", "()V"⟩, 29), (⟨"ReportWriterModel", "changed", "()I"⟩, 29), (⟨"ReportWriterModel", "foot", "(I)V"⟩, 29), (⟨"ReportWriterModel", "firstSum", "(I)I"⟩, 29), (⟨"ReportWriterModel", "keep", "()V"⟩, 29)]
theorem lw_r3 : ∀ q ∈ lw_privs_3, lw_okq q := List.forall_mem_cons.mpr ⟨lw_p32, List.forall_mem_cons.mpr ⟨lw_p33, List.forall_mem_cons.mpr ⟨lw_p34, List.forall_mem_cons.mpr ⟨lw_p35, List.forall_mem_cons.mpr ⟨lw_p36, List.forall_mem_cons.mpr ⟨lw_p37, List.forall_mem_cons.mpr ⟨lw_p38, List.forall_mem_cons.mpr ⟨lw_p39, List.forall_mem_cons.mpr ⟨lw_p40, List.forall_mem_cons.mpr ⟨lw_p41, List.forall_mem_cons.mpr ⟨lw_p42, List.forall_mem_cons.mpr ⟨lw_p43, List.forall_mem_cons.mpr ⟨lw_p44, List.forall_mem_cons.mpr ⟨lw_p45, List.forall_mem_cons.mpr ⟨lw_p46, List.forall_mem_cons.mpr ⟨lw_p47, fun _ h => absurd h List.not_mem_nil⟩⟩⟩⟩⟩⟩⟩⟩⟩⟩⟩⟩⟩⟩⟩⟩
def lw_privs : List (MethodName × Nat) := lw_privs_1 ++ (lw_privs_2 ++ (lw_privs_3))
def lw_tbl : List Cond := k2_sels lw_privs ++ tables_1
theorem lw_privs_ok : ∀ q ∈ lw_privs, lw_okq q := by
  show ∀ q ∈ lw_privs_1 ++ (lw_privs_2 ++ (lw_privs_3)), lw_okq q
  exact List.forall_mem_append.mpr ⟨lw_r1, List.forall_mem_append.mpr ⟨lw_r2, lw_r3⟩⟩
end
section
def RX0 : String := "ReportWriter$Group"
def TX0 : u_T := fun k => match k with
  | 0 => ("ReportWriter$Group", "number", "I", true)
  | 1 => ("ReportWriter$Group", "kind", "I", true)
  | 2 => ("ReportWriter$Group", "level", "I", true)
  | 3 => ("ReportWriter$Group", "start", "I", false)
  | 4 => ("ReportWriter$Group", "relative", "Z", false)
  | 5 => ("ReportWriter$Group", "lineCount", "I", false)
  | 6 => ("ReportWriter$Group", "behindStart", "[I", true)
  | 7 => ("ReportWriter$Group", "suppressed", "Z", false)
  | 8 => ("ReportWriter$Group", "indicated", "Z", false)
  | _ => ("ReportWriter$Group", "latestStretch", "I", false)
def tyX0 : Nat → FieldType := fun k => match k with
  | 0 => .int
  | 1 => .int
  | 2 => .int
  | 3 => .int
  | 4 => .boolean
  | 5 => .int
  | 6 => .array .int
  | 7 => .boolean
  | 8 => .boolean
  | _ => .int
theorem nmX0 : ∀ a, a < 10 → ∀ b, b < 10 → a ≠ b → (TX0 a).2.1 ≠ (TX0 b).2.1 := by decide +kernel
theorem tyX0_ok : ∀ k, k < 10 → parseFieldDescriptor (TX0 k).2.2.1 = some (tyX0 k) := by decide +kernel
abbrev cX0_init : ByteArray := prog_2_method_1_code
def yX0_init : MethodName := ⟨RX0, "<init>", "(III)V"⟩
abbrev cX0_addLine : ByteArray := prog_2_method_2_code
def yX0_addLine : MethodName := ⟨RX0, "addLine", "(IZ)V"⟩
abbrev cX0_height : ByteArray := prog_2_method_3_code
def yX0_height : MethodName := ⟨RX0, "height", "()I"⟩
abbrev cX0_takesItsTurn : ByteArray := prog_2_method_4_code
def yX0_takesItsTurn : MethodName := ⟨RX0, "takesItsTurn", "()Z"⟩
def RX1 : String := "ReportWriter$Printed"
def TX1 : u_T := fun k => match k with
  | 0 => ("ReportWriter$Printed", "sheets", "Ljava/util/ArrayList;", true)
  | _ => ("ReportWriter$Printed", "count", "I", false)
def tyX1 : Nat → FieldType := fun k => match k with
  | 0 => .object "java/util/ArrayList"
  | _ => .int
theorem nmX1 : ∀ a, a < 2 → ∀ b, b < 2 → a ≠ b → (TX1 a).2.1 ≠ (TX1 b).2.1 := by decide +kernel
theorem tyX1_ok : ∀ k, k < 2 → parseFieldDescriptor (TX1 k).2.2.1 = some (tyX1 k) := by decide +kernel
abbrev cX1_init : ByteArray := prog_3_method_1_code
def yX1_init : MethodName := ⟨RX1, "<init>", "()V"⟩
abbrev cX1_clear : ByteArray := prog_3_method_2_code
def yX1_clear : MethodName := ⟨RX1, "clear", "()V"⟩
abbrev cX1_add : ByteArray := prog_3_method_3_code
def yX1_add : MethodName := ⟨RX1, "add", "(IIIII)V"⟩
abbrev cX1_has : ByteArray := prog_3_method_4_code
def yX1_has : MethodName := ⟨RX1, "has", "(II)Z"⟩
abbrev cX1_cell : ByteArray := prog_3_method_5_code
def yX1_cell : MethodName := ⟨RX1, "cell", "(II)I"⟩
def RX2 : String := "ReportWriter$Sheet"
def TX2 : u_T := fun k => match k with
  | _ => ("ReportWriter$Sheet", "cells", "[I", true)
def tyX2 : Nat → FieldType := fun k => match k with
  | _ => .array .int
theorem nmX2 : ∀ a, a < 1 → ∀ b, b < 1 → a ≠ b → (TX2 a).2.1 ≠ (TX2 b).2.1 := by decide +kernel
theorem tyX2_ok : ∀ k, k < 1 → parseFieldDescriptor (TX2 k).2.2.1 = some (tyX2 k) := by decide +kernel
abbrev cX2_init : ByteArray := prog_4_method_1_code
def yX2_init : MethodName := ⟨RX2, "<init>", "()V"⟩
def RX3 : String := "ReportWriter$Sum"
def TX3 : u_T := fun k => match k with
  | 0 => ("ReportWriter$Sum", "group", "I", true)
  | 1 => ("ReportWriter$Sum", "level", "I", true)
  | 2 => ("ReportWriter$Sum", "of", "I", true)
  | 3 => ("ReportWriter$Sum", "reset", "I", true)
  | _ => ("ReportWriter$Sum", "total", "J", false)
def tyX3 : Nat → FieldType := fun k => match k with
  | 0 => .int
  | 1 => .int
  | 2 => .int
  | 3 => .int
  | _ => .long
theorem nmX3 : ∀ a, a < 5 → ∀ b, b < 5 → a ≠ b → (TX3 a).2.1 ≠ (TX3 b).2.1 := by decide +kernel
theorem tyX3_ok : ∀ k, k < 5 → parseFieldDescriptor (TX3 k).2.2.1 = some (tyX3 k) := by decide +kernel
abbrev cX3_init : ByteArray := prog_5_method_1_code
def yX3_init : MethodName := ⟨RX3, "<init>", "(IIII)V"⟩
def RX4 : String := "ReportWriter"
def TX4 : u_T := fun k => match k with
  | 0 => ("ReportWriter", "page", "I", true)
  | 1 => ("ReportWriter", "first", "I", true)
  | 2 => ("ReportWriter", "foot", "I", true)
  | 3 => ("ReportWriter", "groups", "Ljava/util/ArrayList;", true)
  | 4 => ("ReportWriter", "sums", "Ljava/util/ArrayList;", true)
  | 5 => ("ReportWriter", "controls", "I", false)
  | 6 => ("ReportWriter", "values", "[I", true)
  | 7 => ("ReportWriter", "valuesBefore", "[I", true)
  | 8 => ("ReportWriter", "printed", "LReportWriter$Printed;", true)
  | 9 => ("ReportWriter", "initiated", "Z", false)
  | 10 => ("ReportWriter", "pageCounter", "I", false)
  | 11 => ("ReportWriter", "latestLine", "I", false)
  | 12 => ("ReportWriter", "latestBodyLine", "I", false)
  | 13 => ("ReportWriter", "generatings", "I", false)
  | 14 => ("ReportWriter", "breaks", "I", false)
  | _ => ("ReportWriter", "stretch", "I", false)
def tyX4 : Nat → FieldType := fun k => match k with
  | 0 => .int
  | 1 => .int
  | 2 => .int
  | 3 => .object "java/util/ArrayList"
  | 4 => .object "java/util/ArrayList"
  | 5 => .int
  | 6 => .array .int
  | 7 => .array .int
  | 8 => .object "ReportWriter$Printed"
  | 9 => .boolean
  | 10 => .int
  | 11 => .int
  | 12 => .int
  | 13 => .int
  | 14 => .int
  | _ => .int
theorem nmX4 : ∀ a, a < 16 → ∀ b, b < 16 → a ≠ b → (TX4 a).2.1 ≠ (TX4 b).2.1 := by decide +kernel
theorem tyX4_ok : ∀ k, k < 16 → parseFieldDescriptor (TX4 k).2.2.1 = some (tyX4 k) := by decide +kernel
abbrev cX4_init : ByteArray := prog_1_method_1_code
def yX4_init : MethodName := ⟨RX4, "<init>", "(III)V"⟩
abbrev cX4_group : ByteArray := prog_1_method_2_code
def yX4_group : MethodName := ⟨RX4, "group", "(II)I"⟩
abbrev cX4_line : ByteArray := prog_1_method_3_code
def yX4_line : MethodName := ⟨RX4, "line", "(IIZ)I"⟩
abbrev cX4_sum : ByteArray := prog_1_method_4_code
def yX4_sum : MethodName := ⟨RX4, "sum", "(III)I"⟩
abbrev cX4_control : ByteArray := prog_1_method_5_code
def yX4_control : MethodName := ⟨RX4, "control", "(I)I"⟩
abbrev cX4_set : ByteArray := prog_1_method_6_code
def yX4_set : MethodName := ⟨RX4, "set", "(II)I"⟩
abbrev cX4_initiate : ByteArray := prog_1_method_7_code
def yX4_initiate : MethodName := ⟨RX4, "initiate", "()I"⟩
abbrev cX4_generate : ByteArray := prog_1_method_8_code
def yX4_generate : MethodName := ⟨RX4, "generate", "(IJ)I"⟩
abbrev cX4_terminate : ByteArray := prog_1_method_9_code
def yX4_terminate : MethodName := ⟨RX4, "terminate", "()I"⟩
abbrev cX4_at : ByteArray := prog_1_method_10_code
def yX4_at : MethodName := ⟨RX4, "at", "(II)I"⟩
abbrev cX4_lines : ByteArray := prog_1_method_11_code
def yX4_lines : MethodName := ⟨RX4, "lines", "()I"⟩
abbrev cX4_total : ByteArray := prog_1_method_12_code
def yX4_total : MethodName := ⟨RX4, "total", "(I)J"⟩
abbrev cX4_counter : ByteArray := prog_1_method_13_code
def yX4_counter : MethodName := ⟨RX4, "counter", "(I)I"⟩
abbrev cX4_suppress : ByteArray := prog_1_method_14_code
def yX4_suppress : MethodName := ⟨RX4, "suppress", "(I)I"⟩
abbrev cX4_indicate : ByteArray := prog_1_method_15_code
def yX4_indicate : MethodName := ⟨RX4, "indicate", "(I)I"⟩
abbrev cX4_held : ByteArray := prog_1_method_16_code
def yX4_held : MethodName := ⟨RX4, "held", "(III)I"⟩
abbrev cX4_isOfBody : ByteArray := prog_1_method_17_code
def yX4_isOfBody : MethodName := ⟨RX4, "isOfBody", "(I)Z"⟩
abbrev cX4_isKindOfLevel : ByteArray := prog_1_method_18_code
def yX4_isKindOfLevel : MethodName := ⟨RX4, "isKindOfLevel", "(II)Z"⟩
abbrev cX4_groupNumbered : ByteArray := prog_1_method_19_code
def yX4_groupNumbered : MethodName := ⟨RX4, "groupNumbered", "(I)LReportWriter$Group;"⟩
abbrev cX4_groupOf : ByteArray := prog_1_method_20_code
def yX4_groupOf : MethodName := ⟨RX4, "groupOf", "(II)LReportWriter$Group;"⟩
abbrev cX4_sumNumbered : ByteArray := prog_1_method_21_code
def yX4_sumNumbered : MethodName := ⟨RX4, "sumNumbered", "(I)LReportWriter$Sum;"⟩
abbrev cX4_firstSumOf : ByteArray := prog_1_method_22_code
def yX4_firstSumOf : MethodName := ⟨RX4, "firstSumOf", "(I)LReportWriter$Sum;"⟩
abbrev cX4_isSummable : ByteArray := prog_1_method_23_code
def yX4_isSummable : MethodName := ⟨RX4, "isSummable", "(II)Z"⟩
abbrev cX4_topmostLine : ByteArray := prog_1_method_24_code
def yX4_topmostLine : MethodName := ⟨RX4, "topmostLine", "(I)I"⟩
abbrev cX4_lowestLine : ByteArray := prog_1_method_25_code
def yX4_lowestLine : MethodName := ⟨RX4, "lowestLine", "(I)I"⟩
abbrev cX4_startOnNewPage : ByteArray := prog_1_method_26_code
def yX4_startOnNewPage : MethodName := ⟨RX4, "startOnNewPage", "(IIZ)I"⟩
abbrev cX4_startInBody : ByteArray := prog_1_method_27_code
def yX4_startInBody : MethodName := ⟨RX4, "startInBody", "(LReportWriter$Group;)I"⟩
abbrev cX4_fitsWithLine : ByteArray := prog_1_method_28_code
def yX4_fitsWithLine : MethodName := ⟨RX4, "fitsWithLine", "(LReportWriter$Group;IZ)Z"⟩
abbrev cX4_printInBody : ByteArray := prog_1_method_29_code
def yX4_printInBody : MethodName := ⟨RX4, "printInBody", "(LReportWriter$Group;J)V"⟩
abbrev cX4_beginPage : ByteArray := prog_1_method_30_code
def yX4_beginPage : MethodName := ⟨RX4, "beginPage", "()V"⟩
abbrev cX4_endPage : ByteArray := prog_1_method_31_code
def yX4_endPage : MethodName := ⟨RX4, "endPage", "()V"⟩
abbrev cX4_countPage : ByteArray := prog_1_method_32_code
def yX4_countPage : MethodName := ⟨RX4, "countPage", "()V"⟩
abbrev cX4_printOutsideBody : ByteArray := prog_1_method_33_code
def yX4_printOutsideBody : MethodName := ⟨RX4, "printOutsideBody", "(LReportWriter$Group;)V"⟩
abbrev cX4_printOnOwnPage : ByteArray := prog_1_method_34_code
def yX4_printOnOwnPage : MethodName := ⟨RX4, "printOnOwnPage", "(LReportWriter$Group;)V"⟩
abbrev cX4_printFrom : ByteArray := prog_1_method_35_code
def yX4_printFrom : MethodName := ⟨RX4, "printFrom", "(ILReportWriter$Group;J)V"⟩
abbrev cX4_changedLevel : ByteArray := prog_1_method_36_code
def yX4_changedLevel : MethodName := ⟨RX4, "changedLevel", "()I"⟩
abbrev cX4_printControlHeads : ByteArray := prog_1_method_37_code
def yX4_printControlHeads : MethodName := ⟨RX4, "printControlHeads", "(I)V"⟩
abbrev cX4_printControlFoots : ByteArray := prog_1_method_38_code
def yX4_printControlFoots : MethodName := ⟨RX4, "printControlFoots", "(I)V"⟩
abbrev cX4_addToSums : ByteArray := prog_1_method_39_code
def yX4_addToSums : MethodName := ⟨RX4, "addToSums", "(IJ)V"⟩
abbrev cX4_rollSums : ByteArray := prog_1_method_40_code
def yX4_rollSums : MethodName := ⟨RX4, "rollSums", "(I)V"⟩
abbrev cX4_resetSums : ByteArray := prog_1_method_41_code
def yX4_resetSums : MethodName := ⟨RX4, "resetSums", "(I)V"⟩
def RX5 : String := "ReportWriterModel"
def TX5 : u_T := fun k => match k with
  | 0 => ("ReportWriterModel", "code", "I", false)
  | 1 => ("ReportWriterModel", "page", "I", true)
  | 2 => ("ReportWriterModel", "first", "I", true)
  | 3 => ("ReportWriterModel", "foot", "I", true)
  | 4 => ("ReportWriterModel", "controls", "I", false)
  | 5 => ("ReportWriterModel", "groups", "I", false)
  | 6 => ("ReportWriterModel", "sums", "I", false)
  | 7 => ("ReportWriterModel", "values", "[I", true)
  | 8 => ("ReportWriterModel", "before", "[I", true)
  | 9 => ("ReportWriterModel", "kinds", "[I", true)
  | 10 => ("ReportWriterModel", "levels", "[I", true)
  | 11 => ("ReportWriterModel", "many", "[I", true)
  | 12 => ("ReportWriterModel", "numbers", "[I", true)
  | 13 => ("ReportWriterModel", "absolute", "[Z", true)
  | 14 => ("ReportWriterModel", "suppressed", "[Z", true)
  | 15 => ("ReportWriterModel", "indicated", "[Z", true)
  | 16 => ("ReportWriterModel", "seen", "[Z", true)
  | 17 => ("ReportWriterModel", "sumGroups", "[I", true)
  | 18 => ("ReportWriterModel", "ofs", "[I", true)
  | 19 => ("ReportWriterModel", "resets", "[I", true)
  | 20 => ("ReportWriterModel", "totals", "[J", true)
  | 21 => ("ReportWriterModel", "initiated", "Z", false)
  | 22 => ("ReportWriterModel", "generated", "I", false)
  | 23 => ("ReportWriterModel", "breaks", "I", false)
  | 24 => ("ReportWriterModel", "pages", "I", false)
  | 25 => ("ReportWriterModel", "latest", "I", false)
  | 26 => ("ReportWriterModel", "body", "I", false)
  | 27 => ("ReportWriterModel", "printed", "[I", true)
  | _ => ("ReportWriterModel", "lines", "I", false)
def tyX5 : Nat → FieldType := fun k => match k with
  | 0 => .int
  | 1 => .int
  | 2 => .int
  | 3 => .int
  | 4 => .int
  | 5 => .int
  | 6 => .int
  | 7 => .array .int
  | 8 => .array .int
  | 9 => .array .int
  | 10 => .array .int
  | 11 => .array .int
  | 12 => .array .int
  | 13 => .array .boolean
  | 14 => .array .boolean
  | 15 => .array .boolean
  | 16 => .array .boolean
  | 17 => .array .int
  | 18 => .array .int
  | 19 => .array .int
  | 20 => .array .long
  | 21 => .boolean
  | 22 => .int
  | 23 => .int
  | 24 => .int
  | 25 => .int
  | 26 => .int
  | 27 => .array .int
  | _ => .int
theorem nmX5 : ∀ a, a < 29 → ∀ b, b < 29 → a ≠ b → (TX5 a).2.1 ≠ (TX5 b).2.1 := by decide +kernel
theorem tyX5_ok : ∀ k, k < 29 → parseFieldDescriptor (TX5 k).2.2.1 = some (tyX5 k) := by decide +kernel
abbrev cX5_init : ByteArray := prog_7_method_1_code
def yX5_init : MethodName := ⟨RX5, "<init>", "(III)V"⟩
abbrev cX5_held : ByteArray := prog_7_method_2_code
def yX5_held : MethodName := ⟨RX5, "held", "(III)I"⟩
abbrev cX5_thrown : ByteArray := prog_7_method_3_code
def yX5_thrown : MethodName := ⟨RX5, "thrown", "()I"⟩
abbrev cX5_isGroup : ByteArray := prog_7_method_4_code
def yX5_isGroup : MethodName := ⟨RX5, "isGroup", "(I)Z"⟩
abbrev cX5_isDetail : ByteArray := prog_7_method_5_code
def yX5_isDetail : MethodName := ⟨RX5, "isDetail", "(I)Z"⟩
abbrev cX5_find : ByteArray := prog_7_method_6_code
def yX5_find : MethodName := ⟨RX5, "find", "(II)I"⟩
abbrev cX5_group : ByteArray := prog_7_method_7_code
def yX5_group : MethodName := ⟨RX5, "group", "(II)I"⟩
abbrev cX5_fits : ByteArray := prog_7_method_8_code
def yX5_fits : MethodName := ⟨RX5, "fits", "(IIZ)Z"⟩
abbrev cX5_line : ByteArray := prog_7_method_9_code
def yX5_line : MethodName := ⟨RX5, "line", "(IIZ)I"⟩
abbrev cX5_isOf : ByteArray := prog_7_method_10_code
def yX5_isOf : MethodName := ⟨RX5, "isOf", "(II)Z"⟩
abbrev cX5_sum : ByteArray := prog_7_method_11_code
def yX5_sum : MethodName := ⟨RX5, "sum", "(III)I"⟩
abbrev cX5_control : ByteArray := prog_7_method_12_code
def yX5_control : MethodName := ⟨RX5, "control", "(I)I"⟩
abbrev cX5_set : ByteArray := prog_7_method_13_code
def yX5_set : MethodName := ⟨RX5, "set", "(II)I"⟩
abbrev cX5_suppress : ByteArray := prog_7_method_14_code
def yX5_suppress : MethodName := ⟨RX5, "suppress", "(I)I"⟩
abbrev cX5_indicate : ByteArray := prog_7_method_15_code
def yX5_indicate : MethodName := ⟨RX5, "indicate", "(I)I"⟩
abbrev cX5_put : ByteArray := prog_7_method_16_code
def yX5_put : MethodName := ⟨RX5, "put", "(IIII)V"⟩
abbrev cX5_isOn : ByteArray := prog_7_method_17_code
def yX5_isOn : MethodName := ⟨RX5, "isOn", "(I)Z"⟩
abbrev cX5_putAll : ByteArray := prog_7_method_18_code
def yX5_putAll : MethodName := ⟨RX5, "putAll", "(III)V"⟩
abbrev cX5_putFrom : ByteArray := prog_7_method_19_code
def yX5_putFrom : MethodName := ⟨RX5, "putFrom", "(III)V"⟩
abbrev cX5_alone : ByteArray := prog_7_method_20_code
def yX5_alone : MethodName := ⟨RX5, "alone", "(I)V"⟩
abbrev cX5_begin : ByteArray := prog_7_method_21_code
def yX5_begin : MethodName := ⟨RX5, "begin", "()V"⟩
abbrev cX5_over : ByteArray := prog_7_method_22_code
def yX5_over : MethodName := ⟨RX5, "over", "()V"⟩
abbrev cX5_fresh : ByteArray := prog_7_method_23_code
def yX5_fresh : MethodName := ⟨RX5, "fresh", "()V"⟩
abbrev cX5_top : ByteArray := prog_7_method_24_code
def yX5_top : MethodName := ⟨RX5, "top", "(I)I"⟩
abbrev cX5_inBody : ByteArray := prog_7_method_25_code
def yX5_inBody : MethodName := ⟨RX5, "inBody", "(II)V"⟩
abbrev cX5_head : ByteArray := prog_7_method_26_code
def yX5_head : MethodName := ⟨RX5, "head", "(I)V"⟩
abbrev cX5_firstSum : ByteArray := prog_7_method_27_code
def yX5_firstSum : MethodName := ⟨RX5, "firstSum", "(I)I"⟩
abbrev cX5_foot : ByteArray := prog_7_method_28_code
def yX5_foot : MethodName := ⟨RX5, "foot", "(I)V"⟩
abbrev cX5_keep : ByteArray := prog_7_method_29_code
def yX5_keep : MethodName := ⟨RX5, "keep", "()V"⟩
abbrev cX5_initiate : ByteArray := prog_7_method_30_code
def yX5_initiate : MethodName := ⟨RX5, "initiate", "()I"⟩
abbrev cX5_changed : ByteArray := prog_7_method_31_code
def yX5_changed : MethodName := ⟨RX5, "changed", "()I"⟩
abbrev cX5_generate : ByteArray := prog_7_method_32_code
def yX5_generate : MethodName := ⟨RX5, "generate", "(IJ)I"⟩
abbrev cX5_terminate : ByteArray := prog_7_method_33_code
def yX5_terminate : MethodName := ⟨RX5, "terminate", "()I"⟩
abbrev cX5_at : ByteArray := prog_7_method_34_code
def yX5_at : MethodName := ⟨RX5, "at", "(II)I"⟩
abbrev cX5_lines : ByteArray := prog_7_method_35_code
def yX5_lines : MethodName := ⟨RX5, "lines", "()I"⟩
abbrev cX5_total : ByteArray := prog_7_method_36_code
def yX5_total : MethodName := ⟨RX5, "total", "(I)J"⟩
abbrev cX5_counter : ByteArray := prog_7_method_37_code
def yX5_counter : MethodName := ⟨RX5, "counter", "(I)I"⟩
def RJx145de : String := "java/io/Serializable"
def TJx145de : u_T := fun k => match k with
  | _ => ("", "", "", false)
def tyJx145de : Nat → FieldType := fun k => match k with
  | _ => .int
theorem nmJx145de : ∀ a, a < 0 → ∀ b, b < 0 → a ≠ b → (TJx145de a).2.1 ≠ (TJx145de b).2.1 := by decide +kernel
theorem tyJx145de_ok : ∀ k, k < 0 → parseFieldDescriptor (TJx145de k).2.2.1 = some (tyJx145de k) := by decide +kernel
def RJx00060 : String := "java/lang/ArrayIndexOutOfBoundsException"
def TJx00060 : u_T := fun k => match k with
  | 0 => ("java/lang/Throwable", "cause", "Ljava/lang/Throwable;", false)
  | 1 => ("java/lang/Throwable", "stackTrace", "[Ljava/lang/StackTraceElement;", false)
  | 2 => ("java/lang/Throwable", "suppressedExceptions", "Ljava/util/List;", false)
  | 3 => ("java/lang/Throwable", "detailMessage", "Ljava/lang/String;", false)
  | 4 => ("java/lang/Throwable", "backtrace", "Ljava/lang/Object;", false)
  | _ => ("java/lang/Throwable", "depth", "I", false)
def tyJx00060 : Nat → FieldType := fun k => match k with
  | 0 => .object "java/lang/Throwable"
  | 1 => .array (.object "java/lang/StackTraceElement")
  | 2 => .object "java/util/List"
  | 3 => .object "java/lang/String"
  | 4 => .object "java/lang/Object"
  | _ => .int
theorem nmJx00060 : ∀ a, a < 6 → ∀ b, b < 6 → a ≠ b → (TJx00060 a).2.1 ≠ (TJx00060 b).2.1 := by decide +kernel
theorem tyJx00060_ok : ∀ k, k < 6 → parseFieldDescriptor (TJx00060 k).2.2.1 = some (tyJx00060 k) := by decide +kernel
abbrev cJx00060_init_a7421 : ByteArray := prog_9_method_2_code
def yJx00060_init_a7421 : MethodName := ⟨RJx00060, "<init>", "(Ljava/lang/String;)V"⟩
def RJx8e188 : String := "java/lang/Cloneable"
def TJx8e188 : u_T := fun k => match k with
  | _ => ("", "", "", false)
def tyJx8e188 : Nat → FieldType := fun k => match k with
  | _ => .int
theorem nmJx8e188 : ∀ a, a < 0 → ∀ b, b < 0 → a ≠ b → (TJx8e188 a).2.1 ≠ (TJx8e188 b).2.1 := by decide +kernel
theorem tyJx8e188_ok : ∀ k, k < 0 → parseFieldDescriptor (TJx8e188 k).2.2.1 = some (tyJx8e188 k) := by decide +kernel
def RJxab1ab : String := "java/lang/Iterable"
def TJxab1ab : u_T := fun k => match k with
  | _ => ("", "", "", false)
def tyJxab1ab : Nat → FieldType := fun k => match k with
  | _ => .int
theorem nmJxab1ab : ∀ a, a < 0 → ∀ b, b < 0 → a ≠ b → (TJxab1ab a).2.1 ≠ (TJxab1ab b).2.1 := by decide +kernel
theorem tyJxab1ab_ok : ∀ k, k < 0 → parseFieldDescriptor (TJxab1ab k).2.2.1 = some (tyJxab1ab k) := by decide +kernel
def RJ9 : String := "java/lang/Math"
def TJ9 : u_T := fun k => match k with
  | _ => ("", "", "", false)
def tyJ9 : Nat → FieldType := fun k => match k with
  | _ => .int
theorem nmJ9 : ∀ a, a < 0 → ∀ b, b < 0 → a ≠ b → (TJ9 a).2.1 ≠ (TJ9 b).2.1 := by decide +kernel
theorem tyJ9_ok : ∀ k, k < 0 → parseFieldDescriptor (TJ9 k).2.2.1 = some (tyJ9 k) := by decide +kernel
abbrev cJ9_max_7cf53 : ByteArray := prog_14_method_65_code
def yJ9_max_7cf53 : MethodName := ⟨RJ9, "max", "(II)I"⟩
abbrev cJ9_min_7cf53 : ByteArray := prog_14_method_69_code
def yJ9_min_7cf53 : MethodName := ⟨RJ9, "min", "(II)I"⟩
def RJ0 : String := "java/lang/String"
def TJ0 : u_T := fun k => match k with
  | _ => ("", "", "", false)
def tyJ0 : Nat → FieldType := fun k => match k with
  | _ => .int
theorem nmJ0 : ∀ a, a < 0 → ∀ b, b < 0 → a ≠ b → (TJ0 a).2.1 ≠ (TJ0 b).2.1 := by decide +kernel
theorem tyJ0_ok : ∀ k, k < 0 → parseFieldDescriptor (TJ0 k).2.2.1 = some (tyJ0 k) := by decide +kernel
def RJ10 : String := "java/lang/System"
def TJ10 : u_T := fun k => match k with
  | _ => ("", "", "", false)
def tyJ10 : Nat → FieldType := fun k => match k with
  | _ => .int
theorem nmJ10 : ∀ a, a < 0 → ∀ b, b < 0 → a ≠ b → (TJ10 a).2.1 ≠ (TJ10 b).2.1 := by decide +kernel
theorem tyJ10_ok : ∀ k, k < 0 → parseFieldDescriptor (TJ10 k).2.2.1 = some (tyJ10 k) := by decide +kernel
def RJxa1e45 : String := "java/util/AbstractCollection"
def TJxa1e45 : u_T := fun k => match k with
  | _ => ("", "", "", false)
def tyJxa1e45 : Nat → FieldType := fun k => match k with
  | _ => .int
theorem nmJxa1e45 : ∀ a, a < 0 → ∀ b, b < 0 → a ≠ b → (TJxa1e45 a).2.1 ≠ (TJxa1e45 b).2.1 := by decide +kernel
theorem tyJxa1e45_ok : ∀ k, k < 0 → parseFieldDescriptor (TJxa1e45 k).2.2.1 = some (tyJxa1e45 k) := by decide +kernel
abbrev cJxa1e45_init_da8c8 : ByteArray := prog_19_method_1_code
def yJxa1e45_init_da8c8 : MethodName := ⟨RJxa1e45, "<init>", "()V"⟩
def RJxc12de : String := "java/util/AbstractList"
def TJxc12de : u_T := fun k => match k with
  | _ => ("", "", "", false)
def tyJxc12de : Nat → FieldType := fun k => match k with
  | _ => .int
theorem nmJxc12de : ∀ a, a < 0 → ∀ b, b < 0 → a ≠ b → (TJxc12de a).2.1 ≠ (TJxc12de b).2.1 := by decide +kernel
theorem tyJxc12de_ok : ∀ k, k < 0 → parseFieldDescriptor (TJxc12de k).2.2.1 = some (tyJxc12de k) := by decide +kernel
abbrev cJxc12de_init_da8c8 : ByteArray := prog_20_method_1_code
def yJxc12de_init_da8c8 : MethodName := ⟨RJxc12de, "<init>", "()V"⟩
def RJx4a65c : String := "java/util/ArrayList"
def TJx4a65c : u_T := fun k => match k with
  | 0 => ("java/util/AbstractList", "modCount", "I", false)
  | 1 => ("java/util/ArrayList", "elementData", "[Ljava/lang/Object;", false)
  | _ => ("java/util/ArrayList", "size", "I", false)
def tyJx4a65c : Nat → FieldType := fun k => match k with
  | 0 => .int
  | 1 => .array (.object "java/lang/Object")
  | _ => .int
theorem nmJx4a65c : ∀ a, a < 3 → ∀ b, b < 3 → a ≠ b → (TJx4a65c a).2.1 ≠ (TJx4a65c b).2.1 := by decide +kernel
theorem tyJx4a65c_ok : ∀ k, k < 3 → parseFieldDescriptor (TJx4a65c k).2.2.1 = some (tyJx4a65c k) := by decide +kernel
abbrev cJx4a65c_init_da8c8 : ByteArray := prog_21_method_2_code
def yJx4a65c_init_da8c8 : MethodName := ⟨RJx4a65c, "<init>", "()V"⟩
abbrev cJx4a65c_grow_92f84 : ByteArray := prog_21_method_6_code
def yJx4a65c_grow_92f84 : MethodName := ⟨RJx4a65c, "grow", "(I)[Ljava/lang/Object;"⟩
abbrev cJx4a65c_grow_d5877 : ByteArray := prog_21_method_7_code
def yJx4a65c_grow_d5877 : MethodName := ⟨RJx4a65c, "grow", "()[Ljava/lang/Object;"⟩
abbrev cJx4a65c_size_8abf5 : ByteArray := prog_21_method_8_code
def yJx4a65c_size_8abf5 : MethodName := ⟨RJx4a65c, "size", "()I"⟩
abbrev cJx4a65c_elementData_915e3 : ByteArray := prog_21_method_18_code
def yJx4a65c_elementData_915e3 : MethodName := ⟨RJx4a65c, "elementData", "(I)Ljava/lang/Object;"⟩
abbrev cJx4a65c_get_915e3 : ByteArray := prog_21_method_20_code
def yJx4a65c_get_915e3 : MethodName := ⟨RJx4a65c, "get", "(I)Ljava/lang/Object;"⟩
abbrev cJx4a65c_add_72be8 : ByteArray := prog_21_method_24_code
def yJx4a65c_add_72be8 : MethodName := ⟨RJx4a65c, "add", "(Ljava/lang/Object;[Ljava/lang/Object;I)V"⟩
abbrev cJx4a65c_add_9ea2d : ByteArray := prog_21_method_25_code
def yJx4a65c_add_9ea2d : MethodName := ⟨RJx4a65c, "add", "(Ljava/lang/Object;)Z"⟩
def RJ7 : String := "java/util/Arrays"
def TJ7 : u_T := fun k => match k with
  | _ => ("", "", "", false)
def tyJ7 : Nat → FieldType := fun k => match k with
  | _ => .int
theorem nmJ7 : ∀ a, a < 0 → ∀ b, b < 0 → a ≠ b → (TJ7 a).2.1 ≠ (TJ7 b).2.1 := by decide +kernel
theorem tyJ7_ok : ∀ k, k < 0 → parseFieldDescriptor (TJ7 k).2.2.1 = some (tyJ7 k) := by decide +kernel
abbrev cJ7_copyOf_1904c : ByteArray := prog_22_method_119_code
def yJ7_copyOf_1904c : MethodName := ⟨RJ7, "copyOf", "([Ljava/lang/Object;I)[Ljava/lang/Object;"⟩
abbrev cJ7_copyOf_6403c : ByteArray := prog_22_method_120_code
def yJ7_copyOf_6403c : MethodName := ⟨RJ7, "copyOf", "([Ljava/lang/Object;ILjava/lang/Class;)[Ljava/lang/Object;"⟩
def RJx5ef63 : String := "java/util/Collection"
def TJx5ef63 : u_T := fun k => match k with
  | _ => ("", "", "", false)
def tyJx5ef63 : Nat → FieldType := fun k => match k with
  | _ => .int
theorem nmJx5ef63 : ∀ a, a < 0 → ∀ b, b < 0 → a ≠ b → (TJx5ef63 a).2.1 ≠ (TJx5ef63 b).2.1 := by decide +kernel
theorem tyJx5ef63_ok : ∀ k, k < 0 → parseFieldDescriptor (TJx5ef63 k).2.2.1 = some (tyJx5ef63 k) := by decide +kernel
def RJxbd725 : String := "java/util/List"
def TJxbd725 : u_T := fun k => match k with
  | _ => ("", "", "", false)
def tyJxbd725 : Nat → FieldType := fun k => match k with
  | _ => .int
theorem nmJxbd725 : ∀ a, a < 0 → ∀ b, b < 0 → a ≠ b → (TJxbd725 a).2.1 ≠ (TJxbd725 b).2.1 := by decide +kernel
theorem tyJxbd725_ok : ∀ k, k < 0 → parseFieldDescriptor (TJxbd725 k).2.2.1 = some (tyJxbd725 k) := by decide +kernel
def RJ15 : String := "java/util/Objects"
def TJ15 : u_T := fun k => match k with
  | _ => ("", "", "", false)
def tyJ15 : Nat → FieldType := fun k => match k with
  | _ => .int
theorem nmJ15 : ∀ a, a < 0 → ∀ b, b < 0 → a ≠ b → (TJ15 a).2.1 ≠ (TJ15 b).2.1 := by decide +kernel
theorem tyJ15_ok : ∀ k, k < 0 → parseFieldDescriptor (TJ15 k).2.2.1 = some (tyJ15 k) := by decide +kernel
abbrev cJ15_checkIndex_7cf53 : ByteArray := prog_25_method_17_code
def yJ15_checkIndex_7cf53 : MethodName := ⟨RJ15, "checkIndex", "(II)I"⟩
def RJxf0a74 : String := "java/util/RandomAccess"
def TJxf0a74 : u_T := fun k => match k with
  | _ => ("", "", "", false)
def tyJxf0a74 : Nat → FieldType := fun k => match k with
  | _ => .int
theorem nmJxf0a74 : ∀ a, a < 0 → ∀ b, b < 0 → a ≠ b → (TJxf0a74 a).2.1 ≠ (TJxf0a74 b).2.1 := by decide +kernel
theorem tyJxf0a74_ok : ∀ k, k < 0 → parseFieldDescriptor (TJxf0a74 k).2.2.1 = some (tyJxf0a74 k) := by decide +kernel
def RJxa66e6 : String := "java/util/SequencedCollection"
def TJxa66e6 : u_T := fun k => match k with
  | _ => ("", "", "", false)
def tyJxa66e6 : Nat → FieldType := fun k => match k with
  | _ => .int
theorem nmJxa66e6 : ∀ a, a < 0 → ∀ b, b < 0 → a ≠ b → (TJxa66e6 a).2.1 ≠ (TJxa66e6 b).2.1 := by decide +kernel
theorem tyJxa66e6_ok : ∀ k, k < 0 → parseFieldDescriptor (TJxa66e6 k).2.2.1 = some (tyJxa66e6 k) := by decide +kernel
def RJ8 : String := "jdk/internal/util/ArraysSupport"
def TJ8 : u_T := fun k => match k with
  | _ => ("", "", "", false)
def tyJ8 : Nat → FieldType := fun k => match k with
  | _ => .int
theorem nmJ8 : ∀ a, a < 0 → ∀ b, b < 0 → a ≠ b → (TJ8 a).2.1 ≠ (TJ8 b).2.1 := by decide +kernel
theorem tyJ8_ok : ∀ k, k < 0 → parseFieldDescriptor (TJ8 k).2.2.1 = some (tyJ8 k) := by decide +kernel
abbrev cJ8_newLength_cabcc : ByteArray := prog_28_method_27_code
def yJ8_newLength_cabcc : MethodName := ⟨RJ8, "newLength", "(III)I"⟩
abbrev cJ8_hugeLength_7cf53 : ByteArray := prog_28_method_28_code
def yJ8_hugeLength_7cf53 : MethodName := ⟨RJ8, "hugeLength", "(II)I"⟩
def RJ3 : String := "jdk/internal/util/Preconditions"
def TJ3 : u_T := fun k => match k with
  | _ => ("", "", "", false)
def tyJ3 : Nat → FieldType := fun k => match k with
  | _ => .int
theorem nmJ3 : ∀ a, a < 0 → ∀ b, b < 0 → a ≠ b → (TJ3 a).2.1 ≠ (TJ3 b).2.1 := by decide +kernel
theorem tyJ3_ok : ∀ k, k < 0 → parseFieldDescriptor (TJ3 k).2.2.1 = some (tyJ3 k) := by decide +kernel
abbrev cJ3_checkIndex_8e157 : ByteArray := prog_29_method_11_code
def yJ3_checkIndex_8e157 : MethodName := ⟨RJ3, "checkIndex", "(IILjava/util/function/BiFunction;)I"⟩
def RL : String := "ReportWriterLaw"
abbrev cL_cell : ByteArray := method_2_code
def yL_cell : MethodName := ⟨RL, "cell", "([II)I"⟩
abbrev cL_at : ByteArray := method_3_code
def yL_at : MethodName := ⟨RL, "at", "(LReportWriter;II[J)I"⟩
abbrev cL_law : ByteArray := code
def yL_law : MethodName := ⟨RL, "law", "([I)Z"⟩
abbrev vwCl : List vw_C := [(RJx00060, TJx00060, 6), (RJx4a65c, TJx4a65c, 3), (RX0, TX0, 10), (RX1, TX1, 2), (RX2, TX2, 1), (RX3, TX3, 5), (RX4, TX4, 16), (RX5, TX5, 29)]
end
section
-- ===== tables of the program: laid by wip/gen/gen_tables.py =====
def jtr (w : Cond) : Bool := match w with
  | .fieldLinkNest _ _ _ _ _ _ => true
  | .methodLinkNest _ _ _ _ => true
  | .castable _ _ => true
  | .declares _ => true
  | .arrayClass _ => true
  | .arrayOver (.object _) => true
  | w => w.onTables && w.keeps
def jwords : List Cond := lw_tbl.filter jtr
theorem jwords_tr : ∀ w ∈ jwords, jtr w = true := fun _ h => (List.mem_filter.mp h).2
theorem jmw {w : Cond} (p : Nat) (h : lw_tbl[p]? = some w) (ht : jtr w = true) : w ∈ jwords := List.mem_filter.mpr ⟨List.mem_of_getElem? h, ht⟩
theorem jin_p (ws : List Cond) (ps : List Nat) (hp : ws = ps.filterMap (fun i => lw_tbl[i]?)) (h : ws.all jtr = true) : ∀ w ∈ ws, w ∈ jwords := by
  intro w hw
  have h1 := List.all_eq_true.mp h w hw
  rw [hp] at hw
  obtain ⟨i, -, hi⟩ := List.mem_filterMap.mp hw
  exact jmw i hi h1
def jmT : List (MethodName × ByteArray × Nat × Option FieldType × Nat) := [(yX0_init, cX0_init, 4, none, 0), (yX0_addLine, cX0_addLine, 3, none, 0), (yX0_height, cX0_height, 1, (some FieldType.int), 0), (yX0_takesItsTurn, cX0_takesItsTurn, 2, (some FieldType.boolean), 0), (yX1_init, cX1_init, 1, none, 1), (yX1_clear, cX1_clear, 1, none, 1), (yX1_add, cX1_add, 9, none, 1), (yX1_has, cX1_has, 3, (some FieldType.boolean), 1), (yX1_cell, cX1_cell, 4, (some FieldType.int), 1), (yX2_init, cX2_init, 1, none, 2), (yX3_init, cX3_init, 5, none, 3), (yX4_init, cX4_init, 4, none, 4), (yX4_group, cX4_group, 4, (some FieldType.int), 4), (yX4_line, cX4_line, 6, (some FieldType.int), 4), (yX4_sum, cX4_sum, 5, (some FieldType.int), 4), (yX4_control, cX4_control, 2, (some FieldType.int), 4), (yX4_set, cX4_set, 4, (some FieldType.int), 4), (yX4_initiate, cX4_initiate, 2, (some FieldType.int), 4), (yX4_generate, cX4_generate, 7, (some FieldType.int), 4), (yX4_terminate, cX4_terminate, 1, (some FieldType.int), 4), (yX4_at, cX4_at, 3, (some FieldType.int), 4), (yX4_lines, cX4_lines, 1, (some FieldType.int), 4), (yX4_total, cX4_total, 3, (some FieldType.long), 4), (yX4_counter, cX4_counter, 2, (some FieldType.int), 4), (yX4_suppress, cX4_suppress, 3, (some FieldType.int), 4), (yX4_indicate, cX4_indicate, 4, (some FieldType.int), 4), (yX4_held, cX4_held, 3, (some FieldType.int), 4), (yX4_isOfBody, cX4_isOfBody, 1, (some FieldType.boolean), 4), (yX4_isKindOfLevel, cX4_isKindOfLevel, 4, (some FieldType.boolean), 4), (yX4_groupNumbered, cX4_groupNumbered, 2, (some (FieldType.object "ReportWriter$Group")), 4), (yX4_groupOf, cX4_groupOf, 5, (some (FieldType.object "ReportWriter$Group")), 4), (yX4_sumNumbered, cX4_sumNumbered, 2, (some (FieldType.object "ReportWriter$Sum")), 4), (yX4_firstSumOf, cX4_firstSumOf, 4, (some (FieldType.object "ReportWriter$Sum")), 4), (yX4_isSummable, cX4_isSummable, 4, (some FieldType.boolean), 4), (yX4_topmostLine, cX4_topmostLine, 2, (some FieldType.int), 4), (yX4_lowestLine, cX4_lowestLine, 2, (some FieldType.int), 4), (yX4_startOnNewPage, cX4_startOnNewPage, 4, (some FieldType.int), 4), (yX4_startInBody, cX4_startInBody, 2, (some FieldType.int), 4), (yX4_fitsWithLine, cX4_fitsWithLine, 5, (some FieldType.boolean), 4), (yX4_printInBody, cX4_printInBody, 6, none, 4), (yX4_beginPage, cX4_beginPage, 1, none, 4), (yX4_endPage, cX4_endPage, 1, none, 4), (yX4_countPage, cX4_countPage, 1, none, 4), (yX4_printOutsideBody, cX4_printOutsideBody, 2, none, 4), (yX4_printOnOwnPage, cX4_printOnOwnPage, 2, none, 4), (yX4_printFrom, cX4_printFrom, 6, none, 4), (yX4_changedLevel, cX4_changedLevel, 2, (some FieldType.int), 4), (yX4_printControlHeads, cX4_printControlHeads, 3, none, 4), (yX4_printControlFoots, cX4_printControlFoots, 5, none, 4), (yX4_addToSums, cX4_addToSums, 6, none, 4), (yX4_rollSums, cX4_rollSums, 5, none, 4), (yX4_resetSums, cX4_resetSums, 4, none, 4), (yX5_init, cX5_init, 4, none, 5), (yX5_held, cX5_held, 3, (some FieldType.int), 5), (yX5_thrown, cX5_thrown, 1, (some FieldType.int), 5), (yX5_isGroup, cX5_isGroup, 2, (some FieldType.boolean), 5), (yX5_isDetail, cX5_isDetail, 2, (some FieldType.boolean), 5), (yX5_find, cX5_find, 5, (some FieldType.int), 5), (yX5_group, cX5_group, 4, (some FieldType.int), 5), (yX5_fits, cX5_fits, 11, (some FieldType.boolean), 5), (yX5_line, cX5_line, 4, (some FieldType.int), 5), (yX5_isOf, cX5_isOf, 4, (some FieldType.boolean), 5), (yX5_sum, cX5_sum, 4, (some FieldType.int), 5), (yX5_control, cX5_control, 2, (some FieldType.int), 5), (yX5_set, cX5_set, 4, (some FieldType.int), 5), (yX5_suppress, cX5_suppress, 3, (some FieldType.int), 5), (yX5_indicate, cX5_indicate, 3, (some FieldType.int), 5), (yX5_put, cX5_put, 5, none, 5), (yX5_isOn, cX5_isOn, 3, (some FieldType.boolean), 5), (yX5_putAll, cX5_putAll, 6, none, 5), (yX5_putFrom, cX5_putFrom, 4, none, 5), (yX5_alone, cX5_alone, 3, none, 5), (yX5_begin, cX5_begin, 2, none, 5), (yX5_over, cX5_over, 2, none, 5), (yX5_fresh, cX5_fresh, 2, none, 5), (yX5_top, cX5_top, 2, (some FieldType.int), 5), (yX5_inBody, cX5_inBody, 5, none, 5), (yX5_head, cX5_head, 3, none, 5), (yX5_firstSum, cX5_firstSum, 4, (some FieldType.int), 5), (yX5_foot, cX5_foot, 6, none, 5), (yX5_keep, cX5_keep, 2, none, 5), (yX5_initiate, cX5_initiate, 2, (some FieldType.int), 5), (yX5_changed, cX5_changed, 3, (some FieldType.int), 5), (yX5_generate, cX5_generate, 7, (some FieldType.int), 5), (yX5_terminate, cX5_terminate, 2, (some FieldType.int), 5), (yX5_at, cX5_at, 3, (some FieldType.int), 5), (yX5_lines, cX5_lines, 1, (some FieldType.int), 5), (yX5_total, cX5_total, 2, (some FieldType.long), 5), (yX5_counter, cX5_counter, 2, (some FieldType.int), 5), (yJx00060_init_a7421, cJx00060_init_a7421, 2, none, 6), (yJ9_max_7cf53, cJ9_max_7cf53, 2, (some FieldType.int), 7), (yJ9_min_7cf53, cJ9_min_7cf53, 2, (some FieldType.int), 7), (yJxa1e45_init_da8c8, cJxa1e45_init_da8c8, 1, none, 8), (yJxc12de_init_da8c8, cJxc12de_init_da8c8, 1, none, 9), (yJx4a65c_init_da8c8, cJx4a65c_init_da8c8, 1, none, 10), (yJx4a65c_grow_92f84, cJx4a65c_grow_92f84, 4, (some (FieldType.array (FieldType.object "java/lang/Object"))), 10), (yJx4a65c_grow_d5877, cJx4a65c_grow_d5877, 1, (some (FieldType.array (FieldType.object "java/lang/Object"))), 10), (yJx4a65c_size_8abf5, cJx4a65c_size_8abf5, 1, (some FieldType.int), 10), (yJx4a65c_elementData_915e3, cJx4a65c_elementData_915e3, 2, (some (FieldType.object "java/lang/Object")), 10), (yJx4a65c_get_915e3, cJx4a65c_get_915e3, 2, (some (FieldType.object "java/lang/Object")), 10), (yJx4a65c_add_72be8, cJx4a65c_add_72be8, 4, none, 10), (yJx4a65c_add_9ea2d, cJx4a65c_add_9ea2d, 2, (some FieldType.boolean), 10), (yJ7_copyOf_1904c, cJ7_copyOf_1904c, 2, (some (FieldType.array (FieldType.object "java/lang/Object"))), 11), (yJ7_copyOf_6403c, cJ7_copyOf_6403c, 4, (some (FieldType.array (FieldType.object "java/lang/Object"))), 11), (yJ15_checkIndex_7cf53, cJ15_checkIndex_7cf53, 2, (some FieldType.int), 12), (yJ8_newLength_cabcc, cJ8_newLength_cabcc, 4, (some FieldType.int), 13), (yJ8_hugeLength_7cf53, cJ8_hugeLength_7cf53, 3, (some FieldType.int), 13), (yJ3_checkIndex_8e157, cJ3_checkIndex_8e157, 3, (some FieldType.int), 14), (yL_cell, cL_cell, 2, (some FieldType.int), 15), (yL_at, cL_at, 5, (some FieldType.int), 15), (yL_law, cL_law, 7, (some .boolean), 15)]
def jy (μ : Nat) : MethodName := match jmT[μ]? with
  | some q => q.1
  | none => ⟨"", "", ""⟩
def jcode (μ : Nat) : ByteArray := match jmT[μ]? with
  | some q => q.2.1
  | none => ⟨#[]⟩
def jmaxl (μ : Nat) : Nat := match jmT[μ]? with
  | some q => q.2.2.1
  | none => 0
def jret (μ : Nat) : Option FieldType := match jmT[μ]? with
  | some q => q.2.2.2.1
  | none => none
def jow (μ : Nat) : Nat := match jmT[μ]? with
  | some q => q.2.2.2.2
  | none => 999
def jcnT : List String := [RX0, RX1, RX2, RX3, RX4, RX5, RJx00060, RJ9, RJxa1e45, RJxc12de, RJx4a65c, RJ7, RJ15, RJ8, RJ3, RL]
def jcn (o : Nat) : String := match jcnT[o]? with
  | some q => q
  | none => ""
theorem jmT_cls : ∀ q ∈ jmT, q.1.cls = jcn q.2.2.2.2 := by decide +kernel
theorem jow_cn {μ : Nat} (h : jow μ ≠ 999) : (jy μ).cls = jcn (jow μ) := by
  unfold jow at h ⊢
  unfold jy
  cases hq : jmT[μ]? with
  | none => rw [hq] at h; exact absurd rfl h
  | some q => exact jmT_cls q (List.mem_of_getElem? hq)
def jty (κ : Nat) : Nat → FieldType := match κ with
  | 0 => tyJx00060
  | 1 => tyJx4a65c
  | 2 => tyX0
  | 3 => tyX1
  | 4 => tyX2
  | 5 => tyX3
  | 6 => tyX4
  | 7 => tyX5
  | _ => fun _ => .int
theorem jcl_in_0 : ∀ w ∈ u_ws RJx00060 TJx00060 6, w ∈ jwords := jin_p _ [536, 538, 540, 542, 544, 589] (by decide +kernel) (by decide +kernel)
theorem jcl_in_1 : ∀ w ∈ u_ws RJx4a65c TJx4a65c 3, w ∈ jwords := jin_p _ [100, 96, 98] (by decide +kernel) (by decide +kernel)
theorem jcl_in_2 : ∀ w ∈ u_ws RX0 TX0 10, w ∈ jwords := jin_p _ [234, 236, 238, 240, 242, 244, 246, 248, 250, 252] (by decide +kernel) (by decide +kernel)
theorem jcl_in_3 : ∀ w ∈ u_ws RX1 TX1 2, w ∈ jwords := jin_p _ [114, 116] (by decide +kernel) (by decide +kernel)
theorem jcl_in_4 : ∀ w ∈ u_ws RX2 TX2 1, w ∈ jwords := jin_p _ [434] (by decide +kernel) (by decide +kernel)
theorem jcl_in_5 : ∀ w ∈ u_ws RX3 TX3 5, w ∈ jwords := jin_p _ [370, 372, 374, 376, 378] (by decide +kernel) (by decide +kernel)
theorem jcl_in_6 : ∀ w ∈ u_ws RX4 TX4 16, w ∈ jwords := jin_p _ [145, 147, 149, 151, 153, 155, 157, 159, 161, 163, 165, 167, 169, 171, 173, 175] (by decide +kernel) (by decide +kernel)
theorem jcl_in_7 : ∀ w ∈ u_ws RX5 TX5 29, w ∈ jwords := jin_p _ [638, 640, 642, 644, 646, 648, 650, 652, 654, 656, 658, 660, 662, 664, 666, 668, 670, 672, 674, 676, 678, 680, 682, 684, 686, 688, 690, 692, 694] (by decide +kernel) (by decide +kernel)
theorem jcl_in : ∀ (κ : Nat) (q : vw_C), vwCl[κ]? = some q → ∀ w ∈ u_ws q.1 q.2.1 q.2.2, w ∈ jwords := by
  intro κ q h
  have hl : κ < 8 := (List.getElem?_eq_some_iff.mp h).1
  match κ, hl, h with
  | 0, _, h => cases h; exact jcl_in_0
  | 1, _, h => cases h; exact jcl_in_1
  | 2, _, h => cases h; exact jcl_in_2
  | 3, _, h => cases h; exact jcl_in_3
  | 4, _, h => cases h; exact jcl_in_4
  | 5, _, h => cases h; exact jcl_in_5
  | 6, _, h => cases h; exact jcl_in_6
  | 7, _, h => cases h; exact jcl_in_7
theorem jcl_ty : ∀ (κ : Nat) (q : vw_C), vwCl[κ]? = some q → ∀ k, k < q.2.2 → parseFieldDescriptor (q.2.1 k).2.2.1 = some (jty κ k) := by
  intro κ q h
  have hl : κ < 8 := (List.getElem?_eq_some_iff.mp h).1
  match κ, hl, h with
  | 0, _, h => cases h; exact tyJx00060_ok
  | 1, _, h => cases h; exact tyJx4a65c_ok
  | 2, _, h => cases h; exact tyX0_ok
  | 3, _, h => cases h; exact tyX1_ok
  | 4, _, h => cases h; exact tyX2_ok
  | 5, _, h => cases h; exact tyX3_ok
  | 6, _, h => cases h; exact tyX4_ok
  | 7, _, h => cases h; exact tyX5_ok
theorem jcl_nm : ∀ (κ : Nat) (q : vw_C), vwCl[κ]? = some q → ∀ a, a < q.2.2 → ∀ b, b < q.2.2 → a ≠ b → (q.2.1 a).2.1 ≠ (q.2.1 b).2.1 := by
  intro κ q h
  have hl : κ < 8 := (List.getElem?_eq_some_iff.mp h).1
  match κ, hl, h with
  | 0, _, h => cases h; exact nmJx00060
  | 1, _, h => cases h; exact nmJx4a65c
  | 2, _, h => cases h; exact nmX0
  | 3, _, h => cases h; exact nmX1
  | 4, _, h => cases h; exact nmX2
  | 5, _, h => cases h; exact nmX3
  | 6, _, h => cases h; exact nmX4
  | 7, _, h => cases h; exact nmX5
def jktT : List (Nat × FieldType) := [(53, .object "java/lang/Object"), (60, .int), (61, .int), (62, .int), (63, .int), (64, .int), (65, .int), (66, .int), (67, .int), (68, .int), (69, .int), (70, .boolean), (71, .boolean), (72, .boolean), (73, .boolean), (74, .int), (75, .int), (76, .int), (77, .long), (78, .int), (79, .long), (94, .int), (95, .object "java/lang/Object")]
def jkt (κ : Nat) : Option FieldType := (jktT.find? (fun x => x.1 == κ)).map (·.2)
theorem jkt_mem {κ : Nat} {ty : FieldType} (h : jkt κ = some ty) : (κ, ty) ∈ jktT := by
  unfold jkt at h
  obtain ⟨⟨κ', ty'⟩, h1, h2⟩ := Option.map_eq_some_iff.mp h
  have h3 := List.find?_some h1
  simp only [beq_iff_eq] at h3
  dsimp only at h2 h3
  subst h2 h3
  exact List.mem_of_find?_eq_some h1
theorem jktT_50 : ∀ x ∈ jktT, 50 ≤ x.1 := by decide +kernel
theorem jkt_50 {κ : Nat} {ty : FieldType} (h : jkt κ = some ty) : 50 ≤ κ := jktT_50 _ (jkt_mem h)
def jkr (κ : Nat) : Bool := κ == 53 || κ == 95
theorem jkr_c {κ : Nat} (h : jkr κ = true) : κ = 53 ∨ κ = 95 := by
  unfold jkr at h
  simp only [Bool.or_eq_true, beq_iff_eq] at h
  exact h
theorem jkr_50 {κ : Nat} (h : jkr κ = true) : 50 ≤ κ := by
  have := jkr_c h
  omega
theorem jkr_ok {κ : Nat} (h : jkr κ = true) : jkt κ = some (.object "java/lang/Object") := by
  rcases jkr_c h with h | h <;> subst h <;> rfl
def jlk {α : Type} (t : List ((Nat × Nat) × α)) (o i : Nat) : Option α := (t.find? (fun x => x.1.1 == o && x.1.2 == i)).map (·.2)
theorem jlk_mem {α : Type} {t : List ((Nat × Nat) × α)} {o i : Nat} {a : α} (h : jlk t o i = some a) : ((o, i), a) ∈ t := by
  unfold jlk at h
  obtain ⟨⟨⟨o', i'⟩, a'⟩, h1, h2⟩ := Option.map_eq_some_iff.mp h
  have h3 := List.find?_some h1
  simp only [Bool.and_eq_true, beq_iff_eq] at h3
  obtain ⟨h4, h5⟩ := h3
  dsimp only at h2 h4 h5
  subst h2 h4 h5
  exact List.mem_of_find?_eq_some h1
def jLk (own : String) (idx : Nat) (ow n d : String) : Prop := ∃ ref : String, (Cond.fieldLink own idx ref n d ∈ jwords ∨ ∃ host : String, Cond.fieldLinkNest own idx ref n d host ∈ jwords) ∧ (ref = ow ∨ Cond.sameField ref ow n d ∈ jwords)
def jflT : List ((Nat × Nat) × (Nat × Nat)) := [((10, 9), (1, 1)), ((10, 48), (1, 2)), ((9, 7), (1, 0)), ((10, 63), (1, 0)), ((1, 10), (3, 0)), ((1, 16), (3, 1)), ((4, 136), (3, 1)), ((4, 63), (6, 0)), ((4, 66), (6, 1)), ((4, 69), (6, 2)), ((4, 10), (6, 3)), ((4, 16), (6, 4)), ((4, 19), (6, 5)), ((4, 23), (6, 6)), ((4, 27), (6, 7)), ((4, 33), (6, 8)), ((4, 37), (6, 9)), ((4, 41), (6, 10)), ((4, 44), (6, 11)), ((4, 47), (6, 12)), ((4, 50), (6, 13)), ((4, 53), (6, 14)), ((4, 56), (6, 15)), ((0, 35), (2, 0)), ((4, 119), (2, 0)), ((0, 38), (2, 1)), ((4, 108), (2, 1)), ((0, 41), (2, 2)), ((4, 111), (2, 2)), ((0, 9), (2, 3)), ((4, 216), (2, 3)), ((0, 15), (2, 4)), ((4, 213), (2, 4)), ((0, 19), (2, 5)), ((4, 97), (2, 5)), ((0, 22), (2, 6)), ((4, 254), (2, 6)), ((0, 26), (2, 7)), ((4, 191), (2, 7)), ((0, 29), (2, 8)), ((4, 194), (2, 8)), ((0, 32), (2, 9)), ((4, 241), (2, 9)), ((3, 13), (5, 0)), ((4, 205), (5, 0)), ((3, 17), (5, 1)), ((4, 208), (5, 1)), ((3, 20), (5, 2)), ((4, 269), (5, 2)), ((3, 23), (5, 3)), ((4, 272), (5, 3)), ((3, 7), (5, 4)), ((4, 132), (5, 4)), ((2, 9), (4, 0)), ((1, 35), (4, 0)), ((5, 72), (7, 0)), ((5, 62), (7, 1)), ((5, 66), (7, 2)), ((5, 69), (7, 3)), ((5, 82), (7, 4)), ((5, 75), (7, 5)), ((5, 100), (7, 6)), ((5, 7), (7, 7)), ((5, 13), (7, 8)), ((5, 16), (7, 9)), ((5, 19), (7, 10)), ((5, 22), (7, 11)), ((5, 25), (7, 12)), ((5, 28), (7, 13)), ((5, 32), (7, 14)), ((5, 35), (7, 15)), ((5, 38), (7, 16)), ((5, 41), (7, 17)), ((5, 44), (7, 18)), ((5, 47), (7, 19)), ((5, 50), (7, 20)), ((5, 85), (7, 21)), ((5, 153), (7, 22)), ((5, 156), (7, 23)), ((5, 110), (7, 24)), ((5, 113), (7, 25)), ((5, 130), (7, 26)), ((5, 55), (7, 27)), ((5, 107), (7, 28))]
def jflP (x : (Nat × Nat) × (Nat × Nat)) : Prop := ∃ C T N, vwCl[x.2.1]? = some (C, T, N) ∧ x.2.1 < 50 ∧ x.2.2 < N ∧ jLk (jcn x.1.1) x.1.2 (T x.2.2).1 (T x.2.2).2.1 (T x.2.2).2.2.1
theorem jflT_0 : jflP ((10, 9), (1, 1)) := ⟨_, _, _, rfl, by decide, by decide, "java/util/ArrayList", Or.inl (jmw 91 (by decide +kernel) (by decide +kernel)), Or.inl rfl⟩
theorem jflT_1 : jflP ((10, 48), (1, 2)) := ⟨_, _, _, rfl, by decide, by decide, "java/util/ArrayList", Or.inl (jmw 92 (by decide +kernel) (by decide +kernel)), Or.inl rfl⟩
theorem jflT_2 : jflP ((9, 7), (1, 0)) := ⟨_, _, _, rfl, by decide, by decide, "java/util/AbstractList", Or.inl (jmw 93 (by decide +kernel) (by decide +kernel)), Or.inl rfl⟩
theorem jflT_3 : jflP ((10, 63), (1, 0)) := ⟨_, _, _, rfl, by decide, by decide, "java/util/ArrayList", Or.inl (jmw 94 (by decide +kernel) (by decide +kernel)), Or.inr (jmw 95 (by decide +kernel) (by decide +kernel))⟩
theorem jflT_4 : jflP ((1, 10), (3, 0)) := ⟨_, _, _, rfl, by decide, by decide, "ReportWriter$Printed", Or.inl (jmw 111 (by decide +kernel) (by decide +kernel)), Or.inl rfl⟩
theorem jflT_5 : jflP ((1, 16), (3, 1)) := ⟨_, _, _, rfl, by decide, by decide, "ReportWriter$Printed", Or.inl (jmw 112 (by decide +kernel) (by decide +kernel)), Or.inl rfl⟩
theorem jflT_6 : jflP ((4, 136), (3, 1)) := ⟨_, _, _, rfl, by decide, by decide, "ReportWriter$Printed", Or.inl (jmw 113 (by decide +kernel) (by decide +kernel)), Or.inl rfl⟩
theorem jflT_7 : jflP ((4, 63), (6, 0)) := ⟨_, _, _, rfl, by decide, by decide, "ReportWriter", Or.inl (jmw 129 (by decide +kernel) (by decide +kernel)), Or.inl rfl⟩
theorem jflT_8 : jflP ((4, 66), (6, 1)) := ⟨_, _, _, rfl, by decide, by decide, "ReportWriter", Or.inl (jmw 130 (by decide +kernel) (by decide +kernel)), Or.inl rfl⟩
theorem jflT_9 : jflP ((4, 69), (6, 2)) := ⟨_, _, _, rfl, by decide, by decide, "ReportWriter", Or.inl (jmw 131 (by decide +kernel) (by decide +kernel)), Or.inl rfl⟩
theorem jflT_10 : jflP ((4, 10), (6, 3)) := ⟨_, _, _, rfl, by decide, by decide, "ReportWriter", Or.inl (jmw 132 (by decide +kernel) (by decide +kernel)), Or.inl rfl⟩
theorem jflT_11 : jflP ((4, 16), (6, 4)) := ⟨_, _, _, rfl, by decide, by decide, "ReportWriter", Or.inl (jmw 133 (by decide +kernel) (by decide +kernel)), Or.inl rfl⟩
theorem jflT_12 : jflP ((4, 19), (6, 5)) := ⟨_, _, _, rfl, by decide, by decide, "ReportWriter", Or.inl (jmw 134 (by decide +kernel) (by decide +kernel)), Or.inl rfl⟩
theorem jflT_13 : jflP ((4, 23), (6, 6)) := ⟨_, _, _, rfl, by decide, by decide, "ReportWriter", Or.inl (jmw 135 (by decide +kernel) (by decide +kernel)), Or.inl rfl⟩
theorem jflT_14 : jflP ((4, 27), (6, 7)) := ⟨_, _, _, rfl, by decide, by decide, "ReportWriter", Or.inl (jmw 136 (by decide +kernel) (by decide +kernel)), Or.inl rfl⟩
theorem jflT_15 : jflP ((4, 33), (6, 8)) := ⟨_, _, _, rfl, by decide, by decide, "ReportWriter", Or.inl (jmw 137 (by decide +kernel) (by decide +kernel)), Or.inl rfl⟩
theorem jflT_16 : jflP ((4, 37), (6, 9)) := ⟨_, _, _, rfl, by decide, by decide, "ReportWriter", Or.inl (jmw 138 (by decide +kernel) (by decide +kernel)), Or.inl rfl⟩
theorem jflT_17 : jflP ((4, 41), (6, 10)) := ⟨_, _, _, rfl, by decide, by decide, "ReportWriter", Or.inl (jmw 139 (by decide +kernel) (by decide +kernel)), Or.inl rfl⟩
theorem jflT_18 : jflP ((4, 44), (6, 11)) := ⟨_, _, _, rfl, by decide, by decide, "ReportWriter", Or.inl (jmw 140 (by decide +kernel) (by decide +kernel)), Or.inl rfl⟩
theorem jflT_19 : jflP ((4, 47), (6, 12)) := ⟨_, _, _, rfl, by decide, by decide, "ReportWriter", Or.inl (jmw 141 (by decide +kernel) (by decide +kernel)), Or.inl rfl⟩
theorem jflT_20 : jflP ((4, 50), (6, 13)) := ⟨_, _, _, rfl, by decide, by decide, "ReportWriter", Or.inl (jmw 142 (by decide +kernel) (by decide +kernel)), Or.inl rfl⟩
theorem jflT_21 : jflP ((4, 53), (6, 14)) := ⟨_, _, _, rfl, by decide, by decide, "ReportWriter", Or.inl (jmw 143 (by decide +kernel) (by decide +kernel)), Or.inl rfl⟩
theorem jflT_22 : jflP ((4, 56), (6, 15)) := ⟨_, _, _, rfl, by decide, by decide, "ReportWriter", Or.inl (jmw 144 (by decide +kernel) (by decide +kernel)), Or.inl rfl⟩
theorem jflT_23 : jflP ((0, 35), (2, 0)) := ⟨_, _, _, rfl, by decide, by decide, "ReportWriter$Group", Or.inl (jmw 214 (by decide +kernel) (by decide +kernel)), Or.inl rfl⟩
theorem jflT_24 : jflP ((4, 119), (2, 0)) := ⟨_, _, _, rfl, by decide, by decide, "ReportWriter$Group", Or.inl (jmw 215 (by decide +kernel) (by decide +kernel)), Or.inl rfl⟩
theorem jflT_25 : jflP ((0, 38), (2, 1)) := ⟨_, _, _, rfl, by decide, by decide, "ReportWriter$Group", Or.inl (jmw 216 (by decide +kernel) (by decide +kernel)), Or.inl rfl⟩
theorem jflT_26 : jflP ((4, 108), (2, 1)) := ⟨_, _, _, rfl, by decide, by decide, "ReportWriter$Group", Or.inl (jmw 217 (by decide +kernel) (by decide +kernel)), Or.inl rfl⟩
theorem jflT_27 : jflP ((0, 41), (2, 2)) := ⟨_, _, _, rfl, by decide, by decide, "ReportWriter$Group", Or.inl (jmw 218 (by decide +kernel) (by decide +kernel)), Or.inl rfl⟩
theorem jflT_28 : jflP ((4, 111), (2, 2)) := ⟨_, _, _, rfl, by decide, by decide, "ReportWriter$Group", Or.inl (jmw 219 (by decide +kernel) (by decide +kernel)), Or.inl rfl⟩
theorem jflT_29 : jflP ((0, 9), (2, 3)) := ⟨_, _, _, rfl, by decide, by decide, "ReportWriter$Group", Or.inl (jmw 220 (by decide +kernel) (by decide +kernel)), Or.inl rfl⟩
theorem jflT_30 : jflP ((4, 216), (2, 3)) := ⟨_, _, _, rfl, by decide, by decide, "ReportWriter$Group", Or.inl (jmw 221 (by decide +kernel) (by decide +kernel)), Or.inl rfl⟩
theorem jflT_31 : jflP ((0, 15), (2, 4)) := ⟨_, _, _, rfl, by decide, by decide, "ReportWriter$Group", Or.inl (jmw 222 (by decide +kernel) (by decide +kernel)), Or.inl rfl⟩
theorem jflT_32 : jflP ((4, 213), (2, 4)) := ⟨_, _, _, rfl, by decide, by decide, "ReportWriter$Group", Or.inl (jmw 223 (by decide +kernel) (by decide +kernel)), Or.inl rfl⟩
theorem jflT_33 : jflP ((0, 19), (2, 5)) := ⟨_, _, _, rfl, by decide, by decide, "ReportWriter$Group", Or.inl (jmw 224 (by decide +kernel) (by decide +kernel)), Or.inl rfl⟩
theorem jflT_34 : jflP ((4, 97), (2, 5)) := ⟨_, _, _, rfl, by decide, by decide, "ReportWriter$Group", Or.inl (jmw 225 (by decide +kernel) (by decide +kernel)), Or.inl rfl⟩
theorem jflT_35 : jflP ((0, 22), (2, 6)) := ⟨_, _, _, rfl, by decide, by decide, "ReportWriter$Group", Or.inl (jmw 226 (by decide +kernel) (by decide +kernel)), Or.inl rfl⟩
theorem jflT_36 : jflP ((4, 254), (2, 6)) := ⟨_, _, _, rfl, by decide, by decide, "ReportWriter$Group", Or.inl (jmw 227 (by decide +kernel) (by decide +kernel)), Or.inl rfl⟩
theorem jflT_37 : jflP ((0, 26), (2, 7)) := ⟨_, _, _, rfl, by decide, by decide, "ReportWriter$Group", Or.inl (jmw 228 (by decide +kernel) (by decide +kernel)), Or.inl rfl⟩
theorem jflT_38 : jflP ((4, 191), (2, 7)) := ⟨_, _, _, rfl, by decide, by decide, "ReportWriter$Group", Or.inl (jmw 229 (by decide +kernel) (by decide +kernel)), Or.inl rfl⟩
theorem jflT_39 : jflP ((0, 29), (2, 8)) := ⟨_, _, _, rfl, by decide, by decide, "ReportWriter$Group", Or.inl (jmw 230 (by decide +kernel) (by decide +kernel)), Or.inl rfl⟩
theorem jflT_40 : jflP ((4, 194), (2, 8)) := ⟨_, _, _, rfl, by decide, by decide, "ReportWriter$Group", Or.inl (jmw 231 (by decide +kernel) (by decide +kernel)), Or.inl rfl⟩
theorem jflT_41 : jflP ((0, 32), (2, 9)) := ⟨_, _, _, rfl, by decide, by decide, "ReportWriter$Group", Or.inl (jmw 232 (by decide +kernel) (by decide +kernel)), Or.inl rfl⟩
theorem jflT_42 : jflP ((4, 241), (2, 9)) := ⟨_, _, _, rfl, by decide, by decide, "ReportWriter$Group", Or.inl (jmw 233 (by decide +kernel) (by decide +kernel)), Or.inl rfl⟩
theorem jflT_43 : jflP ((3, 13), (5, 0)) := ⟨_, _, _, rfl, by decide, by decide, "ReportWriter$Sum", Or.inl (jmw 360 (by decide +kernel) (by decide +kernel)), Or.inl rfl⟩
theorem jflT_44 : jflP ((4, 205), (5, 0)) := ⟨_, _, _, rfl, by decide, by decide, "ReportWriter$Sum", Or.inl (jmw 361 (by decide +kernel) (by decide +kernel)), Or.inl rfl⟩
theorem jflT_45 : jflP ((3, 17), (5, 1)) := ⟨_, _, _, rfl, by decide, by decide, "ReportWriter$Sum", Or.inl (jmw 362 (by decide +kernel) (by decide +kernel)), Or.inl rfl⟩
theorem jflT_46 : jflP ((4, 208), (5, 1)) := ⟨_, _, _, rfl, by decide, by decide, "ReportWriter$Sum", Or.inl (jmw 363 (by decide +kernel) (by decide +kernel)), Or.inl rfl⟩
theorem jflT_47 : jflP ((3, 20), (5, 2)) := ⟨_, _, _, rfl, by decide, by decide, "ReportWriter$Sum", Or.inl (jmw 364 (by decide +kernel) (by decide +kernel)), Or.inl rfl⟩
theorem jflT_48 : jflP ((4, 269), (5, 2)) := ⟨_, _, _, rfl, by decide, by decide, "ReportWriter$Sum", Or.inl (jmw 365 (by decide +kernel) (by decide +kernel)), Or.inl rfl⟩
theorem jflT_49 : jflP ((3, 23), (5, 3)) := ⟨_, _, _, rfl, by decide, by decide, "ReportWriter$Sum", Or.inl (jmw 366 (by decide +kernel) (by decide +kernel)), Or.inl rfl⟩
theorem jflT_50 : jflP ((4, 272), (5, 3)) := ⟨_, _, _, rfl, by decide, by decide, "ReportWriter$Sum", Or.inl (jmw 367 (by decide +kernel) (by decide +kernel)), Or.inl rfl⟩
theorem jflT_51 : jflP ((3, 7), (5, 4)) := ⟨_, _, _, rfl, by decide, by decide, "ReportWriter$Sum", Or.inl (jmw 368 (by decide +kernel) (by decide +kernel)), Or.inl rfl⟩
theorem jflT_52 : jflP ((4, 132), (5, 4)) := ⟨_, _, _, rfl, by decide, by decide, "ReportWriter$Sum", Or.inl (jmw 369 (by decide +kernel) (by decide +kernel)), Or.inl rfl⟩
theorem jflT_53 : jflP ((2, 9), (4, 0)) := ⟨_, _, _, rfl, by decide, by decide, "ReportWriter$Sheet", Or.inl (jmw 432 (by decide +kernel) (by decide +kernel)), Or.inl rfl⟩
theorem jflT_54 : jflP ((1, 35), (4, 0)) := ⟨_, _, _, rfl, by decide, by decide, "ReportWriter$Sheet", Or.inl (jmw 433 (by decide +kernel) (by decide +kernel)), Or.inl rfl⟩
theorem jflT_55 : jflP ((5, 72), (7, 0)) := ⟨_, _, _, rfl, by decide, by decide, "ReportWriterModel", Or.inl (jmw 609 (by decide +kernel) (by decide +kernel)), Or.inl rfl⟩
theorem jflT_56 : jflP ((5, 62), (7, 1)) := ⟨_, _, _, rfl, by decide, by decide, "ReportWriterModel", Or.inl (jmw 610 (by decide +kernel) (by decide +kernel)), Or.inl rfl⟩
theorem jflT_57 : jflP ((5, 66), (7, 2)) := ⟨_, _, _, rfl, by decide, by decide, "ReportWriterModel", Or.inl (jmw 611 (by decide +kernel) (by decide +kernel)), Or.inl rfl⟩
theorem jflT_58 : jflP ((5, 69), (7, 3)) := ⟨_, _, _, rfl, by decide, by decide, "ReportWriterModel", Or.inl (jmw 612 (by decide +kernel) (by decide +kernel)), Or.inl rfl⟩
theorem jflT_59 : jflP ((5, 82), (7, 4)) := ⟨_, _, _, rfl, by decide, by decide, "ReportWriterModel", Or.inl (jmw 613 (by decide +kernel) (by decide +kernel)), Or.inl rfl⟩
theorem jflT_60 : jflP ((5, 75), (7, 5)) := ⟨_, _, _, rfl, by decide, by decide, "ReportWriterModel", Or.inl (jmw 614 (by decide +kernel) (by decide +kernel)), Or.inl rfl⟩
theorem jflT_61 : jflP ((5, 100), (7, 6)) := ⟨_, _, _, rfl, by decide, by decide, "ReportWriterModel", Or.inl (jmw 615 (by decide +kernel) (by decide +kernel)), Or.inl rfl⟩
theorem jflT_62 : jflP ((5, 7), (7, 7)) := ⟨_, _, _, rfl, by decide, by decide, "ReportWriterModel", Or.inl (jmw 616 (by decide +kernel) (by decide +kernel)), Or.inl rfl⟩
theorem jflT_63 : jflP ((5, 13), (7, 8)) := ⟨_, _, _, rfl, by decide, by decide, "ReportWriterModel", Or.inl (jmw 617 (by decide +kernel) (by decide +kernel)), Or.inl rfl⟩
theorem jflT_64 : jflP ((5, 16), (7, 9)) := ⟨_, _, _, rfl, by decide, by decide, "ReportWriterModel", Or.inl (jmw 618 (by decide +kernel) (by decide +kernel)), Or.inl rfl⟩
theorem jflT_65 : jflP ((5, 19), (7, 10)) := ⟨_, _, _, rfl, by decide, by decide, "ReportWriterModel", Or.inl (jmw 619 (by decide +kernel) (by decide +kernel)), Or.inl rfl⟩
theorem jflT_66 : jflP ((5, 22), (7, 11)) := ⟨_, _, _, rfl, by decide, by decide, "ReportWriterModel", Or.inl (jmw 620 (by decide +kernel) (by decide +kernel)), Or.inl rfl⟩
theorem jflT_67 : jflP ((5, 25), (7, 12)) := ⟨_, _, _, rfl, by decide, by decide, "ReportWriterModel", Or.inl (jmw 621 (by decide +kernel) (by decide +kernel)), Or.inl rfl⟩
theorem jflT_68 : jflP ((5, 28), (7, 13)) := ⟨_, _, _, rfl, by decide, by decide, "ReportWriterModel", Or.inl (jmw 622 (by decide +kernel) (by decide +kernel)), Or.inl rfl⟩
theorem jflT_69 : jflP ((5, 32), (7, 14)) := ⟨_, _, _, rfl, by decide, by decide, "ReportWriterModel", Or.inl (jmw 623 (by decide +kernel) (by decide +kernel)), Or.inl rfl⟩
theorem jflT_70 : jflP ((5, 35), (7, 15)) := ⟨_, _, _, rfl, by decide, by decide, "ReportWriterModel", Or.inl (jmw 624 (by decide +kernel) (by decide +kernel)), Or.inl rfl⟩
theorem jflT_71 : jflP ((5, 38), (7, 16)) := ⟨_, _, _, rfl, by decide, by decide, "ReportWriterModel", Or.inl (jmw 625 (by decide +kernel) (by decide +kernel)), Or.inl rfl⟩
theorem jflT_72 : jflP ((5, 41), (7, 17)) := ⟨_, _, _, rfl, by decide, by decide, "ReportWriterModel", Or.inl (jmw 626 (by decide +kernel) (by decide +kernel)), Or.inl rfl⟩
theorem jflT_73 : jflP ((5, 44), (7, 18)) := ⟨_, _, _, rfl, by decide, by decide, "ReportWriterModel", Or.inl (jmw 627 (by decide +kernel) (by decide +kernel)), Or.inl rfl⟩
theorem jflT_74 : jflP ((5, 47), (7, 19)) := ⟨_, _, _, rfl, by decide, by decide, "ReportWriterModel", Or.inl (jmw 628 (by decide +kernel) (by decide +kernel)), Or.inl rfl⟩
theorem jflT_75 : jflP ((5, 50), (7, 20)) := ⟨_, _, _, rfl, by decide, by decide, "ReportWriterModel", Or.inl (jmw 629 (by decide +kernel) (by decide +kernel)), Or.inl rfl⟩
theorem jflT_76 : jflP ((5, 85), (7, 21)) := ⟨_, _, _, rfl, by decide, by decide, "ReportWriterModel", Or.inl (jmw 630 (by decide +kernel) (by decide +kernel)), Or.inl rfl⟩
theorem jflT_77 : jflP ((5, 153), (7, 22)) := ⟨_, _, _, rfl, by decide, by decide, "ReportWriterModel", Or.inl (jmw 631 (by decide +kernel) (by decide +kernel)), Or.inl rfl⟩
theorem jflT_78 : jflP ((5, 156), (7, 23)) := ⟨_, _, _, rfl, by decide, by decide, "ReportWriterModel", Or.inl (jmw 632 (by decide +kernel) (by decide +kernel)), Or.inl rfl⟩
theorem jflT_79 : jflP ((5, 110), (7, 24)) := ⟨_, _, _, rfl, by decide, by decide, "ReportWriterModel", Or.inl (jmw 633 (by decide +kernel) (by decide +kernel)), Or.inl rfl⟩
theorem jflT_80 : jflP ((5, 113), (7, 25)) := ⟨_, _, _, rfl, by decide, by decide, "ReportWriterModel", Or.inl (jmw 634 (by decide +kernel) (by decide +kernel)), Or.inl rfl⟩
theorem jflT_81 : jflP ((5, 130), (7, 26)) := ⟨_, _, _, rfl, by decide, by decide, "ReportWriterModel", Or.inl (jmw 635 (by decide +kernel) (by decide +kernel)), Or.inl rfl⟩
theorem jflT_82 : jflP ((5, 55), (7, 27)) := ⟨_, _, _, rfl, by decide, by decide, "ReportWriterModel", Or.inl (jmw 636 (by decide +kernel) (by decide +kernel)), Or.inl rfl⟩
theorem jflT_83 : jflP ((5, 107), (7, 28)) := ⟨_, _, _, rfl, by decide, by decide, "ReportWriterModel", Or.inl (jmw 637 (by decide +kernel) (by decide +kernel)), Or.inl rfl⟩
theorem jflT_ok : ∀ x ∈ jflT, jflP x := List.forall_mem_cons.mpr ⟨jflT_0, List.forall_mem_cons.mpr ⟨jflT_1, List.forall_mem_cons.mpr ⟨jflT_2, List.forall_mem_cons.mpr ⟨jflT_3, List.forall_mem_cons.mpr ⟨jflT_4, List.forall_mem_cons.mpr ⟨jflT_5, List.forall_mem_cons.mpr ⟨jflT_6, List.forall_mem_cons.mpr ⟨jflT_7, List.forall_mem_cons.mpr ⟨jflT_8, List.forall_mem_cons.mpr ⟨jflT_9, List.forall_mem_cons.mpr ⟨jflT_10, List.forall_mem_cons.mpr ⟨jflT_11, List.forall_mem_cons.mpr ⟨jflT_12, List.forall_mem_cons.mpr ⟨jflT_13, List.forall_mem_cons.mpr ⟨jflT_14, List.forall_mem_cons.mpr ⟨jflT_15, List.forall_mem_cons.mpr ⟨jflT_16, List.forall_mem_cons.mpr ⟨jflT_17, List.forall_mem_cons.mpr ⟨jflT_18, List.forall_mem_cons.mpr ⟨jflT_19, List.forall_mem_cons.mpr ⟨jflT_20, List.forall_mem_cons.mpr ⟨jflT_21, List.forall_mem_cons.mpr ⟨jflT_22, List.forall_mem_cons.mpr ⟨jflT_23, List.forall_mem_cons.mpr ⟨jflT_24, List.forall_mem_cons.mpr ⟨jflT_25, List.forall_mem_cons.mpr ⟨jflT_26, List.forall_mem_cons.mpr ⟨jflT_27, List.forall_mem_cons.mpr ⟨jflT_28, List.forall_mem_cons.mpr ⟨jflT_29, List.forall_mem_cons.mpr ⟨jflT_30, List.forall_mem_cons.mpr ⟨jflT_31, List.forall_mem_cons.mpr ⟨jflT_32, List.forall_mem_cons.mpr ⟨jflT_33, List.forall_mem_cons.mpr ⟨jflT_34, List.forall_mem_cons.mpr ⟨jflT_35, List.forall_mem_cons.mpr ⟨jflT_36, List.forall_mem_cons.mpr ⟨jflT_37, List.forall_mem_cons.mpr ⟨jflT_38, List.forall_mem_cons.mpr ⟨jflT_39, List.forall_mem_cons.mpr ⟨jflT_40, List.forall_mem_cons.mpr ⟨jflT_41, List.forall_mem_cons.mpr ⟨jflT_42, List.forall_mem_cons.mpr ⟨jflT_43, List.forall_mem_cons.mpr ⟨jflT_44, List.forall_mem_cons.mpr ⟨jflT_45, List.forall_mem_cons.mpr ⟨jflT_46, List.forall_mem_cons.mpr ⟨jflT_47, List.forall_mem_cons.mpr ⟨jflT_48, List.forall_mem_cons.mpr ⟨jflT_49, List.forall_mem_cons.mpr ⟨jflT_50, List.forall_mem_cons.mpr ⟨jflT_51, List.forall_mem_cons.mpr ⟨jflT_52, List.forall_mem_cons.mpr ⟨jflT_53, List.forall_mem_cons.mpr ⟨jflT_54, List.forall_mem_cons.mpr ⟨jflT_55, List.forall_mem_cons.mpr ⟨jflT_56, List.forall_mem_cons.mpr ⟨jflT_57, List.forall_mem_cons.mpr ⟨jflT_58, List.forall_mem_cons.mpr ⟨jflT_59, List.forall_mem_cons.mpr ⟨jflT_60, List.forall_mem_cons.mpr ⟨jflT_61, List.forall_mem_cons.mpr ⟨jflT_62, List.forall_mem_cons.mpr ⟨jflT_63, List.forall_mem_cons.mpr ⟨jflT_64, List.forall_mem_cons.mpr ⟨jflT_65, List.forall_mem_cons.mpr ⟨jflT_66, List.forall_mem_cons.mpr ⟨jflT_67, List.forall_mem_cons.mpr ⟨jflT_68, List.forall_mem_cons.mpr ⟨jflT_69, List.forall_mem_cons.mpr ⟨jflT_70, List.forall_mem_cons.mpr ⟨jflT_71, List.forall_mem_cons.mpr ⟨jflT_72, List.forall_mem_cons.mpr ⟨jflT_73, List.forall_mem_cons.mpr ⟨jflT_74, List.forall_mem_cons.mpr ⟨jflT_75, List.forall_mem_cons.mpr ⟨jflT_76, List.forall_mem_cons.mpr ⟨jflT_77, List.forall_mem_cons.mpr ⟨jflT_78, List.forall_mem_cons.mpr ⟨jflT_79, List.forall_mem_cons.mpr ⟨jflT_80, List.forall_mem_cons.mpr ⟨jflT_81, List.forall_mem_cons.mpr ⟨jflT_82, List.forall_mem_cons.mpr ⟨jflT_83, fun _ h => absurd h List.not_mem_nil⟩⟩⟩⟩⟩⟩⟩⟩⟩⟩⟩⟩⟩⟩⟩⟩⟩⟩⟩⟩⟩⟩⟩⟩⟩⟩⟩⟩⟩⟩⟩⟩⟩⟩⟩⟩⟩⟩⟩⟩⟩⟩⟩⟩⟩⟩⟩⟩⟩⟩⟩⟩⟩⟩⟩⟩⟩⟩⟩⟩⟩⟩⟩⟩⟩⟩⟩⟩⟩⟩⟩⟩⟩⟩⟩⟩⟩⟩⟩⟩⟩⟩⟩⟩
theorem jfl_own {μ idx : Nat} {a : (Nat × Nat)} (h : jlk jflT (jow μ) idx = some a) : jflP ((jow μ, idx), a) := jflT_ok _ (jlk_mem h)
def jfl (o i : Nat) : Option (Nat × Nat) := jlk jflT o i
theorem jow_of {μ idx : Nat} {α : Type} {t : List ((Nat × Nat) × α)} {a : α} (h : jlk t (jow μ) idx = some a) (ht : ∀ x ∈ t, x.1.1 ≠ 999) : (jy μ).cls = jcn (jow μ) := jow_cn (ht _ (jlk_mem h))
theorem jfl_ok {μ idx κ k : Nat} (h : jfl (jow μ) idx = some (κ, k)) : ∃ C T N, vwCl[κ]? = some (C, T, N) ∧ κ < 50 ∧ k < N ∧ jLk (jy μ).cls idx (T k).1 (T k).2.1 (T k).2.2.1 := by
  rw [jow_of h (by decide +kernel)]
  exact jfl_own h
def jpf (μ κ k : Nat) : Bool := match vwCl[κ]? with
  | some q => !(q.2.1 k).2.2.2 || ((jy μ).name == "<init>" && (q.2.1 k).1 == (jy μ).cls)
  | none => false
theorem jpf_ok {μ κ k : Nat} {C : String} {T : u_T} {N : Nat} (h : jpf μ κ k = true) (hc : vwCl[κ]? = some (C, T, N)) : (T k).2.2.2 = false ∨ ((jy μ).name = "<init>" ∧ (T k).1 = (jy μ).cls) := by
  unfold jpf at h
  rw [hc] at h
  simp only [Bool.or_eq_true, Bool.not_eq_true', Bool.and_eq_true, beq_iff_eq] at h
  exact h
def jst (k : Nat) : Option (String × String × String) := match k with
  | 0 => some ("java/util/ArrayList", "DEFAULTCAPACITY_EMPTY_ELEMENTDATA", "[Ljava/lang/Object;")
  | _ => none
def jmir (k : Nat) : Option String := match k with
  | 1 => some "[Ljava/lang/Object;"
  | _ => none
def jsgT : List ((Nat × Nat) × Nat) := [((10, 39), 0)]
def jsgP (x : (Nat × Nat) × Nat) : Prop := ∃ C n d, jst x.2 = some (C, n, d) ∧ jLk (jcn x.1.1) x.1.2 C n d
theorem jsgT_0 : jsgP ((10, 39), 0) := ⟨_, _, _, rfl, "java/util/ArrayList", Or.inl (jmw 89 (by decide +kernel) (by decide +kernel)), Or.inl rfl⟩
theorem jsgT_ok : ∀ x ∈ jsgT, jsgP x := List.forall_mem_cons.mpr ⟨jsgT_0, fun _ h => absurd h List.not_mem_nil⟩
theorem jsg_own {μ idx : Nat} {a : Nat} (h : jlk jsgT (jow μ) idx = some a) : jsgP ((jow μ, idx), a) := jsgT_ok _ (jlk_mem h)
def jsg (o i : Nat) : Option Nat := jlk jsgT o i
theorem jsg_ok {μ idx k : Nat} (h : jsg (jow μ) idx = some k) : ∃ C n d, jst k = some (C, n, d) ∧ jLk (jy μ).cls idx C n d := by
  rw [jow_of h (by decide +kernel)]
  exact jsg_own h
def jnwT : List ((Nat × Nat) × (Nat × Nat × Nat)) := [((4, 7), (1, 3, 3)), ((4, 30), (3, 2, 2)), ((4, 84), (2, 10, 10)), ((4, 117), (5, 5, 5)), ((4, 176), (0, 6, 6)), ((1, 7), (1, 3, 3)), ((1, 24), (4, 1, 1)), ((15, 8), (6, 16, 16)), ((15, 24), (7, 29, 29))]
def jnwP (x : (Nat × Nat) × (Nat × Nat × Nat)) : Prop := ∃ C T, vwCl[x.2.1]? = some (C, T, x.2.2.1) ∧ x.2.1 < 50 ∧ Cond.classLink (jcn x.1.1) x.1.2 C ∈ jwords ∧ Cond.instantiable C x.2.2.2 ∈ jwords ∧ Cond.initialized C ∈ jwords
theorem jnwT_0 : jnwP ((4, 7), (1, 3, 3)) := ⟨_, _, rfl, by decide, (jmw 77 (by decide +kernel) (by decide +kernel)), (jmw 78 (by decide +kernel) (by decide +kernel)), (jmw 52 (by decide +kernel) (by decide +kernel))⟩
theorem jnwT_1 : jnwP ((4, 30), (3, 2, 2)) := ⟨_, _, rfl, by decide, (jmw 103 (by decide +kernel) (by decide +kernel)), (jmw 104 (by decide +kernel) (by decide +kernel)), (jmw 53 (by decide +kernel) (by decide +kernel))⟩
theorem jnwT_2 : jnwP ((4, 84), (2, 10, 10)) := ⟨_, _, rfl, by decide, (jmw 208 (by decide +kernel) (by decide +kernel)), (jmw 209 (by decide +kernel) (by decide +kernel)), (jmw 58 (by decide +kernel) (by decide +kernel))⟩
theorem jnwT_3 : jnwP ((4, 117), (5, 5, 5)) := ⟨_, _, rfl, by decide, (jmw 354 (by decide +kernel) (by decide +kernel)), (jmw 355 (by decide +kernel) (by decide +kernel)), (jmw 62 (by decide +kernel) (by decide +kernel))⟩
theorem jnwT_4 : jnwP ((4, 176), (0, 6, 6)) := ⟨_, _, rfl, by decide, (jmw 523 (by decide +kernel) (by decide +kernel)), (jmw 524 (by decide +kernel) (by decide +kernel)), (jmw 68 (by decide +kernel) (by decide +kernel))⟩
theorem jnwT_5 : jnwP ((1, 7), (1, 3, 3)) := ⟨_, _, rfl, by decide, (jmw 109 (by decide +kernel) (by decide +kernel)), (jmw 78 (by decide +kernel) (by decide +kernel)), (jmw 52 (by decide +kernel) (by decide +kernel))⟩
theorem jnwT_6 : jnwP ((1, 24), (4, 1, 1)) := ⟨_, _, rfl, by decide, (jmw 426 (by decide +kernel) (by decide +kernel)), (jmw 427 (by decide +kernel) (by decide +kernel)), (jmw 63 (by decide +kernel) (by decide +kernel))⟩
theorem jnwT_7 : jnwP ((15, 8), (6, 16, 16)) := ⟨_, _, rfl, by decide, (jmw 69 (by decide +kernel) (by decide +kernel)), (jmw 70 (by decide +kernel) (by decide +kernel)), (jmw 49 (by decide +kernel) (by decide +kernel))⟩
theorem jnwT_8 : jnwP ((15, 24), (7, 29, 29)) := ⟨_, _, rfl, by decide, (jmw 599 (by decide +kernel) (by decide +kernel)), (jmw 600 (by decide +kernel) (by decide +kernel)), (jmw 55 (by decide +kernel) (by decide +kernel))⟩
theorem jnwT_ok : ∀ x ∈ jnwT, jnwP x := List.forall_mem_cons.mpr ⟨jnwT_0, List.forall_mem_cons.mpr ⟨jnwT_1, List.forall_mem_cons.mpr ⟨jnwT_2, List.forall_mem_cons.mpr ⟨jnwT_3, List.forall_mem_cons.mpr ⟨jnwT_4, List.forall_mem_cons.mpr ⟨jnwT_5, List.forall_mem_cons.mpr ⟨jnwT_6, List.forall_mem_cons.mpr ⟨jnwT_7, List.forall_mem_cons.mpr ⟨jnwT_8, fun _ h => absurd h List.not_mem_nil⟩⟩⟩⟩⟩⟩⟩⟩⟩
theorem jnw_own {μ idx : Nat} {a : (Nat × Nat × Nat)} (h : jlk jnwT (jow μ) idx = some a) : jnwP ((jow μ, idx), a) := jnwT_ok _ (jlk_mem h)
def jnw (o i : Nat) : Option (Nat × Nat × Nat) := jlk jnwT o i
theorem jnw_ok {μ idx κ N w : Nat} (h : jnw (jow μ) idx = some (κ, N, w)) : ∃ C T, vwCl[κ]? = some (C, T, N) ∧ κ < 50 ∧ Cond.classLink (jy μ).cls idx C ∈ jwords ∧ Cond.instantiable C w ∈ jwords ∧ Cond.initialized C ∈ jwords := by
  rw [jow_of h (by decide +kernel)]
  exact jnw_own h
theorem jac_int : Cond.arrayClass .int ∈ jwords := (jmw 119 (by decide +kernel) (by decide +kernel))
theorem jac_long : Cond.arrayClass .long ∈ jwords := (jmw 698 (by decide +kernel) (by decide +kernel))
theorem jac_boolean : Cond.arrayClass .boolean ∈ jwords := (jmw 697 (by decide +kernel) (by decide +kernel))
def jnaT : List ((Nat × Nat) × Nat) := [((11, 34), 60), ((11, 42), 61), ((0, 22), 62), ((9, 8), 63), ((52, 7), 64), ((52, 15), 65), ((52, 23), 66), ((52, 31), 67), ((52, 39), 68), ((52, 48), 69), ((52, 56), 70), ((52, 64), 71), ((52, 72), 72), ((52, 80), 73), ((52, 88), 74), ((52, 96), 75), ((52, 104), 76), ((52, 112), 77), ((52, 120), 78), ((110, 47), 79)]
def jnaP (x : (Nat × Nat) × Nat) : Prop := 50 ≤ x.2 ∧ x.2 < 90 ∧ ∃ ty, jkt x.2 = some ty ∧ Cond.arrayClass ty ∈ jwords ∧ componentBytes ty ≤ 8
theorem jnaT_0 : jnaP ((11, 34), 60) := ⟨by decide, by decide, _, rfl, jac_int, by decide⟩
theorem jnaT_1 : jnaP ((11, 42), 61) := ⟨by decide, by decide, _, rfl, jac_int, by decide⟩
theorem jnaT_2 : jnaP ((0, 22), 62) := ⟨by decide, by decide, _, rfl, jac_int, by decide⟩
theorem jnaT_3 : jnaP ((9, 8), 63) := ⟨by decide, by decide, _, rfl, jac_int, by decide⟩
theorem jnaT_4 : jnaP ((52, 7), 64) := ⟨by decide, by decide, _, rfl, jac_int, by decide⟩
theorem jnaT_5 : jnaP ((52, 15), 65) := ⟨by decide, by decide, _, rfl, jac_int, by decide⟩
theorem jnaT_6 : jnaP ((52, 23), 66) := ⟨by decide, by decide, _, rfl, jac_int, by decide⟩
theorem jnaT_7 : jnaP ((52, 31), 67) := ⟨by decide, by decide, _, rfl, jac_int, by decide⟩
theorem jnaT_8 : jnaP ((52, 39), 68) := ⟨by decide, by decide, _, rfl, jac_int, by decide⟩
theorem jnaT_9 : jnaP ((52, 48), 69) := ⟨by decide, by decide, _, rfl, jac_int, by decide⟩
theorem jnaT_10 : jnaP ((52, 56), 70) := ⟨by decide, by decide, _, rfl, jac_boolean, by decide⟩
theorem jnaT_11 : jnaP ((52, 64), 71) := ⟨by decide, by decide, _, rfl, jac_boolean, by decide⟩
theorem jnaT_12 : jnaP ((52, 72), 72) := ⟨by decide, by decide, _, rfl, jac_boolean, by decide⟩
theorem jnaT_13 : jnaP ((52, 80), 73) := ⟨by decide, by decide, _, rfl, jac_boolean, by decide⟩
theorem jnaT_14 : jnaP ((52, 88), 74) := ⟨by decide, by decide, _, rfl, jac_int, by decide⟩
theorem jnaT_15 : jnaP ((52, 96), 75) := ⟨by decide, by decide, _, rfl, jac_int, by decide⟩
theorem jnaT_16 : jnaP ((52, 104), 76) := ⟨by decide, by decide, _, rfl, jac_int, by decide⟩
theorem jnaT_17 : jnaP ((52, 112), 77) := ⟨by decide, by decide, _, rfl, jac_long, by decide⟩
theorem jnaT_18 : jnaP ((52, 120), 78) := ⟨by decide, by decide, _, rfl, jac_int, by decide⟩
theorem jnaT_19 : jnaP ((110, 47), 79) := ⟨by decide, by decide, _, rfl, jac_long, by decide⟩
theorem jnaT_ok : ∀ x ∈ jnaT, jnaP x := List.forall_mem_cons.mpr ⟨jnaT_0, List.forall_mem_cons.mpr ⟨jnaT_1, List.forall_mem_cons.mpr ⟨jnaT_2, List.forall_mem_cons.mpr ⟨jnaT_3, List.forall_mem_cons.mpr ⟨jnaT_4, List.forall_mem_cons.mpr ⟨jnaT_5, List.forall_mem_cons.mpr ⟨jnaT_6, List.forall_mem_cons.mpr ⟨jnaT_7, List.forall_mem_cons.mpr ⟨jnaT_8, List.forall_mem_cons.mpr ⟨jnaT_9, List.forall_mem_cons.mpr ⟨jnaT_10, List.forall_mem_cons.mpr ⟨jnaT_11, List.forall_mem_cons.mpr ⟨jnaT_12, List.forall_mem_cons.mpr ⟨jnaT_13, List.forall_mem_cons.mpr ⟨jnaT_14, List.forall_mem_cons.mpr ⟨jnaT_15, List.forall_mem_cons.mpr ⟨jnaT_16, List.forall_mem_cons.mpr ⟨jnaT_17, List.forall_mem_cons.mpr ⟨jnaT_18, List.forall_mem_cons.mpr ⟨jnaT_19, fun _ h => absurd h List.not_mem_nil⟩⟩⟩⟩⟩⟩⟩⟩⟩⟩⟩⟩⟩⟩⟩⟩⟩⟩⟩⟩
theorem jna_own {μ idx : Nat} {a : Nat} (h : jlk jnaT (jow μ) idx = some a) : jnaP ((jow μ, idx), a) := jnaT_ok _ (jlk_mem h)
def jna (μ pc : Nat) (aty : ArrayType) : Option Nat := match jlk jnaT μ pc with
  | some κ => if jkt κ = some (newarray.typeOf aty) then some κ else none
  | none => none
theorem jna_ok {μ pc κ : Nat} {aty : ArrayType} (h : jna μ pc aty = some κ) : jkt κ = some (newarray.typeOf aty) ∧ 50 ≤ κ ∧ κ ≠ 94 ∧ Cond.arrayClass (newarray.typeOf aty) ∈ jwords ∧ componentBytes (newarray.typeOf aty) ≤ 8 := by
  unfold jna at h
  split at h
  · rename_i κ' h1
    split at h
    · rename_i h2
      cases h
      obtain ⟨h3, h4, ty, h5, h6, h7⟩ := jnaT_ok _ (jlk_mem h1)
      dsimp only at h3 h4 h5
      cases h2.symm.trans h5
      exact ⟨h2, h3, by omega, h6, h7⟩
    · cases h
  · cases h
def janwT : List ((Nat × Nat) × Nat) := [((10, 7), 53), ((11, 2), 53)]
def janwP (x : (Nat × Nat) × Nat) : Prop := ∃ C0, jkt x.2 = some (.object C0) ∧ 50 ≤ x.2 ∧ x.2 ≠ 94 ∧ Cond.classLink (jcn x.1.1) x.1.2 C0 ∈ jwords ∧ Cond.arrayOver (.object C0) ∈ jwords
theorem janwT_0 : janwP ((10, 7), 53) := ⟨_, rfl, by decide, by decide, (jmw 305 (by decide +kernel) (by decide +kernel)), (jmw 298 (by decide +kernel) (by decide +kernel))⟩
theorem janwT_1 : janwP ((11, 2), 53) := ⟨_, rfl, by decide, by decide, (jmw 299 (by decide +kernel) (by decide +kernel)), (jmw 298 (by decide +kernel) (by decide +kernel))⟩
theorem janwT_ok : ∀ x ∈ janwT, janwP x := List.forall_mem_cons.mpr ⟨janwT_0, List.forall_mem_cons.mpr ⟨janwT_1, fun _ h => absurd h List.not_mem_nil⟩⟩
theorem janw_own {μ idx : Nat} {a : Nat} (h : jlk janwT (jow μ) idx = some a) : janwP ((jow μ, idx), a) := janwT_ok _ (jlk_mem h)
def janw (o i : Nat) : Option Nat := jlk janwT o i
theorem janw_ok {μ idx κ : Nat} (h : janw (jow μ) idx = some κ) : ∃ C0, jkt κ = some (.object C0) ∧ 50 ≤ κ ∧ κ ≠ 94 ∧ Cond.classLink (jy μ).cls idx C0 ∈ jwords ∧ Cond.arrayOver (.object C0) ∈ jwords := by
  rw [jow_of h (by decide +kernel)]
  exact janw_own h
def jliT : List ((Nat × Nat) × Int32) := [((5, 54), (500000 : Int32)), ((13, 200), (2147483639 : Int32))]
def jliP (x : (Nat × Nat) × Int32) : Prop := Cond.constant (jcn x.1.1) x.1.2 x.2 ∈ jwords
theorem jliT_0 : jliP ((5, 54), (500000 : Int32)) := (jmw 605 (by decide +kernel) (by decide +kernel))
theorem jliT_1 : jliP ((13, 200), (2147483639 : Int32)) := (jmw 275 (by decide +kernel) (by decide +kernel))
theorem jliT_ok : ∀ x ∈ jliT, jliP x := List.forall_mem_cons.mpr ⟨jliT_0, List.forall_mem_cons.mpr ⟨jliT_1, fun _ h => absurd h List.not_mem_nil⟩⟩
theorem jli_own {μ idx : Nat} {a : Int32} (h : jlk jliT (jow μ) idx = some a) : jliP ((jow μ, idx), a) := jliT_ok _ (jlk_mem h)
def jlmT : List ((Nat × Nat) × Nat) := [((11, 110), 1)]
def jlmP (x : (Nat × Nat) × Nat) : Prop := ∃ C, jmir x.2 = some C ∧ Cond.classLink (jcn x.1.1) x.1.2 C ∈ jwords
theorem jlmT_0 : jlmP ((11, 110), 1) := ⟨_, rfl, (jmw 297 (by decide +kernel) (by decide +kernel))⟩
theorem jlmT_ok : ∀ x ∈ jlmT, jlmP x := List.forall_mem_cons.mpr ⟨jlmT_0, fun _ h => absurd h List.not_mem_nil⟩
theorem jlm_own {μ idx : Nat} {a : Nat} (h : jlk jlmT (jow μ) idx = some a) : jlmP ((jow μ, idx), a) := jlmT_ok _ (jlk_mem h)
def jllT : List ((Nat × Nat) × Int64) := [((15, 55), (4294967295 : Int64))]
def jllP (x : (Nat × Nat) × Int64) : Prop := Cond.constantLong (jcn x.1.1) x.1.2 x.2 ∈ jwords
theorem jllT_0 : jllP ((15, 55), (4294967295 : Int64)) := (jmw 839 (by decide +kernel) (by decide +kernel))
theorem jllT_ok : ∀ x ∈ jllT, jllP x := List.forall_mem_cons.mpr ⟨jllT_0, fun _ h => absurd h List.not_mem_nil⟩
theorem jll_own {μ idx : Nat} {a : Int64} (h : jlk jllT (jow μ) idx = some a) : jllP ((jow μ, idx), a) := jllT_ok _ (jlk_mem h)
def jldc (o i : Nat) : Option (Int32 ⊕ Nat) := match jlk jliT o i with
  | some x => some (.inl x)
  | none => (jlk jlmT o i).map .inr
theorem jldc_i {μ idx : Nat} {x : Int32} (h : jldc (jow μ) idx = some (.inl x)) : Cond.constant (jy μ).cls idx x ∈ jwords := by
  unfold jldc at h
  split at h
  · rename_i y hy
    cases h
    rw [jow_of hy (by decide +kernel)]
    exact jli_own hy
  · obtain ⟨z, h1, h2⟩ := Option.map_eq_some_iff.mp h
    cases h2
theorem jldc_m {μ idx k : Nat} (h : jldc (jow μ) idx = some (.inr k)) : ∃ C, jmir k = some C ∧ Cond.classLink (jy μ).cls idx C ∈ jwords := by
  unfold jldc at h
  split at h
  · cases h
  · obtain ⟨z, h1, h2⟩ := Option.map_eq_some_iff.mp h
    cases h2
    rw [jow_of h1 (by decide +kernel)]
    exact jlm_own h1
def jldl (o i : Nat) : Option Int64 := jlk jllT o i
theorem jldl_ok {μ idx : Nat} {x : Int64} (h : jldl (jow μ) idx = some x) : Cond.constantLong (jy μ).cls idx x ∈ jwords := by
  rw [jow_of h (by decide +kernel)]
  exact jll_own h
def jckT : List ((Nat × Nat) × Nat) := [((4, 84), 2), ((4, 117), 5), ((1, 24), 4), ((11, 110), 53)]
def jckP (x : (Nat × Nat) × Nat) : Prop := (x.2 < 50 ∧ ∃ q nm, vwCl[x.2]? = some q ∧ Cond.classLink (jcn x.1.1) x.1.2 nm ∈ jwords ∧ (q.1 = nm ∨ Cond.castable q.1 nm ∈ jwords)) ∨ (50 ≤ x.2 ∧ x.2 ≠ 94 ∧ ∃ ty, jkt x.2 = some ty ∧ Cond.classLink (jcn x.1.1) x.1.2 ("[" ++ ty.toString) ∈ jwords)
theorem jckT_0 : jckP ((4, 84), 2) := Or.inl ⟨by decide, _, _, rfl, (jmw 208 (by decide +kernel) (by decide +kernel)), Or.inl rfl⟩
theorem jckT_1 : jckP ((4, 117), 5) := Or.inl ⟨by decide, _, _, rfl, (jmw 354 (by decide +kernel) (by decide +kernel)), Or.inl rfl⟩
theorem jckT_2 : jckP ((1, 24), 4) := Or.inl ⟨by decide, _, _, rfl, (jmw 426 (by decide +kernel) (by decide +kernel)), Or.inl rfl⟩
theorem jckT_3 : jckP ((11, 110), 53) := Or.inr ⟨by decide, by decide, _, rfl, (jmw 297 (by decide +kernel) (by decide +kernel))⟩
theorem jckT_ok : ∀ x ∈ jckT, jckP x := List.forall_mem_cons.mpr ⟨jckT_0, List.forall_mem_cons.mpr ⟨jckT_1, List.forall_mem_cons.mpr ⟨jckT_2, List.forall_mem_cons.mpr ⟨jckT_3, fun _ h => absurd h List.not_mem_nil⟩⟩⟩⟩
theorem jck_own {μ idx : Nat} {a : Nat} (h : jlk jckT (jow μ) idx = some a) : jckP ((jow μ, idx), a) := jckT_ok _ (jlk_mem h)
def jck (o i κ : Nat) : Bool := jlk jckT o i == some κ
theorem jck_ok {μ idx κ : Nat} (h : jck (jow μ) idx κ = true) : (κ < 50 ∧ ∃ q nm, vwCl[κ]? = some q ∧ Cond.classLink (jy μ).cls idx nm ∈ jwords ∧ (q.1 = nm ∨ Cond.castable q.1 nm ∈ jwords)) ∨ (50 ≤ κ ∧ κ ≠ 94 ∧ ∃ ty, jkt κ = some ty ∧ Cond.classLink (jy μ).cls idx ("[" ++ ty.toString) ∈ jwords) := by
  unfold jck at h
  have h1 : jlk jckT (jow μ) idx = some κ := by simpa using h
  rw [jow_of h1 (by decide +kernel)]
  exact jck_own h1
def jca (κ κv : Nat) : Bool := κ == 53 && (κv == 2 || κv == 4 || κv == 5)
theorem jca_ok {κ κv : Nat} (h : jca κ κv = true) : ∃ C0 q, jkt κ = some (.object C0) ∧ κv < 50 ∧ vwCl[κv]? = some q ∧ (q.1 = C0 ∨ Cond.castable q.1 C0 ∈ jwords) := by
  unfold jca at h
  simp only [Bool.and_eq_true, Bool.or_eq_true, beq_iff_eq] at h
  obtain ⟨h1, h2⟩ := h
  subst h1
  rcases h2 with (h2 | h2) | h2 <;> subst h2
  · exact ⟨_, _, rfl, by decide, rfl, Or.inr (jmw 850 (by decide +kernel) (by decide +kernel))⟩
  · exact ⟨_, _, rfl, by decide, rfl, Or.inr (jmw 852 (by decide +kernel) (by decide +kernel))⟩
  · exact ⟨_, _, rfl, by decide, rfl, Or.inr (jmw 851 (by decide +kernel) (by decide +kernel))⟩
def jntY (k : Nat) : MethodName := match k with
  | 0 => Lib.objectInit
  | 1 => arraycopyName
  | 3 => Lib.Math.max.name
  | 4 => Lib.Math.min.name
  | _ => ⟨"java/lang/Object", "getClass", "()Ljava/lang/Class;"⟩
def jntT : List ((Nat × Nat) × Nat) := [((4, 1), 0), ((0, 3), 0), ((1, 1), 0), ((2, 1), 0), ((3, 1), 0), ((5, 1), 0), ((8, 1), 0), ((4, 156), 1), ((4, 197), 4), ((4, 202), 3), ((10, 79), 3), ((11, 150), 1), ((11, 304), 4), ((13, 194), 3), ((11, 86), 2)]
def jntP (x : (Nat × Nat) × Nat) : Prop := Cond.methodLink (jcn x.1.1) x.1.2 (jntY x.2) ∈ jwords
theorem jntT_0 : jntP ((4, 1), 0) := (jmw 74 (by decide +kernel) (by decide +kernel))
theorem jntT_1 : jntP ((0, 3), 0) := (jmw 213 (by decide +kernel) (by decide +kernel))
theorem jntT_2 : jntP ((1, 1), 0) := (jmw 108 (by decide +kernel) (by decide +kernel))
theorem jntT_3 : jntP ((2, 1), 0) := (jmw 431 (by decide +kernel) (by decide +kernel))
theorem jntT_4 : jntP ((3, 1), 0) := (jmw 359 (by decide +kernel) (by decide +kernel))
theorem jntT_5 : jntP ((5, 1), 0) := (jmw 604 (by decide +kernel) (by decide +kernel))
theorem jntT_6 : jntP ((8, 1), 0) := (jmw 88 (by decide +kernel) (by decide +kernel))
theorem jntT_7 : jntP ((4, 156), 1) := (jmw 479 (by decide +kernel) (by decide +kernel))
theorem jntT_8 : jntP ((4, 197), 4) := (jmw 123 (by decide +kernel) (by decide +kernel))
theorem jntT_9 : jntP ((4, 202), 3) := (jmw 126 (by decide +kernel) (by decide +kernel))
theorem jntT_10 : jntP ((10, 79), 3) := (jmw 304 (by decide +kernel) (by decide +kernel))
theorem jntT_11 : jntP ((11, 150), 1) := (jmw 301 (by decide +kernel) (by decide +kernel))
theorem jntT_12 : jntP ((11, 304), 4) := (jmw 300 (by decide +kernel) (by decide +kernel))
theorem jntT_13 : jntP ((13, 194), 3) := (jmw 274 (by decide +kernel) (by decide +kernel))
theorem jntT_14 : jntP ((11, 86), 2) := (jmw 282 (by decide +kernel) (by decide +kernel))
theorem jntT_ok : ∀ x ∈ jntT, jntP x := List.forall_mem_cons.mpr ⟨jntT_0, List.forall_mem_cons.mpr ⟨jntT_1, List.forall_mem_cons.mpr ⟨jntT_2, List.forall_mem_cons.mpr ⟨jntT_3, List.forall_mem_cons.mpr ⟨jntT_4, List.forall_mem_cons.mpr ⟨jntT_5, List.forall_mem_cons.mpr ⟨jntT_6, List.forall_mem_cons.mpr ⟨jntT_7, List.forall_mem_cons.mpr ⟨jntT_8, List.forall_mem_cons.mpr ⟨jntT_9, List.forall_mem_cons.mpr ⟨jntT_10, List.forall_mem_cons.mpr ⟨jntT_11, List.forall_mem_cons.mpr ⟨jntT_12, List.forall_mem_cons.mpr ⟨jntT_13, List.forall_mem_cons.mpr ⟨jntT_14, fun _ h => absurd h List.not_mem_nil⟩⟩⟩⟩⟩⟩⟩⟩⟩⟩⟩⟩⟩⟩⟩
theorem jnt_own {μ idx : Nat} {a : Nat} (h : jlk jntT (jow μ) idx = some a) : jntP ((jow μ, idx), a) := jntT_ok _ (jlk_mem h)
def jnt (o i : Nat) : Option Nat := jlk jntT o i
theorem jnt_lk {μ idx k : Nat} (h : jnt (jow μ) idx = some k) : Cond.methodLink (jy μ).cls idx (jntY k) ∈ jwords := by
  rw [jow_of h (by decide +kernel)]
  exact jnt_own h
theorem jnt_ok0 {μ idx : Nat} (h : jnt (jow μ) idx = some 0) : Cond.methodLink (jy μ).cls idx Lib.objectInit ∈ jwords ∧ Cond.instanceMethod Lib.objectInit ∈ jwords ∧ Cond.code Lib.objectInit ⟨#[0xb1]⟩ 1 none ∈ jwords := ⟨jnt_lk h, (jmw 75 (by decide +kernel) (by decide +kernel)), (jmw 76 (by decide +kernel) (by decide +kernel))⟩
theorem jnt_ok1 {μ idx : Nat} (h : jnt (jow μ) idx = some 1) : Cond.methodLink (jy μ).cls idx arraycopyName ∈ jwords ∧ Cond.native arraycopyName ∈ jwords ∧ Cond.static arraycopyName ∈ jwords ∧ Cond.initialized "java/lang/System" ∈ jwords := ⟨jnt_lk h, (jmw 303 (by decide +kernel) (by decide +kernel)), (jmw 302 (by decide +kernel) (by decide +kernel)), (jmw 61 (by decide +kernel) (by decide +kernel))⟩
theorem jnt_ok2 {μ idx : Nat} (h : jnt (jow μ) idx = some 2) : Cond.methodLink (jy μ).cls idx ⟨"java/lang/Object", "getClass", "()Ljava/lang/Class;"⟩ ∈ jwords ∧ Cond.declares ⟨"java/lang/Object", "getClass", "()Ljava/lang/Class;"⟩ ∈ jwords ∧ Cond.instanceMethod ⟨"java/lang/Object", "getClass", "()Ljava/lang/Class;"⟩ ∈ jwords ∧ Cond.native ⟨"java/lang/Object", "getClass", "()Ljava/lang/Class;"⟩ ∈ jwords := ⟨jnt_lk h, (jmw 846 (by decide +kernel) (by decide +kernel)), (jmw 283 (by decide +kernel) (by decide +kernel)), (jmw 293 (by decide +kernel) (by decide +kernel))⟩
theorem jnt_ok3 {μ idx : Nat} (h : jnt (jow μ) idx = some 3) : Cond.methodLink (jy μ).cls idx Lib.Math.max.name ∈ jwords ∧ Cond.static Lib.Math.max.name ∈ jwords ∧ Cond.initialized "java/lang/Math" ∈ jwords ∧ Cond.code Lib.Math.max.name Lib.Math.max.code 2 (some .int) ∈ jwords := ⟨jnt_lk h, (jmw 127 (by decide +kernel) (by decide +kernel)), (jmw 54 (by decide +kernel) (by decide +kernel)), (jmw 128 (by decide +kernel) (by decide +kernel))⟩
theorem jnt_ok4 {μ idx : Nat} (h : jnt (jow μ) idx = some 4) : Cond.methodLink (jy μ).cls idx Lib.Math.min.name ∈ jwords ∧ Cond.static Lib.Math.min.name ∈ jwords ∧ Cond.initialized "java/lang/Math" ∈ jwords ∧ Cond.code Lib.Math.min.name Lib.Math.min.code 2 (some .int) ∈ jwords := ⟨jnt_lk h, (jmw 124 (by decide +kernel) (by decide +kernel)), (jmw 54 (by decide +kernel) (by decide +kernel)), (jmw 125 (by decide +kernel) (by decide +kernel))⟩
def jmi (κ : Nat) : Option Nat := match κ with
  | 53 => some 1
  | 95 => some 1
  | _ => none
theorem jmi_ok {κ k : Nat} (h : jmi κ = some k) : ∃ C, jmir k = some C ∧ Cond.selects C ⟨"java/lang/Object", "getClass", "()Ljava/lang/Class;"⟩ ⟨"java/lang/Object", "getClass", "()Ljava/lang/Class;"⟩ ∈ jwords ∧ ((κ < 50 ∧ ∃ q, vwCl[κ]? = some q ∧ q.1 = C) ∨ (50 ≤ κ ∧ κ ≠ 94 ∧ ∃ ty, jkt κ = some ty ∧ C = "[" ++ ty.toString)) := by
  unfold jmi at h
  split at h
  · cases h
    exact ⟨_, rfl, (jmw 845 (by decide +kernel) (by decide +kernel)), Or.inr ⟨by decide, by decide, _, rfl, by decide +kernel⟩⟩
  · cases h
    exact ⟨_, rfl, (jmw 845 (by decide +kernel) (by decide +kernel)), Or.inr ⟨by decide, by decide, _, rfl, by decide +kernel⟩⟩
  · cases h
def jMw (μ n : Nat) : Prop := Cond.code (jy μ) (jcode μ) (jmaxl μ) (jret μ) ∈ jwords ∧ Cond.initialized (jy μ).cls ∈ jwords ∧ ((jy μ).cls ≠ "java/lang/invoke/MethodHandle" ∧ (jy μ).cls ≠ "java/lang/invoke/VarHandle") ∧ (parseMethodDescriptor (jy μ).desc).map (fun d => d.parameters.length) = some n ∧ plainName (jy μ).cls = true ∧ jmaxl μ + 19 ≤ 40
def jM0 (μ κ : Nat) : Prop := Cond.instanceMethod (jy μ) ∈ jwords ∧ ∃ q : vw_C, vwCl[κ]? = some q ∧ κ < 50 ∧ Cond.selects q.1 (jy μ) (jy μ) ∈ jwords
def jM1 (μ : Nat) : Prop := (jy μ).name = "<init>" ∧ Cond.instanceMethod (jy μ) ∈ jwords ∧ jret μ = none
def jM2 (μ : Nat) : Prop := Cond.static (jy μ) ∈ jwords
theorem jMw_J15_checkIndex_7cf53 : jMw 104 2 := ⟨(jmw 200 (by decide +kernel) (by decide +kernel)), (jmw 56 (by decide +kernel) (by decide +kernel)), ⟨by decide +kernel, by decide +kernel⟩, by decide +kernel, by decide +kernel, by decide⟩
theorem jM2_J15_checkIndex_7cf53 : jM2 104 := (jmw 199 (by decide +kernel) (by decide +kernel))
theorem jMw_J3_checkIndex_8e157 : jMw 107 3 := ⟨(jmw 203 (by decide +kernel) (by decide +kernel)), (jmw 57 (by decide +kernel) (by decide +kernel)), ⟨by decide +kernel, by decide +kernel⟩, by decide +kernel, by decide +kernel, by decide⟩
theorem jM2_J3_checkIndex_8e157 : jM2 107 := (jmw 202 (by decide +kernel) (by decide +kernel))
theorem jMw_J7_copyOf_1904c : jMw 102 2 := ⟨(jmw 281 (by decide +kernel) (by decide +kernel)), (jmw 60 (by decide +kernel) (by decide +kernel)), ⟨by decide +kernel, by decide +kernel⟩, by decide +kernel, by decide +kernel, by decide⟩
theorem jM2_J7_copyOf_1904c : jM2 102 := (jmw 280 (by decide +kernel) (by decide +kernel))
theorem jMw_J7_copyOf_6403c : jMw 103 3 := ⟨(jmw 296 (by decide +kernel) (by decide +kernel)), (jmw 60 (by decide +kernel) (by decide +kernel)), ⟨by decide +kernel, by decide +kernel⟩, by decide +kernel, by decide +kernel, by decide⟩
theorem jM2_J7_copyOf_6403c : jM2 103 := (jmw 295 (by decide +kernel) (by decide +kernel))
theorem jMw_J8_hugeLength_7cf53 : jMw 106 2 := ⟨(jmw 278 (by decide +kernel) (by decide +kernel)), (jmw 59 (by decide +kernel) (by decide +kernel)), ⟨by decide +kernel, by decide +kernel⟩, by decide +kernel, by decide +kernel, by decide⟩
theorem jM2_J8_hugeLength_7cf53 : jM2 106 := (jmw 277 (by decide +kernel) (by decide +kernel))
theorem jMw_J8_newLength_cabcc : jMw 105 3 := ⟨(jmw 273 (by decide +kernel) (by decide +kernel)), (jmw 59 (by decide +kernel) (by decide +kernel)), ⟨by decide +kernel, by decide +kernel⟩, by decide +kernel, by decide +kernel, by decide⟩
theorem jM2_J8_newLength_cabcc : jM2 105 := (jmw 272 (by decide +kernel) (by decide +kernel))
theorem jMw_Jx00060_init_a7421 : jMw 89 1 := ⟨(jmw 567 (by decide +kernel) (by decide +kernel)), (jmw 68 (by decide +kernel) (by decide +kernel)), ⟨by decide +kernel, by decide +kernel⟩, by decide +kernel, by decide +kernel, by decide⟩
theorem jM1_Jx00060_init_a7421 : jM1 89 := ⟨by decide +kernel, (jmw 566 (by decide +kernel) (by decide +kernel)), rfl⟩
theorem jMw_Jx4a65c_add_72be8 : jMw 100 3 := ⟨(jmw 262 (by decide +kernel) (by decide +kernel)), (jmw 52 (by decide +kernel) (by decide +kernel)), ⟨by decide +kernel, by decide +kernel⟩, by decide +kernel, by decide +kernel, by decide⟩
theorem jM0_Jx4a65c_add_72be8 : jM0 100 1 := ⟨(jmw 261 (by decide +kernel) (by decide +kernel)), _, rfl, by decide, (jmw 2 (by decide +kernel) (by decide +kernel))⟩
theorem jMw_Jx4a65c_add_9ea2d : jMw 101 1 := ⟨(jmw 258 (by decide +kernel) (by decide +kernel)), (jmw 52 (by decide +kernel) (by decide +kernel)), ⟨by decide +kernel, by decide +kernel⟩, by decide +kernel, by decide +kernel, by decide⟩
theorem jM0_Jx4a65c_add_9ea2d : jM0 101 1 := ⟨(jmw 256 (by decide +kernel) (by decide +kernel)), _, rfl, by decide, (jmw 257 (by decide +kernel) (by decide +kernel))⟩
theorem jMw_Jx4a65c_elementData_915e3 : jMw 98 1 := ⟨(jmw 207 (by decide +kernel) (by decide +kernel)), (jmw 52 (by decide +kernel) (by decide +kernel)), ⟨by decide +kernel, by decide +kernel⟩, by decide +kernel, by decide +kernel, by decide⟩
theorem jM0_Jx4a65c_elementData_915e3 : jM0 98 1 := ⟨(jmw 205 (by decide +kernel) (by decide +kernel)), _, rfl, by decide, (jmw 206 (by decide +kernel) (by decide +kernel))⟩
theorem jMw_Jx4a65c_get_915e3 : jMw 99 1 := ⟨(jmw 197 (by decide +kernel) (by decide +kernel)), (jmw 52 (by decide +kernel) (by decide +kernel)), ⟨by decide +kernel, by decide +kernel⟩, by decide +kernel, by decide +kernel, by decide⟩
theorem jM0_Jx4a65c_get_915e3 : jM0 99 1 := ⟨(jmw 195 (by decide +kernel) (by decide +kernel)), _, rfl, by decide, (jmw 196 (by decide +kernel) (by decide +kernel))⟩
theorem jMw_Jx4a65c_grow_92f84 : jMw 95 1 := ⟨(jmw 270 (by decide +kernel) (by decide +kernel)), (jmw 52 (by decide +kernel) (by decide +kernel)), ⟨by decide +kernel, by decide +kernel⟩, by decide +kernel, by decide +kernel, by decide⟩
theorem jM0_Jx4a65c_grow_92f84 : jM0 95 1 := ⟨(jmw 269 (by decide +kernel) (by decide +kernel)), _, rfl, by decide, (jmw 4 (by decide +kernel) (by decide +kernel))⟩
theorem jMw_Jx4a65c_grow_d5877 : jMw 96 0 := ⟨(jmw 266 (by decide +kernel) (by decide +kernel)), (jmw 52 (by decide +kernel) (by decide +kernel)), ⟨by decide +kernel, by decide +kernel⟩, by decide +kernel, by decide +kernel, by decide⟩
theorem jM0_Jx4a65c_grow_d5877 : jM0 96 1 := ⟨(jmw 265 (by decide +kernel) (by decide +kernel)), _, rfl, by decide, (jmw 3 (by decide +kernel) (by decide +kernel))⟩
theorem jMw_Jx4a65c_init_da8c8 : jMw 94 0 := ⟨(jmw 81 (by decide +kernel) (by decide +kernel)), (jmw 52 (by decide +kernel) (by decide +kernel)), ⟨by decide +kernel, by decide +kernel⟩, by decide +kernel, by decide +kernel, by decide⟩
theorem jM1_Jx4a65c_init_da8c8 : jM1 94 := ⟨by decide +kernel, (jmw 80 (by decide +kernel) (by decide +kernel)), rfl⟩
theorem jMw_Jx4a65c_size_8abf5 : jMw 97 0 := ⟨(jmw 193 (by decide +kernel) (by decide +kernel)), (jmw 52 (by decide +kernel) (by decide +kernel)), ⟨by decide +kernel, by decide +kernel⟩, by decide +kernel, by decide +kernel, by decide⟩
theorem jM0_Jx4a65c_size_8abf5 : jM0 97 1 := ⟨(jmw 191 (by decide +kernel) (by decide +kernel)), _, rfl, by decide, (jmw 192 (by decide +kernel) (by decide +kernel))⟩
theorem jMw_Jxa1e45_init_da8c8 : jMw 92 0 := ⟨(jmw 87 (by decide +kernel) (by decide +kernel)), (jmw 50 (by decide +kernel) (by decide +kernel)), ⟨by decide +kernel, by decide +kernel⟩, by decide +kernel, by decide +kernel, by decide⟩
theorem jM1_Jxa1e45_init_da8c8 : jM1 92 := ⟨by decide +kernel, (jmw 86 (by decide +kernel) (by decide +kernel)), rfl⟩
theorem jMw_Jxc12de_init_da8c8 : jMw 93 0 := ⟨(jmw 84 (by decide +kernel) (by decide +kernel)), (jmw 51 (by decide +kernel) (by decide +kernel)), ⟨by decide +kernel, by decide +kernel⟩, by decide +kernel, by decide +kernel, by decide⟩
theorem jM1_Jxc12de_init_da8c8 : jM1 93 := ⟨by decide +kernel, (jmw 83 (by decide +kernel) (by decide +kernel)), rfl⟩
theorem jMw_L_cell : jMw 108 2 := ⟨(jmw 510 (by decide +kernel) (by decide +kernel)), (jmw 48 (by decide +kernel) (by decide +kernel)), ⟨by decide +kernel, by decide +kernel⟩, by decide +kernel, by decide +kernel, by decide⟩
theorem jM2_L_cell : jM2 108 := (jmw 509 (by decide +kernel) (by decide +kernel))
theorem jMw_X0_addLine : jMw 1 2 := ⟨(jmw 340 (by decide +kernel) (by decide +kernel)), (jmw 58 (by decide +kernel) (by decide +kernel)), ⟨by decide +kernel, by decide +kernel⟩, by decide +kernel, by decide +kernel, by decide⟩
theorem jM0_X0_addLine : jM0 1 2 := ⟨(jmw 338 (by decide +kernel) (by decide +kernel)), _, rfl, by decide, (jmw 339 (by decide +kernel) (by decide +kernel))⟩
theorem jMw_X0_height : jMw 2 0 := ⟨(jmw 336 (by decide +kernel) (by decide +kernel)), (jmw 58 (by decide +kernel) (by decide +kernel)), ⟨by decide +kernel, by decide +kernel⟩, by decide +kernel, by decide +kernel, by decide⟩
theorem jM0_X0_height : jM0 2 2 := ⟨(jmw 334 (by decide +kernel) (by decide +kernel)), _, rfl, by decide, (jmw 335 (by decide +kernel) (by decide +kernel))⟩
theorem jMw_X0_init : jMw 0 3 := ⟨(jmw 212 (by decide +kernel) (by decide +kernel)), (jmw 58 (by decide +kernel) (by decide +kernel)), ⟨by decide +kernel, by decide +kernel⟩, by decide +kernel, by decide +kernel, by decide⟩
theorem jM1_X0_init : jM1 0 := ⟨by decide +kernel, (jmw 211 (by decide +kernel) (by decide +kernel)), rfl⟩
theorem jMw_X0_takesItsTurn : jMw 3 0 := ⟨(jmw 412 (by decide +kernel) (by decide +kernel)), (jmw 58 (by decide +kernel) (by decide +kernel)), ⟨by decide +kernel, by decide +kernel⟩, by decide +kernel, by decide +kernel, by decide⟩
theorem jM0_X0_takesItsTurn : jM0 3 2 := ⟨(jmw 410 (by decide +kernel) (by decide +kernel)), _, rfl, by decide, (jmw 411 (by decide +kernel) (by decide +kernel))⟩
theorem jMw_X1_add : jMw 6 5 := ⟨(jmw 424 (by decide +kernel) (by decide +kernel)), (jmw 53 (by decide +kernel) (by decide +kernel)), ⟨by decide +kernel, by decide +kernel⟩, by decide +kernel, by decide +kernel, by decide⟩
theorem jM0_X1_add : jM0 6 3 := ⟨(jmw 422 (by decide +kernel) (by decide +kernel)), _, rfl, by decide, (jmw 423 (by decide +kernel) (by decide +kernel))⟩
theorem jMw_X1_cell : jMw 8 2 := ⟨(jmw 597 (by decide +kernel) (by decide +kernel)), (jmw 53 (by decide +kernel) (by decide +kernel)), ⟨by decide +kernel, by decide +kernel⟩, by decide +kernel, by decide +kernel, by decide⟩
theorem jM0_X1_cell : jM0 8 3 := ⟨(jmw 595 (by decide +kernel) (by decide +kernel)), _, rfl, by decide, (jmw 596 (by decide +kernel) (by decide +kernel))⟩
theorem jMw_X1_clear : jMw 5 0 := ⟨(jmw 396 (by decide +kernel) (by decide +kernel)), (jmw 53 (by decide +kernel) (by decide +kernel)), ⟨by decide +kernel, by decide +kernel⟩, by decide +kernel, by decide +kernel, by decide⟩
theorem jM0_X1_clear : jM0 5 3 := ⟨(jmw 394 (by decide +kernel) (by decide +kernel)), _, rfl, by decide, (jmw 395 (by decide +kernel) (by decide +kernel))⟩
theorem jMw_X1_has : jMw 7 2 := ⟨(jmw 522 (by decide +kernel) (by decide +kernel)), (jmw 53 (by decide +kernel) (by decide +kernel)), ⟨by decide +kernel, by decide +kernel⟩, by decide +kernel, by decide +kernel, by decide⟩
theorem jM0_X1_has : jM0 7 3 := ⟨(jmw 520 (by decide +kernel) (by decide +kernel)), _, rfl, by decide, (jmw 521 (by decide +kernel) (by decide +kernel))⟩
theorem jMw_X1_init : jMw 4 0 := ⟨(jmw 107 (by decide +kernel) (by decide +kernel)), (jmw 53 (by decide +kernel) (by decide +kernel)), ⟨by decide +kernel, by decide +kernel⟩, by decide +kernel, by decide +kernel, by decide⟩
theorem jM1_X1_init : jM1 4 := ⟨by decide +kernel, (jmw 106 (by decide +kernel) (by decide +kernel)), rfl⟩
theorem jMw_X2_init : jMw 9 0 := ⟨(jmw 430 (by decide +kernel) (by decide +kernel)), (jmw 63 (by decide +kernel) (by decide +kernel)), ⟨by decide +kernel, by decide +kernel⟩, by decide +kernel, by decide +kernel, by decide⟩
theorem jM1_X2_init : jM1 9 := ⟨by decide +kernel, (jmw 429 (by decide +kernel) (by decide +kernel)), rfl⟩
theorem jMw_X3_init : jMw 10 4 := ⟨(jmw 358 (by decide +kernel) (by decide +kernel)), (jmw 62 (by decide +kernel) (by decide +kernel)), ⟨by decide +kernel, by decide +kernel⟩, by decide +kernel, by decide +kernel, by decide⟩
theorem jM1_X3_init : jM1 10 := ⟨by decide +kernel, (jmw 357 (by decide +kernel) (by decide +kernel)), rfl⟩
theorem jMw_X4_addToSums : jMw 49 2 := ⟨(jmw 483 (by decide +kernel) (by decide +kernel)), (jmw 49 (by decide +kernel) (by decide +kernel)), ⟨by decide +kernel, by decide +kernel⟩, by decide +kernel, by decide +kernel, by decide⟩
theorem jM0_X4_addToSums : jM0 49 6 := ⟨(jmw 482 (by decide +kernel) (by decide +kernel)), _, rfl, by decide, (jmw 26 (by decide +kernel) (by decide +kernel))⟩
theorem jMw_X4_at : jMw 20 2 := ⟨(jmw 518 (by decide +kernel) (by decide +kernel)), (jmw 49 (by decide +kernel) (by decide +kernel)), ⟨by decide +kernel, by decide +kernel⟩, by decide +kernel, by decide +kernel, by decide⟩
theorem jM0_X4_at : jM0 20 6 := ⟨(jmw 516 (by decide +kernel) (by decide +kernel)), _, rfl, by decide, (jmw 517 (by decide +kernel) (by decide +kernel))⟩
theorem jMw_X4_beginPage : jMw 40 0 := ⟨(jmw 442 (by decide +kernel) (by decide +kernel)), (jmw 49 (by decide +kernel) (by decide +kernel)), ⟨by decide +kernel, by decide +kernel⟩, by decide +kernel, by decide +kernel, by decide⟩
theorem jM0_X4_beginPage : jM0 40 6 := ⟨(jmw 441 (by decide +kernel) (by decide +kernel)), _, rfl, by decide, (jmw 16 (by decide +kernel) (by decide +kernel))⟩
theorem jMw_X4_changedLevel : jMw 46 0 := ⟨(jmw 404 (by decide +kernel) (by decide +kernel)), (jmw 49 (by decide +kernel) (by decide +kernel)), ⟨by decide +kernel, by decide +kernel⟩, by decide +kernel, by decide +kernel, by decide⟩
theorem jM0_X4_changedLevel : jM0 46 6 := ⟨(jmw 403 (by decide +kernel) (by decide +kernel)), _, rfl, by decide, (jmw 12 (by decide +kernel) (by decide +kernel))⟩
theorem jMw_X4_control : jMw 15 1 := ⟨(jmw 384 (by decide +kernel) (by decide +kernel)), (jmw 49 (by decide +kernel) (by decide +kernel)), ⟨by decide +kernel, by decide +kernel⟩, by decide +kernel, by decide +kernel, by decide⟩
theorem jM0_X4_control : jM0 15 6 := ⟨(jmw 382 (by decide +kernel) (by decide +kernel)), _, rfl, by decide, (jmw 383 (by decide +kernel) (by decide +kernel))⟩
theorem jMw_X4_countPage : jMw 42 0 := ⟨(jmw 416 (by decide +kernel) (by decide +kernel)), (jmw 49 (by decide +kernel) (by decide +kernel)), ⟨by decide +kernel, by decide +kernel⟩, by decide +kernel, by decide +kernel, by decide⟩
theorem jM0_X4_countPage : jM0 42 6 := ⟨(jmw 415 (by decide +kernel) (by decide +kernel)), _, rfl, by decide, (jmw 14 (by decide +kernel) (by decide +kernel))⟩
theorem jMw_X4_counter : jMw 23 1 := ⟨(jmw 499 (by decide +kernel) (by decide +kernel)), (jmw 49 (by decide +kernel) (by decide +kernel)), ⟨by decide +kernel, by decide +kernel⟩, by decide +kernel, by decide +kernel, by decide⟩
theorem jM0_X4_counter : jM0 23 6 := ⟨(jmw 497 (by decide +kernel) (by decide +kernel)), _, rfl, by decide, (jmw 498 (by decide +kernel) (by decide +kernel))⟩
theorem jMw_X4_endPage : jMw 41 0 := ⟨(jmw 462 (by decide +kernel) (by decide +kernel)), (jmw 49 (by decide +kernel) (by decide +kernel)), ⟨by decide +kernel, by decide +kernel⟩, by decide +kernel, by decide +kernel, by decide⟩
theorem jM0_X4_endPage : jM0 41 6 := ⟨(jmw 461 (by decide +kernel) (by decide +kernel)), _, rfl, by decide, (jmw 21 (by decide +kernel) (by decide +kernel))⟩
theorem jMw_X4_firstSumOf : jMw 32 1 := ⟨(jmw 470 (by decide +kernel) (by decide +kernel)), (jmw 49 (by decide +kernel) (by decide +kernel)), ⟨by decide +kernel, by decide +kernel⟩, by decide +kernel, by decide +kernel, by decide⟩
theorem jM0_X4_firstSumOf : jM0 32 6 := ⟨(jmw 469 (by decide +kernel) (by decide +kernel)), _, rfl, by decide, (jmw 23 (by decide +kernel) (by decide +kernel))⟩
theorem jMw_X4_fitsWithLine : jMw 38 3 := ⟨(jmw 317 (by decide +kernel) (by decide +kernel)), (jmw 49 (by decide +kernel) (by decide +kernel)), ⟨by decide +kernel, by decide +kernel⟩, by decide +kernel, by decide +kernel, by decide⟩
theorem jM0_X4_fitsWithLine : jM0 38 6 := ⟨(jmw 316 (by decide +kernel) (by decide +kernel)), _, rfl, by decide, (jmw 6 (by decide +kernel) (by decide +kernel))⟩
theorem jMw_X4_generate : jMw 18 2 := ⟨(jmw 400 (by decide +kernel) (by decide +kernel)), (jmw 49 (by decide +kernel) (by decide +kernel)), ⟨by decide +kernel, by decide +kernel⟩, by decide +kernel, by decide +kernel, by decide⟩
theorem jM0_X4_generate : jM0 18 6 := ⟨(jmw 398 (by decide +kernel) (by decide +kernel)), _, rfl, by decide, (jmw 399 (by decide +kernel) (by decide +kernel))⟩
theorem jMw_X4_group : jMw 12 2 := ⟨(jmw 181 (by decide +kernel) (by decide +kernel)), (jmw 49 (by decide +kernel) (by decide +kernel)), ⟨by decide +kernel, by decide +kernel⟩, by decide +kernel, by decide +kernel, by decide⟩
theorem jM0_X4_group : jM0 12 6 := ⟨(jmw 179 (by decide +kernel) (by decide +kernel)), _, rfl, by decide, (jmw 180 (by decide +kernel) (by decide +kernel))⟩
theorem jMw_X4_groupNumbered : jMw 29 1 := ⟨(jmw 313 (by decide +kernel) (by decide +kernel)), (jmw 49 (by decide +kernel) (by decide +kernel)), ⟨by decide +kernel, by decide +kernel⟩, by decide +kernel, by decide +kernel, by decide⟩
theorem jM0_X4_groupNumbered : jM0 29 6 := ⟨(jmw 312 (by decide +kernel) (by decide +kernel)), _, rfl, by decide, (jmw 5 (by decide +kernel) (by decide +kernel))⟩
theorem jMw_X4_groupOf : jMw 30 2 := ⟨(jmw 189 (by decide +kernel) (by decide +kernel)), (jmw 49 (by decide +kernel) (by decide +kernel)), ⟨by decide +kernel, by decide +kernel⟩, by decide +kernel, by decide +kernel, by decide⟩
theorem jM0_X4_groupOf : jM0 30 6 := ⟨(jmw 188 (by decide +kernel) (by decide +kernel)), _, rfl, by decide, (jmw 1 (by decide +kernel) (by decide +kernel))⟩
theorem jMw_X4_held : jMw 26 3 := ⟨(jmw 122 (by decide +kernel) (by decide +kernel)), (jmw 49 (by decide +kernel) (by decide +kernel)), ⟨by decide +kernel, by decide +kernel⟩, by decide +kernel, by decide +kernel, by decide⟩
theorem jM2_X4_held : jM2 26 := (jmw 121 (by decide +kernel) (by decide +kernel))
theorem jMw_X4_indicate : jMw 25 1 := ⟨(jmw 507 (by decide +kernel) (by decide +kernel)), (jmw 49 (by decide +kernel) (by decide +kernel)), ⟨by decide +kernel, by decide +kernel⟩, by decide +kernel, by decide +kernel, by decide⟩
theorem jM0_X4_indicate : jM0 25 6 := ⟨(jmw 505 (by decide +kernel) (by decide +kernel)), _, rfl, by decide, (jmw 506 (by decide +kernel) (by decide +kernel))⟩
theorem jMw_X4_init : jMw 11 3 := ⟨(jmw 73 (by decide +kernel) (by decide +kernel)), (jmw 49 (by decide +kernel) (by decide +kernel)), ⟨by decide +kernel, by decide +kernel⟩, by decide +kernel, by decide +kernel, by decide⟩
theorem jM1_X4_init : jM1 11 := ⟨by decide +kernel, (jmw 72 (by decide +kernel) (by decide +kernel)), rfl⟩
theorem jMw_X4_initiate : jMw 17 0 := ⟨(jmw 392 (by decide +kernel) (by decide +kernel)), (jmw 49 (by decide +kernel) (by decide +kernel)), ⟨by decide +kernel, by decide +kernel⟩, by decide +kernel, by decide +kernel, by decide⟩
theorem jM0_X4_initiate : jM0 17 6 := ⟨(jmw 390 (by decide +kernel) (by decide +kernel)), _, rfl, by decide, (jmw 391 (by decide +kernel) (by decide +kernel))⟩
theorem jMw_X4_isKindOfLevel : jMw 28 2 := ⟨(jmw 185 (by decide +kernel) (by decide +kernel)), (jmw 49 (by decide +kernel) (by decide +kernel)), ⟨by decide +kernel, by decide +kernel⟩, by decide +kernel, by decide +kernel, by decide⟩
theorem jM0_X4_isKindOfLevel : jM0 28 6 := ⟨(jmw 184 (by decide +kernel) (by decide +kernel)), _, rfl, by decide, (jmw 0 (by decide +kernel) (by decide +kernel))⟩
theorem jMw_X4_isOfBody : jMw 27 1 := ⟨(jmw 324 (by decide +kernel) (by decide +kernel)), (jmw 49 (by decide +kernel) (by decide +kernel)), ⟨by decide +kernel, by decide +kernel⟩, by decide +kernel, by decide +kernel, by decide⟩
theorem jM2_X4_isOfBody : jM2 27 := (jmw 323 (by decide +kernel) (by decide +kernel))
theorem jMw_X4_isSummable : jMw 33 2 := ⟨(jmw 349 (by decide +kernel) (by decide +kernel)), (jmw 49 (by decide +kernel) (by decide +kernel)), ⟨by decide +kernel, by decide +kernel⟩, by decide +kernel, by decide +kernel, by decide⟩
theorem jM0_X4_isSummable : jM0 33 6 := ⟨(jmw 348 (by decide +kernel) (by decide +kernel)), _, rfl, by decide, (jmw 10 (by decide +kernel) (by decide +kernel))⟩
theorem jMw_X4_line : jMw 13 3 := ⟨(jmw 309 (by decide +kernel) (by decide +kernel)), (jmw 49 (by decide +kernel) (by decide +kernel)), ⟨by decide +kernel, by decide +kernel⟩, by decide +kernel, by decide +kernel, by decide⟩
theorem jM0_X4_line : jM0 13 6 := ⟨(jmw 307 (by decide +kernel) (by decide +kernel)), _, rfl, by decide, (jmw 308 (by decide +kernel) (by decide +kernel))⟩
theorem jMw_X4_lines : jMw 21 0 := ⟨(jmw 491 (by decide +kernel) (by decide +kernel)), (jmw 49 (by decide +kernel) (by decide +kernel)), ⟨by decide +kernel, by decide +kernel⟩, by decide +kernel, by decide +kernel, by decide⟩
theorem jM0_X4_lines : jM0 21 6 := ⟨(jmw 489 (by decide +kernel) (by decide +kernel)), _, rfl, by decide, (jmw 490 (by decide +kernel) (by decide +kernel))⟩
theorem jMw_X4_lowestLine : jMw 35 1 := ⟨(jmw 332 (by decide +kernel) (by decide +kernel)), (jmw 49 (by decide +kernel) (by decide +kernel)), ⟨by decide +kernel, by decide +kernel⟩, by decide +kernel, by decide +kernel, by decide⟩
theorem jM0_X4_lowestLine : jM0 35 6 := ⟨(jmw 331 (by decide +kernel) (by decide +kernel)), _, rfl, by decide, (jmw 9 (by decide +kernel) (by decide +kernel))⟩
theorem jMw_X4_printControlFoots : jMw 48 1 := ⟨(jmw 466 (by decide +kernel) (by decide +kernel)), (jmw 49 (by decide +kernel) (by decide +kernel)), ⟨by decide +kernel, by decide +kernel⟩, by decide +kernel, by decide +kernel, by decide⟩
theorem jM0_X4_printControlFoots : jM0 48 6 := ⟨(jmw 465 (by decide +kernel) (by decide +kernel)), _, rfl, by decide, (jmw 22 (by decide +kernel) (by decide +kernel))⟩
theorem jMw_X4_printControlHeads : jMw 47 1 := ⟨(jmw 450 (by decide +kernel) (by decide +kernel)), (jmw 49 (by decide +kernel) (by decide +kernel)), ⟨by decide +kernel, by decide +kernel⟩, by decide +kernel, by decide +kernel, by decide⟩
theorem jM0_X4_printControlHeads : jM0 47 6 := ⟨(jmw 449 (by decide +kernel) (by decide +kernel)), _, rfl, by decide, (jmw 18 (by decide +kernel) (by decide +kernel))⟩
theorem jMw_X4_printFrom : jMw 45 3 := ⟨(jmw 420 (by decide +kernel) (by decide +kernel)), (jmw 49 (by decide +kernel) (by decide +kernel)), ⟨by decide +kernel, by decide +kernel⟩, by decide +kernel, by decide +kernel, by decide⟩
theorem jM0_X4_printFrom : jM0 45 6 := ⟨(jmw 419 (by decide +kernel) (by decide +kernel)), _, rfl, by decide, (jmw 15 (by decide +kernel) (by decide +kernel))⟩
theorem jMw_X4_printInBody : jMw 39 2 := ⟨(jmw 454 (by decide +kernel) (by decide +kernel)), (jmw 49 (by decide +kernel) (by decide +kernel)), ⟨by decide +kernel, by decide +kernel⟩, by decide +kernel, by decide +kernel, by decide⟩
theorem jM0_X4_printInBody : jM0 39 6 := ⟨(jmw 453 (by decide +kernel) (by decide +kernel)), _, rfl, by decide, (jmw 19 (by decide +kernel) (by decide +kernel))⟩
theorem jMw_X4_printOnOwnPage : jMw 44 1 := ⟨(jmw 408 (by decide +kernel) (by decide +kernel)), (jmw 49 (by decide +kernel) (by decide +kernel)), ⟨by decide +kernel, by decide +kernel⟩, by decide +kernel, by decide +kernel, by decide⟩
theorem jM0_X4_printOnOwnPage : jM0 44 6 := ⟨(jmw 407 (by decide +kernel) (by decide +kernel)), _, rfl, by decide, (jmw 13 (by decide +kernel) (by decide +kernel))⟩
theorem jMw_X4_printOutsideBody : jMw 43 1 := ⟨(jmw 446 (by decide +kernel) (by decide +kernel)), (jmw 49 (by decide +kernel) (by decide +kernel)), ⟨by decide +kernel, by decide +kernel⟩, by decide +kernel, by decide +kernel, by decide⟩
theorem jM0_X4_printOutsideBody : jM0 43 6 := ⟨(jmw 445 (by decide +kernel) (by decide +kernel)), _, rfl, by decide, (jmw 17 (by decide +kernel) (by decide +kernel))⟩
theorem jMw_X4_resetSums : jMw 51 1 := ⟨(jmw 478 (by decide +kernel) (by decide +kernel)), (jmw 49 (by decide +kernel) (by decide +kernel)), ⟨by decide +kernel, by decide +kernel⟩, by decide +kernel, by decide +kernel, by decide⟩
theorem jM0_X4_resetSums : jM0 51 6 := ⟨(jmw 477 (by decide +kernel) (by decide +kernel)), _, rfl, by decide, (jmw 25 (by decide +kernel) (by decide +kernel))⟩
theorem jMw_X4_rollSums : jMw 50 1 := ⟨(jmw 474 (by decide +kernel) (by decide +kernel)), (jmw 49 (by decide +kernel) (by decide +kernel)), ⟨by decide +kernel, by decide +kernel⟩, by decide +kernel, by decide +kernel, by decide⟩
theorem jM0_X4_rollSums : jM0 50 6 := ⟨(jmw 473 (by decide +kernel) (by decide +kernel)), _, rfl, by decide, (jmw 24 (by decide +kernel) (by decide +kernel))⟩
theorem jMw_X4_set : jMw 16 2 := ⟨(jmw 388 (by decide +kernel) (by decide +kernel)), (jmw 49 (by decide +kernel) (by decide +kernel)), ⟨by decide +kernel, by decide +kernel⟩, by decide +kernel, by decide +kernel, by decide⟩
theorem jM0_X4_set : jM0 16 6 := ⟨(jmw 386 (by decide +kernel) (by decide +kernel)), _, rfl, by decide, (jmw 387 (by decide +kernel) (by decide +kernel))⟩
theorem jMw_X4_startInBody : jMw 37 1 := ⟨(jmw 458 (by decide +kernel) (by decide +kernel)), (jmw 49 (by decide +kernel) (by decide +kernel)), ⟨by decide +kernel, by decide +kernel⟩, by decide +kernel, by decide +kernel, by decide⟩
theorem jM0_X4_startInBody : jM0 37 6 := ⟨(jmw 457 (by decide +kernel) (by decide +kernel)), _, rfl, by decide, (jmw 20 (by decide +kernel) (by decide +kernel))⟩
theorem jMw_X4_startOnNewPage : jMw 36 3 := ⟨(jmw 321 (by decide +kernel) (by decide +kernel)), (jmw 49 (by decide +kernel) (by decide +kernel)), ⟨by decide +kernel, by decide +kernel⟩, by decide +kernel, by decide +kernel, by decide⟩
theorem jM0_X4_startOnNewPage : jM0 36 6 := ⟨(jmw 320 (by decide +kernel) (by decide +kernel)), _, rfl, by decide, (jmw 7 (by decide +kernel) (by decide +kernel))⟩
theorem jMw_X4_sum : jMw 14 3 := ⟨(jmw 345 (by decide +kernel) (by decide +kernel)), (jmw 49 (by decide +kernel) (by decide +kernel)), ⟨by decide +kernel, by decide +kernel⟩, by decide +kernel, by decide +kernel, by decide⟩
theorem jM0_X4_sum : jM0 14 6 := ⟨(jmw 343 (by decide +kernel) (by decide +kernel)), _, rfl, by decide, (jmw 344 (by decide +kernel) (by decide +kernel))⟩
theorem jMw_X4_sumNumbered : jMw 31 1 := ⟨(jmw 353 (by decide +kernel) (by decide +kernel)), (jmw 49 (by decide +kernel) (by decide +kernel)), ⟨by decide +kernel, by decide +kernel⟩, by decide +kernel, by decide +kernel, by decide⟩
theorem jM0_X4_sumNumbered : jM0 31 6 := ⟨(jmw 352 (by decide +kernel) (by decide +kernel)), _, rfl, by decide, (jmw 11 (by decide +kernel) (by decide +kernel))⟩
theorem jMw_X4_suppress : jMw 24 1 := ⟨(jmw 503 (by decide +kernel) (by decide +kernel)), (jmw 49 (by decide +kernel) (by decide +kernel)), ⟨by decide +kernel, by decide +kernel⟩, by decide +kernel, by decide +kernel, by decide⟩
theorem jM0_X4_suppress : jM0 24 6 := ⟨(jmw 501 (by decide +kernel) (by decide +kernel)), _, rfl, by decide, (jmw 502 (by decide +kernel) (by decide +kernel))⟩
theorem jMw_X4_terminate : jMw 19 0 := ⟨(jmw 487 (by decide +kernel) (by decide +kernel)), (jmw 49 (by decide +kernel) (by decide +kernel)), ⟨by decide +kernel, by decide +kernel⟩, by decide +kernel, by decide +kernel, by decide⟩
theorem jM0_X4_terminate : jM0 19 6 := ⟨(jmw 485 (by decide +kernel) (by decide +kernel)), _, rfl, by decide, (jmw 486 (by decide +kernel) (by decide +kernel))⟩
theorem jMw_X4_topmostLine : jMw 34 1 := ⟨(jmw 328 (by decide +kernel) (by decide +kernel)), (jmw 49 (by decide +kernel) (by decide +kernel)), ⟨by decide +kernel, by decide +kernel⟩, by decide +kernel, by decide +kernel, by decide⟩
theorem jM0_X4_topmostLine : jM0 34 6 := ⟨(jmw 327 (by decide +kernel) (by decide +kernel)), _, rfl, by decide, (jmw 8 (by decide +kernel) (by decide +kernel))⟩
theorem jMw_X4_total : jMw 22 1 := ⟨(jmw 495 (by decide +kernel) (by decide +kernel)), (jmw 49 (by decide +kernel) (by decide +kernel)), ⟨by decide +kernel, by decide +kernel⟩, by decide +kernel, by decide +kernel, by decide⟩
theorem jM0_X4_total : jM0 22 6 := ⟨(jmw 493 (by decide +kernel) (by decide +kernel)), _, rfl, by decide, (jmw 494 (by decide +kernel) (by decide +kernel))⟩
theorem jMw_X5_alone : jMw 71 1 := ⟨(jmw 766 (by decide +kernel) (by decide +kernel)), (jmw 55 (by decide +kernel) (by decide +kernel)), ⟨by decide +kernel, by decide +kernel⟩, by decide +kernel, by decide +kernel, by decide⟩
theorem jM0_X5_alone : jM0 71 7 := ⟨(jmw 765 (by decide +kernel) (by decide +kernel)), _, rfl, by decide, (jmw 34 (by decide +kernel) (by decide +kernel))⟩
theorem jMw_X5_at : jMw 85 2 := ⟨(jmw 826 (by decide +kernel) (by decide +kernel)), (jmw 55 (by decide +kernel) (by decide +kernel)), ⟨by decide +kernel, by decide +kernel⟩, by decide +kernel, by decide +kernel, by decide⟩
theorem jM0_X5_at : jM0 85 7 := ⟨(jmw 824 (by decide +kernel) (by decide +kernel)), _, rfl, by decide, (jmw 825 (by decide +kernel) (by decide +kernel))⟩
theorem jMw_X5_begin : jMw 72 0 := ⟨(jmw 786 (by decide +kernel) (by decide +kernel)), (jmw 55 (by decide +kernel) (by decide +kernel)), ⟨by decide +kernel, by decide +kernel⟩, by decide +kernel, by decide +kernel, by decide⟩
theorem jM0_X5_begin : jM0 72 7 := ⟨(jmw 785 (by decide +kernel) (by decide +kernel)), _, rfl, by decide, (jmw 39 (by decide +kernel) (by decide +kernel))⟩
theorem jMw_X5_changed : jMw 82 0 := ⟨(jmw 806 (by decide +kernel) (by decide +kernel)), (jmw 55 (by decide +kernel) (by decide +kernel)), ⟨by decide +kernel, by decide +kernel⟩, by decide +kernel, by decide +kernel, by decide⟩
theorem jM0_X5_changed : jM0 82 7 := ⟨(jmw 805 (by decide +kernel) (by decide +kernel)), _, rfl, by decide, (jmw 44 (by decide +kernel) (by decide +kernel))⟩
theorem jMw_X5_control : jMw 63 1 := ⟨(jmw 738 (by decide +kernel) (by decide +kernel)), (jmw 55 (by decide +kernel) (by decide +kernel)), ⟨by decide +kernel, by decide +kernel⟩, by decide +kernel, by decide +kernel, by decide⟩
theorem jM0_X5_control : jM0 63 7 := ⟨(jmw 736 (by decide +kernel) (by decide +kernel)), _, rfl, by decide, (jmw 737 (by decide +kernel) (by decide +kernel))⟩
theorem jMw_X5_counter : jMw 88 1 := ⟨(jmw 838 (by decide +kernel) (by decide +kernel)), (jmw 55 (by decide +kernel) (by decide +kernel)), ⟨by decide +kernel, by decide +kernel⟩, by decide +kernel, by decide +kernel, by decide⟩
theorem jM0_X5_counter : jM0 88 7 := ⟨(jmw 836 (by decide +kernel) (by decide +kernel)), _, rfl, by decide, (jmw 837 (by decide +kernel) (by decide +kernel))⟩
theorem jMw_X5_find : jMw 57 2 := ⟨(jmw 710 (by decide +kernel) (by decide +kernel)), (jmw 55 (by decide +kernel) (by decide +kernel)), ⟨by decide +kernel, by decide +kernel⟩, by decide +kernel, by decide +kernel, by decide⟩
theorem jM0_X5_find : jM0 57 7 := ⟨(jmw 709 (by decide +kernel) (by decide +kernel)), _, rfl, by decide, (jmw 28 (by decide +kernel) (by decide +kernel))⟩
theorem jMw_X5_firstSum : jMw 78 1 := ⟨(jmw 814 (by decide +kernel) (by decide +kernel)), (jmw 55 (by decide +kernel) (by decide +kernel)), ⟨by decide +kernel, by decide +kernel⟩, by decide +kernel, by decide +kernel, by decide⟩
theorem jM0_X5_firstSum : jM0 78 7 := ⟨(jmw 813 (by decide +kernel) (by decide +kernel)), _, rfl, by decide, (jmw 46 (by decide +kernel) (by decide +kernel))⟩
theorem jMw_X5_fits : jMw 59 3 := ⟨(jmw 722 (by decide +kernel) (by decide +kernel)), (jmw 55 (by decide +kernel) (by decide +kernel)), ⟨by decide +kernel, by decide +kernel⟩, by decide +kernel, by decide +kernel, by decide⟩
theorem jM0_X5_fits : jM0 59 7 := ⟨(jmw 721 (by decide +kernel) (by decide +kernel)), _, rfl, by decide, (jmw 30 (by decide +kernel) (by decide +kernel))⟩
theorem jMw_X5_foot : jMw 79 1 := ⟨(jmw 810 (by decide +kernel) (by decide +kernel)), (jmw 55 (by decide +kernel) (by decide +kernel)), ⟨by decide +kernel, by decide +kernel⟩, by decide +kernel, by decide +kernel, by decide⟩
theorem jM0_X5_foot : jM0 79 7 := ⟨(jmw 809 (by decide +kernel) (by decide +kernel)), _, rfl, by decide, (jmw 45 (by decide +kernel) (by decide +kernel))⟩
theorem jMw_X5_fresh : jMw 74 0 := ⟨(jmw 758 (by decide +kernel) (by decide +kernel)), (jmw 55 (by decide +kernel) (by decide +kernel)), ⟨by decide +kernel, by decide +kernel⟩, by decide +kernel, by decide +kernel, by decide⟩
theorem jM0_X5_fresh : jM0 74 7 := ⟨(jmw 757 (by decide +kernel) (by decide +kernel)), _, rfl, by decide, (jmw 33 (by decide +kernel) (by decide +kernel))⟩
theorem jMw_X5_generate : jMw 83 2 := ⟨(jmw 762 (by decide +kernel) (by decide +kernel)), (jmw 55 (by decide +kernel) (by decide +kernel)), ⟨by decide +kernel, by decide +kernel⟩, by decide +kernel, by decide +kernel, by decide⟩
theorem jM0_X5_generate : jM0 83 7 := ⟨(jmw 760 (by decide +kernel) (by decide +kernel)), _, rfl, by decide, (jmw 761 (by decide +kernel) (by decide +kernel))⟩
theorem jMw_X5_group : jMw 58 2 := ⟨(jmw 706 (by decide +kernel) (by decide +kernel)), (jmw 55 (by decide +kernel) (by decide +kernel)), ⟨by decide +kernel, by decide +kernel⟩, by decide +kernel, by decide +kernel, by decide⟩
theorem jM0_X5_group : jM0 58 7 := ⟨(jmw 704 (by decide +kernel) (by decide +kernel)), _, rfl, by decide, (jmw 705 (by decide +kernel) (by decide +kernel))⟩
theorem jMw_X5_head : jMw 77 1 := ⟨(jmw 790 (by decide +kernel) (by decide +kernel)), (jmw 55 (by decide +kernel) (by decide +kernel)), ⟨by decide +kernel, by decide +kernel⟩, by decide +kernel, by decide +kernel, by decide⟩
theorem jM0_X5_head : jM0 77 7 := ⟨(jmw 789 (by decide +kernel) (by decide +kernel)), _, rfl, by decide, (jmw 40 (by decide +kernel) (by decide +kernel))⟩
theorem jMw_X5_held : jMw 53 3 := ⟨(jmw 608 (by decide +kernel) (by decide +kernel)), (jmw 55 (by decide +kernel) (by decide +kernel)), ⟨by decide +kernel, by decide +kernel⟩, by decide +kernel, by decide +kernel, by decide⟩
theorem jM2_X5_held : jM2 53 := (jmw 607 (by decide +kernel) (by decide +kernel))
theorem jMw_X5_inBody : jMw 76 2 := ⟨(jmw 794 (by decide +kernel) (by decide +kernel)), (jmw 55 (by decide +kernel) (by decide +kernel)), ⟨by decide +kernel, by decide +kernel⟩, by decide +kernel, by decide +kernel, by decide⟩
theorem jM0_X5_inBody : jM0 76 7 := ⟨(jmw 793 (by decide +kernel) (by decide +kernel)), _, rfl, by decide, (jmw 41 (by decide +kernel) (by decide +kernel))⟩
theorem jMw_X5_indicate : jMw 66 1 := ⟨(jmw 750 (by decide +kernel) (by decide +kernel)), (jmw 55 (by decide +kernel) (by decide +kernel)), ⟨by decide +kernel, by decide +kernel⟩, by decide +kernel, by decide +kernel, by decide⟩
theorem jM0_X5_indicate : jM0 66 7 := ⟨(jmw 748 (by decide +kernel) (by decide +kernel)), _, rfl, by decide, (jmw 749 (by decide +kernel) (by decide +kernel))⟩
theorem jMw_X5_init : jMw 52 3 := ⟨(jmw 603 (by decide +kernel) (by decide +kernel)), (jmw 55 (by decide +kernel) (by decide +kernel)), ⟨by decide +kernel, by decide +kernel⟩, by decide +kernel, by decide +kernel, by decide⟩
theorem jM1_X5_init : jM1 52 := ⟨by decide +kernel, (jmw 602 (by decide +kernel) (by decide +kernel)), rfl⟩
theorem jMw_X5_initiate : jMw 81 0 := ⟨(jmw 754 (by decide +kernel) (by decide +kernel)), (jmw 55 (by decide +kernel) (by decide +kernel)), ⟨by decide +kernel, by decide +kernel⟩, by decide +kernel, by decide +kernel, by decide⟩
theorem jM0_X5_initiate : jM0 81 7 := ⟨(jmw 752 (by decide +kernel) (by decide +kernel)), _, rfl, by decide, (jmw 753 (by decide +kernel) (by decide +kernel))⟩
theorem jMw_X5_isDetail : jMw 56 1 := ⟨(jmw 734 (by decide +kernel) (by decide +kernel)), (jmw 55 (by decide +kernel) (by decide +kernel)), ⟨by decide +kernel, by decide +kernel⟩, by decide +kernel, by decide +kernel, by decide⟩
theorem jM0_X5_isDetail : jM0 56 7 := ⟨(jmw 733 (by decide +kernel) (by decide +kernel)), _, rfl, by decide, (jmw 32 (by decide +kernel) (by decide +kernel))⟩
theorem jMw_X5_isGroup : jMw 55 1 := ⟨(jmw 718 (by decide +kernel) (by decide +kernel)), (jmw 55 (by decide +kernel) (by decide +kernel)), ⟨by decide +kernel, by decide +kernel⟩, by decide +kernel, by decide +kernel, by decide⟩
theorem jM0_X5_isGroup : jM0 55 7 := ⟨(jmw 717 (by decide +kernel) (by decide +kernel)), _, rfl, by decide, (jmw 29 (by decide +kernel) (by decide +kernel))⟩
theorem jMw_X5_isOf : jMw 61 2 := ⟨(jmw 730 (by decide +kernel) (by decide +kernel)), (jmw 55 (by decide +kernel) (by decide +kernel)), ⟨by decide +kernel, by decide +kernel⟩, by decide +kernel, by decide +kernel, by decide⟩
theorem jM0_X5_isOf : jM0 61 7 := ⟨(jmw 729 (by decide +kernel) (by decide +kernel)), _, rfl, by decide, (jmw 31 (by decide +kernel) (by decide +kernel))⟩
theorem jMw_X5_isOn : jMw 68 1 := ⟨(jmw 770 (by decide +kernel) (by decide +kernel)), (jmw 55 (by decide +kernel) (by decide +kernel)), ⟨by decide +kernel, by decide +kernel⟩, by decide +kernel, by decide +kernel, by decide⟩
theorem jM0_X5_isOn : jM0 68 7 := ⟨(jmw 769 (by decide +kernel) (by decide +kernel)), _, rfl, by decide, (jmw 35 (by decide +kernel) (by decide +kernel))⟩
theorem jMw_X5_keep : jMw 80 0 := ⟨(jmw 818 (by decide +kernel) (by decide +kernel)), (jmw 55 (by decide +kernel) (by decide +kernel)), ⟨by decide +kernel, by decide +kernel⟩, by decide +kernel, by decide +kernel, by decide⟩
theorem jM0_X5_keep : jM0 80 7 := ⟨(jmw 817 (by decide +kernel) (by decide +kernel)), _, rfl, by decide, (jmw 47 (by decide +kernel) (by decide +kernel))⟩
theorem jMw_X5_line : jMw 60 3 := ⟨(jmw 714 (by decide +kernel) (by decide +kernel)), (jmw 55 (by decide +kernel) (by decide +kernel)), ⟨by decide +kernel, by decide +kernel⟩, by decide +kernel, by decide +kernel, by decide⟩
theorem jM0_X5_line : jM0 60 7 := ⟨(jmw 712 (by decide +kernel) (by decide +kernel)), _, rfl, by decide, (jmw 713 (by decide +kernel) (by decide +kernel))⟩
theorem jMw_X5_lines : jMw 86 0 := ⟨(jmw 830 (by decide +kernel) (by decide +kernel)), (jmw 55 (by decide +kernel) (by decide +kernel)), ⟨by decide +kernel, by decide +kernel⟩, by decide +kernel, by decide +kernel, by decide⟩
theorem jM0_X5_lines : jM0 86 7 := ⟨(jmw 828 (by decide +kernel) (by decide +kernel)), _, rfl, by decide, (jmw 829 (by decide +kernel) (by decide +kernel))⟩
theorem jMw_X5_over : jMw 73 0 := ⟨(jmw 802 (by decide +kernel) (by decide +kernel)), (jmw 55 (by decide +kernel) (by decide +kernel)), ⟨by decide +kernel, by decide +kernel⟩, by decide +kernel, by decide +kernel, by decide⟩
theorem jM0_X5_over : jM0 73 7 := ⟨(jmw 801 (by decide +kernel) (by decide +kernel)), _, rfl, by decide, (jmw 43 (by decide +kernel) (by decide +kernel))⟩
theorem jMw_X5_put : jMw 67 4 := ⟨(jmw 782 (by decide +kernel) (by decide +kernel)), (jmw 55 (by decide +kernel) (by decide +kernel)), ⟨by decide +kernel, by decide +kernel⟩, by decide +kernel, by decide +kernel, by decide⟩
theorem jM0_X5_put : jM0 67 7 := ⟨(jmw 781 (by decide +kernel) (by decide +kernel)), _, rfl, by decide, (jmw 38 (by decide +kernel) (by decide +kernel))⟩
theorem jMw_X5_putAll : jMw 69 3 := ⟨(jmw 778 (by decide +kernel) (by decide +kernel)), (jmw 55 (by decide +kernel) (by decide +kernel)), ⟨by decide +kernel, by decide +kernel⟩, by decide +kernel, by decide +kernel, by decide⟩
theorem jM0_X5_putAll : jM0 69 7 := ⟨(jmw 777 (by decide +kernel) (by decide +kernel)), _, rfl, by decide, (jmw 37 (by decide +kernel) (by decide +kernel))⟩
theorem jMw_X5_putFrom : jMw 70 3 := ⟨(jmw 774 (by decide +kernel) (by decide +kernel)), (jmw 55 (by decide +kernel) (by decide +kernel)), ⟨by decide +kernel, by decide +kernel⟩, by decide +kernel, by decide +kernel, by decide⟩
theorem jM0_X5_putFrom : jM0 70 7 := ⟨(jmw 773 (by decide +kernel) (by decide +kernel)), _, rfl, by decide, (jmw 36 (by decide +kernel) (by decide +kernel))⟩
theorem jMw_X5_set : jMw 64 2 := ⟨(jmw 742 (by decide +kernel) (by decide +kernel)), (jmw 55 (by decide +kernel) (by decide +kernel)), ⟨by decide +kernel, by decide +kernel⟩, by decide +kernel, by decide +kernel, by decide⟩
theorem jM0_X5_set : jM0 64 7 := ⟨(jmw 740 (by decide +kernel) (by decide +kernel)), _, rfl, by decide, (jmw 741 (by decide +kernel) (by decide +kernel))⟩
theorem jMw_X5_sum : jMw 62 3 := ⟨(jmw 726 (by decide +kernel) (by decide +kernel)), (jmw 55 (by decide +kernel) (by decide +kernel)), ⟨by decide +kernel, by decide +kernel⟩, by decide +kernel, by decide +kernel, by decide⟩
theorem jM0_X5_sum : jM0 62 7 := ⟨(jmw 724 (by decide +kernel) (by decide +kernel)), _, rfl, by decide, (jmw 725 (by decide +kernel) (by decide +kernel))⟩
theorem jMw_X5_suppress : jMw 65 1 := ⟨(jmw 746 (by decide +kernel) (by decide +kernel)), (jmw 55 (by decide +kernel) (by decide +kernel)), ⟨by decide +kernel, by decide +kernel⟩, by decide +kernel, by decide +kernel, by decide⟩
theorem jM0_X5_suppress : jM0 65 7 := ⟨(jmw 744 (by decide +kernel) (by decide +kernel)), _, rfl, by decide, (jmw 745 (by decide +kernel) (by decide +kernel))⟩
theorem jMw_X5_terminate : jMw 84 0 := ⟨(jmw 822 (by decide +kernel) (by decide +kernel)), (jmw 55 (by decide +kernel) (by decide +kernel)), ⟨by decide +kernel, by decide +kernel⟩, by decide +kernel, by decide +kernel, by decide⟩
theorem jM0_X5_terminate : jM0 84 7 := ⟨(jmw 820 (by decide +kernel) (by decide +kernel)), _, rfl, by decide, (jmw 821 (by decide +kernel) (by decide +kernel))⟩
theorem jMw_X5_thrown : jMw 54 0 := ⟨(jmw 702 (by decide +kernel) (by decide +kernel)), (jmw 55 (by decide +kernel) (by decide +kernel)), ⟨by decide +kernel, by decide +kernel⟩, by decide +kernel, by decide +kernel, by decide⟩
theorem jM0_X5_thrown : jM0 54 7 := ⟨(jmw 700 (by decide +kernel) (by decide +kernel)), _, rfl, by decide, (jmw 701 (by decide +kernel) (by decide +kernel))⟩
theorem jMw_X5_top : jMw 75 1 := ⟨(jmw 798 (by decide +kernel) (by decide +kernel)), (jmw 55 (by decide +kernel) (by decide +kernel)), ⟨by decide +kernel, by decide +kernel⟩, by decide +kernel, by decide +kernel, by decide⟩
theorem jM0_X5_top : jM0 75 7 := ⟨(jmw 797 (by decide +kernel) (by decide +kernel)), _, rfl, by decide, (jmw 42 (by decide +kernel) (by decide +kernel))⟩
theorem jMw_X5_total : jMw 87 1 := ⟨(jmw 834 (by decide +kernel) (by decide +kernel)), (jmw 55 (by decide +kernel) (by decide +kernel)), ⟨by decide +kernel, by decide +kernel⟩, by decide +kernel, by decide +kernel, by decide⟩
theorem jM0_X5_total : jM0 87 7 := ⟨(jmw 832 (by decide +kernel) (by decide +kernel)), _, rfl, by decide, (jmw 833 (by decide +kernel) (by decide +kernel))⟩
def jmtT : List ((Nat × Nat) × (Nat × Nat × Nat × Nat)) := [((4, 9), (1, 94, 0, 0)), ((4, 32), (1, 4, 0, 0)), ((4, 86), (1, 0, 3, 0)), ((4, 122), (1, 10, 4, 0)), ((4, 180), (1, 89, 1, 0)), ((1, 9), (1, 94, 0, 0)), ((1, 26), (1, 9, 0, 0)), ((15, 21), (1, 11, 3, 0)), ((15, 26), (1, 52, 3, 0)), ((9, 1), (1, 92, 0, 0)), ((10, 1), (1, 93, 0, 0)), ((4, 59), (2, 26, 3, 0)), ((4, 209), (2, 27, 1, 0)), ((15, 15), (2, 108, 2, 0)), ((5, 58), (2, 53, 3, 0)), ((10, 66), (2, 102, 2, 0)), ((10, 73), (2, 105, 3, 0)), ((10, 118), (2, 104, 2, 0)), ((11, 300), (2, 103, 3, 0)), ((12, 105), (2, 107, 3, 0)), ((13, 201), (2, 106, 2, 0)), ((4, 72), (0, 28, 2, 6)), ((4, 76), (0, 30, 2, 6)), ((4, 80), (0, 97, 0, 1)), ((4, 89), (0, 101, 1, 1)), ((4, 93), (0, 29, 1, 6)), ((4, 100), (0, 38, 3, 6)), ((4, 104), (0, 1, 2, 2)), ((4, 114), (0, 33, 2, 6)), ((4, 125), (0, 5, 0, 3)), ((4, 128), (0, 99, 1, 1)), ((4, 139), (0, 46, 0, 6)), ((4, 142), (0, 44, 1, 6)), ((4, 146), (0, 40, 0, 6)), ((4, 149), (0, 47, 1, 6)), ((4, 153), (0, 48, 1, 6)), ((4, 162), (0, 49, 2, 6)), ((4, 166), (0, 39, 2, 6)), ((4, 170), (0, 41, 0, 6)), ((4, 173), (0, 7, 2, 3)), ((4, 183), (0, 8, 2, 3)), ((4, 187), (0, 31, 1, 6)), ((4, 219), (0, 36, 3, 6)), ((4, 223), (0, 34, 1, 6)), ((4, 227), (0, 35, 1, 6)), ((4, 230), (0, 2, 0, 2)), ((4, 233), (0, 3, 0, 2)), ((4, 237), (0, 37, 1, 6)), ((4, 244), (0, 45, 3, 6)), ((4, 248), (0, 42, 0, 6)), ((4, 251), (0, 43, 1, 6)), ((4, 257), (0, 6, 5, 3)), ((4, 260), (0, 32, 1, 6)), ((4, 263), (0, 50, 1, 6)), ((4, 266), (0, 51, 1, 6)), ((0, 44), (0, 2, 0, 2)), ((1, 20), (0, 97, 0, 1)), ((1, 27), (0, 101, 1, 1)), ((1, 31), (0, 99, 1, 1)), ((1, 39), (0, 7, 2, 3)), ((15, 7), (0, 20, 2, 6)), ((15, 27), (0, 12, 2, 6)), ((15, 30), (0, 58, 2, 7)), ((15, 31), (0, 13, 3, 6)), ((15, 35), (0, 60, 3, 7)), ((15, 36), (0, 14, 3, 6)), ((15, 40), (0, 62, 3, 7)), ((15, 41), (0, 15, 1, 6)), ((15, 45), (0, 63, 1, 7)), ((15, 46), (0, 16, 2, 6)), ((15, 49), (0, 64, 2, 7)), ((15, 50), (0, 17, 0, 6)), ((15, 54), (0, 81, 0, 7)), ((15, 57), (0, 18, 2, 6)), ((15, 61), (0, 83, 2, 7)), ((15, 62), (0, 19, 0, 6)), ((15, 65), (0, 84, 0, 7)), ((15, 69), (0, 85, 2, 7)), ((15, 70), (0, 54, 0, 7)), ((15, 73), (0, 21, 0, 6)), ((15, 76), (0, 86, 0, 7)), ((15, 77), (0, 22, 1, 6)), ((15, 81), (0, 87, 1, 7)), ((15, 82), (0, 23, 1, 6)), ((15, 85), (0, 88, 1, 7)), ((15, 86), (0, 24, 1, 6)), ((15, 89), (0, 65, 1, 7)), ((15, 90), (0, 25, 1, 6)), ((15, 93), (0, 66, 1, 7)), ((5, 78), (0, 55, 1, 7)), ((5, 89), (0, 57, 2, 7)), ((5, 93), (0, 59, 3, 7)), ((5, 97), (0, 56, 1, 7)), ((5, 103), (0, 61, 2, 7)), ((5, 116), (0, 67, 4, 7)), ((5, 120), (0, 69, 3, 7)), ((5, 124), (0, 68, 1, 7)), ((5, 127), (0, 70, 3, 7)), ((5, 133), (0, 74, 0, 7)), ((5, 136), (0, 75, 1, 7)), ((5, 140), (0, 73, 0, 7)), ((5, 143), (0, 72, 0, 7)), ((5, 146), (0, 76, 2, 7)), ((5, 150), (0, 78, 1, 7)), ((5, 159), (0, 71, 1, 7)), ((5, 163), (0, 77, 1, 7)), ((5, 166), (0, 82, 0, 7)), ((5, 170), (0, 79, 1, 7)), ((5, 172), (0, 80, 0, 7)), ((10, 69), (0, 95, 1, 1)), ((10, 123), (0, 98, 1, 1)), ((10, 129), (0, 96, 0, 1)), ((10, 131), (0, 100, 3, 1))]
def jmtP (x : (Nat × Nat) × (Nat × Nat × Nat × Nat)) : Prop := (Cond.methodLink (jcn x.1.1) x.1.2 (jy x.2.2.1) ∈ jwords ∨ ∃ host : String, Cond.methodLinkNest (jcn x.1.1) x.1.2 (jy x.2.2.1) host ∈ jwords) ∧ jMw x.2.2.1 x.2.2.2.1 ∧ (x.2.1 = 0 → jM0 x.2.2.1 x.2.2.2.2) ∧ (x.2.1 = 1 → jM1 x.2.2.1) ∧ (x.2.1 = 2 → jM2 x.2.2.1)
theorem jmtT_0 : jmtP ((4, 9), (1, 94, 0, 0)) := ⟨Or.inl (jmw 79 (by decide +kernel) (by decide +kernel)), jMw_Jx4a65c_init_da8c8, fun h => absurd h (by decide), fun _ => jM1_Jx4a65c_init_da8c8, fun h => absurd h (by decide)⟩
theorem jmtT_1 : jmtP ((4, 32), (1, 4, 0, 0)) := ⟨Or.inr ⟨"ReportWriter", (jmw 105 (by decide +kernel) (by decide +kernel))⟩, jMw_X1_init, fun h => absurd h (by decide), fun _ => jM1_X1_init, fun h => absurd h (by decide)⟩
theorem jmtT_2 : jmtP ((4, 86), (1, 0, 3, 0)) := ⟨Or.inl (jmw 210 (by decide +kernel) (by decide +kernel)), jMw_X0_init, fun h => absurd h (by decide), fun _ => jM1_X0_init, fun h => absurd h (by decide)⟩
theorem jmtT_3 : jmtP ((4, 122), (1, 10, 4, 0)) := ⟨Or.inl (jmw 356 (by decide +kernel) (by decide +kernel)), jMw_X3_init, fun h => absurd h (by decide), fun _ => jM1_X3_init, fun h => absurd h (by decide)⟩
theorem jmtT_4 : jmtP ((4, 180), (1, 89, 1, 0)) := ⟨Or.inl (jmw 565 (by decide +kernel) (by decide +kernel)), jMw_Jx00060_init_a7421, fun h => absurd h (by decide), fun _ => jM1_Jx00060_init_a7421, fun h => absurd h (by decide)⟩
theorem jmtT_5 : jmtP ((1, 9), (1, 94, 0, 0)) := ⟨Or.inl (jmw 110 (by decide +kernel) (by decide +kernel)), jMw_Jx4a65c_init_da8c8, fun h => absurd h (by decide), fun _ => jM1_Jx4a65c_init_da8c8, fun h => absurd h (by decide)⟩
theorem jmtT_6 : jmtP ((1, 26), (1, 9, 0, 0)) := ⟨Or.inr ⟨"ReportWriter", (jmw 428 (by decide +kernel) (by decide +kernel))⟩, jMw_X2_init, fun h => absurd h (by decide), fun _ => jM1_X2_init, fun h => absurd h (by decide)⟩
theorem jmtT_7 : jmtP ((15, 21), (1, 11, 3, 0)) := ⟨Or.inl (jmw 71 (by decide +kernel) (by decide +kernel)), jMw_X4_init, fun h => absurd h (by decide), fun _ => jM1_X4_init, fun h => absurd h (by decide)⟩
theorem jmtT_8 : jmtP ((15, 26), (1, 52, 3, 0)) := ⟨Or.inl (jmw 601 (by decide +kernel) (by decide +kernel)), jMw_X5_init, fun h => absurd h (by decide), fun _ => jM1_X5_init, fun h => absurd h (by decide)⟩
theorem jmtT_9 : jmtP ((9, 1), (1, 92, 0, 0)) := ⟨Or.inl (jmw 85 (by decide +kernel) (by decide +kernel)), jMw_Jxa1e45_init_da8c8, fun h => absurd h (by decide), fun _ => jM1_Jxa1e45_init_da8c8, fun h => absurd h (by decide)⟩
theorem jmtT_10 : jmtP ((10, 1), (1, 93, 0, 0)) := ⟨Or.inl (jmw 82 (by decide +kernel) (by decide +kernel)), jMw_Jxc12de_init_da8c8, fun h => absurd h (by decide), fun _ => jM1_Jxc12de_init_da8c8, fun h => absurd h (by decide)⟩
theorem jmtT_11 : jmtP ((4, 59), (2, 26, 3, 0)) := ⟨Or.inl (jmw 120 (by decide +kernel) (by decide +kernel)), jMw_X4_held, fun h => absurd h (by decide), fun h => absurd h (by decide), fun _ => jM2_X4_held⟩
theorem jmtT_12 : jmtP ((4, 209), (2, 27, 1, 0)) := ⟨Or.inl (jmw 322 (by decide +kernel) (by decide +kernel)), jMw_X4_isOfBody, fun h => absurd h (by decide), fun h => absurd h (by decide), fun _ => jM2_X4_isOfBody⟩
theorem jmtT_13 : jmtP ((15, 15), (2, 108, 2, 0)) := ⟨Or.inl (jmw 508 (by decide +kernel) (by decide +kernel)), jMw_L_cell, fun h => absurd h (by decide), fun h => absurd h (by decide), fun _ => jM2_L_cell⟩
theorem jmtT_14 : jmtP ((5, 58), (2, 53, 3, 0)) := ⟨Or.inl (jmw 606 (by decide +kernel) (by decide +kernel)), jMw_X5_held, fun h => absurd h (by decide), fun h => absurd h (by decide), fun _ => jM2_X5_held⟩
theorem jmtT_15 : jmtP ((10, 66), (2, 102, 2, 0)) := ⟨Or.inl (jmw 279 (by decide +kernel) (by decide +kernel)), jMw_J7_copyOf_1904c, fun h => absurd h (by decide), fun h => absurd h (by decide), fun _ => jM2_J7_copyOf_1904c⟩
theorem jmtT_16 : jmtP ((10, 73), (2, 105, 3, 0)) := ⟨Or.inl (jmw 271 (by decide +kernel) (by decide +kernel)), jMw_J8_newLength_cabcc, fun h => absurd h (by decide), fun h => absurd h (by decide), fun _ => jM2_J8_newLength_cabcc⟩
theorem jmtT_17 : jmtP ((10, 118), (2, 104, 2, 0)) := ⟨Or.inl (jmw 198 (by decide +kernel) (by decide +kernel)), jMw_J15_checkIndex_7cf53, fun h => absurd h (by decide), fun h => absurd h (by decide), fun _ => jM2_J15_checkIndex_7cf53⟩
theorem jmtT_18 : jmtP ((11, 300), (2, 103, 3, 0)) := ⟨Or.inl (jmw 294 (by decide +kernel) (by decide +kernel)), jMw_J7_copyOf_6403c, fun h => absurd h (by decide), fun h => absurd h (by decide), fun _ => jM2_J7_copyOf_6403c⟩
theorem jmtT_19 : jmtP ((12, 105), (2, 107, 3, 0)) := ⟨Or.inl (jmw 201 (by decide +kernel) (by decide +kernel)), jMw_J3_checkIndex_8e157, fun h => absurd h (by decide), fun h => absurd h (by decide), fun _ => jM2_J3_checkIndex_8e157⟩
theorem jmtT_20 : jmtP ((13, 201), (2, 106, 2, 0)) := ⟨Or.inl (jmw 276 (by decide +kernel) (by decide +kernel)), jMw_J8_hugeLength_7cf53, fun h => absurd h (by decide), fun h => absurd h (by decide), fun _ => jM2_J8_hugeLength_7cf53⟩
theorem jmtT_21 : jmtP ((4, 72), (0, 28, 2, 6)) := ⟨Or.inl (jmw 182 (by decide +kernel) (by decide +kernel)), jMw_X4_isKindOfLevel, fun _ => jM0_X4_isKindOfLevel, fun h => absurd h (by decide), fun h => absurd h (by decide)⟩
theorem jmtT_22 : jmtP ((4, 76), (0, 30, 2, 6)) := ⟨Or.inl (jmw 186 (by decide +kernel) (by decide +kernel)), jMw_X4_groupOf, fun _ => jM0_X4_groupOf, fun h => absurd h (by decide), fun h => absurd h (by decide)⟩
theorem jmtT_23 : jmtP ((4, 80), (0, 97, 0, 1)) := ⟨Or.inl (jmw 190 (by decide +kernel) (by decide +kernel)), jMw_Jx4a65c_size_8abf5, fun _ => jM0_Jx4a65c_size_8abf5, fun h => absurd h (by decide), fun h => absurd h (by decide)⟩
theorem jmtT_24 : jmtP ((4, 89), (0, 101, 1, 1)) := ⟨Or.inl (jmw 255 (by decide +kernel) (by decide +kernel)), jMw_Jx4a65c_add_9ea2d, fun _ => jM0_Jx4a65c_add_9ea2d, fun h => absurd h (by decide), fun h => absurd h (by decide)⟩
theorem jmtT_25 : jmtP ((4, 93), (0, 29, 1, 6)) := ⟨Or.inl (jmw 310 (by decide +kernel) (by decide +kernel)), jMw_X4_groupNumbered, fun _ => jM0_X4_groupNumbered, fun h => absurd h (by decide), fun h => absurd h (by decide)⟩
theorem jmtT_26 : jmtP ((4, 100), (0, 38, 3, 6)) := ⟨Or.inl (jmw 314 (by decide +kernel) (by decide +kernel)), jMw_X4_fitsWithLine, fun _ => jM0_X4_fitsWithLine, fun h => absurd h (by decide), fun h => absurd h (by decide)⟩
theorem jmtT_27 : jmtP ((4, 104), (0, 1, 2, 2)) := ⟨Or.inl (jmw 337 (by decide +kernel) (by decide +kernel)), jMw_X0_addLine, fun _ => jM0_X0_addLine, fun h => absurd h (by decide), fun h => absurd h (by decide)⟩
theorem jmtT_28 : jmtP ((4, 114), (0, 33, 2, 6)) := ⟨Or.inl (jmw 346 (by decide +kernel) (by decide +kernel)), jMw_X4_isSummable, fun _ => jM0_X4_isSummable, fun h => absurd h (by decide), fun h => absurd h (by decide)⟩
theorem jmtT_29 : jmtP ((4, 125), (0, 5, 0, 3)) := ⟨Or.inl (jmw 393 (by decide +kernel) (by decide +kernel)), jMw_X1_clear, fun _ => jM0_X1_clear, fun h => absurd h (by decide), fun h => absurd h (by decide)⟩
theorem jmtT_30 : jmtP ((4, 128), (0, 99, 1, 1)) := ⟨Or.inl (jmw 194 (by decide +kernel) (by decide +kernel)), jMw_Jx4a65c_get_915e3, fun _ => jM0_Jx4a65c_get_915e3, fun h => absurd h (by decide), fun h => absurd h (by decide)⟩
theorem jmtT_31 : jmtP ((4, 139), (0, 46, 0, 6)) := ⟨Or.inl (jmw 401 (by decide +kernel) (by decide +kernel)), jMw_X4_changedLevel, fun _ => jM0_X4_changedLevel, fun h => absurd h (by decide), fun h => absurd h (by decide)⟩
theorem jmtT_32 : jmtP ((4, 142), (0, 44, 1, 6)) := ⟨Or.inl (jmw 405 (by decide +kernel) (by decide +kernel)), jMw_X4_printOnOwnPage, fun _ => jM0_X4_printOnOwnPage, fun h => absurd h (by decide), fun h => absurd h (by decide)⟩
theorem jmtT_33 : jmtP ((4, 146), (0, 40, 0, 6)) := ⟨Or.inl (jmw 439 (by decide +kernel) (by decide +kernel)), jMw_X4_beginPage, fun _ => jM0_X4_beginPage, fun h => absurd h (by decide), fun h => absurd h (by decide)⟩
theorem jmtT_34 : jmtP ((4, 149), (0, 47, 1, 6)) := ⟨Or.inl (jmw 447 (by decide +kernel) (by decide +kernel)), jMw_X4_printControlHeads, fun _ => jM0_X4_printControlHeads, fun h => absurd h (by decide), fun h => absurd h (by decide)⟩
theorem jmtT_35 : jmtP ((4, 153), (0, 48, 1, 6)) := ⟨Or.inl (jmw 463 (by decide +kernel) (by decide +kernel)), jMw_X4_printControlFoots, fun _ => jM0_X4_printControlFoots, fun h => absurd h (by decide), fun h => absurd h (by decide)⟩
theorem jmtT_36 : jmtP ((4, 162), (0, 49, 2, 6)) := ⟨Or.inl (jmw 480 (by decide +kernel) (by decide +kernel)), jMw_X4_addToSums, fun _ => jM0_X4_addToSums, fun h => absurd h (by decide), fun h => absurd h (by decide)⟩
theorem jmtT_37 : jmtP ((4, 166), (0, 39, 2, 6)) := ⟨Or.inl (jmw 451 (by decide +kernel) (by decide +kernel)), jMw_X4_printInBody, fun _ => jM0_X4_printInBody, fun h => absurd h (by decide), fun h => absurd h (by decide)⟩
theorem jmtT_38 : jmtP ((4, 170), (0, 41, 0, 6)) := ⟨Or.inl (jmw 459 (by decide +kernel) (by decide +kernel)), jMw_X4_endPage, fun _ => jM0_X4_endPage, fun h => absurd h (by decide), fun h => absurd h (by decide)⟩
theorem jmtT_39 : jmtP ((4, 173), (0, 7, 2, 3)) := ⟨Or.inl (jmw 519 (by decide +kernel) (by decide +kernel)), jMw_X1_has, fun _ => jM0_X1_has, fun h => absurd h (by decide), fun h => absurd h (by decide)⟩
theorem jmtT_40 : jmtP ((4, 183), (0, 8, 2, 3)) := ⟨Or.inl (jmw 594 (by decide +kernel) (by decide +kernel)), jMw_X1_cell, fun _ => jM0_X1_cell, fun h => absurd h (by decide), fun h => absurd h (by decide)⟩
theorem jmtT_41 : jmtP ((4, 187), (0, 31, 1, 6)) := ⟨Or.inl (jmw 350 (by decide +kernel) (by decide +kernel)), jMw_X4_sumNumbered, fun _ => jM0_X4_sumNumbered, fun h => absurd h (by decide), fun h => absurd h (by decide)⟩
theorem jmtT_42 : jmtP ((4, 219), (0, 36, 3, 6)) := ⟨Or.inl (jmw 318 (by decide +kernel) (by decide +kernel)), jMw_X4_startOnNewPage, fun _ => jM0_X4_startOnNewPage, fun h => absurd h (by decide), fun h => absurd h (by decide)⟩
theorem jmtT_43 : jmtP ((4, 223), (0, 34, 1, 6)) := ⟨Or.inl (jmw 325 (by decide +kernel) (by decide +kernel)), jMw_X4_topmostLine, fun _ => jM0_X4_topmostLine, fun h => absurd h (by decide), fun h => absurd h (by decide)⟩
theorem jmtT_44 : jmtP ((4, 227), (0, 35, 1, 6)) := ⟨Or.inl (jmw 329 (by decide +kernel) (by decide +kernel)), jMw_X4_lowestLine, fun _ => jM0_X4_lowestLine, fun h => absurd h (by decide), fun h => absurd h (by decide)⟩
theorem jmtT_45 : jmtP ((4, 230), (0, 2, 0, 2)) := ⟨Or.inl (jmw 333 (by decide +kernel) (by decide +kernel)), jMw_X0_height, fun _ => jM0_X0_height, fun h => absurd h (by decide), fun h => absurd h (by decide)⟩
theorem jmtT_46 : jmtP ((4, 233), (0, 3, 0, 2)) := ⟨Or.inl (jmw 409 (by decide +kernel) (by decide +kernel)), jMw_X0_takesItsTurn, fun _ => jM0_X0_takesItsTurn, fun h => absurd h (by decide), fun h => absurd h (by decide)⟩
theorem jmtT_47 : jmtP ((4, 237), (0, 37, 1, 6)) := ⟨Or.inl (jmw 455 (by decide +kernel) (by decide +kernel)), jMw_X4_startInBody, fun _ => jM0_X4_startInBody, fun h => absurd h (by decide), fun h => absurd h (by decide)⟩
theorem jmtT_48 : jmtP ((4, 244), (0, 45, 3, 6)) := ⟨Or.inl (jmw 417 (by decide +kernel) (by decide +kernel)), jMw_X4_printFrom, fun _ => jM0_X4_printFrom, fun h => absurd h (by decide), fun h => absurd h (by decide)⟩
theorem jmtT_49 : jmtP ((4, 248), (0, 42, 0, 6)) := ⟨Or.inl (jmw 413 (by decide +kernel) (by decide +kernel)), jMw_X4_countPage, fun _ => jM0_X4_countPage, fun h => absurd h (by decide), fun h => absurd h (by decide)⟩
theorem jmtT_50 : jmtP ((4, 251), (0, 43, 1, 6)) := ⟨Or.inl (jmw 443 (by decide +kernel) (by decide +kernel)), jMw_X4_printOutsideBody, fun _ => jM0_X4_printOutsideBody, fun h => absurd h (by decide), fun h => absurd h (by decide)⟩
theorem jmtT_51 : jmtP ((4, 257), (0, 6, 5, 3)) := ⟨Or.inl (jmw 421 (by decide +kernel) (by decide +kernel)), jMw_X1_add, fun _ => jM0_X1_add, fun h => absurd h (by decide), fun h => absurd h (by decide)⟩
theorem jmtT_52 : jmtP ((4, 260), (0, 32, 1, 6)) := ⟨Or.inl (jmw 467 (by decide +kernel) (by decide +kernel)), jMw_X4_firstSumOf, fun _ => jM0_X4_firstSumOf, fun h => absurd h (by decide), fun h => absurd h (by decide)⟩
theorem jmtT_53 : jmtP ((4, 263), (0, 50, 1, 6)) := ⟨Or.inl (jmw 471 (by decide +kernel) (by decide +kernel)), jMw_X4_rollSums, fun _ => jM0_X4_rollSums, fun h => absurd h (by decide), fun h => absurd h (by decide)⟩
theorem jmtT_54 : jmtP ((4, 266), (0, 51, 1, 6)) := ⟨Or.inl (jmw 475 (by decide +kernel) (by decide +kernel)), jMw_X4_resetSums, fun _ => jM0_X4_resetSums, fun h => absurd h (by decide), fun h => absurd h (by decide)⟩
theorem jmtT_55 : jmtP ((0, 44), (0, 2, 0, 2)) := ⟨Or.inl (jmw 341 (by decide +kernel) (by decide +kernel)), jMw_X0_height, fun _ => jM0_X0_height, fun h => absurd h (by decide), fun h => absurd h (by decide)⟩
theorem jmtT_56 : jmtP ((1, 20), (0, 97, 0, 1)) := ⟨Or.inl (jmw 425 (by decide +kernel) (by decide +kernel)), jMw_Jx4a65c_size_8abf5, fun _ => jM0_Jx4a65c_size_8abf5, fun h => absurd h (by decide), fun h => absurd h (by decide)⟩
theorem jmtT_57 : jmtP ((1, 27), (0, 101, 1, 1)) := ⟨Or.inl (jmw 437 (by decide +kernel) (by decide +kernel)), jMw_Jx4a65c_add_9ea2d, fun _ => jM0_Jx4a65c_add_9ea2d, fun h => absurd h (by decide), fun h => absurd h (by decide)⟩
theorem jmtT_58 : jmtP ((1, 31), (0, 99, 1, 1)) := ⟨Or.inl (jmw 438 (by decide +kernel) (by decide +kernel)), jMw_Jx4a65c_get_915e3, fun _ => jM0_Jx4a65c_get_915e3, fun h => absurd h (by decide), fun h => absurd h (by decide)⟩
theorem jmtT_59 : jmtP ((1, 39), (0, 7, 2, 3)) := ⟨Or.inl (jmw 598 (by decide +kernel) (by decide +kernel)), jMw_X1_has, fun _ => jM0_X1_has, fun h => absurd h (by decide), fun h => absurd h (by decide)⟩
theorem jmtT_60 : jmtP ((15, 7), (0, 20, 2, 6)) := ⟨Or.inl (jmw 515 (by decide +kernel) (by decide +kernel)), jMw_X4_at, fun _ => jM0_X4_at, fun h => absurd h (by decide), fun h => absurd h (by decide)⟩
theorem jmtT_61 : jmtP ((15, 27), (0, 12, 2, 6)) := ⟨Or.inl (jmw 178 (by decide +kernel) (by decide +kernel)), jMw_X4_group, fun _ => jM0_X4_group, fun h => absurd h (by decide), fun h => absurd h (by decide)⟩
theorem jmtT_62 : jmtP ((15, 30), (0, 58, 2, 7)) := ⟨Or.inl (jmw 703 (by decide +kernel) (by decide +kernel)), jMw_X5_group, fun _ => jM0_X5_group, fun h => absurd h (by decide), fun h => absurd h (by decide)⟩
theorem jmtT_63 : jmtP ((15, 31), (0, 13, 3, 6)) := ⟨Or.inl (jmw 306 (by decide +kernel) (by decide +kernel)), jMw_X4_line, fun _ => jM0_X4_line, fun h => absurd h (by decide), fun h => absurd h (by decide)⟩
theorem jmtT_64 : jmtP ((15, 35), (0, 60, 3, 7)) := ⟨Or.inl (jmw 711 (by decide +kernel) (by decide +kernel)), jMw_X5_line, fun _ => jM0_X5_line, fun h => absurd h (by decide), fun h => absurd h (by decide)⟩
theorem jmtT_65 : jmtP ((15, 36), (0, 14, 3, 6)) := ⟨Or.inl (jmw 342 (by decide +kernel) (by decide +kernel)), jMw_X4_sum, fun _ => jM0_X4_sum, fun h => absurd h (by decide), fun h => absurd h (by decide)⟩
theorem jmtT_66 : jmtP ((15, 40), (0, 62, 3, 7)) := ⟨Or.inl (jmw 723 (by decide +kernel) (by decide +kernel)), jMw_X5_sum, fun _ => jM0_X5_sum, fun h => absurd h (by decide), fun h => absurd h (by decide)⟩
theorem jmtT_67 : jmtP ((15, 41), (0, 15, 1, 6)) := ⟨Or.inl (jmw 381 (by decide +kernel) (by decide +kernel)), jMw_X4_control, fun _ => jM0_X4_control, fun h => absurd h (by decide), fun h => absurd h (by decide)⟩
theorem jmtT_68 : jmtP ((15, 45), (0, 63, 1, 7)) := ⟨Or.inl (jmw 735 (by decide +kernel) (by decide +kernel)), jMw_X5_control, fun _ => jM0_X5_control, fun h => absurd h (by decide), fun h => absurd h (by decide)⟩
theorem jmtT_69 : jmtP ((15, 46), (0, 16, 2, 6)) := ⟨Or.inl (jmw 385 (by decide +kernel) (by decide +kernel)), jMw_X4_set, fun _ => jM0_X4_set, fun h => absurd h (by decide), fun h => absurd h (by decide)⟩
theorem jmtT_70 : jmtP ((15, 49), (0, 64, 2, 7)) := ⟨Or.inl (jmw 739 (by decide +kernel) (by decide +kernel)), jMw_X5_set, fun _ => jM0_X5_set, fun h => absurd h (by decide), fun h => absurd h (by decide)⟩
theorem jmtT_71 : jmtP ((15, 50), (0, 17, 0, 6)) := ⟨Or.inl (jmw 389 (by decide +kernel) (by decide +kernel)), jMw_X4_initiate, fun _ => jM0_X4_initiate, fun h => absurd h (by decide), fun h => absurd h (by decide)⟩
theorem jmtT_72 : jmtP ((15, 54), (0, 81, 0, 7)) := ⟨Or.inl (jmw 751 (by decide +kernel) (by decide +kernel)), jMw_X5_initiate, fun _ => jM0_X5_initiate, fun h => absurd h (by decide), fun h => absurd h (by decide)⟩
theorem jmtT_73 : jmtP ((15, 57), (0, 18, 2, 6)) := ⟨Or.inl (jmw 397 (by decide +kernel) (by decide +kernel)), jMw_X4_generate, fun _ => jM0_X4_generate, fun h => absurd h (by decide), fun h => absurd h (by decide)⟩
theorem jmtT_74 : jmtP ((15, 61), (0, 83, 2, 7)) := ⟨Or.inl (jmw 759 (by decide +kernel) (by decide +kernel)), jMw_X5_generate, fun _ => jM0_X5_generate, fun h => absurd h (by decide), fun h => absurd h (by decide)⟩
theorem jmtT_75 : jmtP ((15, 62), (0, 19, 0, 6)) := ⟨Or.inl (jmw 484 (by decide +kernel) (by decide +kernel)), jMw_X4_terminate, fun _ => jM0_X4_terminate, fun h => absurd h (by decide), fun h => absurd h (by decide)⟩
theorem jmtT_76 : jmtP ((15, 65), (0, 84, 0, 7)) := ⟨Or.inl (jmw 819 (by decide +kernel) (by decide +kernel)), jMw_X5_terminate, fun _ => jM0_X5_terminate, fun h => absurd h (by decide), fun h => absurd h (by decide)⟩
theorem jmtT_77 : jmtP ((15, 69), (0, 85, 2, 7)) := ⟨Or.inl (jmw 823 (by decide +kernel) (by decide +kernel)), jMw_X5_at, fun _ => jM0_X5_at, fun h => absurd h (by decide), fun h => absurd h (by decide)⟩
theorem jmtT_78 : jmtP ((15, 70), (0, 54, 0, 7)) := ⟨Or.inl (jmw 699 (by decide +kernel) (by decide +kernel)), jMw_X5_thrown, fun _ => jM0_X5_thrown, fun h => absurd h (by decide), fun h => absurd h (by decide)⟩
theorem jmtT_79 : jmtP ((15, 73), (0, 21, 0, 6)) := ⟨Or.inl (jmw 488 (by decide +kernel) (by decide +kernel)), jMw_X4_lines, fun _ => jM0_X4_lines, fun h => absurd h (by decide), fun h => absurd h (by decide)⟩
theorem jmtT_80 : jmtP ((15, 76), (0, 86, 0, 7)) := ⟨Or.inl (jmw 827 (by decide +kernel) (by decide +kernel)), jMw_X5_lines, fun _ => jM0_X5_lines, fun h => absurd h (by decide), fun h => absurd h (by decide)⟩
theorem jmtT_81 : jmtP ((15, 77), (0, 22, 1, 6)) := ⟨Or.inl (jmw 492 (by decide +kernel) (by decide +kernel)), jMw_X4_total, fun _ => jM0_X4_total, fun h => absurd h (by decide), fun h => absurd h (by decide)⟩
theorem jmtT_82 : jmtP ((15, 81), (0, 87, 1, 7)) := ⟨Or.inl (jmw 831 (by decide +kernel) (by decide +kernel)), jMw_X5_total, fun _ => jM0_X5_total, fun h => absurd h (by decide), fun h => absurd h (by decide)⟩
theorem jmtT_83 : jmtP ((15, 82), (0, 23, 1, 6)) := ⟨Or.inl (jmw 496 (by decide +kernel) (by decide +kernel)), jMw_X4_counter, fun _ => jM0_X4_counter, fun h => absurd h (by decide), fun h => absurd h (by decide)⟩
theorem jmtT_84 : jmtP ((15, 85), (0, 88, 1, 7)) := ⟨Or.inl (jmw 835 (by decide +kernel) (by decide +kernel)), jMw_X5_counter, fun _ => jM0_X5_counter, fun h => absurd h (by decide), fun h => absurd h (by decide)⟩
theorem jmtT_85 : jmtP ((15, 86), (0, 24, 1, 6)) := ⟨Or.inl (jmw 500 (by decide +kernel) (by decide +kernel)), jMw_X4_suppress, fun _ => jM0_X4_suppress, fun h => absurd h (by decide), fun h => absurd h (by decide)⟩
theorem jmtT_86 : jmtP ((15, 89), (0, 65, 1, 7)) := ⟨Or.inl (jmw 743 (by decide +kernel) (by decide +kernel)), jMw_X5_suppress, fun _ => jM0_X5_suppress, fun h => absurd h (by decide), fun h => absurd h (by decide)⟩
theorem jmtT_87 : jmtP ((15, 90), (0, 25, 1, 6)) := ⟨Or.inl (jmw 504 (by decide +kernel) (by decide +kernel)), jMw_X4_indicate, fun _ => jM0_X4_indicate, fun h => absurd h (by decide), fun h => absurd h (by decide)⟩
theorem jmtT_88 : jmtP ((15, 93), (0, 66, 1, 7)) := ⟨Or.inl (jmw 747 (by decide +kernel) (by decide +kernel)), jMw_X5_indicate, fun _ => jM0_X5_indicate, fun h => absurd h (by decide), fun h => absurd h (by decide)⟩
theorem jmtT_89 : jmtP ((5, 78), (0, 55, 1, 7)) := ⟨Or.inl (jmw 715 (by decide +kernel) (by decide +kernel)), jMw_X5_isGroup, fun _ => jM0_X5_isGroup, fun h => absurd h (by decide), fun h => absurd h (by decide)⟩
theorem jmtT_90 : jmtP ((5, 89), (0, 57, 2, 7)) := ⟨Or.inl (jmw 707 (by decide +kernel) (by decide +kernel)), jMw_X5_find, fun _ => jM0_X5_find, fun h => absurd h (by decide), fun h => absurd h (by decide)⟩
theorem jmtT_91 : jmtP ((5, 93), (0, 59, 3, 7)) := ⟨Or.inl (jmw 719 (by decide +kernel) (by decide +kernel)), jMw_X5_fits, fun _ => jM0_X5_fits, fun h => absurd h (by decide), fun h => absurd h (by decide)⟩
theorem jmtT_92 : jmtP ((5, 97), (0, 56, 1, 7)) := ⟨Or.inl (jmw 731 (by decide +kernel) (by decide +kernel)), jMw_X5_isDetail, fun _ => jM0_X5_isDetail, fun h => absurd h (by decide), fun h => absurd h (by decide)⟩
theorem jmtT_93 : jmtP ((5, 103), (0, 61, 2, 7)) := ⟨Or.inl (jmw 727 (by decide +kernel) (by decide +kernel)), jMw_X5_isOf, fun _ => jM0_X5_isOf, fun h => absurd h (by decide), fun h => absurd h (by decide)⟩
theorem jmtT_94 : jmtP ((5, 116), (0, 67, 4, 7)) := ⟨Or.inl (jmw 779 (by decide +kernel) (by decide +kernel)), jMw_X5_put, fun _ => jM0_X5_put, fun h => absurd h (by decide), fun h => absurd h (by decide)⟩
theorem jmtT_95 : jmtP ((5, 120), (0, 69, 3, 7)) := ⟨Or.inl (jmw 775 (by decide +kernel) (by decide +kernel)), jMw_X5_putAll, fun _ => jM0_X5_putAll, fun h => absurd h (by decide), fun h => absurd h (by decide)⟩
theorem jmtT_96 : jmtP ((5, 124), (0, 68, 1, 7)) := ⟨Or.inl (jmw 767 (by decide +kernel) (by decide +kernel)), jMw_X5_isOn, fun _ => jM0_X5_isOn, fun h => absurd h (by decide), fun h => absurd h (by decide)⟩
theorem jmtT_97 : jmtP ((5, 127), (0, 70, 3, 7)) := ⟨Or.inl (jmw 771 (by decide +kernel) (by decide +kernel)), jMw_X5_putFrom, fun _ => jM0_X5_putFrom, fun h => absurd h (by decide), fun h => absurd h (by decide)⟩
theorem jmtT_98 : jmtP ((5, 133), (0, 74, 0, 7)) := ⟨Or.inl (jmw 755 (by decide +kernel) (by decide +kernel)), jMw_X5_fresh, fun _ => jM0_X5_fresh, fun h => absurd h (by decide), fun h => absurd h (by decide)⟩
theorem jmtT_99 : jmtP ((5, 136), (0, 75, 1, 7)) := ⟨Or.inl (jmw 795 (by decide +kernel) (by decide +kernel)), jMw_X5_top, fun _ => jM0_X5_top, fun h => absurd h (by decide), fun h => absurd h (by decide)⟩
theorem jmtT_100 : jmtP ((5, 140), (0, 73, 0, 7)) := ⟨Or.inl (jmw 799 (by decide +kernel) (by decide +kernel)), jMw_X5_over, fun _ => jM0_X5_over, fun h => absurd h (by decide), fun h => absurd h (by decide)⟩
theorem jmtT_101 : jmtP ((5, 143), (0, 72, 0, 7)) := ⟨Or.inl (jmw 783 (by decide +kernel) (by decide +kernel)), jMw_X5_begin, fun _ => jM0_X5_begin, fun h => absurd h (by decide), fun h => absurd h (by decide)⟩
theorem jmtT_102 : jmtP ((5, 146), (0, 76, 2, 7)) := ⟨Or.inl (jmw 791 (by decide +kernel) (by decide +kernel)), jMw_X5_inBody, fun _ => jM0_X5_inBody, fun h => absurd h (by decide), fun h => absurd h (by decide)⟩
theorem jmtT_103 : jmtP ((5, 150), (0, 78, 1, 7)) := ⟨Or.inl (jmw 811 (by decide +kernel) (by decide +kernel)), jMw_X5_firstSum, fun _ => jM0_X5_firstSum, fun h => absurd h (by decide), fun h => absurd h (by decide)⟩
theorem jmtT_104 : jmtP ((5, 159), (0, 71, 1, 7)) := ⟨Or.inl (jmw 763 (by decide +kernel) (by decide +kernel)), jMw_X5_alone, fun _ => jM0_X5_alone, fun h => absurd h (by decide), fun h => absurd h (by decide)⟩
theorem jmtT_105 : jmtP ((5, 163), (0, 77, 1, 7)) := ⟨Or.inl (jmw 787 (by decide +kernel) (by decide +kernel)), jMw_X5_head, fun _ => jM0_X5_head, fun h => absurd h (by decide), fun h => absurd h (by decide)⟩
theorem jmtT_106 : jmtP ((5, 166), (0, 82, 0, 7)) := ⟨Or.inl (jmw 803 (by decide +kernel) (by decide +kernel)), jMw_X5_changed, fun _ => jM0_X5_changed, fun h => absurd h (by decide), fun h => absurd h (by decide)⟩
theorem jmtT_107 : jmtP ((5, 170), (0, 79, 1, 7)) := ⟨Or.inl (jmw 807 (by decide +kernel) (by decide +kernel)), jMw_X5_foot, fun _ => jM0_X5_foot, fun h => absurd h (by decide), fun h => absurd h (by decide)⟩
theorem jmtT_108 : jmtP ((5, 172), (0, 80, 0, 7)) := ⟨Or.inl (jmw 815 (by decide +kernel) (by decide +kernel)), jMw_X5_keep, fun _ => jM0_X5_keep, fun h => absurd h (by decide), fun h => absurd h (by decide)⟩
theorem jmtT_109 : jmtP ((10, 69), (0, 95, 1, 1)) := ⟨Or.inl (jmw 267 (by decide +kernel) (by decide +kernel)), jMw_Jx4a65c_grow_92f84, fun _ => jM0_Jx4a65c_grow_92f84, fun h => absurd h (by decide), fun h => absurd h (by decide)⟩
theorem jmtT_110 : jmtP ((10, 123), (0, 98, 1, 1)) := ⟨Or.inl (jmw 204 (by decide +kernel) (by decide +kernel)), jMw_Jx4a65c_elementData_915e3, fun _ => jM0_Jx4a65c_elementData_915e3, fun h => absurd h (by decide), fun h => absurd h (by decide)⟩
theorem jmtT_111 : jmtP ((10, 129), (0, 96, 0, 1)) := ⟨Or.inl (jmw 263 (by decide +kernel) (by decide +kernel)), jMw_Jx4a65c_grow_d5877, fun _ => jM0_Jx4a65c_grow_d5877, fun h => absurd h (by decide), fun h => absurd h (by decide)⟩
theorem jmtT_112 : jmtP ((10, 131), (0, 100, 3, 1)) := ⟨Or.inl (jmw 259 (by decide +kernel) (by decide +kernel)), jMw_Jx4a65c_add_72be8, fun _ => jM0_Jx4a65c_add_72be8, fun h => absurd h (by decide), fun h => absurd h (by decide)⟩
theorem jmtT_ok : ∀ x ∈ jmtT, jmtP x := List.forall_mem_cons.mpr ⟨jmtT_0, List.forall_mem_cons.mpr ⟨jmtT_1, List.forall_mem_cons.mpr ⟨jmtT_2, List.forall_mem_cons.mpr ⟨jmtT_3, List.forall_mem_cons.mpr ⟨jmtT_4, List.forall_mem_cons.mpr ⟨jmtT_5, List.forall_mem_cons.mpr ⟨jmtT_6, List.forall_mem_cons.mpr ⟨jmtT_7, List.forall_mem_cons.mpr ⟨jmtT_8, List.forall_mem_cons.mpr ⟨jmtT_9, List.forall_mem_cons.mpr ⟨jmtT_10, List.forall_mem_cons.mpr ⟨jmtT_11, List.forall_mem_cons.mpr ⟨jmtT_12, List.forall_mem_cons.mpr ⟨jmtT_13, List.forall_mem_cons.mpr ⟨jmtT_14, List.forall_mem_cons.mpr ⟨jmtT_15, List.forall_mem_cons.mpr ⟨jmtT_16, List.forall_mem_cons.mpr ⟨jmtT_17, List.forall_mem_cons.mpr ⟨jmtT_18, List.forall_mem_cons.mpr ⟨jmtT_19, List.forall_mem_cons.mpr ⟨jmtT_20, List.forall_mem_cons.mpr ⟨jmtT_21, List.forall_mem_cons.mpr ⟨jmtT_22, List.forall_mem_cons.mpr ⟨jmtT_23, List.forall_mem_cons.mpr ⟨jmtT_24, List.forall_mem_cons.mpr ⟨jmtT_25, List.forall_mem_cons.mpr ⟨jmtT_26, List.forall_mem_cons.mpr ⟨jmtT_27, List.forall_mem_cons.mpr ⟨jmtT_28, List.forall_mem_cons.mpr ⟨jmtT_29, List.forall_mem_cons.mpr ⟨jmtT_30, List.forall_mem_cons.mpr ⟨jmtT_31, List.forall_mem_cons.mpr ⟨jmtT_32, List.forall_mem_cons.mpr ⟨jmtT_33, List.forall_mem_cons.mpr ⟨jmtT_34, List.forall_mem_cons.mpr ⟨jmtT_35, List.forall_mem_cons.mpr ⟨jmtT_36, List.forall_mem_cons.mpr ⟨jmtT_37, List.forall_mem_cons.mpr ⟨jmtT_38, List.forall_mem_cons.mpr ⟨jmtT_39, List.forall_mem_cons.mpr ⟨jmtT_40, List.forall_mem_cons.mpr ⟨jmtT_41, List.forall_mem_cons.mpr ⟨jmtT_42, List.forall_mem_cons.mpr ⟨jmtT_43, List.forall_mem_cons.mpr ⟨jmtT_44, List.forall_mem_cons.mpr ⟨jmtT_45, List.forall_mem_cons.mpr ⟨jmtT_46, List.forall_mem_cons.mpr ⟨jmtT_47, List.forall_mem_cons.mpr ⟨jmtT_48, List.forall_mem_cons.mpr ⟨jmtT_49, List.forall_mem_cons.mpr ⟨jmtT_50, List.forall_mem_cons.mpr ⟨jmtT_51, List.forall_mem_cons.mpr ⟨jmtT_52, List.forall_mem_cons.mpr ⟨jmtT_53, List.forall_mem_cons.mpr ⟨jmtT_54, List.forall_mem_cons.mpr ⟨jmtT_55, List.forall_mem_cons.mpr ⟨jmtT_56, List.forall_mem_cons.mpr ⟨jmtT_57, List.forall_mem_cons.mpr ⟨jmtT_58, List.forall_mem_cons.mpr ⟨jmtT_59, List.forall_mem_cons.mpr ⟨jmtT_60, List.forall_mem_cons.mpr ⟨jmtT_61, List.forall_mem_cons.mpr ⟨jmtT_62, List.forall_mem_cons.mpr ⟨jmtT_63, List.forall_mem_cons.mpr ⟨jmtT_64, List.forall_mem_cons.mpr ⟨jmtT_65, List.forall_mem_cons.mpr ⟨jmtT_66, List.forall_mem_cons.mpr ⟨jmtT_67, List.forall_mem_cons.mpr ⟨jmtT_68, List.forall_mem_cons.mpr ⟨jmtT_69, List.forall_mem_cons.mpr ⟨jmtT_70, List.forall_mem_cons.mpr ⟨jmtT_71, List.forall_mem_cons.mpr ⟨jmtT_72, List.forall_mem_cons.mpr ⟨jmtT_73, List.forall_mem_cons.mpr ⟨jmtT_74, List.forall_mem_cons.mpr ⟨jmtT_75, List.forall_mem_cons.mpr ⟨jmtT_76, List.forall_mem_cons.mpr ⟨jmtT_77, List.forall_mem_cons.mpr ⟨jmtT_78, List.forall_mem_cons.mpr ⟨jmtT_79, List.forall_mem_cons.mpr ⟨jmtT_80, List.forall_mem_cons.mpr ⟨jmtT_81, List.forall_mem_cons.mpr ⟨jmtT_82, List.forall_mem_cons.mpr ⟨jmtT_83, List.forall_mem_cons.mpr ⟨jmtT_84, List.forall_mem_cons.mpr ⟨jmtT_85, List.forall_mem_cons.mpr ⟨jmtT_86, List.forall_mem_cons.mpr ⟨jmtT_87, List.forall_mem_cons.mpr ⟨jmtT_88, List.forall_mem_cons.mpr ⟨jmtT_89, List.forall_mem_cons.mpr ⟨jmtT_90, List.forall_mem_cons.mpr ⟨jmtT_91, List.forall_mem_cons.mpr ⟨jmtT_92, List.forall_mem_cons.mpr ⟨jmtT_93, List.forall_mem_cons.mpr ⟨jmtT_94, List.forall_mem_cons.mpr ⟨jmtT_95, List.forall_mem_cons.mpr ⟨jmtT_96, List.forall_mem_cons.mpr ⟨jmtT_97, List.forall_mem_cons.mpr ⟨jmtT_98, List.forall_mem_cons.mpr ⟨jmtT_99, List.forall_mem_cons.mpr ⟨jmtT_100, List.forall_mem_cons.mpr ⟨jmtT_101, List.forall_mem_cons.mpr ⟨jmtT_102, List.forall_mem_cons.mpr ⟨jmtT_103, List.forall_mem_cons.mpr ⟨jmtT_104, List.forall_mem_cons.mpr ⟨jmtT_105, List.forall_mem_cons.mpr ⟨jmtT_106, List.forall_mem_cons.mpr ⟨jmtT_107, List.forall_mem_cons.mpr ⟨jmtT_108, List.forall_mem_cons.mpr ⟨jmtT_109, List.forall_mem_cons.mpr ⟨jmtT_110, List.forall_mem_cons.mpr ⟨jmtT_111, List.forall_mem_cons.mpr ⟨jmtT_112, fun _ h => absurd h List.not_mem_nil⟩⟩⟩⟩⟩⟩⟩⟩⟩⟩⟩⟩⟩⟩⟩⟩⟩⟩⟩⟩⟩⟩⟩⟩⟩⟩⟩⟩⟩⟩⟩⟩⟩⟩⟩⟩⟩⟩⟩⟩⟩⟩⟩⟩⟩⟩⟩⟩⟩⟩⟩⟩⟩⟩⟩⟩⟩⟩⟩⟩⟩⟩⟩⟩⟩⟩⟩⟩⟩⟩⟩⟩⟩⟩⟩⟩⟩⟩⟩⟩⟩⟩⟩⟩⟩⟩⟩⟩⟩⟩⟩⟩⟩⟩⟩⟩⟩⟩⟩⟩⟩⟩⟩⟩⟩⟩⟩⟩⟩⟩⟩⟩⟩
theorem jmt_own {μ idx : Nat} {a : (Nat × Nat × Nat × Nat)} (h : jlk jmtT (jow μ) idx = some a) : jmtP ((jow μ, idx), a) := jmtT_ok _ (jlk_mem h)
def jmt (o i : Nat) : Option (Nat × Nat × Nat × Nat) := jlk jmtT o i
theorem jmt_ok {μ idx mode μ' n κ : Nat} (h : jmt (jow μ) idx = some (mode, μ', n, κ)) : (Cond.methodLink (jy μ).cls idx (jy μ') ∈ jwords ∨ ∃ host : String, Cond.methodLinkNest (jy μ).cls idx (jy μ') host ∈ jwords) ∧ jMw μ' n ∧ (mode = 0 → jM0 μ' κ) ∧ (mode = 1 → jM1 μ') ∧ (mode = 2 → jM2 μ') := by
  rw [jow_of h (by decide +kernel)]
  exact jmt_own h
end
section
/-! THE PURE MACHINE (draft, never compiled yet). Memory: (top, slots used, tags, values). tags a = some (κ, n): the cell at a is of kind κ (κ < 50: object of class number κ, n fields; κ ≥ 50: an array of kind κ, n elements). values κ k a: field (element) k of the cell a of kind κ. Tables of the program (jcode, jown, jmaxl, jret, jfl, jnw, jan, jmt, jnat, jsg, jldc, jck, jfn, jft, jdv): part 01b. -/
abbrev jG : Type := Nat → Option (Nat × Nat)
abbrev jV : Type := Nat → Nat → Nat → Value
abbrev jM : Type := Nat × Nat × jG × jV
abbrev jL : Type := List (Option Value)
abbrev jF : Type := Nat × Nat × jL × List Value
abbrev jS : Type := (Nat × jF × jM) ⊕ (Option Value ⊕ (jF × jF))
def jset (V : jV) (κ k a : Nat) (v : Value) : jV := fun κ' k' a' => if κ' = κ ∧ k' = k ∧ a' = a then v else V κ' k' a'
/-- the whole cell a of kind κ becomes f -/
def jput (V : jV) (κ a : Nat) (f : Nat → Value) : jV := fun κ' k' a' => if κ' = κ ∧ a' = a then f k' else V κ' k' a'
theorem jset_ap (V : jV) (κ k a : Nat) (v : Value) (κ' k' a' : Nat) : jset V κ k a v κ' k' a' = if κ' = κ ∧ k' = k ∧ a' = a then v else V κ' k' a' := rfl
theorem jput_ap (V : jV) (κ a : Nat) (f : Nat → Value) (κ' k' a' : Nat) : jput V κ a f κ' k' a' = if κ' = κ ∧ a' = a then f k' else V κ' k' a' := rfl
-- ===== locals =====
def jwide (o : Option (Option Value)) : Bool := match o with
  | some (some v) => v.category == 2
  | _ => false
/-- the slot ahead of i holds no live long -/
def jfree (L : jL) (i : Nat) : Bool := match i with
  | 0 => true
  | j + 1 => !jwide (L[j]?)
def jst1 (L : jL) (i : Nat) (v : Value) : Option jL := if decide (i < L.length) && jfree L i then some (L.set i (some v)) else none
def jst2 (L : jL) (i : Nat) (v : Value) : Option jL := if decide (i + 1 < L.length) && jfree L i then some ((L.set i (some v)).set (i + 1) none) else none
def jp : Nat → jL → List (Nat × Value)
  | _, [] => []
  | i, none :: r => jp (i + 1) r
  | i, some v :: r => (i, v) :: jp (i + 1) r
theorem jp_mem : ∀ (L : jL) (k : Nat) (q : Nat × Value), q ∈ jp k L ↔ ∃ j, L[j]? = some (some q.2) ∧ q.1 = k + j := by
  intro L
  induction L with
  | nil => intro k q; simp [jp]
  | cons o r ih =>
    intro k q
    cases o with
    | none =>
      rw [jp, ih]
      constructor
      · rintro ⟨j, h1, h2⟩
        exact ⟨j + 1, by simpa using h1, by omega⟩
      · rintro ⟨j, h1, h2⟩
        cases j with
        | zero => simp at h1
        | succ j => exact ⟨j, by simpa using h1, by omega⟩
    | some v =>
      rw [jp, List.mem_cons, ih]
      constructor
      · rintro (h | ⟨j, h1, h2⟩)
        · subst h
          exact ⟨0, by simp, by simp⟩
        · exact ⟨j + 1, by simpa using h1, by omega⟩
      · rintro ⟨j, h1, h2⟩
        cases j with
        | zero =>
          left
          obtain ⟨a, b⟩ := q
          simp at h1 h2
          subst h1 h2
          rfl
        | succ j => exact Or.inr ⟨j, by simpa using h1, by omega⟩
def jlv (ls : Array Slot) (n : Nat) (L : jL) : Prop := L.length = n ∧ lv_has ls n (jp 0 L)
theorem jlv_at {ls : Array Slot} {n : Nat} {L : jL} (h : jlv ls n L) {i : Nat} {v : Value} (hi : L[i]? = some (some v)) : ls[i]? = some (.val v) :=
  h.2.2.2 (i, v) ((jp_mem L 0 (i, v)).mpr ⟨i, hi, by simp⟩)
theorem jlv_st1 {ls ls' : Array Slot} {n i : Nat} {L L' : jL} {v : Value} (hL : jlv ls n L) (h : jst1 L i v = some L') (h2 : lv_has ls' n ((i, v) :: (jp 0 L).filter (fun q => !(q.1 == i) && !(q.1 + 1 == i && q.2.category == 2)))) : jlv ls' n L' := by
  unfold jst1 at h
  split at h
  · rename_i hc
    cases h
    simp only [Bool.and_eq_true, decide_eq_true_eq] at hc
    refine ⟨by rw [List.length_set]; exact hL.1, h2.1, h2.2.1, fun q hq => ?_⟩
    obtain ⟨j, hj, e⟩ := (jp_mem _ 0 q).mp hq
    rw [Nat.zero_add] at e
    by_cases hji : j = i
    · subst hji
      rw [List.getElem?_set_self hc.1] at hj
      simp only [Option.some.injEq] at hj
      have := h2.2.2 (j, v) List.mem_cons_self
      rw [e, ← hj]
      exact this
    · rw [List.getElem?_set_ne (Ne.symm hji)] at hj
      refine h2.2.2 q (List.mem_cons_of_mem _ (List.mem_filter.mpr ⟨(jp_mem L 0 q).mpr ⟨j, hj, by rw [Nat.zero_add]; exact e⟩, ?_⟩))
      have hne : (q.1 == i) = false := by rw [e]; simpa using hji
      rw [hne]
      by_cases hw : q.1 + 1 = i
      · have hf := hc.2
        rw [← hw, e] at hf
        simp only [jfree, hj, jwide] at hf
        simp only [hw, beq_self_eq_true, Bool.true_and, Bool.not_false]
        exact hf
      · have hne2 : (q.1 + 1 == i) = false := by simpa using hw
        rw [hne2]
        rfl
  · cases h
theorem jlv_st2 {ls ls' : Array Slot} {n i : Nat} {L L' : jL} {v : Value} (hL : jlv ls n L) (h : jst2 L i v = some L') (h2 : lv_has ls' n ((i, v) :: (jp 0 L).filter (fun q => !(q.1 == i) && (!(q.1 == i + 1) && !(q.1 + 1 == i && q.2.category == 2))))) : jlv ls' n L' := by
  unfold jst2 at h
  split at h
  · rename_i hc
    cases h
    simp only [Bool.and_eq_true, decide_eq_true_eq] at hc
    refine ⟨by rw [List.length_set, List.length_set]; exact hL.1, h2.1, h2.2.1, fun q hq => ?_⟩
    obtain ⟨j, hj, e⟩ := (jp_mem _ 0 q).mp hq
    rw [Nat.zero_add] at e
    by_cases hj1 : j = i + 1
    · subst hj1
      rw [List.getElem?_set_self (by rw [List.length_set]; exact hc.1)] at hj
      simp at hj
    · rw [List.getElem?_set_ne (Ne.symm hj1)] at hj
      by_cases hji : j = i
      · subst hji
        rw [List.getElem?_set_self (by omega)] at hj
        simp only [Option.some.injEq] at hj
        have := h2.2.2 (j, v) List.mem_cons_self
        rw [e, ← hj]
        exact this
      · rw [List.getElem?_set_ne (Ne.symm hji)] at hj
        refine h2.2.2 q (List.mem_cons_of_mem _ (List.mem_filter.mpr ⟨(jp_mem L 0 q).mpr ⟨j, hj, by rw [Nat.zero_add]; exact e⟩, ?_⟩))
        have hne : (q.1 == i) = false := by rw [e]; simpa using hji
        have hne1 : (q.1 == i + 1) = false := by rw [e]; simpa using hj1
        rw [hne, hne1]
        by_cases hw : q.1 + 1 = i
        · have hf := hc.2
          rw [← hw, e] at hf
          simp only [jfree, hj, jwide] at hf
          simp only [hw, beq_self_eq_true, Bool.true_and, Bool.not_false]
          exact hf
        · have hne2 : (q.1 + 1 == i) = false := by simpa using hw
          rw [hne2]
          rfl
  · cases h
theorem jst1_lt {L L' : jL} {i : Nat} {v : Value} (h : jst1 L i v = some L') : i < L.length := by
  unfold jst1 at h
  split at h
  · rename_i hc
    simp only [Bool.and_eq_true, decide_eq_true_eq] at hc
    exact hc.1
  · cases h
theorem jst2_lt {L L' : jL} {i : Nat} {v : Value} (h : jst2 L i v = some L') : i + 1 < L.length := by
  unfold jst2 at h
  split at h
  · rename_i hc
    simp only [Bool.and_eq_true, decide_eq_true_eq] at hc
    exact hc.1
  · cases h
/-- a method's first locals: its arguments, a long one taking two places -/
def jarg : List Value → jL
  | [] => []
  | v :: r => if v.category = 2 then some v :: none :: jarg r else some v :: jarg r
def jent (n : Nat) (as : List Value) : jL := jarg as ++ List.replicate (n - (jarg as).length) none
theorem jp_rep : ∀ (c k : Nat), jp k (List.replicate c (none : Option Value)) = [] := by
  intro c
  induction c with
  | zero => intro k; rfl
  | succ c ih => intro k; rw [List.replicate_succ, jp, ih]
theorem jp_arg : ∀ (vs : List Value) (k c : Nat), jp k (jarg vs ++ List.replicate c (none : Option Value)) = lv_args k vs := by
  intro vs
  induction vs with
  | nil => intro k c; exact jp_rep c k
  | cons v vs ih =>
    intro k c
    by_cases h : v.category = 2
    · simp only [jarg, h, if_true, List.cons_append, jp, lv_args, ih]
    · simp only [jarg, h, if_false, List.cons_append, jp, lv_args, ih]
theorem jarg_len : ∀ vs : List Value, (jarg vs).length = (lg_sl vs).length := by
  intro vs
  induction vs with
  | nil => rfl
  | cons v vs ih =>
    by_cases h : v.category = 2
    · simp only [jarg, h, if_true, List.length_cons, ih, lg_sl, List.flatMap_cons, List.length_append, List.length_nil]
      omega
    · simp only [jarg, h, if_false, List.length_cons, ih, lg_sl, List.flatMap_cons, List.length_append, List.length_nil]
      omega
theorem jlv_entry {vs : List Value} {n : Nat} (h : (jarg vs).length ≤ n) : jlv ((lg_sl vs ++ List.replicate (n - (lg_sl vs).length) Slot.unset).toArray) n (jent n vs) := by
  refine ⟨by unfold jent; rw [List.length_append, List.length_replicate]; omega, ?_⟩
  unfold jent
  rw [jp_arg]
  exact lv_entry vs (by rw [← jarg_len]; exact h)
end
section
def jgI (L : jL) (k : Nat) : Option Int32 := match L[k]? with
  | some (some (.int x)) => some x
  | _ => none
def jgL (L : jL) (k : Nat) : Option Int64 := match L[k]? with
  | some (some (.long x)) => some x
  | _ => none
/-- a reference: none for null -/
def jgA (L : jL) (k : Nat) : Option (Option Nat) := match L[k]? with
  | some (some (.ref x)) => some (some x)
  | some (some .null) => some none
  | _ => none
theorem jgI_at {L : jL} {k : Nat} {x : Int32} (h : jgI L k = some x) : L[k]? = some (some (.int x)) := by
  unfold jgI at h
  split at h
  · rename_i hx; cases h; exact hx
  · cases h
theorem jgL_at {L : jL} {k : Nat} {x : Int64} (h : jgL L k = some x) : L[k]? = some (some (.long x)) := by
  unfold jgL at h
  split at h
  · rename_i hx; cases h; exact hx
  · cases h
theorem jgA_at {L : jL} {k : Nat} {r : Option Nat} (h : jgA L k = some r) : L[k]? = some (some (va_rf r)) := by
  unfold jgA at h
  split at h
  · rename_i hx; cases h; exact hx
  · rename_i hx; cases h; exact hx
  · cases h
def jpure (i : ClassFile.Instr) (L : jL) (st : List Value) : Option (Nat × jL × List Value) := match i with
  | .iconst n => some (1, L, .int (Int32.ofInt n) :: st)
  | .bipush n => some (2, L, .int (Int8.ofInt n).toInt32 :: st)
  | .sipush n => some (3, L, .int (Int16.ofInt n).toInt32 :: st)
  | .lconst n => some (1, L, .long (Int64.ofNat n.val) :: st)
  | .aconst_null => some (1, L, .null :: st)
  | .iload k => (jgI L k).map fun x => (2, L, .int x :: st)
  | .iload_n k => (jgI L k.val).map fun x => (1, L, .int x :: st)
  | .lload k => (jgL L k).map fun x => (2, L, .long x :: st)
  | .lload_n k => (jgL L k.val).map fun x => (1, L, .long x :: st)
  | .aload k => (jgA L k).map fun x => (2, L, va_rf x :: st)
  | .aload_n k => (jgA L k.val).map fun x => (1, L, va_rf x :: st)
  | .istore k => match st with
    | .int x :: r => (jst1 L k (.int x)).map fun L' => (2, L', r)
    | _ => none
  | .istore_n k => match st with
    | .int x :: r => (jst1 L k.val (.int x)).map fun L' => (1, L', r)
    | _ => none
  | .lstore k => match st with
    | .long x :: r => (jst2 L k (.long x)).map fun L' => (2, L', r)
    | _ => none
  | .lstore_n k => match st with
    | .long x :: r => (jst2 L k.val (.long x)).map fun L' => (1, L', r)
    | _ => none
  | .astore k => match st with
    | .ref x :: r => (jst1 L k (.ref x)).map fun L' => (2, L', r)
    | .null :: r => (jst1 L k .null).map fun L' => (2, L', r)
    | _ => none
  | .astore_n k => match st with
    | .ref x :: r => (jst1 L k.val (.ref x)).map fun L' => (1, L', r)
    | .null :: r => (jst1 L k.val .null).map fun L' => (1, L', r)
    | _ => none
  | .iinc k n => (jgI L k).bind fun x => (jst1 L k (.int (x + Int32.ofInt n))).map fun L' => (3, L', st)
  | .iadd => match st with
    | .int y :: .int x :: r => some (1, L, .int (x + y) :: r)
    | _ => none
  | .isub => match st with
    | .int y :: .int x :: r => some (1, L, .int (x - y) :: r)
    | _ => none
  | .imul => match st with
    | .int y :: .int x :: r => some (1, L, .int (x * y) :: r)
    | _ => none
  | .iand => match st with
    | .int y :: .int x :: r => some (1, L, .int (x &&& y) :: r)
    | _ => none
  | .ior => match st with
    | .int y :: .int x :: r => some (1, L, .int (x ||| y) :: r)
    | _ => none
  | .ixor => match st with
    | .int y :: .int x :: r => some (1, L, .int (x ^^^ y) :: r)
    | _ => none
  | .ishl => match st with
    | .int y :: .int x :: r => some (1, L, .int (x <<< (y &&& 31)) :: r)
    | _ => none
  | .ishr => match st with
    | .int y :: .int x :: r => some (1, L, .int (x >>> (y &&& 31)) :: r)
    | _ => none
  | .iushr => match st with
    | .int y :: .int x :: r => some (1, L, .int (x.toUInt32 >>> (y.toUInt32 &&& Int32.toUInt32 31)).toInt32 :: r)
    | _ => none
  | .idiv => match st with
    | .int y :: .int x :: r => if y = 0 then none else some (1, L, .int (x / y) :: r)
    | _ => none
  | .irem => match st with
    | .int y :: .int x :: r => if y = 0 then none else some (1, L, .int (x - x / y * y) :: r)
    | _ => none
  | .ladd => match st with
    | .long y :: .long x :: r => some (1, L, .long (x + y) :: r)
    | _ => none
  | .lsub => match st with
    | .long y :: .long x :: r => some (1, L, .long (x - y) :: r)
    | _ => none
  | .lmul => match st with
    | .long y :: .long x :: r => some (1, L, .long (x * y) :: r)
    | _ => none
  | .land => match st with
    | .long y :: .long x :: r => some (1, L, .long (x &&& y) :: r)
    | _ => none
  | .lor => match st with
    | .long y :: .long x :: r => some (1, L, .long (x ||| y) :: r)
    | _ => none
  | .lxor => match st with
    | .long y :: .long x :: r => some (1, L, .long (x ^^^ y) :: r)
    | _ => none
  | .lshl => match st with
    | .int y :: .long x :: r => some (1, L, .long (x <<< (y.toInt64 &&& 63)) :: r)
    | _ => none
  | .lcmp => match st with
    | .long y :: .long x :: r => some (1, L, .int (lg_cmp x y) :: r)
    | _ => none
  | .ineg => match st with
    | .int x :: r => some (1, L, .int (-x) :: r)
    | _ => none
  | .lneg => match st with
    | .long x :: r => some (1, L, .long (-x) :: r)
    | _ => none
  | .i2l => match st with
    | .int x :: r => some (1, L, .long x.toInt64 :: r)
    | _ => none
  | .l2i => match st with
    | .long x :: r => some (1, L, .int x.toInt32 :: r)
    | _ => none
  | .i2b => match st with
    | .int x :: r => some (1, L, .int x.toInt8.toInt32 :: r)
    | _ => none
  | .dup => match st with
    | v :: r => if v.category = 1 then some (1, L, v :: v :: r) else none
    | _ => none
  | .pop => match st with
    | v :: r => if v.category = 1 then some (1, L, r) else none
    | _ => none
  | .dup_x1 => match st with
    | v :: w :: r => if v.category = 1 ∧ w.category = 1 then some (1, L, v :: w :: v :: r) else none
    | _ => none
  | .dup_x2 => match st with
    | v :: w :: z :: r => if v.category = 1 ∧ w.category = 1 ∧ z.category = 1 then some (1, L, v :: w :: z :: v :: r) else none
    | _ => none
  | .dup2 => match st with
    | v :: w :: r => if v.category = 1 ∧ w.category = 1 then some (1, L, v :: w :: v :: w :: r) else none
    | _ => none
  | _ => none
set_option maxHeartbeats 4000000 in
theorem jpure_sound {p : Program} {l : Launch} {e : Env} {R : Room} {s : State} {m : MethodId} {args : Array Value} {below : List Frame} {meth : Method} {c : Code} {H : Heap} {locs : List Loc} {cells slots : Nat} {Q : State → Prop} {cc : ByteArray} {pc n len : Nat} {ls : Array Slot} {L L' : jL} {st st' : List Value} {i : ClassFile.Instr} (hx : p.tables.exec = Jvm.exec) (hb : c.code = cc) (hd : decode cc pc = .ok (i, len)) (h : jpure i L st = some (len, L', st')) (hl : jlv ls n L) (kk : ∀ ls' : Array Slot, jlv ls' n L' → W p l e R s m args below meth c H locs cells slots Q (F0 m (pc + len) ls' st')) : W p l e R s m args below meth c H locs cells slots Q (F0 m pc ls st) := by
  unfold jpure at h
  split at h
  · -- .iconst n
    cases h
    exact lv_iconst hx hb hd rfl (kk _ hl)
  · -- .bipush n
    cases h
    exact lv_bipush hx hb hd rfl (kk _ hl)
  · -- .sipush n
    cases h
    exact lv_sipush hx hb hd rfl (kk _ hl)
  · -- .lconst n
    cases h
    exact lv_lconst hx hb hd rfl (kk _ hl)
  · -- .aconst_null
    cases h
    exact lv_null hx hb hd (kk _ hl)
  · -- .iload k
    obtain ⟨x, hv, e⟩ := Option.map_eq_some_iff.mp h
    have hv := jgI_at hv
    cases e
    exact lv_iload hx hb hd (jlv_at hl hv) (kk _ hl)
  · -- .iload_n k
    obtain ⟨x, hv, e⟩ := Option.map_eq_some_iff.mp h
    have hv := jgI_at hv
    cases e
    exact lv_iload_n hx hb hd rfl (jlv_at hl hv) (kk _ hl)
  · -- .lload k
    obtain ⟨x, hv, e⟩ := Option.map_eq_some_iff.mp h
    have hv := jgL_at hv
    cases e
    exact lv_lload hx hb hd (jlv_at hl hv) (kk _ hl)
  · -- .lload_n k
    obtain ⟨x, hv, e⟩ := Option.map_eq_some_iff.mp h
    have hv := jgL_at hv
    cases e
    exact lv_lload_n hx hb hd rfl (jlv_at hl hv) (kk _ hl)
  · -- .aload k
    obtain ⟨x, hv, e⟩ := Option.map_eq_some_iff.mp h
    have hv := jgA_at hv
    cases e
    cases x with
    | none => exact lv_aloadN hx hb hd  (jlv_at hl hv) (kk _ hl)
    | some x => exact lv_aload hx hb hd  (jlv_at hl hv) (kk _ hl)
  · -- .aload_n k
    obtain ⟨x, hv, e⟩ := Option.map_eq_some_iff.mp h
    have hv := jgA_at hv
    cases e
    cases x with
    | none => exact lv_aload_nN hx hb hd rfl (jlv_at hl hv) (kk _ hl)
    | some x => exact lv_aload_n hx hb hd rfl (jlv_at hl hv) (kk _ hl)
  · -- .istore k
    split at h
    · obtain ⟨L1, hs, e⟩ := Option.map_eq_some_iff.mp h
      cases e
      exact lv_istore hx hb hd hl.2 (by rw [← hl.1]; exact jst1_lt hs) rfl (fun ls' h2 => kk _ (jlv_st1 hl hs h2))
    · cases h
  · -- .istore_n k
    split at h
    · obtain ⟨L1, hs, e⟩ := Option.map_eq_some_iff.mp h
      cases e
      exact lv_istore_n hx hb hd rfl hl.2 (by rw [← hl.1]; exact jst1_lt hs) rfl (fun ls' h2 => kk _ (jlv_st1 hl hs h2))
    · cases h
  · -- .lstore k
    split at h
    · obtain ⟨L1, hs, e⟩ := Option.map_eq_some_iff.mp h
      cases e
      exact lv_lstore hx hb hd hl.2 (by rw [← hl.1]; exact jst2_lt hs) rfl (fun ls' h2 => kk _ (jlv_st2 hl hs h2))
    · cases h
  · -- .lstore_n k
    split at h
    · obtain ⟨L1, hs, e⟩ := Option.map_eq_some_iff.mp h
      cases e
      exact lv_lstore_n hx hb hd rfl hl.2 (by rw [← hl.1]; exact jst2_lt hs) rfl (fun ls' h2 => kk _ (jlv_st2 hl hs h2))
    · cases h
  · -- .astore k
    split at h
    · obtain ⟨L1, hs, e⟩ := Option.map_eq_some_iff.mp h
      cases e
      exact lv_astore hx hb hd hl.2 (by rw [← hl.1]; exact jst1_lt hs) rfl (fun ls' h2 => kk _ (jlv_st1 hl hs h2))
    · obtain ⟨L1, hs, e⟩ := Option.map_eq_some_iff.mp h
      cases e
      exact lv_astoreN hx hb hd hl.2 (by rw [← hl.1]; exact jst1_lt hs) rfl (fun ls' h2 => kk _ (jlv_st1 hl hs h2))
    · cases h
  · -- .astore_n k
    split at h
    · obtain ⟨L1, hs, e⟩ := Option.map_eq_some_iff.mp h
      cases e
      exact lv_astore_n hx hb hd rfl hl.2 (by rw [← hl.1]; exact jst1_lt hs) rfl (fun ls' h2 => kk _ (jlv_st1 hl hs h2))
    · obtain ⟨L1, hs, e⟩ := Option.map_eq_some_iff.mp h
      cases e
      exact lv_astore_nN hx hb hd rfl hl.2 (by rw [← hl.1]; exact jst1_lt hs) rfl (fun ls' h2 => kk _ (jlv_st1 hl hs h2))
    · cases h
  · -- .iinc k n
    obtain ⟨x, hv, h⟩ := Option.bind_eq_some_iff.mp h
    have hv := jgI_at hv
    obtain ⟨L1, hs, e⟩ := Option.map_eq_some_iff.mp h
    cases e
    obtain ⟨z, hz⟩ := List.getElem?_of_mem ((jp_mem L 0 (_, _)).mpr ⟨_, hv, (Nat.zero_add _).symm⟩)
    exact lv_iinc hx hb hd hl.2 (k := z) hz rfl (by rw [← hl.1]; exact jst1_lt hs) rfl (fun ls' h2 => kk _ (jlv_st1 hl hs h2))
  · -- .iadd
    split at h
    · cases h
      exact lv_iadd hx hb hd (kk _ hl)
    · cases h
  · -- .isub
    split at h
    · cases h
      exact lv_isub hx hb hd (kk _ hl)
    · cases h
  · -- .imul
    split at h
    · cases h
      exact lv_imul hx hb hd (kk _ hl)
    · cases h
  · -- .iand
    split at h
    · cases h
      exact lv_iand hx hb hd (kk _ hl)
    · cases h
  · -- .ior
    split at h
    · cases h
      exact lv_ior hx hb hd (kk _ hl)
    · cases h
  · -- .ixor
    split at h
    · cases h
      exact lv_ixor hx hb hd (kk _ hl)
    · cases h
  · -- .ishl
    split at h
    · cases h
      exact lv_ishl hx hb hd (kk _ hl)
    · cases h
  · -- .ishr
    split at h
    · cases h
      exact lv_ishr hx hb hd (kk _ hl)
    · cases h
  · -- .iushr
    split at h
    · cases h
      exact lv_iushr hx hb hd rfl (kk _ hl)
    · cases h
  · -- .idiv
    split at h
    · split at h
      · cases h
      · rename_i hz
        cases h
        exact lv_idiv hx hb hd hz (kk _ hl)
    · cases h
  · -- .irem
    split at h
    · split at h
      · cases h
      · rename_i hz
        cases h
        exact lv_irem hx hb hd hz (kk _ hl)
    · cases h
  · -- .ladd
    split at h
    · cases h
      exact lv_ladd hx hb hd (kk _ hl)
    · cases h
  · -- .lsub
    split at h
    · cases h
      exact lv_lsub hx hb hd (kk _ hl)
    · cases h
  · -- .lmul
    split at h
    · cases h
      exact lv_lmul hx hb hd (kk _ hl)
    · cases h
  · -- .land
    split at h
    · cases h
      exact lv_land hx hb hd (kk _ hl)
    · cases h
  · -- .lor
    split at h
    · cases h
      exact lv_lor hx hb hd (kk _ hl)
    · cases h
  · -- .lxor
    split at h
    · cases h
      exact lv_lxor hx hb hd (kk _ hl)
    · cases h
  · -- .lshl
    split at h
    · cases h
      exact lv_lshl hx hb hd rfl (kk _ hl)
    · cases h
  · -- .lcmp
    split at h
    · cases h
      exact W.lcmp hx hb hd (kk _ hl)
    · cases h
  · -- .ineg
    split at h
    · cases h
      exact lv_ineg hx hb hd (kk _ hl)
    · cases h
  · -- .lneg
    split at h
    · cases h
      exact lv_lneg hx hb hd (kk _ hl)
    · cases h
  · -- .i2l
    split at h
    · cases h
      exact lv_i2l hx hb hd rfl (kk _ hl)
    · cases h
  · -- .l2i
    split at h
    · cases h
      exact lv_l2i hx hb hd rfl (kk _ hl)
    · cases h
  · -- .i2b
    split at h
    · cases h
      exact lv_i2b hx hb hd rfl (kk _ hl)
    · cases h
  · -- .dup
    split at h
    · split at h
      · rename_i hc
        cases h
        exact lv_dup hx hb hd hc (kk _ hl)
      · cases h
    · cases h
  · -- .pop
    split at h
    · split at h
      · rename_i hc
        cases h
        exact lv_pop hx hb hd hc (kk _ hl)
      · cases h
    · cases h
  · -- .dup_x1
    split at h
    · split at h
      · rename_i hc
        cases h
        exact lv_dup_x1 hx hb hd hc.1 hc.2 (kk _ hl)
      · cases h
    · cases h
  · -- .dup_x2
    split at h
    · split at h
      · rename_i hc
        cases h
        exact lv_dup_x2 hx hb hd hc.1 hc.2.1 hc.2.2 (kk _ hl)
      · cases h
    · cases h
  · -- .dup2
    split at h
    · split at h
      · rename_i hc
        cases h
        exact lv_dup2_11 hx hb hd hc.1 hc.2 (kk _ hl)
      · cases h
    · cases h
  · cases h
end
section
-- ===== branches =====
def jtg (pc : Nat) (off : Int) : Option Nat := if 0 ≤ (pc : Int) + off then some ((pc : Int) + off).toNat else none
theorem jtg_eq {pc t : Nat} {off : Int} (h : jtg pc off = some t) : (pc : Int) + off = (t : Int) := by
  unfold jtg at h
  split at h
  · cases h
    omega
  · cases h
def jc (c : ClassFile.Cond) (x y : Int32) : Prop := match c with
  | .eq => x = y
  | .ne => ¬ x = y
  | .lt => x < y
  | .ge => y ≤ x
  | .gt => y < x
  | .le => x ≤ y
def jcb (c : ClassFile.Cond) (x y : Int32) : Bool := match c with
  | .eq => decide (x = y)
  | .ne => !decide (x = y)
  | .lt => decide (x < y)
  | .ge => decide (y ≤ x)
  | .gt => decide (y < x)
  | .le => decide (x ≤ y)
theorem jcb_iff {c : ClassFile.Cond} {x y : Int32} : jcb c x y = true ↔ jc c x y := by
  cases c <;> simp [jcb, jc]
/-- a value that is a reference, as an optional address -/
def jrf (v : Value) : Option (Option Nat) := match v with
  | .ref a => some (some a)
  | .null => some none
  | _ => none
theorem jrf_eq {v : Value} {r : Option Nat} (h : jrf v = some r) : v = va_rf r := by
  unfold jrf at h
  split at h
  · cases h; rfl
  · cases h; rfl
  · cases h
def jbr (i : ClassFile.Instr) (len pc : Nat) (st : List Value) : Option (Nat × List Value) := match i with
  | .goto off => if len = 3 then (jtg pc off).map fun t => (t, st) else none
  | .ifCond c off => if len = 3 then (jtg pc off).bind fun t => match st with
    | .int x :: r => some (if jcb c x 0 then t else pc + 3, r)
    | _ => none
    else none
  | .if_icmp c off => if len = 3 then (jtg pc off).bind fun t => match st with
    | .int y :: .int x :: r => some (if jcb c x y then t else pc + 3, r)
    | _ => none
    else none
  | .ifnull off => if len = 3 then (jtg pc off).bind fun t => match st with
    | .null :: r => some (t, r)
    | .ref _ :: r => some (pc + 3, r)
    | _ => none
    else none
  | .ifnonnull off => if len = 3 then (jtg pc off).bind fun t => match st with
    | .null :: r => some (pc + 3, r)
    | .ref _ :: r => some (t, r)
    | _ => none
    else none
  | .if_acmp c off => if len = 3 then (jtg pc off).bind fun t => match st with
    | w :: v :: r => (jrf v).bind fun a => (jrf w).bind fun b => match c with
      | .eq => some (if a = b then t else pc + 3, r)
      | .ne => some (if a = b then pc + 3 else t, r)
    | _ => none
    else none
  | .tableswitch dflt lo hi offs => match st with
    | .int x :: r => (if x.toInt < lo ∨ hi < x.toInt then some dflt else offs[(x.toInt - lo).toNat]?).bind fun o => (jtg pc o).map fun t => (t, r)
    | _ => none
  | .lookupswitch dflt ps => match st with
    | .int x :: r => if (ps.toList.zip (ps.toList.drop 1)).all (fun (a, next) => a.1 < next.1) = true then (jtg pc (Op.lookupswitch.offset ps.toList dflt x.toInt)).map fun t => (t, r) else none
    | _ => none
  | _ => none
set_option maxHeartbeats 4000000 in
theorem jbr_sound {p : Program} {l : Launch} {e : Env} {R : Room} {s : State} {m : MethodId} {args : Array Value} {below : List Frame} {meth : Method} {c : Code} {H : Heap} {locs : List Loc} {cells slots : Nat} {Q : State → Prop} {cc : ByteArray} {pc len t : Nat} {ls : Array Slot} {st st' : List Value} {i : ClassFile.Instr} (hx : p.tables.exec = Jvm.exec) (hb : c.code = cc) (hd : decode cc pc = .ok (i, len)) (h : jbr i len pc st = some (t, st')) (k : W p l e R s m args below meth c H locs cells slots Q (F0 m t ls st')) : W p l e R s m args below meth c H locs cells slots Q (F0 m pc ls st) := by
  unfold jbr at h
  split at h
  · -- goto
    split at h
    · rename_i hlen
      subst hlen
      obtain ⟨t1, ht, e1⟩ := Option.map_eq_some_iff.mp h
      cases e1
      exact lv_goto hx hb hd (jtg_eq ht) k
    · cases h
  · -- ifCond
    rename_i c1 off
    split at h
    · rename_i hlen
      subst hlen
      obtain ⟨t1, ht, h⟩ := Option.bind_eq_some_iff.mp h
      split at h
      · rename_i x r hz
        cases h
        have k1 : jc c1 x 0 → W p l e R s m args below meth c H locs cells slots Q (F0 m t1 ls st') := fun q => by rw [if_pos (jcb_iff.mpr q)] at k; exact k
        have k2 : ¬ jc c1 x 0 → W p l e R s m args below meth c H locs cells slots Q (F0 m (pc + 3) ls st') := fun q => by rw [if_neg (fun z => q (jcb_iff.mp z))] at k; exact k
        cases c1 with
        | eq => exact lv_if_eq hx hb hd (jtg_eq ht) k1 k2
        | ne => exact lv_if_ne hx hb hd (jtg_eq ht) k1 (fun q => k2 (fun z => z q))
        | lt => exact lv_if_lt hx hb hd (jtg_eq ht) k1 k2
        | ge => exact lv_if_ge hx hb hd (jtg_eq ht) k1 k2
        | gt => exact lv_if_gt hx hb hd (jtg_eq ht) k1 k2
        | le => exact lv_if_le hx hb hd (jtg_eq ht) k1 k2
      · cases h
    · cases h
  · -- if_icmp
    rename_i c1 off
    split at h
    · rename_i hlen
      subst hlen
      obtain ⟨t1, ht, h⟩ := Option.bind_eq_some_iff.mp h
      split at h
      · rename_i y x r hz
        cases h
        have k1 : jc c1 x y → W p l e R s m args below meth c H locs cells slots Q (F0 m t1 ls st') := fun q => by rw [if_pos (jcb_iff.mpr q)] at k; exact k
        have k2 : ¬ jc c1 x y → W p l e R s m args below meth c H locs cells slots Q (F0 m (pc + 3) ls st') := fun q => by rw [if_neg (fun z => q (jcb_iff.mp z))] at k; exact k
        cases c1 with
        | eq => exact lv_icmp_eq hx hb hd (jtg_eq ht) k1 k2
        | ne => exact lv_icmp_ne hx hb hd (jtg_eq ht) k1 (fun q => k2 (fun z => z q))
        | lt => exact lv_icmp_lt hx hb hd (jtg_eq ht) k1 k2
        | ge => exact lv_icmp_ge hx hb hd (jtg_eq ht) k1 k2
        | gt => exact lv_icmp_gt hx hb hd (jtg_eq ht) k1 k2
        | le => exact lv_icmp_le hx hb hd (jtg_eq ht) k1 k2
      · cases h
    · cases h
  · -- ifnull
    split at h
    · rename_i hlen
      subst hlen
      obtain ⟨t1, ht, h⟩ := Option.bind_eq_some_iff.mp h
      split at h
      · cases h
        exact lv_ifnullN hx hb hd (jtg_eq ht) k
      · cases h
        exact lv_ifnull hx hb hd k
      · cases h
    · cases h
  · -- ifnonnull
    split at h
    · rename_i hlen
      subst hlen
      obtain ⟨t1, ht, h⟩ := Option.bind_eq_some_iff.mp h
      split at h
      · cases h
        exact lv_ifnonnullN hx hb hd k
      · cases h
        exact lv_ifnonnull hx hb hd (jtg_eq ht) k
      · cases h
    · cases h
  · -- if_acmp
    rename_i c1 off
    split at h
    · rename_i hlen
      subst hlen
      obtain ⟨t1, ht, h⟩ := Option.bind_eq_some_iff.mp h
      split at h
      · obtain ⟨a, ha, h4⟩ := Option.bind_eq_some_iff.mp h
        obtain ⟨b, hb2, h5⟩ := Option.bind_eq_some_iff.mp h4
        clear h h4
        have ea := jrf_eq ha
        have eb := jrf_eq hb2
        subst ea eb
        cases c1 with
        | eq =>
          obtain ⟨e1, e2⟩ := Prod.mk.inj (Option.some.inj h5)
          subst e1 e2
          exact lv_acmp_eq hx hb hd (jtg_eq ht) (fun q => by rw [if_pos q] at k; exact k) (fun q => by rw [if_neg q] at k; exact k)
        | ne =>
          obtain ⟨e1, e2⟩ := Prod.mk.inj (Option.some.inj h5)
          subst e1 e2
          exact lv_acmp_ne hx hb hd (jtg_eq ht) (fun q => by rw [if_neg q] at k; exact k) (fun q => by rw [if_pos q] at k; exact k)
      · cases h
    · cases h
  · -- tableswitch
    split at h
    · obtain ⟨o, ho, h⟩ := Option.bind_eq_some_iff.mp h
      obtain ⟨t1, ht, e1⟩ := Option.map_eq_some_iff.mp h
      cases e1
      split at ho
      · rename_i hc
        cases ho
        exact lv_tableOut hx hb hd hc (jtg_eq ht) k
      · rename_i hc
        exact lv_tableIn hx hb hd (fun q => hc (Or.inl q)) (fun q => hc (Or.inr q)) ho (jtg_eq ht) k
    · cases h
  · -- lookupswitch
    split at h
    · split at h
      · rename_i hp
        obtain ⟨t1, ht, e1⟩ := Option.map_eq_some_iff.mp h
        cases e1
        exact lv_lookup hx hb hd hp rfl (jtg_eq ht) k
      · cases h
    · cases h
  · cases h
end
section
-- ===== words, tables of a state =====
theorem jtr_warm {s U : State} {w : Cond} (ht : jtr w = true) (hW : s.WarmedH U.vm) (h : ∀ A : Array Value, w.before A s = true) (A : Array Value) : w.before A U = true := by
  unfold jtr at ht
  split at ht
  · exact va_Nw.use rfl (va_Nw.warmF hW (h #[]))
  · exact va_Nw.use rfl (va_Nw.warmM hW (h #[]))
  · exact va_Nw.use rfl (va_Nw.warmC hW (h #[]))
  · exact va_Nw.use rfl (va_Nw.warmD hW (h #[]))
  · exact word_at hW (Or.inr ⟨_, rfl⟩) (h #[])
  · exact va_AO.use (va_AO.moved hW.alike (h #[]))
  · exact word_at hW (Or.inl ht) (h #[])
def jW (s : State) : Prop := ∀ w ∈ jwords, ∀ A : Array Value, w.before A s = true
theorem jW_warm {s U : State} (hW : s.WarmedH U.vm) (h : jW s) : jW U := fun w hw A => jtr_warm (jwords_tr w hw) hW (h w hw) A
def jKa (s : State) (cA : ClassId) (ty : FieldType) : Prop := ∃ (kA : Class) (comp : ClassId), s.vm.classes[cA]? = some kA ∧ kA.kind = .array comp ty ∧ ∀ C : String, ty = .object C → s.vm.findClass C = some comp
def jK (D : va_G) (E : Nat → ClassId) (s : State) : Prop := (∀ (κ : Nat) (q : vw_C), vwCl[κ]? = some q → u_Kn s q.1 q.2.1 q.2.2 (D.1 κ) (D.2 κ)) ∧ ∀ (κ : Nat) (ty : FieldType), jkt κ = some ty → jKa s (E κ) ty ∧ (κ ≠ 94 → s.vm.findClass ("[" ++ ty.toString) = some (E κ))
theorem jKa_moved {u U : State} (hvm : u.vm.Alike U.vm) {cA : ClassId} {ty : FieldType} (h : jKa u cA ty) : jKa U cA ty := by
  obtain ⟨kA, comp, h1, h2, h3⟩ := h
  obtain ⟨k', hk', he⟩ := hvm.2.2 _ _ h1
  exact ⟨k', comp, hk', by rw [he]; exact h2, fun C hC => by rw [hvm.findClass]; exact h3 C hC⟩
theorem jK_moved {D : va_G} {E : Nat → ClassId} {u U : State} (hvm : u.vm.Alike U.vm) (h : jK D E u) : jK D E U :=
  ⟨fun κ q hq => u_Kn_moved hvm (h.1 κ q hq), fun κ ty hk => ⟨jKa_moved hvm (h.2 κ ty hk).1, fun hne => by rw [hvm.findClass]; exact (h.2 κ ty hk).2 hne⟩⟩
-- ===== the heap holds a memory =====
/-- an array's cell -/
def jAr (H : Heap) (cA : ClassId) (a n : Nat) (f : Nat → Value) : Prop := ∃ cell : Cell, H[a]? = some cell ∧ cell.cls = cA ∧ cell.vm ≠ .unknown ∧ (∀ q, cell.vm ≠ .statics q) ∧ cell.slots.size = n ∧ ∀ j : Nat, j < n → cell.slots[j]? = some (f j)
def jcell (D : va_G) (E : Nat → ClassId) (H : Heap) (V : jV) (a κ n : Nat) : Prop := (κ < 50 ∧ ∃ r : vw_C, vwCl[κ]? = some r ∧ r.2.2 = n ∧ t_OB a (D.1 κ) n (D.2 κ) H (fun k => V κ k a)) ∨ (50 ≤ κ ∧ (∃ ty, jkt κ = some ty) ∧ jAr H (E κ) a n (fun k => V κ k a) ∧ (κ < 90 → H[a]? = some (arrV (E κ) n (fun k => V κ k a))))
def jSim (D : va_G) (E : Nat → ClassId) (H : Heap) (M : jM) : Prop := H.size = M.1 ∧ ∀ a κ n : Nat, M.2.2.1 a = some (κ, n) → jcell D E H M.2.2.2 a κ n
theorem jAr_kept {H H' : Heap} {cA : ClassId} {a n : Nat} {f : Nat → Value} (h : jAr H cA a n f) (e : H'[a]? = H[a]?) : jAr H' cA a n f := by
  obtain ⟨cell, h1, h2⟩ := h
  exact ⟨cell, by rw [e]; exact h1, h2⟩
theorem jAr_lt {H : Heap} {cA : ClassId} {a n : Nat} {f : Nat → Value} (h : jAr H cA a n f) : a < H.size := by
  obtain ⟨cell, h1, -⟩ := h
  exact (Array.getElem?_eq_some_iff.mp h1).1
theorem jcell_kept {D : va_G} {E : Nat → ClassId} {H H' : Heap} {V V' : jV} {a κ n : Nat} (h : jcell D E H V a κ n) (e : H'[a]? = H[a]?) (hV : ∀ k, V' κ k a = V κ k a) : jcell D E H' V' a κ n := by
  have hf : (fun k => V' κ k a) = fun k => V κ k a := funext hV
  rcases h with ⟨h1, r, h2, h3, h4⟩ | ⟨h1, h2, h3, h4⟩
  · exact Or.inl ⟨h1, r, h2, h3, by rw [hf]; exact h4.kept e⟩
  · exact Or.inr ⟨h1, h2, by rw [hf]; exact jAr_kept h3 e, fun hk => by rw [hf, e]; exact h4 hk⟩
theorem jcell_lt {D : va_G} {E : Nat → ClassId} {H : Heap} {V : jV} {a κ n : Nat} (h : jcell D E H V a κ n) : a < H.size := by
  rcases h with ⟨-, r, -, -, cell, h1, -⟩ | ⟨-, -, h3, -⟩
  · exact (Array.getElem?_eq_some_iff.mp h1).1
  · exact jAr_lt h3
def jgset (g : jG) (a : Nat) (x : Nat × Nat) : jG := fun b => if b = a then some x else g b
theorem jgset_ap (g : jG) (a : Nat) (x : Nat × Nat) (b : Nat) : jgset g a x b = if b = a then some x else g b := rfl
theorem jSim_put {D : va_G} {E : Nat → ClassId} {H H' : Heap} {t u : Nat} {g : jG} {V V' : jV} {a κ n : Nat} (h : jSim D E H (t, u, g, V)) (hg : g a = some (κ, n)) (hc : jcell D E H' V' a κ n) (hz : H'.size = H.size) (ho : ∀ q : Nat, q ≠ a → H'[q]? = H[q]?) (hV : ∀ κ' k b : Nat, b ≠ a → V' κ' k b = V κ' k b) : jSim D E H' (t, u, g, V') := by
  refine ⟨hz.trans h.1, fun b κ' n' hb => ?_⟩
  by_cases hba : b = a
  · subst hba
    have hb' : g b = some (κ', n') := hb
    rw [hg] at hb'
    cases hb'
    exact hc
  · exact jcell_kept (h.2 b κ' n' hb) (ho b hba) (fun k => hV κ' k b hba)
theorem jSim_push {D : va_G} {E : Nat → ClassId} {H H' : Heap} {t u u' : Nat} {g : jG} {V V' : jV} {κ n : Nat} (h : jSim D E H (t, u, g, V)) (hc : jcell D E H' V' t κ n) (hz : H'.size = t + 1) (ho : ∀ q : Nat, q < t → H'[q]? = H[q]?) (hV : ∀ κ' k b : Nat, b ≠ t → V' κ' k b = V κ' k b) : jSim D E H' (t + 1, u', jgset g t (κ, n), V') := by
  refine ⟨hz, fun b κ' n' hb => ?_⟩
  have hb' : jgset g t (κ, n) b = some (κ', n') := hb
  rw [jgset_ap] at hb'
  by_cases hbt : b = t
  · subst hbt
    rw [if_pos rfl] at hb'
    cases hb'
    exact hc
  · rw [if_neg hbt] at hb'
    have h1 := h.2 b κ' n' hb'
    have hlt : b < t := by have := jcell_lt h1; rw [h.1] at this; exact this
    exact jcell_kept h1 (ho b hlt) (fun k => hV κ' k b hbt)
theorem jcell_obj {D : va_G} {E : Nat → ClassId} {H : Heap} {V : jV} {a κ n : Nat} (h : jcell D E H V a κ n) (hκ : κ < 50) {q : vw_C} (hq : vwCl[κ]? = some q) : n = q.2.2 ∧ t_OB a (D.1 κ) n (D.2 κ) H (fun k => V κ k a) := by
  rcases h with ⟨h1, r, h2, h3, h4⟩ | ⟨h1, -⟩
  · cases h2.symm.trans hq
    exact ⟨h3.symm, h4⟩
  · omega
theorem jcell_arr {D : va_G} {E : Nat → ClassId} {H : Heap} {V : jV} {a κ n : Nat} (h : jcell D E H V a κ n) (hκ : 50 ≤ κ) : jAr H (E κ) a n (fun k => V κ k a) := by
  rcases h with ⟨h1, -⟩ | ⟨-, -, h3, -⟩
  · omega
  · exact h3
theorem jcell_arrV {D : va_G} {E : Nat → ClassId} {H : Heap} {V : jV} {a κ n : Nat} (h : jcell D E H V a κ n) (hκ : 50 ≤ κ) (hκ2 : κ < 90) : H[a]? = some (arrV (E κ) n (fun k => V κ k a)) := by
  rcases h with ⟨h1, -⟩ | ⟨-, -, -, h4⟩
  · omega
  · exact h4 hκ2
theorem jAr_arrV {H : Heap} {cA : ClassId} {a n : Nat} {f : Nat → Value} (h : H[a]? = some (arrV cA n f)) : jAr H cA a n f :=
  ⟨_, h, rfl, (fun h => by cases h), (fun q h => by cases h), arrV_size _ _ _, fun j hj => arrV_read _ _ hj⟩
theorem jcell_ofV {D : va_G} {E : Nat → ClassId} {H : Heap} {V : jV} {a κ n : Nat} {f : Nat → Value} (hκ : 50 ≤ κ) (hk : ∃ ty, jkt κ = some ty) (h : H[a]? = some (arrV (E κ) n f)) (hf : ∀ k, V κ k a = f k) : jcell D E H V a κ n := by
  have e : (fun k => V κ k a) = f := funext hf
  exact Or.inr ⟨hκ, hk, by rw [e]; exact jAr_arrV h, fun _ => by rw [e]; exact h⟩
/-- what may be written: objects and arrays of the kinds that are written, and all that is made from now on -/
def jA (M : jM) : Nat → Prop := fun q => (∃ κ n : Nat, M.2.2.1 q = some (κ, n) ∧ κ < 90) ∨ M.1 ≤ q
def jfits (ty : FieldType) (v : Value) : Bool := match ty, v with
  | .int, .int _ => true
  | .long, .long _ => true
  | .boolean, .int x => x == 0 || x == 1
  | .object _, .null => true
  | .object _, .ref _ => true
  | .array _, .null => true
  | .array _, .ref _ => true
  | _, _ => false
theorem jfits_ok {ty : FieldType} {v : Value} (h : jfits ty v = true) : narrow ty v = v ∧ fits ty v = true := by
  unfold jfits at h
  split at h
  · exact ⟨rfl, rfl⟩
  · exact ⟨rfl, rfl⟩
  · rename_i x
    simp only [Bool.or_eq_true, beq_iff_eq] at h
    rcases h with h | h <;> subst h <;> exact ⟨by decide, by decide⟩
  · exact ⟨rfl, rfl⟩
  · exact ⟨rfl, rfl⟩
  · exact ⟨rfl, rfl⟩
  · exact ⟨rfl, rfl⟩
  · cases h
section JM
variable {p : Program} {l : Launch} {e : Env} {R : Room} {s : State} {m : MethodId} {args : Array Value} {below : List Frame} {meth : Method} {c : Code} {H : Heap} {locs : List Loc} {cells slots : Nat} {Q : State → Prop}
variable {cc : ByteArray} {pc : Nat} {ls : Array Slot} {rest : List Value} {D : va_G} {E : Nat → ClassId} {A : Nat → Prop} {own : String} {idx a κ n k t u : Nat} {g : jG} {V : jV}
theorem jget_sound (hx : p.tables.exec = Jvm.exec) (hb : c.code = cc) (hW : jW s) (hK : jK D E s) (hown : s.vm.findClass own = some m.cls) {C : String} {T : u_T} {N : Nat} (hc : vwCl[κ]? = some (C, T, N)) (hk : k < N) (hL : jLk own idx (T k).1 (T k).2.1 (T k).2.2.1) (hS : jSim D E H (t, u, g, V)) (hg : g a = some (κ, n)) (hκ : κ < 50) (hd : decode cc pc = .ok (.getfield idx, 3))
    (kk : W p l e R s m args below meth c H locs cells slots Q (F0 m (pc + 3) ls (V κ k a :: rest))) : W p l e R s m args below meth c H locs cells slots Q (F0 m pc ls (.ref a :: rest)) := by
  obtain ⟨hn, cell, q1, q2, q3, q4⟩ := jcell_obj (hS.2 a κ n hg) hκ hc
  obtain ⟨hSl, hfc, kC, hkC, hkind⟩ := hK.1 κ _ hc
  obtain ⟨cf, kf, fi, f, hi, hsl⟩ := hSl k hk
  have hts : ∀ w ∈ jwords, w.before args s = true := fun w h => hW w h args
  obtain ⟨ref, hl, hr⟩ := hL
  have hi2 : s.fieldFound? ref (T k).2.1 (T k).2.2.1 = some (cf, kf, fi, f) := by
    rcases hr with hr | hr
    · rw [hr]; exact hi
    · exact u_same (hts _ hr) _ hi
  have hst : f.isStatic = false := (u_facts hfc hkC (u_lays hts (jcl_in κ _ hc) hk) hi).1
  have hv : cell.slots[f.slot]? = some (V κ k a) := by rw [hsl]; exact q4 k (by rw [hn]; exact hk)
  have hne : cell.vm ≠ .unknown := by rw [q3]; exact fun h => by cases h
  rcases hl with hl | ⟨host, hl⟩
  · exact W.getf hx hb hown (hts _ hl) hi2 hst q1 hne hv rfl rfl hd kk
  · exact va_Wgetf hx hb hown (hts _ hl) hi2 hst q1 hne hv rfl rfl hd kk
theorem jput_sound (hx : p.tables.exec = Jvm.exec) (hb : c.code = cc) (hW : jW s) (hK : jK D E s) (hown : s.vm.findClass own = some m.cls) {C : String} {T : u_T} {N : Nat} (hc : vwCl[κ]? = some (C, T, N)) (hk : k < N) (hL : jLk own idx (T k).1 (T k).2.1 (T k).2.2.1) (hfin : (T k).2.2.2 = false ∨ (meth.name = "<init>" ∧ (T k).1 = own)) {v : Value} (hv : jfits (jty κ k) v = true) (hS : jSim D E H (t, u, g, V)) (hS0 : va_S A s.heap H locs) (hA : A a) (hg : g a = some (κ, n)) (hκ : κ < 50) (hd : decode cc pc = .ok (.putfield idx, 3))
    (kk : ∀ (H1 : Heap) (locs1 : List Loc), jSim D E H1 (t, u, g, jset V κ k a v) → va_S A s.heap H1 locs1 → W p l e R s m args below meth c H1 locs1 cells slots Q (F0 m (pc + 3) ls rest)) : W p l e R s m args below meth c H locs cells slots Q (F0 m pc ls (v :: .ref a :: rest)) := by
  obtain ⟨hn, cell, q1, q2, q3, q4⟩ := jcell_obj (hS.2 a κ n hg) hκ hc
  have hnN : N = n := hn.symm
  subst hnN
  obtain ⟨hSl, hfc, kC, hkC, hkind⟩ := hK.1 κ _ hc
  obtain ⟨cf, kf, fi, f, hi, hsl⟩ := hSl k hk
  have hts : ∀ w ∈ jwords, w.before args s = true := fun w h => hW w h args
  have hin := jcl_in κ _ hc
  have hap : ∀ x y, x < N → y < N → x ≠ y → (D.2 κ) x ≠ (D.2 κ) y := by
    intro x y hx hy hne
    obtain ⟨_, _, _, fa, hia, ea⟩ := hSl x hx
    obtain ⟨_, _, _, fb, hib, eb⟩ := hSl y hy
    rw [← ea, ← eb]
    refine u_apart (u_lays hts hin hx) (u_lays hts hin hy) hia hib ?_
    rw [(State.fieldFound?_type hia (jcl_ty κ _ hc x hx)).1, (State.fieldFound?_type hib (jcl_ty κ _ hc y hy)).1]
    exact jcl_nm κ _ hc x hx y hy hne
  obtain ⟨ref, hl, hr⟩ := hL
  have hi2 : s.fieldFound? ref (T k).2.1 (T k).2.2.1 = some (cf, kf, fi, f) := by
    rcases hr with hr | hr
    · rw [hr]; exact hi
    · exact u_same (hts _ hr) _ hi
  have hst : f.isStatic = false := (u_facts hfc hkC (u_lays hts hin hk) hi).1
  have hlt : f.slot < cell.slots.size := by rw [hsl]; exact k2_hasslot (q4 k hk)
  obtain ⟨hnw, hft⟩ := jfits_ok hv
  have hne : cell.vm ≠ .unknown := by rw [q3]; exact fun h => by cases h
  have ha : a < H.size := (Array.getElem?_eq_some_iff.mp q1).1
  have hfit := u_fits hfc hkC hkind (u_lays hts hin hk) hi (jcl_ty κ _ hc k hk) hnw hft
  have hfin2 : hasFlag f.accessFlags Acc.final = false ∨ (m.cls = cf ∧ meth.name = "<init>") := by
    have hlay := hts _ (hin _ (u_in_lay hk))
    unfold u_lay at hlay
    by_cases hf : (T k).2.2.2 = true
    · rw [if_pos hf] at hlay
      rcases hfin with h | ⟨h1, h2⟩
      · rw [h] at hf; cases hf
      · refine Or.inr ⟨?_, h1⟩
        obtain ⟨_, _, c', _, _, _, -, -, hf', -, -, -, hown2, -⟩ := Cond.laysFinal_spec hlay
        have e1 : c' = cf := by have := hi.symm.trans hf'; simp at this; exact this.1.symm
        rw [h2] at hown2
        rw [← e1]; exact Option.some.inj (hown.symm.trans hown2)
    · rw [if_neg hf] at hlay
      exact Or.inl (u_store hfc hkC hkind hlay hi (jcl_ty κ _ hc k hk) hnw hft).1
  have fin : W p l e R s m args below meth c (H.setIfInBounds a (cell.setSlot f.slot v)) (locs ++ [⟨a, f.slot⟩]) cells slots Q (F0 m (pc + 3) ls rest) := by
    have e1 : (H.setIfInBounds a (cell.setSlot f.slot v))[a]? = some (cell.setSlot f.slot v) := by simp [Array.getElem?_setIfInBounds, ha]
    have e2 : (H.setIfInBounds a (cell.setSlot f.slot v)).size = H.size := by simp
    have e3 : ∀ q : Nat, q ≠ a → (H.setIfInBounds a (cell.setSlot f.slot v))[q]? = H[q]? := fun q hq => by simp [Array.getElem?_setIfInBounds, Ne.symm hq]
    refine kk _ _ (jSim_put hS hg (Or.inl ⟨hκ, _, hc, rfl, ?_⟩) e2 e3 (fun κ' k' b hb => ?_)) (hS0.put e2 e3 hA)
    · refine t_OB.to (V := updV (fun k => V κ k a) k v) ⟨_, e1, q2, q3, by rw [hsl]; exact t_set q4 hap hk v⟩ (fun j _ => ?_)
      rw [jset_ap]
      simp only [updV, true_and, and_true]
    · rw [jset_ap, if_neg (fun h => hb h.2.2)]
  rcases hl with hl | ⟨host, hl⟩
  · exact W.putf hx hb hown (hts _ hl) hi2 hst hfin2 q1 hne hlt hfit.1 (by rw [q3, q2]; exact hfit.2) rfl rfl hd fin
  · exact va_Wputf hx hb hown (hts _ hl) hi2 hst hfin2 q1 hne hlt hfit.1 (by rw [q3, q2]; exact hfit.2) rfl rfl hd fin
theorem jS_push {H1 : Heap} (h : va_S A s.heap H locs) (hz : H1.size = H.size + 1) (ho : ∀ q : Nat, q < H.size → H1[q]? = H[q]?) : va_S A s.heap H1 locs :=
  ⟨by rw [hz]; exact Nat.le_succ_of_le h.1, fun q h1 h2 => (ho q (Nat.lt_of_lt_of_le h1 h.1)).trans (h.2.1 q h1 h2), h.2.2⟩
theorem jnew_sound (hx : p.tables.exec = Jvm.exec) (hb : c.code = cc) (hW : jW s) (hK : jK D E s) (hown : s.vm.findClass own = some m.cls) {C : String} {T : u_T} {N : Nat} (hc : vwCl[κ]? = some (C, T, N)) (hκ : κ < 50) {w : Nat} (hcl : Cond.classLink own idx C ∈ jwords) (hins : Cond.instantiable C w ∈ jwords) (hini : Cond.initialized C ∈ jwords) (hS : jSim D E H (t, u, g, V)) (hS0 : va_S A s.heap H locs) (hcells : cells + 1 ≤ R.cells) (hslots : slots + w ≤ R.slots) (hd : decode cc pc = .ok (.new idx, 3))
    (kk : ∀ H1 : Heap, jSim D E H1 (t + 1, u + w, jgset g t (κ, N), jput V κ t (fun k => defaultValue (jty κ k))) → va_S A s.heap H1 locs → W p l e R s m args below meth c H1 locs (cells + 1) (slots + w) Q (F0 m (pc + 3) ls (.ref t :: rest))) : W p l e R s m args below meth c H locs cells slots Q (F0 m pc ls rest) := by
  have hts : ∀ w ∈ jwords, w.before args s = true := fun w h => hW w h args
  have hKn := hK.1 κ _ hc
  have hsz : H.size = t := hS.1
  refine W.newcK hx hb hown (hts _ hcl) (hts _ hins) (hts _ hini) (g := F0 m pc ls rest) rfl hd hcells hslots hKn.2.1 hsz fun H' kC h1 h2 h3 h4 => ?_
  refine kk H' (jSim_push hS (Or.inl ⟨hκ, _, hc, rfl, ?_⟩) h3 h4 (fun κ' k' b hb => ?_)) (jS_push hS0 (by rw [h3, hsz]) (fun q hq => h4 q (by rw [← hsz]; exact hq)))
  · refine t_OB.to (u_born (jty κ) hts (jcl_in κ _ hc) hKn h1 h2 (jcl_ty κ _ hc)) (fun j _ => ?_)
    rw [jput_ap, if_pos ⟨rfl, rfl⟩]
  · rw [jput_ap, if_neg (fun h => hb h.2)]
theorem jarr_of (hK : jK D E s) {ty : FieldType} (hk : jkt κ = some ty) {cell : Cell} (h1 : cell.cls = E κ) (h3 : ∀ q, cell.vm ≠ .statics q) : s.isArrayOf cell ty := by
  obtain ⟨⟨kA, comp, k1, k2, -⟩, -⟩ := hK.2 κ ty hk
  exact ⟨h3, kA, by rw [h1]; exact k1, comp, k2⟩
theorem jlen_sound (hx : p.tables.exec = Jvm.exec) (hb : c.code = cc) (hK : jK D E s) (hS : jSim D E H (t, u, g, V)) (hg : g a = some (κ, n)) (hκ : 50 ≤ κ) (hd : decode cc pc = .ok (.arraylength, 1))
    (kk : W p l e R s m args below meth c H locs cells slots Q (F0 m (pc + 1) ls (.int (Int32.ofNat n) :: rest))) : W p l e R s m args below meth c H locs cells slots Q (F0 m pc ls (.ref a :: rest)) := by
  rcases hS.2 a κ n hg with ⟨h1, -⟩ | ⟨-, ⟨ty, hty⟩, ⟨cell, h1, h2, h3, h4, h5, h6⟩, -⟩
  · omega
  · exact W.alen (n := Int32.ofNat n) hx hb h1 (jarr_of hK hty h2 h4) (by rw [h5] <;> rfl) rfl rfl hd kk
/-- an index within -/
def jin (j : Int32) (n : Nat) : Bool := decide (¬ j < 0) && decide (j.toNatClampNeg < n)
theorem jin_ok {j : Int32} {n : Nat} (h : jin j n = true) : ¬ j < 0 ∧ j.toNatClampNeg < n := by
  unfold jin at h
  simp only [Bool.and_eq_true, decide_eq_true_eq] at h
  exact h
theorem jin_no {j : Int32} {n z : Nat} (h : jin j n = true) (hz : z = n) : ¬ (j < 0 ∨ z ≤ j.toNatClampNeg) := by
  obtain ⟨h1, h2⟩ := jin_ok h
  subst hz
  rintro (q | q)
  · exact h1 q
  · omega
theorem jald_sound (hx : p.tables.exec = Jvm.exec) (hb : c.code = cc) (hK : jK D E s) (hS : jSim D E H (t, u, g, V)) (hg : g a = some (κ, n)) (hκ : 50 ≤ κ) {j : Int32} (hj : jin j n = true) {i : ClassFile.Instr} (hd : decode cc pc = .ok (i, 1)) (hi : (jkt κ = some .int ∧ i = .iaload) ∨ (jkt κ = some .long ∧ i = .laload) ∨ (jkt κ = some .boolean ∧ i = .baload) ∨ (∃ ty, jkt κ = some ty ∧ ty.isReference = true ∧ i = .aaload))
    (kk : W p l e R s m args below meth c H locs cells slots Q (F0 m (pc + 1) ls (V κ j.toNatClampNeg a :: rest))) : W p l e R s m args below meth c H locs cells slots Q (F0 m pc ls (.int j :: .ref a :: rest)) := by
  rcases hS.2 a κ n hg with ⟨h1, -⟩ | ⟨-, -, ⟨cell, h1, h2, h3, h4, h5, h6⟩, -⟩
  · omega
  · have hv := h6 _ (jin_ok hj).2
    have hno := jin_no hj h5
    rcases hi with ⟨ht, rfl⟩ | ⟨ht, rfl⟩ | ⟨ht, rfl⟩ | ⟨ty, ht, hr, rfl⟩
    · exact W.iald hx hb h1 (jarr_of hK ht h2 h4) h3 hno hv rfl rfl hd kk
    · exact W.lald hx hb h1 (jarr_of hK ht h2 h4) h3 hno hv rfl rfl hd kk
    · exact W.zald hx hb h1 (jarr_of hK ht h2 h4) h3 hno hv rfl rfl hd kk
    · exact W.aald hx hb h1 (jarr_of hK ht h2 h4) hr h3 hno hv rfl rfl hd kk
theorem jast_fin {j : Nat} {v : Value} (hS : jSim D E H (t, u, g, V)) (hS0 : va_S A s.heap H locs) (hA : A a) (hg : g a = some (κ, n)) (hκ : 50 ≤ κ) (hk : ∃ ty, jkt κ = some ty) {H1 : Heap} (e : H1[a]? = some ((arrV (E κ) n (fun k => V κ k a)).setSlot j v)) (z : H1.size = H.size) (o : ∀ q : Nat, q ≠ a → H1[q]? = H[q]?) :
    jSim D E H1 (t, u, g, jset V κ j a v) ∧ va_S A s.heap H1 (locs ++ [⟨a, j⟩]) := by
  rw [arrV_store] at e
  refine ⟨jSim_put hS hg (jcell_ofV hκ hk e (fun k => ?_)) z o (fun κ' k' b hb => ?_), hS0.put z o hA⟩
  · rw [jset_ap]
    simp only [updV, true_and, and_true]
  · rw [jset_ap, if_neg (fun h => hb h.2.2)]
theorem jiast_sound (hx : p.tables.exec = Jvm.exec) (hb : c.code = cc) (hK : jK D E s) (hS : jSim D E H (t, u, g, V)) (hS0 : va_S A s.heap H locs) (hA : A a) (hg : g a = some (κ, n)) (hκ : 50 ≤ κ) (hκ2 : κ < 90) (hk : jkt κ = some .int) {j x : Int32} (hj : jin j n = true) (hd : decode cc pc = .ok (.iastore, 1))
    (kk : ∀ (H1 : Heap) (locs1 : List Loc), jSim D E H1 (t, u, g, jset V κ j.toNatClampNeg a (.int x)) → va_S A s.heap H1 locs1 → W p l e R s m args below meth c H1 locs1 cells slots Q (F0 m (pc + 1) ls rest)) : W p l e R s m args below meth c H locs cells slots Q (F0 m pc ls (.int x :: .int j :: .ref a :: rest)) := by
  have h1 := jcell_arrV (hS.2 a κ n hg) hκ hκ2
  have h5 := arrV_size (E κ) n (fun k => V κ k a)
  refine W.iast hx hb h1 (jarr_of hK hk rfl (fun q h => by cases h)) (fun h => by cases h) (jin_no hj h5) rfl rfl hd fun H1 e z o => ?_
  obtain ⟨r1, r2⟩ := jast_fin hS hS0 hA hg hκ ⟨_, hk⟩ e z o
  exact kk H1 _ r1 r2
theorem jlast_sound (hx : p.tables.exec = Jvm.exec) (hb : c.code = cc) (hK : jK D E s) (hS : jSim D E H (t, u, g, V)) (hS0 : va_S A s.heap H locs) (hA : A a) (hg : g a = some (κ, n)) (hκ : 50 ≤ κ) (hκ2 : κ < 90) (hk : jkt κ = some .long) {j : Int32} {x : Int64} (hj : jin j n = true) (hd : decode cc pc = .ok (.lastore, 1))
    (kk : ∀ (H1 : Heap) (locs1 : List Loc), jSim D E H1 (t, u, g, jset V κ j.toNatClampNeg a (.long x)) → va_S A s.heap H1 locs1 → W p l e R s m args below meth c H1 locs1 cells slots Q (F0 m (pc + 1) ls rest)) : W p l e R s m args below meth c H locs cells slots Q (F0 m pc ls (.long x :: .int j :: .ref a :: rest)) := by
  have h1 := jcell_arrV (hS.2 a κ n hg) hκ hκ2
  have h5 := arrV_size (E κ) n (fun k => V κ k a)
  refine W.last hx hb h1 (jarr_of hK hk rfl (fun q h => by cases h)) (fun h => by cases h) (jin_no hj h5) rfl rfl hd fun H1 e z o => ?_
  obtain ⟨r1, r2⟩ := jast_fin hS hS0 hA hg hκ ⟨_, hk⟩ e z o
  exact kk H1 _ r1 r2
theorem jzast_sound (hx : p.tables.exec = Jvm.exec) (hb : c.code = cc) (hK : jK D E s) (hS : jSim D E H (t, u, g, V)) (hS0 : va_S A s.heap H locs) (hA : A a) (hg : g a = some (κ, n)) (hκ : 50 ≤ κ) (hκ2 : κ < 90) (hk : jkt κ = some .boolean) {j x : Int32} (hx2 : jfits .boolean (.int x) = true) (hj : jin j n = true) (hd : decode cc pc = .ok (.bastore, 1))
    (kk : ∀ (H1 : Heap) (locs1 : List Loc), jSim D E H1 (t, u, g, jset V κ j.toNatClampNeg a (.int x)) → va_S A s.heap H1 locs1 → W p l e R s m args below meth c H1 locs1 cells slots Q (F0 m (pc + 1) ls rest)) : W p l e R s m args below meth c H locs cells slots Q (F0 m pc ls (.int x :: .int j :: .ref a :: rest)) := by
  have h1 := jcell_arrV (hS.2 a κ n hg) hκ hκ2
  have h5 := arrV_size (E κ) n (fun k => V κ k a)
  refine W.zast hx hb h1 (jarr_of hK hk rfl (fun q h => by cases h)) (fun h => by cases h) (jin_no hj h5) rfl rfl hd fun H1 e z o => ?_
  rw [(jfits_ok hx2).1] at e
  obtain ⟨r1, r2⟩ := jast_fin hS hS0 hA hg hκ ⟨_, hk⟩ e z o
  exact kk H1 _ r1 r2
/-- an object of class number κv into an array of references -/
theorem jaast_sound (hx : p.tables.exec = Jvm.exec) (hb : c.code = cc) (hW : jW s) (hK : jK D E s) (hS : jSim D E H (t, u, g, V)) (hS0 : va_S A s.heap H locs) (hA : A a) (hg : g a = some (κ, n)) (hκ : 50 ≤ κ) (hκ2 : κ < 90) {C0 : String} (hk : jkt κ = some (.object C0)) {v κv nv : Nat} (hgv : g v = some (κv, nv)) (hκv : κv < 50) {q : vw_C} (hq : vwCl[κv]? = some q) (hca : q.1 = C0 ∨ Cond.castable q.1 C0 ∈ jwords) {j : Int32} (hj : jin j n = true) (hd : decode cc pc = .ok (.aastore, 1))
    (kk : ∀ (H1 : Heap) (locs1 : List Loc), jSim D E H1 (t, u, g, jset V κ j.toNatClampNeg a (.ref v)) → va_S A s.heap H1 locs1 → W p l e R s m args below meth c H1 locs1 cells slots Q (F0 m (pc + 1) ls rest)) : W p l e R s m args below meth c H locs cells slots Q (F0 m pc ls (.ref v :: .int j :: .ref a :: rest)) := by
  have h1 := jcell_arrV (hS.2 a κ n hg) hκ hκ2
  have h5 := arrV_size (E κ) n (fun k => V κ k a)
  obtain ⟨-, cv, g1, g2, g3, -⟩ := jcell_obj (hS.2 v κv nv hgv) hκv hq
  obtain ⟨⟨kA, comp, k1, k2, k3⟩, -⟩ := hK.2 κ _ hk
  have hcls := (hK.1 κv _ hq).2
  obtain ⟨hfc, kC, hkC, -⟩ := hcls
  have hcomp := k3 C0 rfl
  obtain ⟨kE, hkE, -⟩ := Vm.findClass_spec hcomp
  have hasg : s.vm.assignable (D.1 κv) comp = true := by
    rcases hca with h | h
    · rw [h] at hfc
      cases hfc.symm.trans hcomp
      exact va_asg _ _
    · obtain ⟨c0, t1, f1, f2, f3⟩ := Cond.castable_spec (hW _ h args)
      cases hfc.symm.trans f1
      cases hcomp.symm.trans f2
      exact f3
  refine W.aast hx hb h1 (fun q h => by cases h) (fun h => by cases h) k1 k2 rfl hkE ⟨(jin_ok hj).1, by rw [h5]; exact (jin_ok hj).2⟩ g1 (fun q h => by rw [g3] at h; cases h) (by rw [g2]; exact hkC) (by rw [g2]; exact hasg) rfl rfl hd fun H1 e z o => ?_
  obtain ⟨r1, r2⟩ := jast_fin hS hS0 hA hg hκ ⟨_, hk⟩ e z o
  exact kk H1 _ r1 r2
theorem jaastN_sound (hx : p.tables.exec = Jvm.exec) (hb : c.code = cc) (hK : jK D E s) (hS : jSim D E H (t, u, g, V)) (hS0 : va_S A s.heap H locs) (hA : A a) (hg : g a = some (κ, n)) (hκ : 50 ≤ κ) (hκ2 : κ < 90) {C0 : String} (hk : jkt κ = some (.object C0)) {j : Int32} (hj : jin j n = true) (hd : decode cc pc = .ok (.aastore, 1))
    (kk : ∀ (H1 : Heap) (locs1 : List Loc), jSim D E H1 (t, u, g, jset V κ j.toNatClampNeg a .null) → va_S A s.heap H1 locs1 → W p l e R s m args below meth c H1 locs1 cells slots Q (F0 m (pc + 1) ls rest)) : W p l e R s m args below meth c H locs cells slots Q (F0 m pc ls (.null :: .int j :: .ref a :: rest)) := by
  have h1 := jcell_arrV (hS.2 a κ n hg) hκ hκ2
  have h5 := arrV_size (E κ) n (fun k => V κ k a)
  refine va_WaastN (C := C0) hx hb h1 (jarr_of hK hk rfl (fun q h => by cases h)) (fun h => by cases h) (jin_no hj h5) rfl rfl hd fun H1 e z o => ?_
  obtain ⟨r1, r2⟩ := jast_fin hS hS0 hA hg hκ ⟨_, hk⟩ e z o
  exact kk H1 _ r1 r2
theorem jnewa_sound (hx : p.tables.exec = Jvm.exec) (hb : c.code = cc) (hW : jW s) (hK : jK D E s) {aty : ArrayType} (hk : jkt κ = some (newarray.typeOf aty)) (hκ : 50 ≤ κ) (hκ2 : κ ≠ 94) (hw : Cond.arrayClass (newarray.typeOf aty) ∈ jwords) (hS : jSim D E H (t, u, g, V)) (hS0 : va_S A s.heap H locs) {x : Int32} (h0 : ¬ x < 0) (hbytes : x.toNatClampNeg * componentBytes (newarray.typeOf aty) ≤ 536870912) (hcells : cells + 1 ≤ R.cells) (hslots : slots + x.toNatClampNeg ≤ R.slots) (hd : decode cc pc = .ok (.newarray aty, 2))
    (kk : ∀ H1 : Heap, jSim D E H1 (t + 1, u + x.toNatClampNeg, jgset g t (κ, x.toNatClampNeg), jput V κ t (fun _ => defaultValue (newarray.typeOf aty))) → va_S A s.heap H1 locs → W p l e R s m args below meth c H1 locs (cells + 1) (slots + x.toNatClampNeg) Q (F0 m (pc + 2) ls (.ref t :: rest))) : W p l e R s m args below meth c H locs cells slots Q (F0 m pc ls (.int x :: rest)) := by
  have hsz : H.size = t := hS.1
  subst hsz
  refine W.newa hx hb (hW _ hw args) (g := F0 m pc ls (.int x :: rest)) rfl hd rfl h0 hbytes hcells hslots fun cA kA comp h1 h2 h3 => ?_
  have hcA : cA = E κ := Option.some.inj (h1.symm.trans ((hK.2 κ _ hk).2 hκ2))
  subst hcA
  have e1 : (H.push { cls := E κ, slots := Array.replicate x.toNatClampNeg (defaultValue (newarray.typeOf aty)), vm := .none })[H.size]? = some (arrV (E κ) x.toNatClampNeg (fun _ => defaultValue (newarray.typeOf aty))) := by rw [← arrV_new]; simp
  have e2 : ∀ q : Nat, q < H.size → (H.push { cls := E κ, slots := Array.replicate x.toNatClampNeg (defaultValue (newarray.typeOf aty)), vm := .none })[q]? = H[q]? := fun q hq => by rw [Array.getElem?_push, if_neg (Nat.ne_of_lt hq)]
  exact kk _ (jSim_push hS (jcell_ofV hκ ⟨_, hk⟩ e1 (fun k => by rw [jput_ap, if_pos ⟨rfl, rfl⟩])) (by simp) e2 (fun κ' k' b hb => by rw [jput_ap, if_neg (fun h => hb h.2)])) (jS_push hS0 (by simp) e2)
theorem janew_sound (hx : p.tables.exec = Jvm.exec) (hb : c.code = cc) (hW : jW s) (hK : jK D E s) (hown : s.vm.findClass own = some m.cls) {C0 : String} (hk : jkt κ = some (.object C0)) (hκ : 50 ≤ κ) (hκ2 : κ ≠ 94) (hl : Cond.classLink own idx C0 ∈ jwords) (hw : Cond.arrayOver (.object C0) ∈ jwords) (hS : jSim D E H (t, u, g, V)) (hS0 : va_S A s.heap H locs) {x : Int32} (h0 : ¬ x < 0) (hbytes : x.toNatClampNeg * 4 ≤ 536870912) (hcells : cells + 1 ≤ R.cells) (hslots : slots + x.toNatClampNeg ≤ R.slots) (hd : decode cc pc = .ok (.anewarray idx, 3))
    (kk : ∀ H1 : Heap, jSim D E H1 (t + 1, u + x.toNatClampNeg, jgset g t (κ, x.toNatClampNeg), jput V κ t (fun _ => .null)) → va_S A s.heap H1 locs → W p l e R s m args below meth c H1 locs (cells + 1) (slots + x.toNatClampNeg) Q (F0 m (pc + 3) ls (.ref t :: rest))) : W p l e R s m args below meth c H locs cells slots Q (F0 m pc ls (.int x :: rest)) := by
  have hsz : H.size = t := hS.1
  subst hsz
  refine W.anew hx hb hown (hW _ hl args) (hW _ hw args) (g := F0 m pc ls (.int x :: rest)) rfl hd rfl h0 hbytes hcells hslots fun cA kA comp h1 h2 h3 h4 => ?_
  have hcA : cA = E κ := Option.some.inj (h1.symm.trans ((hK.2 κ _ hk).2 hκ2))
  subst hcA
  have e1 : (H.push { cls := E κ, slots := Array.replicate x.toNatClampNeg (.null), vm := .none })[H.size]? = some (arrV (E κ) x.toNatClampNeg (fun _ => .null)) := by rw [← arrV_new]; simp
  have e2 : ∀ q : Nat, q < H.size → (H.push { cls := E κ, slots := Array.replicate x.toNatClampNeg (.null), vm := .none })[q]? = H[q]? := fun q hq => by rw [Array.getElem?_push, if_neg (Nat.ne_of_lt hq)]
  exact kk _ (jSim_push hS (jcell_ofV hκ ⟨_, hk⟩ e1 (fun k => by rw [jput_ap, if_pos ⟨rfl, rfl⟩])) (by simp) e2 (fun κ' k' b hb => by rw [jput_ap, if_neg (fun h => hb h.2)])) (jS_push hS0 (by simp) e2)
/-- a cast of an object -/
theorem jcast_sound (hx : p.tables.exec = Jvm.exec) (hb : c.code = cc) (hW : jW s) (hK : jK D E s) (hown : s.vm.findClass own = some m.cls) {q : vw_C} (hq : vwCl[κ]? = some q) (hκ : κ < 50) {nm : String} (hl : Cond.classLink own idx nm ∈ jwords) (hca : q.1 = nm ∨ Cond.castable q.1 nm ∈ jwords) (hS : jSim D E H (t, u, g, V)) (hg : g a = some (κ, n)) (hd : decode cc pc = .ok (.checkcast idx, 3))
    (kk : W p l e R s m args below meth c H locs cells slots Q (F0 m (pc + 3) ls (.ref a :: rest))) : W p l e R s m args below meth c H locs cells slots Q (F0 m pc ls (.ref a :: rest)) := by
  obtain ⟨-, cell, q1, q2, q3, -⟩ := jcell_obj (hS.2 a κ n hg) hκ hq
  have hfc := (hK.1 κ _ hq).2.1
  have hst : cell.vm.isStatics = false := by rw [q3]; rfl
  rcases hca with h | h
  · intro T hT X
    obtain ⟨vm', X', st⟩ := X.checkcastYes hx hown (hW _ hl args) (by rw [hT]; exact q1) hst (by rw [← h]; exact hfc) (by rw [q2]; exact va_asg _ _) (g := F0 m pc ls (.ref a :: rest)) rfl rfl (by rw [hb]; exact hd)
    obtain ⟨t', a1, b1⟩ := kk (T.setVm vm') hT X'
    exact ⟨t', st t' a1, b1⟩
  · exact va_castY hx hb hown (hW _ hl args) (va_Nw.of rfl (hW _ h args)) ⟨cell, q1, hst, by rw [q2]; exact hfc⟩ hd kk
/-- a cast of an array to its own class -/
theorem jcastA_sound (hx : p.tables.exec = Jvm.exec) (hb : c.code = cc) (hW : jW s) (hK : jK D E s) (hown : s.vm.findClass own = some m.cls) {ty : FieldType} (hk : jkt κ = some ty) (hκ : 50 ≤ κ) (hκ2 : κ ≠ 94) (hl : Cond.classLink own idx ("[" ++ ty.toString) ∈ jwords) (hS : jSim D E H (t, u, g, V)) (hg : g a = some (κ, n)) (hd : decode cc pc = .ok (.checkcast idx, 3))
    (kk : W p l e R s m args below meth c H locs cells slots Q (F0 m (pc + 3) ls (.ref a :: rest))) : W p l e R s m args below meth c H locs cells slots Q (F0 m pc ls (.ref a :: rest)) := by
  obtain ⟨cell, h1, h2, h3, h4, h5, h6⟩ := jcell_arr (hS.2 a κ n hg) hκ
  have hst : cell.vm.isStatics = false := by
    cases hv : cell.vm <;> first | rfl | exact absurd hv (h4 _)
  intro T hT X
  obtain ⟨vm', X', st⟩ := X.checkcastYes hx hown (hW _ hl args) (by rw [hT]; exact h1) hst ((hK.2 κ _ hk).2 hκ2) (by rw [h2]; exact va_asg _ _) (g := F0 m pc ls (.ref a :: rest)) rfl rfl (by rw [hb]; exact hd)
  obtain ⟨t', a1, b1⟩ := kk (T.setVm vm') hT X'
  exact ⟨t', st t' a1, b1⟩
/-- System.arraycopy between arrays of one type -/
theorem jcopy_sound (hx : p.tables.exec = Jvm.exec) (hb : c.code = cc) (hml : c.maxLocals = ls.size) (hW : jW s) (hK : jK D E s) (hown : s.vm.findClass own = some m.cls) (hl : Cond.methodLink own idx arraycopyName ∈ jwords) (hnat : Cond.native arraycopyName ∈ jwords) (hstat : Cond.static arraycopyName ∈ jwords) (hini : Cond.initialized "java/lang/System" ∈ jwords)
    (hS : jSim D E H (t, u, g, V)) (hS0 : va_S A s.heap H locs) (hA : A a) {a0 κ0 n0 : Nat} (hg0 : g a0 = some (κ0, n0)) (hκ0 : 50 ≤ κ0) (hg : g a = some (κ, n)) (hκ : 50 ≤ κ) (hκ2 : κ < 90) {ty : FieldType} (hk0 : jkt κ0 = some ty) (hk : jkt κ = some ty) {sp dp x : Int32} (h1 : ¬ sp < 0) (h2 : ¬ dp < 0) (h3 : ¬ x < 0) (h4 : sp.toNatClampNeg + x.toNatClampNeg ≤ n0) (h5 : dp.toNatClampNeg + x.toNatClampNeg ≤ n)
    (hfit : ∀ i, i < x.toNatClampNeg → fits ty (V κ0 (sp.toNatClampNeg + i) a0) = true) (hel : ∀ i, i < x.toNatClampNeg → ∀ y : Nat, V κ0 (sp.toNatClampNeg + i) a0 = .ref y → ∃ (C0 : String) (κy ny : Nat) (q : vw_C), ty = .object C0 ∧ g y = some (κy, ny) ∧ κy < 50 ∧ vwCl[κy]? = some q ∧ (q.1 = C0 ∨ Cond.castable q.1 C0 ∈ jwords))
    (hframes : 1 ≤ R.frames) (hlocals : (rest.map fun v => v.category).sum + (nativeFrameWords "java/lang/System" "arraycopy" 5 + 11) ≤ R.locals) (hd : decode cc pc = .ok (.invokestatic idx, 3))
    (kk : ∀ (H1 : Heap) (locs1 : List Loc), jSim D E H1 (t, u, g, jput V κ a (va_cpy (fun k => V κ0 k a0) (fun k => V κ k a) sp.toNatClampNeg dp.toNatClampNeg x.toNatClampNeg)) → va_S A s.heap H1 locs1 → W p l e R s m args below meth c H1 locs1 cells slots Q (F0 m (pc + 3) ls rest)) : W p l e R s m args below meth c H locs cells slots Q (F0 m pc ls (.int x :: .int dp :: .ref a :: .int sp :: .ref a0 :: rest)) := by
  have nn : ∀ z : Int32, ¬ z < 0 → z.toInt = (z.toNatClampNeg : Int) := by
    intro z hz
    have hz0 : (0 : Int) ≤ z.toInt := by
      have := Int32.not_lt.mp hz
      simpa using Int32.le_iff_toInt_le.mp this
    show z.toInt = ((z.toInt.toNat : Nat) : Int)
    omega
  obtain ⟨cs, c1, c2, c3, c4, c5, c6⟩ := jcell_arr (hS.2 a0 κ0 n0 hg0) hκ0
  have hc1 := jcell_arrV (hS.2 a κ n hg) hκ hκ2
  obtain ⟨⟨k0, cm0, hk0c, hkk0, -⟩, -⟩ := hK.2 κ0 _ hk0
  obtain ⟨⟨k1, cm1, hk1c, hkk1, hcm1⟩, -⟩ := hK.2 κ _ hk
  have hget : ∀ i, i < x.toNatClampNeg → cs.slots.getD (sp.toNatClampNeg + i) .null = V κ0 (sp.toNatClampNeg + i) a0 := by
    intro i hi
    rw [Array.getD_eq_getD_getElem?, c6 _ (by omega)]
    rfl
  intro T hT X
  obtain ⟨vm', X', step⟩ := X.arraycopy hx hown (hW _ hl args) (hW _ hnat args) (hW _ hstat args) (hW _ hini args) (src := a0) (dst := a) (cs := cs) (cd := arrV (E κ) n (fun k => V κ k a)) (srcPos := sp) (destPos := dp) (n := x) (by rw [hT]; exact c1) (by rw [hT]; exact hc1)
    c4 (fun _ h => by cases h) c3 (fun h => by cases h) (by rw [c2]; exact hk0c) hk1c hkk0 hkk1 (by simp) h1 h2 h3
    (by rw [nn sp h1, nn x h3, c5]; omega)
    (by rw [nn dp h2, nn x h3, arrV_size]; omega)
    (fun vm₁ hal i hi => by
      refine ⟨by rw [hget i hi]; exact hfit i hi, ?_⟩
      rw [hget i hi]
      cases hv : V κ0 (sp.toNatClampNeg + i) a0 with
      | ref y =>
        obtain ⟨C0, κy, ny, q, hty, hgy, hκy, hqy, hca⟩ := hel i hi y hv
        obtain ⟨-, cv, g1, g2, g3, -⟩ := jcell_obj (hS.2 y κy ny hgy) hκy hqy
        obtain ⟨hfc, kC, hkC, -⟩ := (hK.1 κy _ hqy).2
        have hcomp := hcm1 C0 hty
        obtain ⟨kE, hkE, -⟩ := Vm.findClass_spec hcomp
        have hasg : s.vm.assignable (D.1 κy) cm1 = true := by
          rcases hca with h | h
          · rw [h] at hfc
            cases hfc.symm.trans hcomp
            exact va_asg _ _
          · obtain ⟨c0, t1, f1, f2, f3⟩ := Cond.castable_spec (hW _ h args)
            cases hfc.symm.trans f1
            cases hcomp.symm.trans f2
            exact f3
        obtain ⟨kC', hkC', -⟩ := hal.2.2 _ _ hkC
        obtain ⟨kE', hkE', -⟩ := hal.2.2 _ _ hkE
        refine ⟨cv, (show T.heap[y]? = some cv by rw [hT]; exact g1), (fun q h => by rw [g3] at h; cases h), ⟨kC', by rw [g2]; exact hkC'⟩, ⟨kE', hkE'⟩, ?_⟩
        show vm₁.assignable _ _ = true
        rw [hal.assignable, g2]
        exact hasg
      | _ => exact trivial)
    (g := F0 m pc ls (.int x :: .int dp :: .ref a :: .int sp :: .ref a0 :: rest)) rfl (by rw [hml]) (rest := rest) rfl (by rw [hb]; exact hd) hframes (by show 2 * 0 + _ + _ ≤ _; omega)
  have e1 : copied cs (arrV (E κ) n (fun k => V κ k a)) sp dp x = arrV (E κ) n (va_cpy (fun k => V κ0 k a0) (fun k => V κ k a) sp.toNatClampNeg dp.toNatClampNeg x.toNatClampNeg) := va_copiedX (fun z => z) cs (E κ) (fun k => V κ0 k a0) (fun k => V κ k a) c6 h4
  rw [e1] at X' step
  have hlt : a < H.size := (Array.getElem?_eq_some_iff.mp hc1).1
  generalize hcell : arrV (E κ) n (va_cpy (fun k => V κ0 k a0) (fun k => V κ k a) sp.toNatClampNeg dp.toNatClampNeg x.toNatClampNeg) = cell at X' step
  have hheap : ((T.setVm vm').setCell a cell).heap = H.setIfInBounds a cell := by rw [← hT]; rfl
  have oa : (H.setIfInBounds a cell)[a]? = some cell := by simp [Array.getElem?_setIfInBounds, hlt]
  have oq : ∀ q : Nat, q ≠ a → (H.setIfInBounds a cell)[q]? = H[q]? := fun q hq => by simp [Array.getElem?_setIfInBounds, Ne.symm hq]
  obtain ⟨t', a1, b1⟩ := kk _ _ (jSim_put hS hg (jcell_ofV hκ ⟨_, hk⟩ (by rw [hcell]; exact oa) (fun k => by rw [jput_ap, if_pos ⟨rfl, rfl⟩])) (by simp) oq (fun κ' k' b hb => by rw [jput_ap, if_neg (fun h => hb h.2)])) ⟨by simp; exact hS0.1, fun q g1 g2 => by
      rw [oq q (fun e => g2 (by rw [e]; exact hA))]
      exact hS0.2.1 q g1 g2, fun q hq => by
      rcases List.mem_append.mp hq with h | h
      · exact hS0.2.2 q h
      · obtain ⟨z, -, hz⟩ := List.mem_map.mp h
        rw [← hz]
        exact hA⟩ _ hheap X'
  exact ⟨t', step t' a1, b1⟩
end JM
end
section
-- ===== one step =====
/-- memory: an instruction that reads or writes cells; its length, the new stack, the new memory -/
def jmem (sv : Nat → Value) (μ pc : Nat) (i : ClassFile.Instr) (st : List Value) (M : jM) : Option (Nat × List Value × jM) := match i, st with
  | .getfield idx, .ref a :: r => match jfl (jow μ) idx, M.2.2.1 a with
    | some (κ, k), some (κ', _) => if κ' = κ then some (3, M.2.2.2 κ k a :: r, M) else none
    | _, _ => none
  | .putfield idx, v :: .ref a :: r => match jfl (jow μ) idx, M.2.2.1 a with
    | some (κ, k), some (κ', _) => if κ' = κ ∧ jpf μ κ k = true ∧ jfits (jty κ k) v = true then some (3, r, M.1, M.2.1, M.2.2.1, jset M.2.2.2 κ k a v) else none
    | _, _ => none
  | .new idx, st => match jnw (jow μ) idx with
    | some (κ, N, w) => some (3, .ref M.1 :: st, M.1 + 1, M.2.1 + w, jgset M.2.2.1 M.1 (κ, N), jput M.2.2.2 κ M.1 (fun k => defaultValue (jty κ k)))
    | none => none
  | .newarray aty, .int x :: r => match jna μ pc aty with
    | some κ => if ¬ x < 0 ∧ x.toNatClampNeg ≤ 1000000 then some (2, .ref M.1 :: r, M.1 + 1, M.2.1 + x.toNatClampNeg, jgset M.2.2.1 M.1 (κ, x.toNatClampNeg), jput M.2.2.2 κ M.1 (fun _ => defaultValue (newarray.typeOf aty))) else none
    | none => none
  | .anewarray idx, .int x :: r => match janw (jow μ) idx with
    | some κ => if ¬ x < 0 ∧ x.toNatClampNeg ≤ 1000000 then some (3, .ref M.1 :: r, M.1 + 1, M.2.1 + x.toNatClampNeg, jgset M.2.2.1 M.1 (κ, x.toNatClampNeg), jput M.2.2.2 κ M.1 (fun _ => .null)) else none
    | none => none
  | .arraylength, .ref a :: r => match M.2.2.1 a with
    | some (κ, n) => if 50 ≤ κ then some (1, .int (Int32.ofNat n) :: r, M) else none
    | none => none
  | .iaload, .int j :: .ref a :: r => match M.2.2.1 a with
    | some (κ, n) => if jkt κ = some .int ∧ jin j n = true then some (1, M.2.2.2 κ j.toNatClampNeg a :: r, M) else none
    | none => none
  | .laload, .int j :: .ref a :: r => match M.2.2.1 a with
    | some (κ, n) => if jkt κ = some .long ∧ jin j n = true then some (1, M.2.2.2 κ j.toNatClampNeg a :: r, M) else none
    | none => none
  | .baload, .int j :: .ref a :: r => match M.2.2.1 a with
    | some (κ, n) => if jkt κ = some .boolean ∧ jin j n = true then some (1, M.2.2.2 κ j.toNatClampNeg a :: r, M) else none
    | none => none
  | .aaload, .int j :: .ref a :: r => match M.2.2.1 a with
    | some (κ, n) => if jkr κ = true ∧ jin j n = true then some (1, M.2.2.2 κ j.toNatClampNeg a :: r, M) else none
    | none => none
  | .iastore, .int x :: .int j :: .ref a :: r => match M.2.2.1 a with
    | some (κ, n) => if (κ < 90 ∧ jkt κ = some .int) ∧ jin j n = true then some (1, r, M.1, M.2.1, M.2.2.1, jset M.2.2.2 κ j.toNatClampNeg a (.int x)) else none
    | none => none
  | .lastore, .long x :: .int j :: .ref a :: r => match M.2.2.1 a with
    | some (κ, n) => if (κ < 90 ∧ jkt κ = some .long) ∧ jin j n = true then some (1, r, M.1, M.2.1, M.2.2.1, jset M.2.2.2 κ j.toNatClampNeg a (.long x)) else none
    | none => none
  | .bastore, .int x :: .int j :: .ref a :: r => match M.2.2.1 a with
    | some (κ, n) => if (κ < 90 ∧ jkt κ = some .boolean) ∧ jfits .boolean (.int x) = true ∧ jin j n = true then some (1, r, M.1, M.2.1, M.2.2.1, jset M.2.2.2 κ j.toNatClampNeg a (.int x)) else none
    | none => none
  | .aastore, .ref v :: .int j :: .ref a :: r => match M.2.2.1 a, M.2.2.1 v with
    | some (κ, n), some (κv, _) => if 50 ≤ κ ∧ κ < 90 ∧ jca κ κv = true ∧ jin j n = true then some (1, r, M.1, M.2.1, M.2.2.1, jset M.2.2.2 κ j.toNatClampNeg a (.ref v)) else none
    | _, _ => none
  | .aastore, .null :: .int j :: .ref a :: r => match M.2.2.1 a with
    | some (κ, n) => if κ < 90 ∧ jkr κ = true ∧ jin j n = true then some (1, r, M.1, M.2.1, M.2.2.1, jset M.2.2.2 κ j.toNatClampNeg a .null) else none
    | none => none
  | .getstatic idx, st => match jsg (jow μ) idx with
    | some k => some (3, sv k :: st, M)
    | none => none
  | .ldc idx, st => match jldc (jow μ) idx with
    | some (.inl x) => some (2, .int x :: st, M)
    | some (.inr k) => some (2, sv k :: st, M)
    | none => none
  | .ldc2_w idx, st => match jldl (jow μ) idx with
    | some x => some (3, .long x :: st, M)
    | none => none
  | .checkcast _, .null :: r => some (3, .null :: r, M)
  | .checkcast idx, .ref a :: r => match M.2.2.1 a with
    | some (κ, _) => if jck (jow μ) idx κ = true then some (3, .ref a :: r, M) else none
    | none => none
  | _, _ => none
/-- what a copied element must be -/
def jel (ty : FieldType) (κ : Nat) (g : jG) (v : Value) : Bool := fits ty v && match v with
  | .ref y => match g y with
    | some (κy, _) => jca κ κy
    | none => false
  | _ => true
def jcat (st : List Value) : Nat := (st.map fun v => v.category).sum
/-- natives: Object's constructor, arraycopy, getClass -/
def jnatv (sv : Nat → Value) (μ : Nat) (i : ClassFile.Instr) (st : List Value) (M : jM) : Option (List Value × jM) := match i, st with
  | .invokespecial idx, .ref _ :: r => if jnt (jow μ) idx = some 0 ∧ jcat r ≤ 8 then some (r, M) else none
  | .invokestatic idx, .int x :: .int dp :: .ref a :: .int sp :: .ref a0 :: r => if jnt (jow μ) idx = some 1 ∧ jcat r ≤ 8 then match M.2.2.1 a0, M.2.2.1 a with
    | some (κ0, n0), some (κ, n) => match jkt κ with
      | some ty => if (50 ≤ κ0 ∧ 50 ≤ κ ∧ κ < 90 ∧ jkt κ0 = some ty) ∧ (¬ sp < 0 ∧ ¬ dp < 0 ∧ ¬ x < 0) ∧ (sp.toNatClampNeg + x.toNatClampNeg ≤ n0 ∧ dp.toNatClampNeg + x.toNatClampNeg ≤ n) ∧ ∀ i, i < x.toNatClampNeg → jel ty κ M.2.2.1 (M.2.2.2 κ0 (sp.toNatClampNeg + i) a0) = true
        then some (r, M.1, M.2.1, M.2.2.1, jput M.2.2.2 κ a (va_cpy (fun k => M.2.2.2 κ0 k a0) (fun k => M.2.2.2 κ k a) sp.toNatClampNeg dp.toNatClampNeg x.toNatClampNeg)) else none
      | none => none
    | _, _ => none
    else none
  | .invokestatic idx, .int y :: .int x :: r => if jcat r ≤ 8 then match jnt (jow μ) idx with
    | some 3 => some (.int (if x < y then y else x) :: r, M)
    | some 4 => some (.int (if y < x then y else x) :: r, M)
    | _ => none
    else none
  | .invokevirtual idx, .ref a :: r => if jnt (jow μ) idx = some 2 ∧ jcat r ≤ 8 then match M.2.2.1 a with
    | some (κ, _) => match jmi κ with
      | some k => some (sv k :: r, M)
      | none => none
    | none => none
    else none
  | _, _ => none
/-- calls: the callee's first frame, and the frame behind the call without the answer -/
def jcall (μ pc : Nat) (L : jL) (i : ClassFile.Instr) (st : List Value) (M : jM) : Option (jF × jF) := match i with
  | .invokevirtual idx => match jmt (jow μ) idx with
    | some (0, μ', n, κ) => match st.drop n with
      | .ref b :: r => if (M.2.2.1 b).map Prod.fst = some κ ∧ jcat r ≤ 8 ∧ n ≤ st.length ∧ (jarg (.ref b :: (st.take n).reverse)).length ≤ jmaxl μ' then some ((μ', 0, jent (jmaxl μ') (.ref b :: (st.take n).reverse), []), (μ, pc + 3, L, r)) else none
      | _ => none
    | _ => none
  | .invokespecial idx => match jmt (jow μ) idx with
    | some (1, μ', n, _) => match st.drop n with
      | .ref b :: r => if jcat r ≤ 8 ∧ n ≤ st.length ∧ (jarg (.ref b :: (st.take n).reverse)).length ≤ jmaxl μ' then some ((μ', 0, jent (jmaxl μ') (.ref b :: (st.take n).reverse), []), (μ, pc + 3, L, r)) else none
      | _ => none
    | _ => none
  | .invokestatic idx => match jmt (jow μ) idx with
    | some (2, μ', n, _) => if jcat (st.drop n) ≤ 8 ∧ n ≤ st.length ∧ (jarg (st.take n).reverse).length ≤ jmaxl μ' then some ((μ', 0, jent (jmaxl μ') (st.take n).reverse, []), (μ, pc + 3, L, st.drop n)) else none
    | _ => none
  | _ => none
def jrt (μ : Nat) (i : ClassFile.Instr) (st : List Value) : Option (Option Value) := match i, st with
  | .ireturn, [.int v] => if jret μ = some .int ∨ (jret μ = some .boolean ∧ jfits .boolean (.int v) = true) then some (some (.int v)) else none
  | .lreturn, [.long v] => if jret μ = some .long then some (some (.long v)) else none
  | .areturn, [.ref a] => if (jret μ).any (·.isReference) = true then some (some (.ref a)) else none
  | .areturn, [.null] => if (jret μ).any (·.isReference) = true then some (some .null) else none
  | .return_, [] => if jret μ = none then some none else none
  | _, _ => none
/-- a step: goes on (0: with no call, 1: with one native call), returns, or calls -/
def jex (sv : Nat → Value) (μ pc : Nat) (L : jL) (st : List Value) (M : jM) (i : ClassFile.Instr) (len : Nat) : Option jS :=
  match jpure i L st with
  | some (n, L', st') => if n = len then some (.inl (0, (μ, pc + n, L', st'), M)) else none
  | none => match jbr i len pc st with
    | some (t, st') => some (.inl (0, (μ, t, L, st'), M))
    | none => match jmem sv μ pc i st M with
      | some (n, st', M') => if n = len then some (.inl (0, (μ, pc + n, L, st'), M')) else none
      | none => match jrt μ i st with
        | some r => if len = 1 then some (.inr (.inl r)) else none
        | none => if len = 3 then match jnatv sv μ i st M with
          | some (st', M') => some (.inl (1, (μ, pc + 3, L, st'), M'))
          | none => (jcall μ pc L i st M).map fun q => .inr (.inr q)
          else none
def jstep (sv : Nat → Value) (F : jF) (M : jM) : Option jS := match decode (jcode F.1) F.2.1 with
  | .ok (i, len) => jex sv F.1 F.2.1 F.2.2.1 F.2.2.2 M i len
  | .error _ => none
end
section
-- ===== running =====
/-- d: how deep calls may go; n: fuel -/
def jrun (sv : Nat → Value) : Nat → Nat → jF → jM → Option (Option Value × jM)
  | 0, _, _, _ => none
  | n + 1, d, F, M => match jstep sv F M with
    | none => none
    | some (.inl (b, F', M')) => if b ≤ d then jrun sv n d F' M' else none
    | some (.inr (.inl r)) => some (r, M)
    | some (.inr (.inr (Fe, Fr))) => match d with
      | 0 => none
      | d' + 1 => match jrun sv n d' Fe M with
        | none => none
        | some (r, M1) => jrun sv n (d' + 1) (Fr.1, Fr.2.1, Fr.2.2.1, r.toList ++ Fr.2.2.2) M1
theorem jrun_mono (sv : Nat → Value) : ∀ (n d : Nat) (F : jF) (M : jM) (x : Option Value × jM), jrun sv n d F M = some x → ∀ (n' d' : Nat), n ≤ n' → d ≤ d' → jrun sv n' d' F M = some x := by
  intro n
  induction n with
  | zero => intro d F M x h; simp [jrun] at h
  | succ n ih =>
    intro d F M x h n' d' hn hd
    obtain ⟨k, rfl⟩ : ∃ k, n' = k + 1 := ⟨n' - 1, by omega⟩
    rw [jrun] at h ⊢
    cases hs : jstep sv F M with
    | none => rw [hs] at h; cases h
    | some z =>
      rw [hs] at h
      rcases z with ⟨b, F', M'⟩ | r | ⟨Fe, Fr⟩
      · dsimp only at h ⊢
        split at h
        · rename_i hb
          rw [if_pos (Nat.le_trans hb hd)]
          exact ih d F' M' x h k d' (by omega) hd
        · cases h
      · exact h
      · cases d with
        | zero => cases h
        | succ d0 =>
          obtain ⟨d1, rfl⟩ : ∃ d1, d' = d1 + 1 := ⟨d' - 1, by omega⟩
          dsimp only at h ⊢
          cases h1 : jrun sv n d0 Fe M with
          | none => rw [h1] at h; cases h
          | some y =>
            obtain ⟨r, M1⟩ := y
            rw [h1] at h
            rw [ih d0 Fe M (r, M1) h1 k d1 (by omega) (by omega)]
            exact ih (d0 + 1) _ M1 x h k (d1 + 1) (by omega) (by omega)
def Ev (sv : Nat → Value) (d : Nat) (F : jF) (M : jM) (Q : Option Value → jM → Prop) : Prop := ∃ n r M', jrun sv n d F M = some (r, M') ∧ Q r M'
theorem Ev.mono {sv : Nat → Value} {d d' : Nat} {F : jF} {M : jM} {Q Q' : Option Value → jM → Prop} (h : Ev sv d F M Q) (hd : d ≤ d') (hQ : ∀ r M', Q r M' → Q' r M') : Ev sv d' F M Q' := by
  obtain ⟨n, r, M', h1, h2⟩ := h
  exact ⟨n, r, M', jrun_mono sv n d F M _ h1 n d' (Nat.le_refl n) hd, hQ r M' h2⟩
theorem Ev_next {sv : Nat → Value} {d b : Nat} {F F' : jF} {M M' : jM} {Q : Option Value → jM → Prop} (h : jstep sv F M = some (.inl (b, F', M'))) (hb : b ≤ d) : Ev sv d F M Q ↔ Ev sv d F' M' Q := by
  constructor
  · rintro ⟨n, r, M2, h1, h2⟩
    cases n with
    | zero => simp [jrun] at h1
    | succ n =>
      rw [jrun, h] at h1
      dsimp only at h1
      rw [if_pos hb] at h1
      exact ⟨n, r, M2, h1, h2⟩
  · rintro ⟨n, r, M2, h1, h2⟩
    exact ⟨n + 1, r, M2, by rw [jrun, h]; dsimp only; rw [if_pos hb]; exact h1, h2⟩
theorem Ev_ret {sv : Nat → Value} {d : Nat} {F : jF} {M : jM} {r : Option Value} {Q : Option Value → jM → Prop} (h : jstep sv F M = some (.inr (.inl r))) : Ev sv d F M Q ↔ Q r M := by
  constructor
  · rintro ⟨n, r', M2, h1, h2⟩
    cases n with
    | zero => simp [jrun] at h1
    | succ n =>
      rw [jrun, h] at h1
      cases h1
      exact h2
  · intro hq
    exact ⟨1, r, M, by rw [jrun, h], hq⟩
theorem Ev_call {sv : Nat → Value} {d : Nat} {F Fe Fr : jF} {M : jM} {Q : Option Value → jM → Prop} (h : jstep sv F M = some (.inr (.inr (Fe, Fr)))) : Ev sv (d + 1) F M Q ↔ Ev sv d Fe M (fun r M1 => Ev sv (d + 1) (Fr.1, Fr.2.1, Fr.2.2.1, r.toList ++ Fr.2.2.2) M1 Q) := by
  constructor
  · rintro ⟨n, r, M2, h1, h2⟩
    cases n with
    | zero => simp [jrun] at h1
    | succ n =>
      rw [jrun, h] at h1
      dsimp only at h1
      cases h3 : jrun sv n d Fe M with
      | none => rw [h3] at h1; cases h1
      | some y =>
        obtain ⟨r1, M1⟩ := y
        rw [h3] at h1
        exact ⟨n, r1, M1, h3, n, r, M2, h1, h2⟩
  · rintro ⟨n, r1, M1, h1, n2, r, M2, h2, h3⟩
    refine ⟨max n n2 + 1, r, M2, ?_, h3⟩
    rw [jrun, h]
    dsimp only
    rw [jrun_mono sv n d Fe M _ h1 (max n n2) d (by omega) (Nat.le_refl d)]
    exact jrun_mono sv n2 (d + 1) _ M1 _ h2 (max n n2) (d + 1) (by omega) (Nat.le_refl _)
-- ===== memory only grows =====
def jle (M M' : jM) : Prop := M.1 ≤ M'.1 ∧ M.2.1 ≤ M'.2.1 ∧ ∀ a, a < M.1 → M'.2.2.1 a = M.2.2.1 a
theorem jle_rf (M : jM) : jle M M := ⟨Nat.le_refl _, Nat.le_refl _, fun _ _ => rfl⟩
theorem jle.tr {M M' M'' : jM} (h : jle M M') (h' : jle M' M'') : jle M M'' := ⟨Nat.le_trans h.1 h'.1, Nat.le_trans h.2.1 h'.2.1, fun a ha => (h'.2.2 a (Nat.lt_of_lt_of_le ha h.1)).trans (h.2.2 a ha)⟩
theorem jle_new {t u w : Nat} {g : jG} {V V' : jV} {x : Nat × Nat} : jle (t, u, g, V) (t + 1, u + w, jgset g t x, V') := ⟨Nat.le_succ _, Nat.le_add_right _ _, fun a ha => by show jgset g t x a = g a; rw [jgset_ap, if_neg (Nat.ne_of_lt ha)]⟩
theorem jle_V {t u : Nat} {g : jG} {V V' : jV} : jle (t, u, g, V) (t, u, g, V') := ⟨Nat.le_refl _, Nat.le_refl _, fun _ _ => rfl⟩
theorem jA_mono {M M' : jM} (h : jle M M') {q : Nat} (hq : jA M' q) : jA M q := by
  by_cases hlt : q < M.1
  · rcases hq with ⟨κ, n, h1, h2⟩ | h1
    · exact Or.inl ⟨κ, n, by rw [← h.2.2 q hlt]; exact h1, h2⟩
    · exact absurd (Nat.le_trans h.1 h1) (Nat.not_le.mpr hlt)
  · exact Or.inr (Nat.not_lt.mp hlt)
set_option maxHeartbeats 4000000 in
theorem jmem_le {sv : Nat → Value} {μ pc len : Nat} {i : ClassFile.Instr} {st st' : List Value} {M M' : jM} (h : jmem sv μ pc i st M = some (len, st', M')) : jle M M' := by
  obtain ⟨t, u, g, V⟩ := M
  unfold jmem at h
  split at h
  all_goals (repeat' (first | (cases h; done) | (cases h; first | exact jle_rf _ | exact jle_new | exact jle_V) | (split at h)))
theorem jnatv_le {sv : Nat → Value} {μ : Nat} {i : ClassFile.Instr} {st st' : List Value} {M M' : jM} (h : jnatv sv μ i st M = some (st', M')) : jle M M' := by
  obtain ⟨t, u, g, V⟩ := M
  unfold jnatv at h
  split at h
  all_goals (repeat' (first | (cases h; done) | (cases h; first | exact jle_rf _ | exact jle_new | exact jle_V) | (split at h)))
theorem jnatv_eq {sv : Nat → Value} {μ : Nat} {i : ClassFile.Instr} {st st' : List Value} {M M' : jM} (h : jnatv sv μ i st M = some (st', M')) : M'.1 = M.1 ∧ M'.2.1 = M.2.1 := by
  obtain ⟨t, u, g, V⟩ := M
  unfold jnatv at h
  split at h
  all_goals (repeat' (first | (cases h; done) | (cases h; exact ⟨rfl, rfl⟩) | (split at h)))
theorem jcall_fr {μ pc : Nat} {L : jL} {i : ClassFile.Instr} {st : List Value} {M : jM} {Fe Fr : jF} (h : jcall μ pc L i st M = some (Fe, Fr)) : Fr.1 = μ ∧ Fr.2.2.1 = L := by
  unfold jcall at h
  split at h
  all_goals (repeat' (first | (cases h; done) | (cases h; exact ⟨rfl, rfl⟩) | (split at h)))
/-- what a step was -/
theorem jex_inv {sv : Nat → Value} {μ pc len : Nat} {L : jL} {st : List Value} {M : jM} {i : ClassFile.Instr} {z : jS} (h : jex sv μ pc L st M i len = some z) :
    (∃ L' st', jpure i L st = some (len, L', st') ∧ z = .inl (0, (μ, pc + len, L', st'), M)) ∨ (∃ t st', jbr i len pc st = some (t, st') ∧ z = .inl (0, (μ, t, L, st'), M)) ∨ (∃ st' M', jmem sv μ pc i st M = some (len, st', M') ∧ z = .inl (0, (μ, pc + len, L, st'), M')) ∨
    (∃ r, jrt μ i st = some r ∧ len = 1 ∧ z = .inr (.inl r)) ∨ (∃ st' M', len = 3 ∧ jnatv sv μ i st M = some (st', M') ∧ z = .inl (1, (μ, pc + 3, L, st'), M')) ∨ (∃ q, len = 3 ∧ jcall μ pc L i st M = some q ∧ z = .inr (.inr q)) := by
  unfold jex at h
  split at h
  · rename_i n L' st' h1
    split at h
    · rename_i hn
      subst hn
      cases h
      exact Or.inl ⟨L', st', h1, rfl⟩
    · cases h
  · split at h
    · rename_i t st' h1
      cases h
      exact Or.inr (Or.inl ⟨t, st', h1, rfl⟩)
    · split at h
      · rename_i n st' M' h1
        split at h
        · rename_i hn
          subst hn
          cases h
          exact Or.inr (Or.inr (Or.inl ⟨st', M', h1, rfl⟩))
        · cases h
      · split at h
        · rename_i r h1
          split at h
          · rename_i hn
            cases h
            exact Or.inr (Or.inr (Or.inr (Or.inl ⟨r, h1, hn, rfl⟩)))
          · cases h
        · split at h
          · rename_i hn
            split at h
            · rename_i st' M' h1
              cases h
              exact Or.inr (Or.inr (Or.inr (Or.inr (Or.inl ⟨st', M', hn, h1, rfl⟩))))
            · obtain ⟨q, h1, h2⟩ := Option.map_eq_some_iff.mp h
              exact Or.inr (Or.inr (Or.inr (Or.inr (Or.inr ⟨q, hn, h1, h2.symm⟩))))
          · cases h
theorem jrun_le (sv : Nat → Value) : ∀ (n d : Nat) (F : jF) (M : jM) (r : Option Value) (M' : jM), jrun sv n d F M = some (r, M') → jle M M' := by
  intro n
  induction n with
  | zero => intro d F M r M' h; simp [jrun] at h
  | succ n ih =>
    intro d F M r M' h
    rw [jrun] at h
    cases hs : jstep sv F M with
    | none => rw [hs] at h; cases h
    | some z =>
      rw [hs] at h
      unfold jstep at hs
      split at hs
      · rename_i i len hd
        rcases jex_inv hs with ⟨L', st', h1, rfl⟩ | ⟨t, st', h1, rfl⟩ | ⟨st', M1, h1, rfl⟩ | ⟨r1, h1, h2, rfl⟩ | ⟨st', M1, h2, h1, rfl⟩ | ⟨⟨Fe, Fr⟩, h2, h1, rfl⟩
        · dsimp only at h
          rw [if_pos (Nat.zero_le d)] at h
          exact ih _ _ _ _ _ h
        · dsimp only at h
          rw [if_pos (Nat.zero_le d)] at h
          exact ih _ _ _ _ _ h
        · dsimp only at h
          rw [if_pos (Nat.zero_le d)] at h
          exact (jmem_le h1).tr (ih _ _ _ _ _ h)
        · cases h
          exact jle_rf _
        · dsimp only at h
          split at h
          · exact (jnatv_le h1).tr (ih _ _ _ _ _ h)
          · cases h
        · cases d with
          | zero => cases h
          | succ d0 =>
            dsimp only at h
            cases h3 : jrun sv n d0 Fe M with
            | none => rw [h3] at h; cases h
            | some y =>
              obtain ⟨r1, M1⟩ := y
              rw [h3] at h
              exact (ih _ _ _ _ _ h3).tr (ih _ _ _ _ _ h)
      · cases hs
/-- any run, with the memory grown -/
theorem Ev.le {sv : Nat → Value} {d : Nat} {F : jF} {M : jM} {Q : Option Value → jM → Prop} (h : Ev sv d F M Q) : Ev sv d F M (fun r M' => Q r M' ∧ jle M M') := by
  obtain ⟨n, r, M', h1, h2⟩ := h
  exact ⟨n, r, M', h1, h2, jrun_le sv n d F M r M' h1⟩
end
section
-- ===== soundness =====
def jZs (sv : Nat → Value) (A : Nat → Prop) (s : State) : Prop := ∀ (k : Nat) (C n d : String), jst k = some (C, n, d) → va_Z C n d (sv k) A s s.heap
def jMs (sv : Nat → Value) (s : State) : Prop := ∀ (k : Nat) (C : String), jmir k = some C → ∃ mi : Nat, sv k = .ref mi ∧ va_Mi C mi s
/-- the state's own: its tables' words, classes, statics, mirrors -/
def jU (sv : Nat → Value) (D : va_G) (E : Nat → ClassId) (A : Nat → Prop) (s : State) : Prop := jW s ∧ jK D E s ∧ jZs sv A s ∧ jMs sv s
def jCx (sv : Nat → Value) (D : va_G) (E : Nat → ClassId) (A : Nat → Prop) (p : Program) (s : State) (m : MethodId) (meth : Method) (c : Code) (μ : Nat) : Prop :=
  p.tables.exec = Jvm.exec ∧ c.code = jcode μ ∧ c.maxLocals = jmaxl μ ∧ s.vm.findClass (jy μ).cls = some m.cls ∧ meth.name = (jy μ).name ∧ meth.sig.returnType = jret μ ∧ meth.locks = false ∧ jU sv D E A s
theorem jMs_moved {sv : Nat → Value} {u U : State} (hvm : u.vm.Alike U.vm) (h : jMs sv u) : jMs sv U := fun k C hk => by
  obtain ⟨mi, h1, h2⟩ := h k C hk
  exact ⟨mi, h1, h2.moved hvm⟩
/-- the same of a later state, seen from a callee -/
theorem jU_call {sv : Nat → Value} {D : va_G} {E : Nat → ClassId} {A B : Nat → Prop} {s U : State} {H : Heap} {locs : List Loc} (h : jU sv D E A s) (hW : s.WarmedH U.vm) (hH : U.heap = H) (hS : va_S A s.heap H locs) (hAB : ∀ q, B q → A q) : jU sv D E B U := by
  obtain ⟨h1, h2, h3, h4⟩ := h
  refine ⟨jW_warm hW h1, jK_moved hW.alike h2, fun k C n d hk => ?_, jMs_moved hW.alike h4⟩
  rw [hH]
  exact (((h3 k C n d hk).moved hW.alike).kept (fun a ha hA => hS.2.1 a ha hA)).narrow hAB
/-- a contract's start and end -/
def jP (sv : Nat → Value) (D : va_G) (E : Nat → ClassId) (M : jM) (As : List Value) : Array Value → State → Prop := fun a U => a = As.toArray ∧ jSim D E U.heap M ∧ jU sv D E (jA M) U
def jQ (D : va_G) (E : Nat → ClassId) (M M1 : jM) (r : Option Value) : Array Value → State → Outcome → State → Prop := fun _ st o t => o = .returned r ∧ jSim D E t.heap M1 ∧ st.heap.size ≤ t.heap.size ∧ ∀ q : Nat, q < st.heap.size → ¬ jA M q → t.heap[q]? = st.heap[q]?
theorem jP_blind {sv : Nat → Value} {D : va_G} {E : Nat → ClassId} {M : jM} {As : List Value} : FrameBlind (jP sv D E M As) := by
  intro a U g mk h
  obtain ⟨h1, h2, h3⟩ := h
  exact ⟨h1, h2, jU_call (U := U.calling g mk a) h3 (State.WarmedH.refl U) rfl va_S.rf (fun _ h => h)⟩
section JS
variable {p : Program} {l : Launch} {e : Env} {R : Room} {s : State} {m : MethodId} {args : Array Value} {below : List Frame} {meth : Method} {c : Code} {H : Heap} {locs : List Loc} {cells slots : Nat} {Q : State → Prop}
variable {pc len μ : Nat} {ls : Array Slot} {st st' : List Value} {D : va_G} {E : Nat → ClassId} {A : Nat → Prop} {sv : Nat → Value} {i : ClassFile.Instr} {M M' : jM}
theorem jA_of {t u : Nat} {g : jG} {V : jV} {a κ n : Nat} (hA : ∀ q, jA (t, u, g, V) q → A q) (h : g a = some (κ, n)) (hκ : κ < 90) : A a := hA a (Or.inl ⟨κ, n, h, hκ⟩)
set_option maxHeartbeats 4000000 in
theorem jmem_sound (hC : jCx sv D E A p s m meth c μ) (hd : decode (jcode μ) pc = .ok (i, len)) (h : jmem sv μ pc i st M = some (len, st', M')) (hS : jSim D E H M) (hS0 : va_S A s.heap H locs) (hA : ∀ q, jA M q → A q) (hcells : cells + (M'.1 - M.1) ≤ R.cells) (hslots : slots + (M'.2.1 - M.2.1) ≤ R.slots)
    (kk : ∀ (H1 : Heap) (locs1 : List Loc), jSim D E H1 M' → va_S A s.heap H1 locs1 → W p l e R s m args below meth c H1 locs1 (cells + (M'.1 - M.1)) (slots + (M'.2.1 - M.2.1)) Q (F0 m (pc + len) ls st')) : W p l e R s m args below meth c H locs cells slots Q (F0 m pc ls st) := by
  obtain ⟨hx, hb, hml, hown, hnm, hret, hlk, hW, hK, hZ, hMi⟩ := hC
  obtain ⟨t, u, g, V⟩ := M
  have k0 : ∀ {st2 : List Value} {n : Nat}, len = n → st' = st2 → M' = (t, u, g, V) → W p l e R s m args below meth c H locs cells slots Q (F0 m (pc + n) ls st2) := by
    intro st2 n e1 e2 e3
    subst e1 e2 e3
    have := kk H locs hS hS0
    simpa using this
  have k1 : ∀ {V' : jV} {st2 : List Value} {n : Nat}, len = n → st' = st2 → M' = (t, u, g, V') → ∀ (H1 : Heap) (locs1 : List Loc), jSim D E H1 (t, u, g, V') → va_S A s.heap H1 locs1 → W p l e R s m args below meth c H1 locs1 cells slots Q (F0 m (pc + n) ls st2) := by
    intro V' st2 n e1 e2 e3 H1 locs1 r1 r2
    subst e1 e2 e3
    have := kk H1 locs1 r1 r2
    simpa using this
  have k2 : ∀ {g' : jG} {V' : jV} {st2 : List Value} {n w : Nat}, len = n → st' = st2 → M' = (t + 1, u + w, g', V') → (cells + 1 ≤ R.cells ∧ slots + w ≤ R.slots) ∧ ∀ H1 : Heap, jSim D E H1 (t + 1, u + w, g', V') → va_S A s.heap H1 locs → W p l e R s m args below meth c H1 locs (cells + 1) (slots + w) Q (F0 m (pc + n) ls st2) := by
    intro g' V' st2 n w e1 e2 e3
    subst e1 e2 e3
    have e4 : t + 1 - t = 1 := by omega
    have e5 : u + w - u = w := by omega
    dsimp only at hcells hslots kk
    rw [e4] at hcells
    rw [e5] at hslots
    refine ⟨⟨hcells, hslots⟩, fun H1 r1 r2 => ?_⟩
    have := kk H1 locs r1 r2
    rw [e4, e5] at this
    exact this
  unfold jmem at h
  dsimp only at h
  split at h
  · -- getfield
    split at h
    · rename_i κ k κ' n h1 h2
      split at h
      · rename_i hκ
        subst hκ
        cases h
        obtain ⟨C, T, N, hc, hκ, hk, hL⟩ := jfl_ok h1
        exact jget_sound hx hb hW hK hown hc hk hL hS h2 hκ hd (k0 rfl rfl rfl)
      · cases h
    · cases h
  · -- putfield
    split at h
    · rename_i κ k κ' n h1 h2
      split at h
      · rename_i hκ
        obtain ⟨hκ, hpf, hfit⟩ := hκ
        subst hκ
        cases h
        obtain ⟨C, T, N, hc, hκ, hk, hL⟩ := jfl_ok h1
        have hf : (T k).2.2.2 = false ∨ (meth.name = "<init>" ∧ (T k).1 = (jy μ).cls) := by
          rcases jpf_ok hpf hc with h | ⟨h3, h4⟩
          · exact Or.inl h
          · exact Or.inr ⟨by rw [hnm]; exact h3, h4⟩
        exact jput_sound hx hb hW hK hown hc hk hL hf hfit hS hS0 (jA_of hA h2 (by omega)) h2 hκ hd (k1 rfl rfl rfl)
      · cases h
    · cases h
  · -- new
    split at h
    · rename_i κ N w h1
      cases h
      obtain ⟨C, T, hc, hκ, w1, w2, w3⟩ := jnw_ok h1
      obtain ⟨⟨c1, c2⟩, k3⟩ := k2 rfl rfl rfl
      exact jnew_sound hx hb hW hK hown hc hκ w1 w2 w3 hS hS0 c1 c2 hd k3
    · cases h
  · -- newarray
    split at h
    · rename_i κ h1
      split at h
      · rename_i hx0
        cases h
        obtain ⟨w1, w2, w3, w4, w5⟩ := jna_ok h1
        obtain ⟨⟨c1, c2⟩, k3⟩ := k2 rfl rfl rfl
        exact jnewa_sound hx hb hW hK w1 w2 w3 w4 hS hS0 hx0.1 (Nat.le_trans (Nat.mul_le_mul hx0.2 w5) (by decide)) c1 c2 hd k3
      · cases h
    · cases h
  · -- anewarray
    split at h
    · rename_i κ h1
      split at h
      · rename_i hx0
        cases h
        obtain ⟨C0, w1, w2, w3, w4, w5⟩ := janw_ok h1
        obtain ⟨⟨c1, c2⟩, k3⟩ := k2 rfl rfl rfl
        exact janew_sound hx hb hW hK hown w1 w2 w3 w4 w5 hS hS0 hx0.1 (Nat.le_trans (Nat.mul_le_mul hx0.2 (Nat.le_refl 4)) (by decide)) c1 c2 hd k3
      · cases h
    · cases h
  · -- arraylength
    split at h
    · rename_i κ n h2
      split at h
      · rename_i hκ
        cases h
        exact jlen_sound hx hb hK hS h2 hκ hd (k0 rfl rfl rfl)
      · cases h
    · cases h
  · -- iaload
    split at h
    · rename_i κ n h2
      split at h
      · rename_i hκ
        cases h
        have hty := hκ.1
        have hκ5 : 50 ≤ κ := jkt_50 hty
        exact jald_sound hx hb hK hS h2 hκ5 hκ.2 hd (Or.inl ⟨hty, rfl⟩) (k0 rfl rfl rfl)
      · cases h
    · cases h
  · -- laload
    split at h
    · rename_i κ n h2
      split at h
      · rename_i hκ
        cases h
        have hty := hκ.1
        have hκ5 : 50 ≤ κ := jkt_50 hty
        exact jald_sound hx hb hK hS h2 hκ5 hκ.2 hd (Or.inr (Or.inl ⟨hty, rfl⟩)) (k0 rfl rfl rfl)
      · cases h
    · cases h
  · -- baload
    split at h
    · rename_i κ n h2
      split at h
      · rename_i hκ
        cases h
        have hty := hκ.1
        have hκ5 : 50 ≤ κ := jkt_50 hty
        exact jald_sound hx hb hK hS h2 hκ5 hκ.2 hd (Or.inr (Or.inr (Or.inl ⟨hty, rfl⟩))) (k0 rfl rfl rfl)
      · cases h
    · cases h
  · -- aaload
    split at h
    · rename_i κ n h2
      split at h
      · rename_i hκ
        cases h
        have hκ5 : 50 ≤ κ := jkr_50 hκ.1
        have hty := jkr_ok hκ.1
        exact jald_sound hx hb hK hS h2 hκ5 hκ.2 hd (Or.inr (Or.inr (Or.inr ⟨_, hty, rfl, rfl⟩))) (k0 rfl rfl rfl)
      · cases h
    · cases h
  · -- iastore
    split at h
    · rename_i κ n h2
      split at h
      · rename_i hκ
        cases h
        obtain ⟨hκ9, hty⟩ := hκ.1
        have hκ5 : 50 ≤ κ := jkt_50 hty
        exact jiast_sound hx hb hK hS hS0 (jA_of hA h2 hκ9) h2 hκ5 hκ9 hty hκ.2 hd (k1 rfl rfl rfl)
      · cases h
    · cases h
  · -- lastore
    split at h
    · rename_i κ n h2
      split at h
      · rename_i hκ
        cases h
        obtain ⟨hκ9, hty⟩ := hκ.1
        have hκ5 : 50 ≤ κ := jkt_50 hty
        exact jlast_sound hx hb hK hS hS0 (jA_of hA h2 hκ9) h2 hκ5 hκ9 hty hκ.2 hd (k1 rfl rfl rfl)
      · cases h
    · cases h
  · -- bastore
    split at h
    · rename_i κ n h2
      split at h
      · rename_i hκ
        cases h
        obtain ⟨hκ9, hty⟩ := hκ.1
        have hκ5 : 50 ≤ κ := jkt_50 hty
        exact jzast_sound hx hb hK hS hS0 (jA_of hA h2 hκ9) h2 hκ5 hκ9 hty hκ.2.1 hκ.2.2 hd (k1 rfl rfl rfl)
      · cases h
    · cases h
  · -- aastore
    split at h
    · rename_i κ n κv nv h2 h3
      split at h
      · rename_i hκ
        cases h
        obtain ⟨C0, q, w1, w2, w3, w4⟩ := jca_ok hκ.2.2.1
        exact jaast_sound hx hb hW hK hS hS0 (jA_of hA h2 hκ.2.1) h2 hκ.1 hκ.2.1 w1 h3 w2 w3 w4 hκ.2.2.2 hd (k1 rfl rfl rfl)
      · cases h
    · cases h
  · -- aastore null
    split at h
    · rename_i κ n h2
      split at h
      · rename_i hκ
        cases h
        have hκ5 : 50 ≤ κ := jkr_50 hκ.2.1
        have hty := jkr_ok hκ.2.1
        exact jaastN_sound hx hb hK hS hS0 (jA_of hA h2 hκ.1) h2 hκ5 hκ.1 hty hκ.2.2 hd (k1 rfl rfl rfl)
      · cases h
    · cases h
  · -- getstatic
    split at h
    · rename_i k h1
      cases h
      obtain ⟨C, n, d, w1, ref, w2, w3⟩ := jsg_ok h1
      have hZ1 := hZ _ _ _ _ w1
      have hsame : ∀ x, s.fieldFound? C n d = some x → s.fieldFound? ref n d = some x := by
        intro x hx
        rcases w3 with h | h
        · rw [h]; exact hx
        · exact u_same (hW _ h args) _ hx
      rcases w2 with w2 | ⟨host, w2⟩
      · exact va_gets hx hb hZ1 hS0 hown (hW _ w2 args) hsame hd (k0 rfl rfl rfl)
      · exact va_getsN hx hb hZ1 hS0 hown (hW _ w2 args) hsame hd (k0 rfl rfl rfl)
    · cases h
  · -- ldc
    split at h
    · rename_i x h1
      cases h
      exact W.ldc hx hb hown (hW _ (jldc_i h1) args) (g := F0 m pc ls _) rfl hd (k0 rfl rfl rfl)
    · rename_i k h1
      cases h
      obtain ⟨C, w1, w2⟩ := jldc_m h1
      obtain ⟨mi, e1, e2⟩ := hMi _ _ w1
      exact va_ldcM hx hb hown (hW _ w2 args) e2 hd (k0 rfl (by rw [e1]) rfl)
    · cases h
  · -- ldc2_w
    split at h
    · rename_i x h1
      cases h
      exact lv_ldc2 hx hb hown (hW _ (jldl_ok h1) args) hd (k0 rfl rfl rfl)
    · cases h
  · -- checkcast null
    cases h
    exact lv_castN hx hb hd (k0 rfl rfl rfl)
  · -- checkcast
    split at h
    · rename_i κ n h2
      split at h
      · rename_i hκ
        cases h
        rcases jck_ok hκ with ⟨w1, q, nm, w2, w3, w4⟩ | ⟨w1, w2, ty, w3, w4⟩
        · exact jcast_sound hx hb hW hK hown w2 w1 w3 w4 hS h2 hd (k0 rfl rfl rfl)
        · exact jcastA_sound hx hb hW hK hown w3 w1 w2 w4 hS h2 hd (k0 rfl rfl rfl)
      · cases h
    · cases h
  · cases h
set_option maxHeartbeats 4000000 in
theorem jnatv_sound (hC : jCx sv D E A p s m meth c μ) (hls : ls.size = jmaxl μ) (hd : decode (jcode μ) pc = .ok (i, 3)) (h : jnatv sv μ i st M = some (st', M')) (hS : jSim D E H M) (hS0 : va_S A s.heap H locs) (hA : ∀ q, jA M q → A q) (hfr : 1 ≤ R.frames) (hlo : 40 ≤ R.locals) (hce : cells ≤ R.cells) (hsl : slots ≤ R.slots)
    (kk : ∀ (H1 : Heap) (locs1 : List Loc), jSim D E H1 M' → va_S A s.heap H1 locs1 → W p l e R s m args below meth c H1 locs1 cells slots Q (F0 m (pc + 3) ls st')) : W p l e R s m args below meth c H locs cells slots Q (F0 m pc ls st) := by
  obtain ⟨hx, hb, hml, hown, hnm, hret, hlk, hW, hK, hZ, hMi⟩ := hC
  obtain ⟨t, u, g, V⟩ := M
  unfold jnatv at h
  dsimp only at h
  split at h
  · -- Object.<init>
    split at h
    · rename_i hj
      cases h
      obtain ⟨w1, w2, w3⟩ := jnt_ok0 hj.1
      have hr : (List.map (fun v => v.category) st').sum ≤ 8 := hj.2
      exact W.objInit hx hb hown (hW _ w1 args) (hW _ w2 args) (hW _ w3 args) (g := F0 m pc ls _) rfl (by rw [hml]; exact hls) rfl hd hfr (by show 2 * 0 + _ + 12 ≤ _; omega) (kk _ _ hS hS0)
    · cases h
  · -- arraycopy
    split at h
    · rename_i hj
      split at h
      · rename_i κ0 n0 κ n h1 h2
        split at h
        · rename_i ty hty
          split at h
          · rename_i hc
            obtain ⟨⟨c1, c2, c3, c4⟩, ⟨c5, c6, c7⟩, ⟨c8, c9⟩, c10⟩ := hc
            cases h
            obtain ⟨w1, w2, w3, w4⟩ := jnt_ok1 hj.1
            have hr : (List.map (fun v => v.category) st').sum ≤ 8 := hj.2
            have hfw : nativeFrameWords "java/lang/System" "arraycopy" 5 ≤ 20 := by decide
            refine jcopy_sound hx hb (by rw [hml]; exact hls.symm) hW hK hown w1 w2 w3 w4 hS hS0 (jA_of hA h2 c3) h1 c1 h2 c2 c3 c4 hty c5 c6 c7 c8 c9 (fun i hi => ?_) (fun i hi y hy => ?_) hfr (by omega) hd kk
            · have := c10 i hi
              unfold jel at this
              simp only [Bool.and_eq_true] at this
              exact this.1
            · have := c10 i hi
              unfold jel at this
              rw [hy] at this
              simp only [Bool.and_eq_true] at this
              have h3 := this.2
              split at h3
              · rename_i κy ny hgy
                obtain ⟨C0, q, v1, v2, v3, v4⟩ := jca_ok h3
                exact ⟨C0, κy, ny, q, Option.some.inj (hty.symm.trans v1), hgy, v2, v3, v4⟩
              · cases h3
          · cases h
        · cases h
      · cases h
    · cases h
  · -- max, min
    split at h
    · rename_i hj
      have hr : (List.map (fun v : Value => v.category) _).sum ≤ 8 := hj
      split at h
      · rename_i hn
        cases h
        obtain ⟨w1, w2, w3, w4⟩ := jnt_ok3 hn
        exact va_mmax hx hb (by rw [hml]; exact hls.symm) hown (hW _ w1 args) (hW _ w2 args) (hW _ w3 args) (hW _ w4 args) hfr (by omega) hce hsl hd (kk _ _ hS hS0)
      · rename_i hn
        cases h
        obtain ⟨w1, w2, w3, w4⟩ := jnt_ok4 hn
        exact va_mmin hx hb (by rw [hml]; exact hls.symm) hown (hW _ w1 args) (hW _ w2 args) (hW _ w3 args) (hW _ w4 args) hfr (by omega) hce hsl hd (kk _ _ hS hS0)
      · cases h
    · cases h
  · -- getClass
    rename_i idx a rr
    split at h
    · rename_i hj
      split at h
      · rename_i κ n h2
        split at h
        · rename_i k hk
          cases h
          obtain ⟨w1, w2, w3, w4⟩ := jnt_ok2 hj.1
          obtain ⟨C, v1, v2, v3⟩ := jmi_ok hk
          obtain ⟨mi, e1, e2⟩ := hMi _ _ v1
          have hr : (List.map (fun v : Value => v.category) _).sum ≤ 8 := hj.2
          have hrc : ∃ cell : Cell, H[a]? = some cell ∧ cell.vm.isStatics = false ∧ s.vm.findClass C = some cell.cls := by
            rcases v3 with ⟨x1, q, x2, x3⟩ | ⟨x1, x2, ty, x3, x4⟩
            · obtain ⟨-, cell, q1, q2, q3, -⟩ := jcell_obj (hS.2 _ κ n h2) x1 x2
              exact ⟨cell, q1, by rw [q3]; rfl, by rw [q2, ← x3]; exact (hK.1 κ _ x2).2.1⟩
            · obtain ⟨cell, q1, q2, q3, q4, -⟩ := jcell_arr (hS.2 _ κ n h2) x1
              refine ⟨cell, q1, ?_, by rw [q2, x4]; exact (hK.2 κ _ x3).2 x2⟩
              cases hv : cell.vm <;> first | rfl | exact absurd hv (q4 _)
          have kk2 := kk _ _ hS hS0
          rw [e1] at kk2
          exact va_getC hx hb (by rw [hml]; exact hls.symm) hown (hW _ w1 args) (hW _ w2 args) (hW _ v2 args) (hW _ w3 args) (hW _ w4 args) e2 hrc hfr (by omega) hd kk2
        · cases h
      · cases h
    · cases h
  · cases h
/-- behind a call -/
theorem jafter {M1 : jM} {r : Option Value} {a : Array Value} {mc ms : Nat} {rest : List Value} (hr : va_Run p l e R s m args below meth c H locs cells slots mc ms (F0 m pc ls st) rest (jQ D E M M1 r a) (jA M)) (hS0 : va_S A s.heap H locs) (hA : ∀ q, jA M q → A q)
    (kk : ∀ (H1 : Heap) (locs1 : List Loc), jSim D E H1 M1 → va_S A s.heap H1 locs1 → W p l e R s m args below meth c H1 locs1 (cells + mc) (slots + ms) Q (F0 m (pc + 3) ls (r.toList ++ rest))) : W p l e R s m args below meth c H locs cells slots Q (F0 m pc ls st) := by
  intro T hT X
  obtain ⟨v, st₀, t, T', L, h0, X', hL, e1, e2, ⟨hv, hs, hz, hk⟩, stp⟩ := hr T hT X
  cases hv
  rw [h0] at hz hk
  obtain ⟨t2, a1, b1⟩ := kk T'.heap (locs ++ L) (by rw [e1]; exact hs) ⟨Nat.le_trans hS0.1 (by rw [e1]; exact hz), fun q h1 h2 => by rw [e1, hk q (Nat.lt_of_lt_of_le h1 hS0.1) (fun z => h2 (hA q z))]; exact hS0.2.1 q h1 h2, fun q hq => by
      rcases List.mem_append.mp hq with h | h
      · exact hS0.2.2 q h
      · exact hA _ (hL q h)⟩ T' rfl X'
  exact ⟨t2, stp t2 a1, b1⟩
/-- how a method ends -/
def jend (μ pc : Nat) (r : Option Value) : Prop := ∃ (i : ClassFile.Instr) (st : List Value), decode (jcode μ) pc = .ok (i, 1) ∧ jrt μ i st = some r ∧ st = r.toList
theorem jrt_st {r : Option Value} (h : jrt μ i st = some r) : st = r.toList := by
  unfold jrt at h
  split at h
  all_goals (repeat' (first | (cases h; done) | (cases h; rfl) | (split at h)))
theorem jend_sound {M1 : jM} {r : Option Value} {ls' : Array Slot} (hC : jCx sv D E A p s m meth c μ) (he : jend μ pc r) (hS : jSim D E H M1) (hS0 : va_S (jA M) s.heap H locs) : W p l e R s m args below meth c H locs cells slots (MQ below (jQ D E M M1 r) args s cells slots (jA M)) (F0 m pc ls' r.toList) := by
  obtain ⟨hx, hb, hml, hown, hnm, hret, hlk, -⟩ := hC
  obtain ⟨i, st, hd, hr, rfl⟩ := he
  have hq : ∀ t : State, t.heap = H → s.WarmedH t.vm → jQ D E M M1 r args s (.returned r) t := fun t ht _ => ⟨rfl, by rw [ht]; exact hS, by rw [ht]; exact hS0.1, fun q h1 h2 => by rw [ht]; exact hS0.2.1 q h1 h2⟩
  generalize hst : r.toList = st at hr
  unfold jrt at hr
  split at hr
  · rename_i v
    split at hr
    · rename_i hc
      cases hr
      rcases hc with hc | ⟨hc, hf⟩
      · exact W.iret hx hb (hret.trans hc) hq hS0.2.2 hd
      · exact W.zret hx hb (hret.trans hc) (jfits_ok hf).1 hq hS0.2.2 hd
    · cases hr
  · split at hr
    · rename_i hc
      cases hr
      exact W.lret hx hb (hret.trans hc) hq hS0.2.2 hd
    · cases hr
  · split at hr
    · rename_i hc
      cases hr
      cases hrr : jret μ with
      | none => rw [hrr] at hc; cases hc
      | some ty =>
        rw [hrr] at hc
        have hrt : (∃ n, ty = .object n) ∨ ∃ t, ty = .array t := by
          cases ty <;> first | exact Or.inl ⟨_, rfl⟩ | exact Or.inr ⟨_, rfl⟩ | cases hc
        exact W.aret hx hb (hret.trans hrr) hrt (Or.inr ⟨_, rfl⟩) hq hS0.2.2 hd
    · cases hr
  · split at hr
    · rename_i hc
      cases hr
      cases hrr : jret μ with
      | none => rw [hrr] at hc; cases hc
      | some ty =>
        rw [hrr] at hc
        have hrt : (∃ n, ty = .object n) ∨ ∃ t, ty = .array t := by
          cases ty <;> first | exact Or.inl ⟨_, rfl⟩ | exact Or.inr ⟨_, rfl⟩ | cases hc
        exact W.aret hx hb (hret.trans hrr) hrt (Or.inl rfl) hq hS0.2.2 hd
    · cases hr
  · split at hr
    · rename_i hc
      cases hr
      exact W.vret hx hb (hret.trans hc) hq hS0.2.2 hd
    · cases hr
  · cases hr
end JS
end
section
-- ===== the one theorem =====
def jRm (d mc ms : Nat) : Room := { frames := d, cells := mc, slots := ms, locals := d * 40 }
def jWs (μ : Nat) : List Cond := [Cond.code (jy μ) (jcode μ) (jmaxl μ) (jret μ)]
/-- what the soundness of runs of fuel n says -/
def jSo (sv : Nat → Value) (D : va_G) (E : Nat → ClassId) (l : Launch) (n : Nat) : Prop := ∀ (d : Nat) (F : jF) (M : jM) (r : Option Value) (M' : jM), jrun sv n d F M = some (r, M') →
  ∀ (p : Program) (e : Env) (R : Room) (s : State) (m : MethodId) (args : Array Value) (below : List Frame) (meth : Method) (c : Code) (H : Heap) (locs : List Loc) (cells slots : Nat) (Q : State → Prop) (A : Nat → Prop) (ls : Array Slot),
  jCx sv D E A p s m meth c F.1 → jSim D E H M → va_S A s.heap H locs → (∀ q, jA M q → A q) → jlv ls (jmaxl F.1) F.2.2.1 → cells + (M'.1 - M.1) ≤ R.cells → slots + (M'.2.1 - M.2.1) ≤ R.slots → d ≤ R.frames → d * 40 ≤ R.locals →
  (∀ (H' : Heap) (locs' : List Loc) (pc' : Nat) (ls' : Array Slot), jSim D E H' M' → va_S A s.heap H' locs' → jend F.1 pc' r → W p l e R s m args below meth c H' locs' (cells + (M'.1 - M.1)) (slots + (M'.2.1 - M.2.1)) Q (F0 m pc' ls' r.toList)) →
  W p l e R s m args below meth c H locs cells slots Q (F0 m F.2.1 ls F.2.2.2)
theorem jmet {sv : Nat → Value} {D : va_G} {E : Nat → ClassId} {l : Launch} {n d μ : Nat} (ih : jSo sv D E l n) {As : List Value} {M M1 : jM} {r : Option Value} (hr : jrun sv n d (μ, 0, jent (jmaxl μ) As, []) M = some (r, M1)) (hlen : (jarg As).length ≤ jmaxl μ) (hpl : plainName (jy μ).cls = true) :
    Met l (jy μ) (jWs μ) (jRm d (M1.1 - M.1) (M1.2.1 - M.2.1)) (jP sv D E M As) (jQ D E M M1 r) (M1.1 - M.1) (M1.2.1 - M.2.1) (jA M) := by
  refine Met.ofW (cc := jcode μ) (maxL := jmaxl μ) (ret := jret μ) hpl rfl ?_
  intro p e s m args below meth c s₁ B hml hP
  obtain ⟨rfl, hS, hU⟩ := hP
  have hCx : jCx sv D E (jA M) p s m meth c μ := ⟨B.exec, B.bytes, hml, findClass_of_methodNamed B.named, (name_of_methodNamed B.named B.method).1, B.returns, B.notSynchronized, hU⟩
  rw [lg_entry_eq]
  refine ih d _ M r M1 hr p e _ s m As.toArray below meth c s.heap [] 0 0 _ (jA M) _ hCx hS va_S.rf (fun _ h => h) (jlv_entry hlen) ?_ ?_ ?_ ?_ (fun H' locs' pc' ls' r1 r2 he => ?_)
  · show 0 + (M1.1 - M.1) ≤ M1.1 - M.1
    omega
  · show 0 + (M1.2.1 - M.2.1) ≤ M1.2.1 - M.2.1
    omega
  · exact Nat.le_refl d
  · exact Nat.le_refl (d * 40)
  · rw [Nat.zero_add, Nat.zero_add]
    exact jend_sound hCx he r1 r2
section JC
variable {p : Program} {l : Launch} {e : Env} {R : Room} {s : State} {m : MethodId} {args : Array Value} {below : List Frame} {meth : Method} {c : Code} {H : Heap} {locs : List Loc} {cells slots : Nat} {Q : State → Prop}
variable {pc μ : Nat} {ls : Array Slot} {st : List Value} {D : va_G} {E : Nat → ClassId} {A : Nat → Prop} {sv : Nat → Value} {M : jM}
theorem jcat_room {rest : List Value} (h : jcat rest ≤ 8) : 2 * (F0 m pc ls st).monitorRoom + (rest.map fun v => v.category).sum ≤ 8 := by
  show 2 * 0 + jcat rest ≤ 8
  omega
theorem jcode_w (hW : jW s) {μ' : Nat} (hcode : Cond.code (jy μ') (jcode μ') (jmaxl μ') (jret μ') ∈ jwords) : ∀ w ∈ jWs μ', ∀ (a' : Array Value) (U : State), s.WarmedH U.vm → w.before a' U = true := by
  intro w hw a' U hWm
  have e : w = Cond.code (jy μ') (jcode μ') (jmaxl μ') (jret μ') := by simpa [jWs] using hw
  subst e
  exact jW_warm hWm hW _ hcode a'
set_option maxHeartbeats 4000000 in
theorem jcall_sound {n d : Nat} (ih : jSo sv D E l n) (hC : jCx sv D E A p s m meth c μ) {L : jL} (hl : jlv ls (jmaxl μ) L) {i : ClassFile.Instr} (hd : decode (jcode μ) pc = .ok (i, 3)) {Fe Fr : jF} (h : jcall μ pc L i st M = some (Fe, Fr)) {M1 : jM} {r : Option Value} (hr : jrun sv n d Fe M = some (r, M1)) (hS : jSim D E H M) (hS0 : va_S A s.heap H locs) (hA : ∀ q, jA M q → A q)
    (hcells : cells + (M1.1 - M.1) ≤ R.cells) (hslots : slots + (M1.2.1 - M.2.1) ≤ R.slots) (hfr : d + 1 ≤ R.frames) (hlo : (d + 1) * 40 ≤ R.locals)
    (kk : ∀ (H1 : Heap) (locs1 : List Loc), jSim D E H1 M1 → va_S A s.heap H1 locs1 → W p l e R s m args below meth c H1 locs1 (cells + (M1.1 - M.1)) (slots + (M1.2.1 - M.2.1)) Q (F0 m Fr.2.1 ls (r.toList ++ Fr.2.2.2))) : W p l e R s m args below meth c H locs cells slots Q (F0 m pc ls st) := by
  have hC0 := hC
  obtain ⟨hx, hb, hml, hown, hnm, hret, hlk, hW, hK, hZ, hMi⟩ := hC
  have hU : jU sv D E A s := ⟨hW, hK, hZ, hMi⟩
  have S : CallFix p m c (jcode μ) (jmaxl μ) s args [] (jy μ).cls := ⟨hx, hb, hml, hown, fun w h => by cases h⟩
  have hsize : ls.size = jmaxl μ := hl.2.1
  unfold jcall at h
  split at h
  · -- virtual
    rename_i idx
    split at h
    · rename_i μ' k κ hmt
      split at h
      · rename_i b rest hdrop
        split at h
        · rename_i hc
          obtain ⟨hg, hcat, hk, hlen⟩ := hc
          cases h
          obtain ⟨hlink, ⟨hcode, hini, hmh, har, hpl, hmx⟩, hm0, -, -⟩ := jmt_ok hmt
          obtain ⟨hinst, q, hq, hκ, hsel⟩ := hm0 rfl
          have hstk : st = ((st.take k).reverse).reverse ++ .ref b :: rest := by
            rw [List.reverse_reverse, ← hdrop, List.take_append_drop]
          have hM := jmet ih hr hlen hpl
          obtain ⟨t, u, g, V⟩ := M
          obtain ⟨x, hgx, hx1⟩ := Option.map_eq_some_iff.mp hg
          obtain ⟨κ', n'⟩ := x
          dsimp only at hx1
          subst hx1
          obtain ⟨-, cell, q1, q2, q3, -⟩ := jcell_obj (hS.2 b κ' n' hgx) hκ hq
          have hp : PreV s H q.1 b (jP sv D E (t, u, g, V) (.ref b :: (st.take k).reverse)) (st.take k).reverse := ⟨jP_blind, ⟨cell, q1, by rw [q3]; rfl, by rw [q2]; exact (hK.1 κ' _ hq).2.1⟩, fun U hH hWm => ⟨rfl, by rw [hH]; exact hS, jU_call hU hWm hH hS0 hA⟩⟩
          have har2 : ∀ sig, parseMethodDescriptor (jy μ').desc = some sig → k = sig.parameters.length := by
            intro sig h
            rw [h] at har
            exact (Option.some.inj har).symm
          have hn : ((st.take k).reverse).length = k := by rw [List.length_reverse, List.length_take]; omega
          rcases hlink with hlink | ⟨host, hlink⟩
          · have hrun := va_runV (e := e) (below := below) (meth := meth) (locs := locs) (g := F0 m pc ls st) S hM (cw := ⟨⟨rfl, rfl, hfr, by show 8 + (jmaxl μ' + 11) + d * 40 ≤ _; omega, jcode_w hW hcode, List.mem_cons_self, hW _ hcode args, hW _ hini args, hmh, har2, hW _ hlink args⟩, hW _ hinst args, hW _ hsel args⟩) hp rfl hn hsize hstk (jcat_room hcat) hd ⟨hcells, hslots⟩
            exact jafter hrun hS0 hA kk
          · have hrun := va_runVN (e := e) (below := below) (meth := meth) (locs := locs) (g := F0 m pc ls st) S hM (cw := ⟨⟨⟨rfl, rfl, hfr, by show 8 + (jmaxl μ' + 11) + d * 40 ≤ _; omega, jcode_w hW hcode, List.mem_cons_self⟩, hW _ hcode args, hW _ hini args, hmh, har2, hW _ hlink args⟩, hW _ hinst args, hW _ hsel args⟩) hp rfl hn hsize hstk (jcat_room hcat) hd ⟨hcells, hslots⟩
            exact jafter hrun hS0 hA kk
        · cases h
      · cases h
    · cases h
  · -- special
    rename_i idx
    split at h
    · rename_i μ' k κ hmt
      split at h
      · rename_i b rest hdrop
        split at h
        · rename_i hc
          obtain ⟨hcat, hk, hlen⟩ := hc
          cases h
          obtain ⟨hlink, ⟨hcode, hini, hmh, har, hpl, hmx⟩, -, hm1, -⟩ := jmt_ok hmt
          obtain ⟨hinn, hinst, hnone⟩ := hm1 rfl
          have hstk : st = ((st.take k).reverse).reverse ++ .ref b :: rest := by
            rw [List.reverse_reverse, ← hdrop, List.take_append_drop]
          have hM := jmet ih hr hlen hpl
          have hp : PreS s H (jP sv D E M (.ref b :: (st.take k).reverse)) (.ref b :: (st.take k).reverse) := ⟨jP_blind, fun U hH hWm => ⟨rfl, by rw [hH]; exact hS, jU_call hU hWm hH hS0 hA⟩⟩
          have har2 : ∀ sig, parseMethodDescriptor (jy μ').desc = some sig → k = sig.parameters.length := by
            intro sig h
            rw [h] at har
            exact (Option.some.inj har).symm
          have hn : ((st.take k).reverse).length = k := by rw [List.length_reverse, List.length_take]; omega
          have hcode2 : Cond.code (jy μ') (jcode μ') (jmaxl μ') none ∈ jWs μ' := by rw [← hnone]; exact List.mem_cons_self
          have hcode3 : (Cond.code (jy μ') (jcode μ') (jmaxl μ') none).before args s = true := by rw [← hnone]; exact hW _ hcode args
          rcases hlink with hlink | ⟨host, hlink⟩
          · have hrun := va_runI (e := e) (below := below) (meth := meth) (locs := locs) (g := F0 m pc ls st) S hM (cw := ⟨⟨rfl, rfl, hfr, by show 8 + (jmaxl μ' + 11) + d * 40 ≤ _; omega, jcode_w hW hcode, hcode2, hcode3, hW _ hini args, hmh, har2, hW _ hlink args⟩, hinn, hW _ hinst args⟩) hp rfl hn hsize hstk (jcat_room hcat) hd ⟨hcells, hslots⟩
            exact jafter hrun hS0 hA kk
          · have hrun := va_runIN (e := e) (below := below) (meth := meth) (locs := locs) (g := F0 m pc ls st) S hM (cw := ⟨⟨⟨rfl, rfl, hfr, by show 8 + (jmaxl μ' + 11) + d * 40 ≤ _; omega, jcode_w hW hcode, hcode2⟩, hcode3, hW _ hini args, hmh, har2, hW _ hlink args⟩, hinn, hW _ hinst args⟩) hp rfl hn hsize hstk (jcat_room hcat) hd ⟨hcells, hslots⟩
            exact jafter hrun hS0 hA kk
        · cases h
      · cases h
    · cases h
  · -- static
    rename_i idx
    split at h
    · rename_i μ' k κ hmt
      split at h
      · rename_i hc
        obtain ⟨hcat, hk, hlen⟩ := hc
        cases h
        obtain ⟨hlink, ⟨hcode, hini, hmh, har, hpl, hmx⟩, -, -, hm2⟩ := jmt_ok hmt
        have hst := hm2 rfl
        have hstk : st = ((st.take k).reverse).reverse ++ st.drop k := by
          rw [List.reverse_reverse, List.take_append_drop]
        have hM := jmet ih hr hlen hpl
        have hp : PreS s H (jP sv D E M (st.take k).reverse) (st.take k).reverse := ⟨jP_blind, fun U hH hWm => ⟨rfl, by rw [hH]; exact hS, jU_call hU hWm hH hS0 hA⟩⟩
        have har2 : ∀ sig, parseMethodDescriptor (jy μ').desc = some sig → k = sig.parameters.length := by
          intro sig h
          rw [h] at har
          exact (Option.some.inj har).symm
        have hn : ((st.take k).reverse).length = k := by rw [List.length_reverse, List.length_take]; omega
        rcases hlink with hlink | ⟨host, hlink⟩
        · have hrun := va_runS (e := e) (below := below) (meth := meth) (locs := locs) (g := F0 m pc ls st) S hM (cw := ⟨⟨rfl, rfl, hfr, by show 8 + (jmaxl μ' + 11) + d * 40 ≤ _; omega, jcode_w hW hcode, List.mem_cons_self, hW _ hcode args, hW _ hini args, hmh, har2, hW _ hlink args⟩, hW _ hst args⟩) hp rfl hn hsize hstk (jcat_room hcat) hd ⟨hcells, hslots⟩
          exact jafter hrun hS0 hA kk
        · have hrun := va_runSN (e := e) (below := below) (meth := meth) (locs := locs) (g := F0 m pc ls st) S hM (cw := ⟨⟨⟨rfl, rfl, hfr, by show 8 + (jmaxl μ' + 11) + d * 40 ≤ _; omega, jcode_w hW hcode, List.mem_cons_self⟩, hW _ hcode args, hW _ hini args, hmh, har2, hW _ hlink args⟩, hW _ hst args, trivial⟩) hp rfl hn hsize hstk (jcat_room hcat) hd ⟨hcells, hslots⟩
          exact jafter hrun hS0 hA kk
      · cases h
    · cases h
  · cases h
end JC
theorem jsound (sv : Nat → Value) (D : va_G) (E : Nat → ClassId) (l : Launch) : ∀ n : Nat, jSo sv D E l n := by
  intro n
  induction n with
  | zero => intro d F M r M' h; simp [jrun] at h
  | succ n ih =>
    intro d F M r M' h p e R s m args below meth c H locs cells slots Q A ls hC hS hS0 hA hl hcells hslots hfr hlo hret
    obtain ⟨μ, pc, L, st⟩ := F
    dsimp only at hC hl hret ⊢
    have hC0 := hC
    obtain ⟨hx, hb, hml, hown, hnm, hrt, hlk, hW, hK, hZ, hMi⟩ := hC
    rw [jrun] at h
    cases hs : jstep sv (μ, pc, L, st) M with
    | none => rw [hs] at h; cases h
    | some z =>
      rw [hs] at h
      unfold jstep at hs
      dsimp only at hs
      split at hs
      · rename_i i len hd
        rcases jex_inv hs with ⟨L', st', h1, rfl⟩ | ⟨t, st', h1, rfl⟩ | ⟨st', M1, h1, rfl⟩ | ⟨r1, h1, h2, rfl⟩ | ⟨st', M1, h2, h1, rfl⟩ | ⟨⟨Fe, Fr⟩, h2, h1, rfl⟩
        · dsimp only at h
          rw [if_pos (Nat.zero_le d)] at h
          exact jpure_sound hx hb hd h1 hl (fun ls' hl' => ih d _ M r M' h p e R s m args below meth c H locs cells slots Q A ls' hC0 hS hS0 hA hl' hcells hslots hfr hlo hret)
        · dsimp only at h
          rw [if_pos (Nat.zero_le d)] at h
          exact jbr_sound hx hb hd h1 (ih d _ M r M' h p e R s m args below meth c H locs cells slots Q A ls hC0 hS hS0 hA hl hcells hslots hfr hlo hret)
        · dsimp only at h
          rw [if_pos (Nat.zero_le d)] at h
          have g1 := jmem_le h1
          have g2 := jrun_le sv n d _ M1 r M' h
          have l1 := g1.1
          have l2 := g2.1
          have l3 := g1.2.1
          have l4 := g2.2.1
          have e1 : cells + (M1.1 - M.1) + (M'.1 - M1.1) = cells + (M'.1 - M.1) := by omega
          have e2 : slots + (M1.2.1 - M.2.1) + (M'.2.1 - M1.2.1) = slots + (M'.2.1 - M.2.1) := by omega
          exact jmem_sound hC0 hd h1 hS hS0 hA (by omega) (by omega) (fun H1 locs1 r1 r2 => ih d _ M1 r M' h p e R s m args below meth c H1 locs1 _ _ Q A ls hC0 r1 r2 (fun q hq => hA q (jA_mono g1 hq)) hl (by rw [e1]; exact hcells) (by rw [e2]; exact hslots) hfr hlo (by rw [e1, e2]; exact hret))
        · cases h
          have e0 := jrt_st h1
          subst h2
          have := hret H locs pc ls hS hS0 ⟨i, st, hd, h1, e0⟩
          rw [← e0] at this
          simpa using this
        · dsimp only at h
          split at h
          · rename_i hd1
            have g1 := jnatv_le h1
            have g2 := jrun_le sv n d _ M1 r M' h
            subst h2
            have z1 : M1.1 = M.1 ∧ M1.2.1 = M.2.1 := jnatv_eq h1
            refine jnatv_sound hC0 hl.2.1 hd h1 hS hS0 hA (Nat.le_trans hd1 hfr) (by omega) (by omega) (by omega) (fun H1 locs1 r1 r2 => ih d _ M1 r M' h p e R s m args below meth c H1 locs1 _ _ Q A ls hC0 r1 r2 (fun q hq => hA q (jA_mono g1 hq)) hl (by rw [z1.1]; exact hcells) (by rw [z1.2]; exact hslots) hfr hlo (by rw [z1.1, z1.2]; exact hret))
          · cases h
        · cases d with
          | zero => cases h
          | succ d0 =>
            dsimp only at h
            cases h3 : jrun sv n d0 Fe M with
            | none => rw [h3] at h; cases h
            | some y =>
              obtain ⟨r1, M1⟩ := y
              rw [h3] at h
              dsimp only at h
              have g1 := jrun_le sv n d0 Fe M r1 M1 h3
              have g2 := jrun_le sv n (d0 + 1) _ M1 r M' h
              have l1 := g1.1
              have l2 := g2.1
              have l3 := g1.2.1
              have l4 := g2.2.1
              have e1 : cells + (M1.1 - M.1) + (M'.1 - M1.1) = cells + (M'.1 - M.1) := by omega
              have e2 : slots + (M1.2.1 - M.2.1) + (M'.2.1 - M1.2.1) = slots + (M'.2.1 - M.2.1) := by omega
              subst h2
              obtain ⟨f1, f2⟩ := jcall_fr h1
              obtain ⟨μ2, pc2, L2, st2⟩ := Fr
              dsimp only at f1 f2 h
              subst f1 f2
              exact jcall_sound ih hC0 hl hd h1 h3 hS hS0 hA (by omega) (by omega) hfr hlo (fun H1 locs1 q1 q2 => ih (d0 + 1) _ M1 r M' h p e R s m args below meth c H1 locs1 _ _ Q A ls hC0 q1 q2 (fun q hq => hA q (jA_mono g1 hq)) hl (by rw [e1]; exact hcells) (by rw [e2]; exact hslots) hfr hlo (by rw [e1, e2]; exact hret))
      · cases hs
end
