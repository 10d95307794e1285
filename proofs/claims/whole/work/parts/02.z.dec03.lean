theorem dX4_isKindOfLevel_41 : decode cX4_isKindOfLevel 41 = .ok (.goto 4, 3) := by decide +kernel
theorem dX4_isKindOfLevel_44 : decode cX4_isKindOfLevel 44 = .ok (.iconst 0, 1) := by decide +kernel
theorem dX4_isKindOfLevel_45 : decode cX4_isKindOfLevel 45 = .ok (.if_icmp .gt 7, 3) := by decide +kernel
theorem dX4_isKindOfLevel_48 : decode cX4_isKindOfLevel 48 = .ok (.iconst 1, 1) := by decide +kernel
theorem dX4_isKindOfLevel_49 : decode cX4_isKindOfLevel 49 = .ok (.goto 4, 3) := by decide +kernel
theorem dX4_isKindOfLevel_52 : decode cX4_isKindOfLevel 52 = .ok (.iconst 0, 1) := by decide +kernel
theorem dX4_isKindOfLevel_53 : decode cX4_isKindOfLevel 53 = .ok (.ireturn, 1) := by decide +kernel
theorem dX4_groupNumbered_0 : decode cX4_groupNumbered 0 = .ok (.iload_n 1, 1) := by decide +kernel
theorem dX4_groupNumbered_1 : decode cX4_groupNumbered 1 = .ok (.iconst 1, 1) := by decide +kernel
theorem dX4_groupNumbered_2 : decode cX4_groupNumbered 2 = .ok (.if_icmp .lt 30, 3) := by decide +kernel
theorem dX4_groupNumbered_5 : decode cX4_groupNumbered 5 = .ok (.iload_n 1, 1) := by decide +kernel
theorem dX4_groupNumbered_6 : decode cX4_groupNumbered 6 = .ok (.aload_n 0, 1) := by decide +kernel
theorem dX4_groupNumbered_7 : decode cX4_groupNumbered 7 = .ok (.getfield 10, 3) := by decide +kernel
theorem dX4_groupNumbered_10 : decode cX4_groupNumbered 10 = .ok (.invokevirtual 80, 3) := by decide +kernel
theorem dX4_groupNumbered_13 : decode cX4_groupNumbered 13 = .ok (.if_icmp .gt 19, 3) := by decide +kernel
theorem dX4_groupNumbered_16 : decode cX4_groupNumbered 16 = .ok (.aload_n 0, 1) := by decide +kernel
theorem dX4_groupNumbered_17 : decode cX4_groupNumbered 17 = .ok (.getfield 10, 3) := by decide +kernel
theorem dX4_groupNumbered_20 : decode cX4_groupNumbered 20 = .ok (.iload_n 1, 1) := by decide +kernel
theorem dX4_groupNumbered_21 : decode cX4_groupNumbered 21 = .ok (.iconst 1, 1) := by decide +kernel
theorem dX4_groupNumbered_22 : decode cX4_groupNumbered 22 = .ok (.isub, 1) := by decide +kernel
theorem dX4_groupNumbered_23 : decode cX4_groupNumbered 23 = .ok (.invokevirtual 128, 3) := by decide +kernel
theorem dX4_groupNumbered_26 : decode cX4_groupNumbered 26 = .ok (.checkcast 84, 3) := by decide +kernel
theorem dX4_groupNumbered_29 : decode cX4_groupNumbered 29 = .ok (.goto 4, 3) := by decide +kernel
theorem dX4_groupNumbered_32 : decode cX4_groupNumbered 32 = .ok (.aconst_null, 1) := by decide +kernel
theorem dX4_groupNumbered_33 : decode cX4_groupNumbered 33 = .ok (.areturn, 1) := by decide +kernel
theorem dX4_groupOf_0 : decode cX4_groupOf 0 = .ok (.iconst 0, 1) := by decide +kernel
theorem dX4_groupOf_1 : decode cX4_groupOf 1 = .ok (.istore_n 3, 1) := by decide +kernel
theorem dX4_groupOf_2 : decode cX4_groupOf 2 = .ok (.iload_n 3, 1) := by decide +kernel
theorem dX4_groupOf_3 : decode cX4_groupOf 3 = .ok (.aload_n 0, 1) := by decide +kernel
theorem dX4_groupOf_4 : decode cX4_groupOf 4 = .ok (.getfield 10, 3) := by decide +kernel
theorem dX4_groupOf_7 : decode cX4_groupOf 7 = .ok (.invokevirtual 80, 3) := by decide +kernel
theorem dX4_groupOf_10 : decode cX4_groupOf 10 = .ok (.if_icmp .ge 43, 3) := by decide +kernel
theorem dX4_groupOf_13 : decode cX4_groupOf 13 = .ok (.aload_n 0, 1) := by decide +kernel
theorem dX4_groupOf_14 : decode cX4_groupOf 14 = .ok (.getfield 10, 3) := by decide +kernel
theorem dX4_groupOf_17 : decode cX4_groupOf 17 = .ok (.iload_n 3, 1) := by decide +kernel
theorem dX4_groupOf_18 : decode cX4_groupOf 18 = .ok (.invokevirtual 128, 3) := by decide +kernel
theorem dX4_groupOf_21 : decode cX4_groupOf 21 = .ok (.checkcast 84, 3) := by decide +kernel
theorem dX4_groupOf_24 : decode cX4_groupOf 24 = .ok (.astore 4, 2) := by decide +kernel
theorem dX4_groupOf_26 : decode cX4_groupOf 26 = .ok (.aload 4, 2) := by decide +kernel
theorem dX4_groupOf_28 : decode cX4_groupOf 28 = .ok (.getfield 108, 3) := by decide +kernel
theorem dX4_groupOf_31 : decode cX4_groupOf 31 = .ok (.iload_n 1, 1) := by decide +kernel
theorem dX4_groupOf_32 : decode cX4_groupOf 32 = .ok (.if_icmp .ne 15, 3) := by decide +kernel
theorem dX4_groupOf_35 : decode cX4_groupOf 35 = .ok (.aload 4, 2) := by decide +kernel
theorem dX4_groupOf_37 : decode cX4_groupOf 37 = .ok (.getfield 111, 3) := by decide +kernel
theorem dX4_groupOf_40 : decode cX4_groupOf 40 = .ok (.iload_n 2, 1) := by decide +kernel
theorem dX4_groupOf_41 : decode cX4_groupOf 41 = .ok (.if_icmp .ne 6, 3) := by decide +kernel
theorem dX4_groupOf_44 : decode cX4_groupOf 44 = .ok (.aload 4, 2) := by decide +kernel
theorem dX4_groupOf_46 : decode cX4_groupOf 46 = .ok (.areturn, 1) := by decide +kernel
theorem dX4_groupOf_47 : decode cX4_groupOf 47 = .ok (.iinc 3 1, 3) := by decide +kernel
theorem dX4_groupOf_50 : decode cX4_groupOf 50 = .ok (.goto (-48), 3) := by decide +kernel
theorem dX4_groupOf_53 : decode cX4_groupOf 53 = .ok (.aconst_null, 1) := by decide +kernel
theorem dX4_groupOf_54 : decode cX4_groupOf 54 = .ok (.areturn, 1) := by decide +kernel
theorem dX4_sumNumbered_0 : decode cX4_sumNumbered 0 = .ok (.iload_n 1, 1) := by decide +kernel
theorem dX4_sumNumbered_1 : decode cX4_sumNumbered 1 = .ok (.iconst 1, 1) := by decide +kernel
theorem dX4_sumNumbered_2 : decode cX4_sumNumbered 2 = .ok (.if_icmp .lt 30, 3) := by decide +kernel
theorem dX4_sumNumbered_5 : decode cX4_sumNumbered 5 = .ok (.iload_n 1, 1) := by decide +kernel
theorem dX4_sumNumbered_6 : decode cX4_sumNumbered 6 = .ok (.aload_n 0, 1) := by decide +kernel
theorem dX4_sumNumbered_7 : decode cX4_sumNumbered 7 = .ok (.getfield 16, 3) := by decide +kernel
theorem dX4_sumNumbered_10 : decode cX4_sumNumbered 10 = .ok (.invokevirtual 80, 3) := by decide +kernel
theorem dX4_sumNumbered_13 : decode cX4_sumNumbered 13 = .ok (.if_icmp .gt 19, 3) := by decide +kernel
theorem dX4_sumNumbered_16 : decode cX4_sumNumbered 16 = .ok (.aload_n 0, 1) := by decide +kernel
theorem dX4_sumNumbered_17 : decode cX4_sumNumbered 17 = .ok (.getfield 16, 3) := by decide +kernel
theorem dX4_sumNumbered_20 : decode cX4_sumNumbered 20 = .ok (.iload_n 1, 1) := by decide +kernel
theorem dX4_sumNumbered_21 : decode cX4_sumNumbered 21 = .ok (.iconst 1, 1) := by decide +kernel
theorem dX4_sumNumbered_22 : decode cX4_sumNumbered 22 = .ok (.isub, 1) := by decide +kernel
theorem dX4_sumNumbered_23 : decode cX4_sumNumbered 23 = .ok (.invokevirtual 128, 3) := by decide +kernel
theorem dX4_sumNumbered_26 : decode cX4_sumNumbered 26 = .ok (.checkcast 117, 3) := by decide +kernel
theorem dX4_sumNumbered_29 : decode cX4_sumNumbered 29 = .ok (.goto 4, 3) := by decide +kernel
theorem dX4_sumNumbered_32 : decode cX4_sumNumbered 32 = .ok (.aconst_null, 1) := by decide +kernel
theorem dX4_sumNumbered_33 : decode cX4_sumNumbered 33 = .ok (.areturn, 1) := by decide +kernel
theorem dX4_firstSumOf_0 : decode cX4_firstSumOf 0 = .ok (.iconst 0, 1) := by decide +kernel
theorem dX4_firstSumOf_1 : decode cX4_firstSumOf 1 = .ok (.istore_n 2, 1) := by decide +kernel
theorem dX4_firstSumOf_2 : decode cX4_firstSumOf 2 = .ok (.iload_n 2, 1) := by decide +kernel
theorem dX4_firstSumOf_3 : decode cX4_firstSumOf 3 = .ok (.aload_n 0, 1) := by decide +kernel
theorem dX4_firstSumOf_4 : decode cX4_firstSumOf 4 = .ok (.getfield 16, 3) := by decide +kernel
theorem dX4_firstSumOf_7 : decode cX4_firstSumOf 7 = .ok (.invokevirtual 80, 3) := by decide +kernel
theorem dX4_firstSumOf_10 : decode cX4_firstSumOf 10 = .ok (.if_icmp .ge 31, 3) := by decide +kernel
theorem dX4_firstSumOf_13 : decode cX4_firstSumOf 13 = .ok (.aload_n 0, 1) := by decide +kernel
theorem dX4_firstSumOf_14 : decode cX4_firstSumOf 14 = .ok (.getfield 16, 3) := by decide +kernel
theorem dX4_firstSumOf_17 : decode cX4_firstSumOf 17 = .ok (.iload_n 2, 1) := by decide +kernel
theorem dX4_firstSumOf_18 : decode cX4_firstSumOf 18 = .ok (.invokevirtual 128, 3) := by decide +kernel
theorem dX4_firstSumOf_21 : decode cX4_firstSumOf 21 = .ok (.checkcast 117, 3) := by decide +kernel
theorem dX4_firstSumOf_24 : decode cX4_firstSumOf 24 = .ok (.astore_n 3, 1) := by decide +kernel
theorem dX4_firstSumOf_25 : decode cX4_firstSumOf 25 = .ok (.aload_n 3, 1) := by decide +kernel
theorem dX4_firstSumOf_26 : decode cX4_firstSumOf 26 = .ok (.getfield 205, 3) := by decide +kernel
theorem dX4_firstSumOf_29 : decode cX4_firstSumOf 29 = .ok (.iload_n 1, 1) := by decide +kernel
theorem dX4_firstSumOf_30 : decode cX4_firstSumOf 30 = .ok (.if_icmp .ne 5, 3) := by decide +kernel
theorem dX4_firstSumOf_33 : decode cX4_firstSumOf 33 = .ok (.aload_n 3, 1) := by decide +kernel
theorem dX4_firstSumOf_34 : decode cX4_firstSumOf 34 = .ok (.areturn, 1) := by decide +kernel
theorem dX4_firstSumOf_35 : decode cX4_firstSumOf 35 = .ok (.iinc 2 1, 3) := by decide +kernel
theorem dX4_firstSumOf_38 : decode cX4_firstSumOf 38 = .ok (.goto (-36), 3) := by decide +kernel
theorem dX4_firstSumOf_41 : decode cX4_firstSumOf 41 = .ok (.aconst_null, 1) := by decide +kernel
theorem dX4_firstSumOf_42 : decode cX4_firstSumOf 42 = .ok (.areturn, 1) := by decide +kernel
theorem dX4_isSummable_0 : decode cX4_isSummable 0 = .ok (.iload_n 1, 1) := by decide +kernel
theorem dX4_isSummable_1 : decode cX4_isSummable 1 = .ok (.ifCond .ne 5, 3) := by decide +kernel
theorem dX4_isSummable_4 : decode cX4_isSummable 4 = .ok (.iconst 1, 1) := by decide +kernel
theorem dX4_isSummable_5 : decode cX4_isSummable 5 = .ok (.ireturn, 1) := by decide +kernel
theorem dX4_isSummable_6 : decode cX4_isSummable 6 = .ok (.iload_n 1, 1) := by decide +kernel
theorem dX4_isSummable_7 : decode cX4_isSummable 7 = .ok (.ifCond .le 27, 3) := by decide +kernel
theorem dX4_isSummable_10 : decode cX4_isSummable 10 = .ok (.aload_n 0, 1) := by decide +kernel
theorem dX4_isSummable_11 : decode cX4_isSummable 11 = .ok (.iload_n 1, 1) := by decide +kernel
theorem dX4_isSummable_12 : decode cX4_isSummable 12 = .ok (.invokevirtual 93, 3) := by decide +kernel
theorem dX4_isSummable_15 : decode cX4_isSummable 15 = .ok (.astore_n 3, 1) := by decide +kernel
theorem dX4_isSummable_16 : decode cX4_isSummable 16 = .ok (.aload_n 3, 1) := by decide +kernel
theorem dX4_isSummable_17 : decode cX4_isSummable 17 = .ok (.ifnull 15, 3) := by decide +kernel
theorem dX4_isSummable_20 : decode cX4_isSummable 20 = .ok (.aload_n 3, 1) := by decide +kernel
theorem dX4_isSummable_21 : decode cX4_isSummable 21 = .ok (.getfield 108, 3) := by decide +kernel
theorem dX4_isSummable_24 : decode cX4_isSummable 24 = .ok (.iconst 3, 1) := by decide +kernel
theorem dX4_isSummable_25 : decode cX4_isSummable 25 = .ok (.if_icmp .ne 7, 3) := by decide +kernel
theorem dX4_isSummable_28 : decode cX4_isSummable 28 = .ok (.iconst 1, 1) := by decide +kernel
theorem dX4_isSummable_29 : decode cX4_isSummable 29 = .ok (.goto 4, 3) := by decide +kernel
theorem dX4_isSummable_32 : decode cX4_isSummable 32 = .ok (.iconst 0, 1) := by decide +kernel
theorem dX4_isSummable_33 : decode cX4_isSummable 33 = .ok (.ireturn, 1) := by decide +kernel
theorem dX4_isSummable_34 : decode cX4_isSummable 34 = .ok (.aload_n 0, 1) := by decide +kernel
theorem dX4_isSummable_35 : decode cX4_isSummable 35 = .ok (.iload_n 1, 1) := by decide +kernel
theorem dX4_isSummable_36 : decode cX4_isSummable 36 = .ok (.ineg, 1) := by decide +kernel
theorem dX4_isSummable_37 : decode cX4_isSummable 37 = .ok (.invokevirtual 187, 3) := by decide +kernel
theorem dX4_isSummable_40 : decode cX4_isSummable 40 = .ok (.astore_n 3, 1) := by decide +kernel
theorem dX4_isSummable_41 : decode cX4_isSummable 41 = .ok (.aload_n 3, 1) := by decide +kernel
theorem dX4_isSummable_42 : decode cX4_isSummable 42 = .ok (.ifnull 15, 3) := by decide +kernel
theorem dX4_isSummable_45 : decode cX4_isSummable 45 = .ok (.aload_n 3, 1) := by decide +kernel
theorem dX4_isSummable_46 : decode cX4_isSummable 46 = .ok (.getfield 208, 3) := by decide +kernel
theorem dX4_isSummable_49 : decode cX4_isSummable 49 = .ok (.iload_n 2, 1) := by decide +kernel
theorem dX4_isSummable_50 : decode cX4_isSummable 50 = .ok (.if_icmp .le 7, 3) := by decide +kernel
theorem dX4_isSummable_53 : decode cX4_isSummable 53 = .ok (.iconst 1, 1) := by decide +kernel
theorem dX4_isSummable_54 : decode cX4_isSummable 54 = .ok (.goto 4, 3) := by decide +kernel
theorem dX4_isSummable_57 : decode cX4_isSummable 57 = .ok (.iconst 0, 1) := by decide +kernel
theorem dX4_isSummable_58 : decode cX4_isSummable 58 = .ok (.ireturn, 1) := by decide +kernel
theorem dX4_topmostLine_0 : decode cX4_topmostLine 0 = .ok (.iload_n 1, 1) := by decide +kernel
theorem dX4_topmostLine_1 : decode cX4_topmostLine 1 = .ok (.invokestatic 209, 3) := by decide +kernel
theorem dX4_topmostLine_4 : decode cX4_topmostLine 4 = .ok (.ifCond .eq 8, 3) := by decide +kernel
theorem dX4_topmostLine_7 : decode cX4_topmostLine 7 = .ok (.aload_n 0, 1) := by decide +kernel
theorem dX4_topmostLine_8 : decode cX4_topmostLine 8 = .ok (.getfield 66, 3) := by decide +kernel
theorem dX4_topmostLine_11 : decode cX4_topmostLine 11 = .ok (.ireturn, 1) := by decide +kernel
theorem dX4_topmostLine_12 : decode cX4_topmostLine 12 = .ok (.iload_n 1, 1) := by decide +kernel
theorem dX4_topmostLine_13 : decode cX4_topmostLine 13 = .ok (.iconst 5, 1) := by decide +kernel
theorem dX4_topmostLine_14 : decode cX4_topmostLine 14 = .ok (.if_icmp .ne 12, 3) := by decide +kernel
theorem dX4_topmostLine_17 : decode cX4_topmostLine 17 = .ok (.aload_n 0, 1) := by decide +kernel
theorem dX4_topmostLine_18 : decode cX4_topmostLine 18 = .ok (.getfield 69, 3) := by decide +kernel
theorem dX4_topmostLine_21 : decode cX4_topmostLine 21 = .ok (.iconst 1, 1) := by decide +kernel
theorem dX4_topmostLine_22 : decode cX4_topmostLine 22 = .ok (.iadd, 1) := by decide +kernel
theorem dX4_topmostLine_23 : decode cX4_topmostLine 23 = .ok (.goto 4, 3) := by decide +kernel
theorem dX4_topmostLine_26 : decode cX4_topmostLine 26 = .ok (.iconst 1, 1) := by decide +kernel
theorem dX4_topmostLine_27 : decode cX4_topmostLine 27 = .ok (.ireturn, 1) := by decide +kernel
theorem dX4_lowestLine_0 : decode cX4_lowestLine 0 = .ok (.iload_n 1, 1) := by decide +kernel
theorem dX4_lowestLine_1 : decode cX4_lowestLine 1 = .ok (.invokestatic 209, 3) := by decide +kernel
theorem dX4_lowestLine_4 : decode cX4_lowestLine 4 = .ok (.ifCond .eq 8, 3) := by decide +kernel
theorem dX4_lowestLine_7 : decode cX4_lowestLine 7 = .ok (.aload_n 0, 1) := by decide +kernel
theorem dX4_lowestLine_8 : decode cX4_lowestLine 8 = .ok (.getfield 69, 3) := by decide +kernel
theorem dX4_lowestLine_11 : decode cX4_lowestLine 11 = .ok (.ireturn, 1) := by decide +kernel
theorem dX4_lowestLine_12 : decode cX4_lowestLine 12 = .ok (.iload_n 1, 1) := by decide +kernel
theorem dX4_lowestLine_13 : decode cX4_lowestLine 13 = .ok (.ifCond .eq 8, 3) := by decide +kernel
theorem dX4_lowestLine_16 : decode cX4_lowestLine 16 = .ok (.iload_n 1, 1) := by decide +kernel
theorem dX4_lowestLine_17 : decode cX4_lowestLine 17 = .ok (.iconst 1, 1) := by decide +kernel
theorem dX4_lowestLine_18 : decode cX4_lowestLine 18 = .ok (.if_icmp .ne 12, 3) := by decide +kernel
theorem dX4_lowestLine_21 : decode cX4_lowestLine 21 = .ok (.aload_n 0, 1) := by decide +kernel
theorem dX4_lowestLine_22 : decode cX4_lowestLine 22 = .ok (.getfield 66, 3) := by decide +kernel
theorem dX4_lowestLine_25 : decode cX4_lowestLine 25 = .ok (.iconst 1, 1) := by decide +kernel
theorem dX4_lowestLine_26 : decode cX4_lowestLine 26 = .ok (.isub, 1) := by decide +kernel
theorem dX4_lowestLine_27 : decode cX4_lowestLine 27 = .ok (.goto 7, 3) := by decide +kernel
theorem dX4_lowestLine_30 : decode cX4_lowestLine 30 = .ok (.aload_n 0, 1) := by decide +kernel
theorem dX4_lowestLine_31 : decode cX4_lowestLine 31 = .ok (.getfield 63, 3) := by decide +kernel
theorem dX4_lowestLine_34 : decode cX4_lowestLine 34 = .ok (.ireturn, 1) := by decide +kernel
theorem dX4_startOnNewPage_0 : decode cX4_startOnNewPage 0 = .ok (.iload_n 3, 1) := by decide +kernel
theorem dX4_startOnNewPage_1 : decode cX4_startOnNewPage 1 = .ok (.ifCond .ne 5, 3) := by decide +kernel
theorem dX4_startOnNewPage_4 : decode cX4_startOnNewPage 4 = .ok (.iload_n 2, 1) := by decide +kernel
theorem dX4_startOnNewPage_5 : decode cX4_startOnNewPage 5 = .ok (.ireturn, 1) := by decide +kernel
theorem dX4_startOnNewPage_6 : decode cX4_startOnNewPage 6 = .ok (.iload_n 1, 1) := by decide +kernel
theorem dX4_startOnNewPage_7 : decode cX4_startOnNewPage 7 = .ok (.invokestatic 209, 3) := by decide +kernel
theorem dX4_startOnNewPage_10 : decode cX4_startOnNewPage 10 = .ok (.ifCond .eq 8, 3) := by decide +kernel
theorem dX4_startOnNewPage_13 : decode cX4_startOnNewPage 13 = .ok (.aload_n 0, 1) := by decide +kernel
theorem dX4_startOnNewPage_14 : decode cX4_startOnNewPage 14 = .ok (.getfield 66, 3) := by decide +kernel
theorem dX4_startOnNewPage_17 : decode cX4_startOnNewPage 17 = .ok (.ireturn, 1) := by decide +kernel
theorem dX4_startOnNewPage_18 : decode cX4_startOnNewPage 18 = .ok (.iload_n 1, 1) := by decide +kernel
theorem dX4_startOnNewPage_19 : decode cX4_startOnNewPage 19 = .ok (.iconst 5, 1) := by decide +kernel
theorem dX4_startOnNewPage_20 : decode cX4_startOnNewPage 20 = .ok (.if_icmp .ne 12, 3) := by decide +kernel
theorem dX4_startOnNewPage_23 : decode cX4_startOnNewPage 23 = .ok (.aload_n 0, 1) := by decide +kernel
theorem dX4_startOnNewPage_24 : decode cX4_startOnNewPage 24 = .ok (.getfield 69, 3) := by decide +kernel
theorem dX4_startOnNewPage_27 : decode cX4_startOnNewPage 27 = .ok (.iload_n 2, 1) := by decide +kernel
theorem dX4_startOnNewPage_28 : decode cX4_startOnNewPage 28 = .ok (.iadd, 1) := by decide +kernel
theorem dX4_startOnNewPage_29 : decode cX4_startOnNewPage 29 = .ok (.goto 4, 3) := by decide +kernel
theorem dX4_startOnNewPage_32 : decode cX4_startOnNewPage 32 = .ok (.iload_n 2, 1) := by decide +kernel
theorem dX4_startOnNewPage_33 : decode cX4_startOnNewPage 33 = .ok (.ireturn, 1) := by decide +kernel
theorem dX4_startInBody_0 : decode cX4_startInBody 0 = .ok (.aload_n 1, 1) := by decide +kernel
theorem dX4_startInBody_1 : decode cX4_startInBody 1 = .ok (.getfield 213, 3) := by decide +kernel
theorem dX4_startInBody_4 : decode cX4_startInBody 4 = .ok (.ifCond .eq 20, 3) := by decide +kernel
theorem dX4_startInBody_7 : decode cX4_startInBody 7 = .ok (.aload_n 0, 1) := by decide +kernel
theorem dX4_startInBody_8 : decode cX4_startInBody 8 = .ok (.getfield 47, 3) := by decide +kernel
theorem dX4_startInBody_11 : decode cX4_startInBody 11 = .ok (.ifCond .le 13, 3) := by decide +kernel
theorem dX4_startInBody_14 : decode cX4_startInBody 14 = .ok (.aload_n 0, 1) := by decide +kernel
theorem dX4_startInBody_15 : decode cX4_startInBody 15 = .ok (.getfield 47, 3) := by decide +kernel
theorem dX4_startInBody_18 : decode cX4_startInBody 18 = .ok (.aload_n 1, 1) := by decide +kernel
theorem dX4_startInBody_19 : decode cX4_startInBody 19 = .ok (.getfield 216, 3) := by decide +kernel
theorem dX4_startInBody_22 : decode cX4_startInBody 22 = .ok (.iadd, 1) := by decide +kernel
theorem dX4_startInBody_23 : decode cX4_startInBody 23 = .ok (.ireturn, 1) := by decide +kernel
theorem dX4_startInBody_24 : decode cX4_startInBody 24 = .ok (.aload_n 0, 1) := by decide +kernel
theorem dX4_startInBody_25 : decode cX4_startInBody 25 = .ok (.aload_n 1, 1) := by decide +kernel
theorem dX4_startInBody_26 : decode cX4_startInBody 26 = .ok (.getfield 108, 3) := by decide +kernel
theorem dX4_startInBody_29 : decode cX4_startInBody 29 = .ok (.aload_n 1, 1) := by decide +kernel
theorem dX4_startInBody_30 : decode cX4_startInBody 30 = .ok (.getfield 216, 3) := by decide +kernel
theorem dX4_startInBody_33 : decode cX4_startInBody 33 = .ok (.aload_n 1, 1) := by decide +kernel
theorem dX4_startInBody_34 : decode cX4_startInBody 34 = .ok (.getfield 213, 3) := by decide +kernel
theorem dX4_startInBody_37 : decode cX4_startInBody 37 = .ok (.invokevirtual 219, 3) := by decide +kernel
theorem dX4_startInBody_40 : decode cX4_startInBody 40 = .ok (.ireturn, 1) := by decide +kernel
theorem dX4_fitsWithLine_0 : decode cX4_fitsWithLine 0 = .ok (.aload_n 1, 1) := by decide +kernel
theorem dX4_fitsWithLine_1 : decode cX4_fitsWithLine 1 = .ok (.getfield 97, 3) := by decide +kernel
theorem dX4_fitsWithLine_4 : decode cX4_fitsWithLine 4 = .ok (.ifCond .ne 47, 3) := by decide +kernel
theorem dX4_fitsWithLine_7 : decode cX4_fitsWithLine 7 = .ok (.aload_n 0, 1) := by decide +kernel
theorem dX4_fitsWithLine_8 : decode cX4_fitsWithLine 8 = .ok (.aload_n 1, 1) := by decide +kernel
theorem dX4_fitsWithLine_9 : decode cX4_fitsWithLine 9 = .ok (.getfield 108, 3) := by decide +kernel
theorem dX4_fitsWithLine_12 : decode cX4_fitsWithLine 12 = .ok (.iload_n 2, 1) := by decide +kernel
theorem dX4_fitsWithLine_13 : decode cX4_fitsWithLine 13 = .ok (.iload_n 3, 1) := by decide +kernel
theorem dX4_fitsWithLine_14 : decode cX4_fitsWithLine 14 = .ok (.invokevirtual 219, 3) := by decide +kernel
theorem dX4_fitsWithLine_17 : decode cX4_fitsWithLine 17 = .ok (.istore 4, 2) := by decide +kernel
theorem dX4_fitsWithLine_19 : decode cX4_fitsWithLine 19 = .ok (.iload 4, 2) := by decide +kernel
theorem dX4_fitsWithLine_21 : decode cX4_fitsWithLine 21 = .ok (.aload_n 0, 1) := by decide +kernel
theorem dX4_fitsWithLine_22 : decode cX4_fitsWithLine 22 = .ok (.aload_n 1, 1) := by decide +kernel
theorem dX4_fitsWithLine_23 : decode cX4_fitsWithLine 23 = .ok (.getfield 108, 3) := by decide +kernel
theorem dX4_fitsWithLine_26 : decode cX4_fitsWithLine 26 = .ok (.invokevirtual 223, 3) := by decide +kernel
theorem dX4_fitsWithLine_29 : decode cX4_fitsWithLine 29 = .ok (.if_icmp .lt 20, 3) := by decide +kernel
theorem dX4_fitsWithLine_32 : decode cX4_fitsWithLine 32 = .ok (.iload 4, 2) := by decide +kernel
theorem dX4_fitsWithLine_34 : decode cX4_fitsWithLine 34 = .ok (.aload_n 0, 1) := by decide +kernel
theorem dX4_fitsWithLine_35 : decode cX4_fitsWithLine 35 = .ok (.aload_n 1, 1) := by decide +kernel
theorem dX4_fitsWithLine_36 : decode cX4_fitsWithLine 36 = .ok (.getfield 108, 3) := by decide +kernel
theorem dX4_fitsWithLine_39 : decode cX4_fitsWithLine 39 = .ok (.invokevirtual 227, 3) := by decide +kernel
theorem dX4_fitsWithLine_42 : decode cX4_fitsWithLine 42 = .ok (.if_icmp .gt 7, 3) := by decide +kernel
theorem dX4_fitsWithLine_45 : decode cX4_fitsWithLine 45 = .ok (.iconst 1, 1) := by decide +kernel
theorem dX4_fitsWithLine_46 : decode cX4_fitsWithLine 46 = .ok (.goto 4, 3) := by decide +kernel
theorem dX4_fitsWithLine_49 : decode cX4_fitsWithLine 49 = .ok (.iconst 0, 1) := by decide +kernel
theorem dX4_fitsWithLine_50 : decode cX4_fitsWithLine 50 = .ok (.ireturn, 1) := by decide +kernel
theorem dX4_fitsWithLine_51 : decode cX4_fitsWithLine 51 = .ok (.aload_n 0, 1) := by decide +kernel
theorem dX4_fitsWithLine_52 : decode cX4_fitsWithLine 52 = .ok (.aload_n 1, 1) := by decide +kernel
theorem dX4_fitsWithLine_53 : decode cX4_fitsWithLine 53 = .ok (.getfield 108, 3) := by decide +kernel
theorem dX4_fitsWithLine_56 : decode cX4_fitsWithLine 56 = .ok (.aload_n 1, 1) := by decide +kernel
theorem dX4_fitsWithLine_57 : decode cX4_fitsWithLine 57 = .ok (.getfield 216, 3) := by decide +kernel
theorem dX4_fitsWithLine_60 : decode cX4_fitsWithLine 60 = .ok (.aload_n 1, 1) := by decide +kernel
theorem dX4_fitsWithLine_61 : decode cX4_fitsWithLine 61 = .ok (.getfield 213, 3) := by decide +kernel
theorem dX4_fitsWithLine_64 : decode cX4_fitsWithLine 64 = .ok (.invokevirtual 219, 3) := by decide +kernel
theorem dX4_fitsWithLine_67 : decode cX4_fitsWithLine 67 = .ok (.istore 4, 2) := by decide +kernel
theorem dX4_fitsWithLine_69 : decode cX4_fitsWithLine 69 = .ok (.iload 4, 2) := by decide +kernel
theorem dX4_fitsWithLine_71 : decode cX4_fitsWithLine 71 = .ok (.aload_n 1, 1) := by decide +kernel
theorem dX4_fitsWithLine_72 : decode cX4_fitsWithLine 72 = .ok (.invokevirtual 230, 3) := by decide +kernel
theorem dX4_fitsWithLine_75 : decode cX4_fitsWithLine 75 = .ok (.iadd, 1) := by decide +kernel
theorem dX4_fitsWithLine_76 : decode cX4_fitsWithLine 76 = .ok (.iload_n 2, 1) := by decide +kernel
theorem dX4_fitsWithLine_77 : decode cX4_fitsWithLine 77 = .ok (.iadd, 1) := by decide +kernel
theorem dX4_fitsWithLine_78 : decode cX4_fitsWithLine 78 = .ok (.aload_n 0, 1) := by decide +kernel
theorem dX4_fitsWithLine_79 : decode cX4_fitsWithLine 79 = .ok (.aload_n 1, 1) := by decide +kernel
theorem dX4_fitsWithLine_80 : decode cX4_fitsWithLine 80 = .ok (.getfield 108, 3) := by decide +kernel
theorem dX4_fitsWithLine_83 : decode cX4_fitsWithLine 83 = .ok (.invokevirtual 227, 3) := by decide +kernel
theorem dX4_fitsWithLine_86 : decode cX4_fitsWithLine 86 = .ok (.if_icmp .gt 7, 3) := by decide +kernel
theorem dX4_fitsWithLine_89 : decode cX4_fitsWithLine 89 = .ok (.iconst 1, 1) := by decide +kernel
theorem dX4_fitsWithLine_90 : decode cX4_fitsWithLine 90 = .ok (.goto 4, 3) := by decide +kernel
theorem dX4_fitsWithLine_93 : decode cX4_fitsWithLine 93 = .ok (.iconst 0, 1) := by decide +kernel
theorem dX4_fitsWithLine_94 : decode cX4_fitsWithLine 94 = .ok (.ireturn, 1) := by decide +kernel
theorem dX4_printInBody_0 : decode cX4_printInBody 0 = .ok (.aload_n 1, 1) := by decide +kernel
theorem dX4_printInBody_1 : decode cX4_printInBody 1 = .ok (.ifnull 10, 3) := by decide +kernel
theorem dX4_printInBody_4 : decode cX4_printInBody 4 = .ok (.aload_n 1, 1) := by decide +kernel
theorem dX4_printInBody_5 : decode cX4_printInBody 5 = .ok (.invokevirtual 233, 3) := by decide +kernel
theorem dX4_printInBody_8 : decode cX4_printInBody 8 = .ok (.ifCond .ne 4, 3) := by decide +kernel
theorem dX4_printInBody_11 : decode cX4_printInBody 11 = .ok (.return_, 1) := by decide +kernel
theorem dX4_printInBody_12 : decode cX4_printInBody 12 = .ok (.aload_n 0, 1) := by decide +kernel
theorem dX4_printInBody_13 : decode cX4_printInBody 13 = .ok (.aload_n 1, 1) := by decide +kernel
theorem dX4_printInBody_14 : decode cX4_printInBody 14 = .ok (.invokevirtual 237, 3) := by decide +kernel
theorem dX4_printInBody_17 : decode cX4_printInBody 17 = .ok (.istore 4, 2) := by decide +kernel
theorem dX4_printInBody_19 : decode cX4_printInBody 19 = .ok (.iload 4, 2) := by decide +kernel
theorem dX4_printInBody_21 : decode cX4_printInBody 21 = .ok (.aload_n 0, 1) := by decide +kernel
theorem dX4_printInBody_22 : decode cX4_printInBody 22 = .ok (.getfield 47, 3) := by decide +kernel
theorem dX4_printInBody_25 : decode cX4_printInBody 25 = .ok (.if_icmp .le 17, 3) := by decide +kernel
theorem dX4_printInBody_28 : decode cX4_printInBody 28 = .ok (.iload 4, 2) := by decide +kernel
theorem dX4_printInBody_30 : decode cX4_printInBody 30 = .ok (.aload_n 1, 1) := by decide +kernel
theorem dX4_printInBody_31 : decode cX4_printInBody 31 = .ok (.invokevirtual 230, 3) := by decide +kernel
theorem dX4_printInBody_34 : decode cX4_printInBody 34 = .ok (.iadd, 1) := by decide +kernel
theorem dX4_printInBody_35 : decode cX4_printInBody 35 = .ok (.aload_n 0, 1) := by decide +kernel
theorem dX4_printInBody_36 : decode cX4_printInBody 36 = .ok (.getfield 69, 3) := by decide +kernel
theorem dX4_printInBody_39 : decode cX4_printInBody 39 = .ok (.if_icmp .le 18, 3) := by decide +kernel
theorem dX4_printInBody_42 : decode cX4_printInBody 42 = .ok (.aload_n 0, 1) := by decide +kernel
theorem dX4_printInBody_43 : decode cX4_printInBody 43 = .ok (.invokevirtual 170, 3) := by decide +kernel
theorem dX4_printInBody_46 : decode cX4_printInBody 46 = .ok (.aload_n 0, 1) := by decide +kernel
theorem dX4_printInBody_47 : decode cX4_printInBody 47 = .ok (.invokevirtual 146, 3) := by decide +kernel
theorem dX4_printInBody_50 : decode cX4_printInBody 50 = .ok (.aload_n 0, 1) := by decide +kernel
theorem dX4_printInBody_51 : decode cX4_printInBody 51 = .ok (.aload_n 1, 1) := by decide +kernel
theorem dX4_printInBody_52 : decode cX4_printInBody 52 = .ok (.invokevirtual 237, 3) := by decide +kernel
theorem dX4_printInBody_55 : decode cX4_printInBody 55 = .ok (.istore 4, 2) := by decide +kernel
theorem dX4_printInBody_57 : decode cX4_printInBody 57 = .ok (.aload_n 1, 1) := by decide +kernel
theorem dX4_printInBody_58 : decode cX4_printInBody 58 = .ok (.getfield 194, 3) := by decide +kernel
theorem dX4_printInBody_61 : decode cX4_printInBody 61 = .ok (.ifCond .eq 18, 3) := by decide +kernel
theorem dX4_printInBody_64 : decode cX4_printInBody 64 = .ok (.aload_n 1, 1) := by decide +kernel
theorem dX4_printInBody_65 : decode cX4_printInBody 65 = .ok (.getfield 241, 3) := by decide +kernel
theorem dX4_printInBody_68 : decode cX4_printInBody 68 = .ok (.aload_n 0, 1) := by decide +kernel
theorem dX4_printInBody_69 : decode cX4_printInBody 69 = .ok (.getfield 56, 3) := by decide +kernel
theorem dX4_printInBody_72 : decode cX4_printInBody 72 = .ok (.if_icmp .ne 7, 3) := by decide +kernel
theorem dX4_printInBody_75 : decode cX4_printInBody 75 = .ok (.iconst 1, 1) := by decide +kernel
theorem dX4_printInBody_76 : decode cX4_printInBody 76 = .ok (.goto 4, 3) := by decide +kernel
theorem dX4_printInBody_79 : decode cX4_printInBody 79 = .ok (.iconst 0, 1) := by decide +kernel
theorem dX4_printInBody_80 : decode cX4_printInBody 80 = .ok (.istore 5, 2) := by decide +kernel
theorem dX4_printInBody_82 : decode cX4_printInBody 82 = .ok (.aload_n 0, 1) := by decide +kernel
theorem dX4_printInBody_83 : decode cX4_printInBody 83 = .ok (.iload 4, 2) := by decide +kernel
theorem dX4_printInBody_85 : decode cX4_printInBody 85 = .ok (.aload_n 1, 1) := by decide +kernel
theorem dX4_printInBody_86 : decode cX4_printInBody 86 = .ok (.iload 5, 2) := by decide +kernel
theorem dX4_printInBody_88 : decode cX4_printInBody 88 = .ok (.ifCond .eq 7, 3) := by decide +kernel
theorem dX4_printInBody_91 : decode cX4_printInBody 91 = .ok (.lconst 0, 1) := by decide +kernel
theorem dX4_printInBody_92 : decode cX4_printInBody 92 = .ok (.goto 4, 3) := by decide +kernel
theorem dX4_printInBody_95 : decode cX4_printInBody 95 = .ok (.lload_n 2, 1) := by decide +kernel
theorem dX4_printInBody_96 : decode cX4_printInBody 96 = .ok (.invokevirtual 244, 3) := by decide +kernel
theorem dX4_printInBody_99 : decode cX4_printInBody 99 = .ok (.aload_n 0, 1) := by decide +kernel
theorem dX4_printInBody_100 : decode cX4_printInBody 100 = .ok (.aload_n 0, 1) := by decide +kernel
theorem dX4_printInBody_101 : decode cX4_printInBody 101 = .ok (.getfield 44, 3) := by decide +kernel
theorem dX4_printInBody_104 : decode cX4_printInBody 104 = .ok (.putfield 47, 3) := by decide +kernel
theorem dX4_printInBody_107 : decode cX4_printInBody 107 = .ok (.aload_n 1, 1) := by decide +kernel
theorem dX4_printInBody_108 : decode cX4_printInBody 108 = .ok (.aload_n 0, 1) := by decide +kernel
theorem dX4_printInBody_109 : decode cX4_printInBody 109 = .ok (.getfield 56, 3) := by decide +kernel
theorem dX4_printInBody_112 : decode cX4_printInBody 112 = .ok (.putfield 241, 3) := by decide +kernel
theorem dX4_printInBody_115 : decode cX4_printInBody 115 = .ok (.return_, 1) := by decide +kernel
theorem dX4_beginPage_0 : decode cX4_beginPage 0 = .ok (.aload_n 0, 1) := by decide +kernel
theorem dX4_beginPage_1 : decode cX4_beginPage 1 = .ok (.invokevirtual 248, 3) := by decide +kernel
theorem dX4_beginPage_4 : decode cX4_beginPage 4 = .ok (.aload_n 0, 1) := by decide +kernel
theorem dX4_beginPage_5 : decode cX4_beginPage 5 = .ok (.dup, 1) := by decide +kernel
theorem dX4_beginPage_6 : decode cX4_beginPage 6 = .ok (.getfield 56, 3) := by decide +kernel
theorem dX4_beginPage_9 : decode cX4_beginPage 9 = .ok (.iconst 1, 1) := by decide +kernel
theorem dX4_beginPage_10 : decode cX4_beginPage 10 = .ok (.iadd, 1) := by decide +kernel
theorem dX4_beginPage_11 : decode cX4_beginPage 11 = .ok (.putfield 56, 3) := by decide +kernel
theorem dX4_beginPage_14 : decode cX4_beginPage 14 = .ok (.aload_n 0, 1) := by decide +kernel
theorem dX4_beginPage_15 : decode cX4_beginPage 15 = .ok (.aload_n 0, 1) := by decide +kernel
theorem dX4_beginPage_16 : decode cX4_beginPage 16 = .ok (.iconst 1, 1) := by decide +kernel
theorem dX4_beginPage_17 : decode cX4_beginPage 17 = .ok (.iconst 0, 1) := by decide +kernel
theorem dX4_beginPage_18 : decode cX4_beginPage 18 = .ok (.invokevirtual 76, 3) := by decide +kernel
theorem dX4_beginPage_21 : decode cX4_beginPage 21 = .ok (.invokevirtual 251, 3) := by decide +kernel
theorem dX4_beginPage_24 : decode cX4_beginPage 24 = .ok (.return_, 1) := by decide +kernel
theorem dX4_endPage_0 : decode cX4_endPage 0 = .ok (.aload_n 0, 1) := by decide +kernel
theorem dX4_endPage_1 : decode cX4_endPage 1 = .ok (.aload_n 0, 1) := by decide +kernel
theorem dX4_endPage_2 : decode cX4_endPage 2 = .ok (.iconst 5, 1) := by decide +kernel
theorem dX4_endPage_3 : decode cX4_endPage 3 = .ok (.iconst 0, 1) := by decide +kernel
theorem dX4_endPage_4 : decode cX4_endPage 4 = .ok (.invokevirtual 76, 3) := by decide +kernel
theorem dX4_endPage_7 : decode cX4_endPage 7 = .ok (.invokevirtual 251, 3) := by decide +kernel
theorem dX4_endPage_10 : decode cX4_endPage 10 = .ok (.return_, 1) := by decide +kernel
theorem dX4_countPage_0 : decode cX4_countPage 0 = .ok (.aload_n 0, 1) := by decide +kernel
theorem dX4_countPage_1 : decode cX4_countPage 1 = .ok (.dup, 1) := by decide +kernel
theorem dX4_countPage_2 : decode cX4_countPage 2 = .ok (.getfield 41, 3) := by decide +kernel
theorem dX4_countPage_5 : decode cX4_countPage 5 = .ok (.iconst 1, 1) := by decide +kernel
theorem dX4_countPage_6 : decode cX4_countPage 6 = .ok (.iadd, 1) := by decide +kernel
theorem dX4_countPage_7 : decode cX4_countPage 7 = .ok (.putfield 41, 3) := by decide +kernel
theorem dX4_countPage_10 : decode cX4_countPage 10 = .ok (.aload_n 0, 1) := by decide +kernel
theorem dX4_countPage_11 : decode cX4_countPage 11 = .ok (.iconst 0, 1) := by decide +kernel
theorem dX4_countPage_12 : decode cX4_countPage 12 = .ok (.putfield 44, 3) := by decide +kernel
theorem dX4_countPage_15 : decode cX4_countPage 15 = .ok (.aload_n 0, 1) := by decide +kernel
theorem dX4_countPage_16 : decode cX4_countPage 16 = .ok (.iconst 0, 1) := by decide +kernel
theorem dX4_countPage_17 : decode cX4_countPage 17 = .ok (.putfield 47, 3) := by decide +kernel
theorem dX4_countPage_20 : decode cX4_countPage 20 = .ok (.return_, 1) := by decide +kernel
theorem dX4_printOutsideBody_0 : decode cX4_printOutsideBody 0 = .ok (.aload_n 1, 1) := by decide +kernel
theorem dX4_printOutsideBody_1 : decode cX4_printOutsideBody 1 = .ok (.ifnull 32, 3) := by decide +kernel
theorem dX4_printOutsideBody_4 : decode cX4_printOutsideBody 4 = .ok (.aload_n 1, 1) := by decide +kernel
theorem dX4_printOutsideBody_5 : decode cX4_printOutsideBody 5 = .ok (.invokevirtual 233, 3) := by decide +kernel
theorem dX4_printOutsideBody_8 : decode cX4_printOutsideBody 8 = .ok (.ifCond .eq 25, 3) := by decide +kernel
theorem dX4_printOutsideBody_11 : decode cX4_printOutsideBody 11 = .ok (.aload_n 0, 1) := by decide +kernel
theorem dX4_printOutsideBody_12 : decode cX4_printOutsideBody 12 = .ok (.aload_n 0, 1) := by decide +kernel
theorem dX4_printOutsideBody_13 : decode cX4_printOutsideBody 13 = .ok (.aload_n 1, 1) := by decide +kernel
theorem dX4_printOutsideBody_14 : decode cX4_printOutsideBody 14 = .ok (.getfield 108, 3) := by decide +kernel
theorem dX4_printOutsideBody_17 : decode cX4_printOutsideBody 17 = .ok (.aload_n 1, 1) := by decide +kernel
theorem dX4_printOutsideBody_18 : decode cX4_printOutsideBody 18 = .ok (.getfield 216, 3) := by decide +kernel
theorem dX4_printOutsideBody_21 : decode cX4_printOutsideBody 21 = .ok (.aload_n 1, 1) := by decide +kernel
theorem dX4_printOutsideBody_22 : decode cX4_printOutsideBody 22 = .ok (.getfield 213, 3) := by decide +kernel
theorem dX4_printOutsideBody_25 : decode cX4_printOutsideBody 25 = .ok (.invokevirtual 219, 3) := by decide +kernel
theorem dX4_printOutsideBody_28 : decode cX4_printOutsideBody 28 = .ok (.aload_n 1, 1) := by decide +kernel
theorem dX4_printOutsideBody_29 : decode cX4_printOutsideBody 29 = .ok (.lconst 0, 1) := by decide +kernel
theorem dX4_printOutsideBody_30 : decode cX4_printOutsideBody 30 = .ok (.invokevirtual 244, 3) := by decide +kernel
theorem dX4_printOutsideBody_33 : decode cX4_printOutsideBody 33 = .ok (.return_, 1) := by decide +kernel
theorem dX4_printOnOwnPage_0 : decode cX4_printOnOwnPage 0 = .ok (.aload_n 1, 1) := by decide +kernel
theorem dX4_printOnOwnPage_1 : decode cX4_printOnOwnPage 1 = .ok (.ifnull 36, 3) := by decide +kernel
theorem dX4_printOnOwnPage_4 : decode cX4_printOnOwnPage 4 = .ok (.aload_n 1, 1) := by decide +kernel
theorem dX4_printOnOwnPage_5 : decode cX4_printOnOwnPage 5 = .ok (.invokevirtual 233, 3) := by decide +kernel
theorem dX4_printOnOwnPage_8 : decode cX4_printOnOwnPage 8 = .ok (.ifCond .eq 29, 3) := by decide +kernel
theorem dX4_printOnOwnPage_11 : decode cX4_printOnOwnPage 11 = .ok (.aload_n 0, 1) := by decide +kernel
theorem dX4_printOnOwnPage_12 : decode cX4_printOnOwnPage 12 = .ok (.invokevirtual 248, 3) := by decide +kernel
theorem dX4_printOnOwnPage_15 : decode cX4_printOnOwnPage 15 = .ok (.aload_n 0, 1) := by decide +kernel
theorem dX4_printOnOwnPage_16 : decode cX4_printOnOwnPage 16 = .ok (.aload_n 0, 1) := by decide +kernel
theorem dX4_printOnOwnPage_17 : decode cX4_printOnOwnPage 17 = .ok (.aload_n 1, 1) := by decide +kernel
theorem dX4_printOnOwnPage_18 : decode cX4_printOnOwnPage 18 = .ok (.getfield 108, 3) := by decide +kernel
theorem dX4_printOnOwnPage_21 : decode cX4_printOnOwnPage 21 = .ok (.aload_n 1, 1) := by decide +kernel
theorem dX4_printOnOwnPage_22 : decode cX4_printOnOwnPage 22 = .ok (.getfield 216, 3) := by decide +kernel
theorem dX4_printOnOwnPage_25 : decode cX4_printOnOwnPage 25 = .ok (.aload_n 1, 1) := by decide +kernel
theorem dX4_printOnOwnPage_26 : decode cX4_printOnOwnPage 26 = .ok (.getfield 213, 3) := by decide +kernel
theorem dX4_printOnOwnPage_29 : decode cX4_printOnOwnPage 29 = .ok (.invokevirtual 219, 3) := by decide +kernel
theorem dX4_printOnOwnPage_32 : decode cX4_printOnOwnPage 32 = .ok (.aload_n 1, 1) := by decide +kernel
theorem dX4_printOnOwnPage_33 : decode cX4_printOnOwnPage 33 = .ok (.lconst 0, 1) := by decide +kernel
theorem dX4_printOnOwnPage_34 : decode cX4_printOnOwnPage 34 = .ok (.invokevirtual 244, 3) := by decide +kernel
theorem dX4_printOnOwnPage_37 : decode cX4_printOnOwnPage 37 = .ok (.return_, 1) := by decide +kernel
theorem dX4_printFrom_0 : decode cX4_printFrom 0 = .ok (.iconst 0, 1) := by decide +kernel
theorem dX4_printFrom_1 : decode cX4_printFrom 1 = .ok (.istore 5, 2) := by decide +kernel
theorem dX4_printFrom_3 : decode cX4_printFrom 3 = .ok (.iload 5, 2) := by decide +kernel
theorem dX4_printFrom_5 : decode cX4_printFrom 5 = .ok (.aload_n 2, 1) := by decide +kernel
theorem dX4_printFrom_6 : decode cX4_printFrom 6 = .ok (.getfield 97, 3) := by decide +kernel
theorem dX4_printFrom_9 : decode cX4_printFrom 9 = .ok (.if_icmp .ge 45, 3) := by decide +kernel
theorem dX4_printFrom_12 : decode cX4_printFrom 12 = .ok (.aload_n 0, 1) := by decide +kernel
theorem dX4_printFrom_13 : decode cX4_printFrom 13 = .ok (.iload_n 1, 1) := by decide +kernel
theorem dX4_printFrom_14 : decode cX4_printFrom 14 = .ok (.aload_n 2, 1) := by decide +kernel
theorem dX4_printFrom_15 : decode cX4_printFrom 15 = .ok (.getfield 254, 3) := by decide +kernel
theorem dX4_printFrom_18 : decode cX4_printFrom 18 = .ok (.iload 5, 2) := by decide +kernel
theorem dX4_printFrom_20 : decode cX4_printFrom 20 = .ok (.iaload, 1) := by decide +kernel
theorem dX4_printFrom_21 : decode cX4_printFrom 21 = .ok (.iadd, 1) := by decide +kernel
theorem dX4_printFrom_22 : decode cX4_printFrom 22 = .ok (.putfield 44, 3) := by decide +kernel
theorem dX4_printFrom_25 : decode cX4_printFrom 25 = .ok (.aload_n 0, 1) := by decide +kernel
theorem dX4_printFrom_26 : decode cX4_printFrom 26 = .ok (.getfield 33, 3) := by decide +kernel
theorem dX4_printFrom_29 : decode cX4_printFrom 29 = .ok (.aload_n 0, 1) := by decide +kernel
theorem dX4_printFrom_30 : decode cX4_printFrom 30 = .ok (.getfield 41, 3) := by decide +kernel
theorem dX4_printFrom_33 : decode cX4_printFrom 33 = .ok (.aload_n 0, 1) := by decide +kernel
theorem dX4_printFrom_34 : decode cX4_printFrom 34 = .ok (.getfield 44, 3) := by decide +kernel
theorem dX4_printFrom_37 : decode cX4_printFrom 37 = .ok (.aload_n 2, 1) := by decide +kernel
theorem dX4_printFrom_38 : decode cX4_printFrom 38 = .ok (.getfield 119, 3) := by decide +kernel
theorem dX4_printFrom_41 : decode cX4_printFrom 41 = .ok (.iload 5, 2) := by decide +kernel
theorem dX4_printFrom_43 : decode cX4_printFrom 43 = .ok (.lload_n 3, 1) := by decide +kernel
theorem dX4_printFrom_44 : decode cX4_printFrom 44 = .ok (.l2i, 1) := by decide +kernel
theorem dX4_printFrom_45 : decode cX4_printFrom 45 = .ok (.invokevirtual 257, 3) := by decide +kernel
theorem dX4_printFrom_48 : decode cX4_printFrom 48 = .ok (.iinc 5 1, 3) := by decide +kernel
theorem dX4_printFrom_51 : decode cX4_printFrom 51 = .ok (.goto (-48), 3) := by decide +kernel
theorem dX4_printFrom_54 : decode cX4_printFrom 54 = .ok (.return_, 1) := by decide +kernel
theorem dX4_changedLevel_0 : decode cX4_changedLevel 0 = .ok (.iconst 1, 1) := by decide +kernel
theorem dX4_changedLevel_1 : decode cX4_changedLevel 1 = .ok (.istore_n 1, 1) := by decide +kernel
theorem dX4_changedLevel_2 : decode cX4_changedLevel 2 = .ok (.iload_n 1, 1) := by decide +kernel
theorem dX4_changedLevel_3 : decode cX4_changedLevel 3 = .ok (.aload_n 0, 1) := by decide +kernel
theorem dX4_changedLevel_4 : decode cX4_changedLevel 4 = .ok (.getfield 19, 3) := by decide +kernel
