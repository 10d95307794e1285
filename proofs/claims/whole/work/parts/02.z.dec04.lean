theorem dX4_changedLevel_7 : decode cX4_changedLevel 7 = .ok (.if_icmp .gt 24, 3) := by decide +kernel
theorem dX4_changedLevel_10 : decode cX4_changedLevel 10 = .ok (.aload_n 0, 1) := by decide +kernel
theorem dX4_changedLevel_11 : decode cX4_changedLevel 11 = .ok (.getfield 23, 3) := by decide +kernel
theorem dX4_changedLevel_14 : decode cX4_changedLevel 14 = .ok (.iload_n 1, 1) := by decide +kernel
theorem dX4_changedLevel_15 : decode cX4_changedLevel 15 = .ok (.iaload, 1) := by decide +kernel
theorem dX4_changedLevel_16 : decode cX4_changedLevel 16 = .ok (.aload_n 0, 1) := by decide +kernel
theorem dX4_changedLevel_17 : decode cX4_changedLevel 17 = .ok (.getfield 27, 3) := by decide +kernel
theorem dX4_changedLevel_20 : decode cX4_changedLevel 20 = .ok (.iload_n 1, 1) := by decide +kernel
theorem dX4_changedLevel_21 : decode cX4_changedLevel 21 = .ok (.iaload, 1) := by decide +kernel
theorem dX4_changedLevel_22 : decode cX4_changedLevel 22 = .ok (.if_icmp .ne 9, 3) := by decide +kernel
theorem dX4_changedLevel_25 : decode cX4_changedLevel 25 = .ok (.iinc 1 1, 3) := by decide +kernel
theorem dX4_changedLevel_28 : decode cX4_changedLevel 28 = .ok (.goto (-26), 3) := by decide +kernel
theorem dX4_changedLevel_31 : decode cX4_changedLevel 31 = .ok (.iload_n 1, 1) := by decide +kernel
theorem dX4_changedLevel_32 : decode cX4_changedLevel 32 = .ok (.ireturn, 1) := by decide +kernel
theorem dX4_printControlHeads_0 : decode cX4_printControlHeads 0 = .ok (.iload_n 1, 1) := by decide +kernel
theorem dX4_printControlHeads_1 : decode cX4_printControlHeads 1 = .ok (.istore_n 2, 1) := by decide +kernel
theorem dX4_printControlHeads_2 : decode cX4_printControlHeads 2 = .ok (.iload_n 2, 1) := by decide +kernel
theorem dX4_printControlHeads_3 : decode cX4_printControlHeads 3 = .ok (.aload_n 0, 1) := by decide +kernel
theorem dX4_printControlHeads_4 : decode cX4_printControlHeads 4 = .ok (.getfield 19, 3) := by decide +kernel
theorem dX4_printControlHeads_7 : decode cX4_printControlHeads 7 = .ok (.if_icmp .gt 26, 3) := by decide +kernel
theorem dX4_printControlHeads_10 : decode cX4_printControlHeads 10 = .ok (.aload_n 0, 1) := by decide +kernel
theorem dX4_printControlHeads_11 : decode cX4_printControlHeads 11 = .ok (.aload_n 0, 1) := by decide +kernel
theorem dX4_printControlHeads_12 : decode cX4_printControlHeads 12 = .ok (.iconst 2, 1) := by decide +kernel
theorem dX4_printControlHeads_13 : decode cX4_printControlHeads 13 = .ok (.iload_n 2, 1) := by decide +kernel
theorem dX4_printControlHeads_14 : decode cX4_printControlHeads 14 = .ok (.invokevirtual 76, 3) := by decide +kernel
theorem dX4_printControlHeads_17 : decode cX4_printControlHeads 17 = .ok (.aload_n 0, 1) := by decide +kernel
theorem dX4_printControlHeads_18 : decode cX4_printControlHeads 18 = .ok (.getfield 23, 3) := by decide +kernel
theorem dX4_printControlHeads_21 : decode cX4_printControlHeads 21 = .ok (.iload_n 2, 1) := by decide +kernel
theorem dX4_printControlHeads_22 : decode cX4_printControlHeads 22 = .ok (.iaload, 1) := by decide +kernel
theorem dX4_printControlHeads_23 : decode cX4_printControlHeads 23 = .ok (.i2l, 1) := by decide +kernel
theorem dX4_printControlHeads_24 : decode cX4_printControlHeads 24 = .ok (.invokevirtual 166, 3) := by decide +kernel
theorem dX4_printControlHeads_27 : decode cX4_printControlHeads 27 = .ok (.iinc 2 1, 3) := by decide +kernel
theorem dX4_printControlHeads_30 : decode cX4_printControlHeads 30 = .ok (.goto (-28), 3) := by decide +kernel
theorem dX4_printControlHeads_33 : decode cX4_printControlHeads 33 = .ok (.return_, 1) := by decide +kernel
theorem dX4_printControlFoots_0 : decode cX4_printControlFoots 0 = .ok (.aload_n 0, 1) := by decide +kernel
theorem dX4_printControlFoots_1 : decode cX4_printControlFoots 1 = .ok (.getfield 19, 3) := by decide +kernel
theorem dX4_printControlFoots_4 : decode cX4_printControlFoots 4 = .ok (.istore_n 2, 1) := by decide +kernel
theorem dX4_printControlFoots_5 : decode cX4_printControlFoots 5 = .ok (.iload_n 2, 1) := by decide +kernel
theorem dX4_printControlFoots_6 : decode cX4_printControlFoots 6 = .ok (.iload_n 1, 1) := by decide +kernel
theorem dX4_printControlFoots_7 : decode cX4_printControlFoots 7 = .ok (.if_icmp .lt 65, 3) := by decide +kernel
theorem dX4_printControlFoots_10 : decode cX4_printControlFoots 10 = .ok (.aload_n 0, 1) := by decide +kernel
theorem dX4_printControlFoots_11 : decode cX4_printControlFoots 11 = .ok (.iconst 4, 1) := by decide +kernel
theorem dX4_printControlFoots_12 : decode cX4_printControlFoots 12 = .ok (.iload_n 2, 1) := by decide +kernel
theorem dX4_printControlFoots_13 : decode cX4_printControlFoots 13 = .ok (.invokevirtual 76, 3) := by decide +kernel
theorem dX4_printControlFoots_16 : decode cX4_printControlFoots 16 = .ok (.astore_n 3, 1) := by decide +kernel
theorem dX4_printControlFoots_17 : decode cX4_printControlFoots 17 = .ok (.aload_n 3, 1) := by decide +kernel
theorem dX4_printControlFoots_18 : decode cX4_printControlFoots 18 = .ok (.ifnull 38, 3) := by decide +kernel
theorem dX4_printControlFoots_21 : decode cX4_printControlFoots 21 = .ok (.aload_n 0, 1) := by decide +kernel
theorem dX4_printControlFoots_22 : decode cX4_printControlFoots 22 = .ok (.aload_n 3, 1) := by decide +kernel
theorem dX4_printControlFoots_23 : decode cX4_printControlFoots 23 = .ok (.getfield 119, 3) := by decide +kernel
theorem dX4_printControlFoots_26 : decode cX4_printControlFoots 26 = .ok (.invokevirtual 260, 3) := by decide +kernel
theorem dX4_printControlFoots_29 : decode cX4_printControlFoots 29 = .ok (.astore 4, 2) := by decide +kernel
theorem dX4_printControlFoots_31 : decode cX4_printControlFoots 31 = .ok (.aload_n 0, 1) := by decide +kernel
theorem dX4_printControlFoots_32 : decode cX4_printControlFoots 32 = .ok (.aload_n 3, 1) := by decide +kernel
theorem dX4_printControlFoots_33 : decode cX4_printControlFoots 33 = .ok (.aload 4, 2) := by decide +kernel
theorem dX4_printControlFoots_35 : decode cX4_printControlFoots 35 = .ok (.ifnonnull 13, 3) := by decide +kernel
theorem dX4_printControlFoots_38 : decode cX4_printControlFoots 38 = .ok (.aload_n 0, 1) := by decide +kernel
theorem dX4_printControlFoots_39 : decode cX4_printControlFoots 39 = .ok (.getfield 27, 3) := by decide +kernel
theorem dX4_printControlFoots_42 : decode cX4_printControlFoots 42 = .ok (.iload_n 2, 1) := by decide +kernel
theorem dX4_printControlFoots_43 : decode cX4_printControlFoots 43 = .ok (.iaload, 1) := by decide +kernel
theorem dX4_printControlFoots_44 : decode cX4_printControlFoots 44 = .ok (.i2l, 1) := by decide +kernel
theorem dX4_printControlFoots_45 : decode cX4_printControlFoots 45 = .ok (.goto 8, 3) := by decide +kernel
theorem dX4_printControlFoots_48 : decode cX4_printControlFoots 48 = .ok (.aload 4, 2) := by decide +kernel
theorem dX4_printControlFoots_50 : decode cX4_printControlFoots 50 = .ok (.getfield 132, 3) := by decide +kernel
theorem dX4_printControlFoots_53 : decode cX4_printControlFoots 53 = .ok (.invokevirtual 166, 3) := by decide +kernel
theorem dX4_printControlFoots_56 : decode cX4_printControlFoots 56 = .ok (.aload_n 0, 1) := by decide +kernel
theorem dX4_printControlFoots_57 : decode cX4_printControlFoots 57 = .ok (.iload_n 2, 1) := by decide +kernel
theorem dX4_printControlFoots_58 : decode cX4_printControlFoots 58 = .ok (.invokevirtual 263, 3) := by decide +kernel
theorem dX4_printControlFoots_61 : decode cX4_printControlFoots 61 = .ok (.aload_n 0, 1) := by decide +kernel
theorem dX4_printControlFoots_62 : decode cX4_printControlFoots 62 = .ok (.iload_n 2, 1) := by decide +kernel
theorem dX4_printControlFoots_63 : decode cX4_printControlFoots 63 = .ok (.invokevirtual 266, 3) := by decide +kernel
theorem dX4_printControlFoots_66 : decode cX4_printControlFoots 66 = .ok (.iinc 2 (-1), 3) := by decide +kernel
theorem dX4_printControlFoots_69 : decode cX4_printControlFoots 69 = .ok (.goto (-64), 3) := by decide +kernel
theorem dX4_printControlFoots_72 : decode cX4_printControlFoots 72 = .ok (.return_, 1) := by decide +kernel
theorem dX4_addToSums_0 : decode cX4_addToSums 0 = .ok (.iconst 0, 1) := by decide +kernel
theorem dX4_addToSums_1 : decode cX4_addToSums 1 = .ok (.istore 4, 2) := by decide +kernel
theorem dX4_addToSums_3 : decode cX4_addToSums 3 = .ok (.iload 4, 2) := by decide +kernel
theorem dX4_addToSums_5 : decode cX4_addToSums 5 = .ok (.aload_n 0, 1) := by decide +kernel
theorem dX4_addToSums_6 : decode cX4_addToSums 6 = .ok (.getfield 16, 3) := by decide +kernel
theorem dX4_addToSums_9 : decode cX4_addToSums 9 = .ok (.invokevirtual 80, 3) := by decide +kernel
theorem dX4_addToSums_12 : decode cX4_addToSums 12 = .ok (.if_icmp .ge 51, 3) := by decide +kernel
theorem dX4_addToSums_15 : decode cX4_addToSums 15 = .ok (.aload_n 0, 1) := by decide +kernel
theorem dX4_addToSums_16 : decode cX4_addToSums 16 = .ok (.getfield 16, 3) := by decide +kernel
theorem dX4_addToSums_19 : decode cX4_addToSums 19 = .ok (.iload 4, 2) := by decide +kernel
theorem dX4_addToSums_21 : decode cX4_addToSums 21 = .ok (.invokevirtual 128, 3) := by decide +kernel
theorem dX4_addToSums_24 : decode cX4_addToSums 24 = .ok (.checkcast 117, 3) := by decide +kernel
theorem dX4_addToSums_27 : decode cX4_addToSums 27 = .ok (.astore 5, 2) := by decide +kernel
theorem dX4_addToSums_29 : decode cX4_addToSums 29 = .ok (.aload 5, 2) := by decide +kernel
theorem dX4_addToSums_31 : decode cX4_addToSums 31 = .ok (.getfield 269, 3) := by decide +kernel
theorem dX4_addToSums_34 : decode cX4_addToSums 34 = .ok (.ifCond .eq 12, 3) := by decide +kernel
theorem dX4_addToSums_37 : decode cX4_addToSums 37 = .ok (.aload 5, 2) := by decide +kernel
theorem dX4_addToSums_39 : decode cX4_addToSums 39 = .ok (.getfield 269, 3) := by decide +kernel
theorem dX4_addToSums_42 : decode cX4_addToSums 42 = .ok (.iload_n 1, 1) := by decide +kernel
theorem dX4_addToSums_43 : decode cX4_addToSums 43 = .ok (.if_icmp .ne 14, 3) := by decide +kernel
theorem dX4_addToSums_46 : decode cX4_addToSums 46 = .ok (.aload 5, 2) := by decide +kernel
theorem dX4_addToSums_48 : decode cX4_addToSums 48 = .ok (.dup, 1) := by decide +kernel
theorem dX4_addToSums_49 : decode cX4_addToSums 49 = .ok (.getfield 132, 3) := by decide +kernel
theorem dX4_addToSums_52 : decode cX4_addToSums 52 = .ok (.lload_n 2, 1) := by decide +kernel
theorem dX4_addToSums_53 : decode cX4_addToSums 53 = .ok (.ladd, 1) := by decide +kernel
theorem dX4_addToSums_54 : decode cX4_addToSums 54 = .ok (.putfield 132, 3) := by decide +kernel
theorem dX4_addToSums_57 : decode cX4_addToSums 57 = .ok (.iinc 4 1, 3) := by decide +kernel
theorem dX4_addToSums_60 : decode cX4_addToSums 60 = .ok (.goto (-57), 3) := by decide +kernel
theorem dX4_addToSums_63 : decode cX4_addToSums 63 = .ok (.return_, 1) := by decide +kernel
theorem dX4_rollSums_0 : decode cX4_rollSums 0 = .ok (.iconst 0, 1) := by decide +kernel
theorem dX4_rollSums_1 : decode cX4_rollSums 1 = .ok (.istore_n 2, 1) := by decide +kernel
theorem dX4_rollSums_2 : decode cX4_rollSums 2 = .ok (.iload_n 2, 1) := by decide +kernel
theorem dX4_rollSums_3 : decode cX4_rollSums 3 = .ok (.aload_n 0, 1) := by decide +kernel
theorem dX4_rollSums_4 : decode cX4_rollSums 4 = .ok (.getfield 16, 3) := by decide +kernel
theorem dX4_rollSums_7 : decode cX4_rollSums 7 = .ok (.invokevirtual 80, 3) := by decide +kernel
theorem dX4_rollSums_10 : decode cX4_rollSums 10 = .ok (.if_icmp .ge 71, 3) := by decide +kernel
theorem dX4_rollSums_13 : decode cX4_rollSums 13 = .ok (.aload_n 0, 1) := by decide +kernel
theorem dX4_rollSums_14 : decode cX4_rollSums 14 = .ok (.getfield 16, 3) := by decide +kernel
theorem dX4_rollSums_17 : decode cX4_rollSums 17 = .ok (.iload_n 2, 1) := by decide +kernel
theorem dX4_rollSums_18 : decode cX4_rollSums 18 = .ok (.invokevirtual 128, 3) := by decide +kernel
theorem dX4_rollSums_21 : decode cX4_rollSums 21 = .ok (.checkcast 117, 3) := by decide +kernel
theorem dX4_rollSums_24 : decode cX4_rollSums 24 = .ok (.astore_n 3, 1) := by decide +kernel
theorem dX4_rollSums_25 : decode cX4_rollSums 25 = .ok (.aload_n 3, 1) := by decide +kernel
theorem dX4_rollSums_26 : decode cX4_rollSums 26 = .ok (.getfield 269, 3) := by decide +kernel
theorem dX4_rollSums_29 : decode cX4_rollSums 29 = .ok (.ifCond .ge 15, 3) := by decide +kernel
theorem dX4_rollSums_32 : decode cX4_rollSums 32 = .ok (.aload_n 0, 1) := by decide +kernel
theorem dX4_rollSums_33 : decode cX4_rollSums 33 = .ok (.aload_n 3, 1) := by decide +kernel
theorem dX4_rollSums_34 : decode cX4_rollSums 34 = .ok (.getfield 269, 3) := by decide +kernel
theorem dX4_rollSums_37 : decode cX4_rollSums 37 = .ok (.ineg, 1) := by decide +kernel
theorem dX4_rollSums_38 : decode cX4_rollSums 38 = .ok (.invokevirtual 187, 3) := by decide +kernel
theorem dX4_rollSums_41 : decode cX4_rollSums 41 = .ok (.goto 4, 3) := by decide +kernel
theorem dX4_rollSums_44 : decode cX4_rollSums 44 = .ok (.aconst_null, 1) := by decide +kernel
theorem dX4_rollSums_45 : decode cX4_rollSums 45 = .ok (.astore 4, 2) := by decide +kernel
theorem dX4_rollSums_47 : decode cX4_rollSums 47 = .ok (.aload 4, 2) := by decide +kernel
theorem dX4_rollSums_49 : decode cX4_rollSums 49 = .ok (.ifnull 26, 3) := by decide +kernel
theorem dX4_rollSums_52 : decode cX4_rollSums 52 = .ok (.aload 4, 2) := by decide +kernel
theorem dX4_rollSums_54 : decode cX4_rollSums 54 = .ok (.getfield 208, 3) := by decide +kernel
theorem dX4_rollSums_57 : decode cX4_rollSums 57 = .ok (.iload_n 1, 1) := by decide +kernel
theorem dX4_rollSums_58 : decode cX4_rollSums 58 = .ok (.if_icmp .ne 17, 3) := by decide +kernel
theorem dX4_rollSums_61 : decode cX4_rollSums 61 = .ok (.aload_n 3, 1) := by decide +kernel
theorem dX4_rollSums_62 : decode cX4_rollSums 62 = .ok (.dup, 1) := by decide +kernel
theorem dX4_rollSums_63 : decode cX4_rollSums 63 = .ok (.getfield 132, 3) := by decide +kernel
theorem dX4_rollSums_66 : decode cX4_rollSums 66 = .ok (.aload 4, 2) := by decide +kernel
theorem dX4_rollSums_68 : decode cX4_rollSums 68 = .ok (.getfield 132, 3) := by decide +kernel
theorem dX4_rollSums_71 : decode cX4_rollSums 71 = .ok (.ladd, 1) := by decide +kernel
theorem dX4_rollSums_72 : decode cX4_rollSums 72 = .ok (.putfield 132, 3) := by decide +kernel
theorem dX4_rollSums_75 : decode cX4_rollSums 75 = .ok (.iinc 2 1, 3) := by decide +kernel
theorem dX4_rollSums_78 : decode cX4_rollSums 78 = .ok (.goto (-76), 3) := by decide +kernel
theorem dX4_rollSums_81 : decode cX4_rollSums 81 = .ok (.return_, 1) := by decide +kernel
theorem dX4_resetSums_0 : decode cX4_resetSums 0 = .ok (.iconst 0, 1) := by decide +kernel
theorem dX4_resetSums_1 : decode cX4_resetSums 1 = .ok (.istore_n 2, 1) := by decide +kernel
theorem dX4_resetSums_2 : decode cX4_resetSums 2 = .ok (.iload_n 2, 1) := by decide +kernel
theorem dX4_resetSums_3 : decode cX4_resetSums 3 = .ok (.aload_n 0, 1) := by decide +kernel
theorem dX4_resetSums_4 : decode cX4_resetSums 4 = .ok (.getfield 16, 3) := by decide +kernel
theorem dX4_resetSums_7 : decode cX4_resetSums 7 = .ok (.invokevirtual 80, 3) := by decide +kernel
theorem dX4_resetSums_10 : decode cX4_resetSums 10 = .ok (.if_icmp .ge 34, 3) := by decide +kernel
theorem dX4_resetSums_13 : decode cX4_resetSums 13 = .ok (.aload_n 0, 1) := by decide +kernel
theorem dX4_resetSums_14 : decode cX4_resetSums 14 = .ok (.getfield 16, 3) := by decide +kernel
theorem dX4_resetSums_17 : decode cX4_resetSums 17 = .ok (.iload_n 2, 1) := by decide +kernel
theorem dX4_resetSums_18 : decode cX4_resetSums 18 = .ok (.invokevirtual 128, 3) := by decide +kernel
theorem dX4_resetSums_21 : decode cX4_resetSums 21 = .ok (.checkcast 117, 3) := by decide +kernel
theorem dX4_resetSums_24 : decode cX4_resetSums 24 = .ok (.astore_n 3, 1) := by decide +kernel
theorem dX4_resetSums_25 : decode cX4_resetSums 25 = .ok (.aload_n 3, 1) := by decide +kernel
theorem dX4_resetSums_26 : decode cX4_resetSums 26 = .ok (.getfield 272, 3) := by decide +kernel
theorem dX4_resetSums_29 : decode cX4_resetSums 29 = .ok (.iload_n 1, 1) := by decide +kernel
theorem dX4_resetSums_30 : decode cX4_resetSums 30 = .ok (.if_icmp .ne 8, 3) := by decide +kernel
theorem dX4_resetSums_33 : decode cX4_resetSums 33 = .ok (.aload_n 3, 1) := by decide +kernel
theorem dX4_resetSums_34 : decode cX4_resetSums 34 = .ok (.lconst 0, 1) := by decide +kernel
theorem dX4_resetSums_35 : decode cX4_resetSums 35 = .ok (.putfield 132, 3) := by decide +kernel
theorem dX4_resetSums_38 : decode cX4_resetSums 38 = .ok (.iinc 2 1, 3) := by decide +kernel
theorem dX4_resetSums_41 : decode cX4_resetSums 41 = .ok (.goto (-39), 3) := by decide +kernel
theorem dX4_resetSums_44 : decode cX4_resetSums 44 = .ok (.return_, 1) := by decide +kernel
theorem dX5_init_0 : decode cX5_init 0 = .ok (.aload_n 0, 1) := by decide +kernel
theorem dX5_init_1 : decode cX5_init 1 = .ok (.invokespecial 1, 3) := by decide +kernel
theorem dX5_init_4 : decode cX5_init 4 = .ok (.aload_n 0, 1) := by decide +kernel
theorem dX5_init_5 : decode cX5_init 5 = .ok (.bipush 6, 2) := by decide +kernel
theorem dX5_init_7 : decode cX5_init 7 = .ok (.newarray .int, 2) := by decide +kernel
theorem dX5_init_9 : decode cX5_init 9 = .ok (.putfield 7, 3) := by decide +kernel
theorem dX5_init_12 : decode cX5_init 12 = .ok (.aload_n 0, 1) := by decide +kernel
theorem dX5_init_13 : decode cX5_init 13 = .ok (.bipush 6, 2) := by decide +kernel
theorem dX5_init_15 : decode cX5_init 15 = .ok (.newarray .int, 2) := by decide +kernel
theorem dX5_init_17 : decode cX5_init 17 = .ok (.putfield 13, 3) := by decide +kernel
theorem dX5_init_20 : decode cX5_init 20 = .ok (.aload_n 0, 1) := by decide +kernel
theorem dX5_init_21 : decode cX5_init 21 = .ok (.bipush 21, 2) := by decide +kernel
theorem dX5_init_23 : decode cX5_init 23 = .ok (.newarray .int, 2) := by decide +kernel
theorem dX5_init_25 : decode cX5_init 25 = .ok (.putfield 16, 3) := by decide +kernel
theorem dX5_init_28 : decode cX5_init 28 = .ok (.aload_n 0, 1) := by decide +kernel
theorem dX5_init_29 : decode cX5_init 29 = .ok (.bipush 21, 2) := by decide +kernel
theorem dX5_init_31 : decode cX5_init 31 = .ok (.newarray .int, 2) := by decide +kernel
theorem dX5_init_33 : decode cX5_init 33 = .ok (.putfield 19, 3) := by decide +kernel
theorem dX5_init_36 : decode cX5_init 36 = .ok (.aload_n 0, 1) := by decide +kernel
theorem dX5_init_37 : decode cX5_init 37 = .ok (.bipush 21, 2) := by decide +kernel
theorem dX5_init_39 : decode cX5_init 39 = .ok (.newarray .int, 2) := by decide +kernel
theorem dX5_init_41 : decode cX5_init 41 = .ok (.putfield 22, 3) := by decide +kernel
theorem dX5_init_44 : decode cX5_init 44 = .ok (.aload_n 0, 1) := by decide +kernel
theorem dX5_init_45 : decode cX5_init 45 = .ok (.sipush 210, 3) := by decide +kernel
theorem dX5_init_48 : decode cX5_init 48 = .ok (.newarray .int, 2) := by decide +kernel
theorem dX5_init_50 : decode cX5_init 50 = .ok (.putfield 25, 3) := by decide +kernel
theorem dX5_init_53 : decode cX5_init 53 = .ok (.aload_n 0, 1) := by decide +kernel
theorem dX5_init_54 : decode cX5_init 54 = .ok (.bipush 21, 2) := by decide +kernel
theorem dX5_init_56 : decode cX5_init 56 = .ok (.newarray .boolean, 2) := by decide +kernel
theorem dX5_init_58 : decode cX5_init 58 = .ok (.putfield 28, 3) := by decide +kernel
theorem dX5_init_61 : decode cX5_init 61 = .ok (.aload_n 0, 1) := by decide +kernel
theorem dX5_init_62 : decode cX5_init 62 = .ok (.bipush 21, 2) := by decide +kernel
theorem dX5_init_64 : decode cX5_init 64 = .ok (.newarray .boolean, 2) := by decide +kernel
theorem dX5_init_66 : decode cX5_init 66 = .ok (.putfield 32, 3) := by decide +kernel
theorem dX5_init_69 : decode cX5_init 69 = .ok (.aload_n 0, 1) := by decide +kernel
theorem dX5_init_70 : decode cX5_init 70 = .ok (.bipush 21, 2) := by decide +kernel
theorem dX5_init_72 : decode cX5_init 72 = .ok (.newarray .boolean, 2) := by decide +kernel
theorem dX5_init_74 : decode cX5_init 74 = .ok (.putfield 35, 3) := by decide +kernel
theorem dX5_init_77 : decode cX5_init 77 = .ok (.aload_n 0, 1) := by decide +kernel
theorem dX5_init_78 : decode cX5_init 78 = .ok (.bipush 21, 2) := by decide +kernel
theorem dX5_init_80 : decode cX5_init 80 = .ok (.newarray .boolean, 2) := by decide +kernel
theorem dX5_init_82 : decode cX5_init 82 = .ok (.putfield 38, 3) := by decide +kernel
theorem dX5_init_85 : decode cX5_init 85 = .ok (.aload_n 0, 1) := by decide +kernel
theorem dX5_init_86 : decode cX5_init 86 = .ok (.bipush 21, 2) := by decide +kernel
theorem dX5_init_88 : decode cX5_init 88 = .ok (.newarray .int, 2) := by decide +kernel
theorem dX5_init_90 : decode cX5_init 90 = .ok (.putfield 41, 3) := by decide +kernel
theorem dX5_init_93 : decode cX5_init 93 = .ok (.aload_n 0, 1) := by decide +kernel
theorem dX5_init_94 : decode cX5_init 94 = .ok (.bipush 21, 2) := by decide +kernel
theorem dX5_init_96 : decode cX5_init 96 = .ok (.newarray .int, 2) := by decide +kernel
theorem dX5_init_98 : decode cX5_init 98 = .ok (.putfield 44, 3) := by decide +kernel
theorem dX5_init_101 : decode cX5_init 101 = .ok (.aload_n 0, 1) := by decide +kernel
theorem dX5_init_102 : decode cX5_init 102 = .ok (.bipush 21, 2) := by decide +kernel
theorem dX5_init_104 : decode cX5_init 104 = .ok (.newarray .int, 2) := by decide +kernel
theorem dX5_init_106 : decode cX5_init 106 = .ok (.putfield 47, 3) := by decide +kernel
theorem dX5_init_109 : decode cX5_init 109 = .ok (.aload_n 0, 1) := by decide +kernel
theorem dX5_init_110 : decode cX5_init 110 = .ok (.bipush 21, 2) := by decide +kernel
theorem dX5_init_112 : decode cX5_init 112 = .ok (.newarray .long, 2) := by decide +kernel
theorem dX5_init_114 : decode cX5_init 114 = .ok (.putfield 50, 3) := by decide +kernel
theorem dX5_init_117 : decode cX5_init 117 = .ok (.aload_n 0, 1) := by decide +kernel
theorem dX5_init_118 : decode cX5_init 118 = .ok (.ldc 54, 2) := by decide +kernel
theorem dX5_init_120 : decode cX5_init 120 = .ok (.newarray .int, 2) := by decide +kernel
theorem dX5_init_122 : decode cX5_init 122 = .ok (.putfield 55, 3) := by decide +kernel
theorem dX5_init_125 : decode cX5_init 125 = .ok (.aload_n 0, 1) := by decide +kernel
theorem dX5_init_126 : decode cX5_init 126 = .ok (.iload_n 1, 1) := by decide +kernel
theorem dX5_init_127 : decode cX5_init 127 = .ok (.bipush 10, 2) := by decide +kernel
theorem dX5_init_129 : decode cX5_init 129 = .ok (.bipush 100, 2) := by decide +kernel
theorem dX5_init_131 : decode cX5_init 131 = .ok (.invokestatic 58, 3) := by decide +kernel
theorem dX5_init_134 : decode cX5_init 134 = .ok (.putfield 62, 3) := by decide +kernel
theorem dX5_init_137 : decode cX5_init 137 = .ok (.aload_n 0, 1) := by decide +kernel
theorem dX5_init_138 : decode cX5_init 138 = .ok (.iload_n 2, 1) := by decide +kernel
theorem dX5_init_139 : decode cX5_init 139 = .ok (.iconst 2, 1) := by decide +kernel
theorem dX5_init_140 : decode cX5_init 140 = .ok (.aload_n 0, 1) := by decide +kernel
theorem dX5_init_141 : decode cX5_init 141 = .ok (.getfield 62, 3) := by decide +kernel
theorem dX5_init_144 : decode cX5_init 144 = .ok (.iconst 2, 1) := by decide +kernel
theorem dX5_init_145 : decode cX5_init 145 = .ok (.isub, 1) := by decide +kernel
theorem dX5_init_146 : decode cX5_init 146 = .ok (.invokestatic 58, 3) := by decide +kernel
theorem dX5_init_149 : decode cX5_init 149 = .ok (.putfield 66, 3) := by decide +kernel
theorem dX5_init_152 : decode cX5_init 152 = .ok (.aload_n 0, 1) := by decide +kernel
theorem dX5_init_153 : decode cX5_init 153 = .ok (.iload_n 3, 1) := by decide +kernel
theorem dX5_init_154 : decode cX5_init 154 = .ok (.aload_n 0, 1) := by decide +kernel
theorem dX5_init_155 : decode cX5_init 155 = .ok (.getfield 66, 3) := by decide +kernel
theorem dX5_init_158 : decode cX5_init 158 = .ok (.aload_n 0, 1) := by decide +kernel
theorem dX5_init_159 : decode cX5_init 159 = .ok (.getfield 62, 3) := by decide +kernel
theorem dX5_init_162 : decode cX5_init 162 = .ok (.iconst 1, 1) := by decide +kernel
theorem dX5_init_163 : decode cX5_init 163 = .ok (.isub, 1) := by decide +kernel
theorem dX5_init_164 : decode cX5_init 164 = .ok (.invokestatic 58, 3) := by decide +kernel
theorem dX5_init_167 : decode cX5_init 167 = .ok (.putfield 69, 3) := by decide +kernel
theorem dX5_init_170 : decode cX5_init 170 = .ok (.return_, 1) := by decide +kernel
theorem dX5_held_0 : decode cX5_held 0 = .ok (.iload_n 0, 1) := by decide +kernel
theorem dX5_held_1 : decode cX5_held 1 = .ok (.iload_n 1, 1) := by decide +kernel
theorem dX5_held_2 : decode cX5_held 2 = .ok (.if_icmp .ge 7, 3) := by decide +kernel
theorem dX5_held_5 : decode cX5_held 5 = .ok (.iload_n 1, 1) := by decide +kernel
theorem dX5_held_6 : decode cX5_held 6 = .ok (.goto 13, 3) := by decide +kernel
theorem dX5_held_9 : decode cX5_held 9 = .ok (.iload_n 0, 1) := by decide +kernel
theorem dX5_held_10 : decode cX5_held 10 = .ok (.iload_n 2, 1) := by decide +kernel
theorem dX5_held_11 : decode cX5_held 11 = .ok (.if_icmp .le 7, 3) := by decide +kernel
theorem dX5_held_14 : decode cX5_held 14 = .ok (.iload_n 2, 1) := by decide +kernel
theorem dX5_held_15 : decode cX5_held 15 = .ok (.goto 4, 3) := by decide +kernel
theorem dX5_held_18 : decode cX5_held 18 = .ok (.iload_n 0, 1) := by decide +kernel
theorem dX5_held_19 : decode cX5_held 19 = .ok (.ireturn, 1) := by decide +kernel
theorem dX5_thrown_0 : decode cX5_thrown 0 = .ok (.aload_n 0, 1) := by decide +kernel
theorem dX5_thrown_1 : decode cX5_thrown 1 = .ok (.getfield 72, 3) := by decide +kernel
theorem dX5_thrown_4 : decode cX5_thrown 4 = .ok (.ireturn, 1) := by decide +kernel
theorem dX5_isGroup_0 : decode cX5_isGroup 0 = .ok (.iload_n 1, 1) := by decide +kernel
theorem dX5_isGroup_1 : decode cX5_isGroup 1 = .ok (.ifCond .le 15, 3) := by decide +kernel
theorem dX5_isGroup_4 : decode cX5_isGroup 4 = .ok (.iload_n 1, 1) := by decide +kernel
theorem dX5_isGroup_5 : decode cX5_isGroup 5 = .ok (.aload_n 0, 1) := by decide +kernel
theorem dX5_isGroup_6 : decode cX5_isGroup 6 = .ok (.getfield 75, 3) := by decide +kernel
theorem dX5_isGroup_9 : decode cX5_isGroup 9 = .ok (.if_icmp .gt 7, 3) := by decide +kernel
theorem dX5_isGroup_12 : decode cX5_isGroup 12 = .ok (.iconst 1, 1) := by decide +kernel
theorem dX5_isGroup_13 : decode cX5_isGroup 13 = .ok (.goto 4, 3) := by decide +kernel
theorem dX5_isGroup_16 : decode cX5_isGroup 16 = .ok (.iconst 0, 1) := by decide +kernel
theorem dX5_isGroup_17 : decode cX5_isGroup 17 = .ok (.ireturn, 1) := by decide +kernel
theorem dX5_isDetail_0 : decode cX5_isDetail 0 = .ok (.aload_n 0, 1) := by decide +kernel
theorem dX5_isDetail_1 : decode cX5_isDetail 1 = .ok (.iload_n 1, 1) := by decide +kernel
theorem dX5_isDetail_2 : decode cX5_isDetail 2 = .ok (.invokevirtual 78, 3) := by decide +kernel
theorem dX5_isDetail_5 : decode cX5_isDetail 5 = .ok (.ifCond .eq 17, 3) := by decide +kernel
theorem dX5_isDetail_8 : decode cX5_isDetail 8 = .ok (.aload_n 0, 1) := by decide +kernel
theorem dX5_isDetail_9 : decode cX5_isDetail 9 = .ok (.getfield 16, 3) := by decide +kernel
theorem dX5_isDetail_12 : decode cX5_isDetail 12 = .ok (.iload_n 1, 1) := by decide +kernel
theorem dX5_isDetail_13 : decode cX5_isDetail 13 = .ok (.iaload, 1) := by decide +kernel
theorem dX5_isDetail_14 : decode cX5_isDetail 14 = .ok (.iconst 3, 1) := by decide +kernel
theorem dX5_isDetail_15 : decode cX5_isDetail 15 = .ok (.if_icmp .ne 7, 3) := by decide +kernel
theorem dX5_isDetail_18 : decode cX5_isDetail 18 = .ok (.iconst 1, 1) := by decide +kernel
theorem dX5_isDetail_19 : decode cX5_isDetail 19 = .ok (.goto 4, 3) := by decide +kernel
theorem dX5_isDetail_22 : decode cX5_isDetail 22 = .ok (.iconst 0, 1) := by decide +kernel
theorem dX5_isDetail_23 : decode cX5_isDetail 23 = .ok (.ireturn, 1) := by decide +kernel
theorem dX5_find_0 : decode cX5_find 0 = .ok (.iconst 0, 1) := by decide +kernel
theorem dX5_find_1 : decode cX5_find 1 = .ok (.istore_n 3, 1) := by decide +kernel
theorem dX5_find_2 : decode cX5_find 2 = .ok (.iconst 1, 1) := by decide +kernel
theorem dX5_find_3 : decode cX5_find 3 = .ok (.istore 4, 2) := by decide +kernel
theorem dX5_find_5 : decode cX5_find 5 = .ok (.iload 4, 2) := by decide +kernel
theorem dX5_find_7 : decode cX5_find 7 = .ok (.aload_n 0, 1) := by decide +kernel
theorem dX5_find_8 : decode cX5_find 8 = .ok (.getfield 75, 3) := by decide +kernel
theorem dX5_find_11 : decode cX5_find 11 = .ok (.if_icmp .gt 38, 3) := by decide +kernel
theorem dX5_find_14 : decode cX5_find 14 = .ok (.aload_n 0, 1) := by decide +kernel
theorem dX5_find_15 : decode cX5_find 15 = .ok (.getfield 16, 3) := by decide +kernel
theorem dX5_find_18 : decode cX5_find 18 = .ok (.iload 4, 2) := by decide +kernel
theorem dX5_find_20 : decode cX5_find 20 = .ok (.iaload, 1) := by decide +kernel
theorem dX5_find_21 : decode cX5_find 21 = .ok (.iload_n 1, 1) := by decide +kernel
theorem dX5_find_22 : decode cX5_find 22 = .ok (.if_icmp .ne 19, 3) := by decide +kernel
theorem dX5_find_25 : decode cX5_find 25 = .ok (.aload_n 0, 1) := by decide +kernel
theorem dX5_find_26 : decode cX5_find 26 = .ok (.getfield 19, 3) := by decide +kernel
theorem dX5_find_29 : decode cX5_find 29 = .ok (.iload 4, 2) := by decide +kernel
theorem dX5_find_31 : decode cX5_find 31 = .ok (.iaload, 1) := by decide +kernel
theorem dX5_find_32 : decode cX5_find 32 = .ok (.iload_n 2, 1) := by decide +kernel
theorem dX5_find_33 : decode cX5_find 33 = .ok (.if_icmp .ne 8, 3) := by decide +kernel
theorem dX5_find_36 : decode cX5_find 36 = .ok (.iload 4, 2) := by decide +kernel
theorem dX5_find_38 : decode cX5_find 38 = .ok (.goto 4, 3) := by decide +kernel
theorem dX5_find_41 : decode cX5_find 41 = .ok (.iload_n 3, 1) := by decide +kernel
theorem dX5_find_42 : decode cX5_find 42 = .ok (.istore_n 3, 1) := by decide +kernel
theorem dX5_find_43 : decode cX5_find 43 = .ok (.iinc 4 1, 3) := by decide +kernel
theorem dX5_find_46 : decode cX5_find 46 = .ok (.goto (-41), 3) := by decide +kernel
theorem dX5_find_49 : decode cX5_find 49 = .ok (.iload_n 3, 1) := by decide +kernel
theorem dX5_find_50 : decode cX5_find 50 = .ok (.ireturn, 1) := by decide +kernel
theorem dX5_group_0 : decode cX5_group 0 = .ok (.aload_n 0, 1) := by decide +kernel
theorem dX5_group_1 : decode cX5_group 1 = .ok (.iconst 0, 1) := by decide +kernel
theorem dX5_group_2 : decode cX5_group 2 = .ok (.putfield 72, 3) := by decide +kernel
theorem dX5_group_5 : decode cX5_group 5 = .ok (.iload_n 1, 1) := by decide +kernel
theorem dX5_group_6 : decode cX5_group 6 = .ok (.iconst 2, 1) := by decide +kernel
theorem dX5_group_7 : decode cX5_group 7 = .ok (.if_icmp .eq 8, 3) := by decide +kernel
theorem dX5_group_10 : decode cX5_group 10 = .ok (.iload_n 1, 1) := by decide +kernel
theorem dX5_group_11 : decode cX5_group 11 = .ok (.iconst 4, 1) := by decide +kernel
theorem dX5_group_12 : decode cX5_group 12 = .ok (.if_icmp .ne 7, 3) := by decide +kernel
theorem dX5_group_15 : decode cX5_group 15 = .ok (.iconst 1, 1) := by decide +kernel
theorem dX5_group_16 : decode cX5_group 16 = .ok (.goto 4, 3) := by decide +kernel
theorem dX5_group_19 : decode cX5_group 19 = .ok (.iconst 0, 1) := by decide +kernel
theorem dX5_group_20 : decode cX5_group 20 = .ok (.istore_n 3, 1) := by decide +kernel
theorem dX5_group_21 : decode cX5_group 21 = .ok (.iload_n 1, 1) := by decide +kernel
theorem dX5_group_22 : decode cX5_group 22 = .ok (.ifCond .lt 29, 3) := by decide +kernel
theorem dX5_group_25 : decode cX5_group 25 = .ok (.iload_n 1, 1) := by decide +kernel
theorem dX5_group_26 : decode cX5_group 26 = .ok (.bipush 6, 2) := by decide +kernel
theorem dX5_group_28 : decode cX5_group 28 = .ok (.if_icmp .gt 23, 3) := by decide +kernel
theorem dX5_group_31 : decode cX5_group 31 = .ok (.iload_n 2, 1) := by decide +kernel
theorem dX5_group_32 : decode cX5_group 32 = .ok (.ifCond .lt 19, 3) := by decide +kernel
theorem dX5_group_35 : decode cX5_group 35 = .ok (.iload_n 2, 1) := by decide +kernel
theorem dX5_group_36 : decode cX5_group 36 = .ok (.iload_n 3, 1) := by decide +kernel
theorem dX5_group_37 : decode cX5_group 37 = .ok (.ifCond .eq 10, 3) := by decide +kernel
theorem dX5_group_40 : decode cX5_group 40 = .ok (.aload_n 0, 1) := by decide +kernel
theorem dX5_group_41 : decode cX5_group 41 = .ok (.getfield 82, 3) := by decide +kernel
theorem dX5_group_44 : decode cX5_group 44 = .ok (.goto 4, 3) := by decide +kernel
theorem dX5_group_47 : decode cX5_group 47 = .ok (.iconst 0, 1) := by decide +kernel
theorem dX5_group_48 : decode cX5_group 48 = .ok (.if_icmp .le 6, 3) := by decide +kernel
theorem dX5_group_51 : decode cX5_group 51 = .ok (.bipush (-4), 2) := by decide +kernel
theorem dX5_group_53 : decode cX5_group 53 = .ok (.ireturn, 1) := by decide +kernel
theorem dX5_group_54 : decode cX5_group 54 = .ok (.aload_n 0, 1) := by decide +kernel
theorem dX5_group_55 : decode cX5_group 55 = .ok (.getfield 85, 3) := by decide +kernel
theorem dX5_group_58 : decode cX5_group 58 = .ok (.ifCond .eq 6, 3) := by decide +kernel
theorem dX5_group_61 : decode cX5_group 61 = .ok (.bipush (-5), 2) := by decide +kernel
theorem dX5_group_63 : decode cX5_group 63 = .ok (.ireturn, 1) := by decide +kernel
theorem dX5_group_64 : decode cX5_group 64 = .ok (.iload_n 1, 1) := by decide +kernel
theorem dX5_group_65 : decode cX5_group 65 = .ok (.iconst 3, 1) := by decide +kernel
theorem dX5_group_66 : decode cX5_group 66 = .ok (.if_icmp .eq 14, 3) := by decide +kernel
theorem dX5_group_69 : decode cX5_group 69 = .ok (.aload_n 0, 1) := by decide +kernel
theorem dX5_group_70 : decode cX5_group 70 = .ok (.iload_n 1, 1) := by decide +kernel
theorem dX5_group_71 : decode cX5_group 71 = .ok (.iload_n 2, 1) := by decide +kernel
theorem dX5_group_72 : decode cX5_group 72 = .ok (.invokevirtual 89, 3) := by decide +kernel
theorem dX5_group_75 : decode cX5_group 75 = .ok (.ifCond .eq 5, 3) := by decide +kernel
theorem dX5_group_78 : decode cX5_group 78 = .ok (.iconst 0, 1) := by decide +kernel
theorem dX5_group_79 : decode cX5_group 79 = .ok (.ireturn, 1) := by decide +kernel
theorem dX5_group_80 : decode cX5_group 80 = .ok (.aload_n 0, 1) := by decide +kernel
theorem dX5_group_81 : decode cX5_group 81 = .ok (.getfield 75, 3) := by decide +kernel
theorem dX5_group_84 : decode cX5_group 84 = .ok (.bipush 20, 2) := by decide +kernel
theorem dX5_group_86 : decode cX5_group 86 = .ok (.if_icmp .ne 5, 3) := by decide +kernel
theorem dX5_group_89 : decode cX5_group 89 = .ok (.iconst (-1), 1) := by decide +kernel
theorem dX5_group_90 : decode cX5_group 90 = .ok (.ireturn, 1) := by decide +kernel
theorem dX5_group_91 : decode cX5_group 91 = .ok (.aload_n 0, 1) := by decide +kernel
theorem dX5_group_92 : decode cX5_group 92 = .ok (.dup, 1) := by decide +kernel
theorem dX5_group_93 : decode cX5_group 93 = .ok (.getfield 75, 3) := by decide +kernel
theorem dX5_group_96 : decode cX5_group 96 = .ok (.iconst 1, 1) := by decide +kernel
theorem dX5_group_97 : decode cX5_group 97 = .ok (.iadd, 1) := by decide +kernel
theorem dX5_group_98 : decode cX5_group 98 = .ok (.putfield 75, 3) := by decide +kernel
theorem dX5_group_101 : decode cX5_group 101 = .ok (.aload_n 0, 1) := by decide +kernel
theorem dX5_group_102 : decode cX5_group 102 = .ok (.getfield 16, 3) := by decide +kernel
theorem dX5_group_105 : decode cX5_group 105 = .ok (.aload_n 0, 1) := by decide +kernel
theorem dX5_group_106 : decode cX5_group 106 = .ok (.getfield 75, 3) := by decide +kernel
theorem dX5_group_109 : decode cX5_group 109 = .ok (.iload_n 1, 1) := by decide +kernel
theorem dX5_group_110 : decode cX5_group 110 = .ok (.iastore, 1) := by decide +kernel
theorem dX5_group_111 : decode cX5_group 111 = .ok (.aload_n 0, 1) := by decide +kernel
theorem dX5_group_112 : decode cX5_group 112 = .ok (.getfield 19, 3) := by decide +kernel
theorem dX5_group_115 : decode cX5_group 115 = .ok (.aload_n 0, 1) := by decide +kernel
theorem dX5_group_116 : decode cX5_group 116 = .ok (.getfield 75, 3) := by decide +kernel
theorem dX5_group_119 : decode cX5_group 119 = .ok (.iload_n 2, 1) := by decide +kernel
theorem dX5_group_120 : decode cX5_group 120 = .ok (.iastore, 1) := by decide +kernel
theorem dX5_group_121 : decode cX5_group 121 = .ok (.aload_n 0, 1) := by decide +kernel
theorem dX5_group_122 : decode cX5_group 122 = .ok (.getfield 75, 3) := by decide +kernel
theorem dX5_group_125 : decode cX5_group 125 = .ok (.ireturn, 1) := by decide +kernel
theorem dX5_fits_0 : decode cX5_fits 0 = .ok (.aload_n 0, 1) := by decide +kernel
theorem dX5_fits_1 : decode cX5_fits 1 = .ok (.getfield 16, 3) := by decide +kernel
theorem dX5_fits_4 : decode cX5_fits 4 = .ok (.iload_n 1, 1) := by decide +kernel
theorem dX5_fits_5 : decode cX5_fits 5 = .ok (.iaload, 1) := by decide +kernel
theorem dX5_fits_6 : decode cX5_fits 6 = .ok (.iconst 2, 1) := by decide +kernel
theorem dX5_fits_7 : decode cX5_fits 7 = .ok (.if_icmp .eq 23, 3) := by decide +kernel
theorem dX5_fits_10 : decode cX5_fits 10 = .ok (.aload_n 0, 1) := by decide +kernel
theorem dX5_fits_11 : decode cX5_fits 11 = .ok (.getfield 16, 3) := by decide +kernel
theorem dX5_fits_14 : decode cX5_fits 14 = .ok (.iload_n 1, 1) := by decide +kernel
theorem dX5_fits_15 : decode cX5_fits 15 = .ok (.iaload, 1) := by decide +kernel
theorem dX5_fits_16 : decode cX5_fits 16 = .ok (.iconst 3, 1) := by decide +kernel
theorem dX5_fits_17 : decode cX5_fits 17 = .ok (.if_icmp .eq 13, 3) := by decide +kernel
theorem dX5_fits_20 : decode cX5_fits 20 = .ok (.aload_n 0, 1) := by decide +kernel
theorem dX5_fits_21 : decode cX5_fits 21 = .ok (.getfield 16, 3) := by decide +kernel
theorem dX5_fits_24 : decode cX5_fits 24 = .ok (.iload_n 1, 1) := by decide +kernel
theorem dX5_fits_25 : decode cX5_fits 25 = .ok (.iaload, 1) := by decide +kernel
theorem dX5_fits_26 : decode cX5_fits 26 = .ok (.iconst 4, 1) := by decide +kernel
theorem dX5_fits_27 : decode cX5_fits 27 = .ok (.if_icmp .ne 7, 3) := by decide +kernel
theorem dX5_fits_30 : decode cX5_fits 30 = .ok (.iconst 1, 1) := by decide +kernel
theorem dX5_fits_31 : decode cX5_fits 31 = .ok (.goto 4, 3) := by decide +kernel
theorem dX5_fits_34 : decode cX5_fits 34 = .ok (.iconst 0, 1) := by decide +kernel
theorem dX5_fits_35 : decode cX5_fits 35 = .ok (.istore 4, 2) := by decide +kernel
theorem dX5_fits_37 : decode cX5_fits 37 = .ok (.aload_n 0, 1) := by decide +kernel
theorem dX5_fits_38 : decode cX5_fits 38 = .ok (.getfield 16, 3) := by decide +kernel
theorem dX5_fits_41 : decode cX5_fits 41 = .ok (.iload_n 1, 1) := by decide +kernel
theorem dX5_fits_42 : decode cX5_fits 42 = .ok (.iaload, 1) := by decide +kernel
theorem dX5_fits_43 : decode cX5_fits 43 = .ok (.iconst 5, 1) := by decide +kernel
