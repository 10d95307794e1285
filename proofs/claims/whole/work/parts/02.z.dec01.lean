theorem dX0_init_0 : decode cX0_init 0 = .ok (.aload_n 0, 1) := by decide +kernel
theorem dX0_init_1 : decode cX0_init 1 = .ok (.invokespecial 3, 3) := by decide +kernel
theorem dX0_init_4 : decode cX0_init 4 = .ok (.aload_n 0, 1) := by decide +kernel
theorem dX0_init_5 : decode cX0_init 5 = .ok (.iconst 0, 1) := by decide +kernel
theorem dX0_init_6 : decode cX0_init 6 = .ok (.putfield 9, 3) := by decide +kernel
theorem dX0_init_9 : decode cX0_init 9 = .ok (.aload_n 0, 1) := by decide +kernel
theorem dX0_init_10 : decode cX0_init 10 = .ok (.iconst 0, 1) := by decide +kernel
theorem dX0_init_11 : decode cX0_init 11 = .ok (.putfield 15, 3) := by decide +kernel
theorem dX0_init_14 : decode cX0_init 14 = .ok (.aload_n 0, 1) := by decide +kernel
theorem dX0_init_15 : decode cX0_init 15 = .ok (.iconst 0, 1) := by decide +kernel
theorem dX0_init_16 : decode cX0_init 16 = .ok (.putfield 19, 3) := by decide +kernel
theorem dX0_init_19 : decode cX0_init 19 = .ok (.aload_n 0, 1) := by decide +kernel
theorem dX0_init_20 : decode cX0_init 20 = .ok (.bipush 10, 2) := by decide +kernel
theorem dX0_init_22 : decode cX0_init 22 = .ok (.newarray .int, 2) := by decide +kernel
theorem dX0_init_24 : decode cX0_init 24 = .ok (.putfield 22, 3) := by decide +kernel
theorem dX0_init_27 : decode cX0_init 27 = .ok (.aload_n 0, 1) := by decide +kernel
theorem dX0_init_28 : decode cX0_init 28 = .ok (.iconst 0, 1) := by decide +kernel
theorem dX0_init_29 : decode cX0_init 29 = .ok (.putfield 26, 3) := by decide +kernel
theorem dX0_init_32 : decode cX0_init 32 = .ok (.aload_n 0, 1) := by decide +kernel
theorem dX0_init_33 : decode cX0_init 33 = .ok (.iconst 0, 1) := by decide +kernel
theorem dX0_init_34 : decode cX0_init 34 = .ok (.putfield 29, 3) := by decide +kernel
theorem dX0_init_37 : decode cX0_init 37 = .ok (.aload_n 0, 1) := by decide +kernel
theorem dX0_init_38 : decode cX0_init 38 = .ok (.iconst 0, 1) := by decide +kernel
theorem dX0_init_39 : decode cX0_init 39 = .ok (.putfield 32, 3) := by decide +kernel
theorem dX0_init_42 : decode cX0_init 42 = .ok (.aload_n 0, 1) := by decide +kernel
theorem dX0_init_43 : decode cX0_init 43 = .ok (.iload_n 1, 1) := by decide +kernel
theorem dX0_init_44 : decode cX0_init 44 = .ok (.putfield 35, 3) := by decide +kernel
theorem dX0_init_47 : decode cX0_init 47 = .ok (.aload_n 0, 1) := by decide +kernel
theorem dX0_init_48 : decode cX0_init 48 = .ok (.iload_n 2, 1) := by decide +kernel
theorem dX0_init_49 : decode cX0_init 49 = .ok (.putfield 38, 3) := by decide +kernel
theorem dX0_init_52 : decode cX0_init 52 = .ok (.aload_n 0, 1) := by decide +kernel
theorem dX0_init_53 : decode cX0_init 53 = .ok (.iload_n 3, 1) := by decide +kernel
theorem dX0_init_54 : decode cX0_init 54 = .ok (.putfield 41, 3) := by decide +kernel
theorem dX0_init_57 : decode cX0_init 57 = .ok (.return_, 1) := by decide +kernel
theorem dX0_addLine_0 : decode cX0_addLine 0 = .ok (.aload_n 0, 1) := by decide +kernel
theorem dX0_addLine_1 : decode cX0_addLine 1 = .ok (.getfield 19, 3) := by decide +kernel
theorem dX0_addLine_4 : decode cX0_addLine 4 = .ok (.aload_n 0, 1) := by decide +kernel
theorem dX0_addLine_5 : decode cX0_addLine 5 = .ok (.getfield 22, 3) := by decide +kernel
theorem dX0_addLine_8 : decode cX0_addLine 8 = .ok (.arraylength, 1) := by decide +kernel
theorem dX0_addLine_9 : decode cX0_addLine 9 = .ok (.if_icmp .lt 4, 3) := by decide +kernel
theorem dX0_addLine_12 : decode cX0_addLine 12 = .ok (.return_, 1) := by decide +kernel
theorem dX0_addLine_13 : decode cX0_addLine 13 = .ok (.aload_n 0, 1) := by decide +kernel
theorem dX0_addLine_14 : decode cX0_addLine 14 = .ok (.getfield 19, 3) := by decide +kernel
theorem dX0_addLine_17 : decode cX0_addLine 17 = .ok (.ifCond .ne 16, 3) := by decide +kernel
theorem dX0_addLine_20 : decode cX0_addLine 20 = .ok (.aload_n 0, 1) := by decide +kernel
theorem dX0_addLine_21 : decode cX0_addLine 21 = .ok (.iload_n 1, 1) := by decide +kernel
theorem dX0_addLine_22 : decode cX0_addLine 22 = .ok (.putfield 9, 3) := by decide +kernel
theorem dX0_addLine_25 : decode cX0_addLine 25 = .ok (.aload_n 0, 1) := by decide +kernel
theorem dX0_addLine_26 : decode cX0_addLine 26 = .ok (.iload_n 2, 1) := by decide +kernel
theorem dX0_addLine_27 : decode cX0_addLine 27 = .ok (.putfield 15, 3) := by decide +kernel
theorem dX0_addLine_30 : decode cX0_addLine 30 = .ok (.goto 18, 3) := by decide +kernel
theorem dX0_addLine_33 : decode cX0_addLine 33 = .ok (.aload_n 0, 1) := by decide +kernel
theorem dX0_addLine_34 : decode cX0_addLine 34 = .ok (.getfield 22, 3) := by decide +kernel
theorem dX0_addLine_37 : decode cX0_addLine 37 = .ok (.aload_n 0, 1) := by decide +kernel
theorem dX0_addLine_38 : decode cX0_addLine 38 = .ok (.getfield 19, 3) := by decide +kernel
theorem dX0_addLine_41 : decode cX0_addLine 41 = .ok (.aload_n 0, 1) := by decide +kernel
theorem dX0_addLine_42 : decode cX0_addLine 42 = .ok (.invokevirtual 44, 3) := by decide +kernel
theorem dX0_addLine_45 : decode cX0_addLine 45 = .ok (.iload_n 1, 1) := by decide +kernel
theorem dX0_addLine_46 : decode cX0_addLine 46 = .ok (.iadd, 1) := by decide +kernel
theorem dX0_addLine_47 : decode cX0_addLine 47 = .ok (.iastore, 1) := by decide +kernel
theorem dX0_addLine_48 : decode cX0_addLine 48 = .ok (.aload_n 0, 1) := by decide +kernel
theorem dX0_addLine_49 : decode cX0_addLine 49 = .ok (.dup, 1) := by decide +kernel
theorem dX0_addLine_50 : decode cX0_addLine 50 = .ok (.getfield 19, 3) := by decide +kernel
theorem dX0_addLine_53 : decode cX0_addLine 53 = .ok (.iconst 1, 1) := by decide +kernel
theorem dX0_addLine_54 : decode cX0_addLine 54 = .ok (.iadd, 1) := by decide +kernel
theorem dX0_addLine_55 : decode cX0_addLine 55 = .ok (.putfield 19, 3) := by decide +kernel
theorem dX0_addLine_58 : decode cX0_addLine 58 = .ok (.return_, 1) := by decide +kernel
theorem dX0_height_0 : decode cX0_height 0 = .ok (.aload_n 0, 1) := by decide +kernel
theorem dX0_height_1 : decode cX0_height 1 = .ok (.getfield 19, 3) := by decide +kernel
theorem dX0_height_4 : decode cX0_height 4 = .ok (.ifCond .ne 7, 3) := by decide +kernel
theorem dX0_height_7 : decode cX0_height 7 = .ok (.iconst 0, 1) := by decide +kernel
theorem dX0_height_8 : decode cX0_height 8 = .ok (.goto 14, 3) := by decide +kernel
theorem dX0_height_11 : decode cX0_height 11 = .ok (.aload_n 0, 1) := by decide +kernel
theorem dX0_height_12 : decode cX0_height 12 = .ok (.getfield 22, 3) := by decide +kernel
theorem dX0_height_15 : decode cX0_height 15 = .ok (.aload_n 0, 1) := by decide +kernel
theorem dX0_height_16 : decode cX0_height 16 = .ok (.getfield 19, 3) := by decide +kernel
theorem dX0_height_19 : decode cX0_height 19 = .ok (.iconst 1, 1) := by decide +kernel
theorem dX0_height_20 : decode cX0_height 20 = .ok (.isub, 1) := by decide +kernel
theorem dX0_height_21 : decode cX0_height 21 = .ok (.iaload, 1) := by decide +kernel
theorem dX0_height_22 : decode cX0_height 22 = .ok (.ireturn, 1) := by decide +kernel
theorem dX0_takesItsTurn_0 : decode cX0_takesItsTurn 0 = .ok (.aload_n 0, 1) := by decide +kernel
theorem dX0_takesItsTurn_1 : decode cX0_takesItsTurn 1 = .ok (.getfield 26, 3) := by decide +kernel
theorem dX0_takesItsTurn_4 : decode cX0_takesItsTurn 4 = .ok (.ifCond .ne 14, 3) := by decide +kernel
theorem dX0_takesItsTurn_7 : decode cX0_takesItsTurn 7 = .ok (.aload_n 0, 1) := by decide +kernel
theorem dX0_takesItsTurn_8 : decode cX0_takesItsTurn 8 = .ok (.getfield 19, 3) := by decide +kernel
theorem dX0_takesItsTurn_11 : decode cX0_takesItsTurn 11 = .ok (.ifCond .le 7, 3) := by decide +kernel
theorem dX0_takesItsTurn_14 : decode cX0_takesItsTurn 14 = .ok (.iconst 1, 1) := by decide +kernel
theorem dX0_takesItsTurn_15 : decode cX0_takesItsTurn 15 = .ok (.goto 4, 3) := by decide +kernel
theorem dX0_takesItsTurn_18 : decode cX0_takesItsTurn 18 = .ok (.iconst 0, 1) := by decide +kernel
theorem dX0_takesItsTurn_19 : decode cX0_takesItsTurn 19 = .ok (.istore_n 1, 1) := by decide +kernel
theorem dX0_takesItsTurn_20 : decode cX0_takesItsTurn 20 = .ok (.aload_n 0, 1) := by decide +kernel
theorem dX0_takesItsTurn_21 : decode cX0_takesItsTurn 21 = .ok (.iconst 0, 1) := by decide +kernel
theorem dX0_takesItsTurn_22 : decode cX0_takesItsTurn 22 = .ok (.putfield 26, 3) := by decide +kernel
theorem dX0_takesItsTurn_25 : decode cX0_takesItsTurn 25 = .ok (.iload_n 1, 1) := by decide +kernel
theorem dX0_takesItsTurn_26 : decode cX0_takesItsTurn 26 = .ok (.ireturn, 1) := by decide +kernel
theorem dX1_init_0 : decode cX1_init 0 = .ok (.aload_n 0, 1) := by decide +kernel
theorem dX1_init_1 : decode cX1_init 1 = .ok (.invokespecial 1, 3) := by decide +kernel
theorem dX1_init_4 : decode cX1_init 4 = .ok (.aload_n 0, 1) := by decide +kernel
theorem dX1_init_5 : decode cX1_init 5 = .ok (.new 7, 3) := by decide +kernel
theorem dX1_init_8 : decode cX1_init 8 = .ok (.dup, 1) := by decide +kernel
theorem dX1_init_9 : decode cX1_init 9 = .ok (.invokespecial 9, 3) := by decide +kernel
theorem dX1_init_12 : decode cX1_init 12 = .ok (.putfield 10, 3) := by decide +kernel
theorem dX1_init_15 : decode cX1_init 15 = .ok (.aload_n 0, 1) := by decide +kernel
theorem dX1_init_16 : decode cX1_init 16 = .ok (.iconst 0, 1) := by decide +kernel
theorem dX1_init_17 : decode cX1_init 17 = .ok (.putfield 16, 3) := by decide +kernel
theorem dX1_init_20 : decode cX1_init 20 = .ok (.return_, 1) := by decide +kernel
theorem dX1_clear_0 : decode cX1_clear 0 = .ok (.aload_n 0, 1) := by decide +kernel
theorem dX1_clear_1 : decode cX1_clear 1 = .ok (.iconst 0, 1) := by decide +kernel
theorem dX1_clear_2 : decode cX1_clear 2 = .ok (.putfield 16, 3) := by decide +kernel
theorem dX1_clear_5 : decode cX1_clear 5 = .ok (.return_, 1) := by decide +kernel
theorem dX1_add_0 : decode cX1_add 0 = .ok (.aload_n 0, 1) := by decide +kernel
theorem dX1_add_1 : decode cX1_add 1 = .ok (.getfield 16, 3) := by decide +kernel
theorem dX1_add_4 : decode cX1_add 4 = .ok (.bipush 64, 2) := by decide +kernel
theorem dX1_add_6 : decode cX1_add 6 = .ok (.idiv, 1) := by decide +kernel
theorem dX1_add_7 : decode cX1_add 7 = .ok (.istore 6, 2) := by decide +kernel
theorem dX1_add_9 : decode cX1_add 9 = .ok (.iload 6, 2) := by decide +kernel
theorem dX1_add_11 : decode cX1_add 11 = .ok (.aload_n 0, 1) := by decide +kernel
theorem dX1_add_12 : decode cX1_add 12 = .ok (.getfield 10, 3) := by decide +kernel
theorem dX1_add_15 : decode cX1_add 15 = .ok (.invokevirtual 20, 3) := by decide +kernel
theorem dX1_add_18 : decode cX1_add 18 = .ok (.if_icmp .lt 18, 3) := by decide +kernel
theorem dX1_add_21 : decode cX1_add 21 = .ok (.aload_n 0, 1) := by decide +kernel
theorem dX1_add_22 : decode cX1_add 22 = .ok (.getfield 10, 3) := by decide +kernel
theorem dX1_add_25 : decode cX1_add 25 = .ok (.new 24, 3) := by decide +kernel
theorem dX1_add_28 : decode cX1_add 28 = .ok (.dup, 1) := by decide +kernel
theorem dX1_add_29 : decode cX1_add 29 = .ok (.invokespecial 26, 3) := by decide +kernel
theorem dX1_add_32 : decode cX1_add 32 = .ok (.invokevirtual 27, 3) := by decide +kernel
theorem dX1_add_35 : decode cX1_add 35 = .ok (.pop, 1) := by decide +kernel
theorem dX1_add_36 : decode cX1_add 36 = .ok (.aload_n 0, 1) := by decide +kernel
theorem dX1_add_37 : decode cX1_add 37 = .ok (.getfield 10, 3) := by decide +kernel
theorem dX1_add_40 : decode cX1_add 40 = .ok (.iload 6, 2) := by decide +kernel
theorem dX1_add_42 : decode cX1_add 42 = .ok (.invokevirtual 31, 3) := by decide +kernel
theorem dX1_add_45 : decode cX1_add 45 = .ok (.checkcast 24, 3) := by decide +kernel
theorem dX1_add_48 : decode cX1_add 48 = .ok (.getfield 35, 3) := by decide +kernel
theorem dX1_add_51 : decode cX1_add 51 = .ok (.astore 7, 2) := by decide +kernel
theorem dX1_add_53 : decode cX1_add 53 = .ok (.aload_n 0, 1) := by decide +kernel
theorem dX1_add_54 : decode cX1_add 54 = .ok (.getfield 16, 3) := by decide +kernel
theorem dX1_add_57 : decode cX1_add 57 = .ok (.bipush 64, 2) := by decide +kernel
theorem dX1_add_59 : decode cX1_add 59 = .ok (.irem, 1) := by decide +kernel
theorem dX1_add_60 : decode cX1_add 60 = .ok (.iconst 5, 1) := by decide +kernel
theorem dX1_add_61 : decode cX1_add 61 = .ok (.imul, 1) := by decide +kernel
theorem dX1_add_62 : decode cX1_add 62 = .ok (.istore 8, 2) := by decide +kernel
theorem dX1_add_64 : decode cX1_add 64 = .ok (.aload 7, 2) := by decide +kernel
theorem dX1_add_66 : decode cX1_add 66 = .ok (.iload 8, 2) := by decide +kernel
theorem dX1_add_68 : decode cX1_add 68 = .ok (.iload_n 1, 1) := by decide +kernel
theorem dX1_add_69 : decode cX1_add 69 = .ok (.iastore, 1) := by decide +kernel
theorem dX1_add_70 : decode cX1_add 70 = .ok (.aload 7, 2) := by decide +kernel
theorem dX1_add_72 : decode cX1_add 72 = .ok (.iload 8, 2) := by decide +kernel
theorem dX1_add_74 : decode cX1_add 74 = .ok (.iconst 1, 1) := by decide +kernel
theorem dX1_add_75 : decode cX1_add 75 = .ok (.iadd, 1) := by decide +kernel
theorem dX1_add_76 : decode cX1_add 76 = .ok (.iload_n 2, 1) := by decide +kernel
theorem dX1_add_77 : decode cX1_add 77 = .ok (.iastore, 1) := by decide +kernel
theorem dX1_add_78 : decode cX1_add 78 = .ok (.aload 7, 2) := by decide +kernel
theorem dX1_add_80 : decode cX1_add 80 = .ok (.iload 8, 2) := by decide +kernel
theorem dX1_add_82 : decode cX1_add 82 = .ok (.iconst 2, 1) := by decide +kernel
theorem dX1_add_83 : decode cX1_add 83 = .ok (.iadd, 1) := by decide +kernel
theorem dX1_add_84 : decode cX1_add 84 = .ok (.iload_n 3, 1) := by decide +kernel
theorem dX1_add_85 : decode cX1_add 85 = .ok (.iastore, 1) := by decide +kernel
theorem dX1_add_86 : decode cX1_add 86 = .ok (.aload 7, 2) := by decide +kernel
theorem dX1_add_88 : decode cX1_add 88 = .ok (.iload 8, 2) := by decide +kernel
theorem dX1_add_90 : decode cX1_add 90 = .ok (.iconst 3, 1) := by decide +kernel
theorem dX1_add_91 : decode cX1_add 91 = .ok (.iadd, 1) := by decide +kernel
theorem dX1_add_92 : decode cX1_add 92 = .ok (.iload 4, 2) := by decide +kernel
theorem dX1_add_94 : decode cX1_add 94 = .ok (.iastore, 1) := by decide +kernel
theorem dX1_add_95 : decode cX1_add 95 = .ok (.aload 7, 2) := by decide +kernel
theorem dX1_add_97 : decode cX1_add 97 = .ok (.iload 8, 2) := by decide +kernel
theorem dX1_add_99 : decode cX1_add 99 = .ok (.iconst 4, 1) := by decide +kernel
theorem dX1_add_100 : decode cX1_add 100 = .ok (.iadd, 1) := by decide +kernel
theorem dX1_add_101 : decode cX1_add 101 = .ok (.iload 5, 2) := by decide +kernel
theorem dX1_add_103 : decode cX1_add 103 = .ok (.iastore, 1) := by decide +kernel
theorem dX1_add_104 : decode cX1_add 104 = .ok (.aload_n 0, 1) := by decide +kernel
theorem dX1_add_105 : decode cX1_add 105 = .ok (.dup, 1) := by decide +kernel
theorem dX1_add_106 : decode cX1_add 106 = .ok (.getfield 16, 3) := by decide +kernel
theorem dX1_add_109 : decode cX1_add 109 = .ok (.iconst 1, 1) := by decide +kernel
theorem dX1_add_110 : decode cX1_add 110 = .ok (.iadd, 1) := by decide +kernel
theorem dX1_add_111 : decode cX1_add 111 = .ok (.putfield 16, 3) := by decide +kernel
theorem dX1_add_114 : decode cX1_add 114 = .ok (.return_, 1) := by decide +kernel
theorem dX1_has_0 : decode cX1_has 0 = .ok (.iload_n 1, 1) := by decide +kernel
theorem dX1_has_1 : decode cX1_has 1 = .ok (.ifCond .lt 24, 3) := by decide +kernel
theorem dX1_has_4 : decode cX1_has 4 = .ok (.iload_n 1, 1) := by decide +kernel
theorem dX1_has_5 : decode cX1_has 5 = .ok (.aload_n 0, 1) := by decide +kernel
theorem dX1_has_6 : decode cX1_has 6 = .ok (.getfield 16, 3) := by decide +kernel
theorem dX1_has_9 : decode cX1_has 9 = .ok (.if_icmp .ge 16, 3) := by decide +kernel
theorem dX1_has_12 : decode cX1_has 12 = .ok (.iload_n 2, 1) := by decide +kernel
theorem dX1_has_13 : decode cX1_has 13 = .ok (.ifCond .lt 12, 3) := by decide +kernel
theorem dX1_has_16 : decode cX1_has 16 = .ok (.iload_n 2, 1) := by decide +kernel
theorem dX1_has_17 : decode cX1_has 17 = .ok (.iconst 5, 1) := by decide +kernel
theorem dX1_has_18 : decode cX1_has 18 = .ok (.if_icmp .ge 7, 3) := by decide +kernel
theorem dX1_has_21 : decode cX1_has 21 = .ok (.iconst 1, 1) := by decide +kernel
theorem dX1_has_22 : decode cX1_has 22 = .ok (.goto 4, 3) := by decide +kernel
theorem dX1_has_25 : decode cX1_has 25 = .ok (.iconst 0, 1) := by decide +kernel
theorem dX1_has_26 : decode cX1_has 26 = .ok (.ireturn, 1) := by decide +kernel
theorem dX1_cell_0 : decode cX1_cell 0 = .ok (.aload_n 0, 1) := by decide +kernel
theorem dX1_cell_1 : decode cX1_cell 1 = .ok (.iload_n 1, 1) := by decide +kernel
theorem dX1_cell_2 : decode cX1_cell 2 = .ok (.iload_n 2, 1) := by decide +kernel
theorem dX1_cell_3 : decode cX1_cell 3 = .ok (.invokevirtual 39, 3) := by decide +kernel
theorem dX1_cell_6 : decode cX1_cell 6 = .ok (.ifCond .ne 5, 3) := by decide +kernel
theorem dX1_cell_9 : decode cX1_cell 9 = .ok (.iconst 0, 1) := by decide +kernel
theorem dX1_cell_10 : decode cX1_cell 10 = .ok (.ireturn, 1) := by decide +kernel
theorem dX1_cell_11 : decode cX1_cell 11 = .ok (.aload_n 0, 1) := by decide +kernel
theorem dX1_cell_12 : decode cX1_cell 12 = .ok (.getfield 10, 3) := by decide +kernel
theorem dX1_cell_15 : decode cX1_cell 15 = .ok (.iload_n 1, 1) := by decide +kernel
theorem dX1_cell_16 : decode cX1_cell 16 = .ok (.bipush 64, 2) := by decide +kernel
theorem dX1_cell_18 : decode cX1_cell 18 = .ok (.idiv, 1) := by decide +kernel
theorem dX1_cell_19 : decode cX1_cell 19 = .ok (.invokevirtual 31, 3) := by decide +kernel
theorem dX1_cell_22 : decode cX1_cell 22 = .ok (.checkcast 24, 3) := by decide +kernel
theorem dX1_cell_25 : decode cX1_cell 25 = .ok (.astore_n 3, 1) := by decide +kernel
theorem dX1_cell_26 : decode cX1_cell 26 = .ok (.aload_n 3, 1) := by decide +kernel
theorem dX1_cell_27 : decode cX1_cell 27 = .ok (.getfield 35, 3) := by decide +kernel
theorem dX1_cell_30 : decode cX1_cell 30 = .ok (.iload_n 1, 1) := by decide +kernel
theorem dX1_cell_31 : decode cX1_cell 31 = .ok (.bipush 64, 2) := by decide +kernel
theorem dX1_cell_33 : decode cX1_cell 33 = .ok (.irem, 1) := by decide +kernel
theorem dX1_cell_34 : decode cX1_cell 34 = .ok (.iconst 5, 1) := by decide +kernel
theorem dX1_cell_35 : decode cX1_cell 35 = .ok (.imul, 1) := by decide +kernel
theorem dX1_cell_36 : decode cX1_cell 36 = .ok (.iload_n 2, 1) := by decide +kernel
theorem dX1_cell_37 : decode cX1_cell 37 = .ok (.iadd, 1) := by decide +kernel
theorem dX1_cell_38 : decode cX1_cell 38 = .ok (.iaload, 1) := by decide +kernel
theorem dX1_cell_39 : decode cX1_cell 39 = .ok (.ireturn, 1) := by decide +kernel
theorem dX2_init_0 : decode cX2_init 0 = .ok (.aload_n 0, 1) := by decide +kernel
theorem dX2_init_1 : decode cX2_init 1 = .ok (.invokespecial 1, 3) := by decide +kernel
theorem dX2_init_4 : decode cX2_init 4 = .ok (.aload_n 0, 1) := by decide +kernel
theorem dX2_init_5 : decode cX2_init 5 = .ok (.sipush 320, 3) := by decide +kernel
theorem dX2_init_8 : decode cX2_init 8 = .ok (.newarray .int, 2) := by decide +kernel
theorem dX2_init_10 : decode cX2_init 10 = .ok (.putfield 9, 3) := by decide +kernel
theorem dX2_init_13 : decode cX2_init 13 = .ok (.return_, 1) := by decide +kernel
theorem dX3_init_0 : decode cX3_init 0 = .ok (.aload_n 0, 1) := by decide +kernel
theorem dX3_init_1 : decode cX3_init 1 = .ok (.invokespecial 1, 3) := by decide +kernel
theorem dX3_init_4 : decode cX3_init 4 = .ok (.aload_n 0, 1) := by decide +kernel
theorem dX3_init_5 : decode cX3_init 5 = .ok (.lconst 0, 1) := by decide +kernel
theorem dX3_init_6 : decode cX3_init 6 = .ok (.putfield 7, 3) := by decide +kernel
theorem dX3_init_9 : decode cX3_init 9 = .ok (.aload_n 0, 1) := by decide +kernel
theorem dX3_init_10 : decode cX3_init 10 = .ok (.iload_n 1, 1) := by decide +kernel
theorem dX3_init_11 : decode cX3_init 11 = .ok (.putfield 13, 3) := by decide +kernel
theorem dX3_init_14 : decode cX3_init 14 = .ok (.aload_n 0, 1) := by decide +kernel
theorem dX3_init_15 : decode cX3_init 15 = .ok (.iload_n 2, 1) := by decide +kernel
theorem dX3_init_16 : decode cX3_init 16 = .ok (.putfield 17, 3) := by decide +kernel
theorem dX3_init_19 : decode cX3_init 19 = .ok (.aload_n 0, 1) := by decide +kernel
theorem dX3_init_20 : decode cX3_init 20 = .ok (.iload_n 3, 1) := by decide +kernel
theorem dX3_init_21 : decode cX3_init 21 = .ok (.putfield 20, 3) := by decide +kernel
theorem dX3_init_24 : decode cX3_init 24 = .ok (.aload_n 0, 1) := by decide +kernel
theorem dX3_init_25 : decode cX3_init 25 = .ok (.iload 4, 2) := by decide +kernel
theorem dX3_init_27 : decode cX3_init 27 = .ok (.putfield 23, 3) := by decide +kernel
theorem dX3_init_30 : decode cX3_init 30 = .ok (.return_, 1) := by decide +kernel
theorem dX4_init_0 : decode cX4_init 0 = .ok (.aload_n 0, 1) := by decide +kernel
theorem dX4_init_1 : decode cX4_init 1 = .ok (.invokespecial 1, 3) := by decide +kernel
theorem dX4_init_4 : decode cX4_init 4 = .ok (.aload_n 0, 1) := by decide +kernel
theorem dX4_init_5 : decode cX4_init 5 = .ok (.new 7, 3) := by decide +kernel
theorem dX4_init_8 : decode cX4_init 8 = .ok (.dup, 1) := by decide +kernel
theorem dX4_init_9 : decode cX4_init 9 = .ok (.invokespecial 9, 3) := by decide +kernel
theorem dX4_init_12 : decode cX4_init 12 = .ok (.putfield 10, 3) := by decide +kernel
theorem dX4_init_15 : decode cX4_init 15 = .ok (.aload_n 0, 1) := by decide +kernel
theorem dX4_init_16 : decode cX4_init 16 = .ok (.new 7, 3) := by decide +kernel
theorem dX4_init_19 : decode cX4_init 19 = .ok (.dup, 1) := by decide +kernel
theorem dX4_init_20 : decode cX4_init 20 = .ok (.invokespecial 9, 3) := by decide +kernel
theorem dX4_init_23 : decode cX4_init 23 = .ok (.putfield 16, 3) := by decide +kernel
theorem dX4_init_26 : decode cX4_init 26 = .ok (.aload_n 0, 1) := by decide +kernel
theorem dX4_init_27 : decode cX4_init 27 = .ok (.iconst 0, 1) := by decide +kernel
theorem dX4_init_28 : decode cX4_init 28 = .ok (.putfield 19, 3) := by decide +kernel
theorem dX4_init_31 : decode cX4_init 31 = .ok (.aload_n 0, 1) := by decide +kernel
theorem dX4_init_32 : decode cX4_init 32 = .ok (.bipush 6, 2) := by decide +kernel
theorem dX4_init_34 : decode cX4_init 34 = .ok (.newarray .int, 2) := by decide +kernel
theorem dX4_init_36 : decode cX4_init 36 = .ok (.putfield 23, 3) := by decide +kernel
theorem dX4_init_39 : decode cX4_init 39 = .ok (.aload_n 0, 1) := by decide +kernel
theorem dX4_init_40 : decode cX4_init 40 = .ok (.bipush 6, 2) := by decide +kernel
theorem dX4_init_42 : decode cX4_init 42 = .ok (.newarray .int, 2) := by decide +kernel
theorem dX4_init_44 : decode cX4_init 44 = .ok (.putfield 27, 3) := by decide +kernel
theorem dX4_init_47 : decode cX4_init 47 = .ok (.aload_n 0, 1) := by decide +kernel
theorem dX4_init_48 : decode cX4_init 48 = .ok (.new 30, 3) := by decide +kernel
theorem dX4_init_51 : decode cX4_init 51 = .ok (.dup, 1) := by decide +kernel
theorem dX4_init_52 : decode cX4_init 52 = .ok (.invokespecial 32, 3) := by decide +kernel
theorem dX4_init_55 : decode cX4_init 55 = .ok (.putfield 33, 3) := by decide +kernel
theorem dX4_init_58 : decode cX4_init 58 = .ok (.aload_n 0, 1) := by decide +kernel
theorem dX4_init_59 : decode cX4_init 59 = .ok (.iconst 0, 1) := by decide +kernel
theorem dX4_init_60 : decode cX4_init 60 = .ok (.putfield 37, 3) := by decide +kernel
theorem dX4_init_63 : decode cX4_init 63 = .ok (.aload_n 0, 1) := by decide +kernel
theorem dX4_init_64 : decode cX4_init 64 = .ok (.iconst 0, 1) := by decide +kernel
theorem dX4_init_65 : decode cX4_init 65 = .ok (.putfield 41, 3) := by decide +kernel
theorem dX4_init_68 : decode cX4_init 68 = .ok (.aload_n 0, 1) := by decide +kernel
theorem dX4_init_69 : decode cX4_init 69 = .ok (.iconst 0, 1) := by decide +kernel
theorem dX4_init_70 : decode cX4_init 70 = .ok (.putfield 44, 3) := by decide +kernel
theorem dX4_init_73 : decode cX4_init 73 = .ok (.aload_n 0, 1) := by decide +kernel
theorem dX4_init_74 : decode cX4_init 74 = .ok (.iconst 0, 1) := by decide +kernel
theorem dX4_init_75 : decode cX4_init 75 = .ok (.putfield 47, 3) := by decide +kernel
theorem dX4_init_78 : decode cX4_init 78 = .ok (.aload_n 0, 1) := by decide +kernel
theorem dX4_init_79 : decode cX4_init 79 = .ok (.iconst 0, 1) := by decide +kernel
theorem dX4_init_80 : decode cX4_init 80 = .ok (.putfield 50, 3) := by decide +kernel
theorem dX4_init_83 : decode cX4_init 83 = .ok (.aload_n 0, 1) := by decide +kernel
theorem dX4_init_84 : decode cX4_init 84 = .ok (.iconst 0, 1) := by decide +kernel
theorem dX4_init_85 : decode cX4_init 85 = .ok (.putfield 53, 3) := by decide +kernel
theorem dX4_init_88 : decode cX4_init 88 = .ok (.aload_n 0, 1) := by decide +kernel
theorem dX4_init_89 : decode cX4_init 89 = .ok (.iconst 0, 1) := by decide +kernel
theorem dX4_init_90 : decode cX4_init 90 = .ok (.putfield 56, 3) := by decide +kernel
theorem dX4_init_93 : decode cX4_init 93 = .ok (.aload_n 0, 1) := by decide +kernel
theorem dX4_init_94 : decode cX4_init 94 = .ok (.iload_n 1, 1) := by decide +kernel
theorem dX4_init_95 : decode cX4_init 95 = .ok (.bipush 10, 2) := by decide +kernel
theorem dX4_init_97 : decode cX4_init 97 = .ok (.bipush 100, 2) := by decide +kernel
theorem dX4_init_99 : decode cX4_init 99 = .ok (.invokestatic 59, 3) := by decide +kernel
theorem dX4_init_102 : decode cX4_init 102 = .ok (.putfield 63, 3) := by decide +kernel
theorem dX4_init_105 : decode cX4_init 105 = .ok (.aload_n 0, 1) := by decide +kernel
theorem dX4_init_106 : decode cX4_init 106 = .ok (.iload_n 2, 1) := by decide +kernel
theorem dX4_init_107 : decode cX4_init 107 = .ok (.iconst 2, 1) := by decide +kernel
theorem dX4_init_108 : decode cX4_init 108 = .ok (.aload_n 0, 1) := by decide +kernel
theorem dX4_init_109 : decode cX4_init 109 = .ok (.getfield 63, 3) := by decide +kernel
theorem dX4_init_112 : decode cX4_init 112 = .ok (.iconst 2, 1) := by decide +kernel
theorem dX4_init_113 : decode cX4_init 113 = .ok (.isub, 1) := by decide +kernel
theorem dX4_init_114 : decode cX4_init 114 = .ok (.invokestatic 59, 3) := by decide +kernel
theorem dX4_init_117 : decode cX4_init 117 = .ok (.putfield 66, 3) := by decide +kernel
theorem dX4_init_120 : decode cX4_init 120 = .ok (.aload_n 0, 1) := by decide +kernel
theorem dX4_init_121 : decode cX4_init 121 = .ok (.iload_n 3, 1) := by decide +kernel
theorem dX4_init_122 : decode cX4_init 122 = .ok (.aload_n 0, 1) := by decide +kernel
theorem dX4_init_123 : decode cX4_init 123 = .ok (.getfield 66, 3) := by decide +kernel
theorem dX4_init_126 : decode cX4_init 126 = .ok (.aload_n 0, 1) := by decide +kernel
theorem dX4_init_127 : decode cX4_init 127 = .ok (.getfield 63, 3) := by decide +kernel
theorem dX4_init_130 : decode cX4_init 130 = .ok (.iconst 1, 1) := by decide +kernel
theorem dX4_init_131 : decode cX4_init 131 = .ok (.isub, 1) := by decide +kernel
theorem dX4_init_132 : decode cX4_init 132 = .ok (.invokestatic 59, 3) := by decide +kernel
theorem dX4_init_135 : decode cX4_init 135 = .ok (.putfield 69, 3) := by decide +kernel
theorem dX4_init_138 : decode cX4_init 138 = .ok (.return_, 1) := by decide +kernel
theorem dX4_group_0 : decode cX4_group 0 = .ok (.aload_n 0, 1) := by decide +kernel
theorem dX4_group_1 : decode cX4_group 1 = .ok (.iload_n 1, 1) := by decide +kernel
theorem dX4_group_2 : decode cX4_group 2 = .ok (.iload_n 2, 1) := by decide +kernel
theorem dX4_group_3 : decode cX4_group 3 = .ok (.invokevirtual 72, 3) := by decide +kernel
theorem dX4_group_6 : decode cX4_group 6 = .ok (.ifCond .ne 6, 3) := by decide +kernel
theorem dX4_group_9 : decode cX4_group 9 = .ok (.bipush (-4), 2) := by decide +kernel
theorem dX4_group_11 : decode cX4_group 11 = .ok (.ireturn, 1) := by decide +kernel
theorem dX4_group_12 : decode cX4_group 12 = .ok (.aload_n 0, 1) := by decide +kernel
theorem dX4_group_13 : decode cX4_group 13 = .ok (.getfield 37, 3) := by decide +kernel
theorem dX4_group_16 : decode cX4_group 16 = .ok (.ifCond .eq 6, 3) := by decide +kernel
theorem dX4_group_19 : decode cX4_group 19 = .ok (.bipush (-5), 2) := by decide +kernel
theorem dX4_group_21 : decode cX4_group 21 = .ok (.ireturn, 1) := by decide +kernel
theorem dX4_group_22 : decode cX4_group 22 = .ok (.iload_n 1, 1) := by decide +kernel
theorem dX4_group_23 : decode cX4_group 23 = .ok (.iconst 3, 1) := by decide +kernel
theorem dX4_group_24 : decode cX4_group 24 = .ok (.if_icmp .eq 14, 3) := by decide +kernel
theorem dX4_group_27 : decode cX4_group 27 = .ok (.aload_n 0, 1) := by decide +kernel
theorem dX4_group_28 : decode cX4_group 28 = .ok (.iload_n 1, 1) := by decide +kernel
theorem dX4_group_29 : decode cX4_group 29 = .ok (.iload_n 2, 1) := by decide +kernel
theorem dX4_group_30 : decode cX4_group 30 = .ok (.invokevirtual 76, 3) := by decide +kernel
theorem dX4_group_33 : decode cX4_group 33 = .ok (.ifnull 5, 3) := by decide +kernel
theorem dX4_group_36 : decode cX4_group 36 = .ok (.iconst 0, 1) := by decide +kernel
theorem dX4_group_37 : decode cX4_group 37 = .ok (.ireturn, 1) := by decide +kernel
theorem dX4_group_38 : decode cX4_group 38 = .ok (.aload_n 0, 1) := by decide +kernel
theorem dX4_group_39 : decode cX4_group 39 = .ok (.getfield 10, 3) := by decide +kernel
theorem dX4_group_42 : decode cX4_group 42 = .ok (.invokevirtual 80, 3) := by decide +kernel
theorem dX4_group_45 : decode cX4_group 45 = .ok (.bipush 20, 2) := by decide +kernel
theorem dX4_group_47 : decode cX4_group 47 = .ok (.if_icmp .lt 5, 3) := by decide +kernel
theorem dX4_group_50 : decode cX4_group 50 = .ok (.iconst (-1), 1) := by decide +kernel
theorem dX4_group_51 : decode cX4_group 51 = .ok (.ireturn, 1) := by decide +kernel
theorem dX4_group_52 : decode cX4_group 52 = .ok (.aload_n 0, 1) := by decide +kernel
theorem dX4_group_53 : decode cX4_group 53 = .ok (.getfield 10, 3) := by decide +kernel
theorem dX4_group_56 : decode cX4_group 56 = .ok (.invokevirtual 80, 3) := by decide +kernel
theorem dX4_group_59 : decode cX4_group 59 = .ok (.iconst 1, 1) := by decide +kernel
theorem dX4_group_60 : decode cX4_group 60 = .ok (.iadd, 1) := by decide +kernel
theorem dX4_group_61 : decode cX4_group 61 = .ok (.istore_n 3, 1) := by decide +kernel
theorem dX4_group_62 : decode cX4_group 62 = .ok (.aload_n 0, 1) := by decide +kernel
theorem dX4_group_63 : decode cX4_group 63 = .ok (.getfield 10, 3) := by decide +kernel
theorem dX4_group_66 : decode cX4_group 66 = .ok (.new 84, 3) := by decide +kernel
theorem dX4_group_69 : decode cX4_group 69 = .ok (.dup, 1) := by decide +kernel
theorem dX4_group_70 : decode cX4_group 70 = .ok (.iload_n 3, 1) := by decide +kernel
theorem dX4_group_71 : decode cX4_group 71 = .ok (.iload_n 1, 1) := by decide +kernel
theorem dX4_group_72 : decode cX4_group 72 = .ok (.iload_n 2, 1) := by decide +kernel
theorem dX4_group_73 : decode cX4_group 73 = .ok (.invokespecial 86, 3) := by decide +kernel
theorem dX4_group_76 : decode cX4_group 76 = .ok (.invokevirtual 89, 3) := by decide +kernel
theorem dX4_group_79 : decode cX4_group 79 = .ok (.pop, 1) := by decide +kernel
theorem dX4_group_80 : decode cX4_group 80 = .ok (.iload_n 3, 1) := by decide +kernel
theorem dX4_group_81 : decode cX4_group 81 = .ok (.ireturn, 1) := by decide +kernel
theorem dX4_line_0 : decode cX4_line 0 = .ok (.aload_n 0, 1) := by decide +kernel
theorem dX4_line_1 : decode cX4_line 1 = .ok (.iload_n 1, 1) := by decide +kernel
theorem dX4_line_2 : decode cX4_line 2 = .ok (.invokevirtual 93, 3) := by decide +kernel
theorem dX4_line_5 : decode cX4_line 5 = .ok (.astore 4, 2) := by decide +kernel
theorem dX4_line_7 : decode cX4_line 7 = .ok (.aload 4, 2) := by decide +kernel
theorem dX4_line_9 : decode cX4_line 9 = .ok (.ifnonnull 6, 3) := by decide +kernel
theorem dX4_line_12 : decode cX4_line 12 = .ok (.bipush (-2), 2) := by decide +kernel
theorem dX4_line_14 : decode cX4_line 14 = .ok (.ireturn, 1) := by decide +kernel
theorem dX4_line_15 : decode cX4_line 15 = .ok (.iload_n 3, 1) := by decide +kernel
theorem dX4_line_16 : decode cX4_line 16 = .ok (.ifCond .eq 8, 3) := by decide +kernel
theorem dX4_line_19 : decode cX4_line 19 = .ok (.bipush 20, 2) := by decide +kernel
theorem dX4_line_21 : decode cX4_line 21 = .ok (.goto 7, 3) := by decide +kernel
theorem dX4_line_24 : decode cX4_line 24 = .ok (.aload_n 0, 1) := by decide +kernel
theorem dX4_line_25 : decode cX4_line 25 = .ok (.getfield 63, 3) := by decide +kernel
theorem dX4_line_28 : decode cX4_line 28 = .ok (.istore 5, 2) := by decide +kernel
theorem dX4_line_30 : decode cX4_line 30 = .ok (.iload_n 2, 1) := by decide +kernel
theorem dX4_line_31 : decode cX4_line 31 = .ok (.iconst 1, 1) := by decide +kernel
theorem dX4_line_32 : decode cX4_line 32 = .ok (.if_icmp .lt 21, 3) := by decide +kernel
theorem dX4_line_35 : decode cX4_line 35 = .ok (.iload_n 2, 1) := by decide +kernel
theorem dX4_line_36 : decode cX4_line 36 = .ok (.iload 5, 2) := by decide +kernel
theorem dX4_line_38 : decode cX4_line 38 = .ok (.if_icmp .gt 15, 3) := by decide +kernel
theorem dX4_line_41 : decode cX4_line 41 = .ok (.iload_n 3, 1) := by decide +kernel
theorem dX4_line_42 : decode cX4_line 42 = .ok (.ifCond .ne 14, 3) := by decide +kernel
theorem dX4_line_45 : decode cX4_line 45 = .ok (.aload 4, 2) := by decide +kernel
theorem dX4_line_47 : decode cX4_line 47 = .ok (.getfield 97, 3) := by decide +kernel
theorem dX4_line_50 : decode cX4_line 50 = .ok (.ifCond .le 6, 3) := by decide +kernel
theorem dX4_line_53 : decode cX4_line 53 = .ok (.bipush (-4), 2) := by decide +kernel
theorem dX4_line_55 : decode cX4_line 55 = .ok (.ireturn, 1) := by decide +kernel
theorem dX4_line_56 : decode cX4_line 56 = .ok (.aload_n 0, 1) := by decide +kernel
theorem dX4_line_57 : decode cX4_line 57 = .ok (.getfield 37, 3) := by decide +kernel
theorem dX4_line_60 : decode cX4_line 60 = .ok (.ifCond .eq 6, 3) := by decide +kernel
theorem dX4_line_63 : decode cX4_line 63 = .ok (.bipush (-5), 2) := by decide +kernel
theorem dX4_line_65 : decode cX4_line 65 = .ok (.ireturn, 1) := by decide +kernel
theorem dX4_line_66 : decode cX4_line 66 = .ok (.aload 4, 2) := by decide +kernel
theorem dX4_line_68 : decode cX4_line 68 = .ok (.getfield 97, 3) := by decide +kernel
theorem dX4_line_71 : decode cX4_line 71 = .ok (.bipush 10, 2) := by decide +kernel
theorem dX4_line_73 : decode cX4_line 73 = .ok (.if_icmp .lt 5, 3) := by decide +kernel
theorem dX4_line_76 : decode cX4_line 76 = .ok (.iconst (-1), 1) := by decide +kernel
theorem dX4_line_77 : decode cX4_line 77 = .ok (.ireturn, 1) := by decide +kernel
theorem dX4_line_78 : decode cX4_line 78 = .ok (.aload_n 0, 1) := by decide +kernel
theorem dX4_line_79 : decode cX4_line 79 = .ok (.aload 4, 2) := by decide +kernel
theorem dX4_line_81 : decode cX4_line 81 = .ok (.iload_n 2, 1) := by decide +kernel
theorem dX4_line_82 : decode cX4_line 82 = .ok (.iload_n 3, 1) := by decide +kernel
theorem dX4_line_83 : decode cX4_line 83 = .ok (.invokevirtual 100, 3) := by decide +kernel
theorem dX4_line_86 : decode cX4_line 86 = .ok (.ifCond .ne 5, 3) := by decide +kernel
theorem dX4_line_89 : decode cX4_line 89 = .ok (.iconst 0, 1) := by decide +kernel
theorem dX4_line_90 : decode cX4_line 90 = .ok (.ireturn, 1) := by decide +kernel
theorem dX4_line_91 : decode cX4_line 91 = .ok (.aload 4, 2) := by decide +kernel
theorem dX4_line_93 : decode cX4_line 93 = .ok (.iload_n 2, 1) := by decide +kernel
theorem dX4_line_94 : decode cX4_line 94 = .ok (.iload_n 3, 1) := by decide +kernel
theorem dX4_line_95 : decode cX4_line 95 = .ok (.invokevirtual 104, 3) := by decide +kernel
theorem dX4_line_98 : decode cX4_line 98 = .ok (.aload 4, 2) := by decide +kernel
theorem dX4_line_100 : decode cX4_line 100 = .ok (.getfield 97, 3) := by decide +kernel
theorem dX4_line_103 : decode cX4_line 103 = .ok (.ireturn, 1) := by decide +kernel
theorem dX4_sum_0 : decode cX4_sum 0 = .ok (.aload_n 0, 1) := by decide +kernel
theorem dX4_sum_1 : decode cX4_sum 1 = .ok (.iload_n 1, 1) := by decide +kernel
