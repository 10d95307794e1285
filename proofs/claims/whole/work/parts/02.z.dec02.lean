theorem dX4_sum_2 : decode cX4_sum 2 = .ok (.invokevirtual 93, 3) := by decide +kernel
theorem dX4_sum_5 : decode cX4_sum 5 = .ok (.astore 4, 2) := by decide +kernel
theorem dX4_sum_7 : decode cX4_sum 7 = .ok (.aload 4, 2) := by decide +kernel
theorem dX4_sum_9 : decode cX4_sum 9 = .ok (.ifnull 12, 3) := by decide +kernel
theorem dX4_sum_12 : decode cX4_sum 12 = .ok (.aload 4, 2) := by decide +kernel
theorem dX4_sum_14 : decode cX4_sum 14 = .ok (.getfield 108, 3) := by decide +kernel
theorem dX4_sum_17 : decode cX4_sum 17 = .ok (.iconst 4, 1) := by decide +kernel
theorem dX4_sum_18 : decode cX4_sum 18 = .ok (.if_icmp .eq 6, 3) := by decide +kernel
theorem dX4_sum_21 : decode cX4_sum 21 = .ok (.bipush (-2), 2) := by decide +kernel
theorem dX4_sum_23 : decode cX4_sum 23 = .ok (.ireturn, 1) := by decide +kernel
theorem dX4_sum_24 : decode cX4_sum 24 = .ok (.aload_n 0, 1) := by decide +kernel
theorem dX4_sum_25 : decode cX4_sum 25 = .ok (.iload_n 2, 1) := by decide +kernel
theorem dX4_sum_26 : decode cX4_sum 26 = .ok (.aload 4, 2) := by decide +kernel
theorem dX4_sum_28 : decode cX4_sum 28 = .ok (.getfield 111, 3) := by decide +kernel
theorem dX4_sum_31 : decode cX4_sum 31 = .ok (.invokevirtual 114, 3) := by decide +kernel
theorem dX4_sum_34 : decode cX4_sum 34 = .ok (.ifCond .eq 16, 3) := by decide +kernel
theorem dX4_sum_37 : decode cX4_sum 37 = .ok (.iload_n 3, 1) := by decide +kernel
theorem dX4_sum_38 : decode cX4_sum 38 = .ok (.ifCond .lt 12, 3) := by decide +kernel
theorem dX4_sum_41 : decode cX4_sum 41 = .ok (.iload_n 3, 1) := by decide +kernel
theorem dX4_sum_42 : decode cX4_sum 42 = .ok (.aload 4, 2) := by decide +kernel
theorem dX4_sum_44 : decode cX4_sum 44 = .ok (.getfield 111, 3) := by decide +kernel
theorem dX4_sum_47 : decode cX4_sum 47 = .ok (.if_icmp .le 6, 3) := by decide +kernel
theorem dX4_sum_50 : decode cX4_sum 50 = .ok (.bipush (-4), 2) := by decide +kernel
theorem dX4_sum_52 : decode cX4_sum 52 = .ok (.ireturn, 1) := by decide +kernel
theorem dX4_sum_53 : decode cX4_sum 53 = .ok (.aload_n 0, 1) := by decide +kernel
theorem dX4_sum_54 : decode cX4_sum 54 = .ok (.getfield 37, 3) := by decide +kernel
theorem dX4_sum_57 : decode cX4_sum 57 = .ok (.ifCond .eq 6, 3) := by decide +kernel
theorem dX4_sum_60 : decode cX4_sum 60 = .ok (.bipush (-5), 2) := by decide +kernel
theorem dX4_sum_62 : decode cX4_sum 62 = .ok (.ireturn, 1) := by decide +kernel
theorem dX4_sum_63 : decode cX4_sum 63 = .ok (.aload_n 0, 1) := by decide +kernel
theorem dX4_sum_64 : decode cX4_sum 64 = .ok (.getfield 16, 3) := by decide +kernel
theorem dX4_sum_67 : decode cX4_sum 67 = .ok (.invokevirtual 80, 3) := by decide +kernel
theorem dX4_sum_70 : decode cX4_sum 70 = .ok (.bipush 20, 2) := by decide +kernel
theorem dX4_sum_72 : decode cX4_sum 72 = .ok (.if_icmp .lt 5, 3) := by decide +kernel
theorem dX4_sum_75 : decode cX4_sum 75 = .ok (.iconst (-1), 1) := by decide +kernel
theorem dX4_sum_76 : decode cX4_sum 76 = .ok (.ireturn, 1) := by decide +kernel
theorem dX4_sum_77 : decode cX4_sum 77 = .ok (.aload_n 0, 1) := by decide +kernel
theorem dX4_sum_78 : decode cX4_sum 78 = .ok (.getfield 16, 3) := by decide +kernel
theorem dX4_sum_81 : decode cX4_sum 81 = .ok (.new 117, 3) := by decide +kernel
theorem dX4_sum_84 : decode cX4_sum 84 = .ok (.dup, 1) := by decide +kernel
theorem dX4_sum_85 : decode cX4_sum 85 = .ok (.aload 4, 2) := by decide +kernel
theorem dX4_sum_87 : decode cX4_sum 87 = .ok (.getfield 119, 3) := by decide +kernel
theorem dX4_sum_90 : decode cX4_sum 90 = .ok (.aload 4, 2) := by decide +kernel
theorem dX4_sum_92 : decode cX4_sum 92 = .ok (.getfield 111, 3) := by decide +kernel
theorem dX4_sum_95 : decode cX4_sum 95 = .ok (.iload_n 2, 1) := by decide +kernel
theorem dX4_sum_96 : decode cX4_sum 96 = .ok (.iload_n 3, 1) := by decide +kernel
theorem dX4_sum_97 : decode cX4_sum 97 = .ok (.invokespecial 122, 3) := by decide +kernel
theorem dX4_sum_100 : decode cX4_sum 100 = .ok (.invokevirtual 89, 3) := by decide +kernel
theorem dX4_sum_103 : decode cX4_sum 103 = .ok (.pop, 1) := by decide +kernel
theorem dX4_sum_104 : decode cX4_sum 104 = .ok (.aload_n 0, 1) := by decide +kernel
theorem dX4_sum_105 : decode cX4_sum 105 = .ok (.getfield 16, 3) := by decide +kernel
theorem dX4_sum_108 : decode cX4_sum 108 = .ok (.invokevirtual 80, 3) := by decide +kernel
theorem dX4_sum_111 : decode cX4_sum 111 = .ok (.ireturn, 1) := by decide +kernel
theorem dX4_control_0 : decode cX4_control 0 = .ok (.aload_n 0, 1) := by decide +kernel
theorem dX4_control_1 : decode cX4_control 1 = .ok (.getfield 37, 3) := by decide +kernel
theorem dX4_control_4 : decode cX4_control 4 = .ok (.ifCond .eq 6, 3) := by decide +kernel
theorem dX4_control_7 : decode cX4_control 7 = .ok (.bipush (-5), 2) := by decide +kernel
theorem dX4_control_9 : decode cX4_control 9 = .ok (.ireturn, 1) := by decide +kernel
theorem dX4_control_10 : decode cX4_control 10 = .ok (.aload_n 0, 1) := by decide +kernel
theorem dX4_control_11 : decode cX4_control 11 = .ok (.getfield 19, 3) := by decide +kernel
theorem dX4_control_14 : decode cX4_control 14 = .ok (.iconst 5, 1) := by decide +kernel
theorem dX4_control_15 : decode cX4_control 15 = .ok (.if_icmp .lt 5, 3) := by decide +kernel
theorem dX4_control_18 : decode cX4_control 18 = .ok (.iconst (-1), 1) := by decide +kernel
theorem dX4_control_19 : decode cX4_control 19 = .ok (.ireturn, 1) := by decide +kernel
theorem dX4_control_20 : decode cX4_control 20 = .ok (.aload_n 0, 1) := by decide +kernel
theorem dX4_control_21 : decode cX4_control 21 = .ok (.dup, 1) := by decide +kernel
theorem dX4_control_22 : decode cX4_control 22 = .ok (.getfield 19, 3) := by decide +kernel
theorem dX4_control_25 : decode cX4_control 25 = .ok (.iconst 1, 1) := by decide +kernel
theorem dX4_control_26 : decode cX4_control 26 = .ok (.iadd, 1) := by decide +kernel
theorem dX4_control_27 : decode cX4_control 27 = .ok (.putfield 19, 3) := by decide +kernel
theorem dX4_control_30 : decode cX4_control 30 = .ok (.aload_n 0, 1) := by decide +kernel
theorem dX4_control_31 : decode cX4_control 31 = .ok (.getfield 23, 3) := by decide +kernel
theorem dX4_control_34 : decode cX4_control 34 = .ok (.aload_n 0, 1) := by decide +kernel
theorem dX4_control_35 : decode cX4_control 35 = .ok (.getfield 19, 3) := by decide +kernel
theorem dX4_control_38 : decode cX4_control 38 = .ok (.iload_n 1, 1) := by decide +kernel
theorem dX4_control_39 : decode cX4_control 39 = .ok (.iastore, 1) := by decide +kernel
theorem dX4_control_40 : decode cX4_control 40 = .ok (.aload_n 0, 1) := by decide +kernel
theorem dX4_control_41 : decode cX4_control 41 = .ok (.getfield 19, 3) := by decide +kernel
theorem dX4_control_44 : decode cX4_control 44 = .ok (.ireturn, 1) := by decide +kernel
theorem dX4_set_0 : decode cX4_set 0 = .ok (.iload_n 1, 1) := by decide +kernel
theorem dX4_set_1 : decode cX4_set 1 = .ok (.iconst 1, 1) := by decide +kernel
theorem dX4_set_2 : decode cX4_set 2 = .ok (.if_icmp .lt 11, 3) := by decide +kernel
theorem dX4_set_5 : decode cX4_set 5 = .ok (.iload_n 1, 1) := by decide +kernel
theorem dX4_set_6 : decode cX4_set 6 = .ok (.aload_n 0, 1) := by decide +kernel
theorem dX4_set_7 : decode cX4_set 7 = .ok (.getfield 19, 3) := by decide +kernel
theorem dX4_set_10 : decode cX4_set 10 = .ok (.if_icmp .le 6, 3) := by decide +kernel
theorem dX4_set_13 : decode cX4_set 13 = .ok (.bipush (-4), 2) := by decide +kernel
theorem dX4_set_15 : decode cX4_set 15 = .ok (.ireturn, 1) := by decide +kernel
theorem dX4_set_16 : decode cX4_set 16 = .ok (.aload_n 0, 1) := by decide +kernel
theorem dX4_set_17 : decode cX4_set 17 = .ok (.getfield 23, 3) := by decide +kernel
theorem dX4_set_20 : decode cX4_set 20 = .ok (.iload_n 1, 1) := by decide +kernel
theorem dX4_set_21 : decode cX4_set 21 = .ok (.iaload, 1) := by decide +kernel
theorem dX4_set_22 : decode cX4_set 22 = .ok (.istore_n 3, 1) := by decide +kernel
theorem dX4_set_23 : decode cX4_set 23 = .ok (.aload_n 0, 1) := by decide +kernel
theorem dX4_set_24 : decode cX4_set 24 = .ok (.getfield 23, 3) := by decide +kernel
theorem dX4_set_27 : decode cX4_set 27 = .ok (.iload_n 1, 1) := by decide +kernel
theorem dX4_set_28 : decode cX4_set 28 = .ok (.iload_n 2, 1) := by decide +kernel
theorem dX4_set_29 : decode cX4_set 29 = .ok (.iastore, 1) := by decide +kernel
theorem dX4_set_30 : decode cX4_set 30 = .ok (.iload_n 3, 1) := by decide +kernel
theorem dX4_set_31 : decode cX4_set 31 = .ok (.ireturn, 1) := by decide +kernel
theorem dX4_initiate_0 : decode cX4_initiate 0 = .ok (.aload_n 0, 1) := by decide +kernel
theorem dX4_initiate_1 : decode cX4_initiate 1 = .ok (.getfield 37, 3) := by decide +kernel
theorem dX4_initiate_4 : decode cX4_initiate 4 = .ok (.ifCond .eq 6, 3) := by decide +kernel
theorem dX4_initiate_7 : decode cX4_initiate 7 = .ok (.bipush (-5), 2) := by decide +kernel
theorem dX4_initiate_9 : decode cX4_initiate 9 = .ok (.ireturn, 1) := by decide +kernel
theorem dX4_initiate_10 : decode cX4_initiate 10 = .ok (.aload_n 0, 1) := by decide +kernel
theorem dX4_initiate_11 : decode cX4_initiate 11 = .ok (.iconst 1, 1) := by decide +kernel
theorem dX4_initiate_12 : decode cX4_initiate 12 = .ok (.putfield 37, 3) := by decide +kernel
theorem dX4_initiate_15 : decode cX4_initiate 15 = .ok (.aload_n 0, 1) := by decide +kernel
theorem dX4_initiate_16 : decode cX4_initiate 16 = .ok (.getfield 33, 3) := by decide +kernel
theorem dX4_initiate_19 : decode cX4_initiate 19 = .ok (.invokevirtual 125, 3) := by decide +kernel
theorem dX4_initiate_22 : decode cX4_initiate 22 = .ok (.iconst 0, 1) := by decide +kernel
theorem dX4_initiate_23 : decode cX4_initiate 23 = .ok (.istore_n 1, 1) := by decide +kernel
theorem dX4_initiate_24 : decode cX4_initiate 24 = .ok (.iload_n 1, 1) := by decide +kernel
theorem dX4_initiate_25 : decode cX4_initiate 25 = .ok (.aload_n 0, 1) := by decide +kernel
theorem dX4_initiate_26 : decode cX4_initiate 26 = .ok (.getfield 16, 3) := by decide +kernel
theorem dX4_initiate_29 : decode cX4_initiate 29 = .ok (.invokevirtual 80, 3) := by decide +kernel
theorem dX4_initiate_32 : decode cX4_initiate 32 = .ok (.if_icmp .ge 24, 3) := by decide +kernel
theorem dX4_initiate_35 : decode cX4_initiate 35 = .ok (.aload_n 0, 1) := by decide +kernel
theorem dX4_initiate_36 : decode cX4_initiate 36 = .ok (.getfield 16, 3) := by decide +kernel
theorem dX4_initiate_39 : decode cX4_initiate 39 = .ok (.iload_n 1, 1) := by decide +kernel
theorem dX4_initiate_40 : decode cX4_initiate 40 = .ok (.invokevirtual 128, 3) := by decide +kernel
theorem dX4_initiate_43 : decode cX4_initiate 43 = .ok (.checkcast 117, 3) := by decide +kernel
theorem dX4_initiate_46 : decode cX4_initiate 46 = .ok (.lconst 0, 1) := by decide +kernel
theorem dX4_initiate_47 : decode cX4_initiate 47 = .ok (.putfield 132, 3) := by decide +kernel
theorem dX4_initiate_50 : decode cX4_initiate 50 = .ok (.iinc 1 1, 3) := by decide +kernel
theorem dX4_initiate_53 : decode cX4_initiate 53 = .ok (.goto (-29), 3) := by decide +kernel
theorem dX4_initiate_56 : decode cX4_initiate 56 = .ok (.aload_n 0, 1) := by decide +kernel
theorem dX4_initiate_57 : decode cX4_initiate 57 = .ok (.iconst 0, 1) := by decide +kernel
theorem dX4_initiate_58 : decode cX4_initiate 58 = .ok (.putfield 41, 3) := by decide +kernel
theorem dX4_initiate_61 : decode cX4_initiate 61 = .ok (.aload_n 0, 1) := by decide +kernel
theorem dX4_initiate_62 : decode cX4_initiate 62 = .ok (.iconst 0, 1) := by decide +kernel
theorem dX4_initiate_63 : decode cX4_initiate 63 = .ok (.putfield 44, 3) := by decide +kernel
theorem dX4_initiate_66 : decode cX4_initiate 66 = .ok (.aload_n 0, 1) := by decide +kernel
theorem dX4_initiate_67 : decode cX4_initiate 67 = .ok (.iconst 0, 1) := by decide +kernel
theorem dX4_initiate_68 : decode cX4_initiate 68 = .ok (.putfield 47, 3) := by decide +kernel
theorem dX4_initiate_71 : decode cX4_initiate 71 = .ok (.aload_n 0, 1) := by decide +kernel
theorem dX4_initiate_72 : decode cX4_initiate 72 = .ok (.iconst 0, 1) := by decide +kernel
theorem dX4_initiate_73 : decode cX4_initiate 73 = .ok (.putfield 50, 3) := by decide +kernel
theorem dX4_initiate_76 : decode cX4_initiate 76 = .ok (.aload_n 0, 1) := by decide +kernel
theorem dX4_initiate_77 : decode cX4_initiate 77 = .ok (.iconst 0, 1) := by decide +kernel
theorem dX4_initiate_78 : decode cX4_initiate 78 = .ok (.putfield 53, 3) := by decide +kernel
theorem dX4_initiate_81 : decode cX4_initiate 81 = .ok (.iconst 1, 1) := by decide +kernel
theorem dX4_initiate_82 : decode cX4_initiate 82 = .ok (.ireturn, 1) := by decide +kernel
theorem dX4_generate_0 : decode cX4_generate 0 = .ok (.aload_n 0, 1) := by decide +kernel
theorem dX4_generate_1 : decode cX4_generate 1 = .ok (.iload_n 1, 1) := by decide +kernel
theorem dX4_generate_2 : decode cX4_generate 2 = .ok (.invokevirtual 93, 3) := by decide +kernel
theorem dX4_generate_5 : decode cX4_generate 5 = .ok (.astore 4, 2) := by decide +kernel
theorem dX4_generate_7 : decode cX4_generate 7 = .ok (.iload_n 1, 1) := by decide +kernel
theorem dX4_generate_8 : decode cX4_generate 8 = .ok (.ifCond .eq 20, 3) := by decide +kernel
theorem dX4_generate_11 : decode cX4_generate 11 = .ok (.aload 4, 2) := by decide +kernel
theorem dX4_generate_13 : decode cX4_generate 13 = .ok (.ifnull 12, 3) := by decide +kernel
theorem dX4_generate_16 : decode cX4_generate 16 = .ok (.aload 4, 2) := by decide +kernel
theorem dX4_generate_18 : decode cX4_generate 18 = .ok (.getfield 108, 3) := by decide +kernel
theorem dX4_generate_21 : decode cX4_generate 21 = .ok (.iconst 3, 1) := by decide +kernel
theorem dX4_generate_22 : decode cX4_generate 22 = .ok (.if_icmp .eq 6, 3) := by decide +kernel
theorem dX4_generate_25 : decode cX4_generate 25 = .ok (.bipush (-2), 2) := by decide +kernel
theorem dX4_generate_27 : decode cX4_generate 27 = .ok (.ireturn, 1) := by decide +kernel
theorem dX4_generate_28 : decode cX4_generate 28 = .ok (.aload_n 0, 1) := by decide +kernel
theorem dX4_generate_29 : decode cX4_generate 29 = .ok (.getfield 37, 3) := by decide +kernel
theorem dX4_generate_32 : decode cX4_generate 32 = .ok (.ifCond .ne 6, 3) := by decide +kernel
theorem dX4_generate_35 : decode cX4_generate 35 = .ok (.bipush (-5), 2) := by decide +kernel
theorem dX4_generate_37 : decode cX4_generate 37 = .ok (.ireturn, 1) := by decide +kernel
theorem dX4_generate_38 : decode cX4_generate 38 = .ok (.aload_n 0, 1) := by decide +kernel
theorem dX4_generate_39 : decode cX4_generate 39 = .ok (.getfield 50, 3) := by decide +kernel
theorem dX4_generate_42 : decode cX4_generate 42 = .ok (.sipush 200, 3) := by decide +kernel
theorem dX4_generate_45 : decode cX4_generate 45 = .ok (.if_icmp .lt 5, 3) := by decide +kernel
theorem dX4_generate_48 : decode cX4_generate 48 = .ok (.iconst (-1), 1) := by decide +kernel
theorem dX4_generate_49 : decode cX4_generate 49 = .ok (.ireturn, 1) := by decide +kernel
theorem dX4_generate_50 : decode cX4_generate 50 = .ok (.aload_n 0, 1) := by decide +kernel
theorem dX4_generate_51 : decode cX4_generate 51 = .ok (.getfield 33, 3) := by decide +kernel
theorem dX4_generate_54 : decode cX4_generate 54 = .ok (.getfield 136, 3) := by decide +kernel
theorem dX4_generate_57 : decode cX4_generate 57 = .ok (.istore 5, 2) := by decide +kernel
theorem dX4_generate_59 : decode cX4_generate 59 = .ok (.aload_n 0, 1) := by decide +kernel
theorem dX4_generate_60 : decode cX4_generate 60 = .ok (.invokevirtual 139, 3) := by decide +kernel
theorem dX4_generate_63 : decode cX4_generate 63 = .ok (.istore 6, 2) := by decide +kernel
theorem dX4_generate_65 : decode cX4_generate 65 = .ok (.aload_n 0, 1) := by decide +kernel
theorem dX4_generate_66 : decode cX4_generate 66 = .ok (.getfield 50, 3) := by decide +kernel
theorem dX4_generate_69 : decode cX4_generate 69 = .ok (.ifCond .ne 25, 3) := by decide +kernel
theorem dX4_generate_72 : decode cX4_generate 72 = .ok (.aload_n 0, 1) := by decide +kernel
theorem dX4_generate_73 : decode cX4_generate 73 = .ok (.aload_n 0, 1) := by decide +kernel
theorem dX4_generate_74 : decode cX4_generate 74 = .ok (.iconst 0, 1) := by decide +kernel
theorem dX4_generate_75 : decode cX4_generate 75 = .ok (.iconst 0, 1) := by decide +kernel
theorem dX4_generate_76 : decode cX4_generate 76 = .ok (.invokevirtual 76, 3) := by decide +kernel
theorem dX4_generate_79 : decode cX4_generate 79 = .ok (.invokevirtual 142, 3) := by decide +kernel
theorem dX4_generate_82 : decode cX4_generate 82 = .ok (.aload_n 0, 1) := by decide +kernel
theorem dX4_generate_83 : decode cX4_generate 83 = .ok (.invokevirtual 146, 3) := by decide +kernel
theorem dX4_generate_86 : decode cX4_generate 86 = .ok (.aload_n 0, 1) := by decide +kernel
theorem dX4_generate_87 : decode cX4_generate 87 = .ok (.iconst 0, 1) := by decide +kernel
theorem dX4_generate_88 : decode cX4_generate 88 = .ok (.invokevirtual 149, 3) := by decide +kernel
theorem dX4_generate_91 : decode cX4_generate 91 = .ok (.goto 44, 3) := by decide +kernel
theorem dX4_generate_94 : decode cX4_generate 94 = .ok (.iload 6, 2) := by decide +kernel
theorem dX4_generate_96 : decode cX4_generate 96 = .ok (.aload_n 0, 1) := by decide +kernel
theorem dX4_generate_97 : decode cX4_generate 97 = .ok (.getfield 19, 3) := by decide +kernel
theorem dX4_generate_100 : decode cX4_generate 100 = .ok (.if_icmp .gt 35, 3) := by decide +kernel
theorem dX4_generate_103 : decode cX4_generate 103 = .ok (.aload_n 0, 1) := by decide +kernel
theorem dX4_generate_104 : decode cX4_generate 104 = .ok (.dup, 1) := by decide +kernel
theorem dX4_generate_105 : decode cX4_generate 105 = .ok (.getfield 53, 3) := by decide +kernel
theorem dX4_generate_108 : decode cX4_generate 108 = .ok (.iconst 1, 1) := by decide +kernel
theorem dX4_generate_109 : decode cX4_generate 109 = .ok (.iadd, 1) := by decide +kernel
theorem dX4_generate_110 : decode cX4_generate 110 = .ok (.putfield 53, 3) := by decide +kernel
theorem dX4_generate_113 : decode cX4_generate 113 = .ok (.aload_n 0, 1) := by decide +kernel
theorem dX4_generate_114 : decode cX4_generate 114 = .ok (.iload 6, 2) := by decide +kernel
theorem dX4_generate_116 : decode cX4_generate 116 = .ok (.invokevirtual 153, 3) := by decide +kernel
theorem dX4_generate_119 : decode cX4_generate 119 = .ok (.aload_n 0, 1) := by decide +kernel
theorem dX4_generate_120 : decode cX4_generate 120 = .ok (.iload 6, 2) := by decide +kernel
theorem dX4_generate_122 : decode cX4_generate 122 = .ok (.invokevirtual 149, 3) := by decide +kernel
theorem dX4_generate_125 : decode cX4_generate 125 = .ok (.aload_n 0, 1) := by decide +kernel
theorem dX4_generate_126 : decode cX4_generate 126 = .ok (.dup, 1) := by decide +kernel
theorem dX4_generate_127 : decode cX4_generate 127 = .ok (.getfield 56, 3) := by decide +kernel
theorem dX4_generate_130 : decode cX4_generate 130 = .ok (.iconst 1, 1) := by decide +kernel
theorem dX4_generate_131 : decode cX4_generate 131 = .ok (.iadd, 1) := by decide +kernel
theorem dX4_generate_132 : decode cX4_generate 132 = .ok (.putfield 56, 3) := by decide +kernel
theorem dX4_generate_135 : decode cX4_generate 135 = .ok (.aload_n 0, 1) := by decide +kernel
theorem dX4_generate_136 : decode cX4_generate 136 = .ok (.dup, 1) := by decide +kernel
theorem dX4_generate_137 : decode cX4_generate 137 = .ok (.getfield 50, 3) := by decide +kernel
theorem dX4_generate_140 : decode cX4_generate 140 = .ok (.iconst 1, 1) := by decide +kernel
theorem dX4_generate_141 : decode cX4_generate 141 = .ok (.iadd, 1) := by decide +kernel
theorem dX4_generate_142 : decode cX4_generate 142 = .ok (.putfield 50, 3) := by decide +kernel
theorem dX4_generate_145 : decode cX4_generate 145 = .ok (.aload_n 0, 1) := by decide +kernel
theorem dX4_generate_146 : decode cX4_generate 146 = .ok (.getfield 23, 3) := by decide +kernel
theorem dX4_generate_149 : decode cX4_generate 149 = .ok (.iconst 0, 1) := by decide +kernel
theorem dX4_generate_150 : decode cX4_generate 150 = .ok (.aload_n 0, 1) := by decide +kernel
theorem dX4_generate_151 : decode cX4_generate 151 = .ok (.getfield 27, 3) := by decide +kernel
theorem dX4_generate_154 : decode cX4_generate 154 = .ok (.iconst 0, 1) := by decide +kernel
theorem dX4_generate_155 : decode cX4_generate 155 = .ok (.aload_n 0, 1) := by decide +kernel
theorem dX4_generate_156 : decode cX4_generate 156 = .ok (.getfield 23, 3) := by decide +kernel
theorem dX4_generate_159 : decode cX4_generate 159 = .ok (.arraylength, 1) := by decide +kernel
theorem dX4_generate_160 : decode cX4_generate 160 = .ok (.invokestatic 156, 3) := by decide +kernel
theorem dX4_generate_163 : decode cX4_generate 163 = .ok (.aload_n 0, 1) := by decide +kernel
theorem dX4_generate_164 : decode cX4_generate 164 = .ok (.iload_n 1, 1) := by decide +kernel
theorem dX4_generate_165 : decode cX4_generate 165 = .ok (.lload_n 2, 1) := by decide +kernel
theorem dX4_generate_166 : decode cX4_generate 166 = .ok (.invokevirtual 162, 3) := by decide +kernel
theorem dX4_generate_169 : decode cX4_generate 169 = .ok (.aload_n 0, 1) := by decide +kernel
theorem dX4_generate_170 : decode cX4_generate 170 = .ok (.aload 4, 2) := by decide +kernel
theorem dX4_generate_172 : decode cX4_generate 172 = .ok (.lload_n 2, 1) := by decide +kernel
theorem dX4_generate_173 : decode cX4_generate 173 = .ok (.invokevirtual 166, 3) := by decide +kernel
theorem dX4_generate_176 : decode cX4_generate 176 = .ok (.aload_n 0, 1) := by decide +kernel
theorem dX4_generate_177 : decode cX4_generate 177 = .ok (.getfield 33, 3) := by decide +kernel
theorem dX4_generate_180 : decode cX4_generate 180 = .ok (.getfield 136, 3) := by decide +kernel
theorem dX4_generate_183 : decode cX4_generate 183 = .ok (.iload 5, 2) := by decide +kernel
theorem dX4_generate_185 : decode cX4_generate 185 = .ok (.isub, 1) := by decide +kernel
theorem dX4_generate_186 : decode cX4_generate 186 = .ok (.ireturn, 1) := by decide +kernel
theorem dX4_terminate_0 : decode cX4_terminate 0 = .ok (.aload_n 0, 1) := by decide +kernel
theorem dX4_terminate_1 : decode cX4_terminate 1 = .ok (.getfield 37, 3) := by decide +kernel
theorem dX4_terminate_4 : decode cX4_terminate 4 = .ok (.ifCond .ne 6, 3) := by decide +kernel
theorem dX4_terminate_7 : decode cX4_terminate 7 = .ok (.bipush (-5), 2) := by decide +kernel
theorem dX4_terminate_9 : decode cX4_terminate 9 = .ok (.ireturn, 1) := by decide +kernel
theorem dX4_terminate_10 : decode cX4_terminate 10 = .ok (.aload_n 0, 1) := by decide +kernel
theorem dX4_terminate_11 : decode cX4_terminate 11 = .ok (.getfield 50, 3) := by decide +kernel
theorem dX4_terminate_14 : decode cX4_terminate 14 = .ok (.ifCond .le 23, 3) := by decide +kernel
theorem dX4_terminate_17 : decode cX4_terminate 17 = .ok (.aload_n 0, 1) := by decide +kernel
theorem dX4_terminate_18 : decode cX4_terminate 18 = .ok (.iconst 0, 1) := by decide +kernel
theorem dX4_terminate_19 : decode cX4_terminate 19 = .ok (.invokevirtual 153, 3) := by decide +kernel
theorem dX4_terminate_22 : decode cX4_terminate 22 = .ok (.aload_n 0, 1) := by decide +kernel
theorem dX4_terminate_23 : decode cX4_terminate 23 = .ok (.invokevirtual 170, 3) := by decide +kernel
theorem dX4_terminate_26 : decode cX4_terminate 26 = .ok (.aload_n 0, 1) := by decide +kernel
theorem dX4_terminate_27 : decode cX4_terminate 27 = .ok (.aload_n 0, 1) := by decide +kernel
theorem dX4_terminate_28 : decode cX4_terminate 28 = .ok (.bipush 6, 2) := by decide +kernel
theorem dX4_terminate_30 : decode cX4_terminate 30 = .ok (.iconst 0, 1) := by decide +kernel
theorem dX4_terminate_31 : decode cX4_terminate 31 = .ok (.invokevirtual 76, 3) := by decide +kernel
theorem dX4_terminate_34 : decode cX4_terminate 34 = .ok (.invokevirtual 142, 3) := by decide +kernel
theorem dX4_terminate_37 : decode cX4_terminate 37 = .ok (.aload_n 0, 1) := by decide +kernel
theorem dX4_terminate_38 : decode cX4_terminate 38 = .ok (.iconst 0, 1) := by decide +kernel
theorem dX4_terminate_39 : decode cX4_terminate 39 = .ok (.putfield 37, 3) := by decide +kernel
theorem dX4_terminate_42 : decode cX4_terminate 42 = .ok (.aload_n 0, 1) := by decide +kernel
theorem dX4_terminate_43 : decode cX4_terminate 43 = .ok (.getfield 33, 3) := by decide +kernel
theorem dX4_terminate_46 : decode cX4_terminate 46 = .ok (.getfield 136, 3) := by decide +kernel
theorem dX4_terminate_49 : decode cX4_terminate 49 = .ok (.ireturn, 1) := by decide +kernel
theorem dX4_at_0 : decode cX4_at 0 = .ok (.aload_n 0, 1) := by decide +kernel
theorem dX4_at_1 : decode cX4_at 1 = .ok (.getfield 33, 3) := by decide +kernel
theorem dX4_at_4 : decode cX4_at 4 = .ok (.iload_n 1, 1) := by decide +kernel
theorem dX4_at_5 : decode cX4_at 5 = .ok (.iload_n 2, 1) := by decide +kernel
theorem dX4_at_6 : decode cX4_at 6 = .ok (.invokevirtual 173, 3) := by decide +kernel
theorem dX4_at_9 : decode cX4_at 9 = .ok (.ifCond .ne 13, 3) := by decide +kernel
theorem dX4_at_12 : decode cX4_at 12 = .ok (.new 176, 3) := by decide +kernel
theorem dX4_at_15 : decode cX4_at 15 = .ok (.dup, 1) := by decide +kernel
theorem dX4_at_16 : decode cX4_at 16 = .ok (.ldc 178, 2) := by decide +kernel
theorem dX4_at_18 : decode cX4_at 18 = .ok (.invokespecial 180, 3) := by decide +kernel
theorem dX4_at_21 : decode cX4_at 21 = .ok (.athrow, 1) := by decide +kernel
theorem dX4_at_22 : decode cX4_at 22 = .ok (.aload_n 0, 1) := by decide +kernel
theorem dX4_at_23 : decode cX4_at 23 = .ok (.getfield 33, 3) := by decide +kernel
theorem dX4_at_26 : decode cX4_at 26 = .ok (.iload_n 1, 1) := by decide +kernel
theorem dX4_at_27 : decode cX4_at 27 = .ok (.iload_n 2, 1) := by decide +kernel
theorem dX4_at_28 : decode cX4_at 28 = .ok (.invokevirtual 183, 3) := by decide +kernel
theorem dX4_at_31 : decode cX4_at 31 = .ok (.ireturn, 1) := by decide +kernel
theorem dX4_lines_0 : decode cX4_lines 0 = .ok (.aload_n 0, 1) := by decide +kernel
theorem dX4_lines_1 : decode cX4_lines 1 = .ok (.getfield 33, 3) := by decide +kernel
theorem dX4_lines_4 : decode cX4_lines 4 = .ok (.getfield 136, 3) := by decide +kernel
theorem dX4_lines_7 : decode cX4_lines 7 = .ok (.ireturn, 1) := by decide +kernel
theorem dX4_total_0 : decode cX4_total 0 = .ok (.aload_n 0, 1) := by decide +kernel
theorem dX4_total_1 : decode cX4_total 1 = .ok (.iload_n 1, 1) := by decide +kernel
theorem dX4_total_2 : decode cX4_total 2 = .ok (.invokevirtual 187, 3) := by decide +kernel
theorem dX4_total_5 : decode cX4_total 5 = .ok (.astore_n 2, 1) := by decide +kernel
theorem dX4_total_6 : decode cX4_total 6 = .ok (.aload_n 2, 1) := by decide +kernel
theorem dX4_total_7 : decode cX4_total 7 = .ok (.ifnonnull 7, 3) := by decide +kernel
theorem dX4_total_10 : decode cX4_total 10 = .ok (.lconst 0, 1) := by decide +kernel
theorem dX4_total_11 : decode cX4_total 11 = .ok (.goto 7, 3) := by decide +kernel
theorem dX4_total_14 : decode cX4_total 14 = .ok (.aload_n 2, 1) := by decide +kernel
theorem dX4_total_15 : decode cX4_total 15 = .ok (.getfield 132, 3) := by decide +kernel
theorem dX4_total_18 : decode cX4_total 18 = .ok (.lreturn, 1) := by decide +kernel
theorem dX4_counter_0 : decode cX4_counter 0 = .ok (.iload_n 1, 1) := by decide +kernel
theorem dX4_counter_1 : decode cX4_counter 1 = .ok (.tableswitch 89 0 6 #[43, 48, 53, 66, 74, 79, 84], 43) := by decide +kernel
theorem dX4_counter_44 : decode cX4_counter 44 = .ok (.aload_n 0, 1) := by decide +kernel
theorem dX4_counter_45 : decode cX4_counter 45 = .ok (.getfield 41, 3) := by decide +kernel
theorem dX4_counter_48 : decode cX4_counter 48 = .ok (.ireturn, 1) := by decide +kernel
theorem dX4_counter_49 : decode cX4_counter 49 = .ok (.aload_n 0, 1) := by decide +kernel
theorem dX4_counter_50 : decode cX4_counter 50 = .ok (.getfield 44, 3) := by decide +kernel
theorem dX4_counter_53 : decode cX4_counter 53 = .ok (.ireturn, 1) := by decide +kernel
theorem dX4_counter_54 : decode cX4_counter 54 = .ok (.aload_n 0, 1) := by decide +kernel
theorem dX4_counter_55 : decode cX4_counter 55 = .ok (.getfield 37, 3) := by decide +kernel
theorem dX4_counter_58 : decode cX4_counter 58 = .ok (.ifCond .eq 7, 3) := by decide +kernel
theorem dX4_counter_61 : decode cX4_counter 61 = .ok (.iconst 1, 1) := by decide +kernel
theorem dX4_counter_62 : decode cX4_counter 62 = .ok (.goto 4, 3) := by decide +kernel
theorem dX4_counter_65 : decode cX4_counter 65 = .ok (.iconst 0, 1) := by decide +kernel
theorem dX4_counter_66 : decode cX4_counter 66 = .ok (.ireturn, 1) := by decide +kernel
theorem dX4_counter_67 : decode cX4_counter 67 = .ok (.aload_n 0, 1) := by decide +kernel
theorem dX4_counter_68 : decode cX4_counter 68 = .ok (.getfield 10, 3) := by decide +kernel
theorem dX4_counter_71 : decode cX4_counter 71 = .ok (.invokevirtual 80, 3) := by decide +kernel
theorem dX4_counter_74 : decode cX4_counter 74 = .ok (.ireturn, 1) := by decide +kernel
theorem dX4_counter_75 : decode cX4_counter 75 = .ok (.aload_n 0, 1) := by decide +kernel
theorem dX4_counter_76 : decode cX4_counter 76 = .ok (.getfield 50, 3) := by decide +kernel
theorem dX4_counter_79 : decode cX4_counter 79 = .ok (.ireturn, 1) := by decide +kernel
theorem dX4_counter_80 : decode cX4_counter 80 = .ok (.aload_n 0, 1) := by decide +kernel
theorem dX4_counter_81 : decode cX4_counter 81 = .ok (.getfield 53, 3) := by decide +kernel
theorem dX4_counter_84 : decode cX4_counter 84 = .ok (.ireturn, 1) := by decide +kernel
theorem dX4_counter_85 : decode cX4_counter 85 = .ok (.aload_n 0, 1) := by decide +kernel
theorem dX4_counter_86 : decode cX4_counter 86 = .ok (.getfield 19, 3) := by decide +kernel
theorem dX4_counter_89 : decode cX4_counter 89 = .ok (.ireturn, 1) := by decide +kernel
theorem dX4_counter_90 : decode cX4_counter 90 = .ok (.iconst (-1), 1) := by decide +kernel
theorem dX4_counter_91 : decode cX4_counter 91 = .ok (.ireturn, 1) := by decide +kernel
theorem dX4_suppress_0 : decode cX4_suppress 0 = .ok (.aload_n 0, 1) := by decide +kernel
theorem dX4_suppress_1 : decode cX4_suppress 1 = .ok (.iload_n 1, 1) := by decide +kernel
theorem dX4_suppress_2 : decode cX4_suppress 2 = .ok (.invokevirtual 93, 3) := by decide +kernel
theorem dX4_suppress_5 : decode cX4_suppress 5 = .ok (.astore_n 2, 1) := by decide +kernel
theorem dX4_suppress_6 : decode cX4_suppress 6 = .ok (.aload_n 2, 1) := by decide +kernel
theorem dX4_suppress_7 : decode cX4_suppress 7 = .ok (.ifnonnull 6, 3) := by decide +kernel
theorem dX4_suppress_10 : decode cX4_suppress 10 = .ok (.bipush (-2), 2) := by decide +kernel
theorem dX4_suppress_12 : decode cX4_suppress 12 = .ok (.ireturn, 1) := by decide +kernel
theorem dX4_suppress_13 : decode cX4_suppress 13 = .ok (.aload_n 2, 1) := by decide +kernel
theorem dX4_suppress_14 : decode cX4_suppress 14 = .ok (.getfield 191, 3) := by decide +kernel
theorem dX4_suppress_17 : decode cX4_suppress 17 = .ok (.ifCond .eq 5, 3) := by decide +kernel
theorem dX4_suppress_20 : decode cX4_suppress 20 = .ok (.iconst 0, 1) := by decide +kernel
theorem dX4_suppress_21 : decode cX4_suppress 21 = .ok (.ireturn, 1) := by decide +kernel
theorem dX4_suppress_22 : decode cX4_suppress 22 = .ok (.aload_n 2, 1) := by decide +kernel
theorem dX4_suppress_23 : decode cX4_suppress 23 = .ok (.iconst 1, 1) := by decide +kernel
theorem dX4_suppress_24 : decode cX4_suppress 24 = .ok (.putfield 191, 3) := by decide +kernel
theorem dX4_suppress_27 : decode cX4_suppress 27 = .ok (.iconst 1, 1) := by decide +kernel
theorem dX4_suppress_28 : decode cX4_suppress 28 = .ok (.ireturn, 1) := by decide +kernel
theorem dX4_indicate_0 : decode cX4_indicate 0 = .ok (.aload_n 0, 1) := by decide +kernel
theorem dX4_indicate_1 : decode cX4_indicate 1 = .ok (.iload_n 1, 1) := by decide +kernel
theorem dX4_indicate_2 : decode cX4_indicate 2 = .ok (.invokevirtual 93, 3) := by decide +kernel
theorem dX4_indicate_5 : decode cX4_indicate 5 = .ok (.astore_n 2, 1) := by decide +kernel
theorem dX4_indicate_6 : decode cX4_indicate 6 = .ok (.aload_n 2, 1) := by decide +kernel
theorem dX4_indicate_7 : decode cX4_indicate 7 = .ok (.ifnull 11, 3) := by decide +kernel
theorem dX4_indicate_10 : decode cX4_indicate 10 = .ok (.aload_n 2, 1) := by decide +kernel
theorem dX4_indicate_11 : decode cX4_indicate 11 = .ok (.getfield 108, 3) := by decide +kernel
theorem dX4_indicate_14 : decode cX4_indicate 14 = .ok (.iconst 3, 1) := by decide +kernel
theorem dX4_indicate_15 : decode cX4_indicate 15 = .ok (.if_icmp .eq 6, 3) := by decide +kernel
theorem dX4_indicate_18 : decode cX4_indicate 18 = .ok (.bipush (-2), 2) := by decide +kernel
theorem dX4_indicate_20 : decode cX4_indicate 20 = .ok (.ireturn, 1) := by decide +kernel
theorem dX4_indicate_21 : decode cX4_indicate 21 = .ok (.aload_n 2, 1) := by decide +kernel
theorem dX4_indicate_22 : decode cX4_indicate 22 = .ok (.getfield 194, 3) := by decide +kernel
theorem dX4_indicate_25 : decode cX4_indicate 25 = .ok (.istore_n 3, 1) := by decide +kernel
theorem dX4_indicate_26 : decode cX4_indicate 26 = .ok (.aload_n 2, 1) := by decide +kernel
theorem dX4_indicate_27 : decode cX4_indicate 27 = .ok (.iload_n 3, 1) := by decide +kernel
theorem dX4_indicate_28 : decode cX4_indicate 28 = .ok (.ifCond .ne 7, 3) := by decide +kernel
theorem dX4_indicate_31 : decode cX4_indicate 31 = .ok (.iconst 1, 1) := by decide +kernel
theorem dX4_indicate_32 : decode cX4_indicate 32 = .ok (.goto 4, 3) := by decide +kernel
theorem dX4_indicate_35 : decode cX4_indicate 35 = .ok (.iconst 0, 1) := by decide +kernel
theorem dX4_indicate_36 : decode cX4_indicate 36 = .ok (.putfield 194, 3) := by decide +kernel
theorem dX4_indicate_39 : decode cX4_indicate 39 = .ok (.iload_n 3, 1) := by decide +kernel
theorem dX4_indicate_40 : decode cX4_indicate 40 = .ok (.ifCond .eq 7, 3) := by decide +kernel
theorem dX4_indicate_43 : decode cX4_indicate 43 = .ok (.iconst 1, 1) := by decide +kernel
theorem dX4_indicate_44 : decode cX4_indicate 44 = .ok (.goto 4, 3) := by decide +kernel
theorem dX4_indicate_47 : decode cX4_indicate 47 = .ok (.iconst 0, 1) := by decide +kernel
theorem dX4_indicate_48 : decode cX4_indicate 48 = .ok (.ireturn, 1) := by decide +kernel
theorem dX4_held_0 : decode cX4_held 0 = .ok (.iload_n 1, 1) := by decide +kernel
theorem dX4_held_1 : decode cX4_held 1 = .ok (.iload_n 0, 1) := by decide +kernel
theorem dX4_held_2 : decode cX4_held 2 = .ok (.iload_n 2, 1) := by decide +kernel
theorem dX4_held_3 : decode cX4_held 3 = .ok (.invokestatic 197, 3) := by decide +kernel
theorem dX4_held_6 : decode cX4_held 6 = .ok (.invokestatic 202, 3) := by decide +kernel
theorem dX4_held_9 : decode cX4_held 9 = .ok (.ireturn, 1) := by decide +kernel
theorem dX4_isOfBody_0 : decode cX4_isOfBody 0 = .ok (.iload_n 0, 1) := by decide +kernel
theorem dX4_isOfBody_1 : decode cX4_isOfBody 1 = .ok (.iconst 2, 1) := by decide +kernel
theorem dX4_isOfBody_2 : decode cX4_isOfBody 2 = .ok (.if_icmp .eq 13, 3) := by decide +kernel
theorem dX4_isOfBody_5 : decode cX4_isOfBody 5 = .ok (.iload_n 0, 1) := by decide +kernel
theorem dX4_isOfBody_6 : decode cX4_isOfBody 6 = .ok (.iconst 3, 1) := by decide +kernel
theorem dX4_isOfBody_7 : decode cX4_isOfBody 7 = .ok (.if_icmp .eq 8, 3) := by decide +kernel
theorem dX4_isOfBody_10 : decode cX4_isOfBody 10 = .ok (.iload_n 0, 1) := by decide +kernel
theorem dX4_isOfBody_11 : decode cX4_isOfBody 11 = .ok (.iconst 4, 1) := by decide +kernel
theorem dX4_isOfBody_12 : decode cX4_isOfBody 12 = .ok (.if_icmp .ne 7, 3) := by decide +kernel
theorem dX4_isOfBody_15 : decode cX4_isOfBody 15 = .ok (.iconst 1, 1) := by decide +kernel
theorem dX4_isOfBody_16 : decode cX4_isOfBody 16 = .ok (.goto 4, 3) := by decide +kernel
theorem dX4_isOfBody_19 : decode cX4_isOfBody 19 = .ok (.iconst 0, 1) := by decide +kernel
theorem dX4_isOfBody_20 : decode cX4_isOfBody 20 = .ok (.ireturn, 1) := by decide +kernel
theorem dX4_isKindOfLevel_0 : decode cX4_isKindOfLevel 0 = .ok (.iload_n 1, 1) := by decide +kernel
theorem dX4_isKindOfLevel_1 : decode cX4_isKindOfLevel 1 = .ok (.ifCond .lt 9, 3) := by decide +kernel
theorem dX4_isKindOfLevel_4 : decode cX4_isKindOfLevel 4 = .ok (.iload_n 1, 1) := by decide +kernel
theorem dX4_isKindOfLevel_5 : decode cX4_isKindOfLevel 5 = .ok (.bipush 6, 2) := by decide +kernel
theorem dX4_isKindOfLevel_7 : decode cX4_isKindOfLevel 7 = .ok (.if_icmp .le 5, 3) := by decide +kernel
theorem dX4_isKindOfLevel_10 : decode cX4_isKindOfLevel 10 = .ok (.iconst 0, 1) := by decide +kernel
theorem dX4_isKindOfLevel_11 : decode cX4_isKindOfLevel 11 = .ok (.ireturn, 1) := by decide +kernel
theorem dX4_isKindOfLevel_12 : decode cX4_isKindOfLevel 12 = .ok (.iload_n 1, 1) := by decide +kernel
theorem dX4_isKindOfLevel_13 : decode cX4_isKindOfLevel 13 = .ok (.iconst 2, 1) := by decide +kernel
theorem dX4_isKindOfLevel_14 : decode cX4_isKindOfLevel 14 = .ok (.if_icmp .eq 8, 3) := by decide +kernel
theorem dX4_isKindOfLevel_17 : decode cX4_isKindOfLevel 17 = .ok (.iload_n 1, 1) := by decide +kernel
theorem dX4_isKindOfLevel_18 : decode cX4_isKindOfLevel 18 = .ok (.iconst 4, 1) := by decide +kernel
theorem dX4_isKindOfLevel_19 : decode cX4_isKindOfLevel 19 = .ok (.if_icmp .ne 7, 3) := by decide +kernel
theorem dX4_isKindOfLevel_22 : decode cX4_isKindOfLevel 22 = .ok (.iconst 1, 1) := by decide +kernel
theorem dX4_isKindOfLevel_23 : decode cX4_isKindOfLevel 23 = .ok (.goto 4, 3) := by decide +kernel
theorem dX4_isKindOfLevel_26 : decode cX4_isKindOfLevel 26 = .ok (.iconst 0, 1) := by decide +kernel
theorem dX4_isKindOfLevel_27 : decode cX4_isKindOfLevel 27 = .ok (.istore_n 3, 1) := by decide +kernel
theorem dX4_isKindOfLevel_28 : decode cX4_isKindOfLevel 28 = .ok (.iload_n 2, 1) := by decide +kernel
theorem dX4_isKindOfLevel_29 : decode cX4_isKindOfLevel 29 = .ok (.ifCond .lt 23, 3) := by decide +kernel
theorem dX4_isKindOfLevel_32 : decode cX4_isKindOfLevel 32 = .ok (.iload_n 2, 1) := by decide +kernel
theorem dX4_isKindOfLevel_33 : decode cX4_isKindOfLevel 33 = .ok (.iload_n 3, 1) := by decide +kernel
theorem dX4_isKindOfLevel_34 : decode cX4_isKindOfLevel 34 = .ok (.ifCond .eq 10, 3) := by decide +kernel
theorem dX4_isKindOfLevel_37 : decode cX4_isKindOfLevel 37 = .ok (.aload_n 0, 1) := by decide +kernel
theorem dX4_isKindOfLevel_38 : decode cX4_isKindOfLevel 38 = .ok (.getfield 19, 3) := by decide +kernel
