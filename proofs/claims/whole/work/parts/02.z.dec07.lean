theorem dX5_foot_30 : decode cX5_foot 30 = .ok (.goto 17, 3) := by decide +kernel
theorem dX5_foot_33 : decode cX5_foot 33 = .ok (.iload_n 1, 1) := by decide +kernel
theorem dX5_foot_34 : decode cX5_foot 34 = .ok (.ifCond .ne 7, 3) := by decide +kernel
theorem dX5_foot_37 : decode cX5_foot 37 = .ok (.iconst 0, 1) := by decide +kernel
theorem dX5_foot_38 : decode cX5_foot 38 = .ok (.goto 9, 3) := by decide +kernel
theorem dX5_foot_41 : decode cX5_foot 41 = .ok (.aload_n 0, 1) := by decide +kernel
theorem dX5_foot_42 : decode cX5_foot 42 = .ok (.getfield 13, 3) := by decide +kernel
theorem dX5_foot_45 : decode cX5_foot 45 = .ok (.iload_n 1, 1) := by decide +kernel
theorem dX5_foot_46 : decode cX5_foot 46 = .ok (.iaload, 1) := by decide +kernel
theorem dX5_foot_47 : decode cX5_foot 47 = .ok (.invokevirtual 146, 3) := by decide +kernel
theorem dX5_foot_50 : decode cX5_foot 50 = .ok (.iconst 1, 1) := by decide +kernel
theorem dX5_foot_51 : decode cX5_foot 51 = .ok (.istore 4, 2) := by decide +kernel
theorem dX5_foot_53 : decode cX5_foot 53 = .ok (.iload 4, 2) := by decide +kernel
theorem dX5_foot_55 : decode cX5_foot 55 = .ok (.aload_n 0, 1) := by decide +kernel
theorem dX5_foot_56 : decode cX5_foot 56 = .ok (.getfield 100, 3) := by decide +kernel
theorem dX5_foot_59 : decode cX5_foot 59 = .ok (.if_icmp .gt 73, 3) := by decide +kernel
theorem dX5_foot_62 : decode cX5_foot 62 = .ok (.iconst 1, 1) := by decide +kernel
theorem dX5_foot_63 : decode cX5_foot 63 = .ok (.istore 5, 2) := by decide +kernel
theorem dX5_foot_65 : decode cX5_foot 65 = .ok (.iload 5, 2) := by decide +kernel
theorem dX5_foot_67 : decode cX5_foot 67 = .ok (.aload_n 0, 1) := by decide +kernel
theorem dX5_foot_68 : decode cX5_foot 68 = .ok (.getfield 100, 3) := by decide +kernel
theorem dX5_foot_71 : decode cX5_foot 71 = .ok (.if_icmp .gt 55, 3) := by decide +kernel
theorem dX5_foot_74 : decode cX5_foot 74 = .ok (.aload_n 0, 1) := by decide +kernel
theorem dX5_foot_75 : decode cX5_foot 75 = .ok (.getfield 41, 3) := by decide +kernel
theorem dX5_foot_78 : decode cX5_foot 78 = .ok (.iload 4, 2) := by decide +kernel
theorem dX5_foot_80 : decode cX5_foot 80 = .ok (.iaload, 1) := by decide +kernel
theorem dX5_foot_81 : decode cX5_foot 81 = .ok (.iload_n 2, 1) := by decide +kernel
theorem dX5_foot_82 : decode cX5_foot 82 = .ok (.if_icmp .ne 44, 3) := by decide +kernel
theorem dX5_foot_85 : decode cX5_foot 85 = .ok (.aload_n 0, 1) := by decide +kernel
theorem dX5_foot_86 : decode cX5_foot 86 = .ok (.getfield 50, 3) := by decide +kernel
theorem dX5_foot_89 : decode cX5_foot 89 = .ok (.iload 5, 2) := by decide +kernel
theorem dX5_foot_91 : decode cX5_foot 91 = .ok (.dup2, 1) := by decide +kernel
theorem dX5_foot_92 : decode cX5_foot 92 = .ok (.laload, 1) := by decide +kernel
theorem dX5_foot_93 : decode cX5_foot 93 = .ok (.aload_n 0, 1) := by decide +kernel
theorem dX5_foot_94 : decode cX5_foot 94 = .ok (.getfield 44, 3) := by decide +kernel
theorem dX5_foot_97 : decode cX5_foot 97 = .ok (.iload 5, 2) := by decide +kernel
theorem dX5_foot_99 : decode cX5_foot 99 = .ok (.iaload, 1) := by decide +kernel
theorem dX5_foot_100 : decode cX5_foot 100 = .ok (.iconst 0, 1) := by decide +kernel
theorem dX5_foot_101 : decode cX5_foot 101 = .ok (.iload 4, 2) := by decide +kernel
theorem dX5_foot_103 : decode cX5_foot 103 = .ok (.isub, 1) := by decide +kernel
theorem dX5_foot_104 : decode cX5_foot 104 = .ok (.if_icmp .ne 13, 3) := by decide +kernel
theorem dX5_foot_107 : decode cX5_foot 107 = .ok (.aload_n 0, 1) := by decide +kernel
theorem dX5_foot_108 : decode cX5_foot 108 = .ok (.getfield 50, 3) := by decide +kernel
theorem dX5_foot_111 : decode cX5_foot 111 = .ok (.iload 4, 2) := by decide +kernel
theorem dX5_foot_113 : decode cX5_foot 113 = .ok (.laload, 1) := by decide +kernel
theorem dX5_foot_114 : decode cX5_foot 114 = .ok (.goto 4, 3) := by decide +kernel
theorem dX5_foot_117 : decode cX5_foot 117 = .ok (.lconst 0, 1) := by decide +kernel
theorem dX5_foot_118 : decode cX5_foot 118 = .ok (.ladd, 1) := by decide +kernel
theorem dX5_foot_119 : decode cX5_foot 119 = .ok (.lastore, 1) := by decide +kernel
theorem dX5_foot_120 : decode cX5_foot 120 = .ok (.iinc 5 1, 3) := by decide +kernel
theorem dX5_foot_123 : decode cX5_foot 123 = .ok (.goto (-58), 3) := by decide +kernel
theorem dX5_foot_126 : decode cX5_foot 126 = .ok (.iinc 4 1, 3) := by decide +kernel
theorem dX5_foot_129 : decode cX5_foot 129 = .ok (.goto (-76), 3) := by decide +kernel
theorem dX5_foot_132 : decode cX5_foot 132 = .ok (.iconst 1, 1) := by decide +kernel
theorem dX5_foot_133 : decode cX5_foot 133 = .ok (.istore_n 3, 1) := by decide +kernel
theorem dX5_foot_134 : decode cX5_foot 134 = .ok (.iload_n 3, 1) := by decide +kernel
theorem dX5_foot_135 : decode cX5_foot 135 = .ok (.aload_n 0, 1) := by decide +kernel
theorem dX5_foot_136 : decode cX5_foot 136 = .ok (.getfield 100, 3) := by decide +kernel
theorem dX5_foot_139 : decode cX5_foot 139 = .ok (.if_icmp .gt 35, 3) := by decide +kernel
theorem dX5_foot_142 : decode cX5_foot 142 = .ok (.aload_n 0, 1) := by decide +kernel
theorem dX5_foot_143 : decode cX5_foot 143 = .ok (.getfield 50, 3) := by decide +kernel
theorem dX5_foot_146 : decode cX5_foot 146 = .ok (.iload_n 3, 1) := by decide +kernel
theorem dX5_foot_147 : decode cX5_foot 147 = .ok (.aload_n 0, 1) := by decide +kernel
theorem dX5_foot_148 : decode cX5_foot 148 = .ok (.getfield 47, 3) := by decide +kernel
theorem dX5_foot_151 : decode cX5_foot 151 = .ok (.iload_n 3, 1) := by decide +kernel
theorem dX5_foot_152 : decode cX5_foot 152 = .ok (.iaload, 1) := by decide +kernel
theorem dX5_foot_153 : decode cX5_foot 153 = .ok (.iload_n 1, 1) := by decide +kernel
theorem dX5_foot_154 : decode cX5_foot 154 = .ok (.if_icmp .ne 7, 3) := by decide +kernel
theorem dX5_foot_157 : decode cX5_foot 157 = .ok (.lconst 0, 1) := by decide +kernel
theorem dX5_foot_158 : decode cX5_foot 158 = .ok (.goto 9, 3) := by decide +kernel
theorem dX5_foot_161 : decode cX5_foot 161 = .ok (.aload_n 0, 1) := by decide +kernel
theorem dX5_foot_162 : decode cX5_foot 162 = .ok (.getfield 50, 3) := by decide +kernel
theorem dX5_foot_165 : decode cX5_foot 165 = .ok (.iload_n 3, 1) := by decide +kernel
theorem dX5_foot_166 : decode cX5_foot 166 = .ok (.laload, 1) := by decide +kernel
theorem dX5_foot_167 : decode cX5_foot 167 = .ok (.lastore, 1) := by decide +kernel
theorem dX5_foot_168 : decode cX5_foot 168 = .ok (.iinc 3 1, 3) := by decide +kernel
theorem dX5_foot_171 : decode cX5_foot 171 = .ok (.goto (-37), 3) := by decide +kernel
theorem dX5_foot_174 : decode cX5_foot 174 = .ok (.return_, 1) := by decide +kernel
theorem dX5_keep_0 : decode cX5_keep 0 = .ok (.iconst 1, 1) := by decide +kernel
theorem dX5_keep_1 : decode cX5_keep 1 = .ok (.istore_n 1, 1) := by decide +kernel
theorem dX5_keep_2 : decode cX5_keep 2 = .ok (.iload_n 1, 1) := by decide +kernel
theorem dX5_keep_3 : decode cX5_keep 3 = .ok (.aload_n 0, 1) := by decide +kernel
theorem dX5_keep_4 : decode cX5_keep 4 = .ok (.getfield 82, 3) := by decide +kernel
theorem dX5_keep_7 : decode cX5_keep 7 = .ok (.if_icmp .gt 21, 3) := by decide +kernel
theorem dX5_keep_10 : decode cX5_keep 10 = .ok (.aload_n 0, 1) := by decide +kernel
theorem dX5_keep_11 : decode cX5_keep 11 = .ok (.getfield 13, 3) := by decide +kernel
theorem dX5_keep_14 : decode cX5_keep 14 = .ok (.iload_n 1, 1) := by decide +kernel
theorem dX5_keep_15 : decode cX5_keep 15 = .ok (.aload_n 0, 1) := by decide +kernel
theorem dX5_keep_16 : decode cX5_keep 16 = .ok (.getfield 7, 3) := by decide +kernel
theorem dX5_keep_19 : decode cX5_keep 19 = .ok (.iload_n 1, 1) := by decide +kernel
theorem dX5_keep_20 : decode cX5_keep 20 = .ok (.iaload, 1) := by decide +kernel
theorem dX5_keep_21 : decode cX5_keep 21 = .ok (.iastore, 1) := by decide +kernel
theorem dX5_keep_22 : decode cX5_keep 22 = .ok (.iinc 1 1, 3) := by decide +kernel
theorem dX5_keep_25 : decode cX5_keep 25 = .ok (.goto (-23), 3) := by decide +kernel
theorem dX5_keep_28 : decode cX5_keep 28 = .ok (.return_, 1) := by decide +kernel
theorem dX5_initiate_0 : decode cX5_initiate 0 = .ok (.aload_n 0, 1) := by decide +kernel
theorem dX5_initiate_1 : decode cX5_initiate 1 = .ok (.iconst 0, 1) := by decide +kernel
theorem dX5_initiate_2 : decode cX5_initiate 2 = .ok (.putfield 72, 3) := by decide +kernel
theorem dX5_initiate_5 : decode cX5_initiate 5 = .ok (.aload_n 0, 1) := by decide +kernel
theorem dX5_initiate_6 : decode cX5_initiate 6 = .ok (.getfield 85, 3) := by decide +kernel
theorem dX5_initiate_9 : decode cX5_initiate 9 = .ok (.ifCond .eq 6, 3) := by decide +kernel
theorem dX5_initiate_12 : decode cX5_initiate 12 = .ok (.bipush (-5), 2) := by decide +kernel
theorem dX5_initiate_14 : decode cX5_initiate 14 = .ok (.ireturn, 1) := by decide +kernel
theorem dX5_initiate_15 : decode cX5_initiate 15 = .ok (.aload_n 0, 1) := by decide +kernel
theorem dX5_initiate_16 : decode cX5_initiate 16 = .ok (.iconst 1, 1) := by decide +kernel
theorem dX5_initiate_17 : decode cX5_initiate 17 = .ok (.putfield 85, 3) := by decide +kernel
theorem dX5_initiate_20 : decode cX5_initiate 20 = .ok (.aload_n 0, 1) := by decide +kernel
theorem dX5_initiate_21 : decode cX5_initiate 21 = .ok (.iconst 0, 1) := by decide +kernel
theorem dX5_initiate_22 : decode cX5_initiate 22 = .ok (.putfield 153, 3) := by decide +kernel
theorem dX5_initiate_25 : decode cX5_initiate 25 = .ok (.aload_n 0, 1) := by decide +kernel
theorem dX5_initiate_26 : decode cX5_initiate 26 = .ok (.iconst 0, 1) := by decide +kernel
theorem dX5_initiate_27 : decode cX5_initiate 27 = .ok (.putfield 156, 3) := by decide +kernel
theorem dX5_initiate_30 : decode cX5_initiate 30 = .ok (.aload_n 0, 1) := by decide +kernel
theorem dX5_initiate_31 : decode cX5_initiate 31 = .ok (.iconst 0, 1) := by decide +kernel
theorem dX5_initiate_32 : decode cX5_initiate 32 = .ok (.putfield 110, 3) := by decide +kernel
theorem dX5_initiate_35 : decode cX5_initiate 35 = .ok (.aload_n 0, 1) := by decide +kernel
theorem dX5_initiate_36 : decode cX5_initiate 36 = .ok (.iconst 0, 1) := by decide +kernel
theorem dX5_initiate_37 : decode cX5_initiate 37 = .ok (.putfield 113, 3) := by decide +kernel
theorem dX5_initiate_40 : decode cX5_initiate 40 = .ok (.aload_n 0, 1) := by decide +kernel
theorem dX5_initiate_41 : decode cX5_initiate 41 = .ok (.iconst 0, 1) := by decide +kernel
theorem dX5_initiate_42 : decode cX5_initiate 42 = .ok (.putfield 130, 3) := by decide +kernel
theorem dX5_initiate_45 : decode cX5_initiate 45 = .ok (.aload_n 0, 1) := by decide +kernel
theorem dX5_initiate_46 : decode cX5_initiate 46 = .ok (.iconst 0, 1) := by decide +kernel
theorem dX5_initiate_47 : decode cX5_initiate 47 = .ok (.putfield 107, 3) := by decide +kernel
theorem dX5_initiate_50 : decode cX5_initiate 50 = .ok (.iconst 0, 1) := by decide +kernel
theorem dX5_initiate_51 : decode cX5_initiate 51 = .ok (.istore_n 1, 1) := by decide +kernel
theorem dX5_initiate_52 : decode cX5_initiate 52 = .ok (.iload_n 1, 1) := by decide +kernel
theorem dX5_initiate_53 : decode cX5_initiate 53 = .ok (.bipush 20, 2) := by decide +kernel
theorem dX5_initiate_55 : decode cX5_initiate 55 = .ok (.if_icmp .gt 16, 3) := by decide +kernel
theorem dX5_initiate_58 : decode cX5_initiate 58 = .ok (.aload_n 0, 1) := by decide +kernel
theorem dX5_initiate_59 : decode cX5_initiate 59 = .ok (.getfield 50, 3) := by decide +kernel
theorem dX5_initiate_62 : decode cX5_initiate 62 = .ok (.iload_n 1, 1) := by decide +kernel
theorem dX5_initiate_63 : decode cX5_initiate 63 = .ok (.lconst 0, 1) := by decide +kernel
theorem dX5_initiate_64 : decode cX5_initiate 64 = .ok (.lastore, 1) := by decide +kernel
theorem dX5_initiate_65 : decode cX5_initiate 65 = .ok (.iinc 1 1, 3) := by decide +kernel
theorem dX5_initiate_68 : decode cX5_initiate 68 = .ok (.goto (-16), 3) := by decide +kernel
theorem dX5_initiate_71 : decode cX5_initiate 71 = .ok (.aload_n 0, 1) := by decide +kernel
theorem dX5_initiate_72 : decode cX5_initiate 72 = .ok (.invokevirtual 133, 3) := by decide +kernel
theorem dX5_initiate_75 : decode cX5_initiate 75 = .ok (.iconst 1, 1) := by decide +kernel
theorem dX5_initiate_76 : decode cX5_initiate 76 = .ok (.ireturn, 1) := by decide +kernel
theorem dX5_changed_0 : decode cX5_changed 0 = .ok (.aload_n 0, 1) := by decide +kernel
theorem dX5_changed_1 : decode cX5_changed 1 = .ok (.getfield 82, 3) := by decide +kernel
theorem dX5_changed_4 : decode cX5_changed 4 = .ok (.iconst 1, 1) := by decide +kernel
theorem dX5_changed_5 : decode cX5_changed 5 = .ok (.iadd, 1) := by decide +kernel
theorem dX5_changed_6 : decode cX5_changed 6 = .ok (.istore_n 1, 1) := by decide +kernel
theorem dX5_changed_7 : decode cX5_changed 7 = .ok (.aload_n 0, 1) := by decide +kernel
theorem dX5_changed_8 : decode cX5_changed 8 = .ok (.getfield 82, 3) := by decide +kernel
theorem dX5_changed_11 : decode cX5_changed 11 = .ok (.istore_n 2, 1) := by decide +kernel
theorem dX5_changed_12 : decode cX5_changed 12 = .ok (.iload_n 2, 1) := by decide +kernel
theorem dX5_changed_13 : decode cX5_changed 13 = .ok (.ifCond .le 30, 3) := by decide +kernel
theorem dX5_changed_16 : decode cX5_changed 16 = .ok (.aload_n 0, 1) := by decide +kernel
theorem dX5_changed_17 : decode cX5_changed 17 = .ok (.getfield 7, 3) := by decide +kernel
theorem dX5_changed_20 : decode cX5_changed 20 = .ok (.iload_n 2, 1) := by decide +kernel
theorem dX5_changed_21 : decode cX5_changed 21 = .ok (.iaload, 1) := by decide +kernel
theorem dX5_changed_22 : decode cX5_changed 22 = .ok (.aload_n 0, 1) := by decide +kernel
theorem dX5_changed_23 : decode cX5_changed 23 = .ok (.getfield 13, 3) := by decide +kernel
theorem dX5_changed_26 : decode cX5_changed 26 = .ok (.iload_n 2, 1) := by decide +kernel
theorem dX5_changed_27 : decode cX5_changed 27 = .ok (.iaload, 1) := by decide +kernel
theorem dX5_changed_28 : decode cX5_changed 28 = .ok (.if_icmp .eq 7, 3) := by decide +kernel
theorem dX5_changed_31 : decode cX5_changed 31 = .ok (.iload_n 2, 1) := by decide +kernel
theorem dX5_changed_32 : decode cX5_changed 32 = .ok (.goto 4, 3) := by decide +kernel
theorem dX5_changed_35 : decode cX5_changed 35 = .ok (.iload_n 1, 1) := by decide +kernel
theorem dX5_changed_36 : decode cX5_changed 36 = .ok (.istore_n 1, 1) := by decide +kernel
theorem dX5_changed_37 : decode cX5_changed 37 = .ok (.iinc 2 (-1), 3) := by decide +kernel
theorem dX5_changed_40 : decode cX5_changed 40 = .ok (.goto (-28), 3) := by decide +kernel
theorem dX5_changed_43 : decode cX5_changed 43 = .ok (.iload_n 1, 1) := by decide +kernel
theorem dX5_changed_44 : decode cX5_changed 44 = .ok (.ireturn, 1) := by decide +kernel
theorem dX5_generate_0 : decode cX5_generate 0 = .ok (.aload_n 0, 1) := by decide +kernel
theorem dX5_generate_1 : decode cX5_generate 1 = .ok (.iconst 0, 1) := by decide +kernel
theorem dX5_generate_2 : decode cX5_generate 2 = .ok (.putfield 72, 3) := by decide +kernel
theorem dX5_generate_5 : decode cX5_generate 5 = .ok (.iload_n 1, 1) := by decide +kernel
theorem dX5_generate_6 : decode cX5_generate 6 = .ok (.ifCond .eq 14, 3) := by decide +kernel
theorem dX5_generate_9 : decode cX5_generate 9 = .ok (.aload_n 0, 1) := by decide +kernel
theorem dX5_generate_10 : decode cX5_generate 10 = .ok (.iload_n 1, 1) := by decide +kernel
theorem dX5_generate_11 : decode cX5_generate 11 = .ok (.invokevirtual 97, 3) := by decide +kernel
theorem dX5_generate_14 : decode cX5_generate 14 = .ok (.ifCond .ne 6, 3) := by decide +kernel
theorem dX5_generate_17 : decode cX5_generate 17 = .ok (.bipush (-2), 2) := by decide +kernel
theorem dX5_generate_19 : decode cX5_generate 19 = .ok (.ireturn, 1) := by decide +kernel
theorem dX5_generate_20 : decode cX5_generate 20 = .ok (.aload_n 0, 1) := by decide +kernel
theorem dX5_generate_21 : decode cX5_generate 21 = .ok (.getfield 85, 3) := by decide +kernel
theorem dX5_generate_24 : decode cX5_generate 24 = .ok (.ifCond .ne 6, 3) := by decide +kernel
theorem dX5_generate_27 : decode cX5_generate 27 = .ok (.bipush (-5), 2) := by decide +kernel
theorem dX5_generate_29 : decode cX5_generate 29 = .ok (.ireturn, 1) := by decide +kernel
theorem dX5_generate_30 : decode cX5_generate 30 = .ok (.aload_n 0, 1) := by decide +kernel
theorem dX5_generate_31 : decode cX5_generate 31 = .ok (.getfield 153, 3) := by decide +kernel
theorem dX5_generate_34 : decode cX5_generate 34 = .ok (.sipush 200, 3) := by decide +kernel
theorem dX5_generate_37 : decode cX5_generate 37 = .ok (.if_icmp .ne 5, 3) := by decide +kernel
theorem dX5_generate_40 : decode cX5_generate 40 = .ok (.iconst (-1), 1) := by decide +kernel
theorem dX5_generate_41 : decode cX5_generate 41 = .ok (.ireturn, 1) := by decide +kernel
theorem dX5_generate_42 : decode cX5_generate 42 = .ok (.aload_n 0, 1) := by decide +kernel
theorem dX5_generate_43 : decode cX5_generate 43 = .ok (.getfield 107, 3) := by decide +kernel
theorem dX5_generate_46 : decode cX5_generate 46 = .ok (.istore 4, 2) := by decide +kernel
theorem dX5_generate_48 : decode cX5_generate 48 = .ok (.aload_n 0, 1) := by decide +kernel
theorem dX5_generate_49 : decode cX5_generate 49 = .ok (.getfield 153, 3) := by decide +kernel
theorem dX5_generate_52 : decode cX5_generate 52 = .ok (.ifCond .ne 39, 3) := by decide +kernel
theorem dX5_generate_55 : decode cX5_generate 55 = .ok (.aload_n 0, 1) := by decide +kernel
theorem dX5_generate_56 : decode cX5_generate 56 = .ok (.iconst 0, 1) := by decide +kernel
theorem dX5_generate_57 : decode cX5_generate 57 = .ok (.invokevirtual 159, 3) := by decide +kernel
theorem dX5_generate_60 : decode cX5_generate 60 = .ok (.aload_n 0, 1) := by decide +kernel
theorem dX5_generate_61 : decode cX5_generate 61 = .ok (.invokevirtual 143, 3) := by decide +kernel
theorem dX5_generate_64 : decode cX5_generate 64 = .ok (.iconst 0, 1) := by decide +kernel
theorem dX5_generate_65 : decode cX5_generate 65 = .ok (.istore 5, 2) := by decide +kernel
theorem dX5_generate_67 : decode cX5_generate 67 = .ok (.iload 5, 2) := by decide +kernel
theorem dX5_generate_69 : decode cX5_generate 69 = .ok (.aload_n 0, 1) := by decide +kernel
theorem dX5_generate_70 : decode cX5_generate 70 = .ok (.getfield 82, 3) := by decide +kernel
theorem dX5_generate_73 : decode cX5_generate 73 = .ok (.if_icmp .gt 15, 3) := by decide +kernel
theorem dX5_generate_76 : decode cX5_generate 76 = .ok (.aload_n 0, 1) := by decide +kernel
theorem dX5_generate_77 : decode cX5_generate 77 = .ok (.iload 5, 2) := by decide +kernel
theorem dX5_generate_79 : decode cX5_generate 79 = .ok (.invokevirtual 163, 3) := by decide +kernel
theorem dX5_generate_82 : decode cX5_generate 82 = .ok (.iinc 5 1, 3) := by decide +kernel
theorem dX5_generate_85 : decode cX5_generate 85 = .ok (.goto (-18), 3) := by decide +kernel
theorem dX5_generate_88 : decode cX5_generate 88 = .ok (.goto 82, 3) := by decide +kernel
theorem dX5_generate_91 : decode cX5_generate 91 = .ok (.aload_n 0, 1) := by decide +kernel
theorem dX5_generate_92 : decode cX5_generate 92 = .ok (.invokevirtual 166, 3) := by decide +kernel
theorem dX5_generate_95 : decode cX5_generate 95 = .ok (.istore 5, 2) := by decide +kernel
theorem dX5_generate_97 : decode cX5_generate 97 = .ok (.iload 5, 2) := by decide +kernel
theorem dX5_generate_99 : decode cX5_generate 99 = .ok (.aload_n 0, 1) := by decide +kernel
theorem dX5_generate_100 : decode cX5_generate 100 = .ok (.getfield 82, 3) := by decide +kernel
theorem dX5_generate_103 : decode cX5_generate 103 = .ok (.if_icmp .gt 67, 3) := by decide +kernel
theorem dX5_generate_106 : decode cX5_generate 106 = .ok (.aload_n 0, 1) := by decide +kernel
theorem dX5_generate_107 : decode cX5_generate 107 = .ok (.dup, 1) := by decide +kernel
theorem dX5_generate_108 : decode cX5_generate 108 = .ok (.getfield 156, 3) := by decide +kernel
theorem dX5_generate_111 : decode cX5_generate 111 = .ok (.iconst 1, 1) := by decide +kernel
theorem dX5_generate_112 : decode cX5_generate 112 = .ok (.iadd, 1) := by decide +kernel
theorem dX5_generate_113 : decode cX5_generate 113 = .ok (.putfield 156, 3) := by decide +kernel
theorem dX5_generate_116 : decode cX5_generate 116 = .ok (.aload_n 0, 1) := by decide +kernel
theorem dX5_generate_117 : decode cX5_generate 117 = .ok (.getfield 82, 3) := by decide +kernel
theorem dX5_generate_120 : decode cX5_generate 120 = .ok (.istore 6, 2) := by decide +kernel
theorem dX5_generate_122 : decode cX5_generate 122 = .ok (.iload 6, 2) := by decide +kernel
theorem dX5_generate_124 : decode cX5_generate 124 = .ok (.iload 5, 2) := by decide +kernel
theorem dX5_generate_126 : decode cX5_generate 126 = .ok (.if_icmp .lt 15, 3) := by decide +kernel
theorem dX5_generate_129 : decode cX5_generate 129 = .ok (.aload_n 0, 1) := by decide +kernel
theorem dX5_generate_130 : decode cX5_generate 130 = .ok (.iload 6, 2) := by decide +kernel
theorem dX5_generate_132 : decode cX5_generate 132 = .ok (.invokevirtual 170, 3) := by decide +kernel
theorem dX5_generate_135 : decode cX5_generate 135 = .ok (.iinc 6 (-1), 3) := by decide +kernel
theorem dX5_generate_138 : decode cX5_generate 138 = .ok (.goto (-16), 3) := by decide +kernel
theorem dX5_generate_141 : decode cX5_generate 141 = .ok (.aload_n 0, 1) := by decide +kernel
theorem dX5_generate_142 : decode cX5_generate 142 = .ok (.invokevirtual 133, 3) := by decide +kernel
theorem dX5_generate_145 : decode cX5_generate 145 = .ok (.iload 5, 2) := by decide +kernel
theorem dX5_generate_147 : decode cX5_generate 147 = .ok (.istore 6, 2) := by decide +kernel
theorem dX5_generate_149 : decode cX5_generate 149 = .ok (.iload 6, 2) := by decide +kernel
theorem dX5_generate_151 : decode cX5_generate 151 = .ok (.aload_n 0, 1) := by decide +kernel
theorem dX5_generate_152 : decode cX5_generate 152 = .ok (.getfield 82, 3) := by decide +kernel
theorem dX5_generate_155 : decode cX5_generate 155 = .ok (.if_icmp .gt 15, 3) := by decide +kernel
theorem dX5_generate_158 : decode cX5_generate 158 = .ok (.aload_n 0, 1) := by decide +kernel
theorem dX5_generate_159 : decode cX5_generate 159 = .ok (.iload 6, 2) := by decide +kernel
theorem dX5_generate_161 : decode cX5_generate 161 = .ok (.invokevirtual 163, 3) := by decide +kernel
theorem dX5_generate_164 : decode cX5_generate 164 = .ok (.iinc 6 1, 3) := by decide +kernel
theorem dX5_generate_167 : decode cX5_generate 167 = .ok (.goto (-18), 3) := by decide +kernel
theorem dX5_generate_170 : decode cX5_generate 170 = .ok (.aload_n 0, 1) := by decide +kernel
theorem dX5_generate_171 : decode cX5_generate 171 = .ok (.invokevirtual 172, 3) := by decide +kernel
theorem dX5_generate_174 : decode cX5_generate 174 = .ok (.aload_n 0, 1) := by decide +kernel
theorem dX5_generate_175 : decode cX5_generate 175 = .ok (.dup, 1) := by decide +kernel
theorem dX5_generate_176 : decode cX5_generate 176 = .ok (.getfield 153, 3) := by decide +kernel
theorem dX5_generate_179 : decode cX5_generate 179 = .ok (.iconst 1, 1) := by decide +kernel
theorem dX5_generate_180 : decode cX5_generate 180 = .ok (.iadd, 1) := by decide +kernel
theorem dX5_generate_181 : decode cX5_generate 181 = .ok (.putfield 153, 3) := by decide +kernel
theorem dX5_generate_184 : decode cX5_generate 184 = .ok (.iconst 1, 1) := by decide +kernel
theorem dX5_generate_185 : decode cX5_generate 185 = .ok (.istore 5, 2) := by decide +kernel
theorem dX5_generate_187 : decode cX5_generate 187 = .ok (.iload 5, 2) := by decide +kernel
theorem dX5_generate_189 : decode cX5_generate 189 = .ok (.aload_n 0, 1) := by decide +kernel
theorem dX5_generate_190 : decode cX5_generate 190 = .ok (.getfield 100, 3) := by decide +kernel
theorem dX5_generate_193 : decode cX5_generate 193 = .ok (.if_icmp .gt 55, 3) := by decide +kernel
theorem dX5_generate_196 : decode cX5_generate 196 = .ok (.aload_n 0, 1) := by decide +kernel
theorem dX5_generate_197 : decode cX5_generate 197 = .ok (.getfield 50, 3) := by decide +kernel
theorem dX5_generate_200 : decode cX5_generate 200 = .ok (.iload 5, 2) := by decide +kernel
theorem dX5_generate_202 : decode cX5_generate 202 = .ok (.dup2, 1) := by decide +kernel
theorem dX5_generate_203 : decode cX5_generate 203 = .ok (.laload, 1) := by decide +kernel
theorem dX5_generate_204 : decode cX5_generate 204 = .ok (.aload_n 0, 1) := by decide +kernel
theorem dX5_generate_205 : decode cX5_generate 205 = .ok (.getfield 44, 3) := by decide +kernel
theorem dX5_generate_208 : decode cX5_generate 208 = .ok (.iload 5, 2) := by decide +kernel
theorem dX5_generate_210 : decode cX5_generate 210 = .ok (.iaload, 1) := by decide +kernel
theorem dX5_generate_211 : decode cX5_generate 211 = .ok (.ifCond .eq 24, 3) := by decide +kernel
theorem dX5_generate_214 : decode cX5_generate 214 = .ok (.aload_n 0, 1) := by decide +kernel
theorem dX5_generate_215 : decode cX5_generate 215 = .ok (.getfield 44, 3) := by decide +kernel
theorem dX5_generate_218 : decode cX5_generate 218 = .ok (.iload 5, 2) := by decide +kernel
theorem dX5_generate_220 : decode cX5_generate 220 = .ok (.iaload, 1) := by decide +kernel
theorem dX5_generate_221 : decode cX5_generate 221 = .ok (.ifCond .le 18, 3) := by decide +kernel
theorem dX5_generate_224 : decode cX5_generate 224 = .ok (.aload_n 0, 1) := by decide +kernel
theorem dX5_generate_225 : decode cX5_generate 225 = .ok (.getfield 44, 3) := by decide +kernel
theorem dX5_generate_228 : decode cX5_generate 228 = .ok (.iload 5, 2) := by decide +kernel
theorem dX5_generate_230 : decode cX5_generate 230 = .ok (.iaload, 1) := by decide +kernel
theorem dX5_generate_231 : decode cX5_generate 231 = .ok (.iload_n 1, 1) := by decide +kernel
theorem dX5_generate_232 : decode cX5_generate 232 = .ok (.if_icmp .ne 7, 3) := by decide +kernel
theorem dX5_generate_235 : decode cX5_generate 235 = .ok (.lload_n 2, 1) := by decide +kernel
theorem dX5_generate_236 : decode cX5_generate 236 = .ok (.goto 4, 3) := by decide +kernel
theorem dX5_generate_239 : decode cX5_generate 239 = .ok (.lconst 0, 1) := by decide +kernel
theorem dX5_generate_240 : decode cX5_generate 240 = .ok (.ladd, 1) := by decide +kernel
theorem dX5_generate_241 : decode cX5_generate 241 = .ok (.lastore, 1) := by decide +kernel
theorem dX5_generate_242 : decode cX5_generate 242 = .ok (.iinc 5 1, 3) := by decide +kernel
theorem dX5_generate_245 : decode cX5_generate 245 = .ok (.goto (-58), 3) := by decide +kernel
theorem dX5_generate_248 : decode cX5_generate 248 = .ok (.iload_n 1, 1) := by decide +kernel
theorem dX5_generate_249 : decode cX5_generate 249 = .ok (.ifCond .eq 10, 3) := by decide +kernel
theorem dX5_generate_252 : decode cX5_generate 252 = .ok (.aload_n 0, 1) := by decide +kernel
theorem dX5_generate_253 : decode cX5_generate 253 = .ok (.iload_n 1, 1) := by decide +kernel
theorem dX5_generate_254 : decode cX5_generate 254 = .ok (.lload_n 2, 1) := by decide +kernel
theorem dX5_generate_255 : decode cX5_generate 255 = .ok (.l2i, 1) := by decide +kernel
theorem dX5_generate_256 : decode cX5_generate 256 = .ok (.invokevirtual 146, 3) := by decide +kernel
theorem dX5_generate_259 : decode cX5_generate 259 = .ok (.aload_n 0, 1) := by decide +kernel
theorem dX5_generate_260 : decode cX5_generate 260 = .ok (.getfield 107, 3) := by decide +kernel
theorem dX5_generate_263 : decode cX5_generate 263 = .ok (.iload 4, 2) := by decide +kernel
theorem dX5_generate_265 : decode cX5_generate 265 = .ok (.isub, 1) := by decide +kernel
theorem dX5_generate_266 : decode cX5_generate 266 = .ok (.ireturn, 1) := by decide +kernel
theorem dX5_terminate_0 : decode cX5_terminate 0 = .ok (.aload_n 0, 1) := by decide +kernel
theorem dX5_terminate_1 : decode cX5_terminate 1 = .ok (.iconst 0, 1) := by decide +kernel
theorem dX5_terminate_2 : decode cX5_terminate 2 = .ok (.putfield 72, 3) := by decide +kernel
theorem dX5_terminate_5 : decode cX5_terminate 5 = .ok (.aload_n 0, 1) := by decide +kernel
theorem dX5_terminate_6 : decode cX5_terminate 6 = .ok (.getfield 85, 3) := by decide +kernel
theorem dX5_terminate_9 : decode cX5_terminate 9 = .ok (.ifCond .ne 6, 3) := by decide +kernel
theorem dX5_terminate_12 : decode cX5_terminate 12 = .ok (.bipush (-5), 2) := by decide +kernel
theorem dX5_terminate_14 : decode cX5_terminate 14 = .ok (.ireturn, 1) := by decide +kernel
theorem dX5_terminate_15 : decode cX5_terminate 15 = .ok (.aload_n 0, 1) := by decide +kernel
theorem dX5_terminate_16 : decode cX5_terminate 16 = .ok (.iconst 0, 1) := by decide +kernel
theorem dX5_terminate_17 : decode cX5_terminate 17 = .ok (.putfield 85, 3) := by decide +kernel
theorem dX5_terminate_20 : decode cX5_terminate 20 = .ok (.aload_n 0, 1) := by decide +kernel
theorem dX5_terminate_21 : decode cX5_terminate 21 = .ok (.getfield 153, 3) := by decide +kernel
theorem dX5_terminate_24 : decode cX5_terminate 24 = .ok (.ifCond .ne 5, 3) := by decide +kernel
theorem dX5_terminate_27 : decode cX5_terminate 27 = .ok (.iconst 0, 1) := by decide +kernel
theorem dX5_terminate_28 : decode cX5_terminate 28 = .ok (.ireturn, 1) := by decide +kernel
theorem dX5_terminate_29 : decode cX5_terminate 29 = .ok (.aload_n 0, 1) := by decide +kernel
theorem dX5_terminate_30 : decode cX5_terminate 30 = .ok (.getfield 82, 3) := by decide +kernel
theorem dX5_terminate_33 : decode cX5_terminate 33 = .ok (.istore_n 1, 1) := by decide +kernel
theorem dX5_terminate_34 : decode cX5_terminate 34 = .ok (.iload_n 1, 1) := by decide +kernel
theorem dX5_terminate_35 : decode cX5_terminate 35 = .ok (.ifCond .lt 14, 3) := by decide +kernel
theorem dX5_terminate_38 : decode cX5_terminate 38 = .ok (.aload_n 0, 1) := by decide +kernel
theorem dX5_terminate_39 : decode cX5_terminate 39 = .ok (.iload_n 1, 1) := by decide +kernel
theorem dX5_terminate_40 : decode cX5_terminate 40 = .ok (.invokevirtual 170, 3) := by decide +kernel
theorem dX5_terminate_43 : decode cX5_terminate 43 = .ok (.iinc 1 (-1), 3) := by decide +kernel
theorem dX5_terminate_46 : decode cX5_terminate 46 = .ok (.goto (-12), 3) := by decide +kernel
theorem dX5_terminate_49 : decode cX5_terminate 49 = .ok (.aload_n 0, 1) := by decide +kernel
theorem dX5_terminate_50 : decode cX5_terminate 50 = .ok (.invokevirtual 140, 3) := by decide +kernel
theorem dX5_terminate_53 : decode cX5_terminate 53 = .ok (.aload_n 0, 1) := by decide +kernel
theorem dX5_terminate_54 : decode cX5_terminate 54 = .ok (.bipush 6, 2) := by decide +kernel
theorem dX5_terminate_56 : decode cX5_terminate 56 = .ok (.invokevirtual 159, 3) := by decide +kernel
theorem dX5_terminate_59 : decode cX5_terminate 59 = .ok (.aload_n 0, 1) := by decide +kernel
theorem dX5_terminate_60 : decode cX5_terminate 60 = .ok (.getfield 107, 3) := by decide +kernel
theorem dX5_terminate_63 : decode cX5_terminate 63 = .ok (.ireturn, 1) := by decide +kernel
theorem dX5_at_0 : decode cX5_at 0 = .ok (.aload_n 0, 1) := by decide +kernel
theorem dX5_at_1 : decode cX5_at 1 = .ok (.iload_n 1, 1) := by decide +kernel
theorem dX5_at_2 : decode cX5_at 2 = .ok (.ifCond .lt 20, 3) := by decide +kernel
theorem dX5_at_5 : decode cX5_at 5 = .ok (.iload_n 1, 1) := by decide +kernel
theorem dX5_at_6 : decode cX5_at 6 = .ok (.aload_n 0, 1) := by decide +kernel
theorem dX5_at_7 : decode cX5_at 7 = .ok (.getfield 107, 3) := by decide +kernel
theorem dX5_at_10 : decode cX5_at 10 = .ok (.if_icmp .ge 12, 3) := by decide +kernel
theorem dX5_at_13 : decode cX5_at 13 = .ok (.iload_n 2, 1) := by decide +kernel
theorem dX5_at_14 : decode cX5_at 14 = .ok (.ifCond .lt 8, 3) := by decide +kernel
theorem dX5_at_17 : decode cX5_at 17 = .ok (.iload_n 2, 1) := by decide +kernel
theorem dX5_at_18 : decode cX5_at 18 = .ok (.iconst 4, 1) := by decide +kernel
theorem dX5_at_19 : decode cX5_at 19 = .ok (.if_icmp .le 7, 3) := by decide +kernel
theorem dX5_at_22 : decode cX5_at 22 = .ok (.iconst 1, 1) := by decide +kernel
theorem dX5_at_23 : decode cX5_at 23 = .ok (.goto 4, 3) := by decide +kernel
theorem dX5_at_26 : decode cX5_at 26 = .ok (.iconst 0, 1) := by decide +kernel
theorem dX5_at_27 : decode cX5_at 27 = .ok (.putfield 72, 3) := by decide +kernel
theorem dX5_at_30 : decode cX5_at 30 = .ok (.aload_n 0, 1) := by decide +kernel
theorem dX5_at_31 : decode cX5_at 31 = .ok (.getfield 72, 3) := by decide +kernel
theorem dX5_at_34 : decode cX5_at 34 = .ok (.ifCond .le 7, 3) := by decide +kernel
theorem dX5_at_37 : decode cX5_at 37 = .ok (.iconst 0, 1) := by decide +kernel
theorem dX5_at_38 : decode cX5_at 38 = .ok (.goto 13, 3) := by decide +kernel
theorem dX5_at_41 : decode cX5_at 41 = .ok (.aload_n 0, 1) := by decide +kernel
theorem dX5_at_42 : decode cX5_at 42 = .ok (.getfield 55, 3) := by decide +kernel
theorem dX5_at_45 : decode cX5_at 45 = .ok (.iconst 5, 1) := by decide +kernel
theorem dX5_at_46 : decode cX5_at 46 = .ok (.iload_n 1, 1) := by decide +kernel
theorem dX5_at_47 : decode cX5_at 47 = .ok (.imul, 1) := by decide +kernel
theorem dX5_at_48 : decode cX5_at 48 = .ok (.iload_n 2, 1) := by decide +kernel
theorem dX5_at_49 : decode cX5_at 49 = .ok (.iadd, 1) := by decide +kernel
theorem dX5_at_50 : decode cX5_at 50 = .ok (.iaload, 1) := by decide +kernel
theorem dX5_at_51 : decode cX5_at 51 = .ok (.ireturn, 1) := by decide +kernel
theorem dX5_lines_0 : decode cX5_lines 0 = .ok (.aload_n 0, 1) := by decide +kernel
theorem dX5_lines_1 : decode cX5_lines 1 = .ok (.iconst 0, 1) := by decide +kernel
theorem dX5_lines_2 : decode cX5_lines 2 = .ok (.putfield 72, 3) := by decide +kernel
theorem dX5_lines_5 : decode cX5_lines 5 = .ok (.aload_n 0, 1) := by decide +kernel
theorem dX5_lines_6 : decode cX5_lines 6 = .ok (.getfield 107, 3) := by decide +kernel
theorem dX5_lines_9 : decode cX5_lines 9 = .ok (.ireturn, 1) := by decide +kernel
theorem dX5_total_0 : decode cX5_total 0 = .ok (.aload_n 0, 1) := by decide +kernel
theorem dX5_total_1 : decode cX5_total 1 = .ok (.iconst 0, 1) := by decide +kernel
theorem dX5_total_2 : decode cX5_total 2 = .ok (.putfield 72, 3) := by decide +kernel
theorem dX5_total_5 : decode cX5_total 5 = .ok (.iload_n 1, 1) := by decide +kernel
theorem dX5_total_6 : decode cX5_total 6 = .ok (.ifCond .le 20, 3) := by decide +kernel
theorem dX5_total_9 : decode cX5_total 9 = .ok (.iload_n 1, 1) := by decide +kernel
theorem dX5_total_10 : decode cX5_total 10 = .ok (.aload_n 0, 1) := by decide +kernel
theorem dX5_total_11 : decode cX5_total 11 = .ok (.getfield 100, 3) := by decide +kernel
theorem dX5_total_14 : decode cX5_total 14 = .ok (.if_icmp .gt 12, 3) := by decide +kernel
theorem dX5_total_17 : decode cX5_total 17 = .ok (.aload_n 0, 1) := by decide +kernel
theorem dX5_total_18 : decode cX5_total 18 = .ok (.getfield 50, 3) := by decide +kernel
theorem dX5_total_21 : decode cX5_total 21 = .ok (.iload_n 1, 1) := by decide +kernel
theorem dX5_total_22 : decode cX5_total 22 = .ok (.laload, 1) := by decide +kernel
theorem dX5_total_23 : decode cX5_total 23 = .ok (.goto 4, 3) := by decide +kernel
theorem dX5_total_26 : decode cX5_total 26 = .ok (.lconst 0, 1) := by decide +kernel
theorem dX5_total_27 : decode cX5_total 27 = .ok (.lreturn, 1) := by decide +kernel
theorem dX5_counter_0 : decode cX5_counter 0 = .ok (.aload_n 0, 1) := by decide +kernel
theorem dX5_counter_1 : decode cX5_counter 1 = .ok (.iconst 0, 1) := by decide +kernel
theorem dX5_counter_2 : decode cX5_counter 2 = .ok (.putfield 72, 3) := by decide +kernel
theorem dX5_counter_5 : decode cX5_counter 5 = .ok (.iload_n 1, 1) := by decide +kernel
theorem dX5_counter_6 : decode cX5_counter 6 = .ok (.tableswitch 85 0 6 #[42, 47, 52, 65, 70, 75, 80], 42) := by decide +kernel
theorem dX5_counter_48 : decode cX5_counter 48 = .ok (.aload_n 0, 1) := by decide +kernel
theorem dX5_counter_49 : decode cX5_counter 49 = .ok (.getfield 110, 3) := by decide +kernel
theorem dX5_counter_52 : decode cX5_counter 52 = .ok (.ireturn, 1) := by decide +kernel
theorem dX5_counter_53 : decode cX5_counter 53 = .ok (.aload_n 0, 1) := by decide +kernel
theorem dX5_counter_54 : decode cX5_counter 54 = .ok (.getfield 113, 3) := by decide +kernel
theorem dX5_counter_57 : decode cX5_counter 57 = .ok (.ireturn, 1) := by decide +kernel
theorem dX5_counter_58 : decode cX5_counter 58 = .ok (.aload_n 0, 1) := by decide +kernel
theorem dX5_counter_59 : decode cX5_counter 59 = .ok (.getfield 85, 3) := by decide +kernel
theorem dX5_counter_62 : decode cX5_counter 62 = .ok (.ifCond .eq 7, 3) := by decide +kernel
theorem dX5_counter_65 : decode cX5_counter 65 = .ok (.iconst 1, 1) := by decide +kernel
theorem dX5_counter_66 : decode cX5_counter 66 = .ok (.goto 4, 3) := by decide +kernel
theorem dX5_counter_69 : decode cX5_counter 69 = .ok (.iconst 0, 1) := by decide +kernel
theorem dX5_counter_70 : decode cX5_counter 70 = .ok (.ireturn, 1) := by decide +kernel
theorem dX5_counter_71 : decode cX5_counter 71 = .ok (.aload_n 0, 1) := by decide +kernel
theorem dX5_counter_72 : decode cX5_counter 72 = .ok (.getfield 75, 3) := by decide +kernel
theorem dX5_counter_75 : decode cX5_counter 75 = .ok (.ireturn, 1) := by decide +kernel
theorem dX5_counter_76 : decode cX5_counter 76 = .ok (.aload_n 0, 1) := by decide +kernel
theorem dX5_counter_77 : decode cX5_counter 77 = .ok (.getfield 153, 3) := by decide +kernel
theorem dX5_counter_80 : decode cX5_counter 80 = .ok (.ireturn, 1) := by decide +kernel
theorem dX5_counter_81 : decode cX5_counter 81 = .ok (.aload_n 0, 1) := by decide +kernel
theorem dX5_counter_82 : decode cX5_counter 82 = .ok (.getfield 156, 3) := by decide +kernel
theorem dX5_counter_85 : decode cX5_counter 85 = .ok (.ireturn, 1) := by decide +kernel
theorem dX5_counter_86 : decode cX5_counter 86 = .ok (.aload_n 0, 1) := by decide +kernel
theorem dX5_counter_87 : decode cX5_counter 87 = .ok (.getfield 82, 3) := by decide +kernel
theorem dX5_counter_90 : decode cX5_counter 90 = .ok (.ireturn, 1) := by decide +kernel
theorem dX5_counter_91 : decode cX5_counter 91 = .ok (.iconst (-1), 1) := by decide +kernel
