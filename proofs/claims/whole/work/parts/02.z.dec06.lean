theorem dX5_indicate_20 : decode cX5_indicate 20 = .ok (.iload_n 1, 1) := by decide +kernel
theorem dX5_indicate_21 : decode cX5_indicate 21 = .ok (.baload, 1) := by decide +kernel
theorem dX5_indicate_22 : decode cX5_indicate 22 = .ok (.istore_n 2, 1) := by decide +kernel
theorem dX5_indicate_23 : decode cX5_indicate 23 = .ok (.aload_n 0, 1) := by decide +kernel
theorem dX5_indicate_24 : decode cX5_indicate 24 = .ok (.getfield 35, 3) := by decide +kernel
theorem dX5_indicate_27 : decode cX5_indicate 27 = .ok (.iload_n 1, 1) := by decide +kernel
theorem dX5_indicate_28 : decode cX5_indicate 28 = .ok (.iload_n 2, 1) := by decide +kernel
theorem dX5_indicate_29 : decode cX5_indicate 29 = .ok (.ifCond .ne 7, 3) := by decide +kernel
theorem dX5_indicate_32 : decode cX5_indicate 32 = .ok (.iconst 1, 1) := by decide +kernel
theorem dX5_indicate_33 : decode cX5_indicate 33 = .ok (.goto 4, 3) := by decide +kernel
theorem dX5_indicate_36 : decode cX5_indicate 36 = .ok (.iconst 0, 1) := by decide +kernel
theorem dX5_indicate_37 : decode cX5_indicate 37 = .ok (.bastore, 1) := by decide +kernel
theorem dX5_indicate_38 : decode cX5_indicate 38 = .ok (.iload_n 2, 1) := by decide +kernel
theorem dX5_indicate_39 : decode cX5_indicate 39 = .ok (.ifCond .eq 7, 3) := by decide +kernel
theorem dX5_indicate_42 : decode cX5_indicate 42 = .ok (.iconst 1, 1) := by decide +kernel
theorem dX5_indicate_43 : decode cX5_indicate 43 = .ok (.goto 4, 3) := by decide +kernel
theorem dX5_indicate_46 : decode cX5_indicate 46 = .ok (.iconst 0, 1) := by decide +kernel
theorem dX5_indicate_47 : decode cX5_indicate 47 = .ok (.ireturn, 1) := by decide +kernel
theorem dX5_put_0 : decode cX5_put 0 = .ok (.aload_n 0, 1) := by decide +kernel
theorem dX5_put_1 : decode cX5_put 1 = .ok (.getfield 55, 3) := by decide +kernel
theorem dX5_put_4 : decode cX5_put 4 = .ok (.iconst 5, 1) := by decide +kernel
theorem dX5_put_5 : decode cX5_put 5 = .ok (.aload_n 0, 1) := by decide +kernel
theorem dX5_put_6 : decode cX5_put 6 = .ok (.getfield 107, 3) := by decide +kernel
theorem dX5_put_9 : decode cX5_put 9 = .ok (.imul, 1) := by decide +kernel
theorem dX5_put_10 : decode cX5_put 10 = .ok (.aload_n 0, 1) := by decide +kernel
theorem dX5_put_11 : decode cX5_put 11 = .ok (.getfield 110, 3) := by decide +kernel
theorem dX5_put_14 : decode cX5_put 14 = .ok (.iastore, 1) := by decide +kernel
theorem dX5_put_15 : decode cX5_put 15 = .ok (.aload_n 0, 1) := by decide +kernel
theorem dX5_put_16 : decode cX5_put 16 = .ok (.getfield 55, 3) := by decide +kernel
theorem dX5_put_19 : decode cX5_put 19 = .ok (.iconst 5, 1) := by decide +kernel
theorem dX5_put_20 : decode cX5_put 20 = .ok (.aload_n 0, 1) := by decide +kernel
theorem dX5_put_21 : decode cX5_put 21 = .ok (.getfield 107, 3) := by decide +kernel
theorem dX5_put_24 : decode cX5_put 24 = .ok (.imul, 1) := by decide +kernel
theorem dX5_put_25 : decode cX5_put 25 = .ok (.iconst 1, 1) := by decide +kernel
theorem dX5_put_26 : decode cX5_put 26 = .ok (.iadd, 1) := by decide +kernel
theorem dX5_put_27 : decode cX5_put 27 = .ok (.iload_n 3, 1) := by decide +kernel
theorem dX5_put_28 : decode cX5_put 28 = .ok (.iastore, 1) := by decide +kernel
theorem dX5_put_29 : decode cX5_put 29 = .ok (.aload_n 0, 1) := by decide +kernel
theorem dX5_put_30 : decode cX5_put 30 = .ok (.getfield 55, 3) := by decide +kernel
theorem dX5_put_33 : decode cX5_put 33 = .ok (.iconst 5, 1) := by decide +kernel
theorem dX5_put_34 : decode cX5_put 34 = .ok (.aload_n 0, 1) := by decide +kernel
theorem dX5_put_35 : decode cX5_put 35 = .ok (.getfield 107, 3) := by decide +kernel
theorem dX5_put_38 : decode cX5_put 38 = .ok (.imul, 1) := by decide +kernel
theorem dX5_put_39 : decode cX5_put 39 = .ok (.iconst 2, 1) := by decide +kernel
theorem dX5_put_40 : decode cX5_put 40 = .ok (.iadd, 1) := by decide +kernel
theorem dX5_put_41 : decode cX5_put 41 = .ok (.iload_n 1, 1) := by decide +kernel
theorem dX5_put_42 : decode cX5_put 42 = .ok (.iastore, 1) := by decide +kernel
theorem dX5_put_43 : decode cX5_put 43 = .ok (.aload_n 0, 1) := by decide +kernel
theorem dX5_put_44 : decode cX5_put 44 = .ok (.getfield 55, 3) := by decide +kernel
theorem dX5_put_47 : decode cX5_put 47 = .ok (.iconst 5, 1) := by decide +kernel
theorem dX5_put_48 : decode cX5_put 48 = .ok (.aload_n 0, 1) := by decide +kernel
theorem dX5_put_49 : decode cX5_put 49 = .ok (.getfield 107, 3) := by decide +kernel
theorem dX5_put_52 : decode cX5_put 52 = .ok (.imul, 1) := by decide +kernel
theorem dX5_put_53 : decode cX5_put 53 = .ok (.iconst 3, 1) := by decide +kernel
theorem dX5_put_54 : decode cX5_put 54 = .ok (.iadd, 1) := by decide +kernel
theorem dX5_put_55 : decode cX5_put 55 = .ok (.iload_n 2, 1) := by decide +kernel
theorem dX5_put_56 : decode cX5_put 56 = .ok (.iastore, 1) := by decide +kernel
theorem dX5_put_57 : decode cX5_put 57 = .ok (.aload_n 0, 1) := by decide +kernel
theorem dX5_put_58 : decode cX5_put 58 = .ok (.getfield 55, 3) := by decide +kernel
theorem dX5_put_61 : decode cX5_put 61 = .ok (.iconst 5, 1) := by decide +kernel
theorem dX5_put_62 : decode cX5_put 62 = .ok (.aload_n 0, 1) := by decide +kernel
theorem dX5_put_63 : decode cX5_put 63 = .ok (.getfield 107, 3) := by decide +kernel
theorem dX5_put_66 : decode cX5_put 66 = .ok (.imul, 1) := by decide +kernel
theorem dX5_put_67 : decode cX5_put 67 = .ok (.iconst 4, 1) := by decide +kernel
theorem dX5_put_68 : decode cX5_put 68 = .ok (.iadd, 1) := by decide +kernel
theorem dX5_put_69 : decode cX5_put 69 = .ok (.iload 4, 2) := by decide +kernel
theorem dX5_put_71 : decode cX5_put 71 = .ok (.iastore, 1) := by decide +kernel
theorem dX5_put_72 : decode cX5_put 72 = .ok (.aload_n 0, 1) := by decide +kernel
theorem dX5_put_73 : decode cX5_put 73 = .ok (.dup, 1) := by decide +kernel
theorem dX5_put_74 : decode cX5_put 74 = .ok (.getfield 107, 3) := by decide +kernel
theorem dX5_put_77 : decode cX5_put 77 = .ok (.iconst 1, 1) := by decide +kernel
theorem dX5_put_78 : decode cX5_put 78 = .ok (.iadd, 1) := by decide +kernel
theorem dX5_put_79 : decode cX5_put 79 = .ok (.putfield 107, 3) := by decide +kernel
theorem dX5_put_82 : decode cX5_put 82 = .ok (.aload_n 0, 1) := by decide +kernel
theorem dX5_put_83 : decode cX5_put 83 = .ok (.iload_n 3, 1) := by decide +kernel
theorem dX5_put_84 : decode cX5_put 84 = .ok (.putfield 113, 3) := by decide +kernel
theorem dX5_put_87 : decode cX5_put 87 = .ok (.return_, 1) := by decide +kernel
theorem dX5_isOn_0 : decode cX5_isOn 0 = .ok (.iload_n 1, 1) := by decide +kernel
theorem dX5_isOn_1 : decode cX5_isOn 1 = .ok (.ifCond .ne 5, 3) := by decide +kernel
theorem dX5_isOn_4 : decode cX5_isOn 4 = .ok (.iconst 0, 1) := by decide +kernel
theorem dX5_isOn_5 : decode cX5_isOn 5 = .ok (.ireturn, 1) := by decide +kernel
theorem dX5_isOn_6 : decode cX5_isOn 6 = .ok (.aload_n 0, 1) := by decide +kernel
theorem dX5_isOn_7 : decode cX5_isOn 7 = .ok (.getfield 32, 3) := by decide +kernel
theorem dX5_isOn_10 : decode cX5_isOn 10 = .ok (.iload_n 1, 1) := by decide +kernel
theorem dX5_isOn_11 : decode cX5_isOn 11 = .ok (.baload, 1) := by decide +kernel
theorem dX5_isOn_12 : decode cX5_isOn 12 = .ok (.istore_n 2, 1) := by decide +kernel
theorem dX5_isOn_13 : decode cX5_isOn 13 = .ok (.aload_n 0, 1) := by decide +kernel
theorem dX5_isOn_14 : decode cX5_isOn 14 = .ok (.getfield 32, 3) := by decide +kernel
theorem dX5_isOn_17 : decode cX5_isOn 17 = .ok (.iload_n 1, 1) := by decide +kernel
theorem dX5_isOn_18 : decode cX5_isOn 18 = .ok (.iconst 0, 1) := by decide +kernel
theorem dX5_isOn_19 : decode cX5_isOn 19 = .ok (.bastore, 1) := by decide +kernel
theorem dX5_isOn_20 : decode cX5_isOn 20 = .ok (.iload_n 2, 1) := by decide +kernel
theorem dX5_isOn_21 : decode cX5_isOn 21 = .ok (.ifCond .ne 16, 3) := by decide +kernel
theorem dX5_isOn_24 : decode cX5_isOn 24 = .ok (.aload_n 0, 1) := by decide +kernel
theorem dX5_isOn_25 : decode cX5_isOn 25 = .ok (.getfield 22, 3) := by decide +kernel
theorem dX5_isOn_28 : decode cX5_isOn 28 = .ok (.iload_n 1, 1) := by decide +kernel
theorem dX5_isOn_29 : decode cX5_isOn 29 = .ok (.iaload, 1) := by decide +kernel
theorem dX5_isOn_30 : decode cX5_isOn 30 = .ok (.ifCond .le 7, 3) := by decide +kernel
theorem dX5_isOn_33 : decode cX5_isOn 33 = .ok (.iconst 1, 1) := by decide +kernel
theorem dX5_isOn_34 : decode cX5_isOn 34 = .ok (.goto 4, 3) := by decide +kernel
theorem dX5_isOn_37 : decode cX5_isOn 37 = .ok (.iconst 0, 1) := by decide +kernel
theorem dX5_isOn_38 : decode cX5_isOn 38 = .ok (.ireturn, 1) := by decide +kernel
theorem dX5_putAll_0 : decode cX5_putAll 0 = .ok (.iload_n 2, 1) := by decide +kernel
theorem dX5_putAll_1 : decode cX5_putAll 1 = .ok (.istore 4, 2) := by decide +kernel
theorem dX5_putAll_3 : decode cX5_putAll 3 = .ok (.iconst 0, 1) := by decide +kernel
theorem dX5_putAll_4 : decode cX5_putAll 4 = .ok (.istore 5, 2) := by decide +kernel
theorem dX5_putAll_6 : decode cX5_putAll 6 = .ok (.iload 5, 2) := by decide +kernel
theorem dX5_putAll_8 : decode cX5_putAll 8 = .ok (.aload_n 0, 1) := by decide +kernel
theorem dX5_putAll_9 : decode cX5_putAll 9 = .ok (.getfield 22, 3) := by decide +kernel
theorem dX5_putAll_12 : decode cX5_putAll 12 = .ok (.iload_n 1, 1) := by decide +kernel
theorem dX5_putAll_13 : decode cX5_putAll 13 = .ok (.iaload, 1) := by decide +kernel
theorem dX5_putAll_14 : decode cX5_putAll 14 = .ok (.if_icmp .ge 45, 3) := by decide +kernel
theorem dX5_putAll_17 : decode cX5_putAll 17 = .ok (.iload 4, 2) := by decide +kernel
theorem dX5_putAll_19 : decode cX5_putAll 19 = .ok (.iload 5, 2) := by decide +kernel
theorem dX5_putAll_21 : decode cX5_putAll 21 = .ok (.ifCond .ne 7, 3) := by decide +kernel
theorem dX5_putAll_24 : decode cX5_putAll 24 = .ok (.iconst 0, 1) := by decide +kernel
theorem dX5_putAll_25 : decode cX5_putAll 25 = .ok (.goto 15, 3) := by decide +kernel
theorem dX5_putAll_28 : decode cX5_putAll 28 = .ok (.aload_n 0, 1) := by decide +kernel
theorem dX5_putAll_29 : decode cX5_putAll 29 = .ok (.getfield 25, 3) := by decide +kernel
theorem dX5_putAll_32 : decode cX5_putAll 32 = .ok (.bipush 10, 2) := by decide +kernel
theorem dX5_putAll_34 : decode cX5_putAll 34 = .ok (.iload_n 1, 1) := by decide +kernel
theorem dX5_putAll_35 : decode cX5_putAll 35 = .ok (.imul, 1) := by decide +kernel
theorem dX5_putAll_36 : decode cX5_putAll 36 = .ok (.iload 5, 2) := by decide +kernel
theorem dX5_putAll_38 : decode cX5_putAll 38 = .ok (.iadd, 1) := by decide +kernel
theorem dX5_putAll_39 : decode cX5_putAll 39 = .ok (.iaload, 1) := by decide +kernel
theorem dX5_putAll_40 : decode cX5_putAll 40 = .ok (.iadd, 1) := by decide +kernel
theorem dX5_putAll_41 : decode cX5_putAll 41 = .ok (.istore 4, 2) := by decide +kernel
theorem dX5_putAll_43 : decode cX5_putAll 43 = .ok (.aload_n 0, 1) := by decide +kernel
theorem dX5_putAll_44 : decode cX5_putAll 44 = .ok (.iload_n 1, 1) := by decide +kernel
theorem dX5_putAll_45 : decode cX5_putAll 45 = .ok (.iload 5, 2) := by decide +kernel
theorem dX5_putAll_47 : decode cX5_putAll 47 = .ok (.iload 4, 2) := by decide +kernel
theorem dX5_putAll_49 : decode cX5_putAll 49 = .ok (.iload_n 3, 1) := by decide +kernel
theorem dX5_putAll_50 : decode cX5_putAll 50 = .ok (.invokevirtual 116, 3) := by decide +kernel
theorem dX5_putAll_53 : decode cX5_putAll 53 = .ok (.iinc 5 1, 3) := by decide +kernel
theorem dX5_putAll_56 : decode cX5_putAll 56 = .ok (.goto (-50), 3) := by decide +kernel
theorem dX5_putAll_59 : decode cX5_putAll 59 = .ok (.return_, 1) := by decide +kernel
theorem dX5_putFrom_0 : decode cX5_putFrom 0 = .ok (.aload_n 0, 1) := by decide +kernel
theorem dX5_putFrom_1 : decode cX5_putFrom 1 = .ok (.iload_n 1, 1) := by decide +kernel
theorem dX5_putFrom_2 : decode cX5_putFrom 2 = .ok (.aload_n 0, 1) := by decide +kernel
theorem dX5_putFrom_3 : decode cX5_putFrom 3 = .ok (.getfield 28, 3) := by decide +kernel
theorem dX5_putFrom_6 : decode cX5_putFrom 6 = .ok (.iload_n 1, 1) := by decide +kernel
theorem dX5_putFrom_7 : decode cX5_putFrom 7 = .ok (.baload, 1) := by decide +kernel
theorem dX5_putFrom_8 : decode cX5_putFrom 8 = .ok (.ifCond .eq 15, 3) := by decide +kernel
theorem dX5_putFrom_11 : decode cX5_putFrom 11 = .ok (.aload_n 0, 1) := by decide +kernel
theorem dX5_putFrom_12 : decode cX5_putFrom 12 = .ok (.getfield 25, 3) := by decide +kernel
theorem dX5_putFrom_15 : decode cX5_putFrom 15 = .ok (.bipush 10, 2) := by decide +kernel
theorem dX5_putFrom_17 : decode cX5_putFrom 17 = .ok (.iload_n 1, 1) := by decide +kernel
theorem dX5_putFrom_18 : decode cX5_putFrom 18 = .ok (.imul, 1) := by decide +kernel
theorem dX5_putFrom_19 : decode cX5_putFrom 19 = .ok (.iaload, 1) := by decide +kernel
theorem dX5_putFrom_20 : decode cX5_putFrom 20 = .ok (.goto 14, 3) := by decide +kernel
theorem dX5_putFrom_23 : decode cX5_putFrom 23 = .ok (.iload_n 2, 1) := by decide +kernel
theorem dX5_putFrom_24 : decode cX5_putFrom 24 = .ok (.aload_n 0, 1) := by decide +kernel
theorem dX5_putFrom_25 : decode cX5_putFrom 25 = .ok (.getfield 25, 3) := by decide +kernel
theorem dX5_putFrom_28 : decode cX5_putFrom 28 = .ok (.bipush 10, 2) := by decide +kernel
theorem dX5_putFrom_30 : decode cX5_putFrom 30 = .ok (.iload_n 1, 1) := by decide +kernel
theorem dX5_putFrom_31 : decode cX5_putFrom 31 = .ok (.imul, 1) := by decide +kernel
theorem dX5_putFrom_32 : decode cX5_putFrom 32 = .ok (.iaload, 1) := by decide +kernel
theorem dX5_putFrom_33 : decode cX5_putFrom 33 = .ok (.iadd, 1) := by decide +kernel
theorem dX5_putFrom_34 : decode cX5_putFrom 34 = .ok (.iload_n 3, 1) := by decide +kernel
theorem dX5_putFrom_35 : decode cX5_putFrom 35 = .ok (.invokevirtual 120, 3) := by decide +kernel
theorem dX5_putFrom_38 : decode cX5_putFrom 38 = .ok (.return_, 1) := by decide +kernel
theorem dX5_alone_0 : decode cX5_alone 0 = .ok (.aload_n 0, 1) := by decide +kernel
theorem dX5_alone_1 : decode cX5_alone 1 = .ok (.iload_n 1, 1) := by decide +kernel
theorem dX5_alone_2 : decode cX5_alone 2 = .ok (.iconst 0, 1) := by decide +kernel
theorem dX5_alone_3 : decode cX5_alone 3 = .ok (.invokevirtual 89, 3) := by decide +kernel
theorem dX5_alone_6 : decode cX5_alone 6 = .ok (.istore_n 2, 1) := by decide +kernel
theorem dX5_alone_7 : decode cX5_alone 7 = .ok (.aload_n 0, 1) := by decide +kernel
theorem dX5_alone_8 : decode cX5_alone 8 = .ok (.iload_n 2, 1) := by decide +kernel
theorem dX5_alone_9 : decode cX5_alone 9 = .ok (.invokevirtual 124, 3) := by decide +kernel
theorem dX5_alone_12 : decode cX5_alone 12 = .ok (.ifCond .ne 4, 3) := by decide +kernel
theorem dX5_alone_15 : decode cX5_alone 15 = .ok (.return_, 1) := by decide +kernel
theorem dX5_alone_16 : decode cX5_alone 16 = .ok (.aload_n 0, 1) := by decide +kernel
theorem dX5_alone_17 : decode cX5_alone 17 = .ok (.dup, 1) := by decide +kernel
theorem dX5_alone_18 : decode cX5_alone 18 = .ok (.getfield 110, 3) := by decide +kernel
theorem dX5_alone_21 : decode cX5_alone 21 = .ok (.iconst 1, 1) := by decide +kernel
theorem dX5_alone_22 : decode cX5_alone 22 = .ok (.iadd, 1) := by decide +kernel
theorem dX5_alone_23 : decode cX5_alone 23 = .ok (.putfield 110, 3) := by decide +kernel
theorem dX5_alone_26 : decode cX5_alone 26 = .ok (.aload_n 0, 1) := by decide +kernel
theorem dX5_alone_27 : decode cX5_alone 27 = .ok (.iconst 0, 1) := by decide +kernel
theorem dX5_alone_28 : decode cX5_alone 28 = .ok (.putfield 113, 3) := by decide +kernel
theorem dX5_alone_31 : decode cX5_alone 31 = .ok (.aload_n 0, 1) := by decide +kernel
theorem dX5_alone_32 : decode cX5_alone 32 = .ok (.iload_n 2, 1) := by decide +kernel
theorem dX5_alone_33 : decode cX5_alone 33 = .ok (.iconst 0, 1) := by decide +kernel
theorem dX5_alone_34 : decode cX5_alone 34 = .ok (.iconst 0, 1) := by decide +kernel
theorem dX5_alone_35 : decode cX5_alone 35 = .ok (.invokevirtual 127, 3) := by decide +kernel
theorem dX5_alone_38 : decode cX5_alone 38 = .ok (.return_, 1) := by decide +kernel
theorem dX5_begin_0 : decode cX5_begin 0 = .ok (.aload_n 0, 1) := by decide +kernel
theorem dX5_begin_1 : decode cX5_begin 1 = .ok (.dup, 1) := by decide +kernel
theorem dX5_begin_2 : decode cX5_begin 2 = .ok (.getfield 110, 3) := by decide +kernel
theorem dX5_begin_5 : decode cX5_begin 5 = .ok (.iconst 1, 1) := by decide +kernel
theorem dX5_begin_6 : decode cX5_begin 6 = .ok (.iadd, 1) := by decide +kernel
theorem dX5_begin_7 : decode cX5_begin 7 = .ok (.putfield 110, 3) := by decide +kernel
theorem dX5_begin_10 : decode cX5_begin 10 = .ok (.aload_n 0, 1) := by decide +kernel
theorem dX5_begin_11 : decode cX5_begin 11 = .ok (.iconst 0, 1) := by decide +kernel
theorem dX5_begin_12 : decode cX5_begin 12 = .ok (.putfield 113, 3) := by decide +kernel
theorem dX5_begin_15 : decode cX5_begin 15 = .ok (.aload_n 0, 1) := by decide +kernel
theorem dX5_begin_16 : decode cX5_begin 16 = .ok (.iconst 0, 1) := by decide +kernel
theorem dX5_begin_17 : decode cX5_begin 17 = .ok (.putfield 130, 3) := by decide +kernel
theorem dX5_begin_20 : decode cX5_begin 20 = .ok (.aload_n 0, 1) := by decide +kernel
theorem dX5_begin_21 : decode cX5_begin 21 = .ok (.invokevirtual 133, 3) := by decide +kernel
theorem dX5_begin_24 : decode cX5_begin 24 = .ok (.aload_n 0, 1) := by decide +kernel
theorem dX5_begin_25 : decode cX5_begin 25 = .ok (.iconst 1, 1) := by decide +kernel
theorem dX5_begin_26 : decode cX5_begin 26 = .ok (.iconst 0, 1) := by decide +kernel
theorem dX5_begin_27 : decode cX5_begin 27 = .ok (.invokevirtual 89, 3) := by decide +kernel
theorem dX5_begin_30 : decode cX5_begin 30 = .ok (.istore_n 1, 1) := by decide +kernel
theorem dX5_begin_31 : decode cX5_begin 31 = .ok (.aload_n 0, 1) := by decide +kernel
theorem dX5_begin_32 : decode cX5_begin 32 = .ok (.iload_n 1, 1) := by decide +kernel
theorem dX5_begin_33 : decode cX5_begin 33 = .ok (.invokevirtual 124, 3) := by decide +kernel
theorem dX5_begin_36 : decode cX5_begin 36 = .ok (.ifCond .eq 10, 3) := by decide +kernel
theorem dX5_begin_39 : decode cX5_begin 39 = .ok (.aload_n 0, 1) := by decide +kernel
theorem dX5_begin_40 : decode cX5_begin 40 = .ok (.iload_n 1, 1) := by decide +kernel
theorem dX5_begin_41 : decode cX5_begin 41 = .ok (.iconst 0, 1) := by decide +kernel
theorem dX5_begin_42 : decode cX5_begin 42 = .ok (.iconst 0, 1) := by decide +kernel
theorem dX5_begin_43 : decode cX5_begin 43 = .ok (.invokevirtual 127, 3) := by decide +kernel
theorem dX5_begin_46 : decode cX5_begin 46 = .ok (.return_, 1) := by decide +kernel
theorem dX5_over_0 : decode cX5_over 0 = .ok (.aload_n 0, 1) := by decide +kernel
theorem dX5_over_1 : decode cX5_over 1 = .ok (.iconst 5, 1) := by decide +kernel
theorem dX5_over_2 : decode cX5_over 2 = .ok (.iconst 0, 1) := by decide +kernel
theorem dX5_over_3 : decode cX5_over 3 = .ok (.invokevirtual 89, 3) := by decide +kernel
theorem dX5_over_6 : decode cX5_over 6 = .ok (.istore_n 1, 1) := by decide +kernel
theorem dX5_over_7 : decode cX5_over 7 = .ok (.aload_n 0, 1) := by decide +kernel
theorem dX5_over_8 : decode cX5_over 8 = .ok (.iload_n 1, 1) := by decide +kernel
theorem dX5_over_9 : decode cX5_over 9 = .ok (.invokevirtual 124, 3) := by decide +kernel
theorem dX5_over_12 : decode cX5_over 12 = .ok (.ifCond .eq 13, 3) := by decide +kernel
theorem dX5_over_15 : decode cX5_over 15 = .ok (.aload_n 0, 1) := by decide +kernel
theorem dX5_over_16 : decode cX5_over 16 = .ok (.iload_n 1, 1) := by decide +kernel
theorem dX5_over_17 : decode cX5_over 17 = .ok (.aload_n 0, 1) := by decide +kernel
theorem dX5_over_18 : decode cX5_over 18 = .ok (.getfield 69, 3) := by decide +kernel
theorem dX5_over_21 : decode cX5_over 21 = .ok (.iconst 0, 1) := by decide +kernel
theorem dX5_over_22 : decode cX5_over 22 = .ok (.invokevirtual 127, 3) := by decide +kernel
theorem dX5_over_25 : decode cX5_over 25 = .ok (.return_, 1) := by decide +kernel
theorem dX5_fresh_0 : decode cX5_fresh 0 = .ok (.iconst 0, 1) := by decide +kernel
theorem dX5_fresh_1 : decode cX5_fresh 1 = .ok (.istore_n 1, 1) := by decide +kernel
theorem dX5_fresh_2 : decode cX5_fresh 2 = .ok (.iload_n 1, 1) := by decide +kernel
theorem dX5_fresh_3 : decode cX5_fresh 3 = .ok (.bipush 20, 2) := by decide +kernel
theorem dX5_fresh_5 : decode cX5_fresh 5 = .ok (.if_icmp .gt 16, 3) := by decide +kernel
theorem dX5_fresh_8 : decode cX5_fresh 8 = .ok (.aload_n 0, 1) := by decide +kernel
theorem dX5_fresh_9 : decode cX5_fresh 9 = .ok (.getfield 38, 3) := by decide +kernel
theorem dX5_fresh_12 : decode cX5_fresh 12 = .ok (.iload_n 1, 1) := by decide +kernel
theorem dX5_fresh_13 : decode cX5_fresh 13 = .ok (.iconst 0, 1) := by decide +kernel
theorem dX5_fresh_14 : decode cX5_fresh 14 = .ok (.bastore, 1) := by decide +kernel
theorem dX5_fresh_15 : decode cX5_fresh 15 = .ok (.iinc 1 1, 3) := by decide +kernel
theorem dX5_fresh_18 : decode cX5_fresh 18 = .ok (.goto (-16), 3) := by decide +kernel
theorem dX5_fresh_21 : decode cX5_fresh 21 = .ok (.return_, 1) := by decide +kernel
theorem dX5_top_0 : decode cX5_top 0 = .ok (.aload_n 0, 1) := by decide +kernel
theorem dX5_top_1 : decode cX5_top 1 = .ok (.getfield 28, 3) := by decide +kernel
theorem dX5_top_4 : decode cX5_top 4 = .ok (.iload_n 1, 1) := by decide +kernel
theorem dX5_top_5 : decode cX5_top 5 = .ok (.baload, 1) := by decide +kernel
theorem dX5_top_6 : decode cX5_top 6 = .ok (.ifCond .eq 15, 3) := by decide +kernel
theorem dX5_top_9 : decode cX5_top 9 = .ok (.aload_n 0, 1) := by decide +kernel
theorem dX5_top_10 : decode cX5_top 10 = .ok (.getfield 25, 3) := by decide +kernel
theorem dX5_top_13 : decode cX5_top 13 = .ok (.bipush 10, 2) := by decide +kernel
theorem dX5_top_15 : decode cX5_top 15 = .ok (.iload_n 1, 1) := by decide +kernel
theorem dX5_top_16 : decode cX5_top 16 = .ok (.imul, 1) := by decide +kernel
theorem dX5_top_17 : decode cX5_top 17 = .ok (.iaload, 1) := by decide +kernel
theorem dX5_top_18 : decode cX5_top 18 = .ok (.goto 31, 3) := by decide +kernel
theorem dX5_top_21 : decode cX5_top 21 = .ok (.aload_n 0, 1) := by decide +kernel
theorem dX5_top_22 : decode cX5_top 22 = .ok (.getfield 130, 3) := by decide +kernel
theorem dX5_top_25 : decode cX5_top 25 = .ok (.ifCond .ne 10, 3) := by decide +kernel
theorem dX5_top_28 : decode cX5_top 28 = .ok (.aload_n 0, 1) := by decide +kernel
theorem dX5_top_29 : decode cX5_top 29 = .ok (.getfield 66, 3) := by decide +kernel
theorem dX5_top_32 : decode cX5_top 32 = .ok (.goto 17, 3) := by decide +kernel
theorem dX5_top_35 : decode cX5_top 35 = .ok (.aload_n 0, 1) := by decide +kernel
theorem dX5_top_36 : decode cX5_top 36 = .ok (.getfield 130, 3) := by decide +kernel
theorem dX5_top_39 : decode cX5_top 39 = .ok (.aload_n 0, 1) := by decide +kernel
theorem dX5_top_40 : decode cX5_top 40 = .ok (.getfield 25, 3) := by decide +kernel
theorem dX5_top_43 : decode cX5_top 43 = .ok (.bipush 10, 2) := by decide +kernel
theorem dX5_top_45 : decode cX5_top 45 = .ok (.iload_n 1, 1) := by decide +kernel
theorem dX5_top_46 : decode cX5_top 46 = .ok (.imul, 1) := by decide +kernel
theorem dX5_top_47 : decode cX5_top 47 = .ok (.iaload, 1) := by decide +kernel
theorem dX5_top_48 : decode cX5_top 48 = .ok (.iadd, 1) := by decide +kernel
theorem dX5_top_49 : decode cX5_top 49 = .ok (.ireturn, 1) := by decide +kernel
theorem dX5_inBody_0 : decode cX5_inBody 0 = .ok (.aload_n 0, 1) := by decide +kernel
theorem dX5_inBody_1 : decode cX5_inBody 1 = .ok (.iload_n 1, 1) := by decide +kernel
theorem dX5_inBody_2 : decode cX5_inBody 2 = .ok (.invokevirtual 124, 3) := by decide +kernel
theorem dX5_inBody_5 : decode cX5_inBody 5 = .ok (.ifCond .ne 4, 3) := by decide +kernel
theorem dX5_inBody_8 : decode cX5_inBody 8 = .ok (.return_, 1) := by decide +kernel
theorem dX5_inBody_9 : decode cX5_inBody 9 = .ok (.aload_n 0, 1) := by decide +kernel
theorem dX5_inBody_10 : decode cX5_inBody 10 = .ok (.iload_n 1, 1) := by decide +kernel
theorem dX5_inBody_11 : decode cX5_inBody 11 = .ok (.invokevirtual 136, 3) := by decide +kernel
theorem dX5_inBody_14 : decode cX5_inBody 14 = .ok (.istore_n 3, 1) := by decide +kernel
theorem dX5_inBody_15 : decode cX5_inBody 15 = .ok (.iconst 1, 1) := by decide +kernel
theorem dX5_inBody_16 : decode cX5_inBody 16 = .ok (.istore 4, 2) := by decide +kernel
theorem dX5_inBody_18 : decode cX5_inBody 18 = .ok (.iload 4, 2) := by decide +kernel
theorem dX5_inBody_20 : decode cX5_inBody 20 = .ok (.aload_n 0, 1) := by decide +kernel
theorem dX5_inBody_21 : decode cX5_inBody 21 = .ok (.getfield 22, 3) := by decide +kernel
theorem dX5_inBody_24 : decode cX5_inBody 24 = .ok (.iload_n 1, 1) := by decide +kernel
theorem dX5_inBody_25 : decode cX5_inBody 25 = .ok (.iaload, 1) := by decide +kernel
theorem dX5_inBody_26 : decode cX5_inBody 26 = .ok (.if_icmp .ge 24, 3) := by decide +kernel
theorem dX5_inBody_29 : decode cX5_inBody 29 = .ok (.iload_n 3, 1) := by decide +kernel
theorem dX5_inBody_30 : decode cX5_inBody 30 = .ok (.aload_n 0, 1) := by decide +kernel
theorem dX5_inBody_31 : decode cX5_inBody 31 = .ok (.getfield 25, 3) := by decide +kernel
theorem dX5_inBody_34 : decode cX5_inBody 34 = .ok (.bipush 10, 2) := by decide +kernel
theorem dX5_inBody_36 : decode cX5_inBody 36 = .ok (.iload_n 1, 1) := by decide +kernel
theorem dX5_inBody_37 : decode cX5_inBody 37 = .ok (.imul, 1) := by decide +kernel
theorem dX5_inBody_38 : decode cX5_inBody 38 = .ok (.iload 4, 2) := by decide +kernel
theorem dX5_inBody_40 : decode cX5_inBody 40 = .ok (.iadd, 1) := by decide +kernel
theorem dX5_inBody_41 : decode cX5_inBody 41 = .ok (.iaload, 1) := by decide +kernel
theorem dX5_inBody_42 : decode cX5_inBody 42 = .ok (.iadd, 1) := by decide +kernel
theorem dX5_inBody_43 : decode cX5_inBody 43 = .ok (.istore_n 3, 1) := by decide +kernel
theorem dX5_inBody_44 : decode cX5_inBody 44 = .ok (.iinc 4 1, 3) := by decide +kernel
theorem dX5_inBody_47 : decode cX5_inBody 47 = .ok (.goto (-29), 3) := by decide +kernel
theorem dX5_inBody_50 : decode cX5_inBody 50 = .ok (.aload_n 0, 1) := by decide +kernel
theorem dX5_inBody_51 : decode cX5_inBody 51 = .ok (.getfield 130, 3) := by decide +kernel
theorem dX5_inBody_54 : decode cX5_inBody 54 = .ok (.ifCond .le 15, 3) := by decide +kernel
theorem dX5_inBody_57 : decode cX5_inBody 57 = .ok (.aload_n 0, 1) := by decide +kernel
theorem dX5_inBody_58 : decode cX5_inBody 58 = .ok (.iload_n 1, 1) := by decide +kernel
theorem dX5_inBody_59 : decode cX5_inBody 59 = .ok (.invokevirtual 136, 3) := by decide +kernel
theorem dX5_inBody_62 : decode cX5_inBody 62 = .ok (.aload_n 0, 1) := by decide +kernel
theorem dX5_inBody_63 : decode cX5_inBody 63 = .ok (.getfield 130, 3) := by decide +kernel
theorem dX5_inBody_66 : decode cX5_inBody 66 = .ok (.if_icmp .le 11, 3) := by decide +kernel
theorem dX5_inBody_69 : decode cX5_inBody 69 = .ok (.iload_n 3, 1) := by decide +kernel
theorem dX5_inBody_70 : decode cX5_inBody 70 = .ok (.aload_n 0, 1) := by decide +kernel
theorem dX5_inBody_71 : decode cX5_inBody 71 = .ok (.getfield 69, 3) := by decide +kernel
theorem dX5_inBody_74 : decode cX5_inBody 74 = .ok (.if_icmp .le 11, 3) := by decide +kernel
theorem dX5_inBody_77 : decode cX5_inBody 77 = .ok (.aload_n 0, 1) := by decide +kernel
theorem dX5_inBody_78 : decode cX5_inBody 78 = .ok (.invokevirtual 140, 3) := by decide +kernel
theorem dX5_inBody_81 : decode cX5_inBody 81 = .ok (.aload_n 0, 1) := by decide +kernel
theorem dX5_inBody_82 : decode cX5_inBody 82 = .ok (.invokevirtual 143, 3) := by decide +kernel
theorem dX5_inBody_85 : decode cX5_inBody 85 = .ok (.aload_n 0, 1) := by decide +kernel
theorem dX5_inBody_86 : decode cX5_inBody 86 = .ok (.getfield 35, 3) := by decide +kernel
theorem dX5_inBody_89 : decode cX5_inBody 89 = .ok (.iload_n 1, 1) := by decide +kernel
theorem dX5_inBody_90 : decode cX5_inBody 90 = .ok (.baload, 1) := by decide +kernel
theorem dX5_inBody_91 : decode cX5_inBody 91 = .ok (.ifCond .eq 12, 3) := by decide +kernel
theorem dX5_inBody_94 : decode cX5_inBody 94 = .ok (.aload_n 0, 1) := by decide +kernel
theorem dX5_inBody_95 : decode cX5_inBody 95 = .ok (.getfield 38, 3) := by decide +kernel
theorem dX5_inBody_98 : decode cX5_inBody 98 = .ok (.iload_n 1, 1) := by decide +kernel
theorem dX5_inBody_99 : decode cX5_inBody 99 = .ok (.baload, 1) := by decide +kernel
theorem dX5_inBody_100 : decode cX5_inBody 100 = .ok (.ifCond .ne 7, 3) := by decide +kernel
theorem dX5_inBody_103 : decode cX5_inBody 103 = .ok (.iconst 1, 1) := by decide +kernel
theorem dX5_inBody_104 : decode cX5_inBody 104 = .ok (.goto 4, 3) := by decide +kernel
theorem dX5_inBody_107 : decode cX5_inBody 107 = .ok (.iconst 0, 1) := by decide +kernel
theorem dX5_inBody_108 : decode cX5_inBody 108 = .ok (.istore 4, 2) := by decide +kernel
theorem dX5_inBody_110 : decode cX5_inBody 110 = .ok (.aload_n 0, 1) := by decide +kernel
theorem dX5_inBody_111 : decode cX5_inBody 111 = .ok (.getfield 38, 3) := by decide +kernel
theorem dX5_inBody_114 : decode cX5_inBody 114 = .ok (.iload_n 1, 1) := by decide +kernel
theorem dX5_inBody_115 : decode cX5_inBody 115 = .ok (.iconst 1, 1) := by decide +kernel
theorem dX5_inBody_116 : decode cX5_inBody 116 = .ok (.bastore, 1) := by decide +kernel
theorem dX5_inBody_117 : decode cX5_inBody 117 = .ok (.aload_n 0, 1) := by decide +kernel
theorem dX5_inBody_118 : decode cX5_inBody 118 = .ok (.iload_n 1, 1) := by decide +kernel
theorem dX5_inBody_119 : decode cX5_inBody 119 = .ok (.aload_n 0, 1) := by decide +kernel
theorem dX5_inBody_120 : decode cX5_inBody 120 = .ok (.iload_n 1, 1) := by decide +kernel
theorem dX5_inBody_121 : decode cX5_inBody 121 = .ok (.invokevirtual 136, 3) := by decide +kernel
theorem dX5_inBody_124 : decode cX5_inBody 124 = .ok (.aload_n 0, 1) := by decide +kernel
theorem dX5_inBody_125 : decode cX5_inBody 125 = .ok (.getfield 16, 3) := by decide +kernel
theorem dX5_inBody_128 : decode cX5_inBody 128 = .ok (.iload_n 1, 1) := by decide +kernel
theorem dX5_inBody_129 : decode cX5_inBody 129 = .ok (.iaload, 1) := by decide +kernel
theorem dX5_inBody_130 : decode cX5_inBody 130 = .ok (.iconst 3, 1) := by decide +kernel
theorem dX5_inBody_131 : decode cX5_inBody 131 = .ok (.if_icmp .ne 12, 3) := by decide +kernel
theorem dX5_inBody_134 : decode cX5_inBody 134 = .ok (.iload 4, 2) := by decide +kernel
theorem dX5_inBody_136 : decode cX5_inBody 136 = .ok (.ifCond .ne 7, 3) := by decide +kernel
theorem dX5_inBody_139 : decode cX5_inBody 139 = .ok (.iconst 0, 1) := by decide +kernel
theorem dX5_inBody_140 : decode cX5_inBody 140 = .ok (.goto 4, 3) := by decide +kernel
theorem dX5_inBody_143 : decode cX5_inBody 143 = .ok (.iload_n 2, 1) := by decide +kernel
theorem dX5_inBody_144 : decode cX5_inBody 144 = .ok (.invokevirtual 120, 3) := by decide +kernel
theorem dX5_inBody_147 : decode cX5_inBody 147 = .ok (.aload_n 0, 1) := by decide +kernel
theorem dX5_inBody_148 : decode cX5_inBody 148 = .ok (.aload_n 0, 1) := by decide +kernel
theorem dX5_inBody_149 : decode cX5_inBody 149 = .ok (.getfield 113, 3) := by decide +kernel
theorem dX5_inBody_152 : decode cX5_inBody 152 = .ok (.putfield 130, 3) := by decide +kernel
theorem dX5_inBody_155 : decode cX5_inBody 155 = .ok (.return_, 1) := by decide +kernel
theorem dX5_head_0 : decode cX5_head 0 = .ok (.aload_n 0, 1) := by decide +kernel
theorem dX5_head_1 : decode cX5_head 1 = .ok (.iconst 2, 1) := by decide +kernel
theorem dX5_head_2 : decode cX5_head 2 = .ok (.iload_n 1, 1) := by decide +kernel
theorem dX5_head_3 : decode cX5_head 3 = .ok (.invokevirtual 89, 3) := by decide +kernel
theorem dX5_head_6 : decode cX5_head 6 = .ok (.istore_n 2, 1) := by decide +kernel
theorem dX5_head_7 : decode cX5_head 7 = .ok (.iload_n 2, 1) := by decide +kernel
theorem dX5_head_8 : decode cX5_head 8 = .ok (.ifCond .eq 22, 3) := by decide +kernel
theorem dX5_head_11 : decode cX5_head 11 = .ok (.aload_n 0, 1) := by decide +kernel
theorem dX5_head_12 : decode cX5_head 12 = .ok (.iload_n 2, 1) := by decide +kernel
theorem dX5_head_13 : decode cX5_head 13 = .ok (.iload_n 1, 1) := by decide +kernel
theorem dX5_head_14 : decode cX5_head 14 = .ok (.ifCond .ne 7, 3) := by decide +kernel
theorem dX5_head_17 : decode cX5_head 17 = .ok (.iconst 0, 1) := by decide +kernel
theorem dX5_head_18 : decode cX5_head 18 = .ok (.goto 9, 3) := by decide +kernel
theorem dX5_head_21 : decode cX5_head 21 = .ok (.aload_n 0, 1) := by decide +kernel
theorem dX5_head_22 : decode cX5_head 22 = .ok (.getfield 7, 3) := by decide +kernel
theorem dX5_head_25 : decode cX5_head 25 = .ok (.iload_n 1, 1) := by decide +kernel
theorem dX5_head_26 : decode cX5_head 26 = .ok (.iaload, 1) := by decide +kernel
theorem dX5_head_27 : decode cX5_head 27 = .ok (.invokevirtual 146, 3) := by decide +kernel
theorem dX5_head_30 : decode cX5_head 30 = .ok (.return_, 1) := by decide +kernel
theorem dX5_firstSum_0 : decode cX5_firstSum 0 = .ok (.iconst 0, 1) := by decide +kernel
theorem dX5_firstSum_1 : decode cX5_firstSum 1 = .ok (.istore_n 2, 1) := by decide +kernel
theorem dX5_firstSum_2 : decode cX5_firstSum 2 = .ok (.aload_n 0, 1) := by decide +kernel
theorem dX5_firstSum_3 : decode cX5_firstSum 3 = .ok (.getfield 100, 3) := by decide +kernel
theorem dX5_firstSum_6 : decode cX5_firstSum 6 = .ok (.istore_n 3, 1) := by decide +kernel
theorem dX5_firstSum_7 : decode cX5_firstSum 7 = .ok (.iload_n 3, 1) := by decide +kernel
theorem dX5_firstSum_8 : decode cX5_firstSum 8 = .ok (.ifCond .le 25, 3) := by decide +kernel
theorem dX5_firstSum_11 : decode cX5_firstSum 11 = .ok (.aload_n 0, 1) := by decide +kernel
theorem dX5_firstSum_12 : decode cX5_firstSum 12 = .ok (.getfield 41, 3) := by decide +kernel
theorem dX5_firstSum_15 : decode cX5_firstSum 15 = .ok (.iload_n 3, 1) := by decide +kernel
theorem dX5_firstSum_16 : decode cX5_firstSum 16 = .ok (.iaload, 1) := by decide +kernel
theorem dX5_firstSum_17 : decode cX5_firstSum 17 = .ok (.iload_n 1, 1) := by decide +kernel
theorem dX5_firstSum_18 : decode cX5_firstSum 18 = .ok (.if_icmp .ne 7, 3) := by decide +kernel
theorem dX5_firstSum_21 : decode cX5_firstSum 21 = .ok (.iload_n 3, 1) := by decide +kernel
theorem dX5_firstSum_22 : decode cX5_firstSum 22 = .ok (.goto 4, 3) := by decide +kernel
theorem dX5_firstSum_25 : decode cX5_firstSum 25 = .ok (.iload_n 2, 1) := by decide +kernel
theorem dX5_firstSum_26 : decode cX5_firstSum 26 = .ok (.istore_n 2, 1) := by decide +kernel
theorem dX5_firstSum_27 : decode cX5_firstSum 27 = .ok (.iinc 3 (-1), 3) := by decide +kernel
theorem dX5_firstSum_30 : decode cX5_firstSum 30 = .ok (.goto (-23), 3) := by decide +kernel
theorem dX5_firstSum_33 : decode cX5_firstSum 33 = .ok (.iload_n 2, 1) := by decide +kernel
theorem dX5_firstSum_34 : decode cX5_firstSum 34 = .ok (.ireturn, 1) := by decide +kernel
theorem dX5_foot_0 : decode cX5_foot 0 = .ok (.aload_n 0, 1) := by decide +kernel
theorem dX5_foot_1 : decode cX5_foot 1 = .ok (.iconst 4, 1) := by decide +kernel
theorem dX5_foot_2 : decode cX5_foot 2 = .ok (.iload_n 1, 1) := by decide +kernel
theorem dX5_foot_3 : decode cX5_foot 3 = .ok (.invokevirtual 89, 3) := by decide +kernel
theorem dX5_foot_6 : decode cX5_foot 6 = .ok (.istore_n 2, 1) := by decide +kernel
theorem dX5_foot_7 : decode cX5_foot 7 = .ok (.iload_n 2, 1) := by decide +kernel
theorem dX5_foot_8 : decode cX5_foot 8 = .ok (.ifCond .eq 124, 3) := by decide +kernel
theorem dX5_foot_11 : decode cX5_foot 11 = .ok (.aload_n 0, 1) := by decide +kernel
theorem dX5_foot_12 : decode cX5_foot 12 = .ok (.iload_n 2, 1) := by decide +kernel
theorem dX5_foot_13 : decode cX5_foot 13 = .ok (.invokevirtual 150, 3) := by decide +kernel
theorem dX5_foot_16 : decode cX5_foot 16 = .ok (.istore_n 3, 1) := by decide +kernel
theorem dX5_foot_17 : decode cX5_foot 17 = .ok (.aload_n 0, 1) := by decide +kernel
theorem dX5_foot_18 : decode cX5_foot 18 = .ok (.iload_n 2, 1) := by decide +kernel
theorem dX5_foot_19 : decode cX5_foot 19 = .ok (.iload_n 3, 1) := by decide +kernel
theorem dX5_foot_20 : decode cX5_foot 20 = .ok (.ifCond .eq 13, 3) := by decide +kernel
theorem dX5_foot_23 : decode cX5_foot 23 = .ok (.aload_n 0, 1) := by decide +kernel
theorem dX5_foot_24 : decode cX5_foot 24 = .ok (.getfield 50, 3) := by decide +kernel
theorem dX5_foot_27 : decode cX5_foot 27 = .ok (.iload_n 3, 1) := by decide +kernel
theorem dX5_foot_28 : decode cX5_foot 28 = .ok (.laload, 1) := by decide +kernel
theorem dX5_foot_29 : decode cX5_foot 29 = .ok (.l2i, 1) := by decide +kernel
